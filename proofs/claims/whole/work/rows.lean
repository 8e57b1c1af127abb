section
-- ===== PART A: goes FIRST, ahead of the names: the tables' words, and 'selects' of the private methods out of them =====
/-- a private method of a class that the tables say can be made, by its rows of tables_1 -/
def lw_okq (q : MethodName × Nat) : Prop := (q.1.cls ≠ "java/lang/invoke/MethodHandle" ∧ q.1.cls ≠ "java/lang/invoke/VarHandle") ∧ Cond.instantiable q.1.cls q.2 ∈ tables_1 ∧ Cond.privateMethod q.1 ∈ tables_1 ∧ Cond.instanceMethod q.1 ∈ tables_1
theorem lw_p0 : lw_okq (⟨"DippedWaves$History", "loseOldest", "()V"⟩, 2) := ⟨⟨by decide +kernel, by decide +kernel⟩, List.mem_of_getElem? (i := 131) (by decide +kernel), List.mem_of_getElem? (i := 195) (by decide +kernel), List.mem_of_getElem? (i := 196) (by decide +kernel)⟩
theorem lw_p1 : lw_okq (⟨"DippedWaves", "isDipper", "(I)Z"⟩, 6) := ⟨⟨by decide +kernel, by decide +kernel⟩, List.mem_of_getElem? (i := 17) (by decide +kernel), List.mem_of_getElem? (i := 385) (by decide +kernel), List.mem_of_getElem? (i := 386) (by decide +kernel)⟩
theorem lw_p2 : lw_okq (⟨"DippedWaves$Tank", "nextHeight", "(I)I"⟩, 8) := ⟨⟨by decide +kernel, by decide +kernel⟩, List.mem_of_getElem? (i := 25) (by decide +kernel), List.mem_of_getElem? (i := 423) (by decide +kernel), List.mem_of_getElem? (i := 424) (by decide +kernel)⟩
theorem lw_p3 : lw_okq (⟨"DippedWaves$Tank", "rise", "(II)I"⟩, 8) := ⟨⟨by decide +kernel, by decide +kernel⟩, List.mem_of_getElem? (i := 25) (by decide +kernel), List.mem_of_getElem? (i := 431) (by decide +kernel), List.mem_of_getElem? (i := 432) (by decide +kernel)⟩
theorem lw_p4 : lw_okq (⟨"DippedWaves$Tank", "keepFirsts", "()V"⟩, 8) := ⟨⟨by decide +kernel, by decide +kernel⟩, List.mem_of_getElem? (i := 25) (by decide +kernel), List.mem_of_getElem? (i := 444) (by decide +kernel), List.mem_of_getElem? (i := 445) (by decide +kernel)⟩
theorem lw_p5 : lw_okq (⟨"DippedWaves", "isProbe", "(I)Z"⟩, 6) := ⟨⟨by decide +kernel, by decide +kernel⟩, List.mem_of_getElem? (i := 17) (by decide +kernel), List.mem_of_getElem? (i := 476) (by decide +kernel), List.mem_of_getElem? (i := 477) (by decide +kernel)⟩
theorem lw_p6 : lw_okq (⟨"DippedWaves$Probes", "differences", "(II)I"⟩, 4) := ⟨⟨by decide +kernel, by decide +kernel⟩, List.mem_of_getElem? (i := 69) (by decide +kernel), List.mem_of_getElem? (i := 484) (by decide +kernel), List.mem_of_getElem? (i := 485) (by decide +kernel)⟩
theorem lw_p7 : lw_okq (⟨"DippedWaves$Tank", "heightAt", "(II)I"⟩, 8) := ⟨⟨by decide +kernel, by decide +kernel⟩, List.mem_of_getElem? (i := 25) (by decide +kernel), List.mem_of_getElem? (i := 528) (by decide +kernel), List.mem_of_getElem? (i := 529) (by decide +kernel)⟩
theorem lw_p8 : lw_okq (⟨"DippedWaves", "loudnessWith", "(IIII)I"⟩, 6) := ⟨⟨by decide +kernel, by decide +kernel⟩, List.mem_of_getElem? (i := 17) (by decide +kernel), List.mem_of_getElem? (i := 548) (by decide +kernel), List.mem_of_getElem? (i := 549) (by decide +kernel)⟩
theorem lw_p9 : lw_okq (⟨"DippedWavesModel", "forgetFirst", "()V"⟩, 9) := ⟨⟨by decide +kernel, by decide +kernel⟩, List.mem_of_getElem? (i := 589) (by decide +kernel), List.mem_of_getElem? (i := 595) (by decide +kernel), List.mem_of_getElem? (i := 596) (by decide +kernel)⟩
theorem lw_p10 : lw_okq (⟨"DippedWavesModel", "record", "()V"⟩, 9) := ⟨⟨by decide +kernel, by decide +kernel⟩, List.mem_of_getElem? (i := 589) (by decide +kernel), List.mem_of_getElem? (i := 642) (by decide +kernel), List.mem_of_getElem? (i := 643) (by decide +kernel)⟩
theorem lw_p11 : lw_okq (⟨"DippedWavesModel", "dipperIn", "(I)I"⟩, 9) := ⟨⟨by decide +kernel, by decide +kernel⟩, List.mem_of_getElem? (i := 589) (by decide +kernel), List.mem_of_getElem? (i := 663) (by decide +kernel), List.mem_of_getElem? (i := 664) (by decide +kernel)⟩
theorem lw_p12 : lw_okq (⟨"DippedWavesModel", "ofDipper", "(II)I"⟩, 9) := ⟨⟨by decide +kernel, by decide +kernel⟩, List.mem_of_getElem? (i := 589) (by decide +kernel), List.mem_of_getElem? (i := 667) (by decide +kernel), List.mem_of_getElem? (i := 668) (by decide +kernel)⟩
theorem lw_p13 : lw_okq (⟨"DippedWavesModel", "readPad", "()I"⟩, 9) := ⟨⟨by decide +kernel, by decide +kernel⟩, List.mem_of_getElem? (i := 589) (by decide +kernel), List.mem_of_getElem? (i := 675) (by decide +kernel), List.mem_of_getElem? (i := 676) (by decide +kernel)⟩
theorem lw_p14 : lw_okq (⟨"DippedWavesModel", "calm", "()V"⟩, 9) := ⟨⟨by decide +kernel, by decide +kernel⟩, List.mem_of_getElem? (i := 589) (by decide +kernel), List.mem_of_getElem? (i := 682) (by decide +kernel), List.mem_of_getElem? (i := 683) (by decide +kernel)⟩
theorem lw_p15 : lw_okq (⟨"DippedWavesModel", "water", "()I"⟩, 9) := ⟨⟨by decide +kernel, by decide +kernel⟩, List.mem_of_getElem? (i := 589) (by decide +kernel), List.mem_of_getElem? (i := 686) (by decide +kernel), List.mem_of_getElem? (i := 687) (by decide +kernel)⟩
def lw_privs_1 : List (MethodName × Nat) := [(⟨"DippedWaves$History", "loseOldest", "()V"⟩, 2), (⟨"DippedWaves", "isDipper", "(I)Z"⟩, 6), (⟨"DippedWaves$Tank", "nextHeight", "(I)I"⟩, 8), (⟨"DippedWaves$Tank", "rise", "(II)I"⟩, 8), (⟨"DippedWaves$Tank", "keepFirsts", "()V"⟩, 8), (⟨"DippedWaves", "isProbe", "(I)Z"⟩, 6), (⟨"DippedWaves$Probes", "differences", "(II)I"⟩, 4), (⟨"DippedWaves$Tank", "heightAt", "(II)I"⟩, 8), (⟨"DippedWaves", "loudnessWith", "(IIII)I"⟩, 6), (⟨"DippedWavesModel", "forgetFirst", "()V"⟩, 9), (⟨"DippedWavesModel", "record", "()V"⟩, 9), (⟨"DippedWavesModel", "dipperIn", "(I)I"⟩, 9), (⟨"DippedWavesModel", "ofDipper", "(II)I"⟩, 9), (⟨"DippedWavesModel", "readPad", "()I"⟩, 9), (⟨"DippedWavesModel", "calm", "()V"⟩, 9), (⟨"DippedWavesModel", "water", "()I"⟩, 9)]
theorem lw_r1 : ∀ q ∈ lw_privs_1, lw_okq q := List.forall_mem_cons.mpr ⟨lw_p0, List.forall_mem_cons.mpr ⟨lw_p1, List.forall_mem_cons.mpr ⟨lw_p2, List.forall_mem_cons.mpr ⟨lw_p3, List.forall_mem_cons.mpr ⟨lw_p4, List.forall_mem_cons.mpr ⟨lw_p5, List.forall_mem_cons.mpr ⟨lw_p6, List.forall_mem_cons.mpr ⟨lw_p7, List.forall_mem_cons.mpr ⟨lw_p8, List.forall_mem_cons.mpr ⟨lw_p9, List.forall_mem_cons.mpr ⟨lw_p10, List.forall_mem_cons.mpr ⟨lw_p11, List.forall_mem_cons.mpr ⟨lw_p12, List.forall_mem_cons.mpr ⟨lw_p13, List.forall_mem_cons.mpr ⟨lw_p14, List.forall_mem_cons.mpr ⟨lw_p15, fun _ h => absurd h List.not_mem_nil⟩⟩⟩⟩⟩⟩⟩⟩⟩⟩⟩⟩⟩⟩⟩⟩
theorem lw_p16 : lw_okq (⟨"DippedWavesModel", "isWall", "(I)Z"⟩, 9) := ⟨⟨by decide +kernel, by decide +kernel⟩, List.mem_of_getElem? (i := 589) (by decide +kernel), List.mem_of_getElem? (i := 690) (by decide +kernel), List.mem_of_getElem? (i := 691) (by decide +kernel)⟩
theorem lw_p17 : lw_okq (⟨"DippedWavesModel", "allSizes", "()I"⟩, 9) := ⟨⟨by decide +kernel, by decide +kernel⟩, List.mem_of_getElem? (i := 589) (by decide +kernel), List.mem_of_getElem? (i := 698) (by decide +kernel), List.mem_of_getElem? (i := 699) (by decide +kernel)⟩
theorem lw_p18 : lw_okq (⟨"DippedWavesModel", "now", "(I)I"⟩, 9) := ⟨⟨by decide +kernel, by decide +kernel⟩, List.mem_of_getElem? (i := 589) (by decide +kernel), List.mem_of_getElem? (i := 702) (by decide +kernel), List.mem_of_getElem? (i := 703) (by decide +kernel)⟩
theorem lw_p19 : lw_okq (⟨"DippedWavesModel", "isDipper", "(I)Z"⟩, 9) := ⟨⟨by decide +kernel, by decide +kernel⟩, List.mem_of_getElem? (i := 589) (by decide +kernel), List.mem_of_getElem? (i := 717) (by decide +kernel), List.mem_of_getElem? (i := 718) (by decide +kernel)⟩
theorem lw_p20 : lw_okq (⟨"DippedWavesModel", "ticks", "(I)V"⟩, 9) := ⟨⟨by decide +kernel, by decide +kernel⟩, List.mem_of_getElem? (i := 589) (by decide +kernel), List.mem_of_getElem? (i := 737) (by decide +kernel), List.mem_of_getElem? (i := 738) (by decide +kernel)⟩
theorem lw_p21 : lw_okq (⟨"DippedWavesModel", "tick", "()V"⟩, 9) := ⟨⟨by decide +kernel, by decide +kernel⟩, List.mem_of_getElem? (i := 589) (by decide +kernel), List.mem_of_getElem? (i := 741) (by decide +kernel), List.mem_of_getElem? (i := 742) (by decide +kernel)⟩
theorem lw_p22 : lw_okq (⟨"DippedWavesModel", "heightThen", "(I)I"⟩, 9) := ⟨⟨by decide +kernel, by decide +kernel⟩, List.mem_of_getElem? (i := 589) (by decide +kernel), List.mem_of_getElem? (i := 745) (by decide +kernel), List.mem_of_getElem? (i := 746) (by decide +kernel)⟩
theorem lw_p23 : lw_okq (⟨"DippedWavesModel", "isUp", "(I)Z"⟩, 9) := ⟨⟨by decide +kernel, by decide +kernel⟩, List.mem_of_getElem? (i := 589) (by decide +kernel), List.mem_of_getElem? (i := 749) (by decide +kernel), List.mem_of_getElem? (i := 750) (by decide +kernel)⟩
theorem lw_p24 : lw_okq (⟨"DippedWavesModel", "slope", "(I)I"⟩, 9) := ⟨⟨by decide +kernel, by decide +kernel⟩, List.mem_of_getElem? (i := 589) (by decide +kernel), List.mem_of_getElem? (i := 753) (by decide +kernel), List.mem_of_getElem? (i := 754) (by decide +kernel)⟩
theorem lw_p25 : lw_okq (⟨"DippedWavesModel", "from", "(III)I"⟩, 9) := ⟨⟨by decide +kernel, by decide +kernel⟩, List.mem_of_getElem? (i := 589) (by decide +kernel), List.mem_of_getElem? (i := 757) (by decide +kernel), List.mem_of_getElem? (i := 758) (by decide +kernel)⟩
theorem lw_p26 : lw_okq (⟨"DippedWavesModel", "see", "(I)V"⟩, 9) := ⟨⟨by decide +kernel, by decide +kernel⟩, List.mem_of_getElem? (i := 589) (by decide +kernel), List.mem_of_getElem? (i := 761) (by decide +kernel), List.mem_of_getElem? (i := 762) (by decide +kernel)⟩
theorem lw_p27 : lw_okq (⟨"DippedWavesModel", "stillOnes", "()I"⟩, 9) := ⟨⟨by decide +kernel, by decide +kernel⟩, List.mem_of_getElem? (i := 589) (by decide +kernel), List.mem_of_getElem? (i := 765) (by decide +kernel), List.mem_of_getElem? (i := 766) (by decide +kernel)⟩
theorem lw_p28 : lw_okq (⟨"DippedWavesModel", "isStill", "(I)Z"⟩, 9) := ⟨⟨by decide +kernel, by decide +kernel⟩, List.mem_of_getElem? (i := 589) (by decide +kernel), List.mem_of_getElem? (i := 769) (by decide +kernel), List.mem_of_getElem? (i := 770) (by decide +kernel)⟩
theorem lw_p29 : lw_okq (⟨"DippedWavesModel", "isProbe", "(I)Z"⟩, 9) := ⟨⟨by decide +kernel, by decide +kernel⟩, List.mem_of_getElem? (i := 589) (by decide +kernel), List.mem_of_getElem? (i := 785) (by decide +kernel), List.mem_of_getElem? (i := 786) (by decide +kernel)⟩
theorem lw_p30 : lw_okq (⟨"DippedWavesModel", "seenMany", "(I)I"⟩, 9) := ⟨⟨by decide +kernel, by decide +kernel⟩, List.mem_of_getElem? (i := 589) (by decide +kernel), List.mem_of_getElem? (i := 789) (by decide +kernel), List.mem_of_getElem? (i := 790) (by decide +kernel)⟩
theorem lw_p31 : lw_okq (⟨"DippedWavesModel", "beat", "(I)I"⟩, 9) := ⟨⟨by decide +kernel, by decide +kernel⟩, List.mem_of_getElem? (i := 589) (by decide +kernel), List.mem_of_getElem? (i := 793) (by decide +kernel), List.mem_of_getElem? (i := 794) (by decide +kernel)⟩
def lw_privs_2 : List (MethodName × Nat) := [(⟨"DippedWavesModel", "isWall", "(I)Z"⟩, 9), (⟨"DippedWavesModel", "allSizes", "()I"⟩, 9), (⟨"DippedWavesModel", "now", "(I)I"⟩, 9), (⟨"DippedWavesModel", "isDipper", "(I)Z"⟩, 9), (⟨"DippedWavesModel", "ticks", "(I)V"⟩, 9), (⟨"DippedWavesModel", "tick", "()V"⟩, 9), (⟨"DippedWavesModel", "heightThen", "(I)I"⟩, 9), (⟨"DippedWavesModel", "isUp", "(I)Z"⟩, 9), (⟨"DippedWavesModel", "slope", "(I)I"⟩, 9), (⟨"DippedWavesModel", "from", "(III)I"⟩, 9), (⟨"DippedWavesModel", "see", "(I)V"⟩, 9), (⟨"DippedWavesModel", "stillOnes", "()I"⟩, 9), (⟨"DippedWavesModel", "isStill", "(I)Z"⟩, 9), (⟨"DippedWavesModel", "isProbe", "(I)Z"⟩, 9), (⟨"DippedWavesModel", "seenMany", "(I)I"⟩, 9), (⟨"DippedWavesModel", "beat", "(I)I"⟩, 9)]
theorem lw_r2 : ∀ q ∈ lw_privs_2, lw_okq q := List.forall_mem_cons.mpr ⟨lw_p16, List.forall_mem_cons.mpr ⟨lw_p17, List.forall_mem_cons.mpr ⟨lw_p18, List.forall_mem_cons.mpr ⟨lw_p19, List.forall_mem_cons.mpr ⟨lw_p20, List.forall_mem_cons.mpr ⟨lw_p21, List.forall_mem_cons.mpr ⟨lw_p22, List.forall_mem_cons.mpr ⟨lw_p23, List.forall_mem_cons.mpr ⟨lw_p24, List.forall_mem_cons.mpr ⟨lw_p25, List.forall_mem_cons.mpr ⟨lw_p26, List.forall_mem_cons.mpr ⟨lw_p27, List.forall_mem_cons.mpr ⟨lw_p28, List.forall_mem_cons.mpr ⟨lw_p29, List.forall_mem_cons.mpr ⟨lw_p30, List.forall_mem_cons.mpr ⟨lw_p31, fun _ h => absurd h List.not_mem_nil⟩⟩⟩⟩⟩⟩⟩⟩⟩⟩⟩⟩⟩⟩⟩⟩
theorem lw_p32 : lw_okq (⟨"DippedWavesModel", "seenBy", "(II)I"⟩, 9) := ⟨⟨by decide +kernel, by decide +kernel⟩, List.mem_of_getElem? (i := 589) (by decide +kernel), List.mem_of_getElem? (i := 797) (by decide +kernel), List.mem_of_getElem? (i := 798) (by decide +kernel)⟩
theorem lw_p33 : lw_okq (⟨"DippedWavesModel", "greatestSeen", "(I)I"⟩, 9) := ⟨⟨by decide +kernel, by decide +kernel⟩, List.mem_of_getElem? (i := 589) (by decide +kernel), List.mem_of_getElem? (i := 801) (by decide +kernel), List.mem_of_getElem? (i := 802) (by decide +kernel)⟩
theorem lw_p34 : lw_okq (⟨"DippedWavesModel", "sum", "()I"⟩, 9) := ⟨⟨by decide +kernel, by decide +kernel⟩, List.mem_of_getElem? (i := 589) (by decide +kernel), List.mem_of_getElem? (i := 813) (by decide +kernel), List.mem_of_getElem? (i := 814) (by decide +kernel)⟩
theorem lw_p35 : lw_okq (⟨"DippedWavesModel", "greatest", "()I"⟩, 9) := ⟨⟨by decide +kernel, by decide +kernel⟩, List.mem_of_getElem? (i := 589) (by decide +kernel), List.mem_of_getElem? (i := 818) (by decide +kernel), List.mem_of_getElem? (i := 819) (by decide +kernel)⟩
theorem lw_p36 : lw_okq (⟨"DippedWavesModel", "come", "()I"⟩, 9) := ⟨⟨by decide +kernel, by decide +kernel⟩, List.mem_of_getElem? (i := 589) (by decide +kernel), List.mem_of_getElem? (i := 822) (by decide +kernel), List.mem_of_getElem? (i := 823) (by decide +kernel)⟩
theorem lw_p37 : lw_okq (⟨"DippedWavesModel", "heightAt", "(II)I"⟩, 9) := ⟨⟨by decide +kernel, by decide +kernel⟩, List.mem_of_getElem? (i := 589) (by decide +kernel), List.mem_of_getElem? (i := 834) (by decide +kernel), List.mem_of_getElem? (i := 835) (by decide +kernel)⟩
theorem lw_p38 : lw_okq (⟨"DippedWavesModel", "putAside", "()V"⟩, 9) := ⟨⟨by decide +kernel, by decide +kernel⟩, List.mem_of_getElem? (i := 589) (by decide +kernel), List.mem_of_getElem? (i := 842) (by decide +kernel), List.mem_of_getElem? (i := 843) (by decide +kernel)⟩
theorem lw_p39 : lw_okq (⟨"DippedWavesModel", "bringBack", "()V"⟩, 9) := ⟨⟨by decide +kernel, by decide +kernel⟩, List.mem_of_getElem? (i := 589) (by decide +kernel), List.mem_of_getElem? (i := 846) (by decide +kernel), List.mem_of_getElem? (i := 847) (by decide +kernel)⟩
def lw_privs_3 : List (MethodName × Nat) := [(⟨"DippedWavesModel", "seenBy", "(II)I"⟩, 9), (⟨"DippedWavesModel", "greatestSeen", "(I)I"⟩, 9), (⟨"DippedWavesModel", "sum", "()I"⟩, 9), (⟨"DippedWavesModel", "greatest", "()I"⟩, 9), (⟨"DippedWavesModel", "come", "()I"⟩, 9), (⟨"DippedWavesModel", "heightAt", "(II)I"⟩, 9), (⟨"DippedWavesModel", "putAside", "()V"⟩, 9), (⟨"DippedWavesModel", "bringBack", "()V"⟩, 9)]
theorem lw_r3 : ∀ q ∈ lw_privs_3, lw_okq q := List.forall_mem_cons.mpr ⟨lw_p32, List.forall_mem_cons.mpr ⟨lw_p33, List.forall_mem_cons.mpr ⟨lw_p34, List.forall_mem_cons.mpr ⟨lw_p35, List.forall_mem_cons.mpr ⟨lw_p36, List.forall_mem_cons.mpr ⟨lw_p37, List.forall_mem_cons.mpr ⟨lw_p38, List.forall_mem_cons.mpr ⟨lw_p39, fun _ h => absurd h List.not_mem_nil⟩⟩⟩⟩⟩⟩⟩⟩
def lw_privs : List (MethodName × Nat) := lw_privs_1 ++ (lw_privs_2 ++ (lw_privs_3))
def lw_tbl : List Cond := k2_sels lw_privs ++ tables_1
theorem lw_privs_ok : ∀ q ∈ lw_privs, lw_okq q := by
  show ∀ q ∈ lw_privs_1 ++ (lw_privs_2 ++ (lw_privs_3)), lw_okq q
  exact List.forall_mem_append.mpr ⟨lw_r1, List.forall_mem_append.mpr ⟨lw_r2, lw_r3⟩⟩
-- ===== end of PART A; then your names; then what follows =====
/-! ===== BEGIN words of one list among another's, by their places ===== -/
theorem goodIn_r {big : List Cond} (ws : List Cond) (ps : List Nat) (hp : ws = ps.filterMap (fun i => big[i]?)) (h : ws.all goodWord = true) : GoodIn big ws := by
  intro w hw
  have h1 := List.all_eq_true.mp h w hw
  rw [hp] at hw
  obtain ⟨i, -, hi⟩ := List.mem_filterMap.mp hw
  have hm : w ∈ big := by first | exact List.mem_of_getElem? hi | exact List.getElem?_mem hi
  exact ⟨hm, good_of_word h1⟩
theorem goodIn_app {big a b : List Cond} (ha : GoodIn big a) (hb : GoodIn big b) : GoodIn big (a ++ b) := fun w h => (List.mem_append.mp h).elim (ha w) (hb w)
theorem goodIn_ca {big a b : List Cond} {c : Cond} (ha : GoodIn big (c :: a)) (hb : GoodIn big b) : GoodIn big (c :: (a ++ b)) := fun w h => (List.mem_cons.mp h).elim (fun e => ha w (List.mem_cons.mpr (Or.inl e))) (fun h => (List.mem_append.mp h).elim (fun h => ha w (List.mem_cons.mpr (Or.inr h))) (hb w))
theorem goodIn_sub {big ws : List Cond} (hm : ∀ w ∈ ws, w ∈ big) (h : ws.all goodWord = true) : GoodIn big ws := fun w hw => ⟨hm w hw, good_of_word (List.all_eq_true.mp h w hw)⟩
/-! ===== END ===== -/

def RX0 : String := "DippedWaves$Dippers"
def TX0 : u_T := fun k => match k with
  | 0 => ("DippedWaves$Dippers", "cells", "[I", true)
  | 1 => ("DippedWaves$Dippers", "periods", "[I", true)
  | 2 => ("DippedWaves$Dippers", "sizes", "[I", true)
  | 3 => ("DippedWaves$Dippers", "shifts", "[I", true)
  | _ => ("DippedWaves$Dippers", "many", "I", false)
def tyX0 : Nat → FieldType := fun k => match k with
  | 0 => .array .int
  | 1 => .array .int
  | 2 => .array .int
  | 3 => .array .int
  | _ => .int
abbrev wsX00 : List Cond := u_ws RX0 TX0 5
theorem nmX0 : ∀ a, a < 5 → ∀ b, b < 5 → a ≠ b → (TX0 a).2.1 ≠ (TX0 b).2.1 := by decide +kernel
theorem tyX0_ok : ∀ k, k < 5 → parseFieldDescriptor (TX0 k).2.2.1 = some (tyX0 k) := by decide +kernel
abbrev cX0_init : ByteArray := prog_2_method_1_code
def yX0_init : MethodName := ⟨RX0, "<init>", "()V"⟩
abbrev cX0_become : ByteArray := prog_2_method_2_code
def yX0_become : MethodName := ⟨RX0, "become", "(LDippedWaves$Dippers;)V"⟩
abbrev cX0_append : ByteArray := prog_2_method_3_code
def yX0_append : MethodName := ⟨RX0, "append", "(IIII)I"⟩
abbrev cX0_remove : ByteArray := prog_2_method_4_code
def yX0_remove : MethodName := ⟨RX0, "remove", "(I)V"⟩
abbrev cX0_isUp : ByteArray := prog_2_method_5_code
def yX0_isUp : MethodName := ⟨RX0, "isUp", "(II)Z"⟩
abbrev cX0_beat : ByteArray := prog_2_method_6_code
def yX0_beat : MethodName := ⟨RX0, "beat", "([II)V"⟩
abbrev cX0_lastIn : ByteArray := prog_2_method_7_code
def yX0_lastIn : MethodName := ⟨RX0, "lastIn", "(I)I"⟩
def RX1 : String := "DippedWaves$History"
def TX1 : u_T := fun k => match k with
  | 0 => ("DippedWaves$History", "states", "[LDippedWaves$Tank;", true)
  | _ => ("DippedWaves$History", "many", "I", false)
def tyX1 : Nat → FieldType := fun k => match k with
  | 0 => .array (.object "DippedWaves$Tank")
  | _ => .int
abbrev wsX10 : List Cond := u_ws RX1 TX1 2
theorem nmX1 : ∀ a, a < 2 → ∀ b, b < 2 → a ≠ b → (TX1 a).2.1 ≠ (TX1 b).2.1 := by decide +kernel
theorem tyX1_ok : ∀ k, k < 2 → parseFieldDescriptor (TX1 k).2.2.1 = some (tyX1 k) := by decide +kernel
abbrev cX1_init : ByteArray := prog_3_method_1_code
def yX1_init : MethodName := ⟨RX1, "<init>", "()V"⟩
abbrev cX1_keep : ByteArray := prog_3_method_2_code
def yX1_keep : MethodName := ⟨RX1, "keep", "(LDippedWaves$Tank;)V"⟩
abbrev cX1_loseOldest : ByteArray := prog_3_method_3_code
def yX1_loseOldest : MethodName := ⟨RX1, "loseOldest", "()V"⟩
abbrev cX1_giveBack : ByteArray := prog_3_method_4_code
def yX1_giveBack : MethodName := ⟨RX1, "giveBack", "(LDippedWaves$Tank;)V"⟩
def RX2 : String := "DippedWaves$Pad"
def TX2 : u_T := fun k => match k with
  | 0 => ("DippedWaves$Pad", "signs", "[C", true)
  | _ => ("DippedWaves$Pad", "length", "I", false)
def tyX2 : Nat → FieldType := fun k => match k with
  | 0 => .array .char
  | _ => .int
abbrev wsX20 : List Cond := u_ws RX2 TX2 2
theorem nmX2 : ∀ a, a < 2 → ∀ b, b < 2 → a ≠ b → (TX2 a).2.1 ≠ (TX2 b).2.1 := by decide +kernel
theorem tyX2_ok : ∀ k, k < 2 → parseFieldDescriptor (TX2 k).2.2.1 = some (tyX2 k) := by decide +kernel
abbrev cX2_init : ByteArray := prog_4_method_1_code
def yX2_init : MethodName := ⟨RX2, "<init>", "()V"⟩
abbrev cX2_charactersIn : ByteArray := prog_4_method_2_code
def yX2_charactersIn : MethodName := ⟨RX2, "charactersIn", "(J)I"⟩
abbrev cX2_append : ByteArray := prog_4_method_3_code
def yX2_append : MethodName := ⟨RX2, "append", "(JI)V"⟩
abbrev cX2_firstFault : ByteArray := prog_4_method_4_code
def yX2_firstFault : MethodName := ⟨RX2, "firstFault", "()I"⟩
abbrev cX2_canStand : ByteArray := prog_4_method_5_code
def yX2_canStand : MethodName := ⟨RX2, "canStand", "(CI)Z"⟩
abbrev cX2_floorOf : ByteArray := prog_4_method_6_code
def yX2_floorOf : MethodName := ⟨RX2, "floorOf", "(I)I"⟩
def RX3 : String := "DippedWaves$Probes"
def TX3 : u_T := fun k => match k with
  | 0 => ("DippedWaves$Probes", "cells", "[I", true)
  | 1 => ("DippedWaves$Probes", "lengths", "[I", true)
  | 2 => ("DippedWaves$Probes", "heights", "[[I", true)
  | _ => ("DippedWaves$Probes", "many", "I", false)
def tyX3 : Nat → FieldType := fun k => match k with
  | 0 => .array .int
  | 1 => .array .int
  | 2 => .array (.array .int)
  | _ => .int
abbrev wsX30 : List Cond := u_ws RX3 TX3 4
theorem nmX3 : ∀ a, a < 4 → ∀ b, b < 4 → a ≠ b → (TX3 a).2.1 ≠ (TX3 b).2.1 := by decide +kernel
theorem tyX3_ok : ∀ k, k < 4 → parseFieldDescriptor (TX3 k).2.2.1 = some (tyX3 k) := by decide +kernel
abbrev cX3_init : ByteArray := prog_5_method_1_code
def yX3_init : MethodName := ⟨RX3, "<init>", "()V"⟩
abbrev cX3_become : ByteArray := prog_5_method_2_code
def yX3_become : MethodName := ⟨RX3, "become", "(LDippedWaves$Probes;)V"⟩
abbrev cX3_append : ByteArray := prog_5_method_3_code
def yX3_append : MethodName := ⟨RX3, "append", "(I)I"⟩
abbrev cX3_forget : ByteArray := prog_5_method_4_code
def yX3_forget : MethodName := ⟨RX3, "forget", "()V"⟩
abbrev cX3_look : ByteArray := prog_5_method_5_code
def yX3_look : MethodName := ⟨RX3, "look", "([I)V"⟩
abbrev cX3_greatestOf : ByteArray := prog_5_method_6_code
def yX3_greatestOf : MethodName := ⟨RX3, "greatestOf", "(I)I"⟩
abbrev cX3_beatOf : ByteArray := prog_5_method_7_code
def yX3_beatOf : MethodName := ⟨RX3, "beatOf", "(I)I"⟩
abbrev cX3_differences : ByteArray := prog_5_method_8_code
def yX3_differences : MethodName := ⟨RX3, "differences", "(II)I"⟩
def RX4 : String := "DippedWaves$Tank"
def TX4 : u_T := fun k => match k with
  | 0 => ("DippedWaves$Tank", "settings", "[I", true)
  | 1 => ("DippedWaves$Tank", "floors", "[I", true)
  | 2 => ("DippedWaves$Tank", "heights", "[I", false)
  | 3 => ("DippedWaves$Tank", "ahead", "[I", false)
  | 4 => ("DippedWaves$Tank", "firsts", "[I", true)
  | 5 => ("DippedWaves$Tank", "dippers", "LDippedWaves$Dippers;", true)
  | 6 => ("DippedWaves$Tank", "probes", "LDippedWaves$Probes;", true)
  | _ => ("DippedWaves$Tank", "tick", "I", false)
def tyX4 : Nat → FieldType := fun k => match k with
  | 0 => .array .int
  | 1 => .array .int
  | 2 => .array .int
  | 3 => .array .int
  | 4 => .array .int
  | 5 => .object "DippedWaves$Dippers"
  | 6 => .object "DippedWaves$Probes"
  | _ => .int
abbrev wsX40 : List Cond := u_ws RX4 TX4 8
theorem nmX4 : ∀ a, a < 8 → ∀ b, b < 8 → a ≠ b → (TX4 a).2.1 ≠ (TX4 b).2.1 := by decide +kernel
theorem tyX4_ok : ∀ k, k < 8 → parseFieldDescriptor (TX4 k).2.2.1 = some (tyX4 k) := by decide +kernel
abbrev cX4_init : ByteArray := prog_6_method_1_code
def yX4_init : MethodName := ⟨RX4, "<init>", "()V"⟩
abbrev cX4_become : ByteArray := prog_6_method_2_code
def yX4_become : MethodName := ⟨RX4, "become", "(LDippedWaves$Tank;)V"⟩
abbrev cX4_lay : ByteArray := prog_6_method_3_code
def yX4_lay : MethodName := ⟨RX4, "lay", "(II)V"⟩
abbrev cX4_layAll : ByteArray := prog_6_method_4_code
def yX4_layAll : MethodName := ⟨RX4, "layAll", "(LDippedWaves$Pad;)V"⟩
abbrev cX4_calm : ByteArray := prog_6_method_5_code
def yX4_calm : MethodName := ⟨RX4, "calm", "()V"⟩
abbrev cX4_run : ByteArray := prog_6_method_6_code
def yX4_run : MethodName := ⟨RX4, "run", "(I)V"⟩
abbrev cX4_step : ByteArray := prog_6_method_7_code
def yX4_step : MethodName := ⟨RX4, "step", "()V"⟩
abbrev cX4_nextHeight : ByteArray := prog_6_method_8_code
def yX4_nextHeight : MethodName := ⟨RX4, "nextHeight", "(I)I"⟩
abbrev cX4_keepFirsts : ByteArray := prog_6_method_9_code
def yX4_keepFirsts : MethodName := ⟨RX4, "keepFirsts", "()V"⟩
abbrev cX4_slopeAt : ByteArray := prog_6_method_10_code
def yX4_slopeAt : MethodName := ⟨RX4, "slopeAt", "(I)I"⟩
abbrev cX4_rise : ByteArray := prog_6_method_11_code
def yX4_rise : MethodName := ⟨RX4, "rise", "(II)I"⟩
abbrev cX4_heightAt : ByteArray := prog_6_method_12_code
def yX4_heightAt : MethodName := ⟨RX4, "heightAt", "(II)I"⟩
abbrev cX4_loudnessOf : ByteArray := prog_6_method_13_code
def yX4_loudnessOf : MethodName := ⟨RX4, "loudnessOf", "(I)I"⟩
abbrev cX4_isStill : ByteArray := prog_6_method_14_code
def yX4_isStill : MethodName := ⟨RX4, "isStill", "(I)Z"⟩
abbrev cX4_isCrest : ByteArray := prog_6_method_15_code
def yX4_isCrest : MethodName := ⟨RX4, "isCrest", "(II)Z"⟩
abbrev cX4_openCells : ByteArray := prog_6_method_16_code
def yX4_openCells : MethodName := ⟨RX4, "openCells", "()I"⟩
abbrev cX4_restlessCells : ByteArray := prog_6_method_17_code
def yX4_restlessCells : MethodName := ⟨RX4, "restlessCells", "()I"⟩
abbrev cX4_reachedCells : ByteArray := prog_6_method_18_code
def yX4_reachedCells : MethodName := ⟨RX4, "reachedCells", "()I"⟩
abbrev cX4_sum : ByteArray := prog_6_method_19_code
def yX4_sum : MethodName := ⟨RX4, "sum", "()I"⟩
abbrev cX4_loudness : ByteArray := prog_6_method_20_code
def yX4_loudness : MethodName := ⟨RX4, "loudness", "()I"⟩
abbrev cX4_loudestCell : ByteArray := prog_6_method_21_code
def yX4_loudestCell : MethodName := ⟨RX4, "loudestCell", "()I"⟩
def RX5 : String := "DippedWaves"
def TX5 : u_T := fun k => match k with
  | 0 => ("DippedWaves", "tank", "LDippedWaves$Tank;", true)
  | 1 => ("DippedWaves", "trial", "LDippedWaves$Tank;", true)
  | 2 => ("DippedWaves", "history", "LDippedWaves$History;", true)
  | 3 => ("DippedWaves", "slots", "[LDippedWaves$Tank;", true)
  | 4 => ("DippedWaves", "saved", "[Z", true)
  | _ => ("DippedWaves", "pad", "LDippedWaves$Pad;", true)
def tyX5 : Nat → FieldType := fun k => match k with
  | 0 => .object "DippedWaves$Tank"
  | 1 => .object "DippedWaves$Tank"
  | 2 => .object "DippedWaves$History"
  | 3 => .array (.object "DippedWaves$Tank")
  | 4 => .array .boolean
  | _ => .object "DippedWaves$Pad"
abbrev wsX50 : List Cond := u_ws RX5 TX5 6
theorem nmX5 : ∀ a, a < 6 → ∀ b, b < 6 → a ≠ b → (TX5 a).2.1 ≠ (TX5 b).2.1 := by decide +kernel
theorem tyX5_ok : ∀ k, k < 6 → parseFieldDescriptor (TX5 k).2.2.1 = some (tyX5 k) := by decide +kernel
abbrev cX5_init : ByteArray := prog_1_method_1_code
def yX5_init : MethodName := ⟨RX5, "<init>", "()V"⟩
abbrev cX5_set : ByteArray := prog_1_method_2_code
def yX5_set : MethodName := ⟨RX5, "set", "(II)I"⟩
abbrev cX5_floor : ByteArray := prog_1_method_3_code
def yX5_floor : MethodName := ⟨RX5, "floor", "(III)I"⟩
abbrev cX5_read : ByteArray := prog_1_method_4_code
def yX5_read : MethodName := ⟨RX5, "read", "()I"⟩
abbrev cX5_clear : ByteArray := prog_1_method_5_code
def yX5_clear : MethodName := ⟨RX5, "clear", "()I"⟩
abbrev cX5_dip : ByteArray := prog_1_method_6_code
def yX5_dip : MethodName := ⟨RX5, "dip", "(IIIII)I"⟩
abbrev cX5_takeOut : ByteArray := prog_1_method_7_code
def yX5_takeOut : MethodName := ⟨RX5, "takeOut", "(I)I"⟩
abbrev cX5_drop : ByteArray := prog_1_method_8_code
def yX5_drop : MethodName := ⟨RX5, "drop", "(III)I"⟩
abbrev cX5_probe : ByteArray := prog_1_method_9_code
def yX5_probe : MethodName := ⟨RX5, "probe", "(II)I"⟩
abbrev cX5_pass : ByteArray := prog_1_method_10_code
def yX5_pass : MethodName := ⟨RX5, "pass", "(I)I"⟩
abbrev cX5_cell : ByteArray := prog_1_method_11_code
def yX5_cell : MethodName := ⟨RX5, "cell", "(III)I"⟩
abbrev cX5_dipper : ByteArray := prog_1_method_12_code
def yX5_dipper : MethodName := ⟨RX5, "dipper", "(II)I"⟩
abbrev cX5_ofProbe : ByteArray := prog_1_method_13_code
def yX5_ofProbe : MethodName := ⟨RX5, "ofProbe", "(II)I"⟩
abbrev cX5_seen : ByteArray := prog_1_method_14_code
def yX5_seen : MethodName := ⟨RX5, "seen", "(II)I"⟩
abbrev cX5_count : ByteArray := prog_1_method_15_code
def yX5_count : MethodName := ⟨RX5, "count", "(I)I"⟩
abbrev cX5_loudest : ByteArray := prog_1_method_16_code
def yX5_loudest : MethodName := ⟨RX5, "loudest", "(I)I"⟩
abbrev cX5_crests : ByteArray := prog_1_method_17_code
def yX5_crests : MethodName := ⟨RX5, "crests", "(I)I"⟩
abbrev cX5_ifPassed : ByteArray := prog_1_method_18_code
def yX5_ifPassed : MethodName := ⟨RX5, "ifPassed", "(III)I"⟩
abbrev cX5_comes : ByteArray := prog_1_method_19_code
def yX5_comes : MethodName := ⟨RX5, "comes", "(II)I"⟩
abbrev cX5_hush : ByteArray := prog_1_method_20_code
def yX5_hush : MethodName := ⟨RX5, "hush", "(IIIII)I"⟩
abbrev cX5_put : ByteArray := prog_1_method_21_code
def yX5_put : MethodName := ⟨RX5, "put", "(J)I"⟩
abbrev cX5_wipe : ByteArray := prog_1_method_22_code
def yX5_wipe : MethodName := ⟨RX5, "wipe", "()I"⟩
abbrev cX5_fault : ByteArray := prog_1_method_23_code
def yX5_fault : MethodName := ⟨RX5, "fault", "()I"⟩
abbrev cX5_undo : ByteArray := prog_1_method_24_code
def yX5_undo : MethodName := ⟨RX5, "undo", "()I"⟩
abbrev cX5_save : ByteArray := prog_1_method_25_code
def yX5_save : MethodName := ⟨RX5, "save", "(I)I"⟩
abbrev cX5_restore : ByteArray := prog_1_method_26_code
def yX5_restore : MethodName := ⟨RX5, "restore", "(I)I"⟩
abbrev cX5_loudnessWith : ByteArray := prog_1_method_27_code
def yX5_loudnessWith : MethodName := ⟨RX5, "loudnessWith", "(IIII)I"⟩
abbrev cX5_isDipper : ByteArray := prog_1_method_28_code
def yX5_isDipper : MethodName := ⟨RX5, "isDipper", "(I)Z"⟩
abbrev cX5_isProbe : ByteArray := prog_1_method_29_code
def yX5_isProbe : MethodName := ⟨RX5, "isProbe", "(I)Z"⟩
abbrev cX5_isIn : ByteArray := prog_1_method_30_code
def yX5_isIn : MethodName := ⟨RX5, "isIn", "(III)Z"⟩
abbrev cX5_isCell : ByteArray := prog_1_method_31_code
def yX5_isCell : MethodName := ⟨RX5, "isCell", "(II)Z"⟩
abbrev cX5_placeOf : ByteArray := prog_1_method_32_code
def yX5_placeOf : MethodName := ⟨RX5, "placeOf", "(II)I"⟩
abbrev cX5_bounded : ByteArray := prog_1_method_33_code
def yX5_bounded : MethodName := ⟨RX5, "bounded", "(I)I"⟩
def RX6 : String := "DippedWavesModel"
def TX6 : u_T := fun k => match k with
  | 0 => ("DippedWavesModel", "z", "[I", true)
  | 1 => ("DippedWavesModel", "past", "[I", true)
  | 2 => ("DippedWavesModel", "slots", "[I", true)
  | 3 => ("DippedWavesModel", "isSaved", "[Z", true)
  | 4 => ("DippedWavesModel", "pastMany", "I", false)
  | 5 => ("DippedWavesModel", "spare", "[I", true)
  | 6 => ("DippedWavesModel", "pad", "[C", true)
  | 7 => ("DippedWavesModel", "typed", "I", false)
  | _ => ("DippedWavesModel", "then", "[I", true)
def tyX6 : Nat → FieldType := fun k => match k with
  | 0 => .array .int
  | 1 => .array .int
  | 2 => .array .int
  | 3 => .array .boolean
  | 4 => .int
  | 5 => .array .int
  | 6 => .array .char
  | 7 => .int
  | _ => .array .int
abbrev wsX60 : List Cond := u_ws RX6 TX6 9
theorem nmX6 : ∀ a, a < 9 → ∀ b, b < 9 → a ≠ b → (TX6 a).2.1 ≠ (TX6 b).2.1 := by decide +kernel
theorem tyX6_ok : ∀ k, k < 9 → parseFieldDescriptor (TX6 k).2.2.1 = some (tyX6 k) := by decide +kernel
abbrev cX6_init : ByteArray := prog_8_method_1_code
def yX6_init : MethodName := ⟨RX6, "<init>", "()V"⟩
abbrev cX6_in : ByteArray := prog_8_method_2_code
def yX6_in : MethodName := ⟨RX6, "in", "(III)Z"⟩
abbrev cX6_isCell : ByteArray := prog_8_method_3_code
def yX6_isCell : MethodName := ⟨RX6, "isCell", "(II)Z"⟩
abbrev cX6_isWall : ByteArray := prog_8_method_4_code
def yX6_isWall : MethodName := ⟨RX6, "isWall", "(I)Z"⟩
abbrev cX6_isDipper : ByteArray := prog_8_method_5_code
def yX6_isDipper : MethodName := ⟨RX6, "isDipper", "(I)Z"⟩
abbrev cX6_isProbe : ByteArray := prog_8_method_6_code
def yX6_isProbe : MethodName := ⟨RX6, "isProbe", "(I)Z"⟩
abbrev cX6_ofDipper : ByteArray := prog_8_method_7_code
def yX6_ofDipper : MethodName := ⟨RX6, "ofDipper", "(II)I"⟩
abbrev cX6_now : ByteArray := prog_8_method_8_code
def yX6_now : MethodName := ⟨RX6, "now", "(I)I"⟩
abbrev cX6_size : ByteArray := prog_8_method_9_code
def yX6_size : MethodName := ⟨RX6, "size", "(I)I"⟩
abbrev cX6_kept : ByteArray := prog_8_method_10_code
def yX6_kept : MethodName := ⟨RX6, "kept", "(I)I"⟩
abbrev cX6_forgetFirst : ByteArray := prog_8_method_11_code
def yX6_forgetFirst : MethodName := ⟨RX6, "forgetFirst", "()V"⟩
abbrev cX6_record : ByteArray := prog_8_method_12_code
def yX6_record : MethodName := ⟨RX6, "record", "()V"⟩
abbrev cX6_undo : ByteArray := prog_8_method_13_code
def yX6_undo : MethodName := ⟨RX6, "undo", "()I"⟩
abbrev cX6_save : ByteArray := prog_8_method_14_code
def yX6_save : MethodName := ⟨RX6, "save", "(I)I"⟩
abbrev cX6_restore : ByteArray := prog_8_method_15_code
def yX6_restore : MethodName := ⟨RX6, "restore", "(I)I"⟩
abbrev cX6_putAside : ByteArray := prog_8_method_16_code
def yX6_putAside : MethodName := ⟨RX6, "putAside", "()V"⟩
abbrev cX6_bringBack : ByteArray := prog_8_method_17_code
def yX6_bringBack : MethodName := ⟨RX6, "bringBack", "()V"⟩
abbrev cX6_leastOf : ByteArray := prog_8_method_18_code
def yX6_leastOf : MethodName := ⟨RX6, "leastOf", "(I)I"⟩
abbrev cX6_mostOf : ByteArray := prog_8_method_19_code
def yX6_mostOf : MethodName := ⟨RX6, "mostOf", "(I)I"⟩
abbrev cX6_set : ByteArray := prog_8_method_20_code
def yX6_set : MethodName := ⟨RX6, "set", "(II)I"⟩
abbrev cX6_dipperIn : ByteArray := prog_8_method_21_code
def yX6_dipperIn : MethodName := ⟨RX6, "dipperIn", "(I)I"⟩
abbrev cX6_floor : ByteArray := prog_8_method_22_code
def yX6_floor : MethodName := ⟨RX6, "floor", "(III)I"⟩
abbrev cX6_water : ByteArray := prog_8_method_23_code
def yX6_water : MethodName := ⟨RX6, "water", "()I"⟩
abbrev cX6_calm : ByteArray := prog_8_method_24_code
def yX6_calm : MethodName := ⟨RX6, "calm", "()V"⟩
abbrev cX6_read : ByteArray := prog_8_method_25_code
def yX6_read : MethodName := ⟨RX6, "read", "()I"⟩
abbrev cX6_allSizes : ByteArray := prog_8_method_26_code
def yX6_allSizes : MethodName := ⟨RX6, "allSizes", "()I"⟩
abbrev cX6_clear : ByteArray := prog_8_method_27_code
def yX6_clear : MethodName := ⟨RX6, "clear", "()I"⟩
abbrev cX6_dip : ByteArray := prog_8_method_28_code
def yX6_dip : MethodName := ⟨RX6, "dip", "(IIIII)I"⟩
abbrev cX6_takeOut : ByteArray := prog_8_method_29_code
def yX6_takeOut : MethodName := ⟨RX6, "takeOut", "(I)I"⟩
abbrev cX6_drop : ByteArray := prog_8_method_30_code
def yX6_drop : MethodName := ⟨RX6, "drop", "(III)I"⟩
abbrev cX6_probe : ByteArray := prog_8_method_31_code
def yX6_probe : MethodName := ⟨RX6, "probe", "(II)I"⟩
abbrev cX6_from : ByteArray := prog_8_method_32_code
def yX6_from : MethodName := ⟨RX6, "from", "(III)I"⟩
abbrev cX6_slope : ByteArray := prog_8_method_33_code
def yX6_slope : MethodName := ⟨RX6, "slope", "(I)I"⟩
abbrev cX6_isUp : ByteArray := prog_8_method_34_code
def yX6_isUp : MethodName := ⟨RX6, "isUp", "(I)Z"⟩
abbrev cX6_heightThen : ByteArray := prog_8_method_35_code
def yX6_heightThen : MethodName := ⟨RX6, "heightThen", "(I)I"⟩
abbrev cX6_see : ByteArray := prog_8_method_36_code
def yX6_see : MethodName := ⟨RX6, "see", "(I)V"⟩
abbrev cX6_tick : ByteArray := prog_8_method_37_code
def yX6_tick : MethodName := ⟨RX6, "tick", "()V"⟩
abbrev cX6_isStill : ByteArray := prog_8_method_38_code
def yX6_isStill : MethodName := ⟨RX6, "isStill", "(I)Z"⟩
abbrev cX6_stillOnes : ByteArray := prog_8_method_39_code
def yX6_stillOnes : MethodName := ⟨RX6, "stillOnes", "()I"⟩
abbrev cX6_ticks : ByteArray := prog_8_method_40_code
def yX6_ticks : MethodName := ⟨RX6, "ticks", "(I)V"⟩
abbrev cX6_pass : ByteArray := prog_8_method_41_code
def yX6_pass : MethodName := ⟨RX6, "pass", "(I)I"⟩
abbrev cX6_cell : ByteArray := prog_8_method_42_code
def yX6_cell : MethodName := ⟨RX6, "cell", "(III)I"⟩
abbrev cX6_dipper : ByteArray := prog_8_method_43_code
def yX6_dipper : MethodName := ⟨RX6, "dipper", "(II)I"⟩
abbrev cX6_seenBy : ByteArray := prog_8_method_44_code
def yX6_seenBy : MethodName := ⟨RX6, "seenBy", "(II)I"⟩
abbrev cX6_seenMany : ByteArray := prog_8_method_45_code
def yX6_seenMany : MethodName := ⟨RX6, "seenMany", "(I)I"⟩
abbrev cX6_beat : ByteArray := prog_8_method_46_code
def yX6_beat : MethodName := ⟨RX6, "beat", "(I)I"⟩
abbrev cX6_greatestSeen : ByteArray := prog_8_method_47_code
def yX6_greatestSeen : MethodName := ⟨RX6, "greatestSeen", "(I)I"⟩
abbrev cX6_ofProbe : ByteArray := prog_8_method_48_code
def yX6_ofProbe : MethodName := ⟨RX6, "ofProbe", "(II)I"⟩
abbrev cX6_seen : ByteArray := prog_8_method_49_code
def yX6_seen : MethodName := ⟨RX6, "seen", "(II)I"⟩
abbrev cX6_sum : ByteArray := prog_8_method_50_code
def yX6_sum : MethodName := ⟨RX6, "sum", "()I"⟩
abbrev cX6_greatest : ByteArray := prog_8_method_51_code
def yX6_greatest : MethodName := ⟨RX6, "greatest", "()I"⟩
abbrev cX6_come : ByteArray := prog_8_method_52_code
def yX6_come : MethodName := ⟨RX6, "come", "()I"⟩
abbrev cX6_count : ByteArray := prog_8_method_53_code
def yX6_count : MethodName := ⟨RX6, "count", "(I)I"⟩
abbrev cX6_loudest : ByteArray := prog_8_method_54_code
def yX6_loudest : MethodName := ⟨RX6, "loudest", "(I)I"⟩
abbrev cX6_heightAt : ByteArray := prog_8_method_55_code
def yX6_heightAt : MethodName := ⟨RX6, "heightAt", "(II)I"⟩
abbrev cX6_crests : ByteArray := prog_8_method_56_code
def yX6_crests : MethodName := ⟨RX6, "crests", "(I)I"⟩
abbrev cX6_ifPassed : ByteArray := prog_8_method_57_code
def yX6_ifPassed : MethodName := ⟨RX6, "ifPassed", "(III)I"⟩
abbrev cX6_comes : ByteArray := prog_8_method_58_code
def yX6_comes : MethodName := ⟨RX6, "comes", "(II)I"⟩
abbrev cX6_hush : ByteArray := prog_8_method_59_code
def yX6_hush : MethodName := ⟨RX6, "hush", "(IIIII)I"⟩
abbrev cX6_put : ByteArray := prog_8_method_60_code
def yX6_put : MethodName := ⟨RX6, "put", "(J)I"⟩
abbrev cX6_wipe : ByteArray := prog_8_method_61_code
def yX6_wipe : MethodName := ⟨RX6, "wipe", "()I"⟩
abbrev cX6_floorOf : ByteArray := prog_8_method_62_code
def yX6_floorOf : MethodName := ⟨RX6, "floorOf", "(I)I"⟩
abbrev cX6_readPad : ByteArray := prog_8_method_63_code
def yX6_readPad : MethodName := ⟨RX6, "readPad", "()I"⟩
abbrev cX6_fault : ByteArray := prog_8_method_64_code
def yX6_fault : MethodName := ⟨RX6, "fault", "()I"⟩
def RJx145de : String := "java/io/Serializable"
def TJx145de : u_T := fun k => match k with
  | _ => ("", "", "", false)
def tyJx145de : Nat → FieldType := fun k => match k with
  | _ => .int
abbrev wsJx145de0 : List Cond := u_ws RJx145de TJx145de 0
theorem nmJx145de : ∀ a, a < 0 → ∀ b, b < 0 → a ≠ b → (TJx145de a).2.1 ≠ (TJx145de b).2.1 := by decide +kernel
theorem tyJx145de_ok : ∀ k, k < 0 → parseFieldDescriptor (TJx145de k).2.2.1 = some (tyJx145de k) := by decide +kernel
def RJx9f9b0 : String := "java/lang/CharSequence"
def TJx9f9b0 : u_T := fun k => match k with
  | _ => ("", "", "", false)
def tyJx9f9b0 : Nat → FieldType := fun k => match k with
  | _ => .int
abbrev wsJx9f9b00 : List Cond := u_ws RJx9f9b0 TJx9f9b0 0
theorem nmJx9f9b0 : ∀ a, a < 0 → ∀ b, b < 0 → a ≠ b → (TJx9f9b0 a).2.1 ≠ (TJx9f9b0 b).2.1 := by decide +kernel
theorem tyJx9f9b0_ok : ∀ k, k < 0 → parseFieldDescriptor (TJx9f9b0 k).2.2.1 = some (tyJx9f9b0 k) := by decide +kernel
def RJ11 : String := "java/lang/Character"
def TJ11 : u_T := fun k => match k with
  | _ => ("", "", "", false)
def tyJ11 : Nat → FieldType := fun k => match k with
  | _ => .int
abbrev wsJ110 : List Cond := u_ws RJ11 TJ11 0
theorem nmJ11 : ∀ a, a < 0 → ∀ b, b < 0 → a ≠ b → (TJ11 a).2.1 ≠ (TJ11 b).2.1 := by decide +kernel
theorem tyJ11_ok : ∀ k, k < 0 → parseFieldDescriptor (TJ11 k).2.2.1 = some (tyJ11 k) := by decide +kernel
abbrev cJ11_isValidCodePoint_9a6ad : ByteArray := prog_9_method_11_code
def yJ11_isValidCodePoint_9a6ad : MethodName := ⟨RJ11, "isValidCodePoint", "(I)Z"⟩
abbrev cJ11_highSurrogate_5068e : ByteArray := prog_9_method_28_code
def yJ11_highSurrogate_5068e : MethodName := ⟨RJ11, "highSurrogate", "(I)C"⟩
abbrev cJ11_lowSurrogate_5068e : ByteArray := prog_9_method_29_code
def yJ11_lowSurrogate_5068e : MethodName := ⟨RJ11, "lowSurrogate", "(I)C"⟩
def RJx8e188 : String := "java/lang/Cloneable"
def TJx8e188 : u_T := fun k => match k with
  | _ => ("", "", "", false)
def tyJx8e188 : Nat → FieldType := fun k => match k with
  | _ => .int
abbrev wsJx8e1880 : List Cond := u_ws RJx8e188 TJx8e188 0
theorem nmJx8e188 : ∀ a, a < 0 → ∀ b, b < 0 → a ≠ b → (TJx8e188 a).2.1 ≠ (TJx8e188 b).2.1 := by decide +kernel
theorem tyJx8e188_ok : ∀ k, k < 0 → parseFieldDescriptor (TJx8e188 k).2.2.1 = some (tyJx8e188 k) := by decide +kernel
def RJxb160c : String := "java/lang/Comparable"
def TJxb160c : u_T := fun k => match k with
  | _ => ("", "", "", false)
def tyJxb160c : Nat → FieldType := fun k => match k with
  | _ => .int
abbrev wsJxb160c0 : List Cond := u_ws RJxb160c TJxb160c 0
theorem nmJxb160c : ∀ a, a < 0 → ∀ b, b < 0 → a ≠ b → (TJxb160c a).2.1 ≠ (TJxb160c b).2.1 := by decide +kernel
theorem tyJxb160c_ok : ∀ k, k < 0 → parseFieldDescriptor (TJxb160c k).2.2.1 = some (tyJxb160c k) := by decide +kernel
def RJ9 : String := "java/lang/Math"
def TJ9 : u_T := fun k => match k with
  | _ => ("", "", "", false)
def tyJ9 : Nat → FieldType := fun k => match k with
  | _ => .int
abbrev wsJ90 : List Cond := u_ws RJ9 TJ9 0
theorem nmJ9 : ∀ a, a < 0 → ∀ b, b < 0 → a ≠ b → (TJ9 a).2.1 ≠ (TJ9 b).2.1 := by decide +kernel
theorem tyJ9_ok : ∀ k, k < 0 → parseFieldDescriptor (TJ9 k).2.2.1 = some (tyJ9 k) := by decide +kernel
abbrev cJ9_abs_0f7a4 : ByteArray := prog_11_method_59_code
def yJ9_abs_0f7a4 : MethodName := ⟨RJ9, "abs", "(I)I"⟩
abbrev cJ9_max_7cf53 : ByteArray := prog_11_method_65_code
def yJ9_max_7cf53 : MethodName := ⟨RJ9, "max", "(II)I"⟩
abbrev cJ9_min_7cf53 : ByteArray := prog_11_method_69_code
def yJ9_min_7cf53 : MethodName := ⟨RJ9, "min", "(II)I"⟩
def RJ0 : String := "java/lang/String"
def TJ0 : u_T := fun k => match k with
  | _ => ("", "", "", false)
def tyJ0 : Nat → FieldType := fun k => match k with
  | _ => .int
abbrev wsJ00 : List Cond := u_ws RJ0 TJ0 0
theorem nmJ0 : ∀ a, a < 0 → ∀ b, b < 0 → a ≠ b → (TJ0 a).2.1 ≠ (TJ0 b).2.1 := by decide +kernel
theorem tyJ0_ok : ∀ k, k < 0 → parseFieldDescriptor (TJ0 k).2.2.1 = some (tyJ0 k) := by decide +kernel
abbrev cJ0_length_8abf5 : ByteArray := prog_12_method_54_code
def yJ0_length_8abf5 : MethodName := ⟨RJ0, "length", "()I"⟩
abbrev cJ0_indexOf_0f7a4 : ByteArray := prog_12_method_79_code
def yJ0_indexOf_0f7a4 : MethodName := ⟨RJ0, "indexOf", "(I)I"⟩
abbrev cJ0_indexOf_7cf53 : ByteArray := prog_12_method_80_code
def yJ0_indexOf_7cf53 : MethodName := ⟨RJ0, "indexOf", "(II)I"⟩
abbrev cJ0_coder_7d493 : ByteArray := prog_12_method_152_code
def yJ0_coder_7d493 : MethodName := ⟨RJ0, "coder", "()B"⟩
abbrev cJ0_isLatin1_aae02 : ByteArray := prog_12_method_154_code
def yJ0_isLatin1_aae02 : MethodName := ⟨RJ0, "isLatin1", "()Z"⟩
abbrev cJ0_checkBoundsBeginEnd_23922 : ByteArray := prog_12_method_158_code
def yJ0_checkBoundsBeginEnd_23922 : MethodName := ⟨RJ0, "checkBoundsBeginEnd", "(III)V"⟩
def RJ1 : String := "java/lang/StringLatin1"
def TJ1 : u_T := fun k => match k with
  | _ => ("", "", "", false)
def tyJ1 : Nat → FieldType := fun k => match k with
  | _ => .int
abbrev wsJ10 : List Cond := u_ws RJ1 TJ1 0
theorem nmJ1 : ∀ a, a < 0 → ∀ b, b < 0 → a ≠ b → (TJ1 a).2.1 ≠ (TJ1 b).2.1 := by decide +kernel
theorem tyJ1_ok : ∀ k, k < 0 → parseFieldDescriptor (TJ1 k).2.2.1 = some (tyJ1 k) := by decide +kernel
abbrev cJ1_canEncode_9a6ad : ByteArray := prog_13_method_4_code
def yJ1_canEncode_9a6ad : MethodName := ⟨RJ1, "canEncode", "(I)Z"⟩
abbrev cJ1_indexOf_4cfef : ByteArray := prog_13_method_22_code
def yJ1_indexOf_4cfef : MethodName := ⟨RJ1, "indexOf", "([BIII)I"⟩
abbrev cJ1_indexOfChar_4cfef : ByteArray := prog_13_method_23_code
def yJ1_indexOfChar_4cfef : MethodName := ⟨RJ1, "indexOfChar", "([BIII)I"⟩
def RJ2 : String := "java/lang/StringUTF16"
def TJ2 : u_T := fun k => match k with
  | _ => ("", "", "", false)
def tyJ2 : Nat → FieldType := fun k => match k with
  | _ => .int
abbrev wsJ20 : List Cond := u_ws RJ2 TJ2 0
theorem nmJ2 : ∀ a, a < 0 → ∀ b, b < 0 → a ≠ b → (TJ2 a).2.1 ≠ (TJ2 b).2.1 := by decide +kernel
theorem tyJ2_ok : ∀ k, k < 0 → parseFieldDescriptor (TJ2 k).2.2.1 = some (tyJ2 k) := by decide +kernel
abbrev cJ2_getChar_3b067 : ByteArray := prog_14_method_5_code
def yJ2_getChar_3b067 : MethodName := ⟨RJ2, "getChar", "([BI)C"⟩
abbrev cJ2_length_9d52b : ByteArray := prog_14_method_6_code
def yJ2_length_9d52b : MethodName := ⟨RJ2, "length", "([B)I"⟩
abbrev cJ2_indexOf_4cfef : ByteArray := prog_14_method_40_code
def yJ2_indexOf_4cfef : MethodName := ⟨RJ2, "indexOf", "([BIII)I"⟩
abbrev cJ2_indexOfChar_4cfef : ByteArray := prog_14_method_47_code
def yJ2_indexOfChar_4cfef : MethodName := ⟨RJ2, "indexOfChar", "([BIII)I"⟩
abbrev cJ2_indexOfCharUnsafe_4cfef : ByteArray := prog_14_method_48_code
def yJ2_indexOfCharUnsafe_4cfef : MethodName := ⟨RJ2, "indexOfCharUnsafe", "([BIII)I"⟩
abbrev cJ2_indexOfSupplementary_4cfef : ByteArray := prog_14_method_49_code
def yJ2_indexOfSupplementary_4cfef : MethodName := ⟨RJ2, "indexOfSupplementary", "([BIII)I"⟩
abbrev cJ2_checkBoundsBeginEnd_d044e : ByteArray := prog_14_method_93_code
def yJ2_checkBoundsBeginEnd_d044e : MethodName := ⟨RJ2, "checkBoundsBeginEnd", "(II[B)V"⟩
def RJ10 : String := "java/lang/System"
def TJ10 : u_T := fun k => match k with
  | _ => ("", "", "", false)
def tyJ10 : Nat → FieldType := fun k => match k with
  | _ => .int
abbrev wsJ100 : List Cond := u_ws RJ10 TJ10 0
theorem nmJ10 : ∀ a, a < 0 → ∀ b, b < 0 → a ≠ b → (TJ10 a).2.1 ≠ (TJ10 b).2.1 := by decide +kernel
theorem tyJ10_ok : ∀ k, k < 0 → parseFieldDescriptor (TJ10 k).2.2.1 = some (tyJ10 k) := by decide +kernel
def RJxfd54e : String := "java/lang/constant/Constable"
def TJxfd54e : u_T := fun k => match k with
  | _ => ("", "", "", false)
def tyJxfd54e : Nat → FieldType := fun k => match k with
  | _ => .int
abbrev wsJxfd54e0 : List Cond := u_ws RJxfd54e TJxfd54e 0
theorem nmJxfd54e : ∀ a, a < 0 → ∀ b, b < 0 → a ≠ b → (TJxfd54e a).2.1 ≠ (TJxfd54e b).2.1 := by decide +kernel
theorem tyJxfd54e_ok : ∀ k, k < 0 → parseFieldDescriptor (TJxfd54e k).2.2.1 = some (tyJxfd54e k) := by decide +kernel
def RJx3cf43 : String := "java/lang/constant/ConstantDesc"
def TJx3cf43 : u_T := fun k => match k with
  | _ => ("", "", "", false)
def tyJx3cf43 : Nat → FieldType := fun k => match k with
  | _ => .int
abbrev wsJx3cf430 : List Cond := u_ws RJx3cf43 TJx3cf43 0
theorem nmJx3cf43 : ∀ a, a < 0 → ∀ b, b < 0 → a ≠ b → (TJx3cf43 a).2.1 ≠ (TJx3cf43 b).2.1 := by decide +kernel
theorem tyJx3cf43_ok : ∀ k, k < 0 → parseFieldDescriptor (TJx3cf43 k).2.2.1 = some (tyJx3cf43 k) := by decide +kernel
def RJ7 : String := "java/util/Arrays"
def TJ7 : u_T := fun k => match k with
  | _ => ("", "", "", false)
def tyJ7 : Nat → FieldType := fun k => match k with
  | _ => .int
abbrev wsJ70 : List Cond := u_ws RJ7 TJ7 0
theorem nmJ7 : ∀ a, a < 0 → ∀ b, b < 0 → a ≠ b → (TJ7 a).2.1 ≠ (TJ7 b).2.1 := by decide +kernel
theorem tyJ7_ok : ∀ k, k < 0 → parseFieldDescriptor (TJ7 k).2.2.1 = some (tyJ7 k) := by decide +kernel
abbrev cJ7_fill_53178 : ByteArray := prog_16_method_103_code
def yJ7_fill_53178 : MethodName := ⟨RJ7, "fill", "([II)V"⟩
def RJ3 : String := "jdk/internal/util/Preconditions"
def TJ3 : u_T := fun k => match k with
  | _ => ("", "", "", false)
def tyJ3 : Nat → FieldType := fun k => match k with
  | _ => .int
abbrev wsJ30 : List Cond := u_ws RJ3 TJ3 0
theorem nmJ3 : ∀ a, a < 0 → ∀ b, b < 0 → a ≠ b → (TJ3 a).2.1 ≠ (TJ3 b).2.1 := by decide +kernel
theorem tyJ3_ok : ∀ k, k < 0 → parseFieldDescriptor (TJ3 k).2.2.1 = some (tyJ3 k) := by decide +kernel
abbrev cJ3_checkFromToIndex_8c36e : ByteArray := prog_17_method_12_code
def yJ3_checkFromToIndex_8c36e : MethodName := ⟨RJ3, "checkFromToIndex", "(IIILjava/util/function/BiFunction;)I"⟩
def RL : String := "DippedWavesLaw"
abbrev cL_law : ByteArray := code
def yL_law : MethodName := ⟨RL, "law", "([I)Z"⟩
def wsX0_init : List Cond := .code yX0_init cX0_init 1 none :: ([.methodLink RX0 3 objectInit, .instanceMethod objectInit, .code objectInit ⟨#[0xb1]⟩ 1 none, .arrayClass .int, .fieldLink RX0 9 "DippedWaves$Dippers" "cells" "[I", .fieldLink RX0 15 "DippedWaves$Dippers" "periods" "[I", .fieldLink RX0 18 "DippedWaves$Dippers" "sizes" "[I", .fieldLink RX0 21 "DippedWaves$Dippers" "shifts" "[I", .fieldLink RX0 24 "DippedWaves$Dippers" "many" "I"] ++ wsX00)
def wsX0_become : List Cond := .code yX0_become cX0_become 2 none :: ([.fieldLink RX0 9 "DippedWaves$Dippers" "cells" "[I", .methodLink RX0 28 arraycopyName, .native arraycopyName, .static arraycopyName, .initialized "java/lang/System", .fieldLink RX0 15 "DippedWaves$Dippers" "periods" "[I", .fieldLink RX0 18 "DippedWaves$Dippers" "sizes" "[I", .fieldLink RX0 21 "DippedWaves$Dippers" "shifts" "[I", .fieldLink RX0 24 "DippedWaves$Dippers" "many" "I"] ++ wsX00)
def wsX0_append : List Cond := .code yX0_append cX0_append 5 (some .int) :: ([.fieldLink RX0 9 "DippedWaves$Dippers" "cells" "[I", .fieldLink RX0 24 "DippedWaves$Dippers" "many" "I", .fieldLink RX0 15 "DippedWaves$Dippers" "periods" "[I", .fieldLink RX0 18 "DippedWaves$Dippers" "sizes" "[I", .fieldLink RX0 21 "DippedWaves$Dippers" "shifts" "[I"] ++ wsX00)
def wsX0_remove : List Cond := .code yX0_remove cX0_remove 3 none :: ([.fieldLink RX0 24 "DippedWaves$Dippers" "many" "I", .fieldLink RX0 9 "DippedWaves$Dippers" "cells" "[I", .fieldLink RX0 15 "DippedWaves$Dippers" "periods" "[I", .fieldLink RX0 18 "DippedWaves$Dippers" "sizes" "[I", .fieldLink RX0 21 "DippedWaves$Dippers" "shifts" "[I"] ++ wsX00)
def wsX0_isUp : List Cond := .code yX0_isUp cX0_isUp 4 (some .boolean) :: ([.fieldLink RX0 15 "DippedWaves$Dippers" "periods" "[I", .fieldLink RX0 21 "DippedWaves$Dippers" "shifts" "[I"] ++ wsX00)
def wsX0_beat : List Cond := .code yX0_beat cX0_beat 4 none :: ([.fieldLink RX0 24 "DippedWaves$Dippers" "many" "I", .fieldLink RX0 9 "DippedWaves$Dippers" "cells" "[I", .fieldLink RX0 18 "DippedWaves$Dippers" "sizes" "[I", .methodLink RX0 34 yX0_isUp, .instanceMethod yX0_isUp, .selects RX0 yX0_isUp yX0_isUp, .initialized RX0, .code yX0_isUp cX0_isUp 4 (some .boolean), .fieldLink RX0 15 "DippedWaves$Dippers" "periods" "[I", .fieldLink RX0 21 "DippedWaves$Dippers" "shifts" "[I"] ++ wsX00)
def wsX0_lastIn : List Cond := .code yX0_lastIn cX0_lastIn 3 (some .int) :: ([.fieldLink RX0 24 "DippedWaves$Dippers" "many" "I", .fieldLink RX0 9 "DippedWaves$Dippers" "cells" "[I"] ++ wsX00)
def wsX3_init : List Cond := .code yX3_init cX3_init 1 none :: ([.methodLink RX3 3 objectInit, .instanceMethod objectInit, .code objectInit ⟨#[0xb1]⟩ 1 none, .arrayClass .int, .fieldLink RX3 9 "DippedWaves$Probes" "cells" "[I", .fieldLink RX3 15 "DippedWaves$Probes" "lengths" "[I", .classLink RX3 18 "[[I", .fieldLink RX3 20 "DippedWaves$Probes" "heights" "[[I", .fieldLink RX3 23 "DippedWaves$Probes" "many" "I"] ++ wsX30)
def wsJ7_fill_53178 : List Cond := .code yJ7_fill_53178 cJ7_fill_53178 4 none :: ([])
def wsX4_init_r1 : List Cond := [Cond.methodLink RX4 3 objectInit, Cond.instanceMethod objectInit, Cond.code objectInit ⟨#[0xb1]⟩ 1 none, Cond.methodLink RX4 13 ⟨"[I", "clone", "()Ljava/lang/Object;"⟩, Cond.sameMethod "[I" "java/lang/Object" "clone" "()Ljava/lang/Object;", Cond.native ⟨"java/lang/Object", "clone", "()Ljava/lang/Object;"⟩, Cond.instanceMethod ⟨"java/lang/Object", "clone", "()Ljava/lang/Object;"⟩, Cond.selects "[I" ⟨"[I", "clone", "()Ljava/lang/Object;"⟩ ⟨"java/lang/Object", "clone", "()Ljava/lang/Object;"⟩, Cond.classLink RX4 14 "[I", Cond.fieldLink RX4 18 "DippedWaves$Tank" "settings" "[I", Cond.arrayClass .int, Cond.fieldLink RX4 23 "DippedWaves$Tank" "floors" "[I", Cond.fieldLink RX4 26 "DippedWaves$Tank" "heights" "[I", Cond.fieldLink RX4 29 "DippedWaves$Tank" "ahead" "[I", Cond.fieldLink RX4 32 "DippedWaves$Tank" "firsts" "[I", Cond.classLink RX4 35 RX0, Cond.instantiable RX0 5, Cond.initialized RX0, Cond.fieldLink RX4 38 "DippedWaves$Tank" "dippers" "LDippedWaves$Dippers;", Cond.classLink RX4 42 RX3, Cond.instantiable RX3 4, Cond.initialized RX3, Cond.fieldLink RX4 45 "DippedWaves$Tank" "probes" "LDippedWaves$Probes;", Cond.fieldLink RX4 49 "DippedWaves$Tank" "tick" "I"]
def wsX4_init_r2 : List Cond := [Cond.instanceMethod yX0_init, Cond.code yX0_init cX0_init 1 none, Cond.methodLink RX0 3 objectInit, Cond.fieldLink RX0 9 "DippedWaves$Dippers" "cells" "[I", Cond.fieldLink RX0 15 "DippedWaves$Dippers" "periods" "[I", Cond.fieldLink RX0 18 "DippedWaves$Dippers" "sizes" "[I", Cond.fieldLink RX0 21 "DippedWaves$Dippers" "shifts" "[I", Cond.fieldLink RX0 24 "DippedWaves$Dippers" "many" "I", Cond.instanceMethod yX3_init, Cond.code yX3_init cX3_init 1 none, Cond.methodLink RX3 3 objectInit, Cond.fieldLink RX3 9 "DippedWaves$Probes" "cells" "[I", Cond.fieldLink RX3 15 "DippedWaves$Probes" "lengths" "[I", Cond.classLink RX3 18 "[[I", Cond.fieldLink RX3 20 "DippedWaves$Probes" "heights" "[[I", Cond.fieldLink RX3 23 "DippedWaves$Probes" "many" "I", Cond.methodLink RX4 53 yJ7_fill_53178, Cond.static yJ7_fill_53178, Cond.initialized RJ7, Cond.code yJ7_fill_53178 cJ7_fill_53178 4 none]
def wsX4_init : List Cond := .code yX4_init cX4_init 1 none :: ((wsX4_init_r1 ++ wsX4_init_r2) ++ wsX40 ++ wsX00 ++ wsX30)
def wsX1_init_r1 : List Cond := [Cond.methodLink RX1 3 objectInit, Cond.instanceMethod objectInit, Cond.code objectInit ⟨#[0xb1]⟩ 1 none, Cond.classLink RX1 9 RX4, Cond.fieldLink RX1 11 "DippedWaves$History" "states" "[LDippedWaves$Tank;", Cond.fieldLink RX1 17 "DippedWaves$History" "many" "I", Cond.instantiable RX4 8, Cond.initialized RX4, Cond.methodLink RX1 21 yX4_init, Cond.instanceMethod yX4_init, Cond.code yX4_init cX4_init 1 none, Cond.methodLink RX4 3 objectInit, Cond.methodLink RX4 13 ⟨"[I", "clone", "()Ljava/lang/Object;"⟩, Cond.sameMethod "[I" "java/lang/Object" "clone" "()Ljava/lang/Object;", Cond.native ⟨"java/lang/Object", "clone", "()Ljava/lang/Object;"⟩, Cond.instanceMethod ⟨"java/lang/Object", "clone", "()Ljava/lang/Object;"⟩, Cond.selects "[I" ⟨"[I", "clone", "()Ljava/lang/Object;"⟩ ⟨"java/lang/Object", "clone", "()Ljava/lang/Object;"⟩, Cond.classLink RX4 14 "[I", Cond.fieldLink RX4 18 "DippedWaves$Tank" "settings" "[I", Cond.arrayClass .int, Cond.fieldLink RX4 23 "DippedWaves$Tank" "floors" "[I", Cond.fieldLink RX4 26 "DippedWaves$Tank" "heights" "[I", Cond.fieldLink RX4 29 "DippedWaves$Tank" "ahead" "[I", Cond.fieldLink RX4 32 "DippedWaves$Tank" "firsts" "[I"]
def wsX1_init_r2 : List Cond := [Cond.classLink RX4 35 RX0, Cond.instantiable RX0 5, Cond.initialized RX0, Cond.fieldLink RX4 38 "DippedWaves$Tank" "dippers" "LDippedWaves$Dippers;", Cond.classLink RX4 42 RX3, Cond.instantiable RX3 4, Cond.initialized RX3, Cond.fieldLink RX4 45 "DippedWaves$Tank" "probes" "LDippedWaves$Probes;", Cond.fieldLink RX4 49 "DippedWaves$Tank" "tick" "I", Cond.instanceMethod yX0_init, Cond.code yX0_init cX0_init 1 none, Cond.methodLink RX0 3 objectInit, Cond.fieldLink RX0 9 "DippedWaves$Dippers" "cells" "[I", Cond.fieldLink RX0 15 "DippedWaves$Dippers" "periods" "[I", Cond.fieldLink RX0 18 "DippedWaves$Dippers" "sizes" "[I", Cond.fieldLink RX0 21 "DippedWaves$Dippers" "shifts" "[I", Cond.fieldLink RX0 24 "DippedWaves$Dippers" "many" "I", Cond.instanceMethod yX3_init, Cond.code yX3_init cX3_init 1 none, Cond.methodLink RX3 3 objectInit, Cond.fieldLink RX3 9 "DippedWaves$Probes" "cells" "[I", Cond.fieldLink RX3 15 "DippedWaves$Probes" "lengths" "[I", Cond.classLink RX3 18 "[[I", Cond.fieldLink RX3 20 "DippedWaves$Probes" "heights" "[[I"]
def wsX1_init_r3 : List Cond := [Cond.fieldLink RX3 23 "DippedWaves$Probes" "many" "I", Cond.methodLink RX4 53 yJ7_fill_53178, Cond.static yJ7_fill_53178, Cond.initialized RJ7, Cond.code yJ7_fill_53178 cJ7_fill_53178 4 none]
def wsX1_init : List Cond := .code yX1_init cX1_init 2 none :: ((wsX1_init_r1 ++ (wsX1_init_r2 ++ wsX1_init_r3)) ++ wsX10 ++ wsX40 ++ wsX00 ++ wsX30)
def wsX1_loseOldest : List Cond := .code yX1_loseOldest cX1_loseOldest 3 none :: ([.fieldLink RX1 11 "DippedWaves$History" "states" "[LDippedWaves$Tank;", .fieldLink RX1 17 "DippedWaves$History" "many" "I"] ++ wsX10)
def wsX3_become : List Cond := .code yX3_become cX3_become 3 none :: ([.fieldLink RX3 9 "DippedWaves$Probes" "cells" "[I", .methodLink RX3 27 arraycopyName, .native arraycopyName, .static arraycopyName, .initialized "java/lang/System", .fieldLink RX3 15 "DippedWaves$Probes" "lengths" "[I", .fieldLink RX3 20 "DippedWaves$Probes" "heights" "[[I", .fieldLink RX3 23 "DippedWaves$Probes" "many" "I"] ++ wsX30)
def wsX4_become_r1 : List Cond := [Cond.fieldLink RX4 18 "DippedWaves$Tank" "settings" "[I", Cond.methodLink RX4 59 arraycopyName, Cond.native arraycopyName, Cond.static arraycopyName, Cond.initialized "java/lang/System", Cond.fieldLink RX4 23 "DippedWaves$Tank" "floors" "[I", Cond.fieldLink RX4 26 "DippedWaves$Tank" "heights" "[I", Cond.fieldLink RX4 29 "DippedWaves$Tank" "ahead" "[I", Cond.fieldLink RX4 32 "DippedWaves$Tank" "firsts" "[I", Cond.fieldLink RX4 38 "DippedWaves$Tank" "dippers" "LDippedWaves$Dippers;", Cond.fieldLink RX4 45 "DippedWaves$Tank" "probes" "LDippedWaves$Probes;", Cond.fieldLink RX4 49 "DippedWaves$Tank" "tick" "I", Cond.methodLink RX4 65 yX0_become, Cond.instanceMethod yX0_become, Cond.selects RX0 yX0_become yX0_become, Cond.initialized RX0, Cond.code yX0_become cX0_become 2 none, Cond.fieldLink RX0 9 "DippedWaves$Dippers" "cells" "[I", Cond.methodLink RX0 28 arraycopyName, Cond.fieldLink RX0 15 "DippedWaves$Dippers" "periods" "[I", Cond.fieldLink RX0 18 "DippedWaves$Dippers" "sizes" "[I", Cond.fieldLink RX0 21 "DippedWaves$Dippers" "shifts" "[I", Cond.fieldLink RX0 24 "DippedWaves$Dippers" "many" "I", Cond.methodLink RX4 69 yX3_become]
def wsX4_become_r2 : List Cond := [Cond.instanceMethod yX3_become, Cond.selects RX3 yX3_become yX3_become, Cond.initialized RX3, Cond.code yX3_become cX3_become 3 none, Cond.fieldLink RX3 9 "DippedWaves$Probes" "cells" "[I", Cond.methodLink RX3 27 arraycopyName, Cond.fieldLink RX3 15 "DippedWaves$Probes" "lengths" "[I", Cond.fieldLink RX3 20 "DippedWaves$Probes" "heights" "[[I", Cond.fieldLink RX3 23 "DippedWaves$Probes" "many" "I"]
def wsX4_become : List Cond := .code yX4_become cX4_become 2 none :: ((wsX4_become_r1 ++ wsX4_become_r2) ++ wsX40 ++ wsX00 ++ wsX30)
def wsX1_keep_r1 : List Cond := [Cond.fieldLink RX1 17 "DippedWaves$History" "many" "I", Cond.fieldLink RX1 11 "DippedWaves$History" "states" "[LDippedWaves$Tank;", Cond.methodLink RX1 22 yX1_loseOldest, Cond.instanceMethod yX1_loseOldest, Cond.selects RX1 yX1_loseOldest yX1_loseOldest, Cond.initialized RX1, Cond.code yX1_loseOldest cX1_loseOldest 3 none, Cond.methodLink RX1 25 yX4_become, Cond.instanceMethod yX4_become, Cond.selects RX4 yX4_become yX4_become, Cond.initialized RX4, Cond.code yX4_become cX4_become 2 none, Cond.fieldLink RX4 18 "DippedWaves$Tank" "settings" "[I", Cond.methodLink RX4 59 arraycopyName, Cond.native arraycopyName, Cond.static arraycopyName, Cond.initialized "java/lang/System", Cond.fieldLink RX4 23 "DippedWaves$Tank" "floors" "[I", Cond.fieldLink RX4 26 "DippedWaves$Tank" "heights" "[I", Cond.fieldLink RX4 29 "DippedWaves$Tank" "ahead" "[I", Cond.fieldLink RX4 32 "DippedWaves$Tank" "firsts" "[I", Cond.fieldLink RX4 38 "DippedWaves$Tank" "dippers" "LDippedWaves$Dippers;", Cond.fieldLink RX4 45 "DippedWaves$Tank" "probes" "LDippedWaves$Probes;", Cond.fieldLink RX4 49 "DippedWaves$Tank" "tick" "I"]
def wsX1_keep_r2 : List Cond := [Cond.methodLink RX4 65 yX0_become, Cond.instanceMethod yX0_become, Cond.selects RX0 yX0_become yX0_become, Cond.initialized RX0, Cond.code yX0_become cX0_become 2 none, Cond.fieldLink RX0 9 "DippedWaves$Dippers" "cells" "[I", Cond.methodLink RX0 28 arraycopyName, Cond.fieldLink RX0 15 "DippedWaves$Dippers" "periods" "[I", Cond.fieldLink RX0 18 "DippedWaves$Dippers" "sizes" "[I", Cond.fieldLink RX0 21 "DippedWaves$Dippers" "shifts" "[I", Cond.fieldLink RX0 24 "DippedWaves$Dippers" "many" "I", Cond.methodLink RX4 69 yX3_become, Cond.instanceMethod yX3_become, Cond.selects RX3 yX3_become yX3_become, Cond.initialized RX3, Cond.code yX3_become cX3_become 3 none, Cond.fieldLink RX3 9 "DippedWaves$Probes" "cells" "[I", Cond.methodLink RX3 27 arraycopyName, Cond.fieldLink RX3 15 "DippedWaves$Probes" "lengths" "[I", Cond.fieldLink RX3 20 "DippedWaves$Probes" "heights" "[[I", Cond.fieldLink RX3 23 "DippedWaves$Probes" "many" "I"]
def wsX1_keep : List Cond := .code yX1_keep cX1_keep 2 none :: ((wsX1_keep_r1 ++ wsX1_keep_r2) ++ wsX10 ++ wsX40 ++ wsX00 ++ wsX30)
def wsX1_giveBack_r1 : List Cond := [Cond.fieldLink RX1 17 "DippedWaves$History" "many" "I", Cond.fieldLink RX1 11 "DippedWaves$History" "states" "[LDippedWaves$Tank;", Cond.methodLink RX1 25 yX4_become, Cond.instanceMethod yX4_become, Cond.selects RX4 yX4_become yX4_become, Cond.initialized RX4, Cond.code yX4_become cX4_become 2 none, Cond.fieldLink RX4 18 "DippedWaves$Tank" "settings" "[I", Cond.methodLink RX4 59 arraycopyName, Cond.native arraycopyName, Cond.static arraycopyName, Cond.initialized "java/lang/System", Cond.fieldLink RX4 23 "DippedWaves$Tank" "floors" "[I", Cond.fieldLink RX4 26 "DippedWaves$Tank" "heights" "[I", Cond.fieldLink RX4 29 "DippedWaves$Tank" "ahead" "[I", Cond.fieldLink RX4 32 "DippedWaves$Tank" "firsts" "[I", Cond.fieldLink RX4 38 "DippedWaves$Tank" "dippers" "LDippedWaves$Dippers;", Cond.fieldLink RX4 45 "DippedWaves$Tank" "probes" "LDippedWaves$Probes;", Cond.fieldLink RX4 49 "DippedWaves$Tank" "tick" "I", Cond.methodLink RX4 65 yX0_become, Cond.instanceMethod yX0_become, Cond.selects RX0 yX0_become yX0_become, Cond.initialized RX0, Cond.code yX0_become cX0_become 2 none]
def wsX1_giveBack_r2 : List Cond := [Cond.fieldLink RX0 9 "DippedWaves$Dippers" "cells" "[I", Cond.methodLink RX0 28 arraycopyName, Cond.fieldLink RX0 15 "DippedWaves$Dippers" "periods" "[I", Cond.fieldLink RX0 18 "DippedWaves$Dippers" "sizes" "[I", Cond.fieldLink RX0 21 "DippedWaves$Dippers" "shifts" "[I", Cond.fieldLink RX0 24 "DippedWaves$Dippers" "many" "I", Cond.methodLink RX4 69 yX3_become, Cond.instanceMethod yX3_become, Cond.selects RX3 yX3_become yX3_become, Cond.initialized RX3, Cond.code yX3_become cX3_become 3 none, Cond.fieldLink RX3 9 "DippedWaves$Probes" "cells" "[I", Cond.methodLink RX3 27 arraycopyName, Cond.fieldLink RX3 15 "DippedWaves$Probes" "lengths" "[I", Cond.fieldLink RX3 20 "DippedWaves$Probes" "heights" "[[I", Cond.fieldLink RX3 23 "DippedWaves$Probes" "many" "I"]
def wsX1_giveBack : List Cond := .code yX1_giveBack cX1_giveBack 2 none :: ((wsX1_giveBack_r1 ++ wsX1_giveBack_r2) ++ wsX10 ++ wsX40 ++ wsX00 ++ wsX30)
def wsX2_init : List Cond := .code yX2_init cX2_init 1 none :: ([.methodLink RX2 3 objectInit, .instanceMethod objectInit, .code objectInit ⟨#[0xb1]⟩ 1 none, .arrayClass .char, .fieldLink RX2 9 "DippedWaves$Pad" "signs" "[C", .fieldLink RX2 15 "DippedWaves$Pad" "length" "I"] ++ wsX20)
def wsX5_isIn : List Cond := .code yX5_isIn cX5_isIn 3 (some .boolean) :: ([])
def wsX2_charactersIn : List Cond := .code yX2_charactersIn cX2_charactersIn 5 (some .int) :: ([.constantLong RX2 19 (255), .static yX5_isIn, .initialized RX5, .code yX5_isIn cX5_isIn 3 (some .boolean)])
def wsX2_append : List Cond := .code yX2_append cX2_append 5 none :: ([.fieldLink RX2 9 "DippedWaves$Pad" "signs" "[C", .fieldLink RX2 15 "DippedWaves$Pad" "length" "I", .constantLong RX2 19 (255)] ++ wsX20)
def wsJ0_isLatin1_aae02 : List Cond := .code yJ0_isLatin1_aae02 cJ0_isLatin1_aae02 1 (some .boolean) :: ([.fieldLink RJ0 38 "java/lang/String" "COMPACT_STRINGS" "Z", .fieldLink RJ0 15 "java/lang/String" "coder" "B"])
def wsJ0_coder_7d493 : List Cond := .code yJ0_coder_7d493 cJ0_coder_7d493 1 (some .byte) :: ([.fieldLink RJ0 38 "java/lang/String" "COMPACT_STRINGS" "Z", .fieldLink RJ0 15 "java/lang/String" "coder" "B"])
def wsJ0_length_8abf5 : List Cond := .code yJ0_length_8abf5 cJ0_length_8abf5 1 (some .int) :: ([.fieldLink RJ0 9 "java/lang/String" "value" "[B", .methodLink RJ0 335 yJ0_coder_7d493, .instanceMethod yJ0_coder_7d493, .selects RJ0 yJ0_coder_7d493 yJ0_coder_7d493, .initialized RJ0, .code yJ0_coder_7d493 cJ0_coder_7d493 1 (some .byte), .fieldLink RJ0 38 "java/lang/String" "COMPACT_STRINGS" "Z", .fieldLink RJ0 15 "java/lang/String" "coder" "B"])
def wsJ1_canEncode_9a6ad : List Cond := .code yJ1_canEncode_9a6ad cJ1_canEncode_9a6ad 1 (some .boolean) :: ([])
def wsJ1_indexOfChar_4cfef : List Cond := .code yJ1_indexOfChar_4cfef cJ1_indexOfChar_4cfef 6 (some .int) :: ([])
def wsJ1_indexOf_4cfef : List Cond := .code yJ1_indexOf_4cfef cJ1_indexOf_4cfef 4 (some .int) :: ([.methodLink RJ1 92 Lib.Math.max.name, .static Lib.Math.max.name, .initialized "java/lang/Math", .code Lib.Math.max.name Lib.Math.max.code 2 (some .int), .methodLink RJ1 38 Lib.Math.min.name, .static Lib.Math.min.name, .code Lib.Math.min.name Lib.Math.min.code 2 (some .int), .methodLink RJ1 88 yJ1_canEncode_9a6ad, .static yJ1_canEncode_9a6ad, .initialized RJ1, .code yJ1_canEncode_9a6ad cJ1_canEncode_9a6ad 1 (some .boolean), .methodLink RJ1 95 yJ1_indexOfChar_4cfef, .static yJ1_indexOfChar_4cfef, .code yJ1_indexOfChar_4cfef cJ1_indexOfChar_4cfef 6 (some .int)])
def wsJ2_length_9d52b : List Cond := .code yJ2_length_9d52b cJ2_length_9d52b 1 (some .int) :: ([])
def wsJ3_checkFromToIndex_8c36e : List Cond := .code yJ3_checkFromToIndex_8c36e cJ3_checkFromToIndex_8c36e 4 (some .int) :: ([])
def wsJ0_checkBoundsBeginEnd_23922 : List Cond := .code yJ0_checkBoundsBeginEnd_23922 cJ0_checkBoundsBeginEnd_23922 3 none :: ([.fieldLink RJ0 1053 "jdk/internal/util/Preconditions" "SIOOBE_FORMATTER" "Ljava/util/function/BiFunction;", .methodLink RJ0 1062 yJ3_checkFromToIndex_8c36e, .static yJ3_checkFromToIndex_8c36e, .initialized RJ3, .code yJ3_checkFromToIndex_8c36e cJ3_checkFromToIndex_8c36e 4 (some .int)])
def wsJ2_checkBoundsBeginEnd_d044e : List Cond := .code yJ2_checkBoundsBeginEnd_d044e cJ2_checkBoundsBeginEnd_d044e 3 none :: ([.methodLink RJ2 48 yJ2_length_9d52b, .static yJ2_length_9d52b, .initialized RJ2, .code yJ2_length_9d52b cJ2_length_9d52b 1 (some .int), .methodLink RJ2 241 yJ0_checkBoundsBeginEnd_23922, .static yJ0_checkBoundsBeginEnd_23922, .initialized RJ0, .code yJ0_checkBoundsBeginEnd_23922 cJ0_checkBoundsBeginEnd_23922 3 none, .fieldLink RJ0 1053 "jdk/internal/util/Preconditions" "SIOOBE_FORMATTER" "Ljava/util/function/BiFunction;", .methodLink RJ0 1062 yJ3_checkFromToIndex_8c36e, .static yJ3_checkFromToIndex_8c36e, .initialized RJ3, .code yJ3_checkFromToIndex_8c36e cJ3_checkFromToIndex_8c36e 4 (some .int)])
def wsJ2_getChar_3b067 : List Cond := .code yJ2_getChar_3b067 cJ2_getChar_3b067 2 (some .char) :: ([.fieldLink RJ2 44 "java/lang/StringUTF16" "$assertionsDisabled" "Z", .fieldLink RJ2 59 "java/lang/StringUTF16" "HI_BYTE_SHIFT" "I", .fieldLink RJ2 63 "java/lang/StringUTF16" "LO_BYTE_SHIFT" "I", .methodLink RJ2 48 yJ2_length_9d52b, .static yJ2_length_9d52b, .initialized RJ2, .code yJ2_length_9d52b cJ2_length_9d52b 1 (some .int)])
def wsJ2_indexOfCharUnsafe_4cfef : List Cond := .code yJ2_indexOfCharUnsafe_4cfef cJ2_indexOfCharUnsafe_4cfef 5 (some .int) :: ([.methodLink RJ2 71 yJ2_getChar_3b067, .static yJ2_getChar_3b067, .initialized RJ2, .code yJ2_getChar_3b067 cJ2_getChar_3b067 2 (some .char), .fieldLink RJ2 44 "java/lang/StringUTF16" "$assertionsDisabled" "Z", .fieldLink RJ2 59 "java/lang/StringUTF16" "HI_BYTE_SHIFT" "I", .fieldLink RJ2 63 "java/lang/StringUTF16" "LO_BYTE_SHIFT" "I", .methodLink RJ2 48 yJ2_length_9d52b, .static yJ2_length_9d52b, .code yJ2_length_9d52b cJ2_length_9d52b 1 (some .int)])
def wsJ2_indexOfChar_4cfef_r1 : List Cond := [Cond.methodLink RJ2 96 yJ2_checkBoundsBeginEnd_d044e, Cond.static yJ2_checkBoundsBeginEnd_d044e, Cond.initialized RJ2, Cond.code yJ2_checkBoundsBeginEnd_d044e cJ2_checkBoundsBeginEnd_d044e 3 none, Cond.methodLink RJ2 48 yJ2_length_9d52b, Cond.static yJ2_length_9d52b, Cond.code yJ2_length_9d52b cJ2_length_9d52b 1 (some .int), Cond.methodLink RJ2 241 yJ0_checkBoundsBeginEnd_23922, Cond.static yJ0_checkBoundsBeginEnd_23922, Cond.initialized RJ0, Cond.code yJ0_checkBoundsBeginEnd_23922 cJ0_checkBoundsBeginEnd_23922 3 none, Cond.fieldLink RJ0 1053 "jdk/internal/util/Preconditions" "SIOOBE_FORMATTER" "Ljava/util/function/BiFunction;", Cond.methodLink RJ0 1062 yJ3_checkFromToIndex_8c36e, Cond.static yJ3_checkFromToIndex_8c36e, Cond.initialized RJ3, Cond.code yJ3_checkFromToIndex_8c36e cJ3_checkFromToIndex_8c36e 4 (some .int), Cond.methodLink RJ2 244 yJ2_indexOfCharUnsafe_4cfef, Cond.static yJ2_indexOfCharUnsafe_4cfef, Cond.code yJ2_indexOfCharUnsafe_4cfef cJ2_indexOfCharUnsafe_4cfef 5 (some .int), Cond.methodLink RJ2 71 yJ2_getChar_3b067, Cond.static yJ2_getChar_3b067, Cond.code yJ2_getChar_3b067 cJ2_getChar_3b067 2 (some .char), Cond.fieldLink RJ2 44 "java/lang/StringUTF16" "$assertionsDisabled" "Z", Cond.fieldLink RJ2 59 "java/lang/StringUTF16" "HI_BYTE_SHIFT" "I"]
def wsJ2_indexOfChar_4cfef_r2 : List Cond := [Cond.fieldLink RJ2 63 "java/lang/StringUTF16" "LO_BYTE_SHIFT" "I"]
def wsJ2_indexOfChar_4cfef : List Cond := .code yJ2_indexOfChar_4cfef cJ2_indexOfChar_4cfef 4 (some .int) :: ((wsJ2_indexOfChar_4cfef_r1 ++ wsJ2_indexOfChar_4cfef_r2))
def wsJ11_isValidCodePoint_9a6ad : List Cond := .code yJ11_isValidCodePoint_9a6ad cJ11_isValidCodePoint_9a6ad 2 (some .boolean) :: ([])
def wsJ11_highSurrogate_5068e : List Cond := .code yJ11_highSurrogate_5068e cJ11_highSurrogate_5068e 1 (some .char) :: ([.constant RJ11 110 (55232)])
def wsJ11_lowSurrogate_5068e : List Cond := .code yJ11_lowSurrogate_5068e cJ11_lowSurrogate_5068e 1 (some .char) :: ([.constant RJ11 76 (56320)])
def wsJ2_indexOfSupplementary_4cfef_r1 : List Cond := [Cond.methodLink RJ2 164 yJ11_isValidCodePoint_9a6ad, Cond.static yJ11_isValidCodePoint_9a6ad, Cond.initialized RJ11, Cond.code yJ11_isValidCodePoint_9a6ad cJ11_isValidCodePoint_9a6ad 2 (some .boolean), Cond.methodLink RJ2 157 yJ11_highSurrogate_5068e, Cond.static yJ11_highSurrogate_5068e, Cond.code yJ11_highSurrogate_5068e cJ11_highSurrogate_5068e 1 (some .char), Cond.constant RJ11 110 (55232), Cond.methodLink RJ2 161 yJ11_lowSurrogate_5068e, Cond.static yJ11_lowSurrogate_5068e, Cond.code yJ11_lowSurrogate_5068e cJ11_lowSurrogate_5068e 1 (some .char), Cond.constant RJ11 76 (56320), Cond.methodLink RJ2 96 yJ2_checkBoundsBeginEnd_d044e, Cond.static yJ2_checkBoundsBeginEnd_d044e, Cond.initialized RJ2, Cond.code yJ2_checkBoundsBeginEnd_d044e cJ2_checkBoundsBeginEnd_d044e 3 none, Cond.methodLink RJ2 48 yJ2_length_9d52b, Cond.static yJ2_length_9d52b, Cond.code yJ2_length_9d52b cJ2_length_9d52b 1 (some .int), Cond.methodLink RJ2 241 yJ0_checkBoundsBeginEnd_23922, Cond.static yJ0_checkBoundsBeginEnd_23922, Cond.initialized RJ0, Cond.code yJ0_checkBoundsBeginEnd_23922 cJ0_checkBoundsBeginEnd_23922 3 none, Cond.fieldLink RJ0 1053 "jdk/internal/util/Preconditions" "SIOOBE_FORMATTER" "Ljava/util/function/BiFunction;"]
def wsJ2_indexOfSupplementary_4cfef_r2 : List Cond := [Cond.methodLink RJ0 1062 yJ3_checkFromToIndex_8c36e, Cond.static yJ3_checkFromToIndex_8c36e, Cond.initialized RJ3, Cond.code yJ3_checkFromToIndex_8c36e cJ3_checkFromToIndex_8c36e 4 (some .int), Cond.methodLink RJ2 71 yJ2_getChar_3b067, Cond.static yJ2_getChar_3b067, Cond.code yJ2_getChar_3b067 cJ2_getChar_3b067 2 (some .char), Cond.fieldLink RJ2 44 "java/lang/StringUTF16" "$assertionsDisabled" "Z", Cond.fieldLink RJ2 59 "java/lang/StringUTF16" "HI_BYTE_SHIFT" "I", Cond.fieldLink RJ2 63 "java/lang/StringUTF16" "LO_BYTE_SHIFT" "I"]
def wsJ2_indexOfSupplementary_4cfef : List Cond := .code yJ2_indexOfSupplementary_4cfef cJ2_indexOfSupplementary_4cfef 7 (some .int) :: ((wsJ2_indexOfSupplementary_4cfef_r1 ++ wsJ2_indexOfSupplementary_4cfef_r2))
def wsJ2_indexOf_4cfef_r1 : List Cond := [Cond.methodLink RJ2 224 Lib.Math.max.name, Cond.static Lib.Math.max.name, Cond.initialized "java/lang/Math", Cond.code Lib.Math.max.name Lib.Math.max.code 2 (some .int), Cond.methodLink RJ2 183 Lib.Math.min.name, Cond.static Lib.Math.min.name, Cond.code Lib.Math.min.name Lib.Math.min.code 2 (some .int), Cond.constant RJ2 227 (65536), Cond.methodLink RJ2 228 yJ2_indexOfChar_4cfef, Cond.static yJ2_indexOfChar_4cfef, Cond.initialized RJ2, Cond.code yJ2_indexOfChar_4cfef cJ2_indexOfChar_4cfef 4 (some .int), Cond.methodLink RJ2 96 yJ2_checkBoundsBeginEnd_d044e, Cond.static yJ2_checkBoundsBeginEnd_d044e, Cond.code yJ2_checkBoundsBeginEnd_d044e cJ2_checkBoundsBeginEnd_d044e 3 none, Cond.methodLink RJ2 48 yJ2_length_9d52b, Cond.static yJ2_length_9d52b, Cond.code yJ2_length_9d52b cJ2_length_9d52b 1 (some .int), Cond.methodLink RJ2 241 yJ0_checkBoundsBeginEnd_23922, Cond.static yJ0_checkBoundsBeginEnd_23922, Cond.initialized RJ0, Cond.code yJ0_checkBoundsBeginEnd_23922 cJ0_checkBoundsBeginEnd_23922 3 none, Cond.fieldLink RJ0 1053 "jdk/internal/util/Preconditions" "SIOOBE_FORMATTER" "Ljava/util/function/BiFunction;", Cond.methodLink RJ0 1062 yJ3_checkFromToIndex_8c36e]
def wsJ2_indexOf_4cfef_r2 : List Cond := [Cond.static yJ3_checkFromToIndex_8c36e, Cond.initialized RJ3, Cond.code yJ3_checkFromToIndex_8c36e cJ3_checkFromToIndex_8c36e 4 (some .int), Cond.methodLink RJ2 244 yJ2_indexOfCharUnsafe_4cfef, Cond.static yJ2_indexOfCharUnsafe_4cfef, Cond.code yJ2_indexOfCharUnsafe_4cfef cJ2_indexOfCharUnsafe_4cfef 5 (some .int), Cond.methodLink RJ2 71 yJ2_getChar_3b067, Cond.static yJ2_getChar_3b067, Cond.code yJ2_getChar_3b067 cJ2_getChar_3b067 2 (some .char), Cond.fieldLink RJ2 44 "java/lang/StringUTF16" "$assertionsDisabled" "Z", Cond.fieldLink RJ2 59 "java/lang/StringUTF16" "HI_BYTE_SHIFT" "I", Cond.fieldLink RJ2 63 "java/lang/StringUTF16" "LO_BYTE_SHIFT" "I", Cond.methodLink RJ2 232 yJ2_indexOfSupplementary_4cfef, Cond.static yJ2_indexOfSupplementary_4cfef, Cond.code yJ2_indexOfSupplementary_4cfef cJ2_indexOfSupplementary_4cfef 7 (some .int), Cond.methodLink RJ2 164 yJ11_isValidCodePoint_9a6ad, Cond.static yJ11_isValidCodePoint_9a6ad, Cond.initialized RJ11, Cond.code yJ11_isValidCodePoint_9a6ad cJ11_isValidCodePoint_9a6ad 2 (some .boolean), Cond.methodLink RJ2 157 yJ11_highSurrogate_5068e, Cond.static yJ11_highSurrogate_5068e, Cond.code yJ11_highSurrogate_5068e cJ11_highSurrogate_5068e 1 (some .char), Cond.constant RJ11 110 (55232), Cond.methodLink RJ2 161 yJ11_lowSurrogate_5068e]
def wsJ2_indexOf_4cfef_r3 : List Cond := [Cond.static yJ11_lowSurrogate_5068e, Cond.code yJ11_lowSurrogate_5068e cJ11_lowSurrogate_5068e 1 (some .char), Cond.constant RJ11 76 (56320)]
def wsJ2_indexOf_4cfef : List Cond := .code yJ2_indexOf_4cfef cJ2_indexOf_4cfef 4 (some .int) :: ((wsJ2_indexOf_4cfef_r1 ++ (wsJ2_indexOf_4cfef_r2 ++ wsJ2_indexOf_4cfef_r3)))
def wsJ0_indexOf_7cf53_r1 : List Cond := [Cond.fieldLink RJ0 9 "java/lang/String" "value" "[B", Cond.methodLink RJ0 492 yJ0_isLatin1_aae02, Cond.instanceMethod yJ0_isLatin1_aae02, Cond.selects RJ0 yJ0_isLatin1_aae02 yJ0_isLatin1_aae02, Cond.initialized RJ0, Cond.code yJ0_isLatin1_aae02 cJ0_isLatin1_aae02 1 (some .boolean), Cond.fieldLink RJ0 38 "java/lang/String" "COMPACT_STRINGS" "Z", Cond.fieldLink RJ0 15 "java/lang/String" "coder" "B", Cond.methodLink RJ0 505 yJ0_length_8abf5, Cond.instanceMethod yJ0_length_8abf5, Cond.selects RJ0 yJ0_length_8abf5 yJ0_length_8abf5, Cond.code yJ0_length_8abf5 cJ0_length_8abf5 1 (some .int), Cond.methodLink RJ0 335 yJ0_coder_7d493, Cond.instanceMethod yJ0_coder_7d493, Cond.selects RJ0 yJ0_coder_7d493 yJ0_coder_7d493, Cond.code yJ0_coder_7d493 cJ0_coder_7d493 1 (some .byte), Cond.methodLink RJ0 637 yJ1_indexOf_4cfef, Cond.static yJ1_indexOf_4cfef, Cond.initialized RJ1, Cond.code yJ1_indexOf_4cfef cJ1_indexOf_4cfef 4 (some .int), Cond.methodLink RJ1 92 Lib.Math.max.name, Cond.static Lib.Math.max.name, Cond.initialized "java/lang/Math", Cond.code Lib.Math.max.name Lib.Math.max.code 2 (some .int)]
def wsJ0_indexOf_7cf53_r2 : List Cond := [Cond.methodLink RJ1 38 Lib.Math.min.name, Cond.static Lib.Math.min.name, Cond.code Lib.Math.min.name Lib.Math.min.code 2 (some .int), Cond.methodLink RJ1 88 yJ1_canEncode_9a6ad, Cond.static yJ1_canEncode_9a6ad, Cond.code yJ1_canEncode_9a6ad cJ1_canEncode_9a6ad 1 (some .boolean), Cond.methodLink RJ1 95 yJ1_indexOfChar_4cfef, Cond.static yJ1_indexOfChar_4cfef, Cond.code yJ1_indexOfChar_4cfef cJ1_indexOfChar_4cfef 6 (some .int), Cond.methodLink RJ0 640 yJ2_indexOf_4cfef, Cond.static yJ2_indexOf_4cfef, Cond.initialized RJ2, Cond.code yJ2_indexOf_4cfef cJ2_indexOf_4cfef 4 (some .int), Cond.methodLink RJ2 224 Lib.Math.max.name, Cond.methodLink RJ2 183 Lib.Math.min.name, Cond.constant RJ2 227 (65536), Cond.methodLink RJ2 228 yJ2_indexOfChar_4cfef, Cond.static yJ2_indexOfChar_4cfef, Cond.code yJ2_indexOfChar_4cfef cJ2_indexOfChar_4cfef 4 (some .int), Cond.methodLink RJ2 96 yJ2_checkBoundsBeginEnd_d044e, Cond.static yJ2_checkBoundsBeginEnd_d044e, Cond.code yJ2_checkBoundsBeginEnd_d044e cJ2_checkBoundsBeginEnd_d044e 3 none, Cond.methodLink RJ2 48 yJ2_length_9d52b, Cond.static yJ2_length_9d52b]
def wsJ0_indexOf_7cf53_r3 : List Cond := [Cond.code yJ2_length_9d52b cJ2_length_9d52b 1 (some .int), Cond.methodLink RJ2 241 yJ0_checkBoundsBeginEnd_23922, Cond.static yJ0_checkBoundsBeginEnd_23922, Cond.code yJ0_checkBoundsBeginEnd_23922 cJ0_checkBoundsBeginEnd_23922 3 none, Cond.fieldLink RJ0 1053 "jdk/internal/util/Preconditions" "SIOOBE_FORMATTER" "Ljava/util/function/BiFunction;", Cond.methodLink RJ0 1062 yJ3_checkFromToIndex_8c36e, Cond.static yJ3_checkFromToIndex_8c36e, Cond.initialized RJ3, Cond.code yJ3_checkFromToIndex_8c36e cJ3_checkFromToIndex_8c36e 4 (some .int), Cond.methodLink RJ2 244 yJ2_indexOfCharUnsafe_4cfef, Cond.static yJ2_indexOfCharUnsafe_4cfef, Cond.code yJ2_indexOfCharUnsafe_4cfef cJ2_indexOfCharUnsafe_4cfef 5 (some .int), Cond.methodLink RJ2 71 yJ2_getChar_3b067, Cond.static yJ2_getChar_3b067, Cond.code yJ2_getChar_3b067 cJ2_getChar_3b067 2 (some .char), Cond.fieldLink RJ2 44 "java/lang/StringUTF16" "$assertionsDisabled" "Z", Cond.fieldLink RJ2 59 "java/lang/StringUTF16" "HI_BYTE_SHIFT" "I", Cond.fieldLink RJ2 63 "java/lang/StringUTF16" "LO_BYTE_SHIFT" "I", Cond.methodLink RJ2 232 yJ2_indexOfSupplementary_4cfef, Cond.static yJ2_indexOfSupplementary_4cfef, Cond.code yJ2_indexOfSupplementary_4cfef cJ2_indexOfSupplementary_4cfef 7 (some .int), Cond.methodLink RJ2 164 yJ11_isValidCodePoint_9a6ad, Cond.static yJ11_isValidCodePoint_9a6ad, Cond.initialized RJ11]
def wsJ0_indexOf_7cf53_r4 : List Cond := [Cond.code yJ11_isValidCodePoint_9a6ad cJ11_isValidCodePoint_9a6ad 2 (some .boolean), Cond.methodLink RJ2 157 yJ11_highSurrogate_5068e, Cond.static yJ11_highSurrogate_5068e, Cond.code yJ11_highSurrogate_5068e cJ11_highSurrogate_5068e 1 (some .char), Cond.constant RJ11 110 (55232), Cond.methodLink RJ2 161 yJ11_lowSurrogate_5068e, Cond.static yJ11_lowSurrogate_5068e, Cond.code yJ11_lowSurrogate_5068e cJ11_lowSurrogate_5068e 1 (some .char), Cond.constant RJ11 76 (56320)]
def wsJ0_indexOf_7cf53 : List Cond := .code yJ0_indexOf_7cf53 cJ0_indexOf_7cf53 3 (some .int) :: ((wsJ0_indexOf_7cf53_r1 ++ (wsJ0_indexOf_7cf53_r2 ++ (wsJ0_indexOf_7cf53_r3 ++ wsJ0_indexOf_7cf53_r4))))
def wsJ0_indexOf_0f7a4_r1 : List Cond := [Cond.methodLink RJ0 633 yJ0_indexOf_7cf53, Cond.instanceMethod yJ0_indexOf_7cf53, Cond.selects RJ0 yJ0_indexOf_7cf53 yJ0_indexOf_7cf53, Cond.initialized RJ0, Cond.code yJ0_indexOf_7cf53 cJ0_indexOf_7cf53 3 (some .int), Cond.fieldLink RJ0 9 "java/lang/String" "value" "[B", Cond.methodLink RJ0 492 yJ0_isLatin1_aae02, Cond.instanceMethod yJ0_isLatin1_aae02, Cond.selects RJ0 yJ0_isLatin1_aae02 yJ0_isLatin1_aae02, Cond.code yJ0_isLatin1_aae02 cJ0_isLatin1_aae02 1 (some .boolean), Cond.fieldLink RJ0 38 "java/lang/String" "COMPACT_STRINGS" "Z", Cond.fieldLink RJ0 15 "java/lang/String" "coder" "B", Cond.methodLink RJ0 505 yJ0_length_8abf5, Cond.instanceMethod yJ0_length_8abf5, Cond.selects RJ0 yJ0_length_8abf5 yJ0_length_8abf5, Cond.code yJ0_length_8abf5 cJ0_length_8abf5 1 (some .int), Cond.methodLink RJ0 335 yJ0_coder_7d493, Cond.instanceMethod yJ0_coder_7d493, Cond.selects RJ0 yJ0_coder_7d493 yJ0_coder_7d493, Cond.code yJ0_coder_7d493 cJ0_coder_7d493 1 (some .byte), Cond.methodLink RJ0 637 yJ1_indexOf_4cfef, Cond.static yJ1_indexOf_4cfef, Cond.initialized RJ1, Cond.code yJ1_indexOf_4cfef cJ1_indexOf_4cfef 4 (some .int)]
def wsJ0_indexOf_0f7a4_r2 : List Cond := [Cond.methodLink RJ1 92 Lib.Math.max.name, Cond.static Lib.Math.max.name, Cond.initialized "java/lang/Math", Cond.code Lib.Math.max.name Lib.Math.max.code 2 (some .int), Cond.methodLink RJ1 38 Lib.Math.min.name, Cond.static Lib.Math.min.name, Cond.code Lib.Math.min.name Lib.Math.min.code 2 (some .int), Cond.methodLink RJ1 88 yJ1_canEncode_9a6ad, Cond.static yJ1_canEncode_9a6ad, Cond.code yJ1_canEncode_9a6ad cJ1_canEncode_9a6ad 1 (some .boolean), Cond.methodLink RJ1 95 yJ1_indexOfChar_4cfef, Cond.static yJ1_indexOfChar_4cfef, Cond.code yJ1_indexOfChar_4cfef cJ1_indexOfChar_4cfef 6 (some .int), Cond.methodLink RJ0 640 yJ2_indexOf_4cfef, Cond.static yJ2_indexOf_4cfef, Cond.initialized RJ2, Cond.code yJ2_indexOf_4cfef cJ2_indexOf_4cfef 4 (some .int), Cond.methodLink RJ2 224 Lib.Math.max.name, Cond.methodLink RJ2 183 Lib.Math.min.name, Cond.constant RJ2 227 (65536), Cond.methodLink RJ2 228 yJ2_indexOfChar_4cfef, Cond.static yJ2_indexOfChar_4cfef, Cond.code yJ2_indexOfChar_4cfef cJ2_indexOfChar_4cfef 4 (some .int), Cond.methodLink RJ2 96 yJ2_checkBoundsBeginEnd_d044e]
def wsJ0_indexOf_0f7a4_r3 : List Cond := [Cond.static yJ2_checkBoundsBeginEnd_d044e, Cond.code yJ2_checkBoundsBeginEnd_d044e cJ2_checkBoundsBeginEnd_d044e 3 none, Cond.methodLink RJ2 48 yJ2_length_9d52b, Cond.static yJ2_length_9d52b, Cond.code yJ2_length_9d52b cJ2_length_9d52b 1 (some .int), Cond.methodLink RJ2 241 yJ0_checkBoundsBeginEnd_23922, Cond.static yJ0_checkBoundsBeginEnd_23922, Cond.code yJ0_checkBoundsBeginEnd_23922 cJ0_checkBoundsBeginEnd_23922 3 none, Cond.fieldLink RJ0 1053 "jdk/internal/util/Preconditions" "SIOOBE_FORMATTER" "Ljava/util/function/BiFunction;", Cond.methodLink RJ0 1062 yJ3_checkFromToIndex_8c36e, Cond.static yJ3_checkFromToIndex_8c36e, Cond.initialized RJ3, Cond.code yJ3_checkFromToIndex_8c36e cJ3_checkFromToIndex_8c36e 4 (some .int), Cond.methodLink RJ2 244 yJ2_indexOfCharUnsafe_4cfef, Cond.static yJ2_indexOfCharUnsafe_4cfef, Cond.code yJ2_indexOfCharUnsafe_4cfef cJ2_indexOfCharUnsafe_4cfef 5 (some .int), Cond.methodLink RJ2 71 yJ2_getChar_3b067, Cond.static yJ2_getChar_3b067, Cond.code yJ2_getChar_3b067 cJ2_getChar_3b067 2 (some .char), Cond.fieldLink RJ2 44 "java/lang/StringUTF16" "$assertionsDisabled" "Z", Cond.fieldLink RJ2 59 "java/lang/StringUTF16" "HI_BYTE_SHIFT" "I", Cond.fieldLink RJ2 63 "java/lang/StringUTF16" "LO_BYTE_SHIFT" "I", Cond.methodLink RJ2 232 yJ2_indexOfSupplementary_4cfef, Cond.static yJ2_indexOfSupplementary_4cfef]
def wsJ0_indexOf_0f7a4_r4 : List Cond := [Cond.code yJ2_indexOfSupplementary_4cfef cJ2_indexOfSupplementary_4cfef 7 (some .int), Cond.methodLink RJ2 164 yJ11_isValidCodePoint_9a6ad, Cond.static yJ11_isValidCodePoint_9a6ad, Cond.initialized RJ11, Cond.code yJ11_isValidCodePoint_9a6ad cJ11_isValidCodePoint_9a6ad 2 (some .boolean), Cond.methodLink RJ2 157 yJ11_highSurrogate_5068e, Cond.static yJ11_highSurrogate_5068e, Cond.code yJ11_highSurrogate_5068e cJ11_highSurrogate_5068e 1 (some .char), Cond.constant RJ11 110 (55232), Cond.methodLink RJ2 161 yJ11_lowSurrogate_5068e, Cond.static yJ11_lowSurrogate_5068e, Cond.code yJ11_lowSurrogate_5068e cJ11_lowSurrogate_5068e 1 (some .char), Cond.constant RJ11 76 (56320)]
def wsJ0_indexOf_0f7a4 : List Cond := .code yJ0_indexOf_0f7a4 cJ0_indexOf_0f7a4 2 (some .int) :: ((wsJ0_indexOf_0f7a4_r1 ++ (wsJ0_indexOf_0f7a4_r2 ++ (wsJ0_indexOf_0f7a4_r3 ++ wsJ0_indexOf_0f7a4_r4))))
def wsX2_canStand_r1 : List Cond := [Cond.methodLink RX2 31 yJ0_indexOf_0f7a4, Cond.instanceMethod yJ0_indexOf_0f7a4, Cond.selects RJ0 yJ0_indexOf_0f7a4 yJ0_indexOf_0f7a4, Cond.initialized RJ0, Cond.code yJ0_indexOf_0f7a4 cJ0_indexOf_0f7a4 2 (some .int), Cond.methodLink RJ0 633 yJ0_indexOf_7cf53, Cond.instanceMethod yJ0_indexOf_7cf53, Cond.selects RJ0 yJ0_indexOf_7cf53 yJ0_indexOf_7cf53, Cond.code yJ0_indexOf_7cf53 cJ0_indexOf_7cf53 3 (some .int), Cond.fieldLink RJ0 9 "java/lang/String" "value" "[B", Cond.methodLink RJ0 492 yJ0_isLatin1_aae02, Cond.instanceMethod yJ0_isLatin1_aae02, Cond.selects RJ0 yJ0_isLatin1_aae02 yJ0_isLatin1_aae02, Cond.code yJ0_isLatin1_aae02 cJ0_isLatin1_aae02 1 (some .boolean), Cond.fieldLink RJ0 38 "java/lang/String" "COMPACT_STRINGS" "Z", Cond.fieldLink RJ0 15 "java/lang/String" "coder" "B", Cond.methodLink RJ0 505 yJ0_length_8abf5, Cond.instanceMethod yJ0_length_8abf5, Cond.selects RJ0 yJ0_length_8abf5 yJ0_length_8abf5, Cond.code yJ0_length_8abf5 cJ0_length_8abf5 1 (some .int), Cond.methodLink RJ0 335 yJ0_coder_7d493, Cond.instanceMethod yJ0_coder_7d493, Cond.selects RJ0 yJ0_coder_7d493 yJ0_coder_7d493, Cond.code yJ0_coder_7d493 cJ0_coder_7d493 1 (some .byte)]
def wsX2_canStand_r2 : List Cond := [Cond.methodLink RJ0 637 yJ1_indexOf_4cfef, Cond.static yJ1_indexOf_4cfef, Cond.initialized RJ1, Cond.code yJ1_indexOf_4cfef cJ1_indexOf_4cfef 4 (some .int), Cond.methodLink RJ1 92 Lib.Math.max.name, Cond.static Lib.Math.max.name, Cond.initialized "java/lang/Math", Cond.code Lib.Math.max.name Lib.Math.max.code 2 (some .int), Cond.methodLink RJ1 38 Lib.Math.min.name, Cond.static Lib.Math.min.name, Cond.code Lib.Math.min.name Lib.Math.min.code 2 (some .int), Cond.methodLink RJ1 88 yJ1_canEncode_9a6ad, Cond.static yJ1_canEncode_9a6ad, Cond.code yJ1_canEncode_9a6ad cJ1_canEncode_9a6ad 1 (some .boolean), Cond.methodLink RJ1 95 yJ1_indexOfChar_4cfef, Cond.static yJ1_indexOfChar_4cfef, Cond.code yJ1_indexOfChar_4cfef cJ1_indexOfChar_4cfef 6 (some .int), Cond.methodLink RJ0 640 yJ2_indexOf_4cfef, Cond.static yJ2_indexOf_4cfef, Cond.initialized RJ2, Cond.code yJ2_indexOf_4cfef cJ2_indexOf_4cfef 4 (some .int), Cond.methodLink RJ2 224 Lib.Math.max.name, Cond.methodLink RJ2 183 Lib.Math.min.name, Cond.constant RJ2 227 (65536)]
def wsX2_canStand_r3 : List Cond := [Cond.methodLink RJ2 228 yJ2_indexOfChar_4cfef, Cond.static yJ2_indexOfChar_4cfef, Cond.code yJ2_indexOfChar_4cfef cJ2_indexOfChar_4cfef 4 (some .int), Cond.methodLink RJ2 96 yJ2_checkBoundsBeginEnd_d044e, Cond.static yJ2_checkBoundsBeginEnd_d044e, Cond.code yJ2_checkBoundsBeginEnd_d044e cJ2_checkBoundsBeginEnd_d044e 3 none, Cond.methodLink RJ2 48 yJ2_length_9d52b, Cond.static yJ2_length_9d52b, Cond.code yJ2_length_9d52b cJ2_length_9d52b 1 (some .int), Cond.methodLink RJ2 241 yJ0_checkBoundsBeginEnd_23922, Cond.static yJ0_checkBoundsBeginEnd_23922, Cond.code yJ0_checkBoundsBeginEnd_23922 cJ0_checkBoundsBeginEnd_23922 3 none, Cond.fieldLink RJ0 1053 "jdk/internal/util/Preconditions" "SIOOBE_FORMATTER" "Ljava/util/function/BiFunction;", Cond.methodLink RJ0 1062 yJ3_checkFromToIndex_8c36e, Cond.static yJ3_checkFromToIndex_8c36e, Cond.initialized RJ3, Cond.code yJ3_checkFromToIndex_8c36e cJ3_checkFromToIndex_8c36e 4 (some .int), Cond.methodLink RJ2 244 yJ2_indexOfCharUnsafe_4cfef, Cond.static yJ2_indexOfCharUnsafe_4cfef, Cond.code yJ2_indexOfCharUnsafe_4cfef cJ2_indexOfCharUnsafe_4cfef 5 (some .int), Cond.methodLink RJ2 71 yJ2_getChar_3b067, Cond.static yJ2_getChar_3b067, Cond.code yJ2_getChar_3b067 cJ2_getChar_3b067 2 (some .char), Cond.fieldLink RJ2 44 "java/lang/StringUTF16" "$assertionsDisabled" "Z"]
def wsX2_canStand_r4 : List Cond := [Cond.fieldLink RJ2 59 "java/lang/StringUTF16" "HI_BYTE_SHIFT" "I", Cond.fieldLink RJ2 63 "java/lang/StringUTF16" "LO_BYTE_SHIFT" "I", Cond.methodLink RJ2 232 yJ2_indexOfSupplementary_4cfef, Cond.static yJ2_indexOfSupplementary_4cfef, Cond.code yJ2_indexOfSupplementary_4cfef cJ2_indexOfSupplementary_4cfef 7 (some .int), Cond.methodLink RJ2 164 yJ11_isValidCodePoint_9a6ad, Cond.static yJ11_isValidCodePoint_9a6ad, Cond.initialized RJ11, Cond.code yJ11_isValidCodePoint_9a6ad cJ11_isValidCodePoint_9a6ad 2 (some .boolean), Cond.methodLink RJ2 157 yJ11_highSurrogate_5068e, Cond.static yJ11_highSurrogate_5068e, Cond.code yJ11_highSurrogate_5068e cJ11_highSurrogate_5068e 1 (some .char), Cond.constant RJ11 110 (55232), Cond.methodLink RJ2 161 yJ11_lowSurrogate_5068e, Cond.static yJ11_lowSurrogate_5068e, Cond.code yJ11_lowSurrogate_5068e cJ11_lowSurrogate_5068e 1 (some .char), Cond.constant RJ11 76 (56320)]
def wsX2_canStand : List Cond := .code yX2_canStand cX2_canStand 2 (some .boolean) :: ((wsX2_canStand_r1 ++ (wsX2_canStand_r2 ++ (wsX2_canStand_r3 ++ wsX2_canStand_r4))))
def wsX2_firstFault_r1 : List Cond := [Cond.fieldLink RX2 15 "DippedWaves$Pad" "length" "I", Cond.fieldLink RX2 9 "DippedWaves$Pad" "signs" "[C", Cond.methodLink RX2 25 yX2_canStand, Cond.static yX2_canStand, Cond.initialized RX2, Cond.code yX2_canStand cX2_canStand 2 (some .boolean), Cond.methodLink RX2 31 yJ0_indexOf_0f7a4, Cond.instanceMethod yJ0_indexOf_0f7a4, Cond.selects RJ0 yJ0_indexOf_0f7a4 yJ0_indexOf_0f7a4, Cond.initialized RJ0, Cond.code yJ0_indexOf_0f7a4 cJ0_indexOf_0f7a4 2 (some .int), Cond.methodLink RJ0 633 yJ0_indexOf_7cf53, Cond.instanceMethod yJ0_indexOf_7cf53, Cond.selects RJ0 yJ0_indexOf_7cf53 yJ0_indexOf_7cf53, Cond.code yJ0_indexOf_7cf53 cJ0_indexOf_7cf53 3 (some .int), Cond.fieldLink RJ0 9 "java/lang/String" "value" "[B", Cond.methodLink RJ0 492 yJ0_isLatin1_aae02, Cond.instanceMethod yJ0_isLatin1_aae02, Cond.selects RJ0 yJ0_isLatin1_aae02 yJ0_isLatin1_aae02, Cond.code yJ0_isLatin1_aae02 cJ0_isLatin1_aae02 1 (some .boolean), Cond.fieldLink RJ0 38 "java/lang/String" "COMPACT_STRINGS" "Z", Cond.fieldLink RJ0 15 "java/lang/String" "coder" "B", Cond.methodLink RJ0 505 yJ0_length_8abf5, Cond.instanceMethod yJ0_length_8abf5]
def wsX2_firstFault_r2 : List Cond := [Cond.selects RJ0 yJ0_length_8abf5 yJ0_length_8abf5, Cond.code yJ0_length_8abf5 cJ0_length_8abf5 1 (some .int), Cond.methodLink RJ0 335 yJ0_coder_7d493, Cond.instanceMethod yJ0_coder_7d493, Cond.selects RJ0 yJ0_coder_7d493 yJ0_coder_7d493, Cond.code yJ0_coder_7d493 cJ0_coder_7d493 1 (some .byte), Cond.methodLink RJ0 637 yJ1_indexOf_4cfef, Cond.static yJ1_indexOf_4cfef, Cond.initialized RJ1, Cond.code yJ1_indexOf_4cfef cJ1_indexOf_4cfef 4 (some .int), Cond.methodLink RJ1 92 Lib.Math.max.name, Cond.static Lib.Math.max.name, Cond.initialized "java/lang/Math", Cond.code Lib.Math.max.name Lib.Math.max.code 2 (some .int), Cond.methodLink RJ1 38 Lib.Math.min.name, Cond.static Lib.Math.min.name, Cond.code Lib.Math.min.name Lib.Math.min.code 2 (some .int), Cond.methodLink RJ1 88 yJ1_canEncode_9a6ad, Cond.static yJ1_canEncode_9a6ad, Cond.code yJ1_canEncode_9a6ad cJ1_canEncode_9a6ad 1 (some .boolean), Cond.methodLink RJ1 95 yJ1_indexOfChar_4cfef, Cond.static yJ1_indexOfChar_4cfef, Cond.code yJ1_indexOfChar_4cfef cJ1_indexOfChar_4cfef 6 (some .int), Cond.methodLink RJ0 640 yJ2_indexOf_4cfef]
def wsX2_firstFault_r3 : List Cond := [Cond.static yJ2_indexOf_4cfef, Cond.initialized RJ2, Cond.code yJ2_indexOf_4cfef cJ2_indexOf_4cfef 4 (some .int), Cond.methodLink RJ2 224 Lib.Math.max.name, Cond.methodLink RJ2 183 Lib.Math.min.name, Cond.constant RJ2 227 (65536), Cond.methodLink RJ2 228 yJ2_indexOfChar_4cfef, Cond.static yJ2_indexOfChar_4cfef, Cond.code yJ2_indexOfChar_4cfef cJ2_indexOfChar_4cfef 4 (some .int), Cond.methodLink RJ2 96 yJ2_checkBoundsBeginEnd_d044e, Cond.static yJ2_checkBoundsBeginEnd_d044e, Cond.code yJ2_checkBoundsBeginEnd_d044e cJ2_checkBoundsBeginEnd_d044e 3 none, Cond.methodLink RJ2 48 yJ2_length_9d52b, Cond.static yJ2_length_9d52b, Cond.code yJ2_length_9d52b cJ2_length_9d52b 1 (some .int), Cond.methodLink RJ2 241 yJ0_checkBoundsBeginEnd_23922, Cond.static yJ0_checkBoundsBeginEnd_23922, Cond.code yJ0_checkBoundsBeginEnd_23922 cJ0_checkBoundsBeginEnd_23922 3 none, Cond.fieldLink RJ0 1053 "jdk/internal/util/Preconditions" "SIOOBE_FORMATTER" "Ljava/util/function/BiFunction;", Cond.methodLink RJ0 1062 yJ3_checkFromToIndex_8c36e, Cond.static yJ3_checkFromToIndex_8c36e, Cond.initialized RJ3, Cond.code yJ3_checkFromToIndex_8c36e cJ3_checkFromToIndex_8c36e 4 (some .int), Cond.methodLink RJ2 244 yJ2_indexOfCharUnsafe_4cfef]
def wsX2_firstFault_r4 : List Cond := [Cond.static yJ2_indexOfCharUnsafe_4cfef, Cond.code yJ2_indexOfCharUnsafe_4cfef cJ2_indexOfCharUnsafe_4cfef 5 (some .int), Cond.methodLink RJ2 71 yJ2_getChar_3b067, Cond.static yJ2_getChar_3b067, Cond.code yJ2_getChar_3b067 cJ2_getChar_3b067 2 (some .char), Cond.fieldLink RJ2 44 "java/lang/StringUTF16" "$assertionsDisabled" "Z", Cond.fieldLink RJ2 59 "java/lang/StringUTF16" "HI_BYTE_SHIFT" "I", Cond.fieldLink RJ2 63 "java/lang/StringUTF16" "LO_BYTE_SHIFT" "I", Cond.methodLink RJ2 232 yJ2_indexOfSupplementary_4cfef, Cond.static yJ2_indexOfSupplementary_4cfef, Cond.code yJ2_indexOfSupplementary_4cfef cJ2_indexOfSupplementary_4cfef 7 (some .int), Cond.methodLink RJ2 164 yJ11_isValidCodePoint_9a6ad, Cond.static yJ11_isValidCodePoint_9a6ad, Cond.initialized RJ11, Cond.code yJ11_isValidCodePoint_9a6ad cJ11_isValidCodePoint_9a6ad 2 (some .boolean), Cond.methodLink RJ2 157 yJ11_highSurrogate_5068e, Cond.static yJ11_highSurrogate_5068e, Cond.code yJ11_highSurrogate_5068e cJ11_highSurrogate_5068e 1 (some .char), Cond.constant RJ11 110 (55232), Cond.methodLink RJ2 161 yJ11_lowSurrogate_5068e, Cond.static yJ11_lowSurrogate_5068e, Cond.code yJ11_lowSurrogate_5068e cJ11_lowSurrogate_5068e 1 (some .char), Cond.constant RJ11 76 (56320)]
def wsX2_firstFault : List Cond := .code yX2_firstFault cX2_firstFault 2 (some .int) :: ((wsX2_firstFault_r1 ++ (wsX2_firstFault_r2 ++ (wsX2_firstFault_r3 ++ wsX2_firstFault_r4))) ++ wsX20)
def wsX2_floorOf_r1 : List Cond := [Cond.fieldLink RX2 9 "DippedWaves$Pad" "signs" "[C", Cond.methodLink RX2 31 yJ0_indexOf_0f7a4, Cond.instanceMethod yJ0_indexOf_0f7a4, Cond.selects RJ0 yJ0_indexOf_0f7a4 yJ0_indexOf_0f7a4, Cond.initialized RJ0, Cond.code yJ0_indexOf_0f7a4 cJ0_indexOf_0f7a4 2 (some .int), Cond.methodLink RJ0 633 yJ0_indexOf_7cf53, Cond.instanceMethod yJ0_indexOf_7cf53, Cond.selects RJ0 yJ0_indexOf_7cf53 yJ0_indexOf_7cf53, Cond.code yJ0_indexOf_7cf53 cJ0_indexOf_7cf53 3 (some .int), Cond.fieldLink RJ0 9 "java/lang/String" "value" "[B", Cond.methodLink RJ0 492 yJ0_isLatin1_aae02, Cond.instanceMethod yJ0_isLatin1_aae02, Cond.selects RJ0 yJ0_isLatin1_aae02 yJ0_isLatin1_aae02, Cond.code yJ0_isLatin1_aae02 cJ0_isLatin1_aae02 1 (some .boolean), Cond.fieldLink RJ0 38 "java/lang/String" "COMPACT_STRINGS" "Z", Cond.fieldLink RJ0 15 "java/lang/String" "coder" "B", Cond.methodLink RJ0 505 yJ0_length_8abf5, Cond.instanceMethod yJ0_length_8abf5, Cond.selects RJ0 yJ0_length_8abf5 yJ0_length_8abf5, Cond.code yJ0_length_8abf5 cJ0_length_8abf5 1 (some .int), Cond.methodLink RJ0 335 yJ0_coder_7d493, Cond.instanceMethod yJ0_coder_7d493, Cond.selects RJ0 yJ0_coder_7d493 yJ0_coder_7d493]
def wsX2_floorOf_r2 : List Cond := [Cond.code yJ0_coder_7d493 cJ0_coder_7d493 1 (some .byte), Cond.methodLink RJ0 637 yJ1_indexOf_4cfef, Cond.static yJ1_indexOf_4cfef, Cond.initialized RJ1, Cond.code yJ1_indexOf_4cfef cJ1_indexOf_4cfef 4 (some .int), Cond.methodLink RJ1 92 Lib.Math.max.name, Cond.static Lib.Math.max.name, Cond.initialized "java/lang/Math", Cond.code Lib.Math.max.name Lib.Math.max.code 2 (some .int), Cond.methodLink RJ1 38 Lib.Math.min.name, Cond.static Lib.Math.min.name, Cond.code Lib.Math.min.name Lib.Math.min.code 2 (some .int), Cond.methodLink RJ1 88 yJ1_canEncode_9a6ad, Cond.static yJ1_canEncode_9a6ad, Cond.code yJ1_canEncode_9a6ad cJ1_canEncode_9a6ad 1 (some .boolean), Cond.methodLink RJ1 95 yJ1_indexOfChar_4cfef, Cond.static yJ1_indexOfChar_4cfef, Cond.code yJ1_indexOfChar_4cfef cJ1_indexOfChar_4cfef 6 (some .int), Cond.methodLink RJ0 640 yJ2_indexOf_4cfef, Cond.static yJ2_indexOf_4cfef, Cond.initialized RJ2, Cond.code yJ2_indexOf_4cfef cJ2_indexOf_4cfef 4 (some .int), Cond.methodLink RJ2 224 Lib.Math.max.name, Cond.methodLink RJ2 183 Lib.Math.min.name]
def wsX2_floorOf_r3 : List Cond := [Cond.constant RJ2 227 (65536), Cond.methodLink RJ2 228 yJ2_indexOfChar_4cfef, Cond.static yJ2_indexOfChar_4cfef, Cond.code yJ2_indexOfChar_4cfef cJ2_indexOfChar_4cfef 4 (some .int), Cond.methodLink RJ2 96 yJ2_checkBoundsBeginEnd_d044e, Cond.static yJ2_checkBoundsBeginEnd_d044e, Cond.code yJ2_checkBoundsBeginEnd_d044e cJ2_checkBoundsBeginEnd_d044e 3 none, Cond.methodLink RJ2 48 yJ2_length_9d52b, Cond.static yJ2_length_9d52b, Cond.code yJ2_length_9d52b cJ2_length_9d52b 1 (some .int), Cond.methodLink RJ2 241 yJ0_checkBoundsBeginEnd_23922, Cond.static yJ0_checkBoundsBeginEnd_23922, Cond.code yJ0_checkBoundsBeginEnd_23922 cJ0_checkBoundsBeginEnd_23922 3 none, Cond.fieldLink RJ0 1053 "jdk/internal/util/Preconditions" "SIOOBE_FORMATTER" "Ljava/util/function/BiFunction;", Cond.methodLink RJ0 1062 yJ3_checkFromToIndex_8c36e, Cond.static yJ3_checkFromToIndex_8c36e, Cond.initialized RJ3, Cond.code yJ3_checkFromToIndex_8c36e cJ3_checkFromToIndex_8c36e 4 (some .int), Cond.methodLink RJ2 244 yJ2_indexOfCharUnsafe_4cfef, Cond.static yJ2_indexOfCharUnsafe_4cfef, Cond.code yJ2_indexOfCharUnsafe_4cfef cJ2_indexOfCharUnsafe_4cfef 5 (some .int), Cond.methodLink RJ2 71 yJ2_getChar_3b067, Cond.static yJ2_getChar_3b067, Cond.code yJ2_getChar_3b067 cJ2_getChar_3b067 2 (some .char)]
def wsX2_floorOf_r4 : List Cond := [Cond.fieldLink RJ2 44 "java/lang/StringUTF16" "$assertionsDisabled" "Z", Cond.fieldLink RJ2 59 "java/lang/StringUTF16" "HI_BYTE_SHIFT" "I", Cond.fieldLink RJ2 63 "java/lang/StringUTF16" "LO_BYTE_SHIFT" "I", Cond.methodLink RJ2 232 yJ2_indexOfSupplementary_4cfef, Cond.static yJ2_indexOfSupplementary_4cfef, Cond.code yJ2_indexOfSupplementary_4cfef cJ2_indexOfSupplementary_4cfef 7 (some .int), Cond.methodLink RJ2 164 yJ11_isValidCodePoint_9a6ad, Cond.static yJ11_isValidCodePoint_9a6ad, Cond.initialized RJ11, Cond.code yJ11_isValidCodePoint_9a6ad cJ11_isValidCodePoint_9a6ad 2 (some .boolean), Cond.methodLink RJ2 157 yJ11_highSurrogate_5068e, Cond.static yJ11_highSurrogate_5068e, Cond.code yJ11_highSurrogate_5068e cJ11_highSurrogate_5068e 1 (some .char), Cond.constant RJ11 110 (55232), Cond.methodLink RJ2 161 yJ11_lowSurrogate_5068e, Cond.static yJ11_lowSurrogate_5068e, Cond.code yJ11_lowSurrogate_5068e cJ11_lowSurrogate_5068e 1 (some .char), Cond.constant RJ11 76 (56320)]
def wsX2_floorOf : List Cond := .code yX2_floorOf cX2_floorOf 2 (some .int) :: ((wsX2_floorOf_r1 ++ (wsX2_floorOf_r2 ++ (wsX2_floorOf_r3 ++ wsX2_floorOf_r4))) ++ wsX20)
def wsX3_append : List Cond := .code yX3_append cX3_append 2 (some .int) :: ([.fieldLink RX3 9 "DippedWaves$Probes" "cells" "[I", .fieldLink RX3 23 "DippedWaves$Probes" "many" "I", .fieldLink RX3 15 "DippedWaves$Probes" "lengths" "[I"] ++ wsX30)
def wsX3_forget : List Cond := .code yX3_forget cX3_forget 1 none :: ([.fieldLink RX3 15 "DippedWaves$Probes" "lengths" "[I", .methodLink RX3 33 yJ7_fill_53178, .static yJ7_fill_53178, .initialized RJ7, .code yJ7_fill_53178 cJ7_fill_53178 4 none] ++ wsX30)
def wsX3_look : List Cond := .code yX3_look cX3_look 3 none :: ([.fieldLink RX3 23 "DippedWaves$Probes" "many" "I", .fieldLink RX3 20 "DippedWaves$Probes" "heights" "[[I", .methodLink RX3 27 arraycopyName, .native arraycopyName, .static arraycopyName, .initialized "java/lang/System", .fieldLink RX3 9 "DippedWaves$Probes" "cells" "[I", .fieldLink RX3 15 "DippedWaves$Probes" "lengths" "[I", .methodLink RX3 39 Lib.Math.min.name, .static Lib.Math.min.name, .initialized "java/lang/Math", .code Lib.Math.min.name Lib.Math.min.code 2 (some .int)] ++ wsX30)
def wsX3_greatestOf : List Cond := .code yX3_greatestOf cX3_greatestOf 4 (some .int) :: ([.fieldLink RX3 20 "DippedWaves$Probes" "heights" "[[I", .fieldLink RX3 15 "DippedWaves$Probes" "lengths" "[I", .methodLink RX3 45 Lib.Math.max.name, .static Lib.Math.max.name, .initialized "java/lang/Math", .code Lib.Math.max.name Lib.Math.max.code 2 (some .int)] ++ wsX30)
def wsX3_differences : List Cond := .code yX3_differences cX3_differences 5 (some .int) :: ([.fieldLink RX3 20 "DippedWaves$Probes" "heights" "[[I", .methodLink RX3 51 Lib.Math.abs.name, .static Lib.Math.abs.name, .initialized "java/lang/Math", .code Lib.Math.abs.name Lib.Math.abs.code 1 (some .int)] ++ wsX30)
def wsX3_beatOf : List Cond := .code yX3_beatOf cX3_beatOf 6 (some .int) :: ([.fieldLink RX3 15 "DippedWaves$Probes" "lengths" "[I", .methodLink RX3 48 yX3_differences, .instanceMethod yX3_differences, .selects RX3 yX3_differences yX3_differences, .initialized RX3, .code yX3_differences cX3_differences 5 (some .int), .fieldLink RX3 20 "DippedWaves$Probes" "heights" "[[I", .methodLink RX3 51 Lib.Math.abs.name, .static Lib.Math.abs.name, .initialized "java/lang/Math", .code Lib.Math.abs.name Lib.Math.abs.code 1 (some .int)] ++ wsX30)
def wsX4_lay : List Cond := .code yX4_lay cX4_lay 3 none :: ([.fieldLink RX4 23 "DippedWaves$Tank" "floors" "[I", .fieldLink RX4 26 "DippedWaves$Tank" "heights" "[I", .fieldLink RX4 29 "DippedWaves$Tank" "ahead" "[I"] ++ wsX40)
def wsX4_calm : List Cond := .code yX4_calm cX4_calm 1 none :: ([.fieldLink RX4 26 "DippedWaves$Tank" "heights" "[I", .fieldLink RX4 29 "DippedWaves$Tank" "ahead" "[I", .fieldLink RX4 32 "DippedWaves$Tank" "firsts" "[I", .fieldLink RX4 45 "DippedWaves$Tank" "probes" "LDippedWaves$Probes;", .fieldLink RX4 49 "DippedWaves$Tank" "tick" "I", .methodLink RX4 53 yJ7_fill_53178, .static yJ7_fill_53178, .initialized RJ7, .code yJ7_fill_53178 cJ7_fill_53178 4 none, .methodLink RX4 85 yX3_forget, .instanceMethod yX3_forget, .selects RX3 yX3_forget yX3_forget, .initialized RX3, .code yX3_forget cX3_forget 1 none, .fieldLink RX3 15 "DippedWaves$Probes" "lengths" "[I", .methodLink RX3 33 yJ7_fill_53178] ++ wsX40 ++ wsX30)
def wsX4_layAll_r1 : List Cond := [Cond.fieldLink RX4 23 "DippedWaves$Tank" "floors" "[I", Cond.fieldLink RX4 38 "DippedWaves$Tank" "dippers" "LDippedWaves$Dippers;", Cond.fieldLink RX4 78 "DippedWaves$Dippers" "many" "I", Cond.fieldLink RX4 45 "DippedWaves$Tank" "probes" "LDippedWaves$Probes;", Cond.fieldLink RX4 81 "DippedWaves$Probes" "many" "I", Cond.methodLink RX4 72 yX2_floorOf, Cond.instanceMethod yX2_floorOf, Cond.selects RX2 yX2_floorOf yX2_floorOf, Cond.initialized RX2, Cond.code yX2_floorOf cX2_floorOf 2 (some .int), Cond.fieldLink RX2 9 "DippedWaves$Pad" "signs" "[C", Cond.methodLink RX2 31 yJ0_indexOf_0f7a4, Cond.instanceMethod yJ0_indexOf_0f7a4, Cond.selects RJ0 yJ0_indexOf_0f7a4 yJ0_indexOf_0f7a4, Cond.initialized RJ0, Cond.code yJ0_indexOf_0f7a4 cJ0_indexOf_0f7a4 2 (some .int), Cond.methodLink RJ0 633 yJ0_indexOf_7cf53, Cond.instanceMethod yJ0_indexOf_7cf53, Cond.selects RJ0 yJ0_indexOf_7cf53 yJ0_indexOf_7cf53, Cond.code yJ0_indexOf_7cf53 cJ0_indexOf_7cf53 3 (some .int), Cond.fieldLink RJ0 9 "java/lang/String" "value" "[B", Cond.methodLink RJ0 492 yJ0_isLatin1_aae02, Cond.instanceMethod yJ0_isLatin1_aae02, Cond.selects RJ0 yJ0_isLatin1_aae02 yJ0_isLatin1_aae02]
def wsX4_layAll_r2 : List Cond := [Cond.code yJ0_isLatin1_aae02 cJ0_isLatin1_aae02 1 (some .boolean), Cond.fieldLink RJ0 38 "java/lang/String" "COMPACT_STRINGS" "Z", Cond.fieldLink RJ0 15 "java/lang/String" "coder" "B", Cond.methodLink RJ0 505 yJ0_length_8abf5, Cond.instanceMethod yJ0_length_8abf5, Cond.selects RJ0 yJ0_length_8abf5 yJ0_length_8abf5, Cond.code yJ0_length_8abf5 cJ0_length_8abf5 1 (some .int), Cond.methodLink RJ0 335 yJ0_coder_7d493, Cond.instanceMethod yJ0_coder_7d493, Cond.selects RJ0 yJ0_coder_7d493 yJ0_coder_7d493, Cond.code yJ0_coder_7d493 cJ0_coder_7d493 1 (some .byte), Cond.methodLink RJ0 637 yJ1_indexOf_4cfef, Cond.static yJ1_indexOf_4cfef, Cond.initialized RJ1, Cond.code yJ1_indexOf_4cfef cJ1_indexOf_4cfef 4 (some .int), Cond.methodLink RJ1 92 Lib.Math.max.name, Cond.static Lib.Math.max.name, Cond.initialized "java/lang/Math", Cond.code Lib.Math.max.name Lib.Math.max.code 2 (some .int), Cond.methodLink RJ1 38 Lib.Math.min.name, Cond.static Lib.Math.min.name, Cond.code Lib.Math.min.name Lib.Math.min.code 2 (some .int), Cond.methodLink RJ1 88 yJ1_canEncode_9a6ad, Cond.static yJ1_canEncode_9a6ad]
def wsX4_layAll_r3 : List Cond := [Cond.code yJ1_canEncode_9a6ad cJ1_canEncode_9a6ad 1 (some .boolean), Cond.methodLink RJ1 95 yJ1_indexOfChar_4cfef, Cond.static yJ1_indexOfChar_4cfef, Cond.code yJ1_indexOfChar_4cfef cJ1_indexOfChar_4cfef 6 (some .int), Cond.methodLink RJ0 640 yJ2_indexOf_4cfef, Cond.static yJ2_indexOf_4cfef, Cond.initialized RJ2, Cond.code yJ2_indexOf_4cfef cJ2_indexOf_4cfef 4 (some .int), Cond.methodLink RJ2 224 Lib.Math.max.name, Cond.methodLink RJ2 183 Lib.Math.min.name, Cond.constant RJ2 227 (65536), Cond.methodLink RJ2 228 yJ2_indexOfChar_4cfef, Cond.static yJ2_indexOfChar_4cfef, Cond.code yJ2_indexOfChar_4cfef cJ2_indexOfChar_4cfef 4 (some .int), Cond.methodLink RJ2 96 yJ2_checkBoundsBeginEnd_d044e, Cond.static yJ2_checkBoundsBeginEnd_d044e, Cond.code yJ2_checkBoundsBeginEnd_d044e cJ2_checkBoundsBeginEnd_d044e 3 none, Cond.methodLink RJ2 48 yJ2_length_9d52b, Cond.static yJ2_length_9d52b, Cond.code yJ2_length_9d52b cJ2_length_9d52b 1 (some .int), Cond.methodLink RJ2 241 yJ0_checkBoundsBeginEnd_23922, Cond.static yJ0_checkBoundsBeginEnd_23922, Cond.code yJ0_checkBoundsBeginEnd_23922 cJ0_checkBoundsBeginEnd_23922 3 none, Cond.fieldLink RJ0 1053 "jdk/internal/util/Preconditions" "SIOOBE_FORMATTER" "Ljava/util/function/BiFunction;"]
def wsX4_layAll_r4 : List Cond := [Cond.methodLink RJ0 1062 yJ3_checkFromToIndex_8c36e, Cond.static yJ3_checkFromToIndex_8c36e, Cond.initialized RJ3, Cond.code yJ3_checkFromToIndex_8c36e cJ3_checkFromToIndex_8c36e 4 (some .int), Cond.methodLink RJ2 244 yJ2_indexOfCharUnsafe_4cfef, Cond.static yJ2_indexOfCharUnsafe_4cfef, Cond.code yJ2_indexOfCharUnsafe_4cfef cJ2_indexOfCharUnsafe_4cfef 5 (some .int), Cond.methodLink RJ2 71 yJ2_getChar_3b067, Cond.static yJ2_getChar_3b067, Cond.code yJ2_getChar_3b067 cJ2_getChar_3b067 2 (some .char), Cond.fieldLink RJ2 44 "java/lang/StringUTF16" "$assertionsDisabled" "Z", Cond.fieldLink RJ2 59 "java/lang/StringUTF16" "HI_BYTE_SHIFT" "I", Cond.fieldLink RJ2 63 "java/lang/StringUTF16" "LO_BYTE_SHIFT" "I", Cond.methodLink RJ2 232 yJ2_indexOfSupplementary_4cfef, Cond.static yJ2_indexOfSupplementary_4cfef, Cond.code yJ2_indexOfSupplementary_4cfef cJ2_indexOfSupplementary_4cfef 7 (some .int), Cond.methodLink RJ2 164 yJ11_isValidCodePoint_9a6ad, Cond.static yJ11_isValidCodePoint_9a6ad, Cond.initialized RJ11, Cond.code yJ11_isValidCodePoint_9a6ad cJ11_isValidCodePoint_9a6ad 2 (some .boolean), Cond.methodLink RJ2 157 yJ11_highSurrogate_5068e, Cond.static yJ11_highSurrogate_5068e, Cond.code yJ11_highSurrogate_5068e cJ11_highSurrogate_5068e 1 (some .char), Cond.constant RJ11 110 (55232)]
def wsX4_layAll_r5 : List Cond := [Cond.methodLink RJ2 161 yJ11_lowSurrogate_5068e, Cond.static yJ11_lowSurrogate_5068e, Cond.code yJ11_lowSurrogate_5068e cJ11_lowSurrogate_5068e 1 (some .char), Cond.constant RJ11 76 (56320), Cond.methodLink RX4 82 yX4_calm, Cond.instanceMethod yX4_calm, Cond.selects RX4 yX4_calm yX4_calm, Cond.initialized RX4, Cond.code yX4_calm cX4_calm 1 none, Cond.fieldLink RX4 26 "DippedWaves$Tank" "heights" "[I", Cond.fieldLink RX4 29 "DippedWaves$Tank" "ahead" "[I", Cond.fieldLink RX4 32 "DippedWaves$Tank" "firsts" "[I", Cond.fieldLink RX4 49 "DippedWaves$Tank" "tick" "I", Cond.methodLink RX4 53 yJ7_fill_53178, Cond.static yJ7_fill_53178, Cond.initialized RJ7, Cond.code yJ7_fill_53178 cJ7_fill_53178 4 none, Cond.methodLink RX4 85 yX3_forget, Cond.instanceMethod yX3_forget, Cond.selects RX3 yX3_forget yX3_forget, Cond.initialized RX3, Cond.code yX3_forget cX3_forget 1 none, Cond.fieldLink RX3 15 "DippedWaves$Probes" "lengths" "[I", Cond.methodLink RX3 33 yJ7_fill_53178]
def wsX4_layAll : List Cond := .code yX4_layAll cX4_layAll 3 none :: ((wsX4_layAll_r1 ++ (wsX4_layAll_r2 ++ (wsX4_layAll_r3 ++ (wsX4_layAll_r4 ++ wsX4_layAll_r5)))) ++ wsX40 ++ wsX00 ++ wsX30 ++ wsX20)
def wsX4_rise : List Cond := .code yX4_rise cX4_rise 3 (some .int) :: ([.fieldLink RX4 23 "DippedWaves$Tank" "floors" "[I", .fieldLink RX4 26 "DippedWaves$Tank" "heights" "[I"] ++ wsX40)
def wsX4_slopeAt : List Cond := .code yX4_slopeAt cX4_slopeAt 5 (some .int) :: ([.fieldLink RX4 23 "DippedWaves$Tank" "floors" "[I", .methodLink RX4 113 yX4_rise, .instanceMethod yX4_rise, .selects RX4 yX4_rise yX4_rise, .initialized RX4, .code yX4_rise cX4_rise 3 (some .int), .fieldLink RX4 26 "DippedWaves$Tank" "heights" "[I"] ++ wsX40)
def wsX5_bounded : List Cond := .code yX5_bounded cX5_bounded 1 (some .int) :: ([.methodLink RX5 224 Lib.Math.min.name, .static Lib.Math.min.name, .initialized "java/lang/Math", .code Lib.Math.min.name Lib.Math.min.code 2 (some .int), .methodLink RX5 229 Lib.Math.max.name, .static Lib.Math.max.name, .code Lib.Math.max.name Lib.Math.max.code 2 (some .int)])
def wsX4_nextHeight : List Cond := .code yX4_nextHeight cX4_nextHeight 5 (some .int) :: ([.fieldLink RX4 23 "DippedWaves$Tank" "floors" "[I", .fieldLink RX4 18 "DippedWaves$Tank" "settings" "[I", .fieldLink RX4 26 "DippedWaves$Tank" "heights" "[I", .fieldLink RX4 29 "DippedWaves$Tank" "ahead" "[I", .methodLink RX4 104 yX4_slopeAt, .instanceMethod yX4_slopeAt, .selects RX4 yX4_slopeAt yX4_slopeAt, .initialized RX4, .code yX4_slopeAt cX4_slopeAt 5 (some .int), .methodLink RX4 113 yX4_rise, .instanceMethod yX4_rise, .selects RX4 yX4_rise yX4_rise, .code yX4_rise cX4_rise 3 (some .int), .static yX5_bounded, .initialized RX5, .code yX5_bounded cX5_bounded 1 (some .int), .methodLink RX5 224 Lib.Math.min.name, .static Lib.Math.min.name, .initialized "java/lang/Math", .code Lib.Math.min.name Lib.Math.min.code 2 (some .int), .methodLink RX5 229 Lib.Math.max.name, .static Lib.Math.max.name, .code Lib.Math.max.name Lib.Math.max.code 2 (some .int)] ++ wsX40)
def wsX4_loudnessOf : List Cond := .code yX4_loudnessOf cX4_loudnessOf 2 (some .int) :: ([.fieldLink RX4 26 "DippedWaves$Tank" "heights" "[I", .methodLink RX4 124 Lib.Math.abs.name, .static Lib.Math.abs.name, .initialized "java/lang/Math", .code Lib.Math.abs.name Lib.Math.abs.code 1 (some .int)] ++ wsX40)
def wsX4_keepFirsts : List Cond := .code yX4_keepFirsts cX4_keepFirsts 2 none :: ([.fieldLink RX4 32 "DippedWaves$Tank" "firsts" "[I", .fieldLink RX4 18 "DippedWaves$Tank" "settings" "[I", .fieldLink RX4 49 "DippedWaves$Tank" "tick" "I", .methodLink RX4 110 yX4_loudnessOf, .instanceMethod yX4_loudnessOf, .selects RX4 yX4_loudnessOf yX4_loudnessOf, .initialized RX4, .code yX4_loudnessOf cX4_loudnessOf 2 (some .int), .fieldLink RX4 26 "DippedWaves$Tank" "heights" "[I", .methodLink RX4 124 Lib.Math.abs.name, .static Lib.Math.abs.name, .initialized "java/lang/Math", .code Lib.Math.abs.name Lib.Math.abs.code 1 (some .int)] ++ wsX40)
def wsX4_step_r1 : List Cond := [Cond.fieldLink RX4 29 "DippedWaves$Tank" "ahead" "[I", Cond.fieldLink RX4 23 "DippedWaves$Tank" "floors" "[I", Cond.fieldLink RX4 38 "DippedWaves$Tank" "dippers" "LDippedWaves$Dippers;", Cond.fieldLink RX4 49 "DippedWaves$Tank" "tick" "I", Cond.fieldLink RX4 26 "DippedWaves$Tank" "heights" "[I", Cond.fieldLink RX4 45 "DippedWaves$Tank" "probes" "LDippedWaves$Probes;", Cond.methodLink RX4 91 yX4_nextHeight, Cond.instanceMethod yX4_nextHeight, Cond.selects RX4 yX4_nextHeight yX4_nextHeight, Cond.initialized RX4, Cond.code yX4_nextHeight cX4_nextHeight 5 (some .int), Cond.fieldLink RX4 18 "DippedWaves$Tank" "settings" "[I", Cond.methodLink RX4 104 yX4_slopeAt, Cond.instanceMethod yX4_slopeAt, Cond.selects RX4 yX4_slopeAt yX4_slopeAt, Cond.code yX4_slopeAt cX4_slopeAt 5 (some .int), Cond.methodLink RX4 113 yX4_rise, Cond.instanceMethod yX4_rise, Cond.selects RX4 yX4_rise yX4_rise, Cond.code yX4_rise cX4_rise 3 (some .int), Cond.static yX5_bounded, Cond.initialized RX5, Cond.code yX5_bounded cX5_bounded 1 (some .int), Cond.methodLink RX5 224 Lib.Math.min.name]
def wsX4_step_r2 : List Cond := [Cond.static Lib.Math.min.name, Cond.initialized "java/lang/Math", Cond.code Lib.Math.min.name Lib.Math.min.code 2 (some .int), Cond.methodLink RX5 229 Lib.Math.max.name, Cond.static Lib.Math.max.name, Cond.code Lib.Math.max.name Lib.Math.max.code 2 (some .int), Cond.methodLink RX4 94 yX0_beat, Cond.instanceMethod yX0_beat, Cond.selects RX0 yX0_beat yX0_beat, Cond.initialized RX0, Cond.code yX0_beat cX0_beat 4 none, Cond.fieldLink RX0 24 "DippedWaves$Dippers" "many" "I", Cond.fieldLink RX0 9 "DippedWaves$Dippers" "cells" "[I", Cond.fieldLink RX0 18 "DippedWaves$Dippers" "sizes" "[I", Cond.methodLink RX0 34 yX0_isUp, Cond.instanceMethod yX0_isUp, Cond.selects RX0 yX0_isUp yX0_isUp, Cond.code yX0_isUp cX0_isUp 4 (some .boolean), Cond.fieldLink RX0 15 "DippedWaves$Dippers" "periods" "[I", Cond.fieldLink RX0 21 "DippedWaves$Dippers" "shifts" "[I", Cond.methodLink RX4 97 yX4_keepFirsts, Cond.instanceMethod yX4_keepFirsts, Cond.selects RX4 yX4_keepFirsts yX4_keepFirsts, Cond.code yX4_keepFirsts cX4_keepFirsts 2 none]
def wsX4_step_r3 : List Cond := [Cond.fieldLink RX4 32 "DippedWaves$Tank" "firsts" "[I", Cond.methodLink RX4 110 yX4_loudnessOf, Cond.instanceMethod yX4_loudnessOf, Cond.selects RX4 yX4_loudnessOf yX4_loudnessOf, Cond.code yX4_loudnessOf cX4_loudnessOf 2 (some .int), Cond.methodLink RX4 124 Lib.Math.abs.name, Cond.static Lib.Math.abs.name, Cond.code Lib.Math.abs.name Lib.Math.abs.code 1 (some .int), Cond.methodLink RX4 100 yX3_look, Cond.instanceMethod yX3_look, Cond.selects RX3 yX3_look yX3_look, Cond.initialized RX3, Cond.code yX3_look cX3_look 3 none, Cond.fieldLink RX3 23 "DippedWaves$Probes" "many" "I", Cond.fieldLink RX3 20 "DippedWaves$Probes" "heights" "[[I", Cond.methodLink RX3 27 arraycopyName, Cond.native arraycopyName, Cond.static arraycopyName, Cond.initialized "java/lang/System", Cond.fieldLink RX3 9 "DippedWaves$Probes" "cells" "[I", Cond.fieldLink RX3 15 "DippedWaves$Probes" "lengths" "[I", Cond.methodLink RX3 39 Lib.Math.min.name]
def wsX4_step : List Cond := .code yX4_step cX4_step 3 none :: ((wsX4_step_r1 ++ (wsX4_step_r2 ++ wsX4_step_r3)) ++ wsX40 ++ wsX00 ++ wsX30)
def wsX4_run_r1 : List Cond := [Cond.methodLink RX4 88 yX4_step, Cond.instanceMethod yX4_step, Cond.selects RX4 yX4_step yX4_step, Cond.initialized RX4, Cond.code yX4_step cX4_step 3 none, Cond.fieldLink RX4 29 "DippedWaves$Tank" "ahead" "[I", Cond.fieldLink RX4 23 "DippedWaves$Tank" "floors" "[I", Cond.fieldLink RX4 38 "DippedWaves$Tank" "dippers" "LDippedWaves$Dippers;", Cond.fieldLink RX4 49 "DippedWaves$Tank" "tick" "I", Cond.fieldLink RX4 26 "DippedWaves$Tank" "heights" "[I", Cond.fieldLink RX4 45 "DippedWaves$Tank" "probes" "LDippedWaves$Probes;", Cond.methodLink RX4 91 yX4_nextHeight, Cond.instanceMethod yX4_nextHeight, Cond.selects RX4 yX4_nextHeight yX4_nextHeight, Cond.code yX4_nextHeight cX4_nextHeight 5 (some .int), Cond.fieldLink RX4 18 "DippedWaves$Tank" "settings" "[I", Cond.methodLink RX4 104 yX4_slopeAt, Cond.instanceMethod yX4_slopeAt, Cond.selects RX4 yX4_slopeAt yX4_slopeAt, Cond.code yX4_slopeAt cX4_slopeAt 5 (some .int), Cond.methodLink RX4 113 yX4_rise, Cond.instanceMethod yX4_rise, Cond.selects RX4 yX4_rise yX4_rise, Cond.code yX4_rise cX4_rise 3 (some .int)]
def wsX4_run_r2 : List Cond := [Cond.static yX5_bounded, Cond.initialized RX5, Cond.code yX5_bounded cX5_bounded 1 (some .int), Cond.methodLink RX5 224 Lib.Math.min.name, Cond.static Lib.Math.min.name, Cond.initialized "java/lang/Math", Cond.code Lib.Math.min.name Lib.Math.min.code 2 (some .int), Cond.methodLink RX5 229 Lib.Math.max.name, Cond.static Lib.Math.max.name, Cond.code Lib.Math.max.name Lib.Math.max.code 2 (some .int), Cond.methodLink RX4 94 yX0_beat, Cond.instanceMethod yX0_beat, Cond.selects RX0 yX0_beat yX0_beat, Cond.initialized RX0, Cond.code yX0_beat cX0_beat 4 none, Cond.fieldLink RX0 24 "DippedWaves$Dippers" "many" "I", Cond.fieldLink RX0 9 "DippedWaves$Dippers" "cells" "[I", Cond.fieldLink RX0 18 "DippedWaves$Dippers" "sizes" "[I", Cond.methodLink RX0 34 yX0_isUp, Cond.instanceMethod yX0_isUp, Cond.selects RX0 yX0_isUp yX0_isUp, Cond.code yX0_isUp cX0_isUp 4 (some .boolean), Cond.fieldLink RX0 15 "DippedWaves$Dippers" "periods" "[I", Cond.fieldLink RX0 21 "DippedWaves$Dippers" "shifts" "[I"]
def wsX4_run_r3 : List Cond := [Cond.methodLink RX4 97 yX4_keepFirsts, Cond.instanceMethod yX4_keepFirsts, Cond.selects RX4 yX4_keepFirsts yX4_keepFirsts, Cond.code yX4_keepFirsts cX4_keepFirsts 2 none, Cond.fieldLink RX4 32 "DippedWaves$Tank" "firsts" "[I", Cond.methodLink RX4 110 yX4_loudnessOf, Cond.instanceMethod yX4_loudnessOf, Cond.selects RX4 yX4_loudnessOf yX4_loudnessOf, Cond.code yX4_loudnessOf cX4_loudnessOf 2 (some .int), Cond.methodLink RX4 124 Lib.Math.abs.name, Cond.static Lib.Math.abs.name, Cond.code Lib.Math.abs.name Lib.Math.abs.code 1 (some .int), Cond.methodLink RX4 100 yX3_look, Cond.instanceMethod yX3_look, Cond.selects RX3 yX3_look yX3_look, Cond.initialized RX3, Cond.code yX3_look cX3_look 3 none, Cond.fieldLink RX3 23 "DippedWaves$Probes" "many" "I", Cond.fieldLink RX3 20 "DippedWaves$Probes" "heights" "[[I", Cond.methodLink RX3 27 arraycopyName, Cond.native arraycopyName, Cond.static arraycopyName, Cond.initialized "java/lang/System", Cond.fieldLink RX3 9 "DippedWaves$Probes" "cells" "[I"]
def wsX4_run_r4 : List Cond := [Cond.fieldLink RX3 15 "DippedWaves$Probes" "lengths" "[I", Cond.methodLink RX3 39 Lib.Math.min.name]
def wsX4_run : List Cond := .code yX4_run cX4_run 3 none :: ((wsX4_run_r1 ++ (wsX4_run_r2 ++ (wsX4_run_r3 ++ wsX4_run_r4))) ++ wsX40 ++ wsX00 ++ wsX30)
def wsX5_isCell : List Cond := .code yX5_isCell cX5_isCell 2 (some .boolean) :: ([.methodLink RX5 101 yX5_isIn, .static yX5_isIn, .initialized RX5, .code yX5_isIn cX5_isIn 3 (some .boolean)])
def wsX5_placeOf : List Cond := .code yX5_placeOf cX5_placeOf 2 (some .int) :: ([])
def wsX4_heightAt : List Cond := .code yX4_heightAt cX4_heightAt 3 (some .int) :: ([.fieldLink RX4 26 "DippedWaves$Tank" "heights" "[I", .static yX5_isCell, .initialized RX5, .code yX5_isCell cX5_isCell 2 (some .boolean), .methodLink RX5 101 yX5_isIn, .static yX5_isIn, .code yX5_isIn cX5_isIn 3 (some .boolean), .static yX5_placeOf, .code yX5_placeOf cX5_placeOf 2 (some .int)] ++ wsX40)
def wsX4_isStill : List Cond := .code yX4_isStill cX4_isStill 2 (some .boolean) :: ([.fieldLink RX4 18 "DippedWaves$Tank" "settings" "[I", .fieldLink RX4 29 "DippedWaves$Tank" "ahead" "[I", .methodLink RX4 124 Lib.Math.abs.name, .static Lib.Math.abs.name, .initialized "java/lang/Math", .code Lib.Math.abs.name Lib.Math.abs.code 1 (some .int), .methodLink RX4 110 yX4_loudnessOf, .instanceMethod yX4_loudnessOf, .selects RX4 yX4_loudnessOf yX4_loudnessOf, .initialized RX4, .code yX4_loudnessOf cX4_loudnessOf 2 (some .int), .fieldLink RX4 26 "DippedWaves$Tank" "heights" "[I"] ++ wsX40)
def wsX4_isCrest : List Cond := .code yX4_isCrest cX4_isCrest 4 (some .boolean) :: ([.methodLink RX4 129 yX4_heightAt, .instanceMethod yX4_heightAt, .selects RX4 yX4_heightAt yX4_heightAt, .initialized RX4, .code yX4_heightAt cX4_heightAt 3 (some .int), .fieldLink RX4 26 "DippedWaves$Tank" "heights" "[I", .static yX5_isCell, .initialized RX5, .code yX5_isCell cX5_isCell 2 (some .boolean), .methodLink RX5 101 yX5_isIn, .static yX5_isIn, .code yX5_isIn cX5_isIn 3 (some .boolean), .static yX5_placeOf, .code yX5_placeOf cX5_placeOf 2 (some .int)] ++ wsX40)
def wsX4_openCells : List Cond := .code yX4_openCells cX4_openCells 3 (some .int) :: ([.fieldLink RX4 23 "DippedWaves$Tank" "floors" "[I"] ++ wsX40)
def wsX4_restlessCells : List Cond := .code yX4_restlessCells cX4_restlessCells 3 (some .int) :: ([.fieldLink RX4 23 "DippedWaves$Tank" "floors" "[I", .methodLink RX4 132 yX4_isStill, .instanceMethod yX4_isStill, .selects RX4 yX4_isStill yX4_isStill, .initialized RX4, .code yX4_isStill cX4_isStill 2 (some .boolean), .fieldLink RX4 18 "DippedWaves$Tank" "settings" "[I", .fieldLink RX4 29 "DippedWaves$Tank" "ahead" "[I", .methodLink RX4 124 Lib.Math.abs.name, .static Lib.Math.abs.name, .initialized "java/lang/Math", .code Lib.Math.abs.name Lib.Math.abs.code 1 (some .int), .methodLink RX4 110 yX4_loudnessOf, .instanceMethod yX4_loudnessOf, .selects RX4 yX4_loudnessOf yX4_loudnessOf, .code yX4_loudnessOf cX4_loudnessOf 2 (some .int), .fieldLink RX4 26 "DippedWaves$Tank" "heights" "[I"] ++ wsX40)
def wsX4_reachedCells : List Cond := .code yX4_reachedCells cX4_reachedCells 3 (some .int) :: ([.fieldLink RX4 32 "DippedWaves$Tank" "firsts" "[I"] ++ wsX40)
def wsX4_sum : List Cond := .code yX4_sum cX4_sum 3 (some .int) :: ([.fieldLink RX4 26 "DippedWaves$Tank" "heights" "[I"] ++ wsX40)
def wsX4_loudness : List Cond := .code yX4_loudness cX4_loudness 3 (some .int) :: ([.methodLink RX4 110 yX4_loudnessOf, .instanceMethod yX4_loudnessOf, .selects RX4 yX4_loudnessOf yX4_loudnessOf, .initialized RX4, .code yX4_loudnessOf cX4_loudnessOf 2 (some .int), .fieldLink RX4 26 "DippedWaves$Tank" "heights" "[I", .methodLink RX4 124 Lib.Math.abs.name, .static Lib.Math.abs.name, .initialized "java/lang/Math", .code Lib.Math.abs.name Lib.Math.abs.code 1 (some .int)] ++ wsX40)
def wsX4_loudestCell : List Cond := .code yX4_loudestCell cX4_loudestCell 3 (some .int) :: ([.methodLink RX4 110 yX4_loudnessOf, .instanceMethod yX4_loudnessOf, .selects RX4 yX4_loudnessOf yX4_loudnessOf, .initialized RX4, .code yX4_loudnessOf cX4_loudnessOf 2 (some .int), .fieldLink RX4 26 "DippedWaves$Tank" "heights" "[I", .methodLink RX4 124 Lib.Math.abs.name, .static Lib.Math.abs.name, .initialized "java/lang/Math", .code Lib.Math.abs.name Lib.Math.abs.code 1 (some .int)] ++ wsX40)
def wsX5_init_r1 : List Cond := [Cond.methodLink RX5 3 objectInit, Cond.instanceMethod objectInit, Cond.code objectInit ⟨#[0xb1]⟩ 1 none, Cond.classLink RX5 9 RX4, Cond.instantiable RX4 8, Cond.initialized RX4, Cond.fieldLink RX5 12 "DippedWaves" "tank" "LDippedWaves$Tank;", Cond.fieldLink RX5 16 "DippedWaves" "trial" "LDippedWaves$Tank;", Cond.classLink RX5 19 RX1, Cond.instantiable RX1 2, Cond.initialized RX1, Cond.fieldLink RX5 22 "DippedWaves" "history" "LDippedWaves$History;", Cond.fieldLink RX5 26 "DippedWaves" "slots" "[LDippedWaves$Tank;", Cond.arrayClass .boolean, Cond.fieldLink RX5 30 "DippedWaves" "saved" "[Z", Cond.classLink RX5 34 RX2, Cond.instantiable RX2 2, Cond.initialized RX2, Cond.fieldLink RX5 37 "DippedWaves" "pad" "LDippedWaves$Pad;", Cond.methodLink RX5 11 yX4_init, Cond.instanceMethod yX4_init, Cond.code yX4_init cX4_init 1 none, Cond.methodLink RX4 3 objectInit, Cond.methodLink RX4 13 ⟨"[I", "clone", "()Ljava/lang/Object;"⟩]
def wsX5_init_r2 : List Cond := [Cond.sameMethod "[I" "java/lang/Object" "clone" "()Ljava/lang/Object;", Cond.native ⟨"java/lang/Object", "clone", "()Ljava/lang/Object;"⟩, Cond.instanceMethod ⟨"java/lang/Object", "clone", "()Ljava/lang/Object;"⟩, Cond.selects "[I" ⟨"[I", "clone", "()Ljava/lang/Object;"⟩ ⟨"java/lang/Object", "clone", "()Ljava/lang/Object;"⟩, Cond.classLink RX4 14 "[I", Cond.fieldLink RX4 18 "DippedWaves$Tank" "settings" "[I", Cond.arrayClass .int, Cond.fieldLink RX4 23 "DippedWaves$Tank" "floors" "[I", Cond.fieldLink RX4 26 "DippedWaves$Tank" "heights" "[I", Cond.fieldLink RX4 29 "DippedWaves$Tank" "ahead" "[I", Cond.fieldLink RX4 32 "DippedWaves$Tank" "firsts" "[I", Cond.classLink RX4 35 RX0, Cond.instantiable RX0 5, Cond.initialized RX0, Cond.fieldLink RX4 38 "DippedWaves$Tank" "dippers" "LDippedWaves$Dippers;", Cond.classLink RX4 42 RX3, Cond.instantiable RX3 4, Cond.initialized RX3, Cond.fieldLink RX4 45 "DippedWaves$Tank" "probes" "LDippedWaves$Probes;", Cond.fieldLink RX4 49 "DippedWaves$Tank" "tick" "I", Cond.instanceMethod yX0_init, Cond.code yX0_init cX0_init 1 none, Cond.methodLink RX0 3 objectInit, Cond.fieldLink RX0 9 "DippedWaves$Dippers" "cells" "[I"]
def wsX5_init_r3 : List Cond := [Cond.fieldLink RX0 15 "DippedWaves$Dippers" "periods" "[I", Cond.fieldLink RX0 18 "DippedWaves$Dippers" "sizes" "[I", Cond.fieldLink RX0 21 "DippedWaves$Dippers" "shifts" "[I", Cond.fieldLink RX0 24 "DippedWaves$Dippers" "many" "I", Cond.instanceMethod yX3_init, Cond.code yX3_init cX3_init 1 none, Cond.methodLink RX3 3 objectInit, Cond.fieldLink RX3 9 "DippedWaves$Probes" "cells" "[I", Cond.fieldLink RX3 15 "DippedWaves$Probes" "lengths" "[I", Cond.classLink RX3 18 "[[I", Cond.fieldLink RX3 20 "DippedWaves$Probes" "heights" "[[I", Cond.fieldLink RX3 23 "DippedWaves$Probes" "many" "I", Cond.methodLink RX4 53 yJ7_fill_53178, Cond.static yJ7_fill_53178, Cond.initialized RJ7, Cond.code yJ7_fill_53178 cJ7_fill_53178 4 none, Cond.methodLink RX5 21 yX1_init, Cond.instanceMethod yX1_init, Cond.code yX1_init cX1_init 2 none, Cond.methodLink RX1 3 objectInit, Cond.classLink RX1 9 RX4, Cond.fieldLink RX1 11 "DippedWaves$History" "states" "[LDippedWaves$Tank;", Cond.fieldLink RX1 17 "DippedWaves$History" "many" "I", Cond.methodLink RX1 21 yX4_init]
def wsX5_init_r4 : List Cond := [Cond.instanceMethod yX2_init, Cond.code yX2_init cX2_init 1 none, Cond.methodLink RX2 3 objectInit, Cond.arrayClass .char, Cond.fieldLink RX2 9 "DippedWaves$Pad" "signs" "[C", Cond.fieldLink RX2 15 "DippedWaves$Pad" "length" "I"]
def wsX5_init : List Cond := .code yX5_init cX5_init 2 none :: ((wsX5_init_r1 ++ (wsX5_init_r2 ++ (wsX5_init_r3 ++ wsX5_init_r4))) ++ wsX40 ++ wsX50 ++ wsX10 ++ wsX20 ++ wsX00 ++ wsX30)
def wsX5_set_r1 : List Cond := [Cond.fieldLink RX5 41 "DippedWaves" "LEAST_SETTINGS" "[I", Cond.fieldLink RX5 45 "DippedWaves" "MOST_SETTINGS" "[I", Cond.fieldLink RX5 22 "DippedWaves" "history" "LDippedWaves$History;", Cond.fieldLink RX5 12 "DippedWaves" "tank" "LDippedWaves$Tank;", Cond.fieldLink RX5 52 "DippedWaves$Tank" "settings" "[I", Cond.methodLink RX5 48 yX1_keep, Cond.instanceMethod yX1_keep, Cond.selects RX1 yX1_keep yX1_keep, Cond.initialized RX1, Cond.code yX1_keep cX1_keep 2 none, Cond.fieldLink RX1 17 "DippedWaves$History" "many" "I", Cond.fieldLink RX1 11 "DippedWaves$History" "states" "[LDippedWaves$Tank;", Cond.methodLink RX1 22 yX1_loseOldest, Cond.instanceMethod yX1_loseOldest, Cond.selects RX1 yX1_loseOldest yX1_loseOldest, Cond.code yX1_loseOldest cX1_loseOldest 3 none, Cond.methodLink RX1 25 yX4_become, Cond.instanceMethod yX4_become, Cond.selects RX4 yX4_become yX4_become, Cond.initialized RX4, Cond.code yX4_become cX4_become 2 none, Cond.fieldLink RX4 18 "DippedWaves$Tank" "settings" "[I", Cond.methodLink RX4 59 arraycopyName, Cond.native arraycopyName]
def wsX5_set_r2 : List Cond := [Cond.static arraycopyName, Cond.initialized "java/lang/System", Cond.fieldLink RX4 23 "DippedWaves$Tank" "floors" "[I", Cond.fieldLink RX4 26 "DippedWaves$Tank" "heights" "[I", Cond.fieldLink RX4 29 "DippedWaves$Tank" "ahead" "[I", Cond.fieldLink RX4 32 "DippedWaves$Tank" "firsts" "[I", Cond.fieldLink RX4 38 "DippedWaves$Tank" "dippers" "LDippedWaves$Dippers;", Cond.fieldLink RX4 45 "DippedWaves$Tank" "probes" "LDippedWaves$Probes;", Cond.fieldLink RX4 49 "DippedWaves$Tank" "tick" "I", Cond.methodLink RX4 65 yX0_become, Cond.instanceMethod yX0_become, Cond.selects RX0 yX0_become yX0_become, Cond.initialized RX0, Cond.code yX0_become cX0_become 2 none, Cond.fieldLink RX0 9 "DippedWaves$Dippers" "cells" "[I", Cond.methodLink RX0 28 arraycopyName, Cond.fieldLink RX0 15 "DippedWaves$Dippers" "periods" "[I", Cond.fieldLink RX0 18 "DippedWaves$Dippers" "sizes" "[I", Cond.fieldLink RX0 21 "DippedWaves$Dippers" "shifts" "[I", Cond.fieldLink RX0 24 "DippedWaves$Dippers" "many" "I", Cond.methodLink RX4 69 yX3_become, Cond.instanceMethod yX3_become, Cond.selects RX3 yX3_become yX3_become, Cond.initialized RX3]
def wsX5_set_r3 : List Cond := [Cond.code yX3_become cX3_become 3 none, Cond.fieldLink RX3 9 "DippedWaves$Probes" "cells" "[I", Cond.methodLink RX3 27 arraycopyName, Cond.fieldLink RX3 15 "DippedWaves$Probes" "lengths" "[I", Cond.fieldLink RX3 20 "DippedWaves$Probes" "heights" "[[I", Cond.fieldLink RX3 23 "DippedWaves$Probes" "many" "I"]
def wsX5_set : List Cond := .code yX5_set cX5_set 4 (some .int) :: ((wsX5_set_r1 ++ (wsX5_set_r2 ++ wsX5_set_r3)) ++ wsX50 ++ wsX40 ++ wsX10 ++ wsX00 ++ wsX30)
def wsX5_floor_r1 : List Cond := [Cond.fieldLink RX5 12 "DippedWaves" "tank" "LDippedWaves$Tank;", Cond.fieldLink RX5 63 "DippedWaves$Tank" "dippers" "LDippedWaves$Dippers;", Cond.fieldLink RX5 22 "DippedWaves" "history" "LDippedWaves$History;", Cond.fieldLink RX5 73 "DippedWaves$Tank" "floors" "[I", Cond.methodLink RX5 55 yX5_isCell, Cond.static yX5_isCell, Cond.initialized RX5, Cond.code yX5_isCell cX5_isCell 2 (some .boolean), Cond.methodLink RX5 101 yX5_isIn, Cond.static yX5_isIn, Cond.code yX5_isIn cX5_isIn 3 (some .boolean), Cond.methodLink RX5 59 yX5_placeOf, Cond.static yX5_placeOf, Cond.code yX5_placeOf cX5_placeOf 2 (some .int), Cond.methodLink RX5 67 yX0_lastIn, Cond.instanceMethod yX0_lastIn, Cond.selects RX0 yX0_lastIn yX0_lastIn, Cond.initialized RX0, Cond.code yX0_lastIn cX0_lastIn 3 (some .int), Cond.fieldLink RX0 24 "DippedWaves$Dippers" "many" "I", Cond.fieldLink RX0 9 "DippedWaves$Dippers" "cells" "[I", Cond.methodLink RX5 48 yX1_keep, Cond.instanceMethod yX1_keep, Cond.selects RX1 yX1_keep yX1_keep]
def wsX5_floor_r2 : List Cond := [Cond.initialized RX1, Cond.code yX1_keep cX1_keep 2 none, Cond.fieldLink RX1 17 "DippedWaves$History" "many" "I", Cond.fieldLink RX1 11 "DippedWaves$History" "states" "[LDippedWaves$Tank;", Cond.methodLink RX1 22 yX1_loseOldest, Cond.instanceMethod yX1_loseOldest, Cond.selects RX1 yX1_loseOldest yX1_loseOldest, Cond.code yX1_loseOldest cX1_loseOldest 3 none, Cond.methodLink RX1 25 yX4_become, Cond.instanceMethod yX4_become, Cond.selects RX4 yX4_become yX4_become, Cond.initialized RX4, Cond.code yX4_become cX4_become 2 none, Cond.fieldLink RX4 18 "DippedWaves$Tank" "settings" "[I", Cond.methodLink RX4 59 arraycopyName, Cond.native arraycopyName, Cond.static arraycopyName, Cond.initialized "java/lang/System", Cond.fieldLink RX4 23 "DippedWaves$Tank" "floors" "[I", Cond.fieldLink RX4 26 "DippedWaves$Tank" "heights" "[I", Cond.fieldLink RX4 29 "DippedWaves$Tank" "ahead" "[I", Cond.fieldLink RX4 32 "DippedWaves$Tank" "firsts" "[I", Cond.fieldLink RX4 38 "DippedWaves$Tank" "dippers" "LDippedWaves$Dippers;", Cond.fieldLink RX4 45 "DippedWaves$Tank" "probes" "LDippedWaves$Probes;"]
def wsX5_floor_r3 : List Cond := [Cond.fieldLink RX4 49 "DippedWaves$Tank" "tick" "I", Cond.methodLink RX4 65 yX0_become, Cond.instanceMethod yX0_become, Cond.selects RX0 yX0_become yX0_become, Cond.code yX0_become cX0_become 2 none, Cond.methodLink RX0 28 arraycopyName, Cond.fieldLink RX0 15 "DippedWaves$Dippers" "periods" "[I", Cond.fieldLink RX0 18 "DippedWaves$Dippers" "sizes" "[I", Cond.fieldLink RX0 21 "DippedWaves$Dippers" "shifts" "[I", Cond.methodLink RX4 69 yX3_become, Cond.instanceMethod yX3_become, Cond.selects RX3 yX3_become yX3_become, Cond.initialized RX3, Cond.code yX3_become cX3_become 3 none, Cond.fieldLink RX3 9 "DippedWaves$Probes" "cells" "[I", Cond.methodLink RX3 27 arraycopyName, Cond.fieldLink RX3 15 "DippedWaves$Probes" "lengths" "[I", Cond.fieldLink RX3 20 "DippedWaves$Probes" "heights" "[[I", Cond.fieldLink RX3 23 "DippedWaves$Probes" "many" "I", Cond.methodLink RX5 76 yX4_lay, Cond.instanceMethod yX4_lay, Cond.selects RX4 yX4_lay yX4_lay, Cond.code yX4_lay cX4_lay 3 none]
def wsX5_floor : List Cond := .code yX5_floor cX5_floor 6 (some .int) :: ((wsX5_floor_r1 ++ (wsX5_floor_r2 ++ wsX5_floor_r3)) ++ wsX50 ++ wsX40 ++ wsX00 ++ wsX10 ++ wsX30)
def wsX5_read_r1 : List Cond := [Cond.fieldLink RX5 37 "DippedWaves" "pad" "LDippedWaves$Pad;", Cond.fieldLink RX5 22 "DippedWaves" "history" "LDippedWaves$History;", Cond.fieldLink RX5 12 "DippedWaves" "tank" "LDippedWaves$Tank;", Cond.fieldLink RX5 88 "DippedWaves$Pad" "length" "I", Cond.methodLink RX5 80 yX2_firstFault, Cond.instanceMethod yX2_firstFault, Cond.selects RX2 yX2_firstFault yX2_firstFault, Cond.initialized RX2, Cond.code yX2_firstFault cX2_firstFault 2 (some .int), Cond.fieldLink RX2 15 "DippedWaves$Pad" "length" "I", Cond.fieldLink RX2 9 "DippedWaves$Pad" "signs" "[C", Cond.methodLink RX2 25 yX2_canStand, Cond.static yX2_canStand, Cond.code yX2_canStand cX2_canStand 2 (some .boolean), Cond.methodLink RX2 31 yJ0_indexOf_0f7a4, Cond.instanceMethod yJ0_indexOf_0f7a4, Cond.selects RJ0 yJ0_indexOf_0f7a4 yJ0_indexOf_0f7a4, Cond.initialized RJ0, Cond.code yJ0_indexOf_0f7a4 cJ0_indexOf_0f7a4 2 (some .int), Cond.methodLink RJ0 633 yJ0_indexOf_7cf53, Cond.instanceMethod yJ0_indexOf_7cf53, Cond.selects RJ0 yJ0_indexOf_7cf53 yJ0_indexOf_7cf53, Cond.code yJ0_indexOf_7cf53 cJ0_indexOf_7cf53 3 (some .int), Cond.fieldLink RJ0 9 "java/lang/String" "value" "[B"]
def wsX5_read_r2 : List Cond := [Cond.methodLink RJ0 492 yJ0_isLatin1_aae02, Cond.instanceMethod yJ0_isLatin1_aae02, Cond.selects RJ0 yJ0_isLatin1_aae02 yJ0_isLatin1_aae02, Cond.code yJ0_isLatin1_aae02 cJ0_isLatin1_aae02 1 (some .boolean), Cond.fieldLink RJ0 38 "java/lang/String" "COMPACT_STRINGS" "Z", Cond.fieldLink RJ0 15 "java/lang/String" "coder" "B", Cond.methodLink RJ0 505 yJ0_length_8abf5, Cond.instanceMethod yJ0_length_8abf5, Cond.selects RJ0 yJ0_length_8abf5 yJ0_length_8abf5, Cond.code yJ0_length_8abf5 cJ0_length_8abf5 1 (some .int), Cond.methodLink RJ0 335 yJ0_coder_7d493, Cond.instanceMethod yJ0_coder_7d493, Cond.selects RJ0 yJ0_coder_7d493 yJ0_coder_7d493, Cond.code yJ0_coder_7d493 cJ0_coder_7d493 1 (some .byte), Cond.methodLink RJ0 637 yJ1_indexOf_4cfef, Cond.static yJ1_indexOf_4cfef, Cond.initialized RJ1, Cond.code yJ1_indexOf_4cfef cJ1_indexOf_4cfef 4 (some .int), Cond.methodLink RJ1 92 Lib.Math.max.name, Cond.static Lib.Math.max.name, Cond.initialized "java/lang/Math", Cond.code Lib.Math.max.name Lib.Math.max.code 2 (some .int), Cond.methodLink RJ1 38 Lib.Math.min.name, Cond.static Lib.Math.min.name]
def wsX5_read_r3 : List Cond := [Cond.code Lib.Math.min.name Lib.Math.min.code 2 (some .int), Cond.methodLink RJ1 88 yJ1_canEncode_9a6ad, Cond.static yJ1_canEncode_9a6ad, Cond.code yJ1_canEncode_9a6ad cJ1_canEncode_9a6ad 1 (some .boolean), Cond.methodLink RJ1 95 yJ1_indexOfChar_4cfef, Cond.static yJ1_indexOfChar_4cfef, Cond.code yJ1_indexOfChar_4cfef cJ1_indexOfChar_4cfef 6 (some .int), Cond.methodLink RJ0 640 yJ2_indexOf_4cfef, Cond.static yJ2_indexOf_4cfef, Cond.initialized RJ2, Cond.code yJ2_indexOf_4cfef cJ2_indexOf_4cfef 4 (some .int), Cond.methodLink RJ2 224 Lib.Math.max.name, Cond.methodLink RJ2 183 Lib.Math.min.name, Cond.constant RJ2 227 (65536), Cond.methodLink RJ2 228 yJ2_indexOfChar_4cfef, Cond.static yJ2_indexOfChar_4cfef, Cond.code yJ2_indexOfChar_4cfef cJ2_indexOfChar_4cfef 4 (some .int), Cond.methodLink RJ2 96 yJ2_checkBoundsBeginEnd_d044e, Cond.static yJ2_checkBoundsBeginEnd_d044e, Cond.code yJ2_checkBoundsBeginEnd_d044e cJ2_checkBoundsBeginEnd_d044e 3 none, Cond.methodLink RJ2 48 yJ2_length_9d52b, Cond.static yJ2_length_9d52b, Cond.code yJ2_length_9d52b cJ2_length_9d52b 1 (some .int), Cond.methodLink RJ2 241 yJ0_checkBoundsBeginEnd_23922]
def wsX5_read_r4 : List Cond := [Cond.static yJ0_checkBoundsBeginEnd_23922, Cond.code yJ0_checkBoundsBeginEnd_23922 cJ0_checkBoundsBeginEnd_23922 3 none, Cond.fieldLink RJ0 1053 "jdk/internal/util/Preconditions" "SIOOBE_FORMATTER" "Ljava/util/function/BiFunction;", Cond.methodLink RJ0 1062 yJ3_checkFromToIndex_8c36e, Cond.static yJ3_checkFromToIndex_8c36e, Cond.initialized RJ3, Cond.code yJ3_checkFromToIndex_8c36e cJ3_checkFromToIndex_8c36e 4 (some .int), Cond.methodLink RJ2 244 yJ2_indexOfCharUnsafe_4cfef, Cond.static yJ2_indexOfCharUnsafe_4cfef, Cond.code yJ2_indexOfCharUnsafe_4cfef cJ2_indexOfCharUnsafe_4cfef 5 (some .int), Cond.methodLink RJ2 71 yJ2_getChar_3b067, Cond.static yJ2_getChar_3b067, Cond.code yJ2_getChar_3b067 cJ2_getChar_3b067 2 (some .char), Cond.fieldLink RJ2 44 "java/lang/StringUTF16" "$assertionsDisabled" "Z", Cond.fieldLink RJ2 59 "java/lang/StringUTF16" "HI_BYTE_SHIFT" "I", Cond.fieldLink RJ2 63 "java/lang/StringUTF16" "LO_BYTE_SHIFT" "I", Cond.methodLink RJ2 232 yJ2_indexOfSupplementary_4cfef, Cond.static yJ2_indexOfSupplementary_4cfef, Cond.code yJ2_indexOfSupplementary_4cfef cJ2_indexOfSupplementary_4cfef 7 (some .int), Cond.methodLink RJ2 164 yJ11_isValidCodePoint_9a6ad, Cond.static yJ11_isValidCodePoint_9a6ad, Cond.initialized RJ11, Cond.code yJ11_isValidCodePoint_9a6ad cJ11_isValidCodePoint_9a6ad 2 (some .boolean), Cond.methodLink RJ2 157 yJ11_highSurrogate_5068e]
def wsX5_read_r5 : List Cond := [Cond.static yJ11_highSurrogate_5068e, Cond.code yJ11_highSurrogate_5068e cJ11_highSurrogate_5068e 1 (some .char), Cond.constant RJ11 110 (55232), Cond.methodLink RJ2 161 yJ11_lowSurrogate_5068e, Cond.static yJ11_lowSurrogate_5068e, Cond.code yJ11_lowSurrogate_5068e cJ11_lowSurrogate_5068e 1 (some .char), Cond.constant RJ11 76 (56320), Cond.methodLink RX5 48 yX1_keep, Cond.instanceMethod yX1_keep, Cond.selects RX1 yX1_keep yX1_keep, Cond.initialized RX1, Cond.code yX1_keep cX1_keep 2 none, Cond.fieldLink RX1 17 "DippedWaves$History" "many" "I", Cond.fieldLink RX1 11 "DippedWaves$History" "states" "[LDippedWaves$Tank;", Cond.methodLink RX1 22 yX1_loseOldest, Cond.instanceMethod yX1_loseOldest, Cond.selects RX1 yX1_loseOldest yX1_loseOldest, Cond.code yX1_loseOldest cX1_loseOldest 3 none, Cond.methodLink RX1 25 yX4_become, Cond.instanceMethod yX4_become, Cond.selects RX4 yX4_become yX4_become, Cond.initialized RX4, Cond.code yX4_become cX4_become 2 none, Cond.fieldLink RX4 18 "DippedWaves$Tank" "settings" "[I"]
def wsX5_read_r6 : List Cond := [Cond.methodLink RX4 59 arraycopyName, Cond.native arraycopyName, Cond.static arraycopyName, Cond.initialized "java/lang/System", Cond.fieldLink RX4 23 "DippedWaves$Tank" "floors" "[I", Cond.fieldLink RX4 26 "DippedWaves$Tank" "heights" "[I", Cond.fieldLink RX4 29 "DippedWaves$Tank" "ahead" "[I", Cond.fieldLink RX4 32 "DippedWaves$Tank" "firsts" "[I", Cond.fieldLink RX4 38 "DippedWaves$Tank" "dippers" "LDippedWaves$Dippers;", Cond.fieldLink RX4 45 "DippedWaves$Tank" "probes" "LDippedWaves$Probes;", Cond.fieldLink RX4 49 "DippedWaves$Tank" "tick" "I", Cond.methodLink RX4 65 yX0_become, Cond.instanceMethod yX0_become, Cond.selects RX0 yX0_become yX0_become, Cond.initialized RX0, Cond.code yX0_become cX0_become 2 none, Cond.fieldLink RX0 9 "DippedWaves$Dippers" "cells" "[I", Cond.methodLink RX0 28 arraycopyName, Cond.fieldLink RX0 15 "DippedWaves$Dippers" "periods" "[I", Cond.fieldLink RX0 18 "DippedWaves$Dippers" "sizes" "[I", Cond.fieldLink RX0 21 "DippedWaves$Dippers" "shifts" "[I", Cond.fieldLink RX0 24 "DippedWaves$Dippers" "many" "I", Cond.methodLink RX4 69 yX3_become, Cond.instanceMethod yX3_become]
def wsX5_read_r7 : List Cond := [Cond.selects RX3 yX3_become yX3_become, Cond.initialized RX3, Cond.code yX3_become cX3_become 3 none, Cond.fieldLink RX3 9 "DippedWaves$Probes" "cells" "[I", Cond.methodLink RX3 27 arraycopyName, Cond.fieldLink RX3 15 "DippedWaves$Probes" "lengths" "[I", Cond.fieldLink RX3 20 "DippedWaves$Probes" "heights" "[[I", Cond.fieldLink RX3 23 "DippedWaves$Probes" "many" "I", Cond.methodLink RX5 84 yX4_layAll, Cond.instanceMethod yX4_layAll, Cond.selects RX4 yX4_layAll yX4_layAll, Cond.code yX4_layAll cX4_layAll 3 none, Cond.fieldLink RX4 78 "DippedWaves$Dippers" "many" "I", Cond.fieldLink RX4 81 "DippedWaves$Probes" "many" "I", Cond.methodLink RX4 72 yX2_floorOf, Cond.instanceMethod yX2_floorOf, Cond.selects RX2 yX2_floorOf yX2_floorOf, Cond.code yX2_floorOf cX2_floorOf 2 (some .int), Cond.methodLink RX4 82 yX4_calm, Cond.instanceMethod yX4_calm, Cond.selects RX4 yX4_calm yX4_calm, Cond.code yX4_calm cX4_calm 1 none, Cond.methodLink RX4 53 yJ7_fill_53178, Cond.static yJ7_fill_53178]
def wsX5_read_r8 : List Cond := [Cond.initialized RJ7, Cond.code yJ7_fill_53178 cJ7_fill_53178 4 none, Cond.methodLink RX4 85 yX3_forget, Cond.instanceMethod yX3_forget, Cond.selects RX3 yX3_forget yX3_forget, Cond.code yX3_forget cX3_forget 1 none, Cond.methodLink RX3 33 yJ7_fill_53178, Cond.methodLink RX5 92 yX4_openCells, Cond.instanceMethod yX4_openCells, Cond.selects RX4 yX4_openCells yX4_openCells, Cond.code yX4_openCells cX4_openCells 3 (some .int)]
def wsX5_read : List Cond := .code yX5_read cX5_read 1 (some .int) :: ((wsX5_read_r1 ++ (wsX5_read_r2 ++ (wsX5_read_r3 ++ (wsX5_read_r4 ++ (wsX5_read_r5 ++ (wsX5_read_r6 ++ (wsX5_read_r7 ++ wsX5_read_r8))))))) ++ wsX50 ++ wsX20 ++ wsX10 ++ wsX40 ++ wsX00 ++ wsX30)
def wsX5_clear_r1 : List Cond := [Cond.fieldLink RX5 22 "DippedWaves" "history" "LDippedWaves$History;", Cond.fieldLink RX5 12 "DippedWaves" "tank" "LDippedWaves$Tank;", Cond.methodLink RX5 48 yX1_keep, Cond.instanceMethod yX1_keep, Cond.selects RX1 yX1_keep yX1_keep, Cond.initialized RX1, Cond.code yX1_keep cX1_keep 2 none, Cond.fieldLink RX1 17 "DippedWaves$History" "many" "I", Cond.fieldLink RX1 11 "DippedWaves$History" "states" "[LDippedWaves$Tank;", Cond.methodLink RX1 22 yX1_loseOldest, Cond.instanceMethod yX1_loseOldest, Cond.selects RX1 yX1_loseOldest yX1_loseOldest, Cond.code yX1_loseOldest cX1_loseOldest 3 none, Cond.methodLink RX1 25 yX4_become, Cond.instanceMethod yX4_become, Cond.selects RX4 yX4_become yX4_become, Cond.initialized RX4, Cond.code yX4_become cX4_become 2 none, Cond.fieldLink RX4 18 "DippedWaves$Tank" "settings" "[I", Cond.methodLink RX4 59 arraycopyName, Cond.native arraycopyName, Cond.static arraycopyName, Cond.initialized "java/lang/System", Cond.fieldLink RX4 23 "DippedWaves$Tank" "floors" "[I"]
def wsX5_clear_r2 : List Cond := [Cond.fieldLink RX4 26 "DippedWaves$Tank" "heights" "[I", Cond.fieldLink RX4 29 "DippedWaves$Tank" "ahead" "[I", Cond.fieldLink RX4 32 "DippedWaves$Tank" "firsts" "[I", Cond.fieldLink RX4 38 "DippedWaves$Tank" "dippers" "LDippedWaves$Dippers;", Cond.fieldLink RX4 45 "DippedWaves$Tank" "probes" "LDippedWaves$Probes;", Cond.fieldLink RX4 49 "DippedWaves$Tank" "tick" "I", Cond.methodLink RX4 65 yX0_become, Cond.instanceMethod yX0_become, Cond.selects RX0 yX0_become yX0_become, Cond.initialized RX0, Cond.code yX0_become cX0_become 2 none, Cond.fieldLink RX0 9 "DippedWaves$Dippers" "cells" "[I", Cond.methodLink RX0 28 arraycopyName, Cond.fieldLink RX0 15 "DippedWaves$Dippers" "periods" "[I", Cond.fieldLink RX0 18 "DippedWaves$Dippers" "sizes" "[I", Cond.fieldLink RX0 21 "DippedWaves$Dippers" "shifts" "[I", Cond.fieldLink RX0 24 "DippedWaves$Dippers" "many" "I", Cond.methodLink RX4 69 yX3_become, Cond.instanceMethod yX3_become, Cond.selects RX3 yX3_become yX3_become, Cond.initialized RX3, Cond.code yX3_become cX3_become 3 none, Cond.fieldLink RX3 9 "DippedWaves$Probes" "cells" "[I", Cond.methodLink RX3 27 arraycopyName]
def wsX5_clear_r3 : List Cond := [Cond.fieldLink RX3 15 "DippedWaves$Probes" "lengths" "[I", Cond.fieldLink RX3 20 "DippedWaves$Probes" "heights" "[[I", Cond.fieldLink RX3 23 "DippedWaves$Probes" "many" "I", Cond.methodLink RX5 95 yX4_loudness, Cond.instanceMethod yX4_loudness, Cond.selects RX4 yX4_loudness yX4_loudness, Cond.code yX4_loudness cX4_loudness 3 (some .int), Cond.methodLink RX4 110 yX4_loudnessOf, Cond.instanceMethod yX4_loudnessOf, Cond.selects RX4 yX4_loudnessOf yX4_loudnessOf, Cond.code yX4_loudnessOf cX4_loudnessOf 2 (some .int), Cond.methodLink RX4 124 Lib.Math.abs.name, Cond.static Lib.Math.abs.name, Cond.initialized "java/lang/Math", Cond.code Lib.Math.abs.name Lib.Math.abs.code 1 (some .int), Cond.methodLink RX5 98 yX4_calm, Cond.instanceMethod yX4_calm, Cond.selects RX4 yX4_calm yX4_calm, Cond.code yX4_calm cX4_calm 1 none, Cond.methodLink RX4 53 yJ7_fill_53178, Cond.static yJ7_fill_53178, Cond.initialized RJ7, Cond.code yJ7_fill_53178 cJ7_fill_53178 4 none, Cond.methodLink RX4 85 yX3_forget]
def wsX5_clear_r4 : List Cond := [Cond.instanceMethod yX3_forget, Cond.selects RX3 yX3_forget yX3_forget, Cond.code yX3_forget cX3_forget 1 none, Cond.methodLink RX3 33 yJ7_fill_53178]
def wsX5_clear : List Cond := .code yX5_clear cX5_clear 2 (some .int) :: ((wsX5_clear_r1 ++ (wsX5_clear_r2 ++ (wsX5_clear_r3 ++ wsX5_clear_r4))) ++ wsX50 ++ wsX10 ++ wsX40 ++ wsX00 ++ wsX30)
def wsX5_dip_r1 : List Cond := [Cond.fieldLink RX5 12 "DippedWaves" "tank" "LDippedWaves$Tank;", Cond.fieldLink RX5 73 "DippedWaves$Tank" "floors" "[I", Cond.fieldLink RX5 63 "DippedWaves$Tank" "dippers" "LDippedWaves$Dippers;", Cond.fieldLink RX5 105 "DippedWaves$Dippers" "many" "I", Cond.fieldLink RX5 22 "DippedWaves" "history" "LDippedWaves$History;", Cond.methodLink RX5 55 yX5_isCell, Cond.static yX5_isCell, Cond.initialized RX5, Cond.code yX5_isCell cX5_isCell 2 (some .boolean), Cond.methodLink RX5 101 yX5_isIn, Cond.static yX5_isIn, Cond.code yX5_isIn cX5_isIn 3 (some .boolean), Cond.methodLink RX5 59 yX5_placeOf, Cond.static yX5_placeOf, Cond.code yX5_placeOf cX5_placeOf 2 (some .int), Cond.methodLink RX5 48 yX1_keep, Cond.instanceMethod yX1_keep, Cond.selects RX1 yX1_keep yX1_keep, Cond.initialized RX1, Cond.code yX1_keep cX1_keep 2 none, Cond.fieldLink RX1 17 "DippedWaves$History" "many" "I", Cond.fieldLink RX1 11 "DippedWaves$History" "states" "[LDippedWaves$Tank;", Cond.methodLink RX1 22 yX1_loseOldest, Cond.instanceMethod yX1_loseOldest]
def wsX5_dip_r2 : List Cond := [Cond.selects RX1 yX1_loseOldest yX1_loseOldest, Cond.code yX1_loseOldest cX1_loseOldest 3 none, Cond.methodLink RX1 25 yX4_become, Cond.instanceMethod yX4_become, Cond.selects RX4 yX4_become yX4_become, Cond.initialized RX4, Cond.code yX4_become cX4_become 2 none, Cond.fieldLink RX4 18 "DippedWaves$Tank" "settings" "[I", Cond.methodLink RX4 59 arraycopyName, Cond.native arraycopyName, Cond.static arraycopyName, Cond.initialized "java/lang/System", Cond.fieldLink RX4 23 "DippedWaves$Tank" "floors" "[I", Cond.fieldLink RX4 26 "DippedWaves$Tank" "heights" "[I", Cond.fieldLink RX4 29 "DippedWaves$Tank" "ahead" "[I", Cond.fieldLink RX4 32 "DippedWaves$Tank" "firsts" "[I", Cond.fieldLink RX4 38 "DippedWaves$Tank" "dippers" "LDippedWaves$Dippers;", Cond.fieldLink RX4 45 "DippedWaves$Tank" "probes" "LDippedWaves$Probes;", Cond.fieldLink RX4 49 "DippedWaves$Tank" "tick" "I", Cond.methodLink RX4 65 yX0_become, Cond.instanceMethod yX0_become, Cond.selects RX0 yX0_become yX0_become, Cond.initialized RX0, Cond.code yX0_become cX0_become 2 none]
def wsX5_dip_r3 : List Cond := [Cond.fieldLink RX0 9 "DippedWaves$Dippers" "cells" "[I", Cond.methodLink RX0 28 arraycopyName, Cond.fieldLink RX0 15 "DippedWaves$Dippers" "periods" "[I", Cond.fieldLink RX0 18 "DippedWaves$Dippers" "sizes" "[I", Cond.fieldLink RX0 21 "DippedWaves$Dippers" "shifts" "[I", Cond.fieldLink RX0 24 "DippedWaves$Dippers" "many" "I", Cond.methodLink RX4 69 yX3_become, Cond.instanceMethod yX3_become, Cond.selects RX3 yX3_become yX3_become, Cond.initialized RX3, Cond.code yX3_become cX3_become 3 none, Cond.fieldLink RX3 9 "DippedWaves$Probes" "cells" "[I", Cond.methodLink RX3 27 arraycopyName, Cond.fieldLink RX3 15 "DippedWaves$Probes" "lengths" "[I", Cond.fieldLink RX3 20 "DippedWaves$Probes" "heights" "[[I", Cond.fieldLink RX3 23 "DippedWaves$Probes" "many" "I", Cond.methodLink RX5 108 yX0_append, Cond.instanceMethod yX0_append, Cond.selects RX0 yX0_append yX0_append, Cond.code yX0_append cX0_append 5 (some .int)]
def wsX5_dip : List Cond := .code yX5_dip cX5_dip 7 (some .int) :: ((wsX5_dip_r1 ++ (wsX5_dip_r2 ++ wsX5_dip_r3)) ++ wsX50 ++ wsX40 ++ wsX00 ++ wsX10 ++ wsX30)
def wsX5_isDipper : List Cond := .code yX5_isDipper cX5_isDipper 2 (some .boolean) :: ([.fieldLink RX5 12 "DippedWaves" "tank" "LDippedWaves$Tank;", .fieldLink RX5 63 "DippedWaves$Tank" "dippers" "LDippedWaves$Dippers;", .fieldLink RX5 105 "DippedWaves$Dippers" "many" "I", .methodLink RX5 101 yX5_isIn, .static yX5_isIn, .initialized RX5, .code yX5_isIn cX5_isIn 3 (some .boolean)] ++ wsX50 ++ wsX40 ++ wsX00)
def wsX5_takeOut_r1 : List Cond := [Cond.fieldLink RX5 22 "DippedWaves" "history" "LDippedWaves$History;", Cond.fieldLink RX5 12 "DippedWaves" "tank" "LDippedWaves$Tank;", Cond.fieldLink RX5 63 "DippedWaves$Tank" "dippers" "LDippedWaves$Dippers;", Cond.fieldLink RX5 105 "DippedWaves$Dippers" "many" "I", Cond.methodLink RX5 112 yX5_isDipper, Cond.instanceMethod yX5_isDipper, Cond.selects RX5 yX5_isDipper yX5_isDipper, Cond.initialized RX5, Cond.code yX5_isDipper cX5_isDipper 2 (some .boolean), Cond.methodLink RX5 101 yX5_isIn, Cond.static yX5_isIn, Cond.code yX5_isIn cX5_isIn 3 (some .boolean), Cond.methodLink RX5 48 yX1_keep, Cond.instanceMethod yX1_keep, Cond.selects RX1 yX1_keep yX1_keep, Cond.initialized RX1, Cond.code yX1_keep cX1_keep 2 none, Cond.fieldLink RX1 17 "DippedWaves$History" "many" "I", Cond.fieldLink RX1 11 "DippedWaves$History" "states" "[LDippedWaves$Tank;", Cond.methodLink RX1 22 yX1_loseOldest, Cond.instanceMethod yX1_loseOldest, Cond.selects RX1 yX1_loseOldest yX1_loseOldest, Cond.code yX1_loseOldest cX1_loseOldest 3 none, Cond.methodLink RX1 25 yX4_become]
def wsX5_takeOut_r2 : List Cond := [Cond.instanceMethod yX4_become, Cond.selects RX4 yX4_become yX4_become, Cond.initialized RX4, Cond.code yX4_become cX4_become 2 none, Cond.fieldLink RX4 18 "DippedWaves$Tank" "settings" "[I", Cond.methodLink RX4 59 arraycopyName, Cond.native arraycopyName, Cond.static arraycopyName, Cond.initialized "java/lang/System", Cond.fieldLink RX4 23 "DippedWaves$Tank" "floors" "[I", Cond.fieldLink RX4 26 "DippedWaves$Tank" "heights" "[I", Cond.fieldLink RX4 29 "DippedWaves$Tank" "ahead" "[I", Cond.fieldLink RX4 32 "DippedWaves$Tank" "firsts" "[I", Cond.fieldLink RX4 38 "DippedWaves$Tank" "dippers" "LDippedWaves$Dippers;", Cond.fieldLink RX4 45 "DippedWaves$Tank" "probes" "LDippedWaves$Probes;", Cond.fieldLink RX4 49 "DippedWaves$Tank" "tick" "I", Cond.methodLink RX4 65 yX0_become, Cond.instanceMethod yX0_become, Cond.selects RX0 yX0_become yX0_become, Cond.initialized RX0, Cond.code yX0_become cX0_become 2 none, Cond.fieldLink RX0 9 "DippedWaves$Dippers" "cells" "[I", Cond.methodLink RX0 28 arraycopyName, Cond.fieldLink RX0 15 "DippedWaves$Dippers" "periods" "[I"]
def wsX5_takeOut_r3 : List Cond := [Cond.fieldLink RX0 18 "DippedWaves$Dippers" "sizes" "[I", Cond.fieldLink RX0 21 "DippedWaves$Dippers" "shifts" "[I", Cond.fieldLink RX0 24 "DippedWaves$Dippers" "many" "I", Cond.methodLink RX4 69 yX3_become, Cond.instanceMethod yX3_become, Cond.selects RX3 yX3_become yX3_become, Cond.initialized RX3, Cond.code yX3_become cX3_become 3 none, Cond.fieldLink RX3 9 "DippedWaves$Probes" "cells" "[I", Cond.methodLink RX3 27 arraycopyName, Cond.fieldLink RX3 15 "DippedWaves$Probes" "lengths" "[I", Cond.fieldLink RX3 20 "DippedWaves$Probes" "heights" "[[I", Cond.fieldLink RX3 23 "DippedWaves$Probes" "many" "I", Cond.methodLink RX5 116 yX0_remove, Cond.instanceMethod yX0_remove, Cond.selects RX0 yX0_remove yX0_remove, Cond.code yX0_remove cX0_remove 3 none]
def wsX5_takeOut : List Cond := .code yX5_takeOut cX5_takeOut 2 (some .int) :: ((wsX5_takeOut_r1 ++ (wsX5_takeOut_r2 ++ wsX5_takeOut_r3)) ++ wsX50 ++ wsX40 ++ wsX00 ++ wsX10 ++ wsX30)
def wsX5_drop_r1 : List Cond := [Cond.fieldLink RX5 12 "DippedWaves" "tank" "LDippedWaves$Tank;", Cond.fieldLink RX5 73 "DippedWaves$Tank" "floors" "[I", Cond.fieldLink RX5 22 "DippedWaves" "history" "LDippedWaves$History;", Cond.fieldLink RX5 120 "DippedWaves$Tank" "heights" "[I", Cond.methodLink RX5 55 yX5_isCell, Cond.static yX5_isCell, Cond.initialized RX5, Cond.code yX5_isCell cX5_isCell 2 (some .boolean), Cond.methodLink RX5 101 yX5_isIn, Cond.static yX5_isIn, Cond.code yX5_isIn cX5_isIn 3 (some .boolean), Cond.methodLink RX5 59 yX5_placeOf, Cond.static yX5_placeOf, Cond.code yX5_placeOf cX5_placeOf 2 (some .int), Cond.methodLink RX5 48 yX1_keep, Cond.instanceMethod yX1_keep, Cond.selects RX1 yX1_keep yX1_keep, Cond.initialized RX1, Cond.code yX1_keep cX1_keep 2 none, Cond.fieldLink RX1 17 "DippedWaves$History" "many" "I", Cond.fieldLink RX1 11 "DippedWaves$History" "states" "[LDippedWaves$Tank;", Cond.methodLink RX1 22 yX1_loseOldest, Cond.instanceMethod yX1_loseOldest, Cond.selects RX1 yX1_loseOldest yX1_loseOldest]
def wsX5_drop_r2 : List Cond := [Cond.code yX1_loseOldest cX1_loseOldest 3 none, Cond.methodLink RX1 25 yX4_become, Cond.instanceMethod yX4_become, Cond.selects RX4 yX4_become yX4_become, Cond.initialized RX4, Cond.code yX4_become cX4_become 2 none, Cond.fieldLink RX4 18 "DippedWaves$Tank" "settings" "[I", Cond.methodLink RX4 59 arraycopyName, Cond.native arraycopyName, Cond.static arraycopyName, Cond.initialized "java/lang/System", Cond.fieldLink RX4 23 "DippedWaves$Tank" "floors" "[I", Cond.fieldLink RX4 26 "DippedWaves$Tank" "heights" "[I", Cond.fieldLink RX4 29 "DippedWaves$Tank" "ahead" "[I", Cond.fieldLink RX4 32 "DippedWaves$Tank" "firsts" "[I", Cond.fieldLink RX4 38 "DippedWaves$Tank" "dippers" "LDippedWaves$Dippers;", Cond.fieldLink RX4 45 "DippedWaves$Tank" "probes" "LDippedWaves$Probes;", Cond.fieldLink RX4 49 "DippedWaves$Tank" "tick" "I", Cond.methodLink RX4 65 yX0_become, Cond.instanceMethod yX0_become, Cond.selects RX0 yX0_become yX0_become, Cond.initialized RX0, Cond.code yX0_become cX0_become 2 none, Cond.fieldLink RX0 9 "DippedWaves$Dippers" "cells" "[I"]
def wsX5_drop_r3 : List Cond := [Cond.methodLink RX0 28 arraycopyName, Cond.fieldLink RX0 15 "DippedWaves$Dippers" "periods" "[I", Cond.fieldLink RX0 18 "DippedWaves$Dippers" "sizes" "[I", Cond.fieldLink RX0 21 "DippedWaves$Dippers" "shifts" "[I", Cond.fieldLink RX0 24 "DippedWaves$Dippers" "many" "I", Cond.methodLink RX4 69 yX3_become, Cond.instanceMethod yX3_become, Cond.selects RX3 yX3_become yX3_become, Cond.initialized RX3, Cond.code yX3_become cX3_become 3 none, Cond.fieldLink RX3 9 "DippedWaves$Probes" "cells" "[I", Cond.methodLink RX3 27 arraycopyName, Cond.fieldLink RX3 15 "DippedWaves$Probes" "lengths" "[I", Cond.fieldLink RX3 20 "DippedWaves$Probes" "heights" "[[I", Cond.fieldLink RX3 23 "DippedWaves$Probes" "many" "I", Cond.methodLink RX5 123 yX5_bounded, Cond.static yX5_bounded, Cond.code yX5_bounded cX5_bounded 1 (some .int), Cond.methodLink RX5 224 Lib.Math.min.name, Cond.static Lib.Math.min.name, Cond.initialized "java/lang/Math", Cond.code Lib.Math.min.name Lib.Math.min.code 2 (some .int), Cond.methodLink RX5 229 Lib.Math.max.name, Cond.static Lib.Math.max.name]
def wsX5_drop_r4 : List Cond := [Cond.code Lib.Math.max.name Lib.Math.max.code 2 (some .int)]
def wsX5_drop : List Cond := .code yX5_drop cX5_drop 5 (some .int) :: ((wsX5_drop_r1 ++ (wsX5_drop_r2 ++ (wsX5_drop_r3 ++ wsX5_drop_r4))) ++ wsX50 ++ wsX40 ++ wsX10 ++ wsX00 ++ wsX30)
def wsX5_probe_r1 : List Cond := [Cond.fieldLink RX5 12 "DippedWaves" "tank" "LDippedWaves$Tank;", Cond.fieldLink RX5 126 "DippedWaves$Tank" "probes" "LDippedWaves$Probes;", Cond.fieldLink RX5 130 "DippedWaves$Probes" "many" "I", Cond.fieldLink RX5 22 "DippedWaves" "history" "LDippedWaves$History;", Cond.methodLink RX5 55 yX5_isCell, Cond.static yX5_isCell, Cond.initialized RX5, Cond.code yX5_isCell cX5_isCell 2 (some .boolean), Cond.methodLink RX5 101 yX5_isIn, Cond.static yX5_isIn, Cond.code yX5_isIn cX5_isIn 3 (some .boolean), Cond.methodLink RX5 48 yX1_keep, Cond.instanceMethod yX1_keep, Cond.selects RX1 yX1_keep yX1_keep, Cond.initialized RX1, Cond.code yX1_keep cX1_keep 2 none, Cond.fieldLink RX1 17 "DippedWaves$History" "many" "I", Cond.fieldLink RX1 11 "DippedWaves$History" "states" "[LDippedWaves$Tank;", Cond.methodLink RX1 22 yX1_loseOldest, Cond.instanceMethod yX1_loseOldest, Cond.selects RX1 yX1_loseOldest yX1_loseOldest, Cond.code yX1_loseOldest cX1_loseOldest 3 none, Cond.methodLink RX1 25 yX4_become, Cond.instanceMethod yX4_become]
def wsX5_probe_r2 : List Cond := [Cond.selects RX4 yX4_become yX4_become, Cond.initialized RX4, Cond.code yX4_become cX4_become 2 none, Cond.fieldLink RX4 18 "DippedWaves$Tank" "settings" "[I", Cond.methodLink RX4 59 arraycopyName, Cond.native arraycopyName, Cond.static arraycopyName, Cond.initialized "java/lang/System", Cond.fieldLink RX4 23 "DippedWaves$Tank" "floors" "[I", Cond.fieldLink RX4 26 "DippedWaves$Tank" "heights" "[I", Cond.fieldLink RX4 29 "DippedWaves$Tank" "ahead" "[I", Cond.fieldLink RX4 32 "DippedWaves$Tank" "firsts" "[I", Cond.fieldLink RX4 38 "DippedWaves$Tank" "dippers" "LDippedWaves$Dippers;", Cond.fieldLink RX4 45 "DippedWaves$Tank" "probes" "LDippedWaves$Probes;", Cond.fieldLink RX4 49 "DippedWaves$Tank" "tick" "I", Cond.methodLink RX4 65 yX0_become, Cond.instanceMethod yX0_become, Cond.selects RX0 yX0_become yX0_become, Cond.initialized RX0, Cond.code yX0_become cX0_become 2 none, Cond.fieldLink RX0 9 "DippedWaves$Dippers" "cells" "[I", Cond.methodLink RX0 28 arraycopyName, Cond.fieldLink RX0 15 "DippedWaves$Dippers" "periods" "[I", Cond.fieldLink RX0 18 "DippedWaves$Dippers" "sizes" "[I"]
def wsX5_probe_r3 : List Cond := [Cond.fieldLink RX0 21 "DippedWaves$Dippers" "shifts" "[I", Cond.fieldLink RX0 24 "DippedWaves$Dippers" "many" "I", Cond.methodLink RX4 69 yX3_become, Cond.instanceMethod yX3_become, Cond.selects RX3 yX3_become yX3_become, Cond.initialized RX3, Cond.code yX3_become cX3_become 3 none, Cond.fieldLink RX3 9 "DippedWaves$Probes" "cells" "[I", Cond.methodLink RX3 27 arraycopyName, Cond.fieldLink RX3 15 "DippedWaves$Probes" "lengths" "[I", Cond.fieldLink RX3 20 "DippedWaves$Probes" "heights" "[[I", Cond.fieldLink RX3 23 "DippedWaves$Probes" "many" "I", Cond.methodLink RX5 59 yX5_placeOf, Cond.static yX5_placeOf, Cond.code yX5_placeOf cX5_placeOf 2 (some .int), Cond.methodLink RX5 133 yX3_append, Cond.instanceMethod yX3_append, Cond.selects RX3 yX3_append yX3_append, Cond.code yX3_append cX3_append 2 (some .int)]
def wsX5_probe : List Cond := .code yX5_probe cX5_probe 3 (some .int) :: ((wsX5_probe_r1 ++ (wsX5_probe_r2 ++ wsX5_probe_r3)) ++ wsX50 ++ wsX40 ++ wsX30 ++ wsX10 ++ wsX00)
def wsX5_pass_r1 : List Cond := [Cond.fieldLink RX5 12 "DippedWaves" "tank" "LDippedWaves$Tank;", Cond.fieldLink RX5 135 "DippedWaves$Tank" "tick" "I", Cond.constant RX5 138 (100000), Cond.fieldLink RX5 22 "DippedWaves" "history" "LDippedWaves$History;", Cond.methodLink RX5 101 yX5_isIn, Cond.static yX5_isIn, Cond.initialized RX5, Cond.code yX5_isIn cX5_isIn 3 (some .boolean), Cond.methodLink RX5 48 yX1_keep, Cond.instanceMethod yX1_keep, Cond.selects RX1 yX1_keep yX1_keep, Cond.initialized RX1, Cond.code yX1_keep cX1_keep 2 none, Cond.fieldLink RX1 17 "DippedWaves$History" "many" "I", Cond.fieldLink RX1 11 "DippedWaves$History" "states" "[LDippedWaves$Tank;", Cond.methodLink RX1 22 yX1_loseOldest, Cond.instanceMethod yX1_loseOldest, Cond.selects RX1 yX1_loseOldest yX1_loseOldest, Cond.code yX1_loseOldest cX1_loseOldest 3 none, Cond.methodLink RX1 25 yX4_become, Cond.instanceMethod yX4_become, Cond.selects RX4 yX4_become yX4_become, Cond.initialized RX4, Cond.code yX4_become cX4_become 2 none]
def wsX5_pass_r2 : List Cond := [Cond.fieldLink RX4 18 "DippedWaves$Tank" "settings" "[I", Cond.methodLink RX4 59 arraycopyName, Cond.native arraycopyName, Cond.static arraycopyName, Cond.initialized "java/lang/System", Cond.fieldLink RX4 23 "DippedWaves$Tank" "floors" "[I", Cond.fieldLink RX4 26 "DippedWaves$Tank" "heights" "[I", Cond.fieldLink RX4 29 "DippedWaves$Tank" "ahead" "[I", Cond.fieldLink RX4 32 "DippedWaves$Tank" "firsts" "[I", Cond.fieldLink RX4 38 "DippedWaves$Tank" "dippers" "LDippedWaves$Dippers;", Cond.fieldLink RX4 45 "DippedWaves$Tank" "probes" "LDippedWaves$Probes;", Cond.fieldLink RX4 49 "DippedWaves$Tank" "tick" "I", Cond.methodLink RX4 65 yX0_become, Cond.instanceMethod yX0_become, Cond.selects RX0 yX0_become yX0_become, Cond.initialized RX0, Cond.code yX0_become cX0_become 2 none, Cond.fieldLink RX0 9 "DippedWaves$Dippers" "cells" "[I", Cond.methodLink RX0 28 arraycopyName, Cond.fieldLink RX0 15 "DippedWaves$Dippers" "periods" "[I", Cond.fieldLink RX0 18 "DippedWaves$Dippers" "sizes" "[I", Cond.fieldLink RX0 21 "DippedWaves$Dippers" "shifts" "[I", Cond.fieldLink RX0 24 "DippedWaves$Dippers" "many" "I", Cond.methodLink RX4 69 yX3_become]
def wsX5_pass_r3 : List Cond := [Cond.instanceMethod yX3_become, Cond.selects RX3 yX3_become yX3_become, Cond.initialized RX3, Cond.code yX3_become cX3_become 3 none, Cond.fieldLink RX3 9 "DippedWaves$Probes" "cells" "[I", Cond.methodLink RX3 27 arraycopyName, Cond.fieldLink RX3 15 "DippedWaves$Probes" "lengths" "[I", Cond.fieldLink RX3 20 "DippedWaves$Probes" "heights" "[[I", Cond.fieldLink RX3 23 "DippedWaves$Probes" "many" "I", Cond.methodLink RX5 139 yX4_run, Cond.instanceMethod yX4_run, Cond.selects RX4 yX4_run yX4_run, Cond.code yX4_run cX4_run 3 none, Cond.methodLink RX4 88 yX4_step, Cond.instanceMethod yX4_step, Cond.selects RX4 yX4_step yX4_step, Cond.code yX4_step cX4_step 3 none, Cond.methodLink RX4 91 yX4_nextHeight, Cond.instanceMethod yX4_nextHeight, Cond.selects RX4 yX4_nextHeight yX4_nextHeight, Cond.code yX4_nextHeight cX4_nextHeight 5 (some .int), Cond.methodLink RX4 104 yX4_slopeAt, Cond.instanceMethod yX4_slopeAt, Cond.selects RX4 yX4_slopeAt yX4_slopeAt]
def wsX5_pass_r4 : List Cond := [Cond.code yX4_slopeAt cX4_slopeAt 5 (some .int), Cond.methodLink RX4 113 yX4_rise, Cond.instanceMethod yX4_rise, Cond.selects RX4 yX4_rise yX4_rise, Cond.code yX4_rise cX4_rise 3 (some .int), Cond.static yX5_bounded, Cond.code yX5_bounded cX5_bounded 1 (some .int), Cond.methodLink RX5 224 Lib.Math.min.name, Cond.static Lib.Math.min.name, Cond.initialized "java/lang/Math", Cond.code Lib.Math.min.name Lib.Math.min.code 2 (some .int), Cond.methodLink RX5 229 Lib.Math.max.name, Cond.static Lib.Math.max.name, Cond.code Lib.Math.max.name Lib.Math.max.code 2 (some .int), Cond.methodLink RX4 94 yX0_beat, Cond.instanceMethod yX0_beat, Cond.selects RX0 yX0_beat yX0_beat, Cond.code yX0_beat cX0_beat 4 none, Cond.methodLink RX0 34 yX0_isUp, Cond.instanceMethod yX0_isUp, Cond.selects RX0 yX0_isUp yX0_isUp, Cond.code yX0_isUp cX0_isUp 4 (some .boolean), Cond.methodLink RX4 97 yX4_keepFirsts, Cond.instanceMethod yX4_keepFirsts]
def wsX5_pass_r5 : List Cond := [Cond.selects RX4 yX4_keepFirsts yX4_keepFirsts, Cond.code yX4_keepFirsts cX4_keepFirsts 2 none, Cond.methodLink RX4 110 yX4_loudnessOf, Cond.instanceMethod yX4_loudnessOf, Cond.selects RX4 yX4_loudnessOf yX4_loudnessOf, Cond.code yX4_loudnessOf cX4_loudnessOf 2 (some .int), Cond.methodLink RX4 124 Lib.Math.abs.name, Cond.static Lib.Math.abs.name, Cond.code Lib.Math.abs.name Lib.Math.abs.code 1 (some .int), Cond.methodLink RX4 100 yX3_look, Cond.instanceMethod yX3_look, Cond.selects RX3 yX3_look yX3_look, Cond.code yX3_look cX3_look 3 none, Cond.methodLink RX3 39 Lib.Math.min.name, Cond.methodLink RX5 142 yX4_restlessCells, Cond.instanceMethod yX4_restlessCells, Cond.selects RX4 yX4_restlessCells yX4_restlessCells, Cond.code yX4_restlessCells cX4_restlessCells 3 (some .int), Cond.methodLink RX4 132 yX4_isStill, Cond.instanceMethod yX4_isStill, Cond.selects RX4 yX4_isStill yX4_isStill, Cond.code yX4_isStill cX4_isStill 2 (some .boolean)]
def wsX5_pass : List Cond := .code yX5_pass cX5_pass 2 (some .int) :: ((wsX5_pass_r1 ++ (wsX5_pass_r2 ++ (wsX5_pass_r3 ++ (wsX5_pass_r4 ++ wsX5_pass_r5)))) ++ wsX50 ++ wsX40 ++ wsX10 ++ wsX00 ++ wsX30)
def wsX5_cell_r1 : List Cond := [Cond.fieldLink RX5 12 "DippedWaves" "tank" "LDippedWaves$Tank;", Cond.fieldLink RX5 73 "DippedWaves$Tank" "floors" "[I", Cond.fieldLink RX5 120 "DippedWaves$Tank" "heights" "[I", Cond.fieldLink RX5 145 "DippedWaves$Tank" "ahead" "[I", Cond.constant RX5 138 (100000), Cond.fieldLink RX5 154 "DippedWaves$Tank" "firsts" "[I", Cond.fieldLink RX5 63 "DippedWaves$Tank" "dippers" "LDippedWaves$Dippers;", Cond.methodLink RX5 55 yX5_isCell, Cond.static yX5_isCell, Cond.initialized RX5, Cond.code yX5_isCell cX5_isCell 2 (some .boolean), Cond.methodLink RX5 101 yX5_isIn, Cond.static yX5_isIn, Cond.code yX5_isIn cX5_isIn 3 (some .boolean), Cond.methodLink RX5 59 yX5_placeOf, Cond.static yX5_placeOf, Cond.code yX5_placeOf cX5_placeOf 2 (some .int), Cond.methodLink RX5 148 yX4_slopeAt, Cond.instanceMethod yX4_slopeAt, Cond.selects RX4 yX4_slopeAt yX4_slopeAt, Cond.initialized RX4, Cond.code yX4_slopeAt cX4_slopeAt 5 (some .int), Cond.fieldLink RX4 23 "DippedWaves$Tank" "floors" "[I", Cond.methodLink RX4 113 yX4_rise]
def wsX5_cell_r2 : List Cond := [Cond.instanceMethod yX4_rise, Cond.selects RX4 yX4_rise yX4_rise, Cond.code yX4_rise cX4_rise 3 (some .int), Cond.fieldLink RX4 26 "DippedWaves$Tank" "heights" "[I", Cond.methodLink RX5 151 yX4_isStill, Cond.instanceMethod yX4_isStill, Cond.selects RX4 yX4_isStill yX4_isStill, Cond.code yX4_isStill cX4_isStill 2 (some .boolean), Cond.fieldLink RX4 18 "DippedWaves$Tank" "settings" "[I", Cond.fieldLink RX4 29 "DippedWaves$Tank" "ahead" "[I", Cond.methodLink RX4 124 Lib.Math.abs.name, Cond.static Lib.Math.abs.name, Cond.initialized "java/lang/Math", Cond.code Lib.Math.abs.name Lib.Math.abs.code 1 (some .int), Cond.methodLink RX4 110 yX4_loudnessOf, Cond.instanceMethod yX4_loudnessOf, Cond.selects RX4 yX4_loudnessOf yX4_loudnessOf, Cond.code yX4_loudnessOf cX4_loudnessOf 2 (some .int), Cond.methodLink RX5 67 yX0_lastIn, Cond.instanceMethod yX0_lastIn, Cond.selects RX0 yX0_lastIn yX0_lastIn, Cond.initialized RX0, Cond.code yX0_lastIn cX0_lastIn 3 (some .int), Cond.fieldLink RX0 24 "DippedWaves$Dippers" "many" "I"]
def wsX5_cell_r3 : List Cond := [Cond.fieldLink RX0 9 "DippedWaves$Dippers" "cells" "[I"]
def wsX5_cell : List Cond := .code yX5_cell cX5_cell 5 (some .int) :: ((wsX5_cell_r1 ++ (wsX5_cell_r2 ++ wsX5_cell_r3)) ++ wsX50 ++ wsX40 ++ wsX00)
def wsX5_dipper : List Cond := .code yX5_dipper cX5_dipper 4 (some .int) :: ([.fieldLink RX5 12 "DippedWaves" "tank" "LDippedWaves$Tank;", .fieldLink RX5 63 "DippedWaves$Tank" "dippers" "LDippedWaves$Dippers;", .fieldLink RX5 157 "DippedWaves$Dippers" "cells" "[I", .fieldLink RX5 160 "DippedWaves$Dippers" "periods" "[I", .fieldLink RX5 163 "DippedWaves$Dippers" "sizes" "[I", .fieldLink RX5 166 "DippedWaves$Dippers" "shifts" "[I", .fieldLink RX5 135 "DippedWaves$Tank" "tick" "I", .methodLink RX5 112 yX5_isDipper, .instanceMethod yX5_isDipper, .selects RX5 yX5_isDipper yX5_isDipper, .initialized RX5, .code yX5_isDipper cX5_isDipper 2 (some .boolean), .fieldLink RX5 105 "DippedWaves$Dippers" "many" "I", .methodLink RX5 101 yX5_isIn, .static yX5_isIn, .code yX5_isIn cX5_isIn 3 (some .boolean), .methodLink RX5 169 yX0_isUp, .instanceMethod yX0_isUp, .selects RX0 yX0_isUp yX0_isUp, .initialized RX0, .code yX0_isUp cX0_isUp 4 (some .boolean), .fieldLink RX0 15 "DippedWaves$Dippers" "periods" "[I", .fieldLink RX0 21 "DippedWaves$Dippers" "shifts" "[I"] ++ wsX50 ++ wsX40 ++ wsX00)
def wsX5_isProbe : List Cond := .code yX5_isProbe cX5_isProbe 2 (some .boolean) :: ([.fieldLink RX5 12 "DippedWaves" "tank" "LDippedWaves$Tank;", .fieldLink RX5 126 "DippedWaves$Tank" "probes" "LDippedWaves$Probes;", .fieldLink RX5 130 "DippedWaves$Probes" "many" "I", .methodLink RX5 101 yX5_isIn, .static yX5_isIn, .initialized RX5, .code yX5_isIn cX5_isIn 3 (some .boolean)] ++ wsX50 ++ wsX40 ++ wsX30)
def wsX5_ofProbe_r1 : List Cond := [Cond.fieldLink RX5 12 "DippedWaves" "tank" "LDippedWaves$Tank;", Cond.fieldLink RX5 126 "DippedWaves$Tank" "probes" "LDippedWaves$Probes;", Cond.fieldLink RX5 175 "DippedWaves$Probes" "cells" "[I", Cond.fieldLink RX5 176 "DippedWaves$Probes" "lengths" "[I", Cond.methodLink RX5 172 yX5_isProbe, Cond.instanceMethod yX5_isProbe, Cond.selects RX5 yX5_isProbe yX5_isProbe, Cond.initialized RX5, Cond.code yX5_isProbe cX5_isProbe 2 (some .boolean), Cond.fieldLink RX5 130 "DippedWaves$Probes" "many" "I", Cond.methodLink RX5 101 yX5_isIn, Cond.static yX5_isIn, Cond.code yX5_isIn cX5_isIn 3 (some .boolean), Cond.methodLink RX5 179 yX3_beatOf, Cond.instanceMethod yX3_beatOf, Cond.selects RX3 yX3_beatOf yX3_beatOf, Cond.initialized RX3, Cond.code yX3_beatOf cX3_beatOf 6 (some .int), Cond.fieldLink RX3 15 "DippedWaves$Probes" "lengths" "[I", Cond.methodLink RX3 48 yX3_differences, Cond.instanceMethod yX3_differences, Cond.selects RX3 yX3_differences yX3_differences, Cond.code yX3_differences cX3_differences 5 (some .int), Cond.fieldLink RX3 20 "DippedWaves$Probes" "heights" "[[I"]
def wsX5_ofProbe_r2 : List Cond := [Cond.methodLink RX3 51 Lib.Math.abs.name, Cond.static Lib.Math.abs.name, Cond.initialized "java/lang/Math", Cond.code Lib.Math.abs.name Lib.Math.abs.code 1 (some .int), Cond.methodLink RX5 182 yX3_greatestOf, Cond.instanceMethod yX3_greatestOf, Cond.selects RX3 yX3_greatestOf yX3_greatestOf, Cond.code yX3_greatestOf cX3_greatestOf 4 (some .int), Cond.methodLink RX3 45 Lib.Math.max.name, Cond.static Lib.Math.max.name, Cond.code Lib.Math.max.name Lib.Math.max.code 2 (some .int)]
def wsX5_ofProbe : List Cond := .code yX5_ofProbe cX5_ofProbe 4 (some .int) :: ((wsX5_ofProbe_r1 ++ wsX5_ofProbe_r2) ++ wsX50 ++ wsX40 ++ wsX30)
def wsX5_seen : List Cond := .code yX5_seen cX5_seen 3 (some .int) :: ([.fieldLink RX5 12 "DippedWaves" "tank" "LDippedWaves$Tank;", .fieldLink RX5 126 "DippedWaves$Tank" "probes" "LDippedWaves$Probes;", .fieldLink RX5 176 "DippedWaves$Probes" "lengths" "[I", .fieldLink RX5 185 "DippedWaves$Probes" "heights" "[[I", .methodLink RX5 172 yX5_isProbe, .instanceMethod yX5_isProbe, .selects RX5 yX5_isProbe yX5_isProbe, .initialized RX5, .code yX5_isProbe cX5_isProbe 2 (some .boolean), .fieldLink RX5 130 "DippedWaves$Probes" "many" "I", .methodLink RX5 101 yX5_isIn, .static yX5_isIn, .code yX5_isIn cX5_isIn 3 (some .boolean)] ++ wsX50 ++ wsX40 ++ wsX30)
def wsX5_count_r1 : List Cond := [Cond.fieldLink RX5 12 "DippedWaves" "tank" "LDippedWaves$Tank;", Cond.fieldLink RX5 135 "DippedWaves$Tank" "tick" "I", Cond.constant RX5 191 (1000000), Cond.fieldLink RX5 63 "DippedWaves$Tank" "dippers" "LDippedWaves$Dippers;", Cond.fieldLink RX5 105 "DippedWaves$Dippers" "many" "I", Cond.fieldLink RX5 126 "DippedWaves$Tank" "probes" "LDippedWaves$Probes;", Cond.fieldLink RX5 130 "DippedWaves$Probes" "many" "I", Cond.fieldLink RX5 52 "DippedWaves$Tank" "settings" "[I", Cond.fieldLink RX5 37 "DippedWaves" "pad" "LDippedWaves$Pad;", Cond.fieldLink RX5 88 "DippedWaves$Pad" "length" "I", Cond.fieldLink RX5 22 "DippedWaves" "history" "LDippedWaves$History;", Cond.fieldLink RX5 201 "DippedWaves$History" "many" "I", Cond.methodLink RX5 92 yX4_openCells, Cond.instanceMethod yX4_openCells, Cond.selects RX4 yX4_openCells yX4_openCells, Cond.initialized RX4, Cond.code yX4_openCells cX4_openCells 3 (some .int), Cond.fieldLink RX4 23 "DippedWaves$Tank" "floors" "[I", Cond.methodLink RX5 142 yX4_restlessCells, Cond.instanceMethod yX4_restlessCells, Cond.selects RX4 yX4_restlessCells yX4_restlessCells, Cond.code yX4_restlessCells cX4_restlessCells 3 (some .int), Cond.methodLink RX4 132 yX4_isStill, Cond.instanceMethod yX4_isStill]
def wsX5_count_r2 : List Cond := [Cond.selects RX4 yX4_isStill yX4_isStill, Cond.code yX4_isStill cX4_isStill 2 (some .boolean), Cond.fieldLink RX4 18 "DippedWaves$Tank" "settings" "[I", Cond.fieldLink RX4 29 "DippedWaves$Tank" "ahead" "[I", Cond.methodLink RX4 124 Lib.Math.abs.name, Cond.static Lib.Math.abs.name, Cond.initialized "java/lang/Math", Cond.code Lib.Math.abs.name Lib.Math.abs.code 1 (some .int), Cond.methodLink RX4 110 yX4_loudnessOf, Cond.instanceMethod yX4_loudnessOf, Cond.selects RX4 yX4_loudnessOf yX4_loudnessOf, Cond.code yX4_loudnessOf cX4_loudnessOf 2 (some .int), Cond.fieldLink RX4 26 "DippedWaves$Tank" "heights" "[I", Cond.methodLink RX5 188 yX4_sum, Cond.instanceMethod yX4_sum, Cond.selects RX4 yX4_sum yX4_sum, Cond.code yX4_sum cX4_sum 3 (some .int), Cond.methodLink RX5 95 yX4_loudness, Cond.instanceMethod yX4_loudness, Cond.selects RX4 yX4_loudness yX4_loudness, Cond.code yX4_loudness cX4_loudness 3 (some .int), Cond.methodLink RX5 192 yX4_loudestCell, Cond.instanceMethod yX4_loudestCell, Cond.selects RX4 yX4_loudestCell yX4_loudestCell]
def wsX5_count_r3 : List Cond := [Cond.code yX4_loudestCell cX4_loudestCell 3 (some .int), Cond.methodLink RX5 195 yX4_loudnessOf, Cond.methodLink RX5 198 yX4_reachedCells, Cond.instanceMethod yX4_reachedCells, Cond.selects RX4 yX4_reachedCells yX4_reachedCells, Cond.code yX4_reachedCells cX4_reachedCells 3 (some .int), Cond.fieldLink RX4 32 "DippedWaves$Tank" "firsts" "[I"]
def wsX5_count : List Cond := .code yX5_count cX5_count 2 (some .int) :: ((wsX5_count_r1 ++ (wsX5_count_r2 ++ wsX5_count_r3)) ++ wsX50 ++ wsX40 ++ wsX00 ++ wsX30 ++ wsX20 ++ wsX10)
def wsX5_loudest : List Cond := .code yX5_loudest cX5_loudest 3 (some .int) :: ([.fieldLink RX5 12 "DippedWaves" "tank" "LDippedWaves$Tank;", .methodLink RX5 101 yX5_isIn, .static yX5_isIn, .initialized RX5, .code yX5_isIn cX5_isIn 3 (some .boolean), .methodLink RX5 192 yX4_loudestCell, .instanceMethod yX4_loudestCell, .selects RX4 yX4_loudestCell yX4_loudestCell, .initialized RX4, .code yX4_loudestCell cX4_loudestCell 3 (some .int), .methodLink RX4 110 yX4_loudnessOf, .instanceMethod yX4_loudnessOf, .selects RX4 yX4_loudnessOf yX4_loudnessOf, .code yX4_loudnessOf cX4_loudnessOf 2 (some .int), .fieldLink RX4 26 "DippedWaves$Tank" "heights" "[I", .methodLink RX4 124 Lib.Math.abs.name, .static Lib.Math.abs.name, .initialized "java/lang/Math", .code Lib.Math.abs.name Lib.Math.abs.code 1 (some .int), .methodLink RX5 195 yX4_loudnessOf] ++ wsX50 ++ wsX40)
def wsX5_crests : List Cond := .code yX5_crests cX5_crests 4 (some .int) :: ([.fieldLink RX5 12 "DippedWaves" "tank" "LDippedWaves$Tank;", .methodLink RX5 101 yX5_isIn, .static yX5_isIn, .initialized RX5, .code yX5_isIn cX5_isIn 3 (some .boolean), .methodLink RX5 202 yX4_isCrest, .instanceMethod yX4_isCrest, .selects RX4 yX4_isCrest yX4_isCrest, .initialized RX4, .code yX4_isCrest cX4_isCrest 4 (some .boolean), .methodLink RX4 129 yX4_heightAt, .instanceMethod yX4_heightAt, .selects RX4 yX4_heightAt yX4_heightAt, .code yX4_heightAt cX4_heightAt 3 (some .int), .fieldLink RX4 26 "DippedWaves$Tank" "heights" "[I", .static yX5_isCell, .code yX5_isCell cX5_isCell 2 (some .boolean), .static yX5_placeOf, .code yX5_placeOf cX5_placeOf 2 (some .int)] ++ wsX50 ++ wsX40)
def wsX5_ifPassed_r1 : List Cond := [Cond.fieldLink RX5 16 "DippedWaves" "trial" "LDippedWaves$Tank;", Cond.fieldLink RX5 12 "DippedWaves" "tank" "LDippedWaves$Tank;", Cond.fieldLink RX5 120 "DippedWaves$Tank" "heights" "[I", Cond.methodLink RX5 55 yX5_isCell, Cond.static yX5_isCell, Cond.initialized RX5, Cond.code yX5_isCell cX5_isCell 2 (some .boolean), Cond.methodLink RX5 101 yX5_isIn, Cond.static yX5_isIn, Cond.code yX5_isIn cX5_isIn 3 (some .boolean), Cond.methodLink RX5 205 yX4_become, Cond.instanceMethod yX4_become, Cond.selects RX4 yX4_become yX4_become, Cond.initialized RX4, Cond.code yX4_become cX4_become 2 none, Cond.fieldLink RX4 18 "DippedWaves$Tank" "settings" "[I", Cond.methodLink RX4 59 arraycopyName, Cond.native arraycopyName, Cond.static arraycopyName, Cond.initialized "java/lang/System", Cond.fieldLink RX4 23 "DippedWaves$Tank" "floors" "[I", Cond.fieldLink RX4 26 "DippedWaves$Tank" "heights" "[I", Cond.fieldLink RX4 29 "DippedWaves$Tank" "ahead" "[I", Cond.fieldLink RX4 32 "DippedWaves$Tank" "firsts" "[I"]
def wsX5_ifPassed_r2 : List Cond := [Cond.fieldLink RX4 38 "DippedWaves$Tank" "dippers" "LDippedWaves$Dippers;", Cond.fieldLink RX4 45 "DippedWaves$Tank" "probes" "LDippedWaves$Probes;", Cond.fieldLink RX4 49 "DippedWaves$Tank" "tick" "I", Cond.methodLink RX4 65 yX0_become, Cond.instanceMethod yX0_become, Cond.selects RX0 yX0_become yX0_become, Cond.initialized RX0, Cond.code yX0_become cX0_become 2 none, Cond.fieldLink RX0 9 "DippedWaves$Dippers" "cells" "[I", Cond.methodLink RX0 28 arraycopyName, Cond.fieldLink RX0 15 "DippedWaves$Dippers" "periods" "[I", Cond.fieldLink RX0 18 "DippedWaves$Dippers" "sizes" "[I", Cond.fieldLink RX0 21 "DippedWaves$Dippers" "shifts" "[I", Cond.fieldLink RX0 24 "DippedWaves$Dippers" "many" "I", Cond.methodLink RX4 69 yX3_become, Cond.instanceMethod yX3_become, Cond.selects RX3 yX3_become yX3_become, Cond.initialized RX3, Cond.code yX3_become cX3_become 3 none, Cond.fieldLink RX3 9 "DippedWaves$Probes" "cells" "[I", Cond.methodLink RX3 27 arraycopyName, Cond.fieldLink RX3 15 "DippedWaves$Probes" "lengths" "[I", Cond.fieldLink RX3 20 "DippedWaves$Probes" "heights" "[[I", Cond.fieldLink RX3 23 "DippedWaves$Probes" "many" "I"]
def wsX5_ifPassed_r3 : List Cond := [Cond.methodLink RX5 139 yX4_run, Cond.instanceMethod yX4_run, Cond.selects RX4 yX4_run yX4_run, Cond.code yX4_run cX4_run 3 none, Cond.methodLink RX4 88 yX4_step, Cond.instanceMethod yX4_step, Cond.selects RX4 yX4_step yX4_step, Cond.code yX4_step cX4_step 3 none, Cond.methodLink RX4 91 yX4_nextHeight, Cond.instanceMethod yX4_nextHeight, Cond.selects RX4 yX4_nextHeight yX4_nextHeight, Cond.code yX4_nextHeight cX4_nextHeight 5 (some .int), Cond.methodLink RX4 104 yX4_slopeAt, Cond.instanceMethod yX4_slopeAt, Cond.selects RX4 yX4_slopeAt yX4_slopeAt, Cond.code yX4_slopeAt cX4_slopeAt 5 (some .int), Cond.methodLink RX4 113 yX4_rise, Cond.instanceMethod yX4_rise, Cond.selects RX4 yX4_rise yX4_rise, Cond.code yX4_rise cX4_rise 3 (some .int), Cond.static yX5_bounded, Cond.code yX5_bounded cX5_bounded 1 (some .int), Cond.methodLink RX5 224 Lib.Math.min.name, Cond.static Lib.Math.min.name]
def wsX5_ifPassed_r4 : List Cond := [Cond.initialized "java/lang/Math", Cond.code Lib.Math.min.name Lib.Math.min.code 2 (some .int), Cond.methodLink RX5 229 Lib.Math.max.name, Cond.static Lib.Math.max.name, Cond.code Lib.Math.max.name Lib.Math.max.code 2 (some .int), Cond.methodLink RX4 94 yX0_beat, Cond.instanceMethod yX0_beat, Cond.selects RX0 yX0_beat yX0_beat, Cond.code yX0_beat cX0_beat 4 none, Cond.methodLink RX0 34 yX0_isUp, Cond.instanceMethod yX0_isUp, Cond.selects RX0 yX0_isUp yX0_isUp, Cond.code yX0_isUp cX0_isUp 4 (some .boolean), Cond.methodLink RX4 97 yX4_keepFirsts, Cond.instanceMethod yX4_keepFirsts, Cond.selects RX4 yX4_keepFirsts yX4_keepFirsts, Cond.code yX4_keepFirsts cX4_keepFirsts 2 none, Cond.methodLink RX4 110 yX4_loudnessOf, Cond.instanceMethod yX4_loudnessOf, Cond.selects RX4 yX4_loudnessOf yX4_loudnessOf, Cond.code yX4_loudnessOf cX4_loudnessOf 2 (some .int), Cond.methodLink RX4 124 Lib.Math.abs.name, Cond.static Lib.Math.abs.name, Cond.code Lib.Math.abs.name Lib.Math.abs.code 1 (some .int)]
def wsX5_ifPassed_r5 : List Cond := [Cond.methodLink RX4 100 yX3_look, Cond.instanceMethod yX3_look, Cond.selects RX3 yX3_look yX3_look, Cond.code yX3_look cX3_look 3 none, Cond.methodLink RX3 39 Lib.Math.min.name, Cond.methodLink RX5 59 yX5_placeOf, Cond.static yX5_placeOf, Cond.code yX5_placeOf cX5_placeOf 2 (some .int)]
def wsX5_ifPassed : List Cond := .code yX5_ifPassed cX5_ifPassed 4 (some .int) :: ((wsX5_ifPassed_r1 ++ (wsX5_ifPassed_r2 ++ (wsX5_ifPassed_r3 ++ (wsX5_ifPassed_r4 ++ wsX5_ifPassed_r5)))) ++ wsX50 ++ wsX40 ++ wsX00 ++ wsX30)
def wsX5_comes_r1 : List Cond := [Cond.fieldLink RX5 12 "DippedWaves" "tank" "LDippedWaves$Tank;", Cond.fieldLink RX5 16 "DippedWaves" "trial" "LDippedWaves$Tank;", Cond.methodLink RX5 55 yX5_isCell, Cond.static yX5_isCell, Cond.initialized RX5, Cond.code yX5_isCell cX5_isCell 2 (some .boolean), Cond.methodLink RX5 101 yX5_isIn, Cond.static yX5_isIn, Cond.code yX5_isIn cX5_isIn 3 (some .boolean), Cond.methodLink RX5 59 yX5_placeOf, Cond.static yX5_placeOf, Cond.code yX5_placeOf cX5_placeOf 2 (some .int), Cond.methodLink RX5 151 yX4_isStill, Cond.instanceMethod yX4_isStill, Cond.selects RX4 yX4_isStill yX4_isStill, Cond.initialized RX4, Cond.code yX4_isStill cX4_isStill 2 (some .boolean), Cond.fieldLink RX4 18 "DippedWaves$Tank" "settings" "[I", Cond.fieldLink RX4 29 "DippedWaves$Tank" "ahead" "[I", Cond.methodLink RX4 124 Lib.Math.abs.name, Cond.static Lib.Math.abs.name, Cond.initialized "java/lang/Math", Cond.code Lib.Math.abs.name Lib.Math.abs.code 1 (some .int), Cond.methodLink RX4 110 yX4_loudnessOf]
def wsX5_comes_r2 : List Cond := [Cond.instanceMethod yX4_loudnessOf, Cond.selects RX4 yX4_loudnessOf yX4_loudnessOf, Cond.code yX4_loudnessOf cX4_loudnessOf 2 (some .int), Cond.fieldLink RX4 26 "DippedWaves$Tank" "heights" "[I", Cond.methodLink RX5 205 yX4_become, Cond.instanceMethod yX4_become, Cond.selects RX4 yX4_become yX4_become, Cond.code yX4_become cX4_become 2 none, Cond.methodLink RX4 59 arraycopyName, Cond.native arraycopyName, Cond.static arraycopyName, Cond.initialized "java/lang/System", Cond.fieldLink RX4 23 "DippedWaves$Tank" "floors" "[I", Cond.fieldLink RX4 32 "DippedWaves$Tank" "firsts" "[I", Cond.fieldLink RX4 38 "DippedWaves$Tank" "dippers" "LDippedWaves$Dippers;", Cond.fieldLink RX4 45 "DippedWaves$Tank" "probes" "LDippedWaves$Probes;", Cond.fieldLink RX4 49 "DippedWaves$Tank" "tick" "I", Cond.methodLink RX4 65 yX0_become, Cond.instanceMethod yX0_become, Cond.selects RX0 yX0_become yX0_become, Cond.initialized RX0, Cond.code yX0_become cX0_become 2 none, Cond.fieldLink RX0 9 "DippedWaves$Dippers" "cells" "[I", Cond.methodLink RX0 28 arraycopyName]
def wsX5_comes_r3 : List Cond := [Cond.fieldLink RX0 15 "DippedWaves$Dippers" "periods" "[I", Cond.fieldLink RX0 18 "DippedWaves$Dippers" "sizes" "[I", Cond.fieldLink RX0 21 "DippedWaves$Dippers" "shifts" "[I", Cond.fieldLink RX0 24 "DippedWaves$Dippers" "many" "I", Cond.methodLink RX4 69 yX3_become, Cond.instanceMethod yX3_become, Cond.selects RX3 yX3_become yX3_become, Cond.initialized RX3, Cond.code yX3_become cX3_become 3 none, Cond.fieldLink RX3 9 "DippedWaves$Probes" "cells" "[I", Cond.methodLink RX3 27 arraycopyName, Cond.fieldLink RX3 15 "DippedWaves$Probes" "lengths" "[I", Cond.fieldLink RX3 20 "DippedWaves$Probes" "heights" "[[I", Cond.fieldLink RX3 23 "DippedWaves$Probes" "many" "I", Cond.methodLink RX5 208 yX4_step, Cond.instanceMethod yX4_step, Cond.selects RX4 yX4_step yX4_step, Cond.code yX4_step cX4_step 3 none, Cond.methodLink RX4 91 yX4_nextHeight, Cond.instanceMethod yX4_nextHeight, Cond.selects RX4 yX4_nextHeight yX4_nextHeight, Cond.code yX4_nextHeight cX4_nextHeight 5 (some .int), Cond.methodLink RX4 104 yX4_slopeAt, Cond.instanceMethod yX4_slopeAt]
def wsX5_comes_r4 : List Cond := [Cond.selects RX4 yX4_slopeAt yX4_slopeAt, Cond.code yX4_slopeAt cX4_slopeAt 5 (some .int), Cond.methodLink RX4 113 yX4_rise, Cond.instanceMethod yX4_rise, Cond.selects RX4 yX4_rise yX4_rise, Cond.code yX4_rise cX4_rise 3 (some .int), Cond.static yX5_bounded, Cond.code yX5_bounded cX5_bounded 1 (some .int), Cond.methodLink RX5 224 Lib.Math.min.name, Cond.static Lib.Math.min.name, Cond.code Lib.Math.min.name Lib.Math.min.code 2 (some .int), Cond.methodLink RX5 229 Lib.Math.max.name, Cond.static Lib.Math.max.name, Cond.code Lib.Math.max.name Lib.Math.max.code 2 (some .int), Cond.methodLink RX4 94 yX0_beat, Cond.instanceMethod yX0_beat, Cond.selects RX0 yX0_beat yX0_beat, Cond.code yX0_beat cX0_beat 4 none, Cond.methodLink RX0 34 yX0_isUp, Cond.instanceMethod yX0_isUp, Cond.selects RX0 yX0_isUp yX0_isUp, Cond.code yX0_isUp cX0_isUp 4 (some .boolean), Cond.methodLink RX4 97 yX4_keepFirsts, Cond.instanceMethod yX4_keepFirsts]
def wsX5_comes_r5 : List Cond := [Cond.selects RX4 yX4_keepFirsts yX4_keepFirsts, Cond.code yX4_keepFirsts cX4_keepFirsts 2 none, Cond.methodLink RX4 100 yX3_look, Cond.instanceMethod yX3_look, Cond.selects RX3 yX3_look yX3_look, Cond.code yX3_look cX3_look 3 none, Cond.methodLink RX3 39 Lib.Math.min.name]
def wsX5_comes : List Cond := .code yX5_comes cX5_comes 5 (some .int) :: ((wsX5_comes_r1 ++ (wsX5_comes_r2 ++ (wsX5_comes_r3 ++ (wsX5_comes_r4 ++ wsX5_comes_r5)))) ++ wsX50 ++ wsX40 ++ wsX00 ++ wsX30)
def wsX5_loudnessWith_r1 : List Cond := [Cond.fieldLink RX5 16 "DippedWaves" "trial" "LDippedWaves$Tank;", Cond.fieldLink RX5 12 "DippedWaves" "tank" "LDippedWaves$Tank;", Cond.fieldLink RX5 63 "DippedWaves$Tank" "dippers" "LDippedWaves$Dippers;", Cond.fieldLink RX5 166 "DippedWaves$Dippers" "shifts" "[I", Cond.methodLink RX5 205 yX4_become, Cond.instanceMethod yX4_become, Cond.selects RX4 yX4_become yX4_become, Cond.initialized RX4, Cond.code yX4_become cX4_become 2 none, Cond.fieldLink RX4 18 "DippedWaves$Tank" "settings" "[I", Cond.methodLink RX4 59 arraycopyName, Cond.native arraycopyName, Cond.static arraycopyName, Cond.initialized "java/lang/System", Cond.fieldLink RX4 23 "DippedWaves$Tank" "floors" "[I", Cond.fieldLink RX4 26 "DippedWaves$Tank" "heights" "[I", Cond.fieldLink RX4 29 "DippedWaves$Tank" "ahead" "[I", Cond.fieldLink RX4 32 "DippedWaves$Tank" "firsts" "[I", Cond.fieldLink RX4 38 "DippedWaves$Tank" "dippers" "LDippedWaves$Dippers;", Cond.fieldLink RX4 45 "DippedWaves$Tank" "probes" "LDippedWaves$Probes;", Cond.fieldLink RX4 49 "DippedWaves$Tank" "tick" "I", Cond.methodLink RX4 65 yX0_become, Cond.instanceMethod yX0_become, Cond.selects RX0 yX0_become yX0_become]
def wsX5_loudnessWith_r2 : List Cond := [Cond.initialized RX0, Cond.code yX0_become cX0_become 2 none, Cond.fieldLink RX0 9 "DippedWaves$Dippers" "cells" "[I", Cond.methodLink RX0 28 arraycopyName, Cond.fieldLink RX0 15 "DippedWaves$Dippers" "periods" "[I", Cond.fieldLink RX0 18 "DippedWaves$Dippers" "sizes" "[I", Cond.fieldLink RX0 21 "DippedWaves$Dippers" "shifts" "[I", Cond.fieldLink RX0 24 "DippedWaves$Dippers" "many" "I", Cond.methodLink RX4 69 yX3_become, Cond.instanceMethod yX3_become, Cond.selects RX3 yX3_become yX3_become, Cond.initialized RX3, Cond.code yX3_become cX3_become 3 none, Cond.fieldLink RX3 9 "DippedWaves$Probes" "cells" "[I", Cond.methodLink RX3 27 arraycopyName, Cond.fieldLink RX3 15 "DippedWaves$Probes" "lengths" "[I", Cond.fieldLink RX3 20 "DippedWaves$Probes" "heights" "[[I", Cond.fieldLink RX3 23 "DippedWaves$Probes" "many" "I", Cond.methodLink RX5 139 yX4_run, Cond.instanceMethod yX4_run, Cond.selects RX4 yX4_run yX4_run, Cond.code yX4_run cX4_run 3 none, Cond.methodLink RX4 88 yX4_step, Cond.instanceMethod yX4_step]
def wsX5_loudnessWith_r3 : List Cond := [Cond.selects RX4 yX4_step yX4_step, Cond.code yX4_step cX4_step 3 none, Cond.methodLink RX4 91 yX4_nextHeight, Cond.instanceMethod yX4_nextHeight, Cond.selects RX4 yX4_nextHeight yX4_nextHeight, Cond.code yX4_nextHeight cX4_nextHeight 5 (some .int), Cond.methodLink RX4 104 yX4_slopeAt, Cond.instanceMethod yX4_slopeAt, Cond.selects RX4 yX4_slopeAt yX4_slopeAt, Cond.code yX4_slopeAt cX4_slopeAt 5 (some .int), Cond.methodLink RX4 113 yX4_rise, Cond.instanceMethod yX4_rise, Cond.selects RX4 yX4_rise yX4_rise, Cond.code yX4_rise cX4_rise 3 (some .int), Cond.static yX5_bounded, Cond.initialized RX5, Cond.code yX5_bounded cX5_bounded 1 (some .int), Cond.methodLink RX5 224 Lib.Math.min.name, Cond.static Lib.Math.min.name, Cond.initialized "java/lang/Math", Cond.code Lib.Math.min.name Lib.Math.min.code 2 (some .int), Cond.methodLink RX5 229 Lib.Math.max.name, Cond.static Lib.Math.max.name, Cond.code Lib.Math.max.name Lib.Math.max.code 2 (some .int)]
def wsX5_loudnessWith_r4 : List Cond := [Cond.methodLink RX4 94 yX0_beat, Cond.instanceMethod yX0_beat, Cond.selects RX0 yX0_beat yX0_beat, Cond.code yX0_beat cX0_beat 4 none, Cond.methodLink RX0 34 yX0_isUp, Cond.instanceMethod yX0_isUp, Cond.selects RX0 yX0_isUp yX0_isUp, Cond.code yX0_isUp cX0_isUp 4 (some .boolean), Cond.methodLink RX4 97 yX4_keepFirsts, Cond.instanceMethod yX4_keepFirsts, Cond.selects RX4 yX4_keepFirsts yX4_keepFirsts, Cond.code yX4_keepFirsts cX4_keepFirsts 2 none, Cond.methodLink RX4 110 yX4_loudnessOf, Cond.instanceMethod yX4_loudnessOf, Cond.selects RX4 yX4_loudnessOf yX4_loudnessOf, Cond.code yX4_loudnessOf cX4_loudnessOf 2 (some .int), Cond.methodLink RX4 124 Lib.Math.abs.name, Cond.static Lib.Math.abs.name, Cond.code Lib.Math.abs.name Lib.Math.abs.code 1 (some .int), Cond.methodLink RX4 100 yX3_look, Cond.instanceMethod yX3_look, Cond.selects RX3 yX3_look yX3_look, Cond.code yX3_look cX3_look 3 none, Cond.methodLink RX3 39 Lib.Math.min.name]
def wsX5_loudnessWith_r5 : List Cond := [Cond.methodLink RX5 195 yX4_loudnessOf]
def wsX5_loudnessWith : List Cond := .code yX5_loudnessWith cX5_loudnessWith 5 (some .int) :: ((wsX5_loudnessWith_r1 ++ (wsX5_loudnessWith_r2 ++ (wsX5_loudnessWith_r3 ++ (wsX5_loudnessWith_r4 ++ wsX5_loudnessWith_r5)))) ++ wsX50 ++ wsX40 ++ wsX00 ++ wsX30)
def wsX5_hush_r1 : List Cond := [Cond.fieldLink RX5 12 "DippedWaves" "tank" "LDippedWaves$Tank;", Cond.fieldLink RX5 63 "DippedWaves$Tank" "dippers" "LDippedWaves$Dippers;", Cond.fieldLink RX5 160 "DippedWaves$Dippers" "periods" "[I", Cond.methodLink RX5 112 yX5_isDipper, Cond.instanceMethod yX5_isDipper, Cond.selects RX5 yX5_isDipper yX5_isDipper, Cond.initialized RX5, Cond.code yX5_isDipper cX5_isDipper 2 (some .boolean), Cond.fieldLink RX5 105 "DippedWaves$Dippers" "many" "I", Cond.methodLink RX5 101 yX5_isIn, Cond.static yX5_isIn, Cond.code yX5_isIn cX5_isIn 3 (some .boolean), Cond.methodLink RX5 55 yX5_isCell, Cond.static yX5_isCell, Cond.code yX5_isCell cX5_isCell 2 (some .boolean), Cond.methodLink RX5 59 yX5_placeOf, Cond.static yX5_placeOf, Cond.code yX5_placeOf cX5_placeOf 2 (some .int), Cond.methodLink RX5 211 yX5_loudnessWith, Cond.instanceMethod yX5_loudnessWith, Cond.selects RX5 yX5_loudnessWith yX5_loudnessWith, Cond.code yX5_loudnessWith cX5_loudnessWith 5 (some .int), Cond.fieldLink RX5 16 "DippedWaves" "trial" "LDippedWaves$Tank;", Cond.fieldLink RX5 166 "DippedWaves$Dippers" "shifts" "[I"]
def wsX5_hush_r2 : List Cond := [Cond.methodLink RX5 205 yX4_become, Cond.instanceMethod yX4_become, Cond.selects RX4 yX4_become yX4_become, Cond.initialized RX4, Cond.code yX4_become cX4_become 2 none, Cond.fieldLink RX4 18 "DippedWaves$Tank" "settings" "[I", Cond.methodLink RX4 59 arraycopyName, Cond.native arraycopyName, Cond.static arraycopyName, Cond.initialized "java/lang/System", Cond.fieldLink RX4 23 "DippedWaves$Tank" "floors" "[I", Cond.fieldLink RX4 26 "DippedWaves$Tank" "heights" "[I", Cond.fieldLink RX4 29 "DippedWaves$Tank" "ahead" "[I", Cond.fieldLink RX4 32 "DippedWaves$Tank" "firsts" "[I", Cond.fieldLink RX4 38 "DippedWaves$Tank" "dippers" "LDippedWaves$Dippers;", Cond.fieldLink RX4 45 "DippedWaves$Tank" "probes" "LDippedWaves$Probes;", Cond.fieldLink RX4 49 "DippedWaves$Tank" "tick" "I", Cond.methodLink RX4 65 yX0_become, Cond.instanceMethod yX0_become, Cond.selects RX0 yX0_become yX0_become, Cond.initialized RX0, Cond.code yX0_become cX0_become 2 none, Cond.fieldLink RX0 9 "DippedWaves$Dippers" "cells" "[I", Cond.methodLink RX0 28 arraycopyName]
def wsX5_hush_r3 : List Cond := [Cond.fieldLink RX0 15 "DippedWaves$Dippers" "periods" "[I", Cond.fieldLink RX0 18 "DippedWaves$Dippers" "sizes" "[I", Cond.fieldLink RX0 21 "DippedWaves$Dippers" "shifts" "[I", Cond.fieldLink RX0 24 "DippedWaves$Dippers" "many" "I", Cond.methodLink RX4 69 yX3_become, Cond.instanceMethod yX3_become, Cond.selects RX3 yX3_become yX3_become, Cond.initialized RX3, Cond.code yX3_become cX3_become 3 none, Cond.fieldLink RX3 9 "DippedWaves$Probes" "cells" "[I", Cond.methodLink RX3 27 arraycopyName, Cond.fieldLink RX3 15 "DippedWaves$Probes" "lengths" "[I", Cond.fieldLink RX3 20 "DippedWaves$Probes" "heights" "[[I", Cond.fieldLink RX3 23 "DippedWaves$Probes" "many" "I", Cond.methodLink RX5 139 yX4_run, Cond.instanceMethod yX4_run, Cond.selects RX4 yX4_run yX4_run, Cond.code yX4_run cX4_run 3 none, Cond.methodLink RX4 88 yX4_step, Cond.instanceMethod yX4_step, Cond.selects RX4 yX4_step yX4_step, Cond.code yX4_step cX4_step 3 none, Cond.methodLink RX4 91 yX4_nextHeight, Cond.instanceMethod yX4_nextHeight]
def wsX5_hush_r4 : List Cond := [Cond.selects RX4 yX4_nextHeight yX4_nextHeight, Cond.code yX4_nextHeight cX4_nextHeight 5 (some .int), Cond.methodLink RX4 104 yX4_slopeAt, Cond.instanceMethod yX4_slopeAt, Cond.selects RX4 yX4_slopeAt yX4_slopeAt, Cond.code yX4_slopeAt cX4_slopeAt 5 (some .int), Cond.methodLink RX4 113 yX4_rise, Cond.instanceMethod yX4_rise, Cond.selects RX4 yX4_rise yX4_rise, Cond.code yX4_rise cX4_rise 3 (some .int), Cond.static yX5_bounded, Cond.code yX5_bounded cX5_bounded 1 (some .int), Cond.methodLink RX5 224 Lib.Math.min.name, Cond.static Lib.Math.min.name, Cond.initialized "java/lang/Math", Cond.code Lib.Math.min.name Lib.Math.min.code 2 (some .int), Cond.methodLink RX5 229 Lib.Math.max.name, Cond.static Lib.Math.max.name, Cond.code Lib.Math.max.name Lib.Math.max.code 2 (some .int), Cond.methodLink RX4 94 yX0_beat, Cond.instanceMethod yX0_beat, Cond.selects RX0 yX0_beat yX0_beat, Cond.code yX0_beat cX0_beat 4 none, Cond.methodLink RX0 34 yX0_isUp]
def wsX5_hush_r5 : List Cond := [Cond.instanceMethod yX0_isUp, Cond.selects RX0 yX0_isUp yX0_isUp, Cond.code yX0_isUp cX0_isUp 4 (some .boolean), Cond.methodLink RX4 97 yX4_keepFirsts, Cond.instanceMethod yX4_keepFirsts, Cond.selects RX4 yX4_keepFirsts yX4_keepFirsts, Cond.code yX4_keepFirsts cX4_keepFirsts 2 none, Cond.methodLink RX4 110 yX4_loudnessOf, Cond.instanceMethod yX4_loudnessOf, Cond.selects RX4 yX4_loudnessOf yX4_loudnessOf, Cond.code yX4_loudnessOf cX4_loudnessOf 2 (some .int), Cond.methodLink RX4 124 Lib.Math.abs.name, Cond.static Lib.Math.abs.name, Cond.code Lib.Math.abs.name Lib.Math.abs.code 1 (some .int), Cond.methodLink RX4 100 yX3_look, Cond.instanceMethod yX3_look, Cond.selects RX3 yX3_look yX3_look, Cond.code yX3_look cX3_look 3 none, Cond.methodLink RX3 39 Lib.Math.min.name, Cond.methodLink RX5 195 yX4_loudnessOf]
def wsX5_hush : List Cond := .code yX5_hush cX5_hush 11 (some .int) :: ((wsX5_hush_r1 ++ (wsX5_hush_r2 ++ (wsX5_hush_r3 ++ (wsX5_hush_r4 ++ wsX5_hush_r5)))) ++ wsX50 ++ wsX40 ++ wsX00 ++ wsX30)
def wsX5_put : List Cond := .code yX5_put cX5_put 4 (some .int) :: ([.fieldLink RX5 37 "DippedWaves" "pad" "LDippedWaves$Pad;", .fieldLink RX5 88 "DippedWaves$Pad" "length" "I", .methodLink RX5 214 yX2_charactersIn, .static yX2_charactersIn, .initialized RX2, .code yX2_charactersIn cX2_charactersIn 5 (some .int), .constantLong RX2 19 (255), .static yX5_isIn, .initialized RX5, .code yX5_isIn cX5_isIn 3 (some .boolean), .methodLink RX5 218 yX2_append, .instanceMethod yX2_append, .selects RX2 yX2_append yX2_append, .code yX2_append cX2_append 5 none, .fieldLink RX2 9 "DippedWaves$Pad" "signs" "[C", .fieldLink RX2 15 "DippedWaves$Pad" "length" "I"] ++ wsX50 ++ wsX20)
def wsX5_wipe : List Cond := .code yX5_wipe cX5_wipe 2 (some .int) :: ([.fieldLink RX5 37 "DippedWaves" "pad" "LDippedWaves$Pad;", .fieldLink RX5 88 "DippedWaves$Pad" "length" "I"] ++ wsX50 ++ wsX20)
def wsX5_fault_r1 : List Cond := [Cond.fieldLink RX5 37 "DippedWaves" "pad" "LDippedWaves$Pad;", Cond.methodLink RX5 80 yX2_firstFault, Cond.instanceMethod yX2_firstFault, Cond.selects RX2 yX2_firstFault yX2_firstFault, Cond.initialized RX2, Cond.code yX2_firstFault cX2_firstFault 2 (some .int), Cond.fieldLink RX2 15 "DippedWaves$Pad" "length" "I", Cond.fieldLink RX2 9 "DippedWaves$Pad" "signs" "[C", Cond.methodLink RX2 25 yX2_canStand, Cond.static yX2_canStand, Cond.code yX2_canStand cX2_canStand 2 (some .boolean), Cond.methodLink RX2 31 yJ0_indexOf_0f7a4, Cond.instanceMethod yJ0_indexOf_0f7a4, Cond.selects RJ0 yJ0_indexOf_0f7a4 yJ0_indexOf_0f7a4, Cond.initialized RJ0, Cond.code yJ0_indexOf_0f7a4 cJ0_indexOf_0f7a4 2 (some .int), Cond.methodLink RJ0 633 yJ0_indexOf_7cf53, Cond.instanceMethod yJ0_indexOf_7cf53, Cond.selects RJ0 yJ0_indexOf_7cf53 yJ0_indexOf_7cf53, Cond.code yJ0_indexOf_7cf53 cJ0_indexOf_7cf53 3 (some .int), Cond.fieldLink RJ0 9 "java/lang/String" "value" "[B", Cond.methodLink RJ0 492 yJ0_isLatin1_aae02, Cond.instanceMethod yJ0_isLatin1_aae02, Cond.selects RJ0 yJ0_isLatin1_aae02 yJ0_isLatin1_aae02]
def wsX5_fault_r2 : List Cond := [Cond.code yJ0_isLatin1_aae02 cJ0_isLatin1_aae02 1 (some .boolean), Cond.fieldLink RJ0 38 "java/lang/String" "COMPACT_STRINGS" "Z", Cond.fieldLink RJ0 15 "java/lang/String" "coder" "B", Cond.methodLink RJ0 505 yJ0_length_8abf5, Cond.instanceMethod yJ0_length_8abf5, Cond.selects RJ0 yJ0_length_8abf5 yJ0_length_8abf5, Cond.code yJ0_length_8abf5 cJ0_length_8abf5 1 (some .int), Cond.methodLink RJ0 335 yJ0_coder_7d493, Cond.instanceMethod yJ0_coder_7d493, Cond.selects RJ0 yJ0_coder_7d493 yJ0_coder_7d493, Cond.code yJ0_coder_7d493 cJ0_coder_7d493 1 (some .byte), Cond.methodLink RJ0 637 yJ1_indexOf_4cfef, Cond.static yJ1_indexOf_4cfef, Cond.initialized RJ1, Cond.code yJ1_indexOf_4cfef cJ1_indexOf_4cfef 4 (some .int), Cond.methodLink RJ1 92 Lib.Math.max.name, Cond.static Lib.Math.max.name, Cond.initialized "java/lang/Math", Cond.code Lib.Math.max.name Lib.Math.max.code 2 (some .int), Cond.methodLink RJ1 38 Lib.Math.min.name, Cond.static Lib.Math.min.name, Cond.code Lib.Math.min.name Lib.Math.min.code 2 (some .int), Cond.methodLink RJ1 88 yJ1_canEncode_9a6ad, Cond.static yJ1_canEncode_9a6ad]
def wsX5_fault_r3 : List Cond := [Cond.code yJ1_canEncode_9a6ad cJ1_canEncode_9a6ad 1 (some .boolean), Cond.methodLink RJ1 95 yJ1_indexOfChar_4cfef, Cond.static yJ1_indexOfChar_4cfef, Cond.code yJ1_indexOfChar_4cfef cJ1_indexOfChar_4cfef 6 (some .int), Cond.methodLink RJ0 640 yJ2_indexOf_4cfef, Cond.static yJ2_indexOf_4cfef, Cond.initialized RJ2, Cond.code yJ2_indexOf_4cfef cJ2_indexOf_4cfef 4 (some .int), Cond.methodLink RJ2 224 Lib.Math.max.name, Cond.methodLink RJ2 183 Lib.Math.min.name, Cond.constant RJ2 227 (65536), Cond.methodLink RJ2 228 yJ2_indexOfChar_4cfef, Cond.static yJ2_indexOfChar_4cfef, Cond.code yJ2_indexOfChar_4cfef cJ2_indexOfChar_4cfef 4 (some .int), Cond.methodLink RJ2 96 yJ2_checkBoundsBeginEnd_d044e, Cond.static yJ2_checkBoundsBeginEnd_d044e, Cond.code yJ2_checkBoundsBeginEnd_d044e cJ2_checkBoundsBeginEnd_d044e 3 none, Cond.methodLink RJ2 48 yJ2_length_9d52b, Cond.static yJ2_length_9d52b, Cond.code yJ2_length_9d52b cJ2_length_9d52b 1 (some .int), Cond.methodLink RJ2 241 yJ0_checkBoundsBeginEnd_23922, Cond.static yJ0_checkBoundsBeginEnd_23922, Cond.code yJ0_checkBoundsBeginEnd_23922 cJ0_checkBoundsBeginEnd_23922 3 none, Cond.fieldLink RJ0 1053 "jdk/internal/util/Preconditions" "SIOOBE_FORMATTER" "Ljava/util/function/BiFunction;"]
def wsX5_fault_r4 : List Cond := [Cond.methodLink RJ0 1062 yJ3_checkFromToIndex_8c36e, Cond.static yJ3_checkFromToIndex_8c36e, Cond.initialized RJ3, Cond.code yJ3_checkFromToIndex_8c36e cJ3_checkFromToIndex_8c36e 4 (some .int), Cond.methodLink RJ2 244 yJ2_indexOfCharUnsafe_4cfef, Cond.static yJ2_indexOfCharUnsafe_4cfef, Cond.code yJ2_indexOfCharUnsafe_4cfef cJ2_indexOfCharUnsafe_4cfef 5 (some .int), Cond.methodLink RJ2 71 yJ2_getChar_3b067, Cond.static yJ2_getChar_3b067, Cond.code yJ2_getChar_3b067 cJ2_getChar_3b067 2 (some .char), Cond.fieldLink RJ2 44 "java/lang/StringUTF16" "$assertionsDisabled" "Z", Cond.fieldLink RJ2 59 "java/lang/StringUTF16" "HI_BYTE_SHIFT" "I", Cond.fieldLink RJ2 63 "java/lang/StringUTF16" "LO_BYTE_SHIFT" "I", Cond.methodLink RJ2 232 yJ2_indexOfSupplementary_4cfef, Cond.static yJ2_indexOfSupplementary_4cfef, Cond.code yJ2_indexOfSupplementary_4cfef cJ2_indexOfSupplementary_4cfef 7 (some .int), Cond.methodLink RJ2 164 yJ11_isValidCodePoint_9a6ad, Cond.static yJ11_isValidCodePoint_9a6ad, Cond.initialized RJ11, Cond.code yJ11_isValidCodePoint_9a6ad cJ11_isValidCodePoint_9a6ad 2 (some .boolean), Cond.methodLink RJ2 157 yJ11_highSurrogate_5068e, Cond.static yJ11_highSurrogate_5068e, Cond.code yJ11_highSurrogate_5068e cJ11_highSurrogate_5068e 1 (some .char), Cond.constant RJ11 110 (55232)]
def wsX5_fault_r5 : List Cond := [Cond.methodLink RJ2 161 yJ11_lowSurrogate_5068e, Cond.static yJ11_lowSurrogate_5068e, Cond.code yJ11_lowSurrogate_5068e cJ11_lowSurrogate_5068e 1 (some .char), Cond.constant RJ11 76 (56320)]
def wsX5_fault : List Cond := .code yX5_fault cX5_fault 1 (some .int) :: ((wsX5_fault_r1 ++ (wsX5_fault_r2 ++ (wsX5_fault_r3 ++ (wsX5_fault_r4 ++ wsX5_fault_r5)))) ++ wsX50 ++ wsX20)
def wsX5_undo_r1 : List Cond := [Cond.fieldLink RX5 22 "DippedWaves" "history" "LDippedWaves$History;", Cond.fieldLink RX5 201 "DippedWaves$History" "many" "I", Cond.fieldLink RX5 12 "DippedWaves" "tank" "LDippedWaves$Tank;", Cond.methodLink RX5 221 yX1_giveBack, Cond.instanceMethod yX1_giveBack, Cond.selects RX1 yX1_giveBack yX1_giveBack, Cond.initialized RX1, Cond.code yX1_giveBack cX1_giveBack 2 none, Cond.fieldLink RX1 17 "DippedWaves$History" "many" "I", Cond.fieldLink RX1 11 "DippedWaves$History" "states" "[LDippedWaves$Tank;", Cond.methodLink RX1 25 yX4_become, Cond.instanceMethod yX4_become, Cond.selects RX4 yX4_become yX4_become, Cond.initialized RX4, Cond.code yX4_become cX4_become 2 none, Cond.fieldLink RX4 18 "DippedWaves$Tank" "settings" "[I", Cond.methodLink RX4 59 arraycopyName, Cond.native arraycopyName, Cond.static arraycopyName, Cond.initialized "java/lang/System", Cond.fieldLink RX4 23 "DippedWaves$Tank" "floors" "[I", Cond.fieldLink RX4 26 "DippedWaves$Tank" "heights" "[I", Cond.fieldLink RX4 29 "DippedWaves$Tank" "ahead" "[I", Cond.fieldLink RX4 32 "DippedWaves$Tank" "firsts" "[I"]
def wsX5_undo_r2 : List Cond := [Cond.fieldLink RX4 38 "DippedWaves$Tank" "dippers" "LDippedWaves$Dippers;", Cond.fieldLink RX4 45 "DippedWaves$Tank" "probes" "LDippedWaves$Probes;", Cond.fieldLink RX4 49 "DippedWaves$Tank" "tick" "I", Cond.methodLink RX4 65 yX0_become, Cond.instanceMethod yX0_become, Cond.selects RX0 yX0_become yX0_become, Cond.initialized RX0, Cond.code yX0_become cX0_become 2 none, Cond.fieldLink RX0 9 "DippedWaves$Dippers" "cells" "[I", Cond.methodLink RX0 28 arraycopyName, Cond.fieldLink RX0 15 "DippedWaves$Dippers" "periods" "[I", Cond.fieldLink RX0 18 "DippedWaves$Dippers" "sizes" "[I", Cond.fieldLink RX0 21 "DippedWaves$Dippers" "shifts" "[I", Cond.fieldLink RX0 24 "DippedWaves$Dippers" "many" "I", Cond.methodLink RX4 69 yX3_become, Cond.instanceMethod yX3_become, Cond.selects RX3 yX3_become yX3_become, Cond.initialized RX3, Cond.code yX3_become cX3_become 3 none, Cond.fieldLink RX3 9 "DippedWaves$Probes" "cells" "[I", Cond.methodLink RX3 27 arraycopyName, Cond.fieldLink RX3 15 "DippedWaves$Probes" "lengths" "[I", Cond.fieldLink RX3 20 "DippedWaves$Probes" "heights" "[[I", Cond.fieldLink RX3 23 "DippedWaves$Probes" "many" "I"]
def wsX5_undo : List Cond := .code yX5_undo cX5_undo 1 (some .int) :: ((wsX5_undo_r1 ++ wsX5_undo_r2) ++ wsX50 ++ wsX10 ++ wsX40 ++ wsX00 ++ wsX30)
def wsX5_save_r1 : List Cond := [Cond.fieldLink RX5 26 "DippedWaves" "slots" "[LDippedWaves$Tank;", Cond.fieldLink RX5 12 "DippedWaves" "tank" "LDippedWaves$Tank;", Cond.fieldLink RX5 30 "DippedWaves" "saved" "[Z", Cond.fieldLink RX5 135 "DippedWaves$Tank" "tick" "I", Cond.methodLink RX5 101 yX5_isIn, Cond.static yX5_isIn, Cond.initialized RX5, Cond.code yX5_isIn cX5_isIn 3 (some .boolean), Cond.methodLink RX5 205 yX4_become, Cond.instanceMethod yX4_become, Cond.selects RX4 yX4_become yX4_become, Cond.initialized RX4, Cond.code yX4_become cX4_become 2 none, Cond.fieldLink RX4 18 "DippedWaves$Tank" "settings" "[I", Cond.methodLink RX4 59 arraycopyName, Cond.native arraycopyName, Cond.static arraycopyName, Cond.initialized "java/lang/System", Cond.fieldLink RX4 23 "DippedWaves$Tank" "floors" "[I", Cond.fieldLink RX4 26 "DippedWaves$Tank" "heights" "[I", Cond.fieldLink RX4 29 "DippedWaves$Tank" "ahead" "[I", Cond.fieldLink RX4 32 "DippedWaves$Tank" "firsts" "[I", Cond.fieldLink RX4 38 "DippedWaves$Tank" "dippers" "LDippedWaves$Dippers;", Cond.fieldLink RX4 45 "DippedWaves$Tank" "probes" "LDippedWaves$Probes;"]
def wsX5_save_r2 : List Cond := [Cond.fieldLink RX4 49 "DippedWaves$Tank" "tick" "I", Cond.methodLink RX4 65 yX0_become, Cond.instanceMethod yX0_become, Cond.selects RX0 yX0_become yX0_become, Cond.initialized RX0, Cond.code yX0_become cX0_become 2 none, Cond.fieldLink RX0 9 "DippedWaves$Dippers" "cells" "[I", Cond.methodLink RX0 28 arraycopyName, Cond.fieldLink RX0 15 "DippedWaves$Dippers" "periods" "[I", Cond.fieldLink RX0 18 "DippedWaves$Dippers" "sizes" "[I", Cond.fieldLink RX0 21 "DippedWaves$Dippers" "shifts" "[I", Cond.fieldLink RX0 24 "DippedWaves$Dippers" "many" "I", Cond.methodLink RX4 69 yX3_become, Cond.instanceMethod yX3_become, Cond.selects RX3 yX3_become yX3_become, Cond.initialized RX3, Cond.code yX3_become cX3_become 3 none, Cond.fieldLink RX3 9 "DippedWaves$Probes" "cells" "[I", Cond.methodLink RX3 27 arraycopyName, Cond.fieldLink RX3 15 "DippedWaves$Probes" "lengths" "[I", Cond.fieldLink RX3 20 "DippedWaves$Probes" "heights" "[[I", Cond.fieldLink RX3 23 "DippedWaves$Probes" "many" "I"]
def wsX5_save : List Cond := .code yX5_save cX5_save 2 (some .int) :: ((wsX5_save_r1 ++ wsX5_save_r2) ++ wsX50 ++ wsX40 ++ wsX00 ++ wsX30)
def wsX5_restore_r1 : List Cond := [Cond.fieldLink RX5 30 "DippedWaves" "saved" "[Z", Cond.fieldLink RX5 22 "DippedWaves" "history" "LDippedWaves$History;", Cond.fieldLink RX5 12 "DippedWaves" "tank" "LDippedWaves$Tank;", Cond.fieldLink RX5 26 "DippedWaves" "slots" "[LDippedWaves$Tank;", Cond.fieldLink RX5 135 "DippedWaves$Tank" "tick" "I", Cond.methodLink RX5 101 yX5_isIn, Cond.static yX5_isIn, Cond.initialized RX5, Cond.code yX5_isIn cX5_isIn 3 (some .boolean), Cond.methodLink RX5 48 yX1_keep, Cond.instanceMethod yX1_keep, Cond.selects RX1 yX1_keep yX1_keep, Cond.initialized RX1, Cond.code yX1_keep cX1_keep 2 none, Cond.fieldLink RX1 17 "DippedWaves$History" "many" "I", Cond.fieldLink RX1 11 "DippedWaves$History" "states" "[LDippedWaves$Tank;", Cond.methodLink RX1 22 yX1_loseOldest, Cond.instanceMethod yX1_loseOldest, Cond.selects RX1 yX1_loseOldest yX1_loseOldest, Cond.code yX1_loseOldest cX1_loseOldest 3 none, Cond.methodLink RX1 25 yX4_become, Cond.instanceMethod yX4_become, Cond.selects RX4 yX4_become yX4_become, Cond.initialized RX4]
def wsX5_restore_r2 : List Cond := [Cond.code yX4_become cX4_become 2 none, Cond.fieldLink RX4 18 "DippedWaves$Tank" "settings" "[I", Cond.methodLink RX4 59 arraycopyName, Cond.native arraycopyName, Cond.static arraycopyName, Cond.initialized "java/lang/System", Cond.fieldLink RX4 23 "DippedWaves$Tank" "floors" "[I", Cond.fieldLink RX4 26 "DippedWaves$Tank" "heights" "[I", Cond.fieldLink RX4 29 "DippedWaves$Tank" "ahead" "[I", Cond.fieldLink RX4 32 "DippedWaves$Tank" "firsts" "[I", Cond.fieldLink RX4 38 "DippedWaves$Tank" "dippers" "LDippedWaves$Dippers;", Cond.fieldLink RX4 45 "DippedWaves$Tank" "probes" "LDippedWaves$Probes;", Cond.fieldLink RX4 49 "DippedWaves$Tank" "tick" "I", Cond.methodLink RX4 65 yX0_become, Cond.instanceMethod yX0_become, Cond.selects RX0 yX0_become yX0_become, Cond.initialized RX0, Cond.code yX0_become cX0_become 2 none, Cond.fieldLink RX0 9 "DippedWaves$Dippers" "cells" "[I", Cond.methodLink RX0 28 arraycopyName, Cond.fieldLink RX0 15 "DippedWaves$Dippers" "periods" "[I", Cond.fieldLink RX0 18 "DippedWaves$Dippers" "sizes" "[I", Cond.fieldLink RX0 21 "DippedWaves$Dippers" "shifts" "[I", Cond.fieldLink RX0 24 "DippedWaves$Dippers" "many" "I"]
def wsX5_restore_r3 : List Cond := [Cond.methodLink RX4 69 yX3_become, Cond.instanceMethod yX3_become, Cond.selects RX3 yX3_become yX3_become, Cond.initialized RX3, Cond.code yX3_become cX3_become 3 none, Cond.fieldLink RX3 9 "DippedWaves$Probes" "cells" "[I", Cond.methodLink RX3 27 arraycopyName, Cond.fieldLink RX3 15 "DippedWaves$Probes" "lengths" "[I", Cond.fieldLink RX3 20 "DippedWaves$Probes" "heights" "[[I", Cond.fieldLink RX3 23 "DippedWaves$Probes" "many" "I", Cond.methodLink RX5 205 yX4_become]
def wsX5_restore : List Cond := .code yX5_restore cX5_restore 2 (some .int) :: ((wsX5_restore_r1 ++ (wsX5_restore_r2 ++ wsX5_restore_r3)) ++ wsX50 ++ wsX40 ++ wsX10 ++ wsX00 ++ wsX30)
def wsX6_forgetFirst : List Cond := .code yX6_forgetFirst cX6_forgetFirst 2 none :: ([.fieldLink RX6 7 "DippedWavesModel" "z" "[I"] ++ wsX60)
def wsX6_init : List Cond := .code yX6_init cX6_init 1 none :: ([.methodLink RX6 1 objectInit, .instanceMethod objectInit, .code objectInit ⟨#[0xb1]⟩ 1 none, .arrayClass .int, .fieldLink RX6 7 "DippedWavesModel" "z" "[I", .fieldLink RX6 13 "DippedWavesModel" "past" "[I", .fieldLink RX6 16 "DippedWavesModel" "slots" "[I", .arrayClass .boolean, .fieldLink RX6 19 "DippedWavesModel" "isSaved" "[Z", .fieldLink RX6 23 "DippedWavesModel" "spare" "[I", .arrayClass .char, .fieldLink RX6 26 "DippedWavesModel" "pad" "[C", .fieldLink RX6 30 "DippedWavesModel" "then" "[I", .methodLink RX6 33 yX6_forgetFirst, .instanceMethod yX6_forgetFirst, .selects RX6 yX6_forgetFirst yX6_forgetFirst, .initialized RX6, .code yX6_forgetFirst cX6_forgetFirst 2 none] ++ wsX60)
def wsX6_in : List Cond := .code yX6_in cX6_in 3 (some .boolean) :: ([])
def wsX6_isCell : List Cond := .code yX6_isCell cX6_isCell 2 (some .boolean) :: ([.methodLink RX6 36 yX6_in, .static yX6_in, .initialized RX6, .code yX6_in cX6_in 3 (some .boolean)])
def wsX6_isWall : List Cond := .code yX6_isWall cX6_isWall 2 (some .boolean) :: ([.fieldLink RX6 7 "DippedWavesModel" "z" "[I"] ++ wsX60)
def wsX6_isDipper : List Cond := .code yX6_isDipper cX6_isDipper 2 (some .boolean) :: ([.fieldLink RX6 7 "DippedWavesModel" "z" "[I"] ++ wsX60)
def wsX6_isProbe : List Cond := .code yX6_isProbe cX6_isProbe 2 (some .boolean) :: ([.fieldLink RX6 7 "DippedWavesModel" "z" "[I"] ++ wsX60)
def wsX6_ofDipper : List Cond := .code yX6_ofDipper cX6_ofDipper 3 (some .int) :: ([.fieldLink RX6 7 "DippedWavesModel" "z" "[I"] ++ wsX60)
def wsX6_now : List Cond := .code yX6_now cX6_now 2 (some .int) :: ([.fieldLink RX6 7 "DippedWavesModel" "z" "[I"] ++ wsX60)
def wsX6_size : List Cond := .code yX6_size cX6_size 1 (some .int) :: ([])
def wsX6_kept : List Cond := .code yX6_kept cX6_kept 1 (some .int) :: ([])
def wsX6_record : List Cond := .code yX6_record cX6_record 2 none :: ([.fieldLink RX6 40 "DippedWavesModel" "pastMany" "I", .fieldLink RX6 13 "DippedWavesModel" "past" "[I", .fieldLink RX6 7 "DippedWavesModel" "z" "[I"] ++ wsX60)
def wsX6_undo : List Cond := .code yX6_undo cX6_undo 2 (some .int) :: ([.fieldLink RX6 40 "DippedWavesModel" "pastMany" "I", .fieldLink RX6 7 "DippedWavesModel" "z" "[I", .fieldLink RX6 13 "DippedWavesModel" "past" "[I"] ++ wsX60)
def wsX6_save : List Cond := .code yX6_save cX6_save 3 (some .int) :: ([.fieldLink RX6 19 "DippedWavesModel" "isSaved" "[Z", .fieldLink RX6 16 "DippedWavesModel" "slots" "[I", .fieldLink RX6 7 "DippedWavesModel" "z" "[I", .methodLink RX6 36 yX6_in, .static yX6_in, .initialized RX6, .code yX6_in cX6_in 3 (some .boolean)] ++ wsX60)
def wsX6_restore : List Cond := .code yX6_restore cX6_restore 3 (some .int) :: ([.fieldLink RX6 19 "DippedWavesModel" "isSaved" "[Z", .fieldLink RX6 7 "DippedWavesModel" "z" "[I", .fieldLink RX6 16 "DippedWavesModel" "slots" "[I", .methodLink RX6 36 yX6_in, .static yX6_in, .initialized RX6, .code yX6_in cX6_in 3 (some .boolean), .methodLink RX6 44 yX6_record, .instanceMethod yX6_record, .selects RX6 yX6_record yX6_record, .code yX6_record cX6_record 2 none, .fieldLink RX6 40 "DippedWavesModel" "pastMany" "I", .fieldLink RX6 13 "DippedWavesModel" "past" "[I"] ++ wsX60)
def wsX6_putAside : List Cond := .code yX6_putAside cX6_putAside 2 none :: ([.fieldLink RX6 23 "DippedWavesModel" "spare" "[I", .fieldLink RX6 7 "DippedWavesModel" "z" "[I"] ++ wsX60)
def wsX6_bringBack : List Cond := .code yX6_bringBack cX6_bringBack 2 none :: ([.fieldLink RX6 7 "DippedWavesModel" "z" "[I", .fieldLink RX6 23 "DippedWavesModel" "spare" "[I"] ++ wsX60)
def wsX6_leastOf : List Cond := .code yX6_leastOf cX6_leastOf 1 (some .int) :: ([])
def wsX6_mostOf : List Cond := .code yX6_mostOf cX6_mostOf 1 (some .int) :: ([])
def wsX6_set : List Cond := .code yX6_set cX6_set 4 (some .int) :: ([.fieldLink RX6 7 "DippedWavesModel" "z" "[I", .methodLink RX6 36 yX6_in, .static yX6_in, .initialized RX6, .code yX6_in cX6_in 3 (some .boolean), .methodLink RX6 47 yX6_leastOf, .static yX6_leastOf, .code yX6_leastOf cX6_leastOf 1 (some .int), .methodLink RX6 51 yX6_mostOf, .static yX6_mostOf, .code yX6_mostOf cX6_mostOf 1 (some .int), .methodLink RX6 44 yX6_record, .instanceMethod yX6_record, .selects RX6 yX6_record yX6_record, .code yX6_record cX6_record 2 none, .fieldLink RX6 40 "DippedWavesModel" "pastMany" "I", .fieldLink RX6 13 "DippedWavesModel" "past" "[I"] ++ wsX60)
def wsX6_dipperIn : List Cond := .code yX6_dipperIn cX6_dipperIn 4 (some .int) :: ([.fieldLink RX6 7 "DippedWavesModel" "z" "[I", .methodLink RX6 54 yX6_ofDipper, .instanceMethod yX6_ofDipper, .selects RX6 yX6_ofDipper yX6_ofDipper, .initialized RX6, .code yX6_ofDipper cX6_ofDipper 3 (some .int)] ++ wsX60)
def wsX6_floor : List Cond := .code yX6_floor cX6_floor 6 (some .int) :: ([.fieldLink RX6 7 "DippedWavesModel" "z" "[I", .methodLink RX6 58 yX6_isCell, .static yX6_isCell, .initialized RX6, .code yX6_isCell cX6_isCell 2 (some .boolean), .methodLink RX6 36 yX6_in, .static yX6_in, .code yX6_in cX6_in 3 (some .boolean), .methodLink RX6 62 yX6_dipperIn, .instanceMethod yX6_dipperIn, .selects RX6 yX6_dipperIn yX6_dipperIn, .code yX6_dipperIn cX6_dipperIn 4 (some .int), .methodLink RX6 54 yX6_ofDipper, .instanceMethod yX6_ofDipper, .selects RX6 yX6_ofDipper yX6_ofDipper, .code yX6_ofDipper cX6_ofDipper 3 (some .int), .methodLink RX6 44 yX6_record, .instanceMethod yX6_record, .selects RX6 yX6_record yX6_record, .code yX6_record cX6_record 2 none, .fieldLink RX6 40 "DippedWavesModel" "pastMany" "I", .fieldLink RX6 13 "DippedWavesModel" "past" "[I"] ++ wsX60)
def wsX6_water : List Cond := .code yX6_water cX6_water 3 (some .int) :: ([.methodLink RX6 65 yX6_isWall, .instanceMethod yX6_isWall, .selects RX6 yX6_isWall yX6_isWall, .initialized RX6, .code yX6_isWall cX6_isWall 2 (some .boolean), .fieldLink RX6 7 "DippedWavesModel" "z" "[I"] ++ wsX60)
def wsX6_calm : List Cond := .code yX6_calm cX6_calm 2 none :: ([.fieldLink RX6 7 "DippedWavesModel" "z" "[I", .methodLink RX6 33 yX6_forgetFirst, .instanceMethod yX6_forgetFirst, .selects RX6 yX6_forgetFirst yX6_forgetFirst, .initialized RX6, .code yX6_forgetFirst cX6_forgetFirst 2 none] ++ wsX60)
def wsX6_floorOf : List Cond := .code yX6_floorOf cX6_floorOf 1 (some .int) :: ([])
def wsX6_readPad : List Cond := .code yX6_readPad cX6_readPad 3 (some .int) :: ([.fieldLink RX6 79 "DippedWavesModel" "typed" "I", .fieldLink RX6 26 "DippedWavesModel" "pad" "[C", .methodLink RX6 73 yX6_floorOf, .static yX6_floorOf, .initialized RX6, .code yX6_floorOf cX6_floorOf 1 (some .int)] ++ wsX60)
def wsX6_read_r1 : List Cond := [Cond.fieldLink RX6 7 "DippedWavesModel" "z" "[I", Cond.fieldLink RX6 26 "DippedWavesModel" "pad" "[C", Cond.fieldLink RX6 79 "DippedWavesModel" "typed" "I", Cond.methodLink RX6 69 yX6_readPad, Cond.instanceMethod yX6_readPad, Cond.selects RX6 yX6_readPad yX6_readPad, Cond.initialized RX6, Cond.code yX6_readPad cX6_readPad 3 (some .int), Cond.methodLink RX6 73 yX6_floorOf, Cond.static yX6_floorOf, Cond.code yX6_floorOf cX6_floorOf 1 (some .int), Cond.methodLink RX6 44 yX6_record, Cond.instanceMethod yX6_record, Cond.selects RX6 yX6_record yX6_record, Cond.code yX6_record cX6_record 2 none, Cond.fieldLink RX6 40 "DippedWavesModel" "pastMany" "I", Cond.fieldLink RX6 13 "DippedWavesModel" "past" "[I", Cond.methodLink RX6 76 yX6_calm, Cond.instanceMethod yX6_calm, Cond.selects RX6 yX6_calm yX6_calm, Cond.code yX6_calm cX6_calm 2 none, Cond.methodLink RX6 33 yX6_forgetFirst, Cond.instanceMethod yX6_forgetFirst, Cond.selects RX6 yX6_forgetFirst yX6_forgetFirst]
def wsX6_read_r2 : List Cond := [Cond.code yX6_forgetFirst cX6_forgetFirst 2 none, Cond.methodLink RX6 82 yX6_water, Cond.instanceMethod yX6_water, Cond.selects RX6 yX6_water yX6_water, Cond.code yX6_water cX6_water 3 (some .int), Cond.methodLink RX6 65 yX6_isWall, Cond.instanceMethod yX6_isWall, Cond.selects RX6 yX6_isWall yX6_isWall, Cond.code yX6_isWall cX6_isWall 2 (some .boolean)]
def wsX6_read : List Cond := .code yX6_read cX6_read 2 (some .int) :: ((wsX6_read_r1 ++ wsX6_read_r2) ++ wsX60)
def wsX6_allSizes : List Cond := .code yX6_allSizes cX6_allSizes 3 (some .int) :: ([.methodLink RX6 85 yX6_now, .instanceMethod yX6_now, .selects RX6 yX6_now yX6_now, .initialized RX6, .code yX6_now cX6_now 2 (some .int), .fieldLink RX6 7 "DippedWavesModel" "z" "[I", .methodLink RX6 88 yX6_size, .static yX6_size, .code yX6_size cX6_size 1 (some .int)] ++ wsX60)
def wsX6_clear_r1 : List Cond := [Cond.fieldLink RX6 7 "DippedWavesModel" "z" "[I", Cond.methodLink RX6 44 yX6_record, Cond.instanceMethod yX6_record, Cond.selects RX6 yX6_record yX6_record, Cond.initialized RX6, Cond.code yX6_record cX6_record 2 none, Cond.fieldLink RX6 40 "DippedWavesModel" "pastMany" "I", Cond.fieldLink RX6 13 "DippedWavesModel" "past" "[I", Cond.methodLink RX6 91 yX6_allSizes, Cond.instanceMethod yX6_allSizes, Cond.selects RX6 yX6_allSizes yX6_allSizes, Cond.code yX6_allSizes cX6_allSizes 3 (some .int), Cond.methodLink RX6 85 yX6_now, Cond.instanceMethod yX6_now, Cond.selects RX6 yX6_now yX6_now, Cond.code yX6_now cX6_now 2 (some .int), Cond.methodLink RX6 88 yX6_size, Cond.static yX6_size, Cond.code yX6_size cX6_size 1 (some .int), Cond.methodLink RX6 76 yX6_calm, Cond.instanceMethod yX6_calm, Cond.selects RX6 yX6_calm yX6_calm, Cond.code yX6_calm cX6_calm 2 none, Cond.methodLink RX6 33 yX6_forgetFirst]
def wsX6_clear_r2 : List Cond := [Cond.instanceMethod yX6_forgetFirst, Cond.selects RX6 yX6_forgetFirst yX6_forgetFirst, Cond.code yX6_forgetFirst cX6_forgetFirst 2 none]
def wsX6_clear : List Cond := .code yX6_clear cX6_clear 4 (some .int) :: ((wsX6_clear_r1 ++ wsX6_clear_r2) ++ wsX60)
def wsX6_dip : List Cond := .code yX6_dip cX6_dip 7 (some .int) :: ([.fieldLink RX6 7 "DippedWavesModel" "z" "[I", .methodLink RX6 58 yX6_isCell, .static yX6_isCell, .initialized RX6, .code yX6_isCell cX6_isCell 2 (some .boolean), .methodLink RX6 36 yX6_in, .static yX6_in, .code yX6_in cX6_in 3 (some .boolean), .methodLink RX6 65 yX6_isWall, .instanceMethod yX6_isWall, .selects RX6 yX6_isWall yX6_isWall, .code yX6_isWall cX6_isWall 2 (some .boolean), .methodLink RX6 44 yX6_record, .instanceMethod yX6_record, .selects RX6 yX6_record yX6_record, .code yX6_record cX6_record 2 none, .fieldLink RX6 40 "DippedWavesModel" "pastMany" "I", .fieldLink RX6 13 "DippedWavesModel" "past" "[I"] ++ wsX60)
def wsX6_takeOut : List Cond := .code yX6_takeOut cX6_takeOut 3 (some .int) :: ([.fieldLink RX6 7 "DippedWavesModel" "z" "[I", .methodLink RX6 94 yX6_isDipper, .instanceMethod yX6_isDipper, .selects RX6 yX6_isDipper yX6_isDipper, .initialized RX6, .code yX6_isDipper cX6_isDipper 2 (some .boolean), .methodLink RX6 44 yX6_record, .instanceMethod yX6_record, .selects RX6 yX6_record yX6_record, .code yX6_record cX6_record 2 none, .fieldLink RX6 40 "DippedWavesModel" "pastMany" "I", .fieldLink RX6 13 "DippedWavesModel" "past" "[I"] ++ wsX60)
def wsX6_drop_r1 : List Cond := [Cond.fieldLink RX6 7 "DippedWavesModel" "z" "[I", Cond.methodLink RX6 58 yX6_isCell, Cond.static yX6_isCell, Cond.initialized RX6, Cond.code yX6_isCell cX6_isCell 2 (some .boolean), Cond.methodLink RX6 36 yX6_in, Cond.static yX6_in, Cond.code yX6_in cX6_in 3 (some .boolean), Cond.methodLink RX6 65 yX6_isWall, Cond.instanceMethod yX6_isWall, Cond.selects RX6 yX6_isWall yX6_isWall, Cond.code yX6_isWall cX6_isWall 2 (some .boolean), Cond.methodLink RX6 44 yX6_record, Cond.instanceMethod yX6_record, Cond.selects RX6 yX6_record yX6_record, Cond.code yX6_record cX6_record 2 none, Cond.fieldLink RX6 40 "DippedWavesModel" "pastMany" "I", Cond.fieldLink RX6 13 "DippedWavesModel" "past" "[I", Cond.methodLink RX6 85 yX6_now, Cond.instanceMethod yX6_now, Cond.selects RX6 yX6_now yX6_now, Cond.code yX6_now cX6_now 2 (some .int), Cond.methodLink RX6 97 yX6_kept, Cond.static yX6_kept]
def wsX6_drop_r2 : List Cond := [Cond.code yX6_kept cX6_kept 1 (some .int)]
def wsX6_drop : List Cond := .code yX6_drop cX6_drop 5 (some .int) :: ((wsX6_drop_r1 ++ wsX6_drop_r2) ++ wsX60)
def wsX6_probe : List Cond := .code yX6_probe cX6_probe 4 (some .int) :: ([.fieldLink RX6 7 "DippedWavesModel" "z" "[I", .methodLink RX6 58 yX6_isCell, .static yX6_isCell, .initialized RX6, .code yX6_isCell cX6_isCell 2 (some .boolean), .methodLink RX6 36 yX6_in, .static yX6_in, .code yX6_in cX6_in 3 (some .boolean), .methodLink RX6 44 yX6_record, .instanceMethod yX6_record, .selects RX6 yX6_record yX6_record, .code yX6_record cX6_record 2 none, .fieldLink RX6 40 "DippedWavesModel" "pastMany" "I", .fieldLink RX6 13 "DippedWavesModel" "past" "[I"] ++ wsX60)
def wsX6_from : List Cond := .code yX6_from cX6_from 4 (some .int) :: ([.methodLink RX6 58 yX6_isCell, .static yX6_isCell, .initialized RX6, .code yX6_isCell cX6_isCell 2 (some .boolean), .methodLink RX6 36 yX6_in, .static yX6_in, .code yX6_in cX6_in 3 (some .boolean), .methodLink RX6 65 yX6_isWall, .instanceMethod yX6_isWall, .selects RX6 yX6_isWall yX6_isWall, .code yX6_isWall cX6_isWall 2 (some .boolean), .fieldLink RX6 7 "DippedWavesModel" "z" "[I", .methodLink RX6 85 yX6_now, .instanceMethod yX6_now, .selects RX6 yX6_now yX6_now, .code yX6_now cX6_now 2 (some .int)] ++ wsX60)
def wsX6_slope : List Cond := .code yX6_slope cX6_slope 4 (some .int) :: ([.methodLink RX6 65 yX6_isWall, .instanceMethod yX6_isWall, .selects RX6 yX6_isWall yX6_isWall, .initialized RX6, .code yX6_isWall cX6_isWall 2 (some .boolean), .fieldLink RX6 7 "DippedWavesModel" "z" "[I", .methodLink RX6 100 yX6_from, .instanceMethod yX6_from, .selects RX6 yX6_from yX6_from, .code yX6_from cX6_from 4 (some .int), .methodLink RX6 58 yX6_isCell, .static yX6_isCell, .code yX6_isCell cX6_isCell 2 (some .boolean), .methodLink RX6 36 yX6_in, .static yX6_in, .code yX6_in cX6_in 3 (some .boolean), .methodLink RX6 85 yX6_now, .instanceMethod yX6_now, .selects RX6 yX6_now yX6_now, .code yX6_now cX6_now 2 (some .int)] ++ wsX60)
def wsX6_isUp : List Cond := .code yX6_isUp cX6_isUp 2 (some .boolean) :: ([.fieldLink RX6 7 "DippedWavesModel" "z" "[I", .methodLink RX6 54 yX6_ofDipper, .instanceMethod yX6_ofDipper, .selects RX6 yX6_ofDipper yX6_ofDipper, .initialized RX6, .code yX6_ofDipper cX6_ofDipper 3 (some .int)] ++ wsX60)
def wsX6_heightThen_r1 : List Cond := [Cond.fieldLink RX6 7 "DippedWavesModel" "z" "[I", Cond.methodLink RX6 65 yX6_isWall, Cond.instanceMethod yX6_isWall, Cond.selects RX6 yX6_isWall yX6_isWall, Cond.initialized RX6, Cond.code yX6_isWall cX6_isWall 2 (some .boolean), Cond.methodLink RX6 62 yX6_dipperIn, Cond.instanceMethod yX6_dipperIn, Cond.selects RX6 yX6_dipperIn yX6_dipperIn, Cond.code yX6_dipperIn cX6_dipperIn 4 (some .int), Cond.methodLink RX6 54 yX6_ofDipper, Cond.instanceMethod yX6_ofDipper, Cond.selects RX6 yX6_ofDipper yX6_ofDipper, Cond.code yX6_ofDipper cX6_ofDipper 3 (some .int), Cond.methodLink RX6 104 yX6_isUp, Cond.instanceMethod yX6_isUp, Cond.selects RX6 yX6_isUp yX6_isUp, Cond.code yX6_isUp cX6_isUp 2 (some .boolean), Cond.methodLink RX6 85 yX6_now, Cond.instanceMethod yX6_now, Cond.selects RX6 yX6_now yX6_now, Cond.code yX6_now cX6_now 2 (some .int), Cond.methodLink RX6 107 yX6_slope, Cond.instanceMethod yX6_slope]
def wsX6_heightThen_r2 : List Cond := [Cond.selects RX6 yX6_slope yX6_slope, Cond.code yX6_slope cX6_slope 4 (some .int), Cond.methodLink RX6 100 yX6_from, Cond.instanceMethod yX6_from, Cond.selects RX6 yX6_from yX6_from, Cond.code yX6_from cX6_from 4 (some .int), Cond.methodLink RX6 58 yX6_isCell, Cond.static yX6_isCell, Cond.code yX6_isCell cX6_isCell 2 (some .boolean), Cond.methodLink RX6 36 yX6_in, Cond.static yX6_in, Cond.code yX6_in cX6_in 3 (some .boolean), Cond.methodLink RX6 97 yX6_kept, Cond.static yX6_kept, Cond.code yX6_kept cX6_kept 1 (some .int)]
def wsX6_heightThen : List Cond := .code yX6_heightThen cX6_heightThen 5 (some .int) :: ((wsX6_heightThen_r1 ++ wsX6_heightThen_r2) ++ wsX60)
def wsX6_see : List Cond := .code yX6_see cX6_see 4 none :: ([.fieldLink RX6 7 "DippedWavesModel" "z" "[I", .methodLink RX6 85 yX6_now, .instanceMethod yX6_now, .selects RX6 yX6_now yX6_now, .initialized RX6, .code yX6_now cX6_now 2 (some .int)] ++ wsX60)
def wsX6_tick_r1 : List Cond := [Cond.fieldLink RX6 30 "DippedWavesModel" "then" "[I", Cond.fieldLink RX6 7 "DippedWavesModel" "z" "[I", Cond.methodLink RX6 110 yX6_heightThen, Cond.instanceMethod yX6_heightThen, Cond.selects RX6 yX6_heightThen yX6_heightThen, Cond.initialized RX6, Cond.code yX6_heightThen cX6_heightThen 5 (some .int), Cond.methodLink RX6 65 yX6_isWall, Cond.instanceMethod yX6_isWall, Cond.selects RX6 yX6_isWall yX6_isWall, Cond.code yX6_isWall cX6_isWall 2 (some .boolean), Cond.methodLink RX6 62 yX6_dipperIn, Cond.instanceMethod yX6_dipperIn, Cond.selects RX6 yX6_dipperIn yX6_dipperIn, Cond.code yX6_dipperIn cX6_dipperIn 4 (some .int), Cond.methodLink RX6 54 yX6_ofDipper, Cond.instanceMethod yX6_ofDipper, Cond.selects RX6 yX6_ofDipper yX6_ofDipper, Cond.code yX6_ofDipper cX6_ofDipper 3 (some .int), Cond.methodLink RX6 104 yX6_isUp, Cond.instanceMethod yX6_isUp, Cond.selects RX6 yX6_isUp yX6_isUp, Cond.code yX6_isUp cX6_isUp 2 (some .boolean), Cond.methodLink RX6 85 yX6_now]
def wsX6_tick_r2 : List Cond := [Cond.instanceMethod yX6_now, Cond.selects RX6 yX6_now yX6_now, Cond.code yX6_now cX6_now 2 (some .int), Cond.methodLink RX6 107 yX6_slope, Cond.instanceMethod yX6_slope, Cond.selects RX6 yX6_slope yX6_slope, Cond.code yX6_slope cX6_slope 4 (some .int), Cond.methodLink RX6 100 yX6_from, Cond.instanceMethod yX6_from, Cond.selects RX6 yX6_from yX6_from, Cond.code yX6_from cX6_from 4 (some .int), Cond.methodLink RX6 58 yX6_isCell, Cond.static yX6_isCell, Cond.code yX6_isCell cX6_isCell 2 (some .boolean), Cond.methodLink RX6 36 yX6_in, Cond.static yX6_in, Cond.code yX6_in cX6_in 3 (some .boolean), Cond.methodLink RX6 97 yX6_kept, Cond.static yX6_kept, Cond.code yX6_kept cX6_kept 1 (some .int), Cond.methodLink RX6 88 yX6_size, Cond.static yX6_size, Cond.code yX6_size cX6_size 1 (some .int), Cond.methodLink RX6 113 yX6_see]
def wsX6_tick_r3 : List Cond := [Cond.instanceMethod yX6_see, Cond.selects RX6 yX6_see yX6_see, Cond.code yX6_see cX6_see 4 none]
def wsX6_tick : List Cond := .code yX6_tick cX6_tick 2 none :: ((wsX6_tick_r1 ++ (wsX6_tick_r2 ++ wsX6_tick_r3)) ++ wsX60)
def wsX6_isStill : List Cond := .code yX6_isStill cX6_isStill 2 (some .boolean) :: ([.fieldLink RX6 7 "DippedWavesModel" "z" "[I", .methodLink RX6 85 yX6_now, .instanceMethod yX6_now, .selects RX6 yX6_now yX6_now, .initialized RX6, .code yX6_now cX6_now 2 (some .int), .methodLink RX6 88 yX6_size, .static yX6_size, .code yX6_size cX6_size 1 (some .int)] ++ wsX60)
def wsX6_stillOnes : List Cond := .code yX6_stillOnes cX6_stillOnes 3 (some .int) :: ([.methodLink RX6 65 yX6_isWall, .instanceMethod yX6_isWall, .selects RX6 yX6_isWall yX6_isWall, .initialized RX6, .code yX6_isWall cX6_isWall 2 (some .boolean), .fieldLink RX6 7 "DippedWavesModel" "z" "[I", .methodLink RX6 117 yX6_isStill, .instanceMethod yX6_isStill, .selects RX6 yX6_isStill yX6_isStill, .code yX6_isStill cX6_isStill 2 (some .boolean), .methodLink RX6 85 yX6_now, .instanceMethod yX6_now, .selects RX6 yX6_now yX6_now, .code yX6_now cX6_now 2 (some .int), .methodLink RX6 88 yX6_size, .static yX6_size, .code yX6_size cX6_size 1 (some .int)] ++ wsX60)
def wsX6_ticks_r1 : List Cond := [Cond.methodLink RX6 120 yX6_tick, Cond.instanceMethod yX6_tick, Cond.selects RX6 yX6_tick yX6_tick, Cond.initialized RX6, Cond.code yX6_tick cX6_tick 2 none, Cond.fieldLink RX6 30 "DippedWavesModel" "then" "[I", Cond.fieldLink RX6 7 "DippedWavesModel" "z" "[I", Cond.methodLink RX6 110 yX6_heightThen, Cond.instanceMethod yX6_heightThen, Cond.selects RX6 yX6_heightThen yX6_heightThen, Cond.code yX6_heightThen cX6_heightThen 5 (some .int), Cond.methodLink RX6 65 yX6_isWall, Cond.instanceMethod yX6_isWall, Cond.selects RX6 yX6_isWall yX6_isWall, Cond.code yX6_isWall cX6_isWall 2 (some .boolean), Cond.methodLink RX6 62 yX6_dipperIn, Cond.instanceMethod yX6_dipperIn, Cond.selects RX6 yX6_dipperIn yX6_dipperIn, Cond.code yX6_dipperIn cX6_dipperIn 4 (some .int), Cond.methodLink RX6 54 yX6_ofDipper, Cond.instanceMethod yX6_ofDipper, Cond.selects RX6 yX6_ofDipper yX6_ofDipper, Cond.code yX6_ofDipper cX6_ofDipper 3 (some .int), Cond.methodLink RX6 104 yX6_isUp]
def wsX6_ticks_r2 : List Cond := [Cond.instanceMethod yX6_isUp, Cond.selects RX6 yX6_isUp yX6_isUp, Cond.code yX6_isUp cX6_isUp 2 (some .boolean), Cond.methodLink RX6 85 yX6_now, Cond.instanceMethod yX6_now, Cond.selects RX6 yX6_now yX6_now, Cond.code yX6_now cX6_now 2 (some .int), Cond.methodLink RX6 107 yX6_slope, Cond.instanceMethod yX6_slope, Cond.selects RX6 yX6_slope yX6_slope, Cond.code yX6_slope cX6_slope 4 (some .int), Cond.methodLink RX6 100 yX6_from, Cond.instanceMethod yX6_from, Cond.selects RX6 yX6_from yX6_from, Cond.code yX6_from cX6_from 4 (some .int), Cond.methodLink RX6 58 yX6_isCell, Cond.static yX6_isCell, Cond.code yX6_isCell cX6_isCell 2 (some .boolean), Cond.methodLink RX6 36 yX6_in, Cond.static yX6_in, Cond.code yX6_in cX6_in 3 (some .boolean), Cond.methodLink RX6 97 yX6_kept, Cond.static yX6_kept, Cond.code yX6_kept cX6_kept 1 (some .int)]
def wsX6_ticks_r3 : List Cond := [Cond.methodLink RX6 88 yX6_size, Cond.static yX6_size, Cond.code yX6_size cX6_size 1 (some .int), Cond.methodLink RX6 113 yX6_see, Cond.instanceMethod yX6_see, Cond.selects RX6 yX6_see yX6_see, Cond.code yX6_see cX6_see 4 none]
def wsX6_ticks : List Cond := .code yX6_ticks cX6_ticks 3 none :: ((wsX6_ticks_r1 ++ (wsX6_ticks_r2 ++ wsX6_ticks_r3)) ++ wsX60)
def wsX6_pass_r1 : List Cond := [Cond.fieldLink RX6 7 "DippedWavesModel" "z" "[I", Cond.constant RX6 123 (100000), Cond.methodLink RX6 36 yX6_in, Cond.static yX6_in, Cond.initialized RX6, Cond.code yX6_in cX6_in 3 (some .boolean), Cond.methodLink RX6 44 yX6_record, Cond.instanceMethod yX6_record, Cond.selects RX6 yX6_record yX6_record, Cond.code yX6_record cX6_record 2 none, Cond.fieldLink RX6 40 "DippedWavesModel" "pastMany" "I", Cond.fieldLink RX6 13 "DippedWavesModel" "past" "[I", Cond.methodLink RX6 124 yX6_ticks, Cond.instanceMethod yX6_ticks, Cond.selects RX6 yX6_ticks yX6_ticks, Cond.code yX6_ticks cX6_ticks 3 none, Cond.methodLink RX6 120 yX6_tick, Cond.instanceMethod yX6_tick, Cond.selects RX6 yX6_tick yX6_tick, Cond.code yX6_tick cX6_tick 2 none, Cond.fieldLink RX6 30 "DippedWavesModel" "then" "[I", Cond.methodLink RX6 110 yX6_heightThen, Cond.instanceMethod yX6_heightThen, Cond.selects RX6 yX6_heightThen yX6_heightThen]
def wsX6_pass_r2 : List Cond := [Cond.code yX6_heightThen cX6_heightThen 5 (some .int), Cond.methodLink RX6 65 yX6_isWall, Cond.instanceMethod yX6_isWall, Cond.selects RX6 yX6_isWall yX6_isWall, Cond.code yX6_isWall cX6_isWall 2 (some .boolean), Cond.methodLink RX6 62 yX6_dipperIn, Cond.instanceMethod yX6_dipperIn, Cond.selects RX6 yX6_dipperIn yX6_dipperIn, Cond.code yX6_dipperIn cX6_dipperIn 4 (some .int), Cond.methodLink RX6 54 yX6_ofDipper, Cond.instanceMethod yX6_ofDipper, Cond.selects RX6 yX6_ofDipper yX6_ofDipper, Cond.code yX6_ofDipper cX6_ofDipper 3 (some .int), Cond.methodLink RX6 104 yX6_isUp, Cond.instanceMethod yX6_isUp, Cond.selects RX6 yX6_isUp yX6_isUp, Cond.code yX6_isUp cX6_isUp 2 (some .boolean), Cond.methodLink RX6 85 yX6_now, Cond.instanceMethod yX6_now, Cond.selects RX6 yX6_now yX6_now, Cond.code yX6_now cX6_now 2 (some .int), Cond.methodLink RX6 107 yX6_slope, Cond.instanceMethod yX6_slope, Cond.selects RX6 yX6_slope yX6_slope]
def wsX6_pass_r3 : List Cond := [Cond.code yX6_slope cX6_slope 4 (some .int), Cond.methodLink RX6 100 yX6_from, Cond.instanceMethod yX6_from, Cond.selects RX6 yX6_from yX6_from, Cond.code yX6_from cX6_from 4 (some .int), Cond.methodLink RX6 58 yX6_isCell, Cond.static yX6_isCell, Cond.code yX6_isCell cX6_isCell 2 (some .boolean), Cond.methodLink RX6 97 yX6_kept, Cond.static yX6_kept, Cond.code yX6_kept cX6_kept 1 (some .int), Cond.methodLink RX6 88 yX6_size, Cond.static yX6_size, Cond.code yX6_size cX6_size 1 (some .int), Cond.methodLink RX6 113 yX6_see, Cond.instanceMethod yX6_see, Cond.selects RX6 yX6_see yX6_see, Cond.code yX6_see cX6_see 4 none, Cond.methodLink RX6 82 yX6_water, Cond.instanceMethod yX6_water, Cond.selects RX6 yX6_water yX6_water, Cond.code yX6_water cX6_water 3 (some .int), Cond.methodLink RX6 127 yX6_stillOnes, Cond.instanceMethod yX6_stillOnes]
def wsX6_pass_r4 : List Cond := [Cond.selects RX6 yX6_stillOnes yX6_stillOnes, Cond.code yX6_stillOnes cX6_stillOnes 3 (some .int), Cond.methodLink RX6 117 yX6_isStill, Cond.instanceMethod yX6_isStill, Cond.selects RX6 yX6_isStill yX6_isStill, Cond.code yX6_isStill cX6_isStill 2 (some .boolean)]
def wsX6_pass : List Cond := .code yX6_pass cX6_pass 2 (some .int) :: ((wsX6_pass_r1 ++ (wsX6_pass_r2 ++ (wsX6_pass_r3 ++ wsX6_pass_r4))) ++ wsX60)
def wsX6_cell_r1 : List Cond := [Cond.fieldLink RX6 7 "DippedWavesModel" "z" "[I", Cond.constant RX6 123 (100000), Cond.methodLink RX6 58 yX6_isCell, Cond.static yX6_isCell, Cond.initialized RX6, Cond.code yX6_isCell cX6_isCell 2 (some .boolean), Cond.methodLink RX6 36 yX6_in, Cond.static yX6_in, Cond.code yX6_in cX6_in 3 (some .boolean), Cond.methodLink RX6 85 yX6_now, Cond.instanceMethod yX6_now, Cond.selects RX6 yX6_now yX6_now, Cond.code yX6_now cX6_now 2 (some .int), Cond.methodLink RX6 107 yX6_slope, Cond.instanceMethod yX6_slope, Cond.selects RX6 yX6_slope yX6_slope, Cond.code yX6_slope cX6_slope 4 (some .int), Cond.methodLink RX6 65 yX6_isWall, Cond.instanceMethod yX6_isWall, Cond.selects RX6 yX6_isWall yX6_isWall, Cond.code yX6_isWall cX6_isWall 2 (some .boolean), Cond.methodLink RX6 100 yX6_from, Cond.instanceMethod yX6_from, Cond.selects RX6 yX6_from yX6_from]
def wsX6_cell_r2 : List Cond := [Cond.code yX6_from cX6_from 4 (some .int), Cond.methodLink RX6 117 yX6_isStill, Cond.instanceMethod yX6_isStill, Cond.selects RX6 yX6_isStill yX6_isStill, Cond.code yX6_isStill cX6_isStill 2 (some .boolean), Cond.methodLink RX6 88 yX6_size, Cond.static yX6_size, Cond.code yX6_size cX6_size 1 (some .int), Cond.methodLink RX6 62 yX6_dipperIn, Cond.instanceMethod yX6_dipperIn, Cond.selects RX6 yX6_dipperIn yX6_dipperIn, Cond.code yX6_dipperIn cX6_dipperIn 4 (some .int), Cond.methodLink RX6 54 yX6_ofDipper, Cond.instanceMethod yX6_ofDipper, Cond.selects RX6 yX6_ofDipper yX6_ofDipper, Cond.code yX6_ofDipper cX6_ofDipper 3 (some .int)]
def wsX6_cell : List Cond := .code yX6_cell cX6_cell 5 (some .int) :: ((wsX6_cell_r1 ++ wsX6_cell_r2) ++ wsX60)
def wsX6_dipper : List Cond := .code yX6_dipper cX6_dipper 3 (some .int) :: ([.methodLink RX6 94 yX6_isDipper, .instanceMethod yX6_isDipper, .selects RX6 yX6_isDipper yX6_isDipper, .initialized RX6, .code yX6_isDipper cX6_isDipper 2 (some .boolean), .fieldLink RX6 7 "DippedWavesModel" "z" "[I", .methodLink RX6 54 yX6_ofDipper, .instanceMethod yX6_ofDipper, .selects RX6 yX6_ofDipper yX6_ofDipper, .code yX6_ofDipper cX6_ofDipper 3 (some .int), .methodLink RX6 104 yX6_isUp, .instanceMethod yX6_isUp, .selects RX6 yX6_isUp yX6_isUp, .code yX6_isUp cX6_isUp 2 (some .boolean)] ++ wsX60)
def wsX6_seenBy : List Cond := .code yX6_seenBy cX6_seenBy 3 (some .int) :: ([.fieldLink RX6 7 "DippedWavesModel" "z" "[I"] ++ wsX60)
def wsX6_seenMany : List Cond := .code yX6_seenMany cX6_seenMany 2 (some .int) :: ([.fieldLink RX6 7 "DippedWavesModel" "z" "[I"] ++ wsX60)
def wsX6_beat : List Cond := .code yX6_beat cX6_beat 7 (some .int) :: ([.methodLink RX6 130 yX6_seenMany, .instanceMethod yX6_seenMany, .selects RX6 yX6_seenMany yX6_seenMany, .initialized RX6, .code yX6_seenMany cX6_seenMany 2 (some .int), .fieldLink RX6 7 "DippedWavesModel" "z" "[I", .methodLink RX6 133 yX6_seenBy, .instanceMethod yX6_seenBy, .selects RX6 yX6_seenBy yX6_seenBy, .code yX6_seenBy cX6_seenBy 3 (some .int), .methodLink RX6 88 yX6_size, .static yX6_size, .code yX6_size cX6_size 1 (some .int)] ++ wsX60)
def wsX6_greatestSeen : List Cond := .code yX6_greatestSeen cX6_greatestSeen 5 (some .int) :: ([.methodLink RX6 130 yX6_seenMany, .instanceMethod yX6_seenMany, .selects RX6 yX6_seenMany yX6_seenMany, .initialized RX6, .code yX6_seenMany cX6_seenMany 2 (some .int), .fieldLink RX6 7 "DippedWavesModel" "z" "[I", .methodLink RX6 133 yX6_seenBy, .instanceMethod yX6_seenBy, .selects RX6 yX6_seenBy yX6_seenBy, .code yX6_seenBy cX6_seenBy 3 (some .int)] ++ wsX60)
def wsX6_ofProbe_r1 : List Cond := [Cond.fieldLink RX6 7 "DippedWavesModel" "z" "[I", Cond.methodLink RX6 136 yX6_isProbe, Cond.instanceMethod yX6_isProbe, Cond.selects RX6 yX6_isProbe yX6_isProbe, Cond.initialized RX6, Cond.code yX6_isProbe cX6_isProbe 2 (some .boolean), Cond.methodLink RX6 130 yX6_seenMany, Cond.instanceMethod yX6_seenMany, Cond.selects RX6 yX6_seenMany yX6_seenMany, Cond.code yX6_seenMany cX6_seenMany 2 (some .int), Cond.methodLink RX6 139 yX6_beat, Cond.instanceMethod yX6_beat, Cond.selects RX6 yX6_beat yX6_beat, Cond.code yX6_beat cX6_beat 7 (some .int), Cond.methodLink RX6 133 yX6_seenBy, Cond.instanceMethod yX6_seenBy, Cond.selects RX6 yX6_seenBy yX6_seenBy, Cond.code yX6_seenBy cX6_seenBy 3 (some .int), Cond.methodLink RX6 88 yX6_size, Cond.static yX6_size, Cond.code yX6_size cX6_size 1 (some .int), Cond.methodLink RX6 142 yX6_greatestSeen, Cond.instanceMethod yX6_greatestSeen, Cond.selects RX6 yX6_greatestSeen yX6_greatestSeen]
def wsX6_ofProbe_r2 : List Cond := [Cond.code yX6_greatestSeen cX6_greatestSeen 5 (some .int)]
def wsX6_ofProbe : List Cond := .code yX6_ofProbe cX6_ofProbe 4 (some .int) :: ((wsX6_ofProbe_r1 ++ wsX6_ofProbe_r2) ++ wsX60)
def wsX6_seen : List Cond := .code yX6_seen cX6_seen 3 (some .int) :: ([.methodLink RX6 136 yX6_isProbe, .instanceMethod yX6_isProbe, .selects RX6 yX6_isProbe yX6_isProbe, .initialized RX6, .code yX6_isProbe cX6_isProbe 2 (some .boolean), .fieldLink RX6 7 "DippedWavesModel" "z" "[I", .methodLink RX6 130 yX6_seenMany, .instanceMethod yX6_seenMany, .selects RX6 yX6_seenMany yX6_seenMany, .code yX6_seenMany cX6_seenMany 2 (some .int), .methodLink RX6 36 yX6_in, .static yX6_in, .code yX6_in cX6_in 3 (some .boolean), .methodLink RX6 133 yX6_seenBy, .instanceMethod yX6_seenBy, .selects RX6 yX6_seenBy yX6_seenBy, .code yX6_seenBy cX6_seenBy 3 (some .int)] ++ wsX60)
def wsX6_sum : List Cond := .code yX6_sum cX6_sum 3 (some .int) :: ([.methodLink RX6 85 yX6_now, .instanceMethod yX6_now, .selects RX6 yX6_now yX6_now, .initialized RX6, .code yX6_now cX6_now 2 (some .int), .fieldLink RX6 7 "DippedWavesModel" "z" "[I"] ++ wsX60)
def wsX6_greatest : List Cond := .code yX6_greatest cX6_greatest 3 (some .int) :: ([.methodLink RX6 85 yX6_now, .instanceMethod yX6_now, .selects RX6 yX6_now yX6_now, .initialized RX6, .code yX6_now cX6_now 2 (some .int), .fieldLink RX6 7 "DippedWavesModel" "z" "[I", .methodLink RX6 88 yX6_size, .static yX6_size, .code yX6_size cX6_size 1 (some .int)] ++ wsX60)
def wsX6_come : List Cond := .code yX6_come cX6_come 3 (some .int) :: ([.fieldLink RX6 7 "DippedWavesModel" "z" "[I"] ++ wsX60)
def wsX6_count_r1 : List Cond := [Cond.fieldLink RX6 7 "DippedWavesModel" "z" "[I", Cond.constant RX6 148 (1000000), Cond.fieldLink RX6 79 "DippedWavesModel" "typed" "I", Cond.fieldLink RX6 40 "DippedWavesModel" "pastMany" "I", Cond.methodLink RX6 82 yX6_water, Cond.instanceMethod yX6_water, Cond.selects RX6 yX6_water yX6_water, Cond.initialized RX6, Cond.code yX6_water cX6_water 3 (some .int), Cond.methodLink RX6 65 yX6_isWall, Cond.instanceMethod yX6_isWall, Cond.selects RX6 yX6_isWall yX6_isWall, Cond.code yX6_isWall cX6_isWall 2 (some .boolean), Cond.methodLink RX6 127 yX6_stillOnes, Cond.instanceMethod yX6_stillOnes, Cond.selects RX6 yX6_stillOnes yX6_stillOnes, Cond.code yX6_stillOnes cX6_stillOnes 3 (some .int), Cond.methodLink RX6 117 yX6_isStill, Cond.instanceMethod yX6_isStill, Cond.selects RX6 yX6_isStill yX6_isStill, Cond.code yX6_isStill cX6_isStill 2 (some .boolean), Cond.methodLink RX6 85 yX6_now, Cond.instanceMethod yX6_now, Cond.selects RX6 yX6_now yX6_now]
def wsX6_count_r2 : List Cond := [Cond.code yX6_now cX6_now 2 (some .int), Cond.methodLink RX6 88 yX6_size, Cond.static yX6_size, Cond.code yX6_size cX6_size 1 (some .int), Cond.methodLink RX6 145 yX6_sum, Cond.instanceMethod yX6_sum, Cond.selects RX6 yX6_sum yX6_sum, Cond.code yX6_sum cX6_sum 3 (some .int), Cond.methodLink RX6 91 yX6_allSizes, Cond.instanceMethod yX6_allSizes, Cond.selects RX6 yX6_allSizes yX6_allSizes, Cond.code yX6_allSizes cX6_allSizes 3 (some .int), Cond.methodLink RX6 149 yX6_greatest, Cond.instanceMethod yX6_greatest, Cond.selects RX6 yX6_greatest yX6_greatest, Cond.code yX6_greatest cX6_greatest 3 (some .int), Cond.methodLink RX6 152 yX6_come, Cond.instanceMethod yX6_come, Cond.selects RX6 yX6_come yX6_come, Cond.code yX6_come cX6_come 3 (some .int)]
def wsX6_count : List Cond := .code yX6_count cX6_count 2 (some .int) :: ((wsX6_count_r1 ++ wsX6_count_r2) ++ wsX60)
def wsX6_loudest : List Cond := .code yX6_loudest cX6_loudest 4 (some .int) :: ([.methodLink RX6 36 yX6_in, .static yX6_in, .initialized RX6, .code yX6_in cX6_in 3 (some .boolean), .methodLink RX6 149 yX6_greatest, .instanceMethod yX6_greatest, .selects RX6 yX6_greatest yX6_greatest, .code yX6_greatest cX6_greatest 3 (some .int), .methodLink RX6 85 yX6_now, .instanceMethod yX6_now, .selects RX6 yX6_now yX6_now, .code yX6_now cX6_now 2 (some .int), .fieldLink RX6 7 "DippedWavesModel" "z" "[I", .methodLink RX6 88 yX6_size, .static yX6_size, .code yX6_size cX6_size 1 (some .int)] ++ wsX60)
def wsX6_heightAt : List Cond := .code yX6_heightAt cX6_heightAt 3 (some .int) :: ([.methodLink RX6 58 yX6_isCell, .static yX6_isCell, .initialized RX6, .code yX6_isCell cX6_isCell 2 (some .boolean), .methodLink RX6 36 yX6_in, .static yX6_in, .code yX6_in cX6_in 3 (some .boolean), .methodLink RX6 85 yX6_now, .instanceMethod yX6_now, .selects RX6 yX6_now yX6_now, .code yX6_now cX6_now 2 (some .int), .fieldLink RX6 7 "DippedWavesModel" "z" "[I"] ++ wsX60)
def wsX6_crests : List Cond := .code yX6_crests cX6_crests 5 (some .int) :: ([.methodLink RX6 36 yX6_in, .static yX6_in, .initialized RX6, .code yX6_in cX6_in 3 (some .boolean), .methodLink RX6 155 yX6_heightAt, .instanceMethod yX6_heightAt, .selects RX6 yX6_heightAt yX6_heightAt, .code yX6_heightAt cX6_heightAt 3 (some .int), .methodLink RX6 58 yX6_isCell, .static yX6_isCell, .code yX6_isCell cX6_isCell 2 (some .boolean), .methodLink RX6 85 yX6_now, .instanceMethod yX6_now, .selects RX6 yX6_now yX6_now, .code yX6_now cX6_now 2 (some .int), .fieldLink RX6 7 "DippedWavesModel" "z" "[I"] ++ wsX60)
def wsX6_ifPassed_r1 : List Cond := [Cond.methodLink RX6 58 yX6_isCell, Cond.static yX6_isCell, Cond.initialized RX6, Cond.code yX6_isCell cX6_isCell 2 (some .boolean), Cond.methodLink RX6 36 yX6_in, Cond.static yX6_in, Cond.code yX6_in cX6_in 3 (some .boolean), Cond.methodLink RX6 158 yX6_putAside, Cond.instanceMethod yX6_putAside, Cond.selects RX6 yX6_putAside yX6_putAside, Cond.code yX6_putAside cX6_putAside 2 none, Cond.fieldLink RX6 23 "DippedWavesModel" "spare" "[I", Cond.fieldLink RX6 7 "DippedWavesModel" "z" "[I", Cond.methodLink RX6 124 yX6_ticks, Cond.instanceMethod yX6_ticks, Cond.selects RX6 yX6_ticks yX6_ticks, Cond.code yX6_ticks cX6_ticks 3 none, Cond.methodLink RX6 120 yX6_tick, Cond.instanceMethod yX6_tick, Cond.selects RX6 yX6_tick yX6_tick, Cond.code yX6_tick cX6_tick 2 none, Cond.fieldLink RX6 30 "DippedWavesModel" "then" "[I", Cond.methodLink RX6 110 yX6_heightThen, Cond.instanceMethod yX6_heightThen]
def wsX6_ifPassed_r2 : List Cond := [Cond.selects RX6 yX6_heightThen yX6_heightThen, Cond.code yX6_heightThen cX6_heightThen 5 (some .int), Cond.methodLink RX6 65 yX6_isWall, Cond.instanceMethod yX6_isWall, Cond.selects RX6 yX6_isWall yX6_isWall, Cond.code yX6_isWall cX6_isWall 2 (some .boolean), Cond.methodLink RX6 62 yX6_dipperIn, Cond.instanceMethod yX6_dipperIn, Cond.selects RX6 yX6_dipperIn yX6_dipperIn, Cond.code yX6_dipperIn cX6_dipperIn 4 (some .int), Cond.methodLink RX6 54 yX6_ofDipper, Cond.instanceMethod yX6_ofDipper, Cond.selects RX6 yX6_ofDipper yX6_ofDipper, Cond.code yX6_ofDipper cX6_ofDipper 3 (some .int), Cond.methodLink RX6 104 yX6_isUp, Cond.instanceMethod yX6_isUp, Cond.selects RX6 yX6_isUp yX6_isUp, Cond.code yX6_isUp cX6_isUp 2 (some .boolean), Cond.methodLink RX6 85 yX6_now, Cond.instanceMethod yX6_now, Cond.selects RX6 yX6_now yX6_now, Cond.code yX6_now cX6_now 2 (some .int), Cond.methodLink RX6 107 yX6_slope, Cond.instanceMethod yX6_slope]
def wsX6_ifPassed_r3 : List Cond := [Cond.selects RX6 yX6_slope yX6_slope, Cond.code yX6_slope cX6_slope 4 (some .int), Cond.methodLink RX6 100 yX6_from, Cond.instanceMethod yX6_from, Cond.selects RX6 yX6_from yX6_from, Cond.code yX6_from cX6_from 4 (some .int), Cond.methodLink RX6 97 yX6_kept, Cond.static yX6_kept, Cond.code yX6_kept cX6_kept 1 (some .int), Cond.methodLink RX6 88 yX6_size, Cond.static yX6_size, Cond.code yX6_size cX6_size 1 (some .int), Cond.methodLink RX6 113 yX6_see, Cond.instanceMethod yX6_see, Cond.selects RX6 yX6_see yX6_see, Cond.code yX6_see cX6_see 4 none, Cond.methodLink RX6 161 yX6_bringBack, Cond.instanceMethod yX6_bringBack, Cond.selects RX6 yX6_bringBack yX6_bringBack, Cond.code yX6_bringBack cX6_bringBack 2 none]
def wsX6_ifPassed : List Cond := .code yX6_ifPassed cX6_ifPassed 5 (some .int) :: ((wsX6_ifPassed_r1 ++ (wsX6_ifPassed_r2 ++ wsX6_ifPassed_r3)) ++ wsX60)
def wsX6_comes_r1 : List Cond := [Cond.methodLink RX6 58 yX6_isCell, Cond.static yX6_isCell, Cond.initialized RX6, Cond.code yX6_isCell cX6_isCell 2 (some .boolean), Cond.methodLink RX6 36 yX6_in, Cond.static yX6_in, Cond.code yX6_in cX6_in 3 (some .boolean), Cond.methodLink RX6 117 yX6_isStill, Cond.instanceMethod yX6_isStill, Cond.selects RX6 yX6_isStill yX6_isStill, Cond.code yX6_isStill cX6_isStill 2 (some .boolean), Cond.fieldLink RX6 7 "DippedWavesModel" "z" "[I", Cond.methodLink RX6 85 yX6_now, Cond.instanceMethod yX6_now, Cond.selects RX6 yX6_now yX6_now, Cond.code yX6_now cX6_now 2 (some .int), Cond.methodLink RX6 88 yX6_size, Cond.static yX6_size, Cond.code yX6_size cX6_size 1 (some .int), Cond.methodLink RX6 158 yX6_putAside, Cond.instanceMethod yX6_putAside, Cond.selects RX6 yX6_putAside yX6_putAside, Cond.code yX6_putAside cX6_putAside 2 none, Cond.fieldLink RX6 23 "DippedWavesModel" "spare" "[I"]
def wsX6_comes_r2 : List Cond := [Cond.methodLink RX6 120 yX6_tick, Cond.instanceMethod yX6_tick, Cond.selects RX6 yX6_tick yX6_tick, Cond.code yX6_tick cX6_tick 2 none, Cond.fieldLink RX6 30 "DippedWavesModel" "then" "[I", Cond.methodLink RX6 110 yX6_heightThen, Cond.instanceMethod yX6_heightThen, Cond.selects RX6 yX6_heightThen yX6_heightThen, Cond.code yX6_heightThen cX6_heightThen 5 (some .int), Cond.methodLink RX6 65 yX6_isWall, Cond.instanceMethod yX6_isWall, Cond.selects RX6 yX6_isWall yX6_isWall, Cond.code yX6_isWall cX6_isWall 2 (some .boolean), Cond.methodLink RX6 62 yX6_dipperIn, Cond.instanceMethod yX6_dipperIn, Cond.selects RX6 yX6_dipperIn yX6_dipperIn, Cond.code yX6_dipperIn cX6_dipperIn 4 (some .int), Cond.methodLink RX6 54 yX6_ofDipper, Cond.instanceMethod yX6_ofDipper, Cond.selects RX6 yX6_ofDipper yX6_ofDipper, Cond.code yX6_ofDipper cX6_ofDipper 3 (some .int), Cond.methodLink RX6 104 yX6_isUp, Cond.instanceMethod yX6_isUp, Cond.selects RX6 yX6_isUp yX6_isUp]
def wsX6_comes_r3 : List Cond := [Cond.code yX6_isUp cX6_isUp 2 (some .boolean), Cond.methodLink RX6 107 yX6_slope, Cond.instanceMethod yX6_slope, Cond.selects RX6 yX6_slope yX6_slope, Cond.code yX6_slope cX6_slope 4 (some .int), Cond.methodLink RX6 100 yX6_from, Cond.instanceMethod yX6_from, Cond.selects RX6 yX6_from yX6_from, Cond.code yX6_from cX6_from 4 (some .int), Cond.methodLink RX6 97 yX6_kept, Cond.static yX6_kept, Cond.code yX6_kept cX6_kept 1 (some .int), Cond.methodLink RX6 113 yX6_see, Cond.instanceMethod yX6_see, Cond.selects RX6 yX6_see yX6_see, Cond.code yX6_see cX6_see 4 none, Cond.methodLink RX6 161 yX6_bringBack, Cond.instanceMethod yX6_bringBack, Cond.selects RX6 yX6_bringBack yX6_bringBack, Cond.code yX6_bringBack cX6_bringBack 2 none]
def wsX6_comes : List Cond := .code yX6_comes cX6_comes 6 (some .int) :: ((wsX6_comes_r1 ++ (wsX6_comes_r2 ++ wsX6_comes_r3)) ++ wsX60)
def wsX6_hush_r1 : List Cond := [Cond.fieldLink RX6 23 "DippedWavesModel" "spare" "[I", Cond.fieldLink RX6 7 "DippedWavesModel" "z" "[I", Cond.methodLink RX6 94 yX6_isDipper, Cond.instanceMethod yX6_isDipper, Cond.selects RX6 yX6_isDipper yX6_isDipper, Cond.initialized RX6, Cond.code yX6_isDipper cX6_isDipper 2 (some .boolean), Cond.methodLink RX6 58 yX6_isCell, Cond.static yX6_isCell, Cond.code yX6_isCell cX6_isCell 2 (some .boolean), Cond.methodLink RX6 36 yX6_in, Cond.static yX6_in, Cond.code yX6_in cX6_in 3 (some .boolean), Cond.methodLink RX6 158 yX6_putAside, Cond.instanceMethod yX6_putAside, Cond.selects RX6 yX6_putAside yX6_putAside, Cond.code yX6_putAside cX6_putAside 2 none, Cond.methodLink RX6 161 yX6_bringBack, Cond.instanceMethod yX6_bringBack, Cond.selects RX6 yX6_bringBack yX6_bringBack, Cond.code yX6_bringBack cX6_bringBack 2 none, Cond.methodLink RX6 124 yX6_ticks, Cond.instanceMethod yX6_ticks, Cond.selects RX6 yX6_ticks yX6_ticks]
def wsX6_hush_r2 : List Cond := [Cond.code yX6_ticks cX6_ticks 3 none, Cond.methodLink RX6 120 yX6_tick, Cond.instanceMethod yX6_tick, Cond.selects RX6 yX6_tick yX6_tick, Cond.code yX6_tick cX6_tick 2 none, Cond.fieldLink RX6 30 "DippedWavesModel" "then" "[I", Cond.methodLink RX6 110 yX6_heightThen, Cond.instanceMethod yX6_heightThen, Cond.selects RX6 yX6_heightThen yX6_heightThen, Cond.code yX6_heightThen cX6_heightThen 5 (some .int), Cond.methodLink RX6 65 yX6_isWall, Cond.instanceMethod yX6_isWall, Cond.selects RX6 yX6_isWall yX6_isWall, Cond.code yX6_isWall cX6_isWall 2 (some .boolean), Cond.methodLink RX6 62 yX6_dipperIn, Cond.instanceMethod yX6_dipperIn, Cond.selects RX6 yX6_dipperIn yX6_dipperIn, Cond.code yX6_dipperIn cX6_dipperIn 4 (some .int), Cond.methodLink RX6 54 yX6_ofDipper, Cond.instanceMethod yX6_ofDipper, Cond.selects RX6 yX6_ofDipper yX6_ofDipper, Cond.code yX6_ofDipper cX6_ofDipper 3 (some .int), Cond.methodLink RX6 104 yX6_isUp, Cond.instanceMethod yX6_isUp]
def wsX6_hush_r3 : List Cond := [Cond.selects RX6 yX6_isUp yX6_isUp, Cond.code yX6_isUp cX6_isUp 2 (some .boolean), Cond.methodLink RX6 85 yX6_now, Cond.instanceMethod yX6_now, Cond.selects RX6 yX6_now yX6_now, Cond.code yX6_now cX6_now 2 (some .int), Cond.methodLink RX6 107 yX6_slope, Cond.instanceMethod yX6_slope, Cond.selects RX6 yX6_slope yX6_slope, Cond.code yX6_slope cX6_slope 4 (some .int), Cond.methodLink RX6 100 yX6_from, Cond.instanceMethod yX6_from, Cond.selects RX6 yX6_from yX6_from, Cond.code yX6_from cX6_from 4 (some .int), Cond.methodLink RX6 97 yX6_kept, Cond.static yX6_kept, Cond.code yX6_kept cX6_kept 1 (some .int), Cond.methodLink RX6 88 yX6_size, Cond.static yX6_size, Cond.code yX6_size cX6_size 1 (some .int), Cond.methodLink RX6 113 yX6_see, Cond.instanceMethod yX6_see, Cond.selects RX6 yX6_see yX6_see, Cond.code yX6_see cX6_see 4 none]
def wsX6_hush : List Cond := .code yX6_hush cX6_hush 11 (some .int) :: ((wsX6_hush_r1 ++ (wsX6_hush_r2 ++ wsX6_hush_r3)) ++ wsX60)
def wsX6_put : List Cond := .code yX6_put cX6_put 8 (some .int) :: ([.constantLong RX6 164 (255), .fieldLink RX6 79 "DippedWavesModel" "typed" "I", .fieldLink RX6 26 "DippedWavesModel" "pad" "[C", .methodLink RX6 36 yX6_in, .static yX6_in, .initialized RX6, .code yX6_in cX6_in 3 (some .boolean)] ++ wsX60)
def wsX6_wipe : List Cond := .code yX6_wipe cX6_wipe 2 (some .int) :: ([.fieldLink RX6 79 "DippedWavesModel" "typed" "I"] ++ wsX60)
def wsX6_fault : List Cond := .code yX6_fault cX6_fault 1 (some .int) :: ([.methodLink RX6 69 yX6_readPad, .instanceMethod yX6_readPad, .selects RX6 yX6_readPad yX6_readPad, .initialized RX6, .code yX6_readPad cX6_readPad 3 (some .int), .fieldLink RX6 79 "DippedWavesModel" "typed" "I", .fieldLink RX6 26 "DippedWavesModel" "pad" "[C", .methodLink RX6 73 yX6_floorOf, .static yX6_floorOf, .code yX6_floorOf cX6_floorOf 1 (some .int)] ++ wsX60)
def wsJ9_abs_0f7a4 : List Cond := .code yJ9_abs_0f7a4 cJ9_abs_0f7a4 1 (some .int) :: ([])
def wsJ9_max_7cf53 : List Cond := .code yJ9_max_7cf53 cJ9_max_7cf53 2 (some .int) :: ([])
def wsJ9_min_7cf53 : List Cond := .code yJ9_min_7cf53 cJ9_min_7cf53 2 (some .int) :: ([])
def wsL_law_r1 : List Cond := [Cond.classLink RL 7 RX5, Cond.instantiable RX5 6, Cond.initialized RX5, Cond.classLink RL 10 RX6, Cond.instantiable RX6 9, Cond.initialized RX6, Cond.constantLong RL 94 (4294967295), Cond.methodLink RL 9 yX5_init, Cond.instanceMethod yX5_init, Cond.code yX5_init cX5_init 2 none, Cond.methodLink RX5 3 objectInit, Cond.instanceMethod objectInit, Cond.code objectInit ⟨#[0xb1]⟩ 1 none, Cond.classLink RX5 9 RX4, Cond.instantiable RX4 8, Cond.initialized RX4, Cond.fieldLink RX5 12 "DippedWaves" "tank" "LDippedWaves$Tank;", Cond.fieldLink RX5 16 "DippedWaves" "trial" "LDippedWaves$Tank;", Cond.classLink RX5 19 RX1, Cond.instantiable RX1 2, Cond.initialized RX1, Cond.fieldLink RX5 22 "DippedWaves" "history" "LDippedWaves$History;", Cond.fieldLink RX5 26 "DippedWaves" "slots" "[LDippedWaves$Tank;", Cond.arrayClass .boolean]
def wsL_law_r2 : List Cond := [Cond.fieldLink RX5 30 "DippedWaves" "saved" "[Z", Cond.classLink RX5 34 RX2, Cond.instantiable RX2 2, Cond.initialized RX2, Cond.fieldLink RX5 37 "DippedWaves" "pad" "LDippedWaves$Pad;", Cond.methodLink RX5 11 yX4_init, Cond.instanceMethod yX4_init, Cond.code yX4_init cX4_init 1 none, Cond.methodLink RX4 3 objectInit, Cond.methodLink RX4 13 ⟨"[I", "clone", "()Ljava/lang/Object;"⟩, Cond.sameMethod "[I" "java/lang/Object" "clone" "()Ljava/lang/Object;", Cond.native ⟨"java/lang/Object", "clone", "()Ljava/lang/Object;"⟩, Cond.instanceMethod ⟨"java/lang/Object", "clone", "()Ljava/lang/Object;"⟩, Cond.selects "[I" ⟨"[I", "clone", "()Ljava/lang/Object;"⟩ ⟨"java/lang/Object", "clone", "()Ljava/lang/Object;"⟩, Cond.classLink RX4 14 "[I", Cond.fieldLink RX4 18 "DippedWaves$Tank" "settings" "[I", Cond.arrayClass .int, Cond.fieldLink RX4 23 "DippedWaves$Tank" "floors" "[I", Cond.fieldLink RX4 26 "DippedWaves$Tank" "heights" "[I", Cond.fieldLink RX4 29 "DippedWaves$Tank" "ahead" "[I", Cond.fieldLink RX4 32 "DippedWaves$Tank" "firsts" "[I", Cond.classLink RX4 35 RX0, Cond.instantiable RX0 5, Cond.initialized RX0]
def wsL_law_r3 : List Cond := [Cond.fieldLink RX4 38 "DippedWaves$Tank" "dippers" "LDippedWaves$Dippers;", Cond.classLink RX4 42 RX3, Cond.instantiable RX3 4, Cond.initialized RX3, Cond.fieldLink RX4 45 "DippedWaves$Tank" "probes" "LDippedWaves$Probes;", Cond.fieldLink RX4 49 "DippedWaves$Tank" "tick" "I", Cond.instanceMethod yX0_init, Cond.code yX0_init cX0_init 1 none, Cond.methodLink RX0 3 objectInit, Cond.fieldLink RX0 9 "DippedWaves$Dippers" "cells" "[I", Cond.fieldLink RX0 15 "DippedWaves$Dippers" "periods" "[I", Cond.fieldLink RX0 18 "DippedWaves$Dippers" "sizes" "[I", Cond.fieldLink RX0 21 "DippedWaves$Dippers" "shifts" "[I", Cond.fieldLink RX0 24 "DippedWaves$Dippers" "many" "I", Cond.instanceMethod yX3_init, Cond.code yX3_init cX3_init 1 none, Cond.methodLink RX3 3 objectInit, Cond.fieldLink RX3 9 "DippedWaves$Probes" "cells" "[I", Cond.fieldLink RX3 15 "DippedWaves$Probes" "lengths" "[I", Cond.classLink RX3 18 "[[I", Cond.fieldLink RX3 20 "DippedWaves$Probes" "heights" "[[I", Cond.fieldLink RX3 23 "DippedWaves$Probes" "many" "I", Cond.methodLink RX4 53 yJ7_fill_53178, Cond.static yJ7_fill_53178]
def wsL_law_r4 : List Cond := [Cond.initialized RJ7, Cond.code yJ7_fill_53178 cJ7_fill_53178 4 none, Cond.methodLink RX5 21 yX1_init, Cond.instanceMethod yX1_init, Cond.code yX1_init cX1_init 2 none, Cond.methodLink RX1 3 objectInit, Cond.classLink RX1 9 RX4, Cond.fieldLink RX1 11 "DippedWaves$History" "states" "[LDippedWaves$Tank;", Cond.fieldLink RX1 17 "DippedWaves$History" "many" "I", Cond.methodLink RX1 21 yX4_init, Cond.instanceMethod yX2_init, Cond.code yX2_init cX2_init 1 none, Cond.methodLink RX2 3 objectInit, Cond.arrayClass .char, Cond.fieldLink RX2 9 "DippedWaves$Pad" "signs" "[C", Cond.fieldLink RX2 15 "DippedWaves$Pad" "length" "I", Cond.methodLink RL 12 yX6_init, Cond.instanceMethod yX6_init, Cond.code yX6_init cX6_init 1 none, Cond.methodLink RX6 1 objectInit, Cond.fieldLink RX6 7 "DippedWavesModel" "z" "[I", Cond.fieldLink RX6 13 "DippedWavesModel" "past" "[I", Cond.fieldLink RX6 16 "DippedWavesModel" "slots" "[I", Cond.fieldLink RX6 19 "DippedWavesModel" "isSaved" "[Z"]
def wsL_law_r5 : List Cond := [Cond.fieldLink RX6 23 "DippedWavesModel" "spare" "[I", Cond.fieldLink RX6 26 "DippedWavesModel" "pad" "[C", Cond.fieldLink RX6 30 "DippedWavesModel" "then" "[I", Cond.methodLink RX6 33 yX6_forgetFirst, Cond.instanceMethod yX6_forgetFirst, Cond.selects RX6 yX6_forgetFirst yX6_forgetFirst, Cond.code yX6_forgetFirst cX6_forgetFirst 2 none, Cond.methodLink RL 13 yX5_set, Cond.instanceMethod yX5_set, Cond.selects RX5 yX5_set yX5_set, Cond.code yX5_set cX5_set 4 (some .int), Cond.fieldLink RX5 41 "DippedWaves" "LEAST_SETTINGS" "[I", Cond.fieldLink RX5 45 "DippedWaves" "MOST_SETTINGS" "[I", Cond.fieldLink RX5 52 "DippedWaves$Tank" "settings" "[I", Cond.methodLink RX5 48 yX1_keep, Cond.instanceMethod yX1_keep, Cond.selects RX1 yX1_keep yX1_keep, Cond.code yX1_keep cX1_keep 2 none, Cond.methodLink RX1 22 yX1_loseOldest, Cond.instanceMethod yX1_loseOldest, Cond.selects RX1 yX1_loseOldest yX1_loseOldest, Cond.code yX1_loseOldest cX1_loseOldest 3 none, Cond.methodLink RX1 25 yX4_become, Cond.instanceMethod yX4_become]
def wsL_law_r6 : List Cond := [Cond.selects RX4 yX4_become yX4_become, Cond.code yX4_become cX4_become 2 none, Cond.methodLink RX4 59 arraycopyName, Cond.native arraycopyName, Cond.static arraycopyName, Cond.initialized "java/lang/System", Cond.methodLink RX4 65 yX0_become, Cond.instanceMethod yX0_become, Cond.selects RX0 yX0_become yX0_become, Cond.code yX0_become cX0_become 2 none, Cond.methodLink RX0 28 arraycopyName, Cond.methodLink RX4 69 yX3_become, Cond.instanceMethod yX3_become, Cond.selects RX3 yX3_become yX3_become, Cond.code yX3_become cX3_become 3 none, Cond.methodLink RX3 27 arraycopyName, Cond.methodLink RL 17 yX6_set, Cond.instanceMethod yX6_set, Cond.selects RX6 yX6_set yX6_set, Cond.code yX6_set cX6_set 4 (some .int), Cond.methodLink RX6 36 yX6_in, Cond.static yX6_in, Cond.code yX6_in cX6_in 3 (some .boolean), Cond.methodLink RX6 47 yX6_leastOf]
def wsL_law_r7 : List Cond := [Cond.static yX6_leastOf, Cond.code yX6_leastOf cX6_leastOf 1 (some .int), Cond.methodLink RX6 51 yX6_mostOf, Cond.static yX6_mostOf, Cond.code yX6_mostOf cX6_mostOf 1 (some .int), Cond.methodLink RX6 44 yX6_record, Cond.instanceMethod yX6_record, Cond.selects RX6 yX6_record yX6_record, Cond.code yX6_record cX6_record 2 none, Cond.fieldLink RX6 40 "DippedWavesModel" "pastMany" "I", Cond.methodLink RL 18 yX5_floor, Cond.instanceMethod yX5_floor, Cond.selects RX5 yX5_floor yX5_floor, Cond.code yX5_floor cX5_floor 6 (some .int), Cond.fieldLink RX5 63 "DippedWaves$Tank" "dippers" "LDippedWaves$Dippers;", Cond.fieldLink RX5 73 "DippedWaves$Tank" "floors" "[I", Cond.methodLink RX5 55 yX5_isCell, Cond.static yX5_isCell, Cond.code yX5_isCell cX5_isCell 2 (some .boolean), Cond.methodLink RX5 101 yX5_isIn, Cond.static yX5_isIn, Cond.code yX5_isIn cX5_isIn 3 (some .boolean), Cond.methodLink RX5 59 yX5_placeOf, Cond.static yX5_placeOf]
def wsL_law_r8 : List Cond := [Cond.code yX5_placeOf cX5_placeOf 2 (some .int), Cond.methodLink RX5 67 yX0_lastIn, Cond.instanceMethod yX0_lastIn, Cond.selects RX0 yX0_lastIn yX0_lastIn, Cond.code yX0_lastIn cX0_lastIn 3 (some .int), Cond.methodLink RX5 76 yX4_lay, Cond.instanceMethod yX4_lay, Cond.selects RX4 yX4_lay yX4_lay, Cond.code yX4_lay cX4_lay 3 none, Cond.methodLink RL 22 yX6_floor, Cond.instanceMethod yX6_floor, Cond.selects RX6 yX6_floor yX6_floor, Cond.code yX6_floor cX6_floor 6 (some .int), Cond.methodLink RX6 58 yX6_isCell, Cond.static yX6_isCell, Cond.code yX6_isCell cX6_isCell 2 (some .boolean), Cond.methodLink RX6 62 yX6_dipperIn, Cond.instanceMethod yX6_dipperIn, Cond.selects RX6 yX6_dipperIn yX6_dipperIn, Cond.code yX6_dipperIn cX6_dipperIn 4 (some .int), Cond.methodLink RX6 54 yX6_ofDipper, Cond.instanceMethod yX6_ofDipper, Cond.selects RX6 yX6_ofDipper yX6_ofDipper, Cond.code yX6_ofDipper cX6_ofDipper 3 (some .int)]
def wsL_law_r9 : List Cond := [Cond.methodLink RL 23 yX5_read, Cond.instanceMethod yX5_read, Cond.selects RX5 yX5_read yX5_read, Cond.code yX5_read cX5_read 1 (some .int), Cond.fieldLink RX5 88 "DippedWaves$Pad" "length" "I", Cond.methodLink RX5 80 yX2_firstFault, Cond.instanceMethod yX2_firstFault, Cond.selects RX2 yX2_firstFault yX2_firstFault, Cond.code yX2_firstFault cX2_firstFault 2 (some .int), Cond.methodLink RX2 25 yX2_canStand, Cond.static yX2_canStand, Cond.code yX2_canStand cX2_canStand 2 (some .boolean), Cond.methodLink RX2 31 yJ0_indexOf_0f7a4, Cond.instanceMethod yJ0_indexOf_0f7a4, Cond.selects RJ0 yJ0_indexOf_0f7a4 yJ0_indexOf_0f7a4, Cond.initialized RJ0, Cond.code yJ0_indexOf_0f7a4 cJ0_indexOf_0f7a4 2 (some .int), Cond.methodLink RJ0 633 yJ0_indexOf_7cf53, Cond.instanceMethod yJ0_indexOf_7cf53, Cond.selects RJ0 yJ0_indexOf_7cf53 yJ0_indexOf_7cf53, Cond.code yJ0_indexOf_7cf53 cJ0_indexOf_7cf53 3 (some .int), Cond.fieldLink RJ0 9 "java/lang/String" "value" "[B", Cond.methodLink RJ0 492 yJ0_isLatin1_aae02, Cond.instanceMethod yJ0_isLatin1_aae02]
def wsL_law_r10 : List Cond := [Cond.selects RJ0 yJ0_isLatin1_aae02 yJ0_isLatin1_aae02, Cond.code yJ0_isLatin1_aae02 cJ0_isLatin1_aae02 1 (some .boolean), Cond.fieldLink RJ0 38 "java/lang/String" "COMPACT_STRINGS" "Z", Cond.fieldLink RJ0 15 "java/lang/String" "coder" "B", Cond.methodLink RJ0 505 yJ0_length_8abf5, Cond.instanceMethod yJ0_length_8abf5, Cond.selects RJ0 yJ0_length_8abf5 yJ0_length_8abf5, Cond.code yJ0_length_8abf5 cJ0_length_8abf5 1 (some .int), Cond.methodLink RJ0 335 yJ0_coder_7d493, Cond.instanceMethod yJ0_coder_7d493, Cond.selects RJ0 yJ0_coder_7d493 yJ0_coder_7d493, Cond.code yJ0_coder_7d493 cJ0_coder_7d493 1 (some .byte), Cond.methodLink RJ0 637 yJ1_indexOf_4cfef, Cond.static yJ1_indexOf_4cfef, Cond.initialized RJ1, Cond.code yJ1_indexOf_4cfef cJ1_indexOf_4cfef 4 (some .int), Cond.methodLink RJ1 92 Lib.Math.max.name, Cond.static Lib.Math.max.name, Cond.initialized "java/lang/Math", Cond.code Lib.Math.max.name Lib.Math.max.code 2 (some .int), Cond.methodLink RJ1 38 Lib.Math.min.name, Cond.static Lib.Math.min.name, Cond.code Lib.Math.min.name Lib.Math.min.code 2 (some .int), Cond.methodLink RJ1 88 yJ1_canEncode_9a6ad]
def wsL_law_r11 : List Cond := [Cond.static yJ1_canEncode_9a6ad, Cond.code yJ1_canEncode_9a6ad cJ1_canEncode_9a6ad 1 (some .boolean), Cond.methodLink RJ1 95 yJ1_indexOfChar_4cfef, Cond.static yJ1_indexOfChar_4cfef, Cond.code yJ1_indexOfChar_4cfef cJ1_indexOfChar_4cfef 6 (some .int), Cond.methodLink RJ0 640 yJ2_indexOf_4cfef, Cond.static yJ2_indexOf_4cfef, Cond.initialized RJ2, Cond.code yJ2_indexOf_4cfef cJ2_indexOf_4cfef 4 (some .int), Cond.methodLink RJ2 224 Lib.Math.max.name, Cond.methodLink RJ2 183 Lib.Math.min.name, Cond.constant RJ2 227 (65536), Cond.methodLink RJ2 228 yJ2_indexOfChar_4cfef, Cond.static yJ2_indexOfChar_4cfef, Cond.code yJ2_indexOfChar_4cfef cJ2_indexOfChar_4cfef 4 (some .int), Cond.methodLink RJ2 96 yJ2_checkBoundsBeginEnd_d044e, Cond.static yJ2_checkBoundsBeginEnd_d044e, Cond.code yJ2_checkBoundsBeginEnd_d044e cJ2_checkBoundsBeginEnd_d044e 3 none, Cond.methodLink RJ2 48 yJ2_length_9d52b, Cond.static yJ2_length_9d52b, Cond.code yJ2_length_9d52b cJ2_length_9d52b 1 (some .int), Cond.methodLink RJ2 241 yJ0_checkBoundsBeginEnd_23922, Cond.static yJ0_checkBoundsBeginEnd_23922, Cond.code yJ0_checkBoundsBeginEnd_23922 cJ0_checkBoundsBeginEnd_23922 3 none]
def wsL_law_r12 : List Cond := [Cond.fieldLink RJ0 1053 "jdk/internal/util/Preconditions" "SIOOBE_FORMATTER" "Ljava/util/function/BiFunction;", Cond.methodLink RJ0 1062 yJ3_checkFromToIndex_8c36e, Cond.static yJ3_checkFromToIndex_8c36e, Cond.initialized RJ3, Cond.code yJ3_checkFromToIndex_8c36e cJ3_checkFromToIndex_8c36e 4 (some .int), Cond.methodLink RJ2 244 yJ2_indexOfCharUnsafe_4cfef, Cond.static yJ2_indexOfCharUnsafe_4cfef, Cond.code yJ2_indexOfCharUnsafe_4cfef cJ2_indexOfCharUnsafe_4cfef 5 (some .int), Cond.methodLink RJ2 71 yJ2_getChar_3b067, Cond.static yJ2_getChar_3b067, Cond.code yJ2_getChar_3b067 cJ2_getChar_3b067 2 (some .char), Cond.fieldLink RJ2 44 "java/lang/StringUTF16" "$assertionsDisabled" "Z", Cond.fieldLink RJ2 59 "java/lang/StringUTF16" "HI_BYTE_SHIFT" "I", Cond.fieldLink RJ2 63 "java/lang/StringUTF16" "LO_BYTE_SHIFT" "I", Cond.methodLink RJ2 232 yJ2_indexOfSupplementary_4cfef, Cond.static yJ2_indexOfSupplementary_4cfef, Cond.code yJ2_indexOfSupplementary_4cfef cJ2_indexOfSupplementary_4cfef 7 (some .int), Cond.methodLink RJ2 164 yJ11_isValidCodePoint_9a6ad, Cond.static yJ11_isValidCodePoint_9a6ad, Cond.initialized RJ11, Cond.code yJ11_isValidCodePoint_9a6ad cJ11_isValidCodePoint_9a6ad 2 (some .boolean), Cond.methodLink RJ2 157 yJ11_highSurrogate_5068e, Cond.static yJ11_highSurrogate_5068e, Cond.code yJ11_highSurrogate_5068e cJ11_highSurrogate_5068e 1 (some .char)]
def wsL_law_r13 : List Cond := [Cond.constant RJ11 110 (55232), Cond.methodLink RJ2 161 yJ11_lowSurrogate_5068e, Cond.static yJ11_lowSurrogate_5068e, Cond.code yJ11_lowSurrogate_5068e cJ11_lowSurrogate_5068e 1 (some .char), Cond.constant RJ11 76 (56320), Cond.methodLink RX5 84 yX4_layAll, Cond.instanceMethod yX4_layAll, Cond.selects RX4 yX4_layAll yX4_layAll, Cond.code yX4_layAll cX4_layAll 3 none, Cond.fieldLink RX4 78 "DippedWaves$Dippers" "many" "I", Cond.fieldLink RX4 81 "DippedWaves$Probes" "many" "I", Cond.methodLink RX4 72 yX2_floorOf, Cond.instanceMethod yX2_floorOf, Cond.selects RX2 yX2_floorOf yX2_floorOf, Cond.code yX2_floorOf cX2_floorOf 2 (some .int), Cond.methodLink RX4 82 yX4_calm, Cond.instanceMethod yX4_calm, Cond.selects RX4 yX4_calm yX4_calm, Cond.code yX4_calm cX4_calm 1 none, Cond.methodLink RX4 85 yX3_forget, Cond.instanceMethod yX3_forget, Cond.selects RX3 yX3_forget yX3_forget, Cond.code yX3_forget cX3_forget 1 none, Cond.methodLink RX3 33 yJ7_fill_53178]
def wsL_law_r14 : List Cond := [Cond.methodLink RX5 92 yX4_openCells, Cond.instanceMethod yX4_openCells, Cond.selects RX4 yX4_openCells yX4_openCells, Cond.code yX4_openCells cX4_openCells 3 (some .int), Cond.methodLink RL 27 yX6_read, Cond.instanceMethod yX6_read, Cond.selects RX6 yX6_read yX6_read, Cond.code yX6_read cX6_read 2 (some .int), Cond.fieldLink RX6 79 "DippedWavesModel" "typed" "I", Cond.methodLink RX6 69 yX6_readPad, Cond.instanceMethod yX6_readPad, Cond.selects RX6 yX6_readPad yX6_readPad, Cond.code yX6_readPad cX6_readPad 3 (some .int), Cond.methodLink RX6 73 yX6_floorOf, Cond.static yX6_floorOf, Cond.code yX6_floorOf cX6_floorOf 1 (some .int), Cond.methodLink RX6 76 yX6_calm, Cond.instanceMethod yX6_calm, Cond.selects RX6 yX6_calm yX6_calm, Cond.code yX6_calm cX6_calm 2 none, Cond.methodLink RX6 82 yX6_water, Cond.instanceMethod yX6_water, Cond.selects RX6 yX6_water yX6_water, Cond.code yX6_water cX6_water 3 (some .int)]
def wsL_law_r15 : List Cond := [Cond.methodLink RX6 65 yX6_isWall, Cond.instanceMethod yX6_isWall, Cond.selects RX6 yX6_isWall yX6_isWall, Cond.code yX6_isWall cX6_isWall 2 (some .boolean), Cond.methodLink RL 28 yX5_clear, Cond.instanceMethod yX5_clear, Cond.selects RX5 yX5_clear yX5_clear, Cond.code yX5_clear cX5_clear 2 (some .int), Cond.methodLink RX5 95 yX4_loudness, Cond.instanceMethod yX4_loudness, Cond.selects RX4 yX4_loudness yX4_loudness, Cond.code yX4_loudness cX4_loudness 3 (some .int), Cond.methodLink RX4 110 yX4_loudnessOf, Cond.instanceMethod yX4_loudnessOf, Cond.selects RX4 yX4_loudnessOf yX4_loudnessOf, Cond.code yX4_loudnessOf cX4_loudnessOf 2 (some .int), Cond.methodLink RX4 124 Lib.Math.abs.name, Cond.static Lib.Math.abs.name, Cond.code Lib.Math.abs.name Lib.Math.abs.code 1 (some .int), Cond.methodLink RX5 98 yX4_calm, Cond.methodLink RL 31 yX6_clear, Cond.instanceMethod yX6_clear, Cond.selects RX6 yX6_clear yX6_clear, Cond.code yX6_clear cX6_clear 4 (some .int)]
def wsL_law_r16 : List Cond := [Cond.methodLink RX6 91 yX6_allSizes, Cond.instanceMethod yX6_allSizes, Cond.selects RX6 yX6_allSizes yX6_allSizes, Cond.code yX6_allSizes cX6_allSizes 3 (some .int), Cond.methodLink RX6 85 yX6_now, Cond.instanceMethod yX6_now, Cond.selects RX6 yX6_now yX6_now, Cond.code yX6_now cX6_now 2 (some .int), Cond.methodLink RX6 88 yX6_size, Cond.static yX6_size, Cond.code yX6_size cX6_size 1 (some .int), Cond.methodLink RL 32 yX5_dip, Cond.instanceMethod yX5_dip, Cond.selects RX5 yX5_dip yX5_dip, Cond.code yX5_dip cX5_dip 7 (some .int), Cond.fieldLink RX5 105 "DippedWaves$Dippers" "many" "I", Cond.methodLink RX5 108 yX0_append, Cond.instanceMethod yX0_append, Cond.selects RX0 yX0_append yX0_append, Cond.code yX0_append cX0_append 5 (some .int), Cond.methodLink RL 36 yX6_dip, Cond.instanceMethod yX6_dip, Cond.selects RX6 yX6_dip yX6_dip, Cond.code yX6_dip cX6_dip 7 (some .int)]
def wsL_law_r17 : List Cond := [Cond.methodLink RL 37 yX5_takeOut, Cond.instanceMethod yX5_takeOut, Cond.selects RX5 yX5_takeOut yX5_takeOut, Cond.code yX5_takeOut cX5_takeOut 2 (some .int), Cond.methodLink RX5 112 yX5_isDipper, Cond.instanceMethod yX5_isDipper, Cond.selects RX5 yX5_isDipper yX5_isDipper, Cond.code yX5_isDipper cX5_isDipper 2 (some .boolean), Cond.methodLink RX5 116 yX0_remove, Cond.instanceMethod yX0_remove, Cond.selects RX0 yX0_remove yX0_remove, Cond.code yX0_remove cX0_remove 3 none, Cond.methodLink RL 41 yX6_takeOut, Cond.instanceMethod yX6_takeOut, Cond.selects RX6 yX6_takeOut yX6_takeOut, Cond.code yX6_takeOut cX6_takeOut 3 (some .int), Cond.methodLink RX6 94 yX6_isDipper, Cond.instanceMethod yX6_isDipper, Cond.selects RX6 yX6_isDipper yX6_isDipper, Cond.code yX6_isDipper cX6_isDipper 2 (some .boolean), Cond.methodLink RL 42 yX5_drop, Cond.instanceMethod yX5_drop, Cond.selects RX5 yX5_drop yX5_drop, Cond.code yX5_drop cX5_drop 5 (some .int)]
def wsL_law_r18 : List Cond := [Cond.fieldLink RX5 120 "DippedWaves$Tank" "heights" "[I", Cond.methodLink RX5 123 yX5_bounded, Cond.static yX5_bounded, Cond.code yX5_bounded cX5_bounded 1 (some .int), Cond.methodLink RX5 224 Lib.Math.min.name, Cond.methodLink RX5 229 Lib.Math.max.name, Cond.methodLink RL 45 yX6_drop, Cond.instanceMethod yX6_drop, Cond.selects RX6 yX6_drop yX6_drop, Cond.code yX6_drop cX6_drop 5 (some .int), Cond.methodLink RX6 97 yX6_kept, Cond.static yX6_kept, Cond.code yX6_kept cX6_kept 1 (some .int), Cond.methodLink RL 46 yX5_probe, Cond.instanceMethod yX5_probe, Cond.selects RX5 yX5_probe yX5_probe, Cond.code yX5_probe cX5_probe 3 (some .int), Cond.fieldLink RX5 126 "DippedWaves$Tank" "probes" "LDippedWaves$Probes;", Cond.fieldLink RX5 130 "DippedWaves$Probes" "many" "I", Cond.methodLink RX5 133 yX3_append, Cond.instanceMethod yX3_append, Cond.selects RX3 yX3_append yX3_append, Cond.code yX3_append cX3_append 2 (some .int), Cond.methodLink RL 49 yX6_probe]
def wsL_law_r19 : List Cond := [Cond.instanceMethod yX6_probe, Cond.selects RX6 yX6_probe yX6_probe, Cond.code yX6_probe cX6_probe 4 (some .int), Cond.methodLink RL 50 yX5_pass, Cond.instanceMethod yX5_pass, Cond.selects RX5 yX5_pass yX5_pass, Cond.code yX5_pass cX5_pass 2 (some .int), Cond.fieldLink RX5 135 "DippedWaves$Tank" "tick" "I", Cond.constant RX5 138 (100000), Cond.methodLink RX5 139 yX4_run, Cond.instanceMethod yX4_run, Cond.selects RX4 yX4_run yX4_run, Cond.code yX4_run cX4_run 3 none, Cond.methodLink RX4 88 yX4_step, Cond.instanceMethod yX4_step, Cond.selects RX4 yX4_step yX4_step, Cond.code yX4_step cX4_step 3 none, Cond.methodLink RX4 91 yX4_nextHeight, Cond.instanceMethod yX4_nextHeight, Cond.selects RX4 yX4_nextHeight yX4_nextHeight, Cond.code yX4_nextHeight cX4_nextHeight 5 (some .int), Cond.methodLink RX4 104 yX4_slopeAt, Cond.instanceMethod yX4_slopeAt, Cond.selects RX4 yX4_slopeAt yX4_slopeAt]
def wsL_law_r20 : List Cond := [Cond.code yX4_slopeAt cX4_slopeAt 5 (some .int), Cond.methodLink RX4 113 yX4_rise, Cond.instanceMethod yX4_rise, Cond.selects RX4 yX4_rise yX4_rise, Cond.code yX4_rise cX4_rise 3 (some .int), Cond.methodLink RX4 94 yX0_beat, Cond.instanceMethod yX0_beat, Cond.selects RX0 yX0_beat yX0_beat, Cond.code yX0_beat cX0_beat 4 none, Cond.methodLink RX0 34 yX0_isUp, Cond.instanceMethod yX0_isUp, Cond.selects RX0 yX0_isUp yX0_isUp, Cond.code yX0_isUp cX0_isUp 4 (some .boolean), Cond.methodLink RX4 97 yX4_keepFirsts, Cond.instanceMethod yX4_keepFirsts, Cond.selects RX4 yX4_keepFirsts yX4_keepFirsts, Cond.code yX4_keepFirsts cX4_keepFirsts 2 none, Cond.methodLink RX4 100 yX3_look, Cond.instanceMethod yX3_look, Cond.selects RX3 yX3_look yX3_look, Cond.code yX3_look cX3_look 3 none, Cond.methodLink RX3 39 Lib.Math.min.name, Cond.methodLink RX5 142 yX4_restlessCells, Cond.instanceMethod yX4_restlessCells]
def wsL_law_r21 : List Cond := [Cond.selects RX4 yX4_restlessCells yX4_restlessCells, Cond.code yX4_restlessCells cX4_restlessCells 3 (some .int), Cond.methodLink RX4 132 yX4_isStill, Cond.instanceMethod yX4_isStill, Cond.selects RX4 yX4_isStill yX4_isStill, Cond.code yX4_isStill cX4_isStill 2 (some .boolean), Cond.methodLink RL 53 yX6_pass, Cond.instanceMethod yX6_pass, Cond.selects RX6 yX6_pass yX6_pass, Cond.code yX6_pass cX6_pass 2 (some .int), Cond.constant RX6 123 (100000), Cond.methodLink RX6 124 yX6_ticks, Cond.instanceMethod yX6_ticks, Cond.selects RX6 yX6_ticks yX6_ticks, Cond.code yX6_ticks cX6_ticks 3 none, Cond.methodLink RX6 120 yX6_tick, Cond.instanceMethod yX6_tick, Cond.selects RX6 yX6_tick yX6_tick, Cond.code yX6_tick cX6_tick 2 none, Cond.methodLink RX6 110 yX6_heightThen, Cond.instanceMethod yX6_heightThen, Cond.selects RX6 yX6_heightThen yX6_heightThen, Cond.code yX6_heightThen cX6_heightThen 5 (some .int), Cond.methodLink RX6 104 yX6_isUp]
def wsL_law_r22 : List Cond := [Cond.instanceMethod yX6_isUp, Cond.selects RX6 yX6_isUp yX6_isUp, Cond.code yX6_isUp cX6_isUp 2 (some .boolean), Cond.methodLink RX6 107 yX6_slope, Cond.instanceMethod yX6_slope, Cond.selects RX6 yX6_slope yX6_slope, Cond.code yX6_slope cX6_slope 4 (some .int), Cond.methodLink RX6 100 yX6_from, Cond.instanceMethod yX6_from, Cond.selects RX6 yX6_from yX6_from, Cond.code yX6_from cX6_from 4 (some .int), Cond.methodLink RX6 113 yX6_see, Cond.instanceMethod yX6_see, Cond.selects RX6 yX6_see yX6_see, Cond.code yX6_see cX6_see 4 none, Cond.methodLink RX6 127 yX6_stillOnes, Cond.instanceMethod yX6_stillOnes, Cond.selects RX6 yX6_stillOnes yX6_stillOnes, Cond.code yX6_stillOnes cX6_stillOnes 3 (some .int), Cond.methodLink RX6 117 yX6_isStill, Cond.instanceMethod yX6_isStill, Cond.selects RX6 yX6_isStill yX6_isStill, Cond.code yX6_isStill cX6_isStill 2 (some .boolean), Cond.methodLink RL 54 yX5_cell]
def wsL_law_r23 : List Cond := [Cond.instanceMethod yX5_cell, Cond.selects RX5 yX5_cell yX5_cell, Cond.code yX5_cell cX5_cell 5 (some .int), Cond.fieldLink RX5 145 "DippedWaves$Tank" "ahead" "[I", Cond.fieldLink RX5 154 "DippedWaves$Tank" "firsts" "[I", Cond.methodLink RX5 148 yX4_slopeAt, Cond.methodLink RX5 151 yX4_isStill, Cond.methodLink RL 57 yX6_cell, Cond.instanceMethod yX6_cell, Cond.selects RX6 yX6_cell yX6_cell, Cond.code yX6_cell cX6_cell 5 (some .int), Cond.methodLink RL 58 yX5_dipper, Cond.instanceMethod yX5_dipper, Cond.selects RX5 yX5_dipper yX5_dipper, Cond.code yX5_dipper cX5_dipper 4 (some .int), Cond.fieldLink RX5 157 "DippedWaves$Dippers" "cells" "[I", Cond.fieldLink RX5 160 "DippedWaves$Dippers" "periods" "[I", Cond.fieldLink RX5 163 "DippedWaves$Dippers" "sizes" "[I", Cond.fieldLink RX5 166 "DippedWaves$Dippers" "shifts" "[I", Cond.methodLink RX5 169 yX0_isUp, Cond.methodLink RL 61 yX6_dipper, Cond.instanceMethod yX6_dipper, Cond.selects RX6 yX6_dipper yX6_dipper, Cond.code yX6_dipper cX6_dipper 3 (some .int)]
def wsL_law_r24 : List Cond := [Cond.methodLink RL 62 yX5_ofProbe, Cond.instanceMethod yX5_ofProbe, Cond.selects RX5 yX5_ofProbe yX5_ofProbe, Cond.code yX5_ofProbe cX5_ofProbe 4 (some .int), Cond.fieldLink RX5 175 "DippedWaves$Probes" "cells" "[I", Cond.fieldLink RX5 176 "DippedWaves$Probes" "lengths" "[I", Cond.methodLink RX5 172 yX5_isProbe, Cond.instanceMethod yX5_isProbe, Cond.selects RX5 yX5_isProbe yX5_isProbe, Cond.code yX5_isProbe cX5_isProbe 2 (some .boolean), Cond.methodLink RX5 179 yX3_beatOf, Cond.instanceMethod yX3_beatOf, Cond.selects RX3 yX3_beatOf yX3_beatOf, Cond.code yX3_beatOf cX3_beatOf 6 (some .int), Cond.methodLink RX3 48 yX3_differences, Cond.instanceMethod yX3_differences, Cond.selects RX3 yX3_differences yX3_differences, Cond.code yX3_differences cX3_differences 5 (some .int), Cond.methodLink RX3 51 Lib.Math.abs.name, Cond.methodLink RX5 182 yX3_greatestOf, Cond.instanceMethod yX3_greatestOf, Cond.selects RX3 yX3_greatestOf yX3_greatestOf, Cond.code yX3_greatestOf cX3_greatestOf 4 (some .int), Cond.methodLink RX3 45 Lib.Math.max.name]
def wsL_law_r25 : List Cond := [Cond.methodLink RL 65 yX6_ofProbe, Cond.instanceMethod yX6_ofProbe, Cond.selects RX6 yX6_ofProbe yX6_ofProbe, Cond.code yX6_ofProbe cX6_ofProbe 4 (some .int), Cond.methodLink RX6 136 yX6_isProbe, Cond.instanceMethod yX6_isProbe, Cond.selects RX6 yX6_isProbe yX6_isProbe, Cond.code yX6_isProbe cX6_isProbe 2 (some .boolean), Cond.methodLink RX6 130 yX6_seenMany, Cond.instanceMethod yX6_seenMany, Cond.selects RX6 yX6_seenMany yX6_seenMany, Cond.code yX6_seenMany cX6_seenMany 2 (some .int), Cond.methodLink RX6 139 yX6_beat, Cond.instanceMethod yX6_beat, Cond.selects RX6 yX6_beat yX6_beat, Cond.code yX6_beat cX6_beat 7 (some .int), Cond.methodLink RX6 133 yX6_seenBy, Cond.instanceMethod yX6_seenBy, Cond.selects RX6 yX6_seenBy yX6_seenBy, Cond.code yX6_seenBy cX6_seenBy 3 (some .int), Cond.methodLink RX6 142 yX6_greatestSeen, Cond.instanceMethod yX6_greatestSeen, Cond.selects RX6 yX6_greatestSeen yX6_greatestSeen, Cond.code yX6_greatestSeen cX6_greatestSeen 5 (some .int)]
def wsL_law_r26 : List Cond := [Cond.methodLink RL 66 yX5_seen, Cond.instanceMethod yX5_seen, Cond.selects RX5 yX5_seen yX5_seen, Cond.code yX5_seen cX5_seen 3 (some .int), Cond.fieldLink RX5 185 "DippedWaves$Probes" "heights" "[[I", Cond.methodLink RL 69 yX6_seen, Cond.instanceMethod yX6_seen, Cond.selects RX6 yX6_seen yX6_seen, Cond.code yX6_seen cX6_seen 3 (some .int), Cond.methodLink RL 70 yX5_count, Cond.instanceMethod yX5_count, Cond.selects RX5 yX5_count yX5_count, Cond.code yX5_count cX5_count 2 (some .int), Cond.constant RX5 191 (1000000), Cond.fieldLink RX5 201 "DippedWaves$History" "many" "I", Cond.methodLink RX5 188 yX4_sum, Cond.instanceMethod yX4_sum, Cond.selects RX4 yX4_sum yX4_sum, Cond.code yX4_sum cX4_sum 3 (some .int), Cond.methodLink RX5 192 yX4_loudestCell, Cond.instanceMethod yX4_loudestCell, Cond.selects RX4 yX4_loudestCell yX4_loudestCell, Cond.code yX4_loudestCell cX4_loudestCell 3 (some .int), Cond.methodLink RX5 195 yX4_loudnessOf]
def wsL_law_r27 : List Cond := [Cond.methodLink RX5 198 yX4_reachedCells, Cond.instanceMethod yX4_reachedCells, Cond.selects RX4 yX4_reachedCells yX4_reachedCells, Cond.code yX4_reachedCells cX4_reachedCells 3 (some .int), Cond.methodLink RL 73 yX6_count, Cond.instanceMethod yX6_count, Cond.selects RX6 yX6_count yX6_count, Cond.code yX6_count cX6_count 2 (some .int), Cond.constant RX6 148 (1000000), Cond.methodLink RX6 145 yX6_sum, Cond.instanceMethod yX6_sum, Cond.selects RX6 yX6_sum yX6_sum, Cond.code yX6_sum cX6_sum 3 (some .int), Cond.methodLink RX6 149 yX6_greatest, Cond.instanceMethod yX6_greatest, Cond.selects RX6 yX6_greatest yX6_greatest, Cond.code yX6_greatest cX6_greatest 3 (some .int), Cond.methodLink RX6 152 yX6_come, Cond.instanceMethod yX6_come, Cond.selects RX6 yX6_come yX6_come, Cond.code yX6_come cX6_come 3 (some .int), Cond.methodLink RL 74 yX5_loudest, Cond.instanceMethod yX5_loudest, Cond.selects RX5 yX5_loudest yX5_loudest]
def wsL_law_r28 : List Cond := [Cond.code yX5_loudest cX5_loudest 3 (some .int), Cond.methodLink RL 77 yX6_loudest, Cond.instanceMethod yX6_loudest, Cond.selects RX6 yX6_loudest yX6_loudest, Cond.code yX6_loudest cX6_loudest 4 (some .int), Cond.methodLink RL 78 yX5_crests, Cond.instanceMethod yX5_crests, Cond.selects RX5 yX5_crests yX5_crests, Cond.code yX5_crests cX5_crests 4 (some .int), Cond.methodLink RX5 202 yX4_isCrest, Cond.instanceMethod yX4_isCrest, Cond.selects RX4 yX4_isCrest yX4_isCrest, Cond.code yX4_isCrest cX4_isCrest 4 (some .boolean), Cond.methodLink RX4 129 yX4_heightAt, Cond.instanceMethod yX4_heightAt, Cond.selects RX4 yX4_heightAt yX4_heightAt, Cond.code yX4_heightAt cX4_heightAt 3 (some .int), Cond.methodLink RL 81 yX6_crests, Cond.instanceMethod yX6_crests, Cond.selects RX6 yX6_crests yX6_crests, Cond.code yX6_crests cX6_crests 5 (some .int), Cond.methodLink RX6 155 yX6_heightAt, Cond.instanceMethod yX6_heightAt, Cond.selects RX6 yX6_heightAt yX6_heightAt]
def wsL_law_r29 : List Cond := [Cond.code yX6_heightAt cX6_heightAt 3 (some .int), Cond.methodLink RL 82 yX5_ifPassed, Cond.instanceMethod yX5_ifPassed, Cond.selects RX5 yX5_ifPassed yX5_ifPassed, Cond.code yX5_ifPassed cX5_ifPassed 4 (some .int), Cond.methodLink RX5 205 yX4_become, Cond.methodLink RL 85 yX6_ifPassed, Cond.instanceMethod yX6_ifPassed, Cond.selects RX6 yX6_ifPassed yX6_ifPassed, Cond.code yX6_ifPassed cX6_ifPassed 5 (some .int), Cond.methodLink RX6 158 yX6_putAside, Cond.instanceMethod yX6_putAside, Cond.selects RX6 yX6_putAside yX6_putAside, Cond.code yX6_putAside cX6_putAside 2 none, Cond.methodLink RX6 161 yX6_bringBack, Cond.instanceMethod yX6_bringBack, Cond.selects RX6 yX6_bringBack yX6_bringBack, Cond.code yX6_bringBack cX6_bringBack 2 none, Cond.methodLink RL 86 yX5_comes, Cond.instanceMethod yX5_comes, Cond.selects RX5 yX5_comes yX5_comes, Cond.code yX5_comes cX5_comes 5 (some .int), Cond.methodLink RX5 208 yX4_step, Cond.methodLink RL 89 yX6_comes]
def wsL_law_r30 : List Cond := [Cond.instanceMethod yX6_comes, Cond.selects RX6 yX6_comes yX6_comes, Cond.code yX6_comes cX6_comes 6 (some .int), Cond.methodLink RL 90 yX5_hush, Cond.instanceMethod yX5_hush, Cond.selects RX5 yX5_hush yX5_hush, Cond.code yX5_hush cX5_hush 11 (some .int), Cond.methodLink RX5 211 yX5_loudnessWith, Cond.instanceMethod yX5_loudnessWith, Cond.selects RX5 yX5_loudnessWith yX5_loudnessWith, Cond.code yX5_loudnessWith cX5_loudnessWith 5 (some .int), Cond.methodLink RL 93 yX6_hush, Cond.instanceMethod yX6_hush, Cond.selects RX6 yX6_hush yX6_hush, Cond.code yX6_hush cX6_hush 11 (some .int), Cond.methodLink RL 96 yX5_put, Cond.instanceMethod yX5_put, Cond.selects RX5 yX5_put yX5_put, Cond.code yX5_put cX5_put 4 (some .int), Cond.methodLink RX5 214 yX2_charactersIn, Cond.static yX2_charactersIn, Cond.code yX2_charactersIn cX2_charactersIn 5 (some .int), Cond.constantLong RX2 19 (255), Cond.methodLink RX5 218 yX2_append]
def wsL_law_r31 : List Cond := [Cond.instanceMethod yX2_append, Cond.selects RX2 yX2_append yX2_append, Cond.code yX2_append cX2_append 5 none, Cond.methodLink RL 100 yX6_put, Cond.instanceMethod yX6_put, Cond.selects RX6 yX6_put yX6_put, Cond.code yX6_put cX6_put 8 (some .int), Cond.constantLong RX6 164 (255), Cond.methodLink RL 101 yX5_wipe, Cond.instanceMethod yX5_wipe, Cond.selects RX5 yX5_wipe yX5_wipe, Cond.code yX5_wipe cX5_wipe 2 (some .int), Cond.methodLink RL 104 yX6_wipe, Cond.instanceMethod yX6_wipe, Cond.selects RX6 yX6_wipe yX6_wipe, Cond.code yX6_wipe cX6_wipe 2 (some .int), Cond.methodLink RL 105 yX5_fault, Cond.instanceMethod yX5_fault, Cond.selects RX5 yX5_fault yX5_fault, Cond.code yX5_fault cX5_fault 1 (some .int), Cond.methodLink RL 108 yX6_fault, Cond.instanceMethod yX6_fault, Cond.selects RX6 yX6_fault yX6_fault, Cond.code yX6_fault cX6_fault 1 (some .int)]
def wsL_law_r32 : List Cond := [Cond.methodLink RL 109 yX5_undo, Cond.instanceMethod yX5_undo, Cond.selects RX5 yX5_undo yX5_undo, Cond.code yX5_undo cX5_undo 1 (some .int), Cond.methodLink RX5 221 yX1_giveBack, Cond.instanceMethod yX1_giveBack, Cond.selects RX1 yX1_giveBack yX1_giveBack, Cond.code yX1_giveBack cX1_giveBack 2 none, Cond.methodLink RL 112 yX6_undo, Cond.instanceMethod yX6_undo, Cond.selects RX6 yX6_undo yX6_undo, Cond.code yX6_undo cX6_undo 2 (some .int), Cond.methodLink RL 113 yX5_save, Cond.instanceMethod yX5_save, Cond.selects RX5 yX5_save yX5_save, Cond.code yX5_save cX5_save 2 (some .int), Cond.methodLink RL 116 yX6_save, Cond.instanceMethod yX6_save, Cond.selects RX6 yX6_save yX6_save, Cond.code yX6_save cX6_save 3 (some .int), Cond.methodLink RL 117 yX5_restore, Cond.instanceMethod yX5_restore, Cond.selects RX5 yX5_restore yX5_restore, Cond.code yX5_restore cX5_restore 2 (some .int)]
def wsL_law_r33 : List Cond := [Cond.methodLink RL 120 yX6_restore, Cond.instanceMethod yX6_restore, Cond.selects RX6 yX6_restore yX6_restore, Cond.code yX6_restore cX6_restore 3 (some .int)]
def wsL_law : List Cond := (wsL_law_r1 ++ (wsL_law_r2 ++ (wsL_law_r3 ++ (wsL_law_r4 ++ (wsL_law_r5 ++ (wsL_law_r6 ++ (wsL_law_r7 ++ (wsL_law_r8 ++ (wsL_law_r9 ++ (wsL_law_r10 ++ (wsL_law_r11 ++ (wsL_law_r12 ++ (wsL_law_r13 ++ (wsL_law_r14 ++ (wsL_law_r15 ++ (wsL_law_r16 ++ (wsL_law_r17 ++ (wsL_law_r18 ++ (wsL_law_r19 ++ (wsL_law_r20 ++ (wsL_law_r21 ++ (wsL_law_r22 ++ (wsL_law_r23 ++ (wsL_law_r24 ++ (wsL_law_r25 ++ (wsL_law_r26 ++ (wsL_law_r27 ++ (wsL_law_r28 ++ (wsL_law_r29 ++ (wsL_law_r30 ++ (wsL_law_r31 ++ (wsL_law_r32 ++ wsL_law_r33)))))))))))))))))))))))))))))))) ++ wsX50 ++ wsX60 ++ wsX40 ++ wsX10 ++ wsX20 ++ wsX00 ++ wsX30 ++ ([] : List Cond)
abbrev vwCl : List vw_C := [(RX0, TX0, 5), (RX1, TX1, 2), (RX2, TX2, 2), (RX3, TX3, 4), (RX4, TX4, 8), (RX5, TX5, 6), (RX6, TX6, 9)]
end
section
set_option maxRecDepth 20000 in
theorem ggX0_beat_X0_isUp : GoodIn wsX0_beat wsX0_isUp := goodIn_r _ [8, 9, 10, 11, 12, 13, 14, 15] (by decide +kernel) (by decide +kernel)
set_option maxRecDepth 20000 in
theorem gX0_beat_X0_isUp : GoodIn wsX0_beat (wsV RX0 34 RX0 yX0_isUp wsX0_isUp) := goodIn_app (goodIn_of _ (by decide +kernel)) ggX0_beat_X0_isUp
set_option maxRecDepth 20000 in
theorem ggX1_init_X4_init : GoodIn wsX1_init wsX4_init := goodIn_r _ [11, 12, 2, 3, 13, 14, 15, 16, 17, 18, 19, 20, 21, 22, 23, 24, 25, 26, 27, 28, 29, 30, 31, 32, 33, 34, 35, 36, 37, 38, 39, 40, 41, 42, 43, 44, 45, 46, 47, 48, 49, 50, 51, 52, 53, 56, 57, 58, 59, 60, 61, 62, 63, 64, 65, 66, 67, 68, 69, 70, 71, 72] (by decide +kernel) (by decide +kernel)
set_option maxRecDepth 20000 in
theorem gX1_init_X4_init : GoodIn wsX1_init (wsX4_init) := ggX1_init_X4_init
set_option maxRecDepth 20000 in
theorem ggX1_keep_X1_loseOldest : GoodIn wsX1_keep wsX1_loseOldest := goodIn_r _ [7, 2, 1, 46, 47] (by decide +kernel) (by decide +kernel)
set_option maxRecDepth 20000 in
theorem gX1_keep_X1_loseOldest : GoodIn wsX1_keep (wsV RX1 22 RX1 yX1_loseOldest wsX1_loseOldest) := goodIn_app (goodIn_of _ (by decide +kernel)) ggX1_keep_X1_loseOldest
set_option maxRecDepth 20000 in
theorem ggX1_keep_X4_become : GoodIn wsX1_keep wsX4_become := goodIn_r _ [12, 13, 14, 15, 16, 17, 18, 19, 20, 21, 22, 23, 24, 25, 26, 27, 28, 29, 30, 31, 32, 33, 34, 35, 36, 37, 38, 39, 40, 41, 42, 43, 44, 45, 48, 49, 50, 51, 52, 53, 54, 55, 56, 57, 58, 59, 60, 61, 62, 63, 64] (by decide +kernel) (by decide +kernel)
set_option maxRecDepth 20000 in
theorem gX1_keep_X4_become : GoodIn wsX1_keep (wsV RX1 25 RX4 yX4_become wsX4_become) := goodIn_app (goodIn_of _ (by decide +kernel)) ggX1_keep_X4_become
set_option maxRecDepth 20000 in
theorem ggX1_giveBack_X4_become : GoodIn wsX1_giveBack wsX4_become := goodIn_r _ [7, 8, 9, 10, 11, 12, 13, 14, 15, 16, 17, 18, 19, 20, 21, 22, 23, 24, 25, 26, 27, 28, 29, 30, 31, 32, 33, 34, 35, 36, 37, 38, 39, 40, 43, 44, 45, 46, 47, 48, 49, 50, 51, 52, 53, 54, 55, 56, 57, 58, 59] (by decide +kernel) (by decide +kernel)
set_option maxRecDepth 20000 in
theorem gX1_giveBack_X4_become : GoodIn wsX1_giveBack (wsV RX1 25 RX4 yX4_become wsX4_become) := goodIn_app (goodIn_of _ (by decide +kernel)) ggX1_giveBack_X4_become
set_option maxRecDepth 20000 in
theorem ggX2_charactersIn_X5_isIn : GoodIn wsX2_charactersIn wsX5_isIn := goodIn_r _ [4] (by decide +kernel) (by decide +kernel)
set_option maxRecDepth 20000 in
theorem gX2_charactersIn_X5_isIn_n21 : GoodIn wsX2_charactersIn (wsX5_isIn) := ggX2_charactersIn_X5_isIn
set_option maxRecDepth 20000 in
theorem ggX2_firstFault_X2_canStand : GoodIn wsX2_firstFault wsX2_canStand := goodIn_r _ [6, 7, 8, 9, 10, 11, 12, 13, 14, 15, 16, 17, 18, 19, 20, 21, 22, 23, 24, 25, 26, 27, 28, 29, 30, 31, 32, 33, 34, 35, 36, 37, 38, 39, 40, 41, 42, 43, 44, 45, 46, 47, 48, 49, 50, 51, 52, 53, 54, 55, 56, 57, 58, 59, 60, 61, 62, 63, 64, 65, 66, 67, 68, 69, 70, 71, 72, 73, 74, 75, 76, 77, 78, 79, 80, 81, 82, 83, 84, 85, 86, 87, 88, 89, 90, 91, 92, 93, 94, 95] (by decide +kernel) (by decide +kernel)
set_option maxRecDepth 20000 in
theorem gX2_firstFault_X2_canStand : GoodIn wsX2_firstFault (va_wsS RX2 25 yX2_canStand wsX2_canStand) := goodIn_app (goodIn_of _ (by decide +kernel)) ggX2_firstFault_X2_canStand
set_option maxRecDepth 20000 in
theorem ggX2_canStand_J0_indexOf_0f7a4 : GoodIn wsX2_canStand wsJ0_indexOf_0f7a4 := goodIn_r _ [5, 6, 7, 8, 4, 9, 10, 11, 12, 13, 14, 15, 16, 17, 18, 19, 20, 21, 22, 23, 24, 25, 26, 27, 28, 29, 30, 31, 32, 33, 34, 35, 36, 37, 38, 39, 40, 41, 42, 43, 44, 45, 46, 47, 48, 49, 50, 51, 52, 53, 54, 55, 56, 57, 58, 59, 60, 61, 62, 63, 64, 65, 66, 67, 68, 69, 70, 71, 72, 73, 74, 75, 76, 77, 78, 79, 80, 81, 82, 83, 84, 85, 86, 87, 88, 89] (by decide +kernel) (by decide +kernel)
set_option maxRecDepth 20000 in
theorem gX2_canStand_J0_indexOf_0f7a4 : GoodIn wsX2_canStand (wsV RX2 31 RJ0 yJ0_indexOf_0f7a4 wsJ0_indexOf_0f7a4) := goodIn_app (goodIn_of _ (by decide +kernel)) ggX2_canStand_J0_indexOf_0f7a4
set_option maxRecDepth 20000 in
theorem ggX2_floorOf_J0_indexOf_0f7a4 : GoodIn wsX2_floorOf wsJ0_indexOf_0f7a4 := goodIn_r _ [6, 7, 8, 9, 5, 10, 11, 12, 13, 14, 15, 16, 17, 18, 19, 20, 21, 22, 23, 24, 25, 26, 27, 28, 29, 30, 31, 32, 33, 34, 35, 36, 37, 38, 39, 40, 41, 42, 43, 44, 45, 46, 47, 48, 49, 50, 51, 52, 53, 54, 55, 56, 57, 58, 59, 60, 61, 62, 63, 64, 65, 66, 67, 68, 69, 70, 71, 72, 73, 74, 75, 76, 77, 78, 79, 80, 81, 82, 83, 84, 85, 86, 87, 88, 89, 90] (by decide +kernel) (by decide +kernel)
set_option maxRecDepth 20000 in
theorem gX2_floorOf_J0_indexOf_0f7a4 : GoodIn wsX2_floorOf (wsV RX2 31 RJ0 yJ0_indexOf_0f7a4 wsJ0_indexOf_0f7a4) := goodIn_app (goodIn_of _ (by decide +kernel)) ggX2_floorOf_J0_indexOf_0f7a4
set_option maxRecDepth 20000 in
theorem ggX3_forget_J7_fill_53178 : GoodIn wsX3_forget wsJ7_fill_53178 := goodIn_r _ [5] (by decide +kernel) (by decide +kernel)
set_option maxRecDepth 20000 in
theorem gX3_forget_J7_fill_53178 : GoodIn wsX3_forget (va_wsS RX3 33 yJ7_fill_53178 wsJ7_fill_53178) := goodIn_app (goodIn_of _ (by decide +kernel)) ggX3_forget_J7_fill_53178
set_option maxRecDepth 20000 in
theorem ggX3_beatOf_X3_differences : GoodIn wsX3_beatOf wsX3_differences := goodIn_r _ [6, 7, 8, 9, 10, 11, 12, 13, 14, 15] (by decide +kernel) (by decide +kernel)
set_option maxRecDepth 20000 in
theorem gX3_beatOf_X3_differences : GoodIn wsX3_beatOf (wsV RX3 48 RX3 yX3_differences wsX3_differences) := goodIn_app (goodIn_of _ (by decide +kernel)) ggX3_beatOf_X3_differences
set_option maxRecDepth 20000 in
theorem ggX4_init_X0_init : GoodIn wsX4_init wsX0_init := goodIn_r _ [26, 27, 2, 3, 11, 28, 29, 30, 31, 32, 53, 54, 55, 56, 57] (by decide +kernel) (by decide +kernel)
set_option maxRecDepth 20000 in
theorem gX4_init_X0_init_n37 : GoodIn wsX4_init (wsX0_init) := ggX4_init_X0_init
set_option maxRecDepth 20000 in
theorem ggX4_init_X3_init : GoodIn wsX4_init wsX3_init := goodIn_r _ [34, 35, 2, 3, 11, 36, 37, 38, 39, 40, 58, 59, 60, 61] (by decide +kernel) (by decide +kernel)
set_option maxRecDepth 20000 in
theorem gX4_init_X3_init_n44 : GoodIn wsX4_init (wsX3_init) := ggX4_init_X3_init
set_option maxRecDepth 20000 in
theorem ggX4_init_J7_fill_53178 : GoodIn wsX4_init wsJ7_fill_53178 := goodIn_r _ [44] (by decide +kernel) (by decide +kernel)
set_option maxRecDepth 20000 in
theorem gX4_init_J7_fill_53178 : GoodIn wsX4_init (va_wsS RX4 53 yJ7_fill_53178 wsJ7_fill_53178) := goodIn_app (goodIn_of _ (by decide +kernel)) ggX4_init_J7_fill_53178
set_option maxRecDepth 20000 in
theorem ggX4_become_X0_become : GoodIn wsX4_become wsX0_become := goodIn_r _ [17, 18, 19, 3, 4, 5, 20, 21, 22, 23, 42, 43, 44, 45, 46] (by decide +kernel) (by decide +kernel)
set_option maxRecDepth 20000 in
theorem gX4_become_X0_become : GoodIn wsX4_become (wsV RX4 65 RX0 yX0_become wsX0_become) := goodIn_app (goodIn_of _ (by decide +kernel)) ggX4_become_X0_become
set_option maxRecDepth 20000 in
theorem ggX4_become_X3_become : GoodIn wsX4_become wsX3_become := goodIn_r _ [28, 29, 30, 3, 4, 5, 31, 32, 33, 47, 48, 49, 50] (by decide +kernel) (by decide +kernel)
set_option maxRecDepth 20000 in
theorem gX4_become_X3_become : GoodIn wsX4_become (wsV RX4 69 RX3 yX3_become wsX3_become) := goodIn_app (goodIn_of _ (by decide +kernel)) ggX4_become_X3_become
set_option maxRecDepth 20000 in
theorem ggX4_layAll_X2_floorOf : GoodIn wsX4_layAll wsX2_floorOf := goodIn_r _ [10, 11, 12, 13, 14, 15, 16, 17, 18, 19, 20, 21, 22, 23, 24, 25, 26, 27, 28, 29, 30, 31, 32, 33, 34, 35, 36, 37, 38, 39, 40, 41, 42, 43, 44, 45, 46, 47, 48, 49, 50, 51, 52, 53, 54, 55, 56, 57, 58, 59, 60, 61, 62, 63, 64, 65, 66, 67, 68, 69, 70, 71, 72, 73, 74, 75, 76, 77, 78, 79, 80, 81, 82, 83, 84, 85, 86, 87, 88, 89, 90, 91, 92, 93, 94, 95, 96, 97, 98, 99, 100, 138, 139] (by decide +kernel) (by decide +kernel)
set_option maxRecDepth 20000 in
theorem gX4_layAll_X2_floorOf : GoodIn wsX4_layAll (wsV RX4 72 RX2 yX2_floorOf wsX2_floorOf) := goodIn_app (goodIn_of _ (by decide +kernel)) ggX4_layAll_X2_floorOf
set_option maxRecDepth 20000 in
theorem ggX4_layAll_X4_calm : GoodIn wsX4_layAll wsX4_calm := goodIn_r _ [105, 106, 107, 108, 4, 109, 110, 111, 112, 113, 114, 115, 116, 117, 118, 119, 120, 121, 122, 123, 124, 125, 126, 127, 128, 134, 135, 136, 137] (by decide +kernel) (by decide +kernel)
set_option maxRecDepth 20000 in
theorem gX4_layAll_X4_calm : GoodIn wsX4_layAll (wsV RX4 82 RX4 yX4_calm wsX4_calm) := goodIn_app (goodIn_of _ (by decide +kernel)) ggX4_layAll_X4_calm
set_option maxRecDepth 20000 in
theorem ggX4_calm_J7_fill_53178 : GoodIn wsX4_calm wsJ7_fill_53178 := goodIn_r _ [9] (by decide +kernel) (by decide +kernel)
set_option maxRecDepth 20000 in
theorem gX4_calm_J7_fill_53178 : GoodIn wsX4_calm (va_wsS RX4 53 yJ7_fill_53178 wsJ7_fill_53178) := goodIn_app (goodIn_of _ (by decide +kernel)) ggX4_calm_J7_fill_53178
set_option maxRecDepth 20000 in
theorem ggX4_calm_X3_forget : GoodIn wsX4_calm wsX3_forget := goodIn_r _ [14, 15, 16, 7, 8, 9, 25, 26, 27, 28] (by decide +kernel) (by decide +kernel)
set_option maxRecDepth 20000 in
theorem gX4_calm_X3_forget : GoodIn wsX4_calm (wsV RX4 85 RX3 yX3_forget wsX3_forget) := goodIn_app (goodIn_of _ (by decide +kernel)) ggX4_calm_X3_forget
set_option maxRecDepth 20000 in
theorem ggX4_run_X4_step : GoodIn wsX4_run wsX4_step := goodIn_r _ [5, 6, 7, 8, 9, 10, 11, 12, 13, 14, 4, 15, 16, 17, 18, 19, 20, 21, 22, 23, 24, 25, 26, 27, 28, 29, 30, 31, 32, 33, 34, 35, 36, 37, 38, 39, 40, 41, 42, 43, 44, 45, 46, 47, 48, 49, 50, 51, 52, 53, 54, 55, 56, 57, 58, 59, 60, 61, 62, 63, 64, 65, 66, 67, 68, 69, 70, 71, 72, 73, 74, 75, 76, 77, 78, 79, 80, 81, 82, 83, 84, 85, 86, 87, 88, 89, 90, 91] (by decide +kernel) (by decide +kernel)
set_option maxRecDepth 20000 in
theorem gX4_run_X4_step : GoodIn wsX4_run (wsV RX4 88 RX4 yX4_step wsX4_step) := goodIn_app (goodIn_of _ (by decide +kernel)) ggX4_run_X4_step
set_option maxRecDepth 20000 in
theorem ggX4_step_X4_nextHeight : GoodIn wsX4_step wsX4_nextHeight := goodIn_r _ [11, 2, 12, 5, 1, 13, 14, 15, 10, 16, 17, 18, 19, 20, 21, 22, 23, 24, 25, 26, 27, 28, 29, 30, 71, 72, 73, 74, 75, 76, 77, 78] (by decide +kernel) (by decide +kernel)
set_option maxRecDepth 20000 in
theorem gX4_step_X4_nextHeight : GoodIn wsX4_step (wsV RX4 91 RX4 yX4_nextHeight wsX4_nextHeight) := goodIn_app (goodIn_of _ (by decide +kernel)) ggX4_step_X4_nextHeight
set_option maxRecDepth 20000 in
theorem ggX4_step_X0_beat : GoodIn wsX4_step wsX0_beat := goodIn_r _ [35, 36, 37, 38, 39, 40, 41, 34, 42, 43, 44, 79, 80, 81, 82, 83] (by decide +kernel) (by decide +kernel)
set_option maxRecDepth 20000 in
theorem gX4_step_X0_beat : GoodIn wsX4_step (wsV RX4 94 RX0 yX0_beat wsX0_beat) := goodIn_app (goodIn_of _ (by decide +kernel)) ggX4_step_X0_beat
set_option maxRecDepth 20000 in
theorem ggX4_step_X4_keepFirsts : GoodIn wsX4_step wsX4_keepFirsts := goodIn_r _ [48, 49, 12, 4, 50, 51, 52, 10, 53, 5, 54, 55, 26, 56, 71, 72, 73, 74, 75, 76, 77, 78] (by decide +kernel) (by decide +kernel)
set_option maxRecDepth 20000 in
theorem gX4_step_X4_keepFirsts : GoodIn wsX4_step (wsV RX4 97 RX4 yX4_keepFirsts wsX4_keepFirsts) := goodIn_app (goodIn_of _ (by decide +kernel)) ggX4_step_X4_keepFirsts
set_option maxRecDepth 20000 in
theorem ggX4_step_X3_look : GoodIn wsX4_step wsX3_look := goodIn_r _ [61, 62, 63, 64, 65, 66, 67, 68, 69, 70, 25, 26, 27, 84, 85, 86, 87] (by decide +kernel) (by decide +kernel)
set_option maxRecDepth 20000 in
theorem gX4_step_X3_look : GoodIn wsX4_step (wsV RX4 100 RX3 yX3_look wsX3_look) := goodIn_app (goodIn_of _ (by decide +kernel)) ggX4_step_X3_look
set_option maxRecDepth 20000 in
theorem ggX4_nextHeight_X4_slopeAt : GoodIn wsX4_nextHeight wsX4_slopeAt := goodIn_r _ [9, 1, 10, 11, 12, 8, 13, 3, 24, 25, 26, 27, 28, 29, 30, 31] (by decide +kernel) (by decide +kernel)
set_option maxRecDepth 20000 in
theorem gX4_nextHeight_X4_slopeAt : GoodIn wsX4_nextHeight (wsV RX4 104 RX4 yX4_slopeAt wsX4_slopeAt) := goodIn_app (goodIn_of _ (by decide +kernel)) ggX4_nextHeight_X4_slopeAt
set_option maxRecDepth 20000 in
theorem ggX4_nextHeight_X5_bounded : GoodIn wsX4_nextHeight wsX5_bounded := goodIn_r _ [16, 17, 18, 19, 20, 21, 22, 23] (by decide +kernel) (by decide +kernel)
set_option maxRecDepth 20000 in
theorem gX4_nextHeight_X5_bounded_n107 : GoodIn wsX4_nextHeight (wsX5_bounded) := ggX4_nextHeight_X5_bounded
set_option maxRecDepth 20000 in
theorem ggX4_keepFirsts_X4_loudnessOf : GoodIn wsX4_keepFirsts wsX4_loudnessOf := goodIn_r _ [8, 9, 10, 11, 12, 13, 14, 15, 16, 17, 18, 19, 20, 21] (by decide +kernel) (by decide +kernel)
set_option maxRecDepth 20000 in
theorem gX4_keepFirsts_X4_loudnessOf : GoodIn wsX4_keepFirsts (wsV RX4 110 RX4 yX4_loudnessOf wsX4_loudnessOf) := goodIn_app (goodIn_of _ (by decide +kernel)) ggX4_keepFirsts_X4_loudnessOf
set_option maxRecDepth 20000 in
theorem ggX4_slopeAt_X4_rise : GoodIn wsX4_slopeAt wsX4_rise := goodIn_r _ [6, 1, 7, 8, 9, 10, 11, 12, 13, 14, 15] (by decide +kernel) (by decide +kernel)
set_option maxRecDepth 20000 in
theorem gX4_slopeAt_X4_rise : GoodIn wsX4_slopeAt (wsV RX4 113 RX4 yX4_rise wsX4_rise) := goodIn_app (goodIn_of _ (by decide +kernel)) ggX4_slopeAt_X4_rise
set_option maxRecDepth 20000 in
theorem ggX4_heightAt_X5_isCell : GoodIn wsX4_heightAt wsX5_isCell := goodIn_r _ [4, 5, 6, 3, 7] (by decide +kernel) (by decide +kernel)
set_option maxRecDepth 20000 in
theorem gX4_heightAt_X5_isCell_n117 : GoodIn wsX4_heightAt (wsX5_isCell) := ggX4_heightAt_X5_isCell
set_option maxRecDepth 20000 in
theorem ggX4_heightAt_X5_placeOf : GoodIn wsX4_heightAt wsX5_placeOf := goodIn_r _ [9] (by decide +kernel) (by decide +kernel)
set_option maxRecDepth 20000 in
theorem gX4_heightAt_X5_placeOf_n121 : GoodIn wsX4_heightAt (wsX5_placeOf) := ggX4_heightAt_X5_placeOf
set_option maxRecDepth 20000 in
theorem ggX4_isStill_X4_loudnessOf : GoodIn wsX4_isStill wsX4_loudnessOf := goodIn_r _ [11, 12, 3, 4, 5, 6, 13, 14, 15, 16, 17, 18, 19, 20] (by decide +kernel) (by decide +kernel)
set_option maxRecDepth 20000 in
theorem gX4_isStill_X4_loudnessOf : GoodIn wsX4_isStill (wsV RX4 110 RX4 yX4_loudnessOf wsX4_loudnessOf) := goodIn_app (goodIn_of _ (by decide +kernel)) ggX4_isStill_X4_loudnessOf
set_option maxRecDepth 20000 in
theorem ggX4_isCrest_X4_heightAt : GoodIn wsX4_isCrest wsX4_heightAt := goodIn_r _ [5, 6, 7, 8, 9, 10, 11, 12, 13, 14, 15, 16, 17, 18, 19, 20, 21, 22] (by decide +kernel) (by decide +kernel)
set_option maxRecDepth 20000 in
theorem gX4_isCrest_X4_heightAt : GoodIn wsX4_isCrest (wsV RX4 129 RX4 yX4_heightAt wsX4_heightAt) := goodIn_app (goodIn_of _ (by decide +kernel)) ggX4_isCrest_X4_heightAt
set_option maxRecDepth 20000 in
theorem ggX4_restlessCells_X4_isStill : GoodIn wsX4_restlessCells wsX4_isStill := goodIn_r _ [6, 7, 8, 9, 10, 11, 12, 13, 14, 15, 5, 16, 17, 18, 19, 20, 21, 22, 23, 24, 25] (by decide +kernel) (by decide +kernel)
set_option maxRecDepth 20000 in
theorem gX4_restlessCells_X4_isStill : GoodIn wsX4_restlessCells (wsV RX4 132 RX4 yX4_isStill wsX4_isStill) := goodIn_app (goodIn_of _ (by decide +kernel)) ggX4_restlessCells_X4_isStill
set_option maxRecDepth 20000 in
theorem ggX4_loudness_X4_loudnessOf : GoodIn wsX4_loudness wsX4_loudnessOf := goodIn_r _ [5, 6, 7, 8, 9, 10, 11, 12, 13, 14, 15, 16, 17, 18] (by decide +kernel) (by decide +kernel)
set_option maxRecDepth 20000 in
theorem gX4_loudness_X4_loudnessOf : GoodIn wsX4_loudness (wsV RX4 110 RX4 yX4_loudnessOf wsX4_loudnessOf) := goodIn_app (goodIn_of _ (by decide +kernel)) ggX4_loudness_X4_loudnessOf
set_option maxRecDepth 20000 in
theorem ggX4_loudestCell_X4_loudnessOf : GoodIn wsX4_loudestCell wsX4_loudnessOf := goodIn_r _ [5, 6, 7, 8, 9, 10, 11, 12, 13, 14, 15, 16, 17, 18] (by decide +kernel) (by decide +kernel)
set_option maxRecDepth 20000 in
theorem gX4_loudestCell_X4_loudnessOf : GoodIn wsX4_loudestCell (wsV RX4 110 RX4 yX4_loudnessOf wsX4_loudnessOf) := goodIn_app (goodIn_of _ (by decide +kernel)) ggX4_loudestCell_X4_loudnessOf
set_option maxRecDepth 20000 in
theorem ggX5_init_X4_init : GoodIn wsX5_init wsX4_init := goodIn_r _ [22, 23, 2, 3, 24, 25, 26, 27, 28, 29, 30, 31, 32, 33, 34, 35, 36, 37, 38, 39, 40, 41, 42, 43, 44, 45, 46, 47, 48, 49, 50, 51, 52, 53, 54, 55, 56, 57, 58, 59, 60, 61, 62, 63, 64, 79, 80, 81, 82, 83, 84, 85, 86, 97, 98, 99, 100, 101, 102, 103, 104, 105] (by decide +kernel) (by decide +kernel)
set_option maxRecDepth 20000 in
theorem gX5_init_X4_init : GoodIn wsX5_init (wsX4_init) := ggX5_init_X4_init
set_option maxRecDepth 20000 in
theorem ggX5_init_X1_init : GoodIn wsX5_init wsX1_init := goodIn_r _ [67, 68, 2, 3, 69, 70, 71, 5, 6, 72, 21, 22, 23, 24, 25, 26, 27, 28, 29, 30, 31, 32, 33, 34, 35, 36, 37, 38, 39, 40, 41, 42, 43, 44, 45, 46, 47, 48, 49, 50, 51, 52, 53, 54, 55, 56, 57, 58, 59, 60, 61, 62, 63, 64, 93, 94, 79, 80, 81, 82, 83, 84, 85, 86, 97, 98, 99, 100, 101, 102, 103, 104, 105] (by decide +kernel) (by decide +kernel)
set_option maxRecDepth 20000 in
theorem gX5_init_X1_init : GoodIn wsX5_init (wsX1_init) := ggX5_init_X1_init
set_option maxRecDepth 20000 in
theorem ggX5_init_X2_init : GoodIn wsX5_init wsX2_init := goodIn_r _ [74, 75, 2, 3, 76, 77, 78, 95, 96] (by decide +kernel) (by decide +kernel)
set_option maxRecDepth 20000 in
theorem gX5_init_X2_init_n36 : GoodIn wsX5_init (wsX2_init) := ggX5_init_X2_init
set_option maxRecDepth 20000 in
theorem ggX5_set_X1_keep : GoodIn wsX5_set wsX1_keep := goodIn_r _ [10, 11, 12, 13, 14, 15, 9, 16, 17, 18, 19, 20, 21, 22, 23, 24, 25, 26, 27, 28, 29, 30, 31, 32, 33, 34, 35, 36, 37, 38, 39, 40, 41, 42, 43, 44, 45, 46, 47, 48, 49, 50, 51, 52, 53, 54, 69, 70, 61, 62, 63, 64, 65, 66, 67, 68, 71, 72, 73, 74, 75, 76, 77, 78, 79] (by decide +kernel) (by decide +kernel)
set_option maxRecDepth 20000 in
theorem gX5_set_X1_keep : GoodIn wsX5_set (wsV RX5 48 RX1 yX1_keep wsX1_keep) := goodIn_app (goodIn_of _ (by decide +kernel)) ggX5_set_X1_keep
set_option maxRecDepth 20000 in
theorem ggX5_floor_X5_isCell : GoodIn wsX5_floor wsX5_isCell := goodIn_r _ [8, 9, 10, 7, 11] (by decide +kernel) (by decide +kernel)
set_option maxRecDepth 20000 in
theorem gX5_floor_X5_isCell : GoodIn wsX5_floor (va_wsS RX5 55 yX5_isCell wsX5_isCell) := goodIn_app (goodIn_of _ (by decide +kernel)) ggX5_floor_X5_isCell
set_option maxRecDepth 20000 in
theorem ggX5_floor_X5_placeOf : GoodIn wsX5_floor wsX5_placeOf := goodIn_r _ [14] (by decide +kernel) (by decide +kernel)
set_option maxRecDepth 20000 in
theorem gX5_floor_X5_placeOf : GoodIn wsX5_floor (va_wsS RX5 59 yX5_placeOf wsX5_placeOf) := goodIn_app (goodIn_of _ (by decide +kernel)) ggX5_floor_X5_placeOf
set_option maxRecDepth 20000 in
theorem ggX5_floor_X0_lastIn : GoodIn wsX5_floor wsX0_lastIn := goodIn_r _ [19, 20, 21, 86, 87, 88, 89, 90] (by decide +kernel) (by decide +kernel)
set_option maxRecDepth 20000 in
theorem gX5_floor_X0_lastIn : GoodIn wsX5_floor (wsV RX5 67 RX0 yX0_lastIn wsX0_lastIn) := goodIn_app (goodIn_of _ (by decide +kernel)) ggX5_floor_X0_lastIn
set_option maxRecDepth 20000 in
theorem ggX5_floor_X1_keep : GoodIn wsX5_floor wsX1_keep := goodIn_r _ [26, 27, 28, 29, 30, 31, 25, 32, 33, 34, 35, 36, 37, 38, 39, 40, 41, 42, 43, 44, 45, 46, 47, 48, 49, 50, 51, 52, 18, 53, 21, 54, 55, 56, 57, 20, 58, 59, 60, 61, 62, 63, 64, 65, 66, 67, 91, 92, 78, 79, 80, 81, 82, 83, 84, 85, 86, 87, 88, 89, 90, 93, 94, 95, 96] (by decide +kernel) (by decide +kernel)
set_option maxRecDepth 20000 in
theorem gX5_floor_X1_keep : GoodIn wsX5_floor (wsV RX5 48 RX1 yX1_keep wsX1_keep) := goodIn_app (goodIn_of _ (by decide +kernel)) ggX5_floor_X1_keep
set_option maxRecDepth 20000 in
theorem ggX5_floor_X4_lay : GoodIn wsX5_floor wsX4_lay := goodIn_r _ [71, 43, 44, 45, 78, 79, 80, 81, 82, 83, 84, 85] (by decide +kernel) (by decide +kernel)
set_option maxRecDepth 20000 in
theorem gX5_floor_X4_lay : GoodIn wsX5_floor (wsV RX5 76 RX4 yX4_lay wsX4_lay) := goodIn_app (goodIn_of _ (by decide +kernel)) ggX5_floor_X4_lay
set_option maxRecDepth 20000 in
theorem ggX5_read_X2_firstFault : GoodIn wsX5_read wsX2_firstFault := goodIn_r _ [9, 10, 11, 12, 13, 8, 14, 15, 16, 17, 18, 19, 20, 21, 22, 23, 24, 25, 26, 27, 28, 29, 30, 31, 32, 33, 34, 35, 36, 37, 38, 39, 40, 41, 42, 43, 44, 45, 46, 47, 48, 49, 50, 51, 52, 53, 54, 55, 56, 57, 58, 59, 60, 61, 62, 63, 64, 65, 66, 67, 68, 69, 70, 71, 72, 73, 74, 75, 76, 77, 78, 79, 80, 81, 82, 83, 84, 85, 86, 87, 88, 89, 90, 91, 92, 93, 94, 95, 96, 97, 98, 99, 100, 101, 102, 103, 186, 187] (by decide +kernel) (by decide +kernel)
set_option maxRecDepth 20000 in
theorem gX5_read_X2_firstFault : GoodIn wsX5_read (wsV RX5 80 RX2 yX2_firstFault wsX2_firstFault) := goodIn_app (goodIn_of _ (by decide +kernel)) ggX5_read_X2_firstFault
set_option maxRecDepth 20000 in
theorem ggX5_read_X1_keep : GoodIn wsX5_read wsX1_keep := goodIn_r _ [108, 109, 110, 111, 112, 113, 107, 114, 115, 116, 117, 118, 119, 120, 121, 122, 123, 124, 125, 126, 127, 128, 129, 130, 131, 132, 133, 134, 135, 136, 137, 138, 139, 140, 141, 142, 143, 144, 145, 146, 147, 148, 149, 150, 151, 152, 188, 189, 190, 191, 192, 193, 194, 195, 196, 197, 198, 199, 200, 201, 202, 203, 204, 205, 206] (by decide +kernel) (by decide +kernel)
set_option maxRecDepth 20000 in
theorem gX5_read_X1_keep : GoodIn wsX5_read (wsV RX5 48 RX1 yX1_keep wsX1_keep) := goodIn_app (goodIn_of _ (by decide +kernel)) ggX5_read_X1_keep
set_option maxRecDepth 20000 in
theorem ggX5_read_X4_layAll : GoodIn wsX5_read wsX4_layAll := goodIn_r _ [156, 125, 129, 157, 130, 158, 159, 160, 161, 8, 162, 11, 15, 16, 17, 18, 19, 20, 21, 22, 23, 24, 25, 26, 27, 28, 29, 30, 31, 32, 33, 34, 35, 36, 37, 38, 39, 40, 41, 42, 43, 44, 45, 46, 47, 48, 49, 50, 51, 52, 53, 54, 55, 56, 57, 58, 59, 60, 61, 62, 63, 64, 65, 66, 67, 68, 69, 70, 71, 72, 73, 74, 75, 76, 77, 78, 79, 80, 81, 82, 83, 84, 85, 86, 87, 88, 89, 90, 91, 92, 93, 94, 95, 96, 97, 98, 99, 100, 101, 102, 103, 163, 164, 165, 118, 166, 126, 127, 128, 131, 167, 168, 169, 170, 171, 172, 173, 146, 174, 150, 175, 190, 191, 192, 193, 194, 195, 196, 197, 198, 199, 200, 201, 202, 203, 204, 205, 206, 186, 187] (by decide +kernel) (by decide +kernel)
set_option maxRecDepth 20000 in
theorem gX5_read_X4_layAll : GoodIn wsX5_read (wsV RX5 84 RX4 yX4_layAll wsX4_layAll) := goodIn_app (goodIn_of _ (by decide +kernel)) ggX5_read_X4_layAll
set_option maxRecDepth 20000 in
theorem ggX5_read_X4_openCells : GoodIn wsX5_read wsX4_openCells := goodIn_r _ [179, 125, 190, 191, 192, 193, 194, 195, 196, 197] (by decide +kernel) (by decide +kernel)
set_option maxRecDepth 20000 in
theorem gX5_read_X4_openCells : GoodIn wsX5_read (wsV RX5 92 RX4 yX4_openCells wsX4_openCells) := goodIn_app (goodIn_of _ (by decide +kernel)) ggX5_read_X4_openCells
set_option maxRecDepth 20000 in
theorem ggX5_clear_X1_keep : GoodIn wsX5_clear wsX1_keep := goodIn_r _ [7, 8, 9, 10, 11, 12, 6, 13, 14, 15, 16, 17, 18, 19, 20, 21, 22, 23, 24, 25, 26, 27, 28, 29, 30, 31, 32, 33, 34, 35, 36, 37, 38, 39, 40, 41, 42, 43, 44, 45, 46, 47, 48, 49, 50, 51, 83, 84, 85, 86, 87, 88, 89, 90, 91, 92, 93, 94, 95, 96, 97, 98, 99, 100, 101] (by decide +kernel) (by decide +kernel)
set_option maxRecDepth 20000 in
theorem gX5_clear_X1_keep : GoodIn wsX5_clear (wsV RX5 48 RX1 yX1_keep wsX1_keep) := goodIn_app (goodIn_of _ (by decide +kernel)) ggX5_clear_X1_keep
set_option maxRecDepth 20000 in
theorem ggX5_clear_X4_loudness : GoodIn wsX5_clear wsX4_loudness := goodIn_r _ [55, 56, 57, 58, 17, 59, 25, 60, 61, 62, 63, 85, 86, 87, 88, 89, 90, 91, 92] (by decide +kernel) (by decide +kernel)
set_option maxRecDepth 20000 in
theorem gX5_clear_X4_loudness : GoodIn wsX5_clear (wsV RX5 95 RX4 yX4_loudness wsX4_loudness) := goodIn_app (goodIn_of _ (by decide +kernel)) ggX5_clear_X4_loudness
set_option maxRecDepth 20000 in
theorem ggX5_clear_X4_calm : GoodIn wsX5_clear wsX4_calm := goodIn_r _ [67, 25, 26, 27, 29, 30, 68, 69, 70, 71, 72, 73, 74, 45, 75, 49, 76, 85, 86, 87, 88, 89, 90, 91, 92, 98, 99, 100, 101] (by decide +kernel) (by decide +kernel)
set_option maxRecDepth 20000 in
theorem gX5_clear_X4_calm : GoodIn wsX5_clear (wsV RX5 98 RX4 yX4_calm wsX4_calm) := goodIn_app (goodIn_of _ (by decide +kernel)) ggX5_clear_X4_calm
set_option maxRecDepth 20000 in
theorem ggX5_dip_X5_isCell : GoodIn wsX5_dip wsX5_isCell := goodIn_r _ [9, 10, 11, 8, 12] (by decide +kernel) (by decide +kernel)
set_option maxRecDepth 20000 in
theorem gX5_dip_X5_isCell : GoodIn wsX5_dip (va_wsS RX5 55 yX5_isCell wsX5_isCell) := goodIn_app (goodIn_of _ (by decide +kernel)) ggX5_dip_X5_isCell
set_option maxRecDepth 20000 in
theorem ggX5_dip_X5_isIn : GoodIn wsX5_dip wsX5_isIn := goodIn_r _ [12] (by decide +kernel) (by decide +kernel)
set_option maxRecDepth 20000 in
theorem gX5_dip_X5_isIn : GoodIn wsX5_dip (va_wsS RX5 101 yX5_isIn wsX5_isIn) := goodIn_app (goodIn_of _ (by decide +kernel)) ggX5_dip_X5_isIn
set_option maxRecDepth 20000 in
theorem ggX5_dip_X5_placeOf : GoodIn wsX5_dip wsX5_placeOf := goodIn_r _ [15] (by decide +kernel) (by decide +kernel)
set_option maxRecDepth 20000 in
theorem gX5_dip_X5_placeOf : GoodIn wsX5_dip (va_wsS RX5 59 yX5_placeOf wsX5_placeOf) := goodIn_app (goodIn_of _ (by decide +kernel)) ggX5_dip_X5_placeOf
set_option maxRecDepth 20000 in
theorem ggX5_dip_X1_keep : GoodIn wsX5_dip wsX1_keep := goodIn_r _ [20, 21, 22, 23, 24, 25, 19, 26, 27, 28, 29, 30, 31, 32, 33, 34, 35, 36, 37, 38, 39, 40, 41, 42, 43, 44, 45, 46, 47, 48, 49, 50, 51, 52, 53, 54, 55, 56, 57, 58, 59, 60, 61, 62, 63, 64, 88, 89, 75, 76, 77, 78, 79, 80, 81, 82, 83, 84, 85, 86, 87, 90, 91, 92, 93] (by decide +kernel) (by decide +kernel)
set_option maxRecDepth 20000 in
theorem gX5_dip_X1_keep : GoodIn wsX5_dip (wsV RX5 48 RX1 yX1_keep wsX1_keep) := goodIn_app (goodIn_of _ (by decide +kernel)) ggX5_dip_X1_keep
set_option maxRecDepth 20000 in
theorem ggX5_dip_X0_append : GoodIn wsX5_dip wsX0_append := goodIn_r _ [68, 49, 54, 51, 52, 53, 83, 84, 85, 86, 87] (by decide +kernel) (by decide +kernel)
set_option maxRecDepth 20000 in
theorem gX5_dip_X0_append : GoodIn wsX5_dip (wsV RX5 108 RX0 yX0_append wsX0_append) := goodIn_app (goodIn_of _ (by decide +kernel)) ggX5_dip_X0_append
set_option maxRecDepth 20000 in
theorem ggX5_takeOut_X5_isDipper : GoodIn wsX5_takeOut wsX5_isDipper := goodIn_r _ [9, 2, 3, 4, 10, 11, 8, 12, 66, 67, 68, 69, 70, 71, 72, 73, 74, 75, 76, 77, 78, 79, 80, 81, 82, 83, 84] (by decide +kernel) (by decide +kernel)
set_option maxRecDepth 20000 in
theorem gX5_takeOut_X5_isDipper : GoodIn wsX5_takeOut (wsV RX5 112 RX5 yX5_isDipper wsX5_isDipper) := goodIn_app (goodIn_of _ (by decide +kernel)) ggX5_takeOut_X5_isDipper
set_option maxRecDepth 20000 in
theorem ggX5_takeOut_X1_keep : GoodIn wsX5_takeOut wsX1_keep := goodIn_r _ [17, 18, 19, 20, 21, 22, 16, 23, 24, 25, 26, 27, 28, 29, 30, 31, 32, 33, 34, 35, 36, 37, 38, 39, 40, 41, 42, 43, 44, 45, 46, 47, 48, 49, 50, 51, 52, 53, 54, 55, 56, 57, 58, 59, 60, 61, 85, 86, 72, 73, 74, 75, 76, 77, 78, 79, 80, 81, 82, 83, 84, 87, 88, 89, 90] (by decide +kernel) (by decide +kernel)
set_option maxRecDepth 20000 in
theorem gX5_takeOut_X1_keep : GoodIn wsX5_takeOut (wsV RX5 48 RX1 yX1_keep wsX1_keep) := goodIn_app (goodIn_of _ (by decide +kernel)) ggX5_takeOut_X1_keep
set_option maxRecDepth 20000 in
theorem ggX5_takeOut_X0_remove : GoodIn wsX5_takeOut wsX0_remove := goodIn_r _ [65, 51, 46, 48, 49, 50, 80, 81, 82, 83, 84] (by decide +kernel) (by decide +kernel)
set_option maxRecDepth 20000 in
theorem gX5_takeOut_X0_remove : GoodIn wsX5_takeOut (wsV RX5 116 RX0 yX0_remove wsX0_remove) := goodIn_app (goodIn_of _ (by decide +kernel)) ggX5_takeOut_X0_remove
set_option maxRecDepth 20000 in
theorem ggX5_drop_X5_isCell : GoodIn wsX5_drop wsX5_isCell := goodIn_r _ [8, 9, 10, 7, 11] (by decide +kernel) (by decide +kernel)
set_option maxRecDepth 20000 in
theorem gX5_drop_X5_isCell : GoodIn wsX5_drop (va_wsS RX5 55 yX5_isCell wsX5_isCell) := goodIn_app (goodIn_of _ (by decide +kernel)) ggX5_drop_X5_isCell
set_option maxRecDepth 20000 in
theorem ggX5_drop_X5_isIn : GoodIn wsX5_drop wsX5_isIn := goodIn_r _ [11] (by decide +kernel) (by decide +kernel)
set_option maxRecDepth 20000 in
theorem gX5_drop_X5_isIn : GoodIn wsX5_drop (va_wsS RX5 101 yX5_isIn wsX5_isIn) := goodIn_app (goodIn_of _ (by decide +kernel)) ggX5_drop_X5_isIn
set_option maxRecDepth 20000 in
theorem ggX5_drop_X5_placeOf : GoodIn wsX5_drop wsX5_placeOf := goodIn_r _ [14] (by decide +kernel) (by decide +kernel)
set_option maxRecDepth 20000 in
theorem gX5_drop_X5_placeOf : GoodIn wsX5_drop (va_wsS RX5 59 yX5_placeOf wsX5_placeOf) := goodIn_app (goodIn_of _ (by decide +kernel)) ggX5_drop_X5_placeOf
set_option maxRecDepth 20000 in
theorem ggX5_drop_X1_keep : GoodIn wsX5_drop wsX1_keep := goodIn_r _ [19, 20, 21, 22, 23, 24, 18, 25, 26, 27, 28, 29, 30, 31, 32, 33, 34, 35, 36, 37, 38, 39, 40, 41, 42, 43, 44, 45, 46, 47, 48, 49, 50, 51, 52, 53, 54, 55, 56, 57, 58, 59, 60, 61, 62, 63, 88, 89, 80, 81, 82, 83, 84, 85, 86, 87, 90, 91, 92, 93, 94, 95, 96, 97, 98] (by decide +kernel) (by decide +kernel)
set_option maxRecDepth 20000 in
theorem gX5_drop_X1_keep : GoodIn wsX5_drop (wsV RX5 48 RX1 yX1_keep wsX1_keep) := goodIn_app (goodIn_of _ (by decide +kernel)) ggX5_drop_X1_keep
set_option maxRecDepth 20000 in
theorem ggX5_drop_X5_bounded : GoodIn wsX5_drop wsX5_bounded := goodIn_r _ [66, 67, 68, 69, 70, 71, 72, 73] (by decide +kernel) (by decide +kernel)
set_option maxRecDepth 20000 in
theorem gX5_drop_X5_bounded : GoodIn wsX5_drop (va_wsS RX5 123 yX5_bounded wsX5_bounded) := goodIn_app (goodIn_of _ (by decide +kernel)) ggX5_drop_X5_bounded
set_option maxRecDepth 20000 in
theorem ggX5_probe_X5_isCell : GoodIn wsX5_probe wsX5_isCell := goodIn_r _ [8, 9, 10, 7, 11] (by decide +kernel) (by decide +kernel)
set_option maxRecDepth 20000 in
theorem gX5_probe_X5_isCell : GoodIn wsX5_probe (va_wsS RX5 55 yX5_isCell wsX5_isCell) := goodIn_app (goodIn_of _ (by decide +kernel)) ggX5_probe_X5_isCell
set_option maxRecDepth 20000 in
theorem ggX5_probe_X1_keep : GoodIn wsX5_probe wsX1_keep := goodIn_r _ [16, 17, 18, 19, 20, 21, 15, 22, 23, 24, 25, 26, 27, 28, 29, 30, 31, 32, 33, 34, 35, 36, 37, 38, 39, 40, 41, 42, 43, 44, 45, 46, 47, 48, 49, 50, 51, 52, 53, 54, 55, 56, 57, 58, 59, 60, 86, 87, 74, 75, 76, 77, 78, 79, 80, 81, 88, 89, 90, 91, 92, 82, 83, 84, 85] (by decide +kernel) (by decide +kernel)
set_option maxRecDepth 20000 in
theorem gX5_probe_X1_keep : GoodIn wsX5_probe (wsV RX5 48 RX1 yX1_keep wsX1_keep) := goodIn_app (goodIn_of _ (by decide +kernel)) ggX5_probe_X1_keep
set_option maxRecDepth 20000 in
theorem ggX5_probe_X5_placeOf : GoodIn wsX5_probe wsX5_placeOf := goodIn_r _ [63] (by decide +kernel) (by decide +kernel)
set_option maxRecDepth 20000 in
theorem gX5_probe_X5_placeOf : GoodIn wsX5_probe (va_wsS RX5 59 yX5_placeOf wsX5_placeOf) := goodIn_app (goodIn_of _ (by decide +kernel)) ggX5_probe_X5_placeOf
set_option maxRecDepth 20000 in
theorem ggX5_probe_X3_append : GoodIn wsX5_probe wsX3_append := goodIn_r _ [67, 56, 60, 58, 82, 83, 84, 85] (by decide +kernel) (by decide +kernel)
set_option maxRecDepth 20000 in
theorem gX5_probe_X3_append : GoodIn wsX5_probe (wsV RX5 133 RX3 yX3_append wsX3_append) := goodIn_app (goodIn_of _ (by decide +kernel)) ggX5_probe_X3_append
set_option maxRecDepth 20000 in
theorem ggX5_pass_X5_isIn : GoodIn wsX5_pass wsX5_isIn := goodIn_r _ [8] (by decide +kernel) (by decide +kernel)
set_option maxRecDepth 20000 in
theorem gX5_pass_X5_isIn : GoodIn wsX5_pass (va_wsS RX5 101 yX5_isIn wsX5_isIn) := goodIn_app (goodIn_of _ (by decide +kernel)) ggX5_pass_X5_isIn
set_option maxRecDepth 20000 in
theorem ggX5_pass_X1_keep : GoodIn wsX5_pass wsX1_keep := goodIn_r _ [13, 14, 15, 16, 17, 18, 12, 19, 20, 21, 22, 23, 24, 25, 26, 27, 28, 29, 30, 31, 32, 33, 34, 35, 36, 37, 38, 39, 40, 41, 42, 43, 44, 45, 46, 47, 48, 49, 50, 51, 52, 53, 54, 55, 56, 57, 133, 134, 125, 126, 127, 128, 129, 130, 131, 132, 135, 136, 137, 138, 139, 140, 141, 142, 143] (by decide +kernel) (by decide +kernel)
set_option maxRecDepth 20000 in
theorem gX5_pass_X1_keep : GoodIn wsX5_pass (wsV RX5 48 RX1 yX1_keep wsX1_keep) := goodIn_app (goodIn_of _ (by decide +kernel)) ggX5_pass_X1_keep
set_option maxRecDepth 20000 in
theorem ggX5_pass_X4_run : GoodIn wsX5_pass wsX4_run := goodIn_r _ [61, 62, 63, 64, 23, 65, 32, 30, 34, 36, 31, 35, 66, 67, 68, 69, 25, 70, 71, 72, 73, 74, 75, 76, 77, 78, 7, 79, 80, 81, 82, 83, 84, 85, 86, 87, 88, 89, 40, 90, 47, 42, 45, 91, 92, 93, 94, 44, 46, 95, 96, 97, 98, 33, 99, 100, 101, 102, 103, 104, 105, 106, 107, 108, 51, 109, 57, 56, 54, 27, 28, 29, 53, 55, 110, 125, 126, 127, 128, 129, 130, 131, 132, 135, 136, 137, 138, 139, 140, 141, 142, 143] (by decide +kernel) (by decide +kernel)
set_option maxRecDepth 20000 in
theorem gX5_pass_X4_run : GoodIn wsX5_pass (wsV RX5 139 RX4 yX4_run wsX4_run) := goodIn_app (goodIn_of _ (by decide +kernel)) ggX5_pass_X4_run
set_option maxRecDepth 20000 in
theorem ggX5_pass_X4_restlessCells : GoodIn wsX5_pass wsX4_restlessCells := goodIn_r _ [114, 30, 115, 116, 117, 23, 118, 25, 32, 103, 104, 82, 105, 99, 100, 101, 102, 31, 125, 126, 127, 128, 129, 130, 131, 132] (by decide +kernel) (by decide +kernel)
set_option maxRecDepth 20000 in
theorem gX5_pass_X4_restlessCells : GoodIn wsX5_pass (wsV RX5 142 RX4 yX4_restlessCells wsX4_restlessCells) := goodIn_app (goodIn_of _ (by decide +kernel)) ggX5_pass_X4_restlessCells
set_option maxRecDepth 20000 in
theorem ggX5_cell_X5_isCell : GoodIn wsX5_cell wsX5_isCell := goodIn_r _ [11, 12, 13, 10, 14] (by decide +kernel) (by decide +kernel)
set_option maxRecDepth 20000 in
theorem gX5_cell_X5_isCell : GoodIn wsX5_cell (va_wsS RX5 55 yX5_isCell wsX5_isCell) := goodIn_app (goodIn_of _ (by decide +kernel)) ggX5_cell_X5_isCell
set_option maxRecDepth 20000 in
theorem ggX5_cell_X5_placeOf : GoodIn wsX5_cell wsX5_placeOf := goodIn_r _ [17] (by decide +kernel) (by decide +kernel)
set_option maxRecDepth 20000 in
theorem gX5_cell_X5_placeOf : GoodIn wsX5_cell (va_wsS RX5 59 yX5_placeOf wsX5_placeOf) := goodIn_app (goodIn_of _ (by decide +kernel)) ggX5_cell_X5_placeOf
set_option maxRecDepth 20000 in
theorem ggX5_cell_X4_slopeAt : GoodIn wsX5_cell wsX4_slopeAt := goodIn_r _ [22, 23, 24, 25, 26, 21, 27, 28, 56, 57, 58, 59, 60, 61, 62, 63] (by decide +kernel) (by decide +kernel)
set_option maxRecDepth 20000 in
theorem gX5_cell_X4_slopeAt : GoodIn wsX5_cell (wsV RX5 148 RX4 yX4_slopeAt wsX4_slopeAt) := goodIn_app (goodIn_of _ (by decide +kernel)) ggX5_cell_X4_slopeAt
set_option maxRecDepth 20000 in
theorem ggX5_cell_X4_isStill : GoodIn wsX5_cell wsX4_isStill := goodIn_r _ [32, 33, 34, 35, 36, 37, 38, 39, 40, 41, 21, 42, 28, 56, 57, 58, 59, 60, 61, 62, 63] (by decide +kernel) (by decide +kernel)
set_option maxRecDepth 20000 in
theorem gX5_cell_X4_isStill : GoodIn wsX5_cell (wsV RX5 151 RX4 yX4_isStill wsX4_isStill) := goodIn_app (goodIn_of _ (by decide +kernel)) ggX5_cell_X4_isStill
set_option maxRecDepth 20000 in
theorem ggX5_cell_X0_lastIn : GoodIn wsX5_cell wsX0_lastIn := goodIn_r _ [47, 48, 49, 64, 65, 66, 67, 68] (by decide +kernel) (by decide +kernel)
set_option maxRecDepth 20000 in
theorem gX5_cell_X0_lastIn : GoodIn wsX5_cell (wsV RX5 67 RX0 yX0_lastIn wsX0_lastIn) := goodIn_app (goodIn_of _ (by decide +kernel)) ggX5_cell_X0_lastIn
set_option maxRecDepth 20000 in
theorem ggX5_dipper_X5_isDipper : GoodIn wsX5_dipper wsX5_isDipper := goodIn_r _ [12, 1, 2, 13, 14, 15, 11, 16, 24, 25, 26, 27, 28, 29, 30, 31, 32, 33, 34, 35, 36, 37, 38, 39, 40, 41, 42] (by decide +kernel) (by decide +kernel)
set_option maxRecDepth 20000 in
theorem gX5_dipper_X5_isDipper : GoodIn wsX5_dipper (wsV RX5 112 RX5 yX5_isDipper wsX5_isDipper) := goodIn_app (goodIn_of _ (by decide +kernel)) ggX5_dipper_X5_isDipper
set_option maxRecDepth 20000 in
theorem ggX5_dipper_X0_isUp : GoodIn wsX5_dipper wsX0_isUp := goodIn_r _ [21, 22, 23, 38, 39, 40, 41, 42] (by decide +kernel) (by decide +kernel)
set_option maxRecDepth 20000 in
theorem gX5_dipper_X0_isUp : GoodIn wsX5_dipper (wsV RX5 169 RX0 yX0_isUp wsX0_isUp) := goodIn_app (goodIn_of _ (by decide +kernel)) ggX5_dipper_X0_isUp
set_option maxRecDepth 20000 in
theorem ggX5_ofProbe_X5_isProbe : GoodIn wsX5_ofProbe wsX5_isProbe := goodIn_r _ [9, 1, 2, 10, 11, 12, 8, 13, 36, 37, 38, 39, 40, 41, 42, 43, 44, 45, 46, 47, 48, 49, 50, 51, 52, 53] (by decide +kernel) (by decide +kernel)
set_option maxRecDepth 20000 in
theorem gX5_ofProbe_X5_isProbe : GoodIn wsX5_ofProbe (wsV RX5 172 RX5 yX5_isProbe wsX5_isProbe) := goodIn_app (goodIn_of _ (by decide +kernel)) ggX5_ofProbe_X5_isProbe
set_option maxRecDepth 20000 in
theorem ggX5_ofProbe_X3_beatOf : GoodIn wsX5_ofProbe wsX3_beatOf := goodIn_r _ [18, 19, 20, 21, 22, 17, 23, 24, 25, 26, 27, 28, 50, 51, 52, 53] (by decide +kernel) (by decide +kernel)
set_option maxRecDepth 20000 in
theorem gX5_ofProbe_X3_beatOf : GoodIn wsX5_ofProbe (wsV RX5 179 RX3 yX3_beatOf wsX3_beatOf) := goodIn_app (goodIn_of _ (by decide +kernel)) ggX5_ofProbe_X3_beatOf
set_option maxRecDepth 20000 in
theorem ggX5_ofProbe_X3_greatestOf : GoodIn wsX5_ofProbe wsX3_greatestOf := goodIn_r _ [32, 24, 19, 33, 34, 27, 35, 50, 51, 52, 53] (by decide +kernel) (by decide +kernel)
set_option maxRecDepth 20000 in
theorem gX5_ofProbe_X3_greatestOf : GoodIn wsX5_ofProbe (wsV RX5 182 RX3 yX3_greatestOf wsX3_greatestOf) := goodIn_app (goodIn_of _ (by decide +kernel)) ggX5_ofProbe_X3_greatestOf
set_option maxRecDepth 20000 in
theorem ggX5_seen_X5_isProbe : GoodIn wsX5_seen wsX5_isProbe := goodIn_r _ [9, 1, 2, 10, 11, 12, 8, 13, 14, 15, 16, 17, 18, 19, 20, 21, 22, 23, 24, 25, 26, 27, 28, 29, 30, 31] (by decide +kernel) (by decide +kernel)
set_option maxRecDepth 20000 in
theorem gX5_seen_X5_isProbe : GoodIn wsX5_seen (wsV RX5 172 RX5 yX5_isProbe wsX5_isProbe) := goodIn_app (goodIn_of _ (by decide +kernel)) ggX5_seen_X5_isProbe
set_option maxRecDepth 20000 in
theorem ggX5_seen_X5_isIn : GoodIn wsX5_seen wsX5_isIn := goodIn_r _ [13] (by decide +kernel) (by decide +kernel)
set_option maxRecDepth 20000 in
theorem gX5_seen_X5_isIn : GoodIn wsX5_seen (va_wsS RX5 101 yX5_isIn wsX5_isIn) := goodIn_app (goodIn_of _ (by decide +kernel)) ggX5_seen_X5_isIn
end
section
set_option maxRecDepth 20000 in
theorem ggX5_count_X4_openCells : GoodIn wsX5_count wsX4_openCells := goodIn_r _ [17, 18, 62, 63, 64, 65, 66, 67, 68, 69] (by decide +kernel) (by decide +kernel)
set_option maxRecDepth 20000 in
theorem gX5_count_X4_openCells : GoodIn wsX5_count (wsV RX5 92 RX4 yX4_openCells wsX4_openCells) := goodIn_app (goodIn_of _ (by decide +kernel)) ggX5_count_X4_openCells
set_option maxRecDepth 20000 in
theorem ggX5_count_X4_restlessCells : GoodIn wsX5_count wsX4_restlessCells := goodIn_r _ [22, 18, 23, 24, 25, 16, 26, 27, 28, 29, 30, 31, 32, 33, 34, 35, 36, 37, 62, 63, 64, 65, 66, 67, 68, 69] (by decide +kernel) (by decide +kernel)
set_option maxRecDepth 20000 in
theorem gX5_count_X4_restlessCells : GoodIn wsX5_count (wsV RX5 142 RX4 yX4_restlessCells wsX4_restlessCells) := goodIn_app (goodIn_of _ (by decide +kernel)) ggX5_count_X4_restlessCells
set_option maxRecDepth 20000 in
theorem ggX5_count_X4_sum : GoodIn wsX5_count wsX4_sum := goodIn_r _ [41, 37, 62, 63, 64, 65, 66, 67, 68, 69] (by decide +kernel) (by decide +kernel)
set_option maxRecDepth 20000 in
theorem gX5_count_X4_sum : GoodIn wsX5_count (wsV RX5 188 RX4 yX4_sum wsX4_sum) := goodIn_app (goodIn_of _ (by decide +kernel)) ggX5_count_X4_sum
set_option maxRecDepth 20000 in
theorem ggX5_count_X4_loudness : GoodIn wsX5_count wsX4_loudness := goodIn_r _ [45, 33, 34, 35, 16, 36, 37, 29, 30, 31, 32, 62, 63, 64, 65, 66, 67, 68, 69] (by decide +kernel) (by decide +kernel)
set_option maxRecDepth 20000 in
theorem gX5_count_X4_loudness : GoodIn wsX5_count (wsV RX5 95 RX4 yX4_loudness wsX4_loudness) := goodIn_app (goodIn_of _ (by decide +kernel)) ggX5_count_X4_loudness
set_option maxRecDepth 20000 in
theorem ggX5_count_X4_loudestCell : GoodIn wsX5_count wsX4_loudestCell := goodIn_r _ [49, 33, 34, 35, 16, 36, 37, 29, 30, 31, 32, 62, 63, 64, 65, 66, 67, 68, 69] (by decide +kernel) (by decide +kernel)
set_option maxRecDepth 20000 in
theorem gX5_count_X4_loudestCell : GoodIn wsX5_count (wsV RX5 192 RX4 yX4_loudestCell wsX4_loudestCell) := goodIn_app (goodIn_of _ (by decide +kernel)) ggX5_count_X4_loudestCell
set_option maxRecDepth 20000 in
theorem ggX5_count_X4_loudnessOf : GoodIn wsX5_count wsX4_loudnessOf := goodIn_r _ [36, 37, 29, 30, 31, 32, 62, 63, 64, 65, 66, 67, 68, 69] (by decide +kernel) (by decide +kernel)
set_option maxRecDepth 20000 in
theorem gX5_count_X4_loudnessOf : GoodIn wsX5_count (wsV RX5 195 RX4 yX4_loudnessOf wsX4_loudnessOf) := goodIn_app (goodIn_of _ (by decide +kernel)) ggX5_count_X4_loudnessOf
set_option maxRecDepth 20000 in
theorem ggX5_count_X4_reachedCells : GoodIn wsX5_count wsX4_reachedCells := goodIn_r _ [54, 55, 62, 63, 64, 65, 66, 67, 68, 69] (by decide +kernel) (by decide +kernel)
set_option maxRecDepth 20000 in
theorem gX5_count_X4_reachedCells : GoodIn wsX5_count (wsV RX5 198 RX4 yX4_reachedCells wsX4_reachedCells) := goodIn_app (goodIn_of _ (by decide +kernel)) ggX5_count_X4_reachedCells
set_option maxRecDepth 20000 in
theorem ggX5_loudest_X5_isIn : GoodIn wsX5_loudest wsX5_isIn := goodIn_r _ [5] (by decide +kernel) (by decide +kernel)
set_option maxRecDepth 20000 in
theorem gX5_loudest_X5_isIn : GoodIn wsX5_loudest (va_wsS RX5 101 yX5_isIn wsX5_isIn) := goodIn_app (goodIn_of _ (by decide +kernel)) ggX5_loudest_X5_isIn
set_option maxRecDepth 20000 in
theorem ggX5_loudest_X4_loudestCell : GoodIn wsX5_loudest wsX4_loudestCell := goodIn_r _ [10, 11, 12, 13, 9, 14, 15, 16, 17, 18, 19, 27, 28, 29, 30, 31, 32, 33, 34] (by decide +kernel) (by decide +kernel)
set_option maxRecDepth 20000 in
theorem gX5_loudest_X4_loudestCell : GoodIn wsX5_loudest (wsV RX5 192 RX4 yX4_loudestCell wsX4_loudestCell) := goodIn_app (goodIn_of _ (by decide +kernel)) ggX5_loudest_X4_loudestCell
set_option maxRecDepth 20000 in
theorem ggX5_loudest_X4_loudnessOf : GoodIn wsX5_loudest wsX4_loudnessOf := goodIn_r _ [14, 15, 16, 17, 18, 19, 27, 28, 29, 30, 31, 32, 33, 34] (by decide +kernel) (by decide +kernel)
set_option maxRecDepth 20000 in
theorem gX5_loudest_X4_loudnessOf : GoodIn wsX5_loudest (wsV RX5 195 RX4 yX4_loudnessOf wsX4_loudnessOf) := goodIn_app (goodIn_of _ (by decide +kernel)) ggX5_loudest_X4_loudnessOf
set_option maxRecDepth 20000 in
theorem ggX5_crests_X5_isIn : GoodIn wsX5_crests wsX5_isIn := goodIn_r _ [5] (by decide +kernel) (by decide +kernel)
set_option maxRecDepth 20000 in
theorem gX5_crests_X5_isIn : GoodIn wsX5_crests (va_wsS RX5 101 yX5_isIn wsX5_isIn) := goodIn_app (goodIn_of _ (by decide +kernel)) ggX5_crests_X5_isIn
set_option maxRecDepth 20000 in
theorem ggX5_crests_X4_isCrest : GoodIn wsX5_crests wsX4_isCrest := goodIn_r _ [10, 11, 12, 13, 9, 14, 15, 16, 4, 17, 2, 3, 5, 18, 19, 26, 27, 28, 29, 30, 31, 32, 33] (by decide +kernel) (by decide +kernel)
set_option maxRecDepth 20000 in
theorem gX5_crests_X4_isCrest : GoodIn wsX5_crests (wsV RX5 202 RX4 yX4_isCrest wsX4_isCrest) := goodIn_app (goodIn_of _ (by decide +kernel)) ggX5_crests_X4_isCrest
set_option maxRecDepth 20000 in
theorem ggX5_ifPassed_X5_isCell : GoodIn wsX5_ifPassed wsX5_isCell := goodIn_r _ [7, 8, 9, 6, 10] (by decide +kernel) (by decide +kernel)
set_option maxRecDepth 20000 in
theorem gX5_ifPassed_X5_isCell : GoodIn wsX5_ifPassed (va_wsS RX5 55 yX5_isCell wsX5_isCell) := goodIn_app (goodIn_of _ (by decide +kernel)) ggX5_ifPassed_X5_isCell
set_option maxRecDepth 20000 in
theorem ggX5_ifPassed_X5_isIn : GoodIn wsX5_ifPassed wsX5_isIn := goodIn_r _ [10] (by decide +kernel) (by decide +kernel)
set_option maxRecDepth 20000 in
theorem gX5_ifPassed_X5_isIn : GoodIn wsX5_ifPassed (va_wsS RX5 101 yX5_isIn wsX5_isIn) := goodIn_app (goodIn_of _ (by decide +kernel)) ggX5_ifPassed_X5_isIn
set_option maxRecDepth 20000 in
theorem ggX5_ifPassed_X4_become : GoodIn wsX5_ifPassed wsX4_become := goodIn_r _ [15, 16, 17, 18, 19, 20, 21, 22, 23, 24, 25, 26, 27, 28, 29, 30, 31, 32, 33, 34, 35, 36, 37, 38, 39, 40, 41, 42, 43, 44, 45, 46, 47, 48, 111, 112, 113, 114, 115, 116, 117, 118, 119, 120, 121, 122, 123, 124, 125, 126, 127] (by decide +kernel) (by decide +kernel)
set_option maxRecDepth 20000 in
theorem gX5_ifPassed_X4_become : GoodIn wsX5_ifPassed (wsV RX5 205 RX4 yX4_become wsX4_become) := goodIn_app (goodIn_of _ (by decide +kernel)) ggX5_ifPassed_X4_become
set_option maxRecDepth 20000 in
theorem ggX5_ifPassed_X4_run : GoodIn wsX5_ifPassed wsX4_run := goodIn_r _ [52, 53, 54, 55, 14, 56, 23, 21, 25, 27, 22, 26, 57, 58, 59, 60, 16, 61, 62, 63, 64, 65, 66, 67, 68, 69, 6, 70, 71, 72, 73, 74, 75, 76, 77, 78, 79, 80, 31, 81, 38, 33, 36, 82, 83, 84, 85, 35, 37, 86, 87, 88, 89, 24, 90, 91, 92, 93, 94, 95, 96, 97, 98, 99, 42, 100, 48, 47, 45, 18, 19, 20, 44, 46, 101, 111, 112, 113, 114, 115, 116, 117, 118, 119, 120, 121, 122, 123, 124, 125, 126, 127] (by decide +kernel) (by decide +kernel)
set_option maxRecDepth 20000 in
theorem gX5_ifPassed_X4_run : GoodIn wsX5_ifPassed (wsV RX5 139 RX4 yX4_run wsX4_run) := goodIn_app (goodIn_of _ (by decide +kernel)) ggX5_ifPassed_X4_run
set_option maxRecDepth 20000 in
theorem ggX5_ifPassed_X5_placeOf : GoodIn wsX5_ifPassed wsX5_placeOf := goodIn_r _ [104] (by decide +kernel) (by decide +kernel)
set_option maxRecDepth 20000 in
theorem gX5_ifPassed_X5_placeOf : GoodIn wsX5_ifPassed (va_wsS RX5 59 yX5_placeOf wsX5_placeOf) := goodIn_app (goodIn_of _ (by decide +kernel)) ggX5_ifPassed_X5_placeOf
set_option maxRecDepth 20000 in
theorem ggX5_comes_X5_isCell : GoodIn wsX5_comes wsX5_isCell := goodIn_r _ [6, 7, 8, 5, 9] (by decide +kernel) (by decide +kernel)
set_option maxRecDepth 20000 in
theorem gX5_comes_X5_isCell : GoodIn wsX5_comes (va_wsS RX5 55 yX5_isCell wsX5_isCell) := goodIn_app (goodIn_of _ (by decide +kernel)) ggX5_comes_X5_isCell
set_option maxRecDepth 20000 in
theorem ggX5_comes_X5_placeOf : GoodIn wsX5_comes wsX5_placeOf := goodIn_r _ [12] (by decide +kernel) (by decide +kernel)
set_option maxRecDepth 20000 in
theorem gX5_comes_X5_placeOf : GoodIn wsX5_comes (va_wsS RX5 59 yX5_placeOf wsX5_placeOf) := goodIn_app (goodIn_of _ (by decide +kernel)) ggX5_comes_X5_placeOf
set_option maxRecDepth 20000 in
theorem ggX5_comes_X4_isStill : GoodIn wsX5_comes wsX4_isStill := goodIn_r _ [17, 18, 19, 20, 21, 22, 23, 24, 25, 26, 16, 27, 28, 110, 111, 112, 113, 114, 115, 116, 117] (by decide +kernel) (by decide +kernel)
set_option maxRecDepth 20000 in
theorem gX5_comes_X4_isStill : GoodIn wsX5_comes (wsV RX5 151 RX4 yX4_isStill wsX4_isStill) := goodIn_app (goodIn_of _ (by decide +kernel)) ggX5_comes_X4_isStill
set_option maxRecDepth 20000 in
theorem ggX5_comes_X4_become : GoodIn wsX5_comes wsX4_become := goodIn_r _ [32, 18, 33, 34, 35, 36, 37, 28, 19, 38, 39, 40, 41, 42, 43, 44, 45, 46, 47, 48, 49, 50, 51, 52, 53, 54, 55, 56, 57, 58, 59, 60, 61, 62, 110, 111, 112, 113, 114, 115, 116, 117, 118, 119, 120, 121, 122, 123, 124, 125, 126] (by decide +kernel) (by decide +kernel)
set_option maxRecDepth 20000 in
theorem gX5_comes_X4_become : GoodIn wsX5_comes (wsV RX5 205 RX4 yX4_become wsX4_become) := goodIn_app (goodIn_of _ (by decide +kernel)) ggX5_comes_X4_become
set_option maxRecDepth 20000 in
theorem ggX5_comes_X4_step : GoodIn wsX5_comes wsX4_step := goodIn_r _ [66, 19, 37, 39, 41, 28, 40, 67, 68, 69, 16, 70, 18, 71, 72, 73, 74, 75, 76, 77, 78, 79, 5, 80, 81, 82, 22, 83, 84, 85, 86, 87, 88, 89, 45, 90, 52, 47, 50, 91, 92, 93, 94, 49, 51, 95, 96, 97, 98, 38, 24, 25, 26, 27, 20, 21, 23, 99, 100, 101, 56, 102, 62, 61, 59, 34, 35, 36, 58, 60, 103, 110, 111, 112, 113, 114, 115, 116, 117, 118, 119, 120, 121, 122, 123, 124, 125, 126] (by decide +kernel) (by decide +kernel)
set_option maxRecDepth 20000 in
theorem gX5_comes_X4_step : GoodIn wsX5_comes (wsV RX5 208 RX4 yX4_step wsX4_step) := goodIn_app (goodIn_of _ (by decide +kernel)) ggX5_comes_X4_step
set_option maxRecDepth 20000 in
theorem ggX5_hush_X5_isDipper : GoodIn wsX5_hush wsX5_isDipper := goodIn_r _ [8, 1, 2, 9, 10, 11, 7, 12, 117, 118, 119, 120, 121, 122, 123, 124, 125, 126, 127, 128, 129, 130, 131, 132, 133, 134, 135] (by decide +kernel) (by decide +kernel)
set_option maxRecDepth 20000 in
theorem gX5_hush_X5_isDipper : GoodIn wsX5_hush (wsV RX5 112 RX5 yX5_isDipper wsX5_isDipper) := goodIn_app (goodIn_of _ (by decide +kernel)) ggX5_hush_X5_isDipper
set_option maxRecDepth 20000 in
theorem ggX5_hush_X5_isCell : GoodIn wsX5_hush wsX5_isCell := goodIn_r _ [15, 10, 11, 7, 12] (by decide +kernel) (by decide +kernel)
set_option maxRecDepth 20000 in
theorem gX5_hush_X5_isCell : GoodIn wsX5_hush (va_wsS RX5 55 yX5_isCell wsX5_isCell) := goodIn_app (goodIn_of _ (by decide +kernel)) ggX5_hush_X5_isCell
set_option maxRecDepth 20000 in
theorem ggX5_hush_X5_isIn : GoodIn wsX5_hush wsX5_isIn := goodIn_r _ [12] (by decide +kernel) (by decide +kernel)
set_option maxRecDepth 20000 in
theorem gX5_hush_X5_isIn : GoodIn wsX5_hush (va_wsS RX5 101 yX5_isIn wsX5_isIn) := goodIn_app (goodIn_of _ (by decide +kernel)) ggX5_hush_X5_isIn
set_option maxRecDepth 20000 in
theorem ggX5_hush_X5_placeOf : GoodIn wsX5_hush wsX5_placeOf := goodIn_r _ [18] (by decide +kernel) (by decide +kernel)
set_option maxRecDepth 20000 in
theorem gX5_hush_X5_placeOf : GoodIn wsX5_hush (va_wsS RX5 59 yX5_placeOf wsX5_placeOf) := goodIn_app (goodIn_of _ (by decide +kernel)) ggX5_hush_X5_placeOf
set_option maxRecDepth 20000 in
theorem ggX5_hush_X5_loudnessWith : GoodIn wsX5_hush wsX5_loudnessWith := goodIn_r _ [22, 23, 1, 2, 24, 25, 26, 27, 28, 29, 30, 31, 32, 33, 34, 35, 36, 37, 38, 39, 40, 41, 42, 43, 44, 45, 46, 47, 48, 49, 50, 51, 52, 53, 54, 55, 56, 57, 58, 59, 60, 61, 62, 63, 64, 65, 66, 67, 68, 69, 70, 71, 72, 73, 74, 75, 76, 77, 78, 79, 80, 81, 82, 83, 7, 84, 85, 86, 87, 88, 89, 90, 91, 92, 93, 94, 95, 96, 97, 98, 99, 100, 101, 102, 103, 104, 105, 106, 107, 108, 109, 110, 111, 112, 113, 114, 115, 116, 117, 118, 119, 120, 121, 122, 123, 124, 125, 126, 127, 128, 129, 130, 131, 132, 133, 134, 135, 136, 137, 138, 139] (by decide +kernel) (by decide +kernel)
set_option maxRecDepth 20000 in
theorem gX5_hush_X5_loudnessWith : GoodIn wsX5_hush (wsV RX5 211 RX5 yX5_loudnessWith wsX5_loudnessWith) := goodIn_app (goodIn_of _ (by decide +kernel)) ggX5_hush_X5_loudnessWith
set_option maxRecDepth 20000 in
theorem ggX5_put_X2_charactersIn : GoodIn wsX5_put wsX2_charactersIn := goodIn_r _ [6, 7, 8, 9, 10] (by decide +kernel) (by decide +kernel)
set_option maxRecDepth 20000 in
theorem gX5_put_X2_charactersIn : GoodIn wsX5_put (va_wsS RX5 214 yX2_charactersIn wsX2_charactersIn) := goodIn_app (goodIn_of _ (by decide +kernel)) ggX5_put_X2_charactersIn
set_option maxRecDepth 20000 in
theorem ggX5_put_X2_append : GoodIn wsX5_put wsX2_append := goodIn_r _ [14, 15, 16, 7, 23, 24] (by decide +kernel) (by decide +kernel)
set_option maxRecDepth 20000 in
theorem gX5_put_X2_append : GoodIn wsX5_put (wsV RX5 218 RX2 yX2_append wsX2_append) := goodIn_app (goodIn_of _ (by decide +kernel)) ggX5_put_X2_append
set_option maxRecDepth 20000 in
theorem ggX5_fault_X2_firstFault : GoodIn wsX5_fault wsX2_firstFault := goodIn_r _ [6, 7, 8, 9, 10, 5, 11, 12, 13, 14, 15, 16, 17, 18, 19, 20, 21, 22, 23, 24, 25, 26, 27, 28, 29, 30, 31, 32, 33, 34, 35, 36, 37, 38, 39, 40, 41, 42, 43, 44, 45, 46, 47, 48, 49, 50, 51, 52, 53, 54, 55, 56, 57, 58, 59, 60, 61, 62, 63, 64, 65, 66, 67, 68, 69, 70, 71, 72, 73, 74, 75, 76, 77, 78, 79, 80, 81, 82, 83, 84, 85, 86, 87, 88, 89, 90, 91, 92, 93, 94, 95, 96, 97, 98, 99, 100, 107, 108] (by decide +kernel) (by decide +kernel)
set_option maxRecDepth 20000 in
theorem gX5_fault_X2_firstFault : GoodIn wsX5_fault (wsV RX5 80 RX2 yX2_firstFault wsX2_firstFault) := goodIn_app (goodIn_of _ (by decide +kernel)) ggX5_fault_X2_firstFault
set_option maxRecDepth 20000 in
theorem ggX5_undo_X1_giveBack : GoodIn wsX5_undo wsX1_giveBack := goodIn_r _ [8, 9, 10, 11, 12, 13, 14, 15, 16, 17, 18, 19, 20, 21, 22, 23, 24, 25, 26, 27, 28, 29, 30, 31, 32, 33, 34, 35, 36, 37, 38, 39, 40, 41, 42, 43, 44, 45, 46, 47, 48, 55, 56, 57, 58, 59, 60, 61, 62, 63, 64, 65, 66, 67, 68, 69, 70, 71, 72, 73] (by decide +kernel) (by decide +kernel)
set_option maxRecDepth 20000 in
theorem gX5_undo_X1_giveBack : GoodIn wsX5_undo (wsV RX5 221 RX1 yX1_giveBack wsX1_giveBack) := goodIn_app (goodIn_of _ (by decide +kernel)) ggX5_undo_X1_giveBack
set_option maxRecDepth 20000 in
theorem ggX5_save_X5_isIn : GoodIn wsX5_save wsX5_isIn := goodIn_r _ [8] (by decide +kernel) (by decide +kernel)
set_option maxRecDepth 20000 in
theorem gX5_save_X5_isIn : GoodIn wsX5_save (va_wsS RX5 101 yX5_isIn wsX5_isIn) := goodIn_app (goodIn_of _ (by decide +kernel)) ggX5_save_X5_isIn
set_option maxRecDepth 20000 in
theorem ggX5_save_X4_become : GoodIn wsX5_save wsX4_become := goodIn_r _ [13, 14, 15, 16, 17, 18, 19, 20, 21, 22, 23, 24, 25, 26, 27, 28, 29, 30, 31, 32, 33, 34, 35, 36, 37, 38, 39, 40, 41, 42, 43, 44, 45, 46, 53, 54, 55, 56, 57, 58, 59, 60, 61, 62, 63, 64, 65, 66, 67, 68, 69] (by decide +kernel) (by decide +kernel)
set_option maxRecDepth 20000 in
theorem gX5_save_X4_become : GoodIn wsX5_save (wsV RX5 205 RX4 yX4_become wsX4_become) := goodIn_app (goodIn_of _ (by decide +kernel)) ggX5_save_X4_become
set_option maxRecDepth 20000 in
theorem ggX5_restore_X5_isIn : GoodIn wsX5_restore wsX5_isIn := goodIn_r _ [9] (by decide +kernel) (by decide +kernel)
set_option maxRecDepth 20000 in
theorem gX5_restore_X5_isIn : GoodIn wsX5_restore (va_wsS RX5 101 yX5_isIn wsX5_isIn) := goodIn_app (goodIn_of _ (by decide +kernel)) ggX5_restore_X5_isIn
set_option maxRecDepth 20000 in
theorem ggX5_restore_X1_keep : GoodIn wsX5_restore wsX1_keep := goodIn_r _ [14, 15, 16, 17, 18, 19, 13, 20, 21, 22, 23, 24, 25, 26, 27, 28, 29, 30, 31, 32, 33, 34, 35, 36, 37, 38, 39, 40, 41, 42, 43, 44, 45, 46, 47, 48, 49, 50, 51, 52, 53, 54, 55, 56, 57, 58, 74, 75, 66, 67, 68, 69, 70, 71, 72, 73, 76, 77, 78, 79, 80, 81, 82, 83, 84] (by decide +kernel) (by decide +kernel)
set_option maxRecDepth 20000 in
theorem gX5_restore_X1_keep : GoodIn wsX5_restore (wsV RX5 48 RX1 yX1_keep wsX1_keep) := goodIn_app (goodIn_of _ (by decide +kernel)) ggX5_restore_X1_keep
set_option maxRecDepth 20000 in
theorem ggX5_restore_X4_become : GoodIn wsX5_restore wsX4_become := goodIn_r _ [25, 26, 27, 28, 29, 30, 31, 32, 33, 34, 35, 36, 37, 38, 39, 40, 41, 42, 43, 44, 45, 46, 47, 48, 49, 50, 51, 52, 53, 54, 55, 56, 57, 58, 66, 67, 68, 69, 70, 71, 72, 73, 76, 77, 78, 79, 80, 81, 82, 83, 84] (by decide +kernel) (by decide +kernel)
set_option maxRecDepth 20000 in
theorem gX5_restore_X4_become : GoodIn wsX5_restore (wsV RX5 205 RX4 yX4_become wsX4_become) := goodIn_app (goodIn_of _ (by decide +kernel)) ggX5_restore_X4_become
set_option maxRecDepth 20000 in
theorem ggX5_loudnessWith_X4_become : GoodIn wsX5_loudnessWith wsX4_become := goodIn_r _ [9, 10, 11, 12, 13, 14, 15, 16, 17, 18, 19, 20, 21, 22, 23, 24, 25, 26, 27, 28, 29, 30, 31, 32, 33, 34, 35, 36, 37, 38, 39, 40, 41, 42, 104, 105, 106, 107, 108, 109, 110, 111, 112, 113, 114, 115, 116, 117, 118, 119, 120] (by decide +kernel) (by decide +kernel)
set_option maxRecDepth 20000 in
theorem gX5_loudnessWith_X4_become : GoodIn wsX5_loudnessWith (wsV RX5 205 RX4 yX4_become wsX4_become) := goodIn_app (goodIn_of _ (by decide +kernel)) ggX5_loudnessWith_X4_become
set_option maxRecDepth 20000 in
theorem ggX5_loudnessWith_X4_run : GoodIn wsX5_loudnessWith wsX4_run := goodIn_r _ [46, 47, 48, 49, 8, 50, 17, 15, 19, 21, 16, 20, 51, 52, 53, 54, 10, 55, 56, 57, 58, 59, 60, 61, 62, 63, 64, 65, 66, 67, 68, 69, 70, 71, 72, 73, 74, 75, 25, 76, 32, 27, 30, 77, 78, 79, 80, 29, 31, 81, 82, 83, 84, 18, 85, 86, 87, 88, 89, 90, 91, 92, 93, 94, 36, 95, 42, 41, 39, 12, 13, 14, 38, 40, 96, 104, 105, 106, 107, 108, 109, 110, 111, 112, 113, 114, 115, 116, 117, 118, 119, 120] (by decide +kernel) (by decide +kernel)
set_option maxRecDepth 20000 in
theorem gX5_loudnessWith_X4_run : GoodIn wsX5_loudnessWith (wsV RX5 139 RX4 yX4_run wsX4_run) := goodIn_app (goodIn_of _ (by decide +kernel)) ggX5_loudnessWith_X4_run
set_option maxRecDepth 20000 in
theorem ggX5_loudnessWith_X4_loudnessOf : GoodIn wsX5_loudnessWith wsX4_loudnessOf := goodIn_r _ [88, 16, 89, 90, 68, 91, 104, 105, 106, 107, 108, 109, 110, 111] (by decide +kernel) (by decide +kernel)
set_option maxRecDepth 20000 in
theorem gX5_loudnessWith_X4_loudnessOf : GoodIn wsX5_loudnessWith (wsV RX5 195 RX4 yX4_loudnessOf wsX4_loudnessOf) := goodIn_app (goodIn_of _ (by decide +kernel)) ggX5_loudnessWith_X4_loudnessOf
set_option maxRecDepth 20000 in
theorem ggX5_isDipper_X5_isIn : GoodIn wsX5_isDipper wsX5_isIn := goodIn_r _ [7] (by decide +kernel) (by decide +kernel)
set_option maxRecDepth 20000 in
theorem gX5_isDipper_X5_isIn : GoodIn wsX5_isDipper (va_wsS RX5 101 yX5_isIn wsX5_isIn) := goodIn_app (goodIn_of _ (by decide +kernel)) ggX5_isDipper_X5_isIn
set_option maxRecDepth 20000 in
theorem ggX5_isProbe_X5_isIn : GoodIn wsX5_isProbe wsX5_isIn := goodIn_r _ [7] (by decide +kernel) (by decide +kernel)
set_option maxRecDepth 20000 in
theorem gX5_isProbe_X5_isIn : GoodIn wsX5_isProbe (va_wsS RX5 101 yX5_isIn wsX5_isIn) := goodIn_app (goodIn_of _ (by decide +kernel)) ggX5_isProbe_X5_isIn
set_option maxRecDepth 20000 in
theorem ggX5_isCell_X5_isIn : GoodIn wsX5_isCell wsX5_isIn := goodIn_r _ [4] (by decide +kernel) (by decide +kernel)
set_option maxRecDepth 20000 in
theorem gX5_isCell_X5_isIn : GoodIn wsX5_isCell (va_wsS RX5 101 yX5_isIn wsX5_isIn) := goodIn_app (goodIn_of _ (by decide +kernel)) ggX5_isCell_X5_isIn
set_option maxRecDepth 20000 in
theorem ggX6_init_X6_forgetFirst : GoodIn wsX6_init wsX6_forgetFirst := goodIn_r _ [18, 5, 19, 20, 21, 22, 23, 24, 25, 26, 27] (by decide +kernel) (by decide +kernel)
set_option maxRecDepth 20000 in
theorem gX6_init_X6_forgetFirst : GoodIn wsX6_init (wsV RX6 33 RX6 yX6_forgetFirst wsX6_forgetFirst) := goodIn_app (goodIn_of _ (by decide +kernel)) ggX6_init_X6_forgetFirst
set_option maxRecDepth 20000 in
theorem ggX6_isCell_X6_in : GoodIn wsX6_isCell wsX6_in := goodIn_r _ [4] (by decide +kernel) (by decide +kernel)
set_option maxRecDepth 20000 in
theorem gX6_isCell_X6_in : GoodIn wsX6_isCell (va_wsS RX6 36 yX6_in wsX6_in) := goodIn_app (goodIn_of _ (by decide +kernel)) ggX6_isCell_X6_in
set_option maxRecDepth 20000 in
theorem ggX6_save_X6_in : GoodIn wsX6_save wsX6_in := goodIn_r _ [7] (by decide +kernel) (by decide +kernel)
set_option maxRecDepth 20000 in
theorem gX6_save_X6_in : GoodIn wsX6_save (va_wsS RX6 36 yX6_in wsX6_in) := goodIn_app (goodIn_of _ (by decide +kernel)) ggX6_save_X6_in
set_option maxRecDepth 20000 in
theorem ggX6_restore_X6_in : GoodIn wsX6_restore wsX6_in := goodIn_r _ [7] (by decide +kernel) (by decide +kernel)
set_option maxRecDepth 20000 in
theorem gX6_restore_X6_in : GoodIn wsX6_restore (va_wsS RX6 36 yX6_in wsX6_in) := goodIn_app (goodIn_of _ (by decide +kernel)) ggX6_restore_X6_in
set_option maxRecDepth 20000 in
theorem ggX6_restore_X6_record : GoodIn wsX6_restore wsX6_record := goodIn_r _ [11, 12, 13, 2, 14, 15, 16, 17, 18, 19, 20, 21, 22] (by decide +kernel) (by decide +kernel)
set_option maxRecDepth 20000 in
theorem gX6_restore_X6_record : GoodIn wsX6_restore (wsV RX6 44 RX6 yX6_record wsX6_record) := goodIn_app (goodIn_of _ (by decide +kernel)) ggX6_restore_X6_record
set_option maxRecDepth 20000 in
theorem ggX6_set_X6_in : GoodIn wsX6_set wsX6_in := goodIn_r _ [5] (by decide +kernel) (by decide +kernel)
set_option maxRecDepth 20000 in
theorem gX6_set_X6_in : GoodIn wsX6_set (va_wsS RX6 36 yX6_in wsX6_in) := goodIn_app (goodIn_of _ (by decide +kernel)) ggX6_set_X6_in
set_option maxRecDepth 20000 in
theorem ggX6_set_X6_leastOf : GoodIn wsX6_set wsX6_leastOf := goodIn_r _ [8] (by decide +kernel) (by decide +kernel)
set_option maxRecDepth 20000 in
theorem gX6_set_X6_leastOf : GoodIn wsX6_set (va_wsS RX6 47 yX6_leastOf wsX6_leastOf) := goodIn_app (goodIn_of _ (by decide +kernel)) ggX6_set_X6_leastOf
set_option maxRecDepth 20000 in
theorem ggX6_set_X6_mostOf : GoodIn wsX6_set wsX6_mostOf := goodIn_r _ [11] (by decide +kernel) (by decide +kernel)
set_option maxRecDepth 20000 in
theorem gX6_set_X6_mostOf : GoodIn wsX6_set (va_wsS RX6 51 yX6_mostOf wsX6_mostOf) := goodIn_app (goodIn_of _ (by decide +kernel)) ggX6_set_X6_mostOf
set_option maxRecDepth 20000 in
theorem ggX6_set_X6_record : GoodIn wsX6_set wsX6_record := goodIn_r _ [15, 16, 17, 1, 18, 19, 20, 21, 22, 23, 24, 25, 26] (by decide +kernel) (by decide +kernel)
set_option maxRecDepth 20000 in
theorem gX6_set_X6_record : GoodIn wsX6_set (wsV RX6 44 RX6 yX6_record wsX6_record) := goodIn_app (goodIn_of _ (by decide +kernel)) ggX6_set_X6_record
set_option maxRecDepth 20000 in
theorem ggX6_dipperIn_X6_ofDipper : GoodIn wsX6_dipperIn wsX6_ofDipper := goodIn_r _ [6, 1, 7, 8, 9, 10, 11, 12, 13, 14, 15] (by decide +kernel) (by decide +kernel)
set_option maxRecDepth 20000 in
theorem gX6_dipperIn_X6_ofDipper : GoodIn wsX6_dipperIn (wsV RX6 54 RX6 yX6_ofDipper wsX6_ofDipper) := goodIn_app (goodIn_of _ (by decide +kernel)) ggX6_dipperIn_X6_ofDipper
set_option maxRecDepth 20000 in
theorem ggX6_floor_X6_isCell : GoodIn wsX6_floor wsX6_isCell := goodIn_r _ [5, 6, 7, 4, 8] (by decide +kernel) (by decide +kernel)
set_option maxRecDepth 20000 in
theorem gX6_floor_X6_isCell : GoodIn wsX6_floor (va_wsS RX6 58 yX6_isCell wsX6_isCell) := goodIn_app (goodIn_of _ (by decide +kernel)) ggX6_floor_X6_isCell
set_option maxRecDepth 20000 in
theorem ggX6_floor_X6_in : GoodIn wsX6_floor wsX6_in := goodIn_r _ [8] (by decide +kernel) (by decide +kernel)
set_option maxRecDepth 20000 in
theorem gX6_floor_X6_in : GoodIn wsX6_floor (va_wsS RX6 36 yX6_in wsX6_in) := goodIn_app (goodIn_of _ (by decide +kernel)) ggX6_floor_X6_in
set_option maxRecDepth 20000 in
theorem ggX6_floor_X6_dipperIn : GoodIn wsX6_floor wsX6_dipperIn := goodIn_r _ [12, 1, 13, 14, 15, 4, 16, 23, 24, 25, 26, 27, 28, 29, 30, 31] (by decide +kernel) (by decide +kernel)
set_option maxRecDepth 20000 in
theorem gX6_floor_X6_dipperIn : GoodIn wsX6_floor (wsV RX6 62 RX6 yX6_dipperIn wsX6_dipperIn) := goodIn_app (goodIn_of _ (by decide +kernel)) ggX6_floor_X6_dipperIn
set_option maxRecDepth 20000 in
theorem ggX6_floor_X6_record : GoodIn wsX6_floor wsX6_record := goodIn_r _ [20, 21, 22, 1, 23, 24, 25, 26, 27, 28, 29, 30, 31] (by decide +kernel) (by decide +kernel)
set_option maxRecDepth 20000 in
theorem gX6_floor_X6_record : GoodIn wsX6_floor (wsV RX6 44 RX6 yX6_record wsX6_record) := goodIn_app (goodIn_of _ (by decide +kernel)) ggX6_floor_X6_record
set_option maxRecDepth 20000 in
theorem ggX6_water_X6_isWall : GoodIn wsX6_water wsX6_isWall := goodIn_r _ [5, 6, 7, 8, 9, 10, 11, 12, 13, 14, 15] (by decide +kernel) (by decide +kernel)
set_option maxRecDepth 20000 in
theorem gX6_water_X6_isWall : GoodIn wsX6_water (wsV RX6 65 RX6 yX6_isWall wsX6_isWall) := goodIn_app (goodIn_of _ (by decide +kernel)) ggX6_water_X6_isWall
set_option maxRecDepth 20000 in
theorem ggX6_calm_X6_forgetFirst : GoodIn wsX6_calm wsX6_forgetFirst := goodIn_r _ [6, 1, 7, 8, 9, 10, 11, 12, 13, 14, 15] (by decide +kernel) (by decide +kernel)
set_option maxRecDepth 20000 in
theorem gX6_calm_X6_forgetFirst : GoodIn wsX6_calm (wsV RX6 33 RX6 yX6_forgetFirst wsX6_forgetFirst) := goodIn_app (goodIn_of _ (by decide +kernel)) ggX6_calm_X6_forgetFirst
set_option maxRecDepth 20000 in
theorem ggX6_read_X6_readPad : GoodIn wsX6_read wsX6_readPad := goodIn_r _ [8, 3, 2, 9, 10, 7, 11, 34, 35, 36, 37, 38, 39, 40, 41, 42] (by decide +kernel) (by decide +kernel)
set_option maxRecDepth 20000 in
theorem gX6_read_X6_readPad : GoodIn wsX6_read (wsV RX6 69 RX6 yX6_readPad wsX6_readPad) := goodIn_app (goodIn_of _ (by decide +kernel)) ggX6_read_X6_readPad
set_option maxRecDepth 20000 in
theorem ggX6_read_X6_record : GoodIn wsX6_read wsX6_record := goodIn_r _ [15, 16, 17, 1, 34, 35, 36, 37, 38, 39, 40, 41, 42] (by decide +kernel) (by decide +kernel)
set_option maxRecDepth 20000 in
theorem gX6_read_X6_record : GoodIn wsX6_read (wsV RX6 44 RX6 yX6_record wsX6_record) := goodIn_app (goodIn_of _ (by decide +kernel)) ggX6_read_X6_record
set_option maxRecDepth 20000 in
theorem ggX6_read_X6_floorOf : GoodIn wsX6_read wsX6_floorOf := goodIn_r _ [11] (by decide +kernel) (by decide +kernel)
set_option maxRecDepth 20000 in
theorem gX6_read_X6_floorOf : GoodIn wsX6_read (va_wsS RX6 73 yX6_floorOf wsX6_floorOf) := goodIn_app (goodIn_of _ (by decide +kernel)) ggX6_read_X6_floorOf
set_option maxRecDepth 20000 in
theorem ggX6_read_X6_calm : GoodIn wsX6_read wsX6_calm := goodIn_r _ [21, 1, 22, 23, 24, 7, 25, 34, 35, 36, 37, 38, 39, 40, 41, 42] (by decide +kernel) (by decide +kernel)
set_option maxRecDepth 20000 in
theorem gX6_read_X6_calm : GoodIn wsX6_read (wsV RX6 76 RX6 yX6_calm wsX6_calm) := goodIn_app (goodIn_of _ (by decide +kernel)) ggX6_read_X6_calm
set_option maxRecDepth 20000 in
theorem ggX6_read_X6_water : GoodIn wsX6_read wsX6_water := goodIn_r _ [29, 30, 31, 32, 7, 33, 1, 34, 35, 36, 37, 38, 39, 40, 41, 42] (by decide +kernel) (by decide +kernel)
set_option maxRecDepth 20000 in
theorem gX6_read_X6_water : GoodIn wsX6_read (wsV RX6 82 RX6 yX6_water wsX6_water) := goodIn_app (goodIn_of _ (by decide +kernel)) ggX6_read_X6_water
set_option maxRecDepth 20000 in
theorem ggX6_allSizes_X6_now : GoodIn wsX6_allSizes wsX6_now := goodIn_r _ [5, 6, 10, 11, 12, 13, 14, 15, 16, 17, 18] (by decide +kernel) (by decide +kernel)
set_option maxRecDepth 20000 in
theorem gX6_allSizes_X6_now : GoodIn wsX6_allSizes (wsV RX6 85 RX6 yX6_now wsX6_now) := goodIn_app (goodIn_of _ (by decide +kernel)) ggX6_allSizes_X6_now
set_option maxRecDepth 20000 in
theorem ggX6_allSizes_X6_size : GoodIn wsX6_allSizes wsX6_size := goodIn_r _ [9] (by decide +kernel) (by decide +kernel)
set_option maxRecDepth 20000 in
theorem gX6_allSizes_X6_size : GoodIn wsX6_allSizes (va_wsS RX6 88 yX6_size wsX6_size) := goodIn_app (goodIn_of _ (by decide +kernel)) ggX6_allSizes_X6_size
set_option maxRecDepth 20000 in
theorem ggX6_clear_X6_record : GoodIn wsX6_clear wsX6_record := goodIn_r _ [6, 7, 8, 1, 28, 29, 30, 31, 32, 33, 34, 35, 36] (by decide +kernel) (by decide +kernel)
set_option maxRecDepth 20000 in
theorem gX6_clear_X6_record : GoodIn wsX6_clear (wsV RX6 44 RX6 yX6_record wsX6_record) := goodIn_app (goodIn_of _ (by decide +kernel)) ggX6_clear_X6_record
set_option maxRecDepth 20000 in
theorem ggX6_clear_X6_allSizes : GoodIn wsX6_clear wsX6_allSizes := goodIn_r _ [12, 13, 14, 15, 5, 16, 1, 17, 18, 19, 28, 29, 30, 31, 32, 33, 34, 35, 36] (by decide +kernel) (by decide +kernel)
set_option maxRecDepth 20000 in
theorem gX6_clear_X6_allSizes : GoodIn wsX6_clear (wsV RX6 91 RX6 yX6_allSizes wsX6_allSizes) := goodIn_app (goodIn_of _ (by decide +kernel)) ggX6_clear_X6_allSizes
set_option maxRecDepth 20000 in
theorem ggX6_clear_X6_calm : GoodIn wsX6_clear wsX6_calm := goodIn_r _ [23, 1, 24, 25, 26, 5, 27, 28, 29, 30, 31, 32, 33, 34, 35, 36] (by decide +kernel) (by decide +kernel)
set_option maxRecDepth 20000 in
theorem gX6_clear_X6_calm : GoodIn wsX6_clear (wsV RX6 76 RX6 yX6_calm wsX6_calm) := goodIn_app (goodIn_of _ (by decide +kernel)) ggX6_clear_X6_calm
set_option maxRecDepth 20000 in
theorem ggX6_dip_X6_isCell : GoodIn wsX6_dip wsX6_isCell := goodIn_r _ [5, 6, 7, 4, 8] (by decide +kernel) (by decide +kernel)
set_option maxRecDepth 20000 in
theorem gX6_dip_X6_isCell : GoodIn wsX6_dip (va_wsS RX6 58 yX6_isCell wsX6_isCell) := goodIn_app (goodIn_of _ (by decide +kernel)) ggX6_dip_X6_isCell
set_option maxRecDepth 20000 in
theorem ggX6_dip_X6_in : GoodIn wsX6_dip wsX6_in := goodIn_r _ [8] (by decide +kernel) (by decide +kernel)
set_option maxRecDepth 20000 in
theorem gX6_dip_X6_in : GoodIn wsX6_dip (va_wsS RX6 36 yX6_in wsX6_in) := goodIn_app (goodIn_of _ (by decide +kernel)) ggX6_dip_X6_in
set_option maxRecDepth 20000 in
theorem ggX6_dip_X6_isWall : GoodIn wsX6_dip wsX6_isWall := goodIn_r _ [12, 1, 19, 20, 21, 22, 23, 24, 25, 26, 27] (by decide +kernel) (by decide +kernel)
set_option maxRecDepth 20000 in
theorem gX6_dip_X6_isWall : GoodIn wsX6_dip (wsV RX6 65 RX6 yX6_isWall wsX6_isWall) := goodIn_app (goodIn_of _ (by decide +kernel)) ggX6_dip_X6_isWall
set_option maxRecDepth 20000 in
theorem ggX6_dip_X6_record : GoodIn wsX6_dip wsX6_record := goodIn_r _ [16, 17, 18, 1, 19, 20, 21, 22, 23, 24, 25, 26, 27] (by decide +kernel) (by decide +kernel)
set_option maxRecDepth 20000 in
theorem gX6_dip_X6_record : GoodIn wsX6_dip (wsV RX6 44 RX6 yX6_record wsX6_record) := goodIn_app (goodIn_of _ (by decide +kernel)) ggX6_dip_X6_record
set_option maxRecDepth 20000 in
theorem ggX6_takeOut_X6_isDipper : GoodIn wsX6_takeOut wsX6_isDipper := goodIn_r _ [6, 1, 13, 14, 15, 16, 17, 18, 19, 20, 21] (by decide +kernel) (by decide +kernel)
set_option maxRecDepth 20000 in
theorem gX6_takeOut_X6_isDipper : GoodIn wsX6_takeOut (wsV RX6 94 RX6 yX6_isDipper wsX6_isDipper) := goodIn_app (goodIn_of _ (by decide +kernel)) ggX6_takeOut_X6_isDipper
set_option maxRecDepth 20000 in
theorem ggX6_takeOut_X6_record : GoodIn wsX6_takeOut wsX6_record := goodIn_r _ [10, 11, 12, 1, 13, 14, 15, 16, 17, 18, 19, 20, 21] (by decide +kernel) (by decide +kernel)
set_option maxRecDepth 20000 in
theorem gX6_takeOut_X6_record : GoodIn wsX6_takeOut (wsV RX6 44 RX6 yX6_record wsX6_record) := goodIn_app (goodIn_of _ (by decide +kernel)) ggX6_takeOut_X6_record
set_option maxRecDepth 20000 in
theorem ggX6_drop_X6_isCell : GoodIn wsX6_drop wsX6_isCell := goodIn_r _ [5, 6, 7, 4, 8] (by decide +kernel) (by decide +kernel)
set_option maxRecDepth 20000 in
theorem gX6_drop_X6_isCell : GoodIn wsX6_drop (va_wsS RX6 58 yX6_isCell wsX6_isCell) := goodIn_app (goodIn_of _ (by decide +kernel)) ggX6_drop_X6_isCell
set_option maxRecDepth 20000 in
theorem ggX6_drop_X6_in : GoodIn wsX6_drop wsX6_in := goodIn_r _ [8] (by decide +kernel) (by decide +kernel)
set_option maxRecDepth 20000 in
theorem gX6_drop_X6_in : GoodIn wsX6_drop (va_wsS RX6 36 yX6_in wsX6_in) := goodIn_app (goodIn_of _ (by decide +kernel)) ggX6_drop_X6_in
set_option maxRecDepth 20000 in
theorem ggX6_drop_X6_isWall : GoodIn wsX6_drop wsX6_isWall := goodIn_r _ [12, 1, 26, 27, 28, 29, 30, 31, 32, 33, 34] (by decide +kernel) (by decide +kernel)
set_option maxRecDepth 20000 in
theorem gX6_drop_X6_isWall : GoodIn wsX6_drop (wsV RX6 65 RX6 yX6_isWall wsX6_isWall) := goodIn_app (goodIn_of _ (by decide +kernel)) ggX6_drop_X6_isWall
set_option maxRecDepth 20000 in
theorem ggX6_drop_X6_record : GoodIn wsX6_drop wsX6_record := goodIn_r _ [16, 17, 18, 1, 26, 27, 28, 29, 30, 31, 32, 33, 34] (by decide +kernel) (by decide +kernel)
set_option maxRecDepth 20000 in
theorem gX6_drop_X6_record : GoodIn wsX6_drop (wsV RX6 44 RX6 yX6_record wsX6_record) := goodIn_app (goodIn_of _ (by decide +kernel)) ggX6_drop_X6_record
set_option maxRecDepth 20000 in
theorem ggX6_drop_X6_now : GoodIn wsX6_drop wsX6_now := goodIn_r _ [22, 1, 26, 27, 28, 29, 30, 31, 32, 33, 34] (by decide +kernel) (by decide +kernel)
set_option maxRecDepth 20000 in
theorem gX6_drop_X6_now : GoodIn wsX6_drop (wsV RX6 85 RX6 yX6_now wsX6_now) := goodIn_app (goodIn_of _ (by decide +kernel)) ggX6_drop_X6_now
set_option maxRecDepth 20000 in
theorem ggX6_drop_X6_kept : GoodIn wsX6_drop wsX6_kept := goodIn_r _ [25] (by decide +kernel) (by decide +kernel)
set_option maxRecDepth 20000 in
theorem gX6_drop_X6_kept : GoodIn wsX6_drop (va_wsS RX6 97 yX6_kept wsX6_kept) := goodIn_app (goodIn_of _ (by decide +kernel)) ggX6_drop_X6_kept
set_option maxRecDepth 20000 in
theorem ggX6_probe_X6_isCell : GoodIn wsX6_probe wsX6_isCell := goodIn_r _ [5, 6, 7, 4, 8] (by decide +kernel) (by decide +kernel)
set_option maxRecDepth 20000 in
theorem gX6_probe_X6_isCell : GoodIn wsX6_probe (va_wsS RX6 58 yX6_isCell wsX6_isCell) := goodIn_app (goodIn_of _ (by decide +kernel)) ggX6_probe_X6_isCell
set_option maxRecDepth 20000 in
theorem ggX6_probe_X6_record : GoodIn wsX6_probe wsX6_record := goodIn_r _ [12, 13, 14, 1, 15, 16, 17, 18, 19, 20, 21, 22, 23] (by decide +kernel) (by decide +kernel)
set_option maxRecDepth 20000 in
theorem gX6_probe_X6_record : GoodIn wsX6_probe (wsV RX6 44 RX6 yX6_record wsX6_record) := goodIn_app (goodIn_of _ (by decide +kernel)) ggX6_probe_X6_record
set_option maxRecDepth 20000 in
theorem ggX6_from_X6_isCell : GoodIn wsX6_from wsX6_isCell := goodIn_r _ [4, 5, 6, 3, 7] (by decide +kernel) (by decide +kernel)
set_option maxRecDepth 20000 in
theorem gX6_from_X6_isCell : GoodIn wsX6_from (va_wsS RX6 58 yX6_isCell wsX6_isCell) := goodIn_app (goodIn_of _ (by decide +kernel)) ggX6_from_X6_isCell
set_option maxRecDepth 20000 in
theorem ggX6_from_X6_isWall : GoodIn wsX6_from wsX6_isWall := goodIn_r _ [11, 12, 17, 18, 19, 20, 21, 22, 23, 24, 25] (by decide +kernel) (by decide +kernel)
set_option maxRecDepth 20000 in
theorem gX6_from_X6_isWall : GoodIn wsX6_from (wsV RX6 65 RX6 yX6_isWall wsX6_isWall) := goodIn_app (goodIn_of _ (by decide +kernel)) ggX6_from_X6_isWall
set_option maxRecDepth 20000 in
theorem ggX6_from_X6_now : GoodIn wsX6_from wsX6_now := goodIn_r _ [16, 12, 17, 18, 19, 20, 21, 22, 23, 24, 25] (by decide +kernel) (by decide +kernel)
set_option maxRecDepth 20000 in
theorem gX6_from_X6_now : GoodIn wsX6_from (wsV RX6 85 RX6 yX6_now wsX6_now) := goodIn_app (goodIn_of _ (by decide +kernel)) ggX6_from_X6_now
end
section
set_option maxRecDepth 20000 in
theorem ggX6_slope_X6_isWall : GoodIn wsX6_slope wsX6_isWall := goodIn_r _ [5, 6, 21, 22, 23, 24, 25, 26, 27, 28, 29] (by decide +kernel) (by decide +kernel)
set_option maxRecDepth 20000 in
theorem gX6_slope_X6_isWall : GoodIn wsX6_slope (wsV RX6 65 RX6 yX6_isWall wsX6_isWall) := goodIn_app (goodIn_of _ (by decide +kernel)) ggX6_slope_X6_isWall
set_option maxRecDepth 20000 in
theorem ggX6_slope_X6_from : GoodIn wsX6_slope wsX6_from := goodIn_r _ [10, 11, 12, 4, 13, 14, 15, 16, 1, 2, 3, 5, 6, 17, 18, 19, 20, 21, 22, 23, 24, 25, 26, 27, 28, 29] (by decide +kernel) (by decide +kernel)
set_option maxRecDepth 20000 in
theorem gX6_slope_X6_from : GoodIn wsX6_slope (wsV RX6 100 RX6 yX6_from wsX6_from) := goodIn_app (goodIn_of _ (by decide +kernel)) ggX6_slope_X6_from
set_option maxRecDepth 20000 in
theorem ggX6_isUp_X6_ofDipper : GoodIn wsX6_isUp wsX6_ofDipper := goodIn_r _ [6, 1, 7, 8, 9, 10, 11, 12, 13, 14, 15] (by decide +kernel) (by decide +kernel)
set_option maxRecDepth 20000 in
theorem gX6_isUp_X6_ofDipper : GoodIn wsX6_isUp (wsV RX6 54 RX6 yX6_ofDipper wsX6_ofDipper) := goodIn_app (goodIn_of _ (by decide +kernel)) ggX6_isUp_X6_ofDipper
set_option maxRecDepth 20000 in
theorem ggX6_heightThen_X6_isWall : GoodIn wsX6_heightThen wsX6_isWall := goodIn_r _ [6, 1, 40, 41, 42, 43, 44, 45, 46, 47, 48] (by decide +kernel) (by decide +kernel)
set_option maxRecDepth 20000 in
theorem gX6_heightThen_X6_isWall : GoodIn wsX6_heightThen (wsV RX6 65 RX6 yX6_isWall wsX6_isWall) := goodIn_app (goodIn_of _ (by decide +kernel)) ggX6_heightThen_X6_isWall
set_option maxRecDepth 20000 in
theorem ggX6_heightThen_X6_dipperIn : GoodIn wsX6_heightThen wsX6_dipperIn := goodIn_r _ [10, 1, 11, 12, 13, 5, 14, 40, 41, 42, 43, 44, 45, 46, 47, 48] (by decide +kernel) (by decide +kernel)
set_option maxRecDepth 20000 in
theorem gX6_heightThen_X6_dipperIn : GoodIn wsX6_heightThen (wsV RX6 62 RX6 yX6_dipperIn wsX6_dipperIn) := goodIn_app (goodIn_of _ (by decide +kernel)) ggX6_heightThen_X6_dipperIn
set_option maxRecDepth 20000 in
theorem ggX6_heightThen_X6_isUp : GoodIn wsX6_heightThen wsX6_isUp := goodIn_r _ [18, 1, 11, 12, 13, 5, 14, 40, 41, 42, 43, 44, 45, 46, 47, 48] (by decide +kernel) (by decide +kernel)
set_option maxRecDepth 20000 in
theorem gX6_heightThen_X6_isUp : GoodIn wsX6_heightThen (wsV RX6 104 RX6 yX6_isUp wsX6_isUp) := goodIn_app (goodIn_of _ (by decide +kernel)) ggX6_heightThen_X6_isUp
set_option maxRecDepth 20000 in
theorem ggX6_heightThen_X6_ofDipper : GoodIn wsX6_heightThen wsX6_ofDipper := goodIn_r _ [14, 1, 40, 41, 42, 43, 44, 45, 46, 47, 48] (by decide +kernel) (by decide +kernel)
set_option maxRecDepth 20000 in
theorem gX6_heightThen_X6_ofDipper : GoodIn wsX6_heightThen (wsV RX6 54 RX6 yX6_ofDipper wsX6_ofDipper) := goodIn_app (goodIn_of _ (by decide +kernel)) ggX6_heightThen_X6_ofDipper
set_option maxRecDepth 20000 in
theorem ggX6_heightThen_X6_now : GoodIn wsX6_heightThen wsX6_now := goodIn_r _ [22, 1, 40, 41, 42, 43, 44, 45, 46, 47, 48] (by decide +kernel) (by decide +kernel)
set_option maxRecDepth 20000 in
theorem gX6_heightThen_X6_now : GoodIn wsX6_heightThen (wsV RX6 85 RX6 yX6_now wsX6_now) := goodIn_app (goodIn_of _ (by decide +kernel)) ggX6_heightThen_X6_now
set_option maxRecDepth 20000 in
theorem ggX6_heightThen_X6_slope : GoodIn wsX6_heightThen wsX6_slope := goodIn_r _ [26, 2, 3, 4, 5, 6, 1, 27, 28, 29, 30, 31, 32, 33, 34, 35, 36, 19, 20, 21, 22, 40, 41, 42, 43, 44, 45, 46, 47, 48] (by decide +kernel) (by decide +kernel)
set_option maxRecDepth 20000 in
theorem gX6_heightThen_X6_slope : GoodIn wsX6_heightThen (wsV RX6 107 RX6 yX6_slope wsX6_slope) := goodIn_app (goodIn_of _ (by decide +kernel)) ggX6_heightThen_X6_slope
set_option maxRecDepth 20000 in
theorem ggX6_heightThen_X6_kept : GoodIn wsX6_heightThen wsX6_kept := goodIn_r _ [39] (by decide +kernel) (by decide +kernel)
set_option maxRecDepth 20000 in
theorem gX6_heightThen_X6_kept : GoodIn wsX6_heightThen (va_wsS RX6 97 yX6_kept wsX6_kept) := goodIn_app (goodIn_of _ (by decide +kernel)) ggX6_heightThen_X6_kept
set_option maxRecDepth 20000 in
theorem ggX6_see_X6_now : GoodIn wsX6_see wsX6_now := goodIn_r _ [6, 1, 7, 8, 9, 10, 11, 12, 13, 14, 15] (by decide +kernel) (by decide +kernel)
set_option maxRecDepth 20000 in
theorem gX6_see_X6_now : GoodIn wsX6_see (wsV RX6 85 RX6 yX6_now wsX6_now) := goodIn_app (goodIn_of _ (by decide +kernel)) ggX6_see_X6_now
set_option maxRecDepth 20000 in
theorem ggX6_tick_X6_heightThen : GoodIn wsX6_tick wsX6_heightThen := goodIn_r _ [7, 2, 8, 9, 10, 6, 11, 12, 13, 14, 15, 16, 17, 18, 19, 20, 21, 22, 23, 24, 25, 26, 27, 28, 29, 30, 31, 32, 33, 34, 35, 36, 37, 38, 39, 40, 41, 42, 43, 44, 52, 53, 54, 55, 56, 57, 58, 59, 60] (by decide +kernel) (by decide +kernel)
set_option maxRecDepth 20000 in
theorem gX6_tick_X6_heightThen : GoodIn wsX6_tick (wsV RX6 110 RX6 yX6_heightThen wsX6_heightThen) := goodIn_app (goodIn_of _ (by decide +kernel)) ggX6_tick_X6_heightThen
set_option maxRecDepth 20000 in
theorem ggX6_tick_X6_now : GoodIn wsX6_tick wsX6_now := goodIn_r _ [27, 2, 52, 53, 54, 55, 56, 57, 58, 59, 60] (by decide +kernel) (by decide +kernel)
set_option maxRecDepth 20000 in
theorem gX6_tick_X6_now : GoodIn wsX6_tick (wsV RX6 85 RX6 yX6_now wsX6_now) := goodIn_app (goodIn_of _ (by decide +kernel)) ggX6_tick_X6_now
set_option maxRecDepth 20000 in
theorem ggX6_tick_X6_size : GoodIn wsX6_tick wsX6_size := goodIn_r _ [47] (by decide +kernel) (by decide +kernel)
set_option maxRecDepth 20000 in
theorem gX6_tick_X6_size : GoodIn wsX6_tick (va_wsS RX6 88 yX6_size wsX6_size) := goodIn_app (goodIn_of _ (by decide +kernel)) ggX6_tick_X6_size
set_option maxRecDepth 20000 in
theorem ggX6_tick_X6_see : GoodIn wsX6_tick wsX6_see := goodIn_r _ [51, 2, 24, 25, 26, 6, 27, 52, 53, 54, 55, 56, 57, 58, 59, 60] (by decide +kernel) (by decide +kernel)
set_option maxRecDepth 20000 in
theorem gX6_tick_X6_see : GoodIn wsX6_tick (wsV RX6 113 RX6 yX6_see wsX6_see) := goodIn_app (goodIn_of _ (by decide +kernel)) ggX6_tick_X6_see
set_option maxRecDepth 20000 in
theorem ggX6_isStill_X6_now : GoodIn wsX6_isStill wsX6_now := goodIn_r _ [6, 1, 10, 11, 12, 13, 14, 15, 16, 17, 18] (by decide +kernel) (by decide +kernel)
set_option maxRecDepth 20000 in
theorem gX6_isStill_X6_now : GoodIn wsX6_isStill (wsV RX6 85 RX6 yX6_now wsX6_now) := goodIn_app (goodIn_of _ (by decide +kernel)) ggX6_isStill_X6_now
set_option maxRecDepth 20000 in
theorem ggX6_isStill_X6_size : GoodIn wsX6_isStill wsX6_size := goodIn_r _ [9] (by decide +kernel) (by decide +kernel)
set_option maxRecDepth 20000 in
theorem gX6_isStill_X6_size : GoodIn wsX6_isStill (va_wsS RX6 88 yX6_size wsX6_size) := goodIn_app (goodIn_of _ (by decide +kernel)) ggX6_isStill_X6_size
set_option maxRecDepth 20000 in
theorem ggX6_stillOnes_X6_isWall : GoodIn wsX6_stillOnes wsX6_isWall := goodIn_r _ [5, 6, 18, 19, 20, 21, 22, 23, 24, 25, 26] (by decide +kernel) (by decide +kernel)
set_option maxRecDepth 20000 in
theorem gX6_stillOnes_X6_isWall : GoodIn wsX6_stillOnes (wsV RX6 65 RX6 yX6_isWall wsX6_isWall) := goodIn_app (goodIn_of _ (by decide +kernel)) ggX6_stillOnes_X6_isWall
set_option maxRecDepth 20000 in
theorem ggX6_stillOnes_X6_isStill : GoodIn wsX6_stillOnes wsX6_isStill := goodIn_r _ [10, 6, 11, 12, 13, 4, 14, 15, 16, 17, 18, 19, 20, 21, 22, 23, 24, 25, 26] (by decide +kernel) (by decide +kernel)
set_option maxRecDepth 20000 in
theorem gX6_stillOnes_X6_isStill : GoodIn wsX6_stillOnes (wsV RX6 117 RX6 yX6_isStill wsX6_isStill) := goodIn_app (goodIn_of _ (by decide +kernel)) ggX6_stillOnes_X6_isStill
set_option maxRecDepth 20000 in
theorem ggX6_ticks_X6_tick : GoodIn wsX6_ticks wsX6_tick := goodIn_r _ [5, 6, 7, 8, 9, 10, 4, 11, 12, 13, 14, 15, 16, 17, 18, 19, 20, 21, 22, 23, 24, 25, 26, 27, 28, 29, 30, 31, 32, 33, 34, 35, 36, 37, 38, 39, 40, 41, 42, 43, 44, 45, 46, 47, 48, 49, 50, 51, 52, 53, 54, 55, 56, 57, 58, 59, 60, 61, 62, 63, 64] (by decide +kernel) (by decide +kernel)
set_option maxRecDepth 20000 in
theorem gX6_ticks_X6_tick : GoodIn wsX6_ticks (wsV RX6 120 RX6 yX6_tick wsX6_tick) := goodIn_app (goodIn_of _ (by decide +kernel)) ggX6_ticks_X6_tick
set_option maxRecDepth 20000 in
theorem ggX6_pass_X6_in : GoodIn wsX6_pass wsX6_in := goodIn_r _ [6] (by decide +kernel) (by decide +kernel)
set_option maxRecDepth 20000 in
theorem gX6_pass_X6_in : GoodIn wsX6_pass (va_wsS RX6 36 yX6_in wsX6_in) := goodIn_app (goodIn_of _ (by decide +kernel)) ggX6_pass_X6_in
set_option maxRecDepth 20000 in
theorem ggX6_pass_X6_record : GoodIn wsX6_pass wsX6_record := goodIn_r _ [10, 11, 12, 1, 79, 80, 81, 82, 83, 84, 85, 86, 87] (by decide +kernel) (by decide +kernel)
set_option maxRecDepth 20000 in
theorem gX6_pass_X6_record : GoodIn wsX6_pass (wsV RX6 44 RX6 yX6_record wsX6_record) := goodIn_app (goodIn_of _ (by decide +kernel)) ggX6_pass_X6_record
set_option maxRecDepth 20000 in
theorem ggX6_pass_X6_ticks : GoodIn wsX6_pass wsX6_ticks := goodIn_r _ [16, 17, 18, 19, 5, 20, 21, 1, 22, 23, 24, 25, 26, 27, 28, 29, 30, 31, 32, 33, 34, 35, 36, 37, 38, 39, 40, 41, 42, 43, 44, 45, 46, 47, 48, 49, 50, 51, 52, 53, 54, 55, 56, 3, 4, 6, 57, 58, 59, 60, 61, 62, 63, 64, 65, 66, 79, 80, 81, 82, 83, 84, 85, 86, 87] (by decide +kernel) (by decide +kernel)
set_option maxRecDepth 20000 in
theorem gX6_pass_X6_ticks : GoodIn wsX6_pass (wsV RX6 124 RX6 yX6_ticks wsX6_ticks) := goodIn_app (goodIn_of _ (by decide +kernel)) ggX6_pass_X6_ticks
set_option maxRecDepth 20000 in
theorem ggX6_pass_X6_water : GoodIn wsX6_pass wsX6_water := goodIn_r _ [70, 26, 27, 28, 5, 29, 1, 79, 80, 81, 82, 83, 84, 85, 86, 87] (by decide +kernel) (by decide +kernel)
set_option maxRecDepth 20000 in
theorem gX6_pass_X6_water : GoodIn wsX6_pass (wsV RX6 82 RX6 yX6_water wsX6_water) := goodIn_app (goodIn_of _ (by decide +kernel)) ggX6_pass_X6_water
set_option maxRecDepth 20000 in
theorem ggX6_pass_X6_stillOnes : GoodIn wsX6_pass wsX6_stillOnes := goodIn_r _ [74, 26, 27, 28, 5, 29, 1, 75, 76, 77, 78, 42, 43, 44, 45, 60, 61, 62, 79, 80, 81, 82, 83, 84, 85, 86, 87] (by decide +kernel) (by decide +kernel)
set_option maxRecDepth 20000 in
theorem gX6_pass_X6_stillOnes : GoodIn wsX6_pass (wsV RX6 127 RX6 yX6_stillOnes wsX6_stillOnes) := goodIn_app (goodIn_of _ (by decide +kernel)) ggX6_pass_X6_stillOnes
set_option maxRecDepth 20000 in
theorem ggX6_cell_X6_isCell : GoodIn wsX6_cell wsX6_isCell := goodIn_r _ [6, 7, 8, 5, 9] (by decide +kernel) (by decide +kernel)
set_option maxRecDepth 20000 in
theorem gX6_cell_X6_isCell : GoodIn wsX6_cell (va_wsS RX6 58 yX6_isCell wsX6_isCell) := goodIn_app (goodIn_of _ (by decide +kernel)) ggX6_cell_X6_isCell
set_option maxRecDepth 20000 in
theorem ggX6_cell_X6_now : GoodIn wsX6_cell wsX6_now := goodIn_r _ [13, 1, 41, 42, 43, 44, 45, 46, 47, 48, 49] (by decide +kernel) (by decide +kernel)
set_option maxRecDepth 20000 in
theorem gX6_cell_X6_now : GoodIn wsX6_cell (wsV RX6 85 RX6 yX6_now wsX6_now) := goodIn_app (goodIn_of _ (by decide +kernel)) ggX6_cell_X6_now
set_option maxRecDepth 20000 in
theorem ggX6_cell_X6_slope : GoodIn wsX6_cell wsX6_slope := goodIn_r _ [17, 18, 19, 20, 5, 21, 1, 22, 23, 24, 25, 3, 4, 6, 7, 8, 9, 10, 11, 12, 13, 41, 42, 43, 44, 45, 46, 47, 48, 49] (by decide +kernel) (by decide +kernel)
set_option maxRecDepth 20000 in
theorem gX6_cell_X6_slope : GoodIn wsX6_cell (wsV RX6 107 RX6 yX6_slope wsX6_slope) := goodIn_app (goodIn_of _ (by decide +kernel)) ggX6_cell_X6_slope
set_option maxRecDepth 20000 in
theorem ggX6_cell_X6_isWall : GoodIn wsX6_cell wsX6_isWall := goodIn_r _ [21, 1, 41, 42, 43, 44, 45, 46, 47, 48, 49] (by decide +kernel) (by decide +kernel)
set_option maxRecDepth 20000 in
theorem gX6_cell_X6_isWall : GoodIn wsX6_cell (wsV RX6 65 RX6 yX6_isWall wsX6_isWall) := goodIn_app (goodIn_of _ (by decide +kernel)) ggX6_cell_X6_isWall
set_option maxRecDepth 20000 in
theorem ggX6_cell_X6_isStill : GoodIn wsX6_cell wsX6_isStill := goodIn_r _ [29, 1, 10, 11, 12, 5, 13, 30, 31, 32, 41, 42, 43, 44, 45, 46, 47, 48, 49] (by decide +kernel) (by decide +kernel)
set_option maxRecDepth 20000 in
theorem gX6_cell_X6_isStill : GoodIn wsX6_cell (wsV RX6 117 RX6 yX6_isStill wsX6_isStill) := goodIn_app (goodIn_of _ (by decide +kernel)) ggX6_cell_X6_isStill
set_option maxRecDepth 20000 in
theorem ggX6_cell_X6_dipperIn : GoodIn wsX6_cell wsX6_dipperIn := goodIn_r _ [36, 1, 37, 38, 39, 5, 40, 41, 42, 43, 44, 45, 46, 47, 48, 49] (by decide +kernel) (by decide +kernel)
set_option maxRecDepth 20000 in
theorem gX6_cell_X6_dipperIn : GoodIn wsX6_cell (wsV RX6 62 RX6 yX6_dipperIn wsX6_dipperIn) := goodIn_app (goodIn_of _ (by decide +kernel)) ggX6_cell_X6_dipperIn
set_option maxRecDepth 20000 in
theorem ggX6_dipper_X6_isDipper : GoodIn wsX6_dipper wsX6_isDipper := goodIn_r _ [5, 6, 15, 16, 17, 18, 19, 20, 21, 22, 23] (by decide +kernel) (by decide +kernel)
set_option maxRecDepth 20000 in
theorem gX6_dipper_X6_isDipper : GoodIn wsX6_dipper (wsV RX6 94 RX6 yX6_isDipper wsX6_isDipper) := goodIn_app (goodIn_of _ (by decide +kernel)) ggX6_dipper_X6_isDipper
set_option maxRecDepth 20000 in
theorem ggX6_dipper_X6_ofDipper : GoodIn wsX6_dipper wsX6_ofDipper := goodIn_r _ [10, 6, 15, 16, 17, 18, 19, 20, 21, 22, 23] (by decide +kernel) (by decide +kernel)
set_option maxRecDepth 20000 in
theorem gX6_dipper_X6_ofDipper : GoodIn wsX6_dipper (wsV RX6 54 RX6 yX6_ofDipper wsX6_ofDipper) := goodIn_app (goodIn_of _ (by decide +kernel)) ggX6_dipper_X6_ofDipper
set_option maxRecDepth 20000 in
theorem ggX6_dipper_X6_isUp : GoodIn wsX6_dipper wsX6_isUp := goodIn_r _ [14, 6, 7, 8, 9, 4, 10, 15, 16, 17, 18, 19, 20, 21, 22, 23] (by decide +kernel) (by decide +kernel)
set_option maxRecDepth 20000 in
theorem gX6_dipper_X6_isUp : GoodIn wsX6_dipper (wsV RX6 104 RX6 yX6_isUp wsX6_isUp) := goodIn_app (goodIn_of _ (by decide +kernel)) ggX6_dipper_X6_isUp
set_option maxRecDepth 20000 in
theorem ggX6_beat_X6_seenMany : GoodIn wsX6_beat wsX6_seenMany := goodIn_r _ [5, 6, 14, 15, 16, 17, 18, 19, 20, 21, 22] (by decide +kernel) (by decide +kernel)
set_option maxRecDepth 20000 in
theorem gX6_beat_X6_seenMany : GoodIn wsX6_beat (wsV RX6 130 RX6 yX6_seenMany wsX6_seenMany) := goodIn_app (goodIn_of _ (by decide +kernel)) ggX6_beat_X6_seenMany
set_option maxRecDepth 20000 in
theorem ggX6_beat_X6_seenBy : GoodIn wsX6_beat wsX6_seenBy := goodIn_r _ [10, 6, 14, 15, 16, 17, 18, 19, 20, 21, 22] (by decide +kernel) (by decide +kernel)
set_option maxRecDepth 20000 in
theorem gX6_beat_X6_seenBy : GoodIn wsX6_beat (wsV RX6 133 RX6 yX6_seenBy wsX6_seenBy) := goodIn_app (goodIn_of _ (by decide +kernel)) ggX6_beat_X6_seenBy
set_option maxRecDepth 20000 in
theorem ggX6_beat_X6_size : GoodIn wsX6_beat wsX6_size := goodIn_r _ [13] (by decide +kernel) (by decide +kernel)
set_option maxRecDepth 20000 in
theorem gX6_beat_X6_size : GoodIn wsX6_beat (va_wsS RX6 88 yX6_size wsX6_size) := goodIn_app (goodIn_of _ (by decide +kernel)) ggX6_beat_X6_size
set_option maxRecDepth 20000 in
theorem ggX6_greatestSeen_X6_seenMany : GoodIn wsX6_greatestSeen wsX6_seenMany := goodIn_r _ [5, 6, 11, 12, 13, 14, 15, 16, 17, 18, 19] (by decide +kernel) (by decide +kernel)
set_option maxRecDepth 20000 in
theorem gX6_greatestSeen_X6_seenMany : GoodIn wsX6_greatestSeen (wsV RX6 130 RX6 yX6_seenMany wsX6_seenMany) := goodIn_app (goodIn_of _ (by decide +kernel)) ggX6_greatestSeen_X6_seenMany
set_option maxRecDepth 20000 in
theorem ggX6_greatestSeen_X6_seenBy : GoodIn wsX6_greatestSeen wsX6_seenBy := goodIn_r _ [10, 6, 11, 12, 13, 14, 15, 16, 17, 18, 19] (by decide +kernel) (by decide +kernel)
set_option maxRecDepth 20000 in
theorem gX6_greatestSeen_X6_seenBy : GoodIn wsX6_greatestSeen (wsV RX6 133 RX6 yX6_seenBy wsX6_seenBy) := goodIn_app (goodIn_of _ (by decide +kernel)) ggX6_greatestSeen_X6_seenBy
set_option maxRecDepth 20000 in
theorem ggX6_ofProbe_X6_isProbe : GoodIn wsX6_ofProbe wsX6_isProbe := goodIn_r _ [6, 1, 26, 27, 28, 29, 30, 31, 32, 33, 34] (by decide +kernel) (by decide +kernel)
set_option maxRecDepth 20000 in
theorem gX6_ofProbe_X6_isProbe : GoodIn wsX6_ofProbe (wsV RX6 136 RX6 yX6_isProbe wsX6_isProbe) := goodIn_app (goodIn_of _ (by decide +kernel)) ggX6_ofProbe_X6_isProbe
set_option maxRecDepth 20000 in
theorem ggX6_ofProbe_X6_seenMany : GoodIn wsX6_ofProbe wsX6_seenMany := goodIn_r _ [10, 1, 26, 27, 28, 29, 30, 31, 32, 33, 34] (by decide +kernel) (by decide +kernel)
set_option maxRecDepth 20000 in
theorem gX6_ofProbe_X6_seenMany : GoodIn wsX6_ofProbe (wsV RX6 130 RX6 yX6_seenMany wsX6_seenMany) := goodIn_app (goodIn_of _ (by decide +kernel)) ggX6_ofProbe_X6_seenMany
set_option maxRecDepth 20000 in
theorem ggX6_ofProbe_X6_beat : GoodIn wsX6_ofProbe wsX6_beat := goodIn_r _ [14, 7, 8, 9, 5, 10, 1, 15, 16, 17, 18, 19, 20, 21, 26, 27, 28, 29, 30, 31, 32, 33, 34] (by decide +kernel) (by decide +kernel)
set_option maxRecDepth 20000 in
theorem gX6_ofProbe_X6_beat : GoodIn wsX6_ofProbe (wsV RX6 139 RX6 yX6_beat wsX6_beat) := goodIn_app (goodIn_of _ (by decide +kernel)) ggX6_ofProbe_X6_beat
set_option maxRecDepth 20000 in
theorem ggX6_ofProbe_X6_greatestSeen : GoodIn wsX6_ofProbe wsX6_greatestSeen := goodIn_r _ [25, 7, 8, 9, 5, 10, 1, 15, 16, 17, 18, 26, 27, 28, 29, 30, 31, 32, 33, 34] (by decide +kernel) (by decide +kernel)
set_option maxRecDepth 20000 in
theorem gX6_ofProbe_X6_greatestSeen : GoodIn wsX6_ofProbe (wsV RX6 142 RX6 yX6_greatestSeen wsX6_greatestSeen) := goodIn_app (goodIn_of _ (by decide +kernel)) ggX6_ofProbe_X6_greatestSeen
set_option maxRecDepth 20000 in
theorem ggX6_seen_X6_isProbe : GoodIn wsX6_seen wsX6_isProbe := goodIn_r _ [5, 6, 18, 19, 20, 21, 22, 23, 24, 25, 26] (by decide +kernel) (by decide +kernel)
set_option maxRecDepth 20000 in
theorem gX6_seen_X6_isProbe : GoodIn wsX6_seen (wsV RX6 136 RX6 yX6_isProbe wsX6_isProbe) := goodIn_app (goodIn_of _ (by decide +kernel)) ggX6_seen_X6_isProbe
set_option maxRecDepth 20000 in
theorem ggX6_seen_X6_seenMany : GoodIn wsX6_seen wsX6_seenMany := goodIn_r _ [10, 6, 18, 19, 20, 21, 22, 23, 24, 25, 26] (by decide +kernel) (by decide +kernel)
set_option maxRecDepth 20000 in
theorem gX6_seen_X6_seenMany : GoodIn wsX6_seen (wsV RX6 130 RX6 yX6_seenMany wsX6_seenMany) := goodIn_app (goodIn_of _ (by decide +kernel)) ggX6_seen_X6_seenMany
set_option maxRecDepth 20000 in
theorem ggX6_seen_X6_in : GoodIn wsX6_seen wsX6_in := goodIn_r _ [13] (by decide +kernel) (by decide +kernel)
set_option maxRecDepth 20000 in
theorem gX6_seen_X6_in : GoodIn wsX6_seen (va_wsS RX6 36 yX6_in wsX6_in) := goodIn_app (goodIn_of _ (by decide +kernel)) ggX6_seen_X6_in
set_option maxRecDepth 20000 in
theorem ggX6_seen_X6_seenBy : GoodIn wsX6_seen wsX6_seenBy := goodIn_r _ [17, 6, 18, 19, 20, 21, 22, 23, 24, 25, 26] (by decide +kernel) (by decide +kernel)
set_option maxRecDepth 20000 in
theorem gX6_seen_X6_seenBy : GoodIn wsX6_seen (wsV RX6 133 RX6 yX6_seenBy wsX6_seenBy) := goodIn_app (goodIn_of _ (by decide +kernel)) ggX6_seen_X6_seenBy
set_option maxRecDepth 20000 in
theorem ggX6_sum_X6_now : GoodIn wsX6_sum wsX6_now := goodIn_r _ [5, 6, 7, 8, 9, 10, 11, 12, 13, 14, 15] (by decide +kernel) (by decide +kernel)
set_option maxRecDepth 20000 in
theorem gX6_sum_X6_now : GoodIn wsX6_sum (wsV RX6 85 RX6 yX6_now wsX6_now) := goodIn_app (goodIn_of _ (by decide +kernel)) ggX6_sum_X6_now
set_option maxRecDepth 20000 in
theorem ggX6_greatest_X6_now : GoodIn wsX6_greatest wsX6_now := goodIn_r _ [5, 6, 10, 11, 12, 13, 14, 15, 16, 17, 18] (by decide +kernel) (by decide +kernel)
set_option maxRecDepth 20000 in
theorem gX6_greatest_X6_now : GoodIn wsX6_greatest (wsV RX6 85 RX6 yX6_now wsX6_now) := goodIn_app (goodIn_of _ (by decide +kernel)) ggX6_greatest_X6_now
set_option maxRecDepth 20000 in
theorem ggX6_greatest_X6_size : GoodIn wsX6_greatest wsX6_size := goodIn_r _ [9] (by decide +kernel) (by decide +kernel)
set_option maxRecDepth 20000 in
theorem gX6_greatest_X6_size : GoodIn wsX6_greatest (va_wsS RX6 88 yX6_size wsX6_size) := goodIn_app (goodIn_of _ (by decide +kernel)) ggX6_greatest_X6_size
set_option maxRecDepth 20000 in
theorem ggX6_count_X6_water : GoodIn wsX6_count wsX6_water := goodIn_r _ [9, 10, 11, 12, 8, 13, 1, 45, 46, 47, 48, 49, 50, 51, 52, 53] (by decide +kernel) (by decide +kernel)
set_option maxRecDepth 20000 in
theorem gX6_count_X6_water : GoodIn wsX6_count (wsV RX6 82 RX6 yX6_water wsX6_water) := goodIn_app (goodIn_of _ (by decide +kernel)) ggX6_count_X6_water
set_option maxRecDepth 20000 in
theorem ggX6_count_X6_stillOnes : GoodIn wsX6_count wsX6_stillOnes := goodIn_r _ [17, 10, 11, 12, 8, 13, 1, 18, 19, 20, 21, 22, 23, 24, 25, 26, 27, 28, 45, 46, 47, 48, 49, 50, 51, 52, 53] (by decide +kernel) (by decide +kernel)
set_option maxRecDepth 20000 in
theorem gX6_count_X6_stillOnes : GoodIn wsX6_count (wsV RX6 127 RX6 yX6_stillOnes wsX6_stillOnes) := goodIn_app (goodIn_of _ (by decide +kernel)) ggX6_count_X6_stillOnes
set_option maxRecDepth 20000 in
theorem ggX6_count_X6_sum : GoodIn wsX6_count wsX6_sum := goodIn_r _ [32, 22, 23, 24, 8, 25, 1, 45, 46, 47, 48, 49, 50, 51, 52, 53] (by decide +kernel) (by decide +kernel)
set_option maxRecDepth 20000 in
theorem gX6_count_X6_sum : GoodIn wsX6_count (wsV RX6 145 RX6 yX6_sum wsX6_sum) := goodIn_app (goodIn_of _ (by decide +kernel)) ggX6_count_X6_sum
set_option maxRecDepth 20000 in
theorem ggX6_count_X6_allSizes : GoodIn wsX6_count wsX6_allSizes := goodIn_r _ [36, 22, 23, 24, 8, 25, 1, 26, 27, 28, 45, 46, 47, 48, 49, 50, 51, 52, 53] (by decide +kernel) (by decide +kernel)
set_option maxRecDepth 20000 in
theorem gX6_count_X6_allSizes : GoodIn wsX6_count (wsV RX6 91 RX6 yX6_allSizes wsX6_allSizes) := goodIn_app (goodIn_of _ (by decide +kernel)) ggX6_count_X6_allSizes
set_option maxRecDepth 20000 in
theorem ggX6_count_X6_greatest : GoodIn wsX6_count wsX6_greatest := goodIn_r _ [40, 22, 23, 24, 8, 25, 1, 26, 27, 28, 45, 46, 47, 48, 49, 50, 51, 52, 53] (by decide +kernel) (by decide +kernel)
set_option maxRecDepth 20000 in
theorem gX6_count_X6_greatest : GoodIn wsX6_count (wsV RX6 149 RX6 yX6_greatest wsX6_greatest) := goodIn_app (goodIn_of _ (by decide +kernel)) ggX6_count_X6_greatest
set_option maxRecDepth 20000 in
theorem ggX6_count_X6_come : GoodIn wsX6_count wsX6_come := goodIn_r _ [44, 1, 45, 46, 47, 48, 49, 50, 51, 52, 53] (by decide +kernel) (by decide +kernel)
set_option maxRecDepth 20000 in
theorem gX6_count_X6_come : GoodIn wsX6_count (wsV RX6 152 RX6 yX6_come wsX6_come) := goodIn_app (goodIn_of _ (by decide +kernel)) ggX6_count_X6_come
set_option maxRecDepth 20000 in
theorem ggX6_loudest_X6_in : GoodIn wsX6_loudest wsX6_in := goodIn_r _ [4] (by decide +kernel) (by decide +kernel)
set_option maxRecDepth 20000 in
theorem gX6_loudest_X6_in : GoodIn wsX6_loudest (va_wsS RX6 36 yX6_in wsX6_in) := goodIn_app (goodIn_of _ (by decide +kernel)) ggX6_loudest_X6_in
set_option maxRecDepth 20000 in
theorem ggX6_loudest_X6_greatest : GoodIn wsX6_loudest wsX6_greatest := goodIn_r _ [8, 9, 10, 11, 3, 12, 13, 14, 15, 16, 17, 18, 19, 20, 21, 22, 23, 24, 25] (by decide +kernel) (by decide +kernel)
set_option maxRecDepth 20000 in
theorem gX6_loudest_X6_greatest : GoodIn wsX6_loudest (wsV RX6 149 RX6 yX6_greatest wsX6_greatest) := goodIn_app (goodIn_of _ (by decide +kernel)) ggX6_loudest_X6_greatest
set_option maxRecDepth 20000 in
theorem ggX6_loudest_X6_now : GoodIn wsX6_loudest wsX6_now := goodIn_r _ [12, 13, 17, 18, 19, 20, 21, 22, 23, 24, 25] (by decide +kernel) (by decide +kernel)
set_option maxRecDepth 20000 in
theorem gX6_loudest_X6_now : GoodIn wsX6_loudest (wsV RX6 85 RX6 yX6_now wsX6_now) := goodIn_app (goodIn_of _ (by decide +kernel)) ggX6_loudest_X6_now
set_option maxRecDepth 20000 in
theorem ggX6_loudest_X6_size : GoodIn wsX6_loudest wsX6_size := goodIn_r _ [16] (by decide +kernel) (by decide +kernel)
set_option maxRecDepth 20000 in
theorem gX6_loudest_X6_size : GoodIn wsX6_loudest (va_wsS RX6 88 yX6_size wsX6_size) := goodIn_app (goodIn_of _ (by decide +kernel)) ggX6_loudest_X6_size
set_option maxRecDepth 20000 in
theorem ggX6_heightAt_X6_isCell : GoodIn wsX6_heightAt wsX6_isCell := goodIn_r _ [4, 5, 6, 3, 7] (by decide +kernel) (by decide +kernel)
set_option maxRecDepth 20000 in
theorem gX6_heightAt_X6_isCell : GoodIn wsX6_heightAt (va_wsS RX6 58 yX6_isCell wsX6_isCell) := goodIn_app (goodIn_of _ (by decide +kernel)) ggX6_heightAt_X6_isCell
set_option maxRecDepth 20000 in
theorem ggX6_heightAt_X6_now : GoodIn wsX6_heightAt wsX6_now := goodIn_r _ [11, 12, 13, 14, 15, 16, 17, 18, 19, 20, 21] (by decide +kernel) (by decide +kernel)
set_option maxRecDepth 20000 in
theorem gX6_heightAt_X6_now : GoodIn wsX6_heightAt (wsV RX6 85 RX6 yX6_now wsX6_now) := goodIn_app (goodIn_of _ (by decide +kernel)) ggX6_heightAt_X6_now
set_option maxRecDepth 20000 in
theorem ggX6_crests_X6_in : GoodIn wsX6_crests wsX6_in := goodIn_r _ [4] (by decide +kernel) (by decide +kernel)
set_option maxRecDepth 20000 in
theorem gX6_crests_X6_in : GoodIn wsX6_crests (va_wsS RX6 36 yX6_in wsX6_in) := goodIn_app (goodIn_of _ (by decide +kernel)) ggX6_crests_X6_in
set_option maxRecDepth 20000 in
theorem ggX6_crests_X6_heightAt : GoodIn wsX6_crests wsX6_heightAt := goodIn_r _ [8, 9, 10, 3, 11, 1, 2, 4, 12, 13, 14, 15, 16, 17, 18, 19, 20, 21, 22, 23, 24, 25] (by decide +kernel) (by decide +kernel)
set_option maxRecDepth 20000 in
theorem gX6_crests_X6_heightAt : GoodIn wsX6_crests (wsV RX6 155 RX6 yX6_heightAt wsX6_heightAt) := goodIn_app (goodIn_of _ (by decide +kernel)) ggX6_crests_X6_heightAt
set_option maxRecDepth 20000 in
theorem ggX6_ifPassed_X6_isCell : GoodIn wsX6_ifPassed wsX6_isCell := goodIn_r _ [4, 5, 6, 3, 7] (by decide +kernel) (by decide +kernel)
set_option maxRecDepth 20000 in
theorem gX6_ifPassed_X6_isCell : GoodIn wsX6_ifPassed (va_wsS RX6 58 yX6_isCell wsX6_isCell) := goodIn_app (goodIn_of _ (by decide +kernel)) ggX6_ifPassed_X6_isCell
set_option maxRecDepth 20000 in
theorem ggX6_ifPassed_X6_in : GoodIn wsX6_ifPassed wsX6_in := goodIn_r _ [7] (by decide +kernel) (by decide +kernel)
set_option maxRecDepth 20000 in
theorem gX6_ifPassed_X6_in : GoodIn wsX6_ifPassed (va_wsS RX6 36 yX6_in wsX6_in) := goodIn_app (goodIn_of _ (by decide +kernel)) ggX6_ifPassed_X6_in
set_option maxRecDepth 20000 in
theorem ggX6_ifPassed_X6_putAside : GoodIn wsX6_ifPassed wsX6_putAside := goodIn_r _ [11, 12, 13, 69, 70, 71, 72, 73, 74, 75, 76, 77] (by decide +kernel) (by decide +kernel)
set_option maxRecDepth 20000 in
theorem gX6_ifPassed_X6_putAside : GoodIn wsX6_ifPassed (wsV RX6 158 RX6 yX6_putAside wsX6_putAside) := goodIn_app (goodIn_of _ (by decide +kernel)) ggX6_ifPassed_X6_putAside
set_option maxRecDepth 20000 in
theorem ggX6_ifPassed_X6_ticks : GoodIn wsX6_ifPassed wsX6_ticks := goodIn_r _ [17, 18, 19, 20, 3, 21, 22, 13, 23, 24, 25, 26, 27, 28, 29, 30, 31, 32, 33, 34, 35, 36, 37, 38, 39, 40, 41, 42, 43, 44, 45, 46, 47, 48, 49, 50, 51, 52, 53, 54, 1, 2, 4, 5, 6, 7, 55, 56, 57, 58, 59, 60, 61, 62, 63, 64, 69, 70, 71, 72, 73, 74, 75, 76, 77] (by decide +kernel) (by decide +kernel)
set_option maxRecDepth 20000 in
theorem gX6_ifPassed_X6_ticks : GoodIn wsX6_ifPassed (wsV RX6 124 RX6 yX6_ticks wsX6_ticks) := goodIn_app (goodIn_of _ (by decide +kernel)) ggX6_ifPassed_X6_ticks
set_option maxRecDepth 20000 in
theorem ggX6_ifPassed_X6_now : GoodIn wsX6_ifPassed wsX6_now := goodIn_r _ [46, 13, 69, 70, 71, 72, 73, 74, 75, 76, 77] (by decide +kernel) (by decide +kernel)
set_option maxRecDepth 20000 in
theorem gX6_ifPassed_X6_now : GoodIn wsX6_ifPassed (wsV RX6 85 RX6 yX6_now wsX6_now) := goodIn_app (goodIn_of _ (by decide +kernel)) ggX6_ifPassed_X6_now
set_option maxRecDepth 20000 in
theorem ggX6_ifPassed_X6_bringBack : GoodIn wsX6_ifPassed wsX6_bringBack := goodIn_r _ [68, 13, 12, 69, 70, 71, 72, 73, 74, 75, 76, 77] (by decide +kernel) (by decide +kernel)
set_option maxRecDepth 20000 in
theorem gX6_ifPassed_X6_bringBack : GoodIn wsX6_ifPassed (wsV RX6 161 RX6 yX6_bringBack wsX6_bringBack) := goodIn_app (goodIn_of _ (by decide +kernel)) ggX6_ifPassed_X6_bringBack
set_option maxRecDepth 20000 in
theorem ggX6_comes_X6_isCell : GoodIn wsX6_comes wsX6_isCell := goodIn_r _ [4, 5, 6, 3, 7] (by decide +kernel) (by decide +kernel)
set_option maxRecDepth 20000 in
theorem gX6_comes_X6_isCell : GoodIn wsX6_comes (va_wsS RX6 58 yX6_isCell wsX6_isCell) := goodIn_app (goodIn_of _ (by decide +kernel)) ggX6_comes_X6_isCell
set_option maxRecDepth 20000 in
theorem ggX6_comes_X6_isStill : GoodIn wsX6_comes wsX6_isStill := goodIn_r _ [11, 12, 13, 14, 15, 3, 16, 17, 18, 19, 69, 70, 71, 72, 73, 74, 75, 76, 77] (by decide +kernel) (by decide +kernel)
set_option maxRecDepth 20000 in
theorem gX6_comes_X6_isStill : GoodIn wsX6_comes (wsV RX6 117 RX6 yX6_isStill wsX6_isStill) := goodIn_app (goodIn_of _ (by decide +kernel)) ggX6_comes_X6_isStill
set_option maxRecDepth 20000 in
theorem ggX6_comes_X6_putAside : GoodIn wsX6_comes wsX6_putAside := goodIn_r _ [23, 24, 12, 69, 70, 71, 72, 73, 74, 75, 76, 77] (by decide +kernel) (by decide +kernel)
set_option maxRecDepth 20000 in
theorem gX6_comes_X6_putAside : GoodIn wsX6_comes (wsV RX6 158 RX6 yX6_putAside wsX6_putAside) := goodIn_app (goodIn_of _ (by decide +kernel)) ggX6_comes_X6_putAside
set_option maxRecDepth 20000 in
theorem ggX6_comes_X6_tick : GoodIn wsX6_comes wsX6_tick := goodIn_r _ [28, 29, 12, 30, 31, 32, 3, 33, 34, 35, 36, 37, 38, 39, 40, 41, 42, 43, 44, 45, 46, 47, 48, 49, 13, 14, 15, 16, 50, 51, 52, 53, 54, 55, 56, 57, 1, 2, 4, 5, 6, 7, 58, 59, 60, 17, 18, 19, 61, 62, 63, 64, 69, 70, 71, 72, 73, 74, 75, 76, 77] (by decide +kernel) (by decide +kernel)
set_option maxRecDepth 20000 in
theorem gX6_comes_X6_tick : GoodIn wsX6_comes (wsV RX6 120 RX6 yX6_tick wsX6_tick) := goodIn_app (goodIn_of _ (by decide +kernel)) ggX6_comes_X6_tick
set_option maxRecDepth 20000 in
theorem ggX6_comes_X6_bringBack : GoodIn wsX6_comes wsX6_bringBack := goodIn_r _ [68, 12, 24, 69, 70, 71, 72, 73, 74, 75, 76, 77] (by decide +kernel) (by decide +kernel)
set_option maxRecDepth 20000 in
theorem gX6_comes_X6_bringBack : GoodIn wsX6_comes (wsV RX6 161 RX6 yX6_bringBack wsX6_bringBack) := goodIn_app (goodIn_of _ (by decide +kernel)) ggX6_comes_X6_bringBack
set_option maxRecDepth 20000 in
theorem ggX6_hush_X6_isDipper : GoodIn wsX6_hush wsX6_isDipper := goodIn_r _ [7, 2, 73, 74, 75, 76, 77, 78, 79, 80, 81] (by decide +kernel) (by decide +kernel)
set_option maxRecDepth 20000 in
theorem gX6_hush_X6_isDipper : GoodIn wsX6_hush (wsV RX6 94 RX6 yX6_isDipper wsX6_isDipper) := goodIn_app (goodIn_of _ (by decide +kernel)) ggX6_hush_X6_isDipper
set_option maxRecDepth 20000 in
theorem ggX6_hush_X6_isCell : GoodIn wsX6_hush wsX6_isCell := goodIn_r _ [10, 11, 12, 6, 13] (by decide +kernel) (by decide +kernel)
set_option maxRecDepth 20000 in
theorem gX6_hush_X6_isCell : GoodIn wsX6_hush (va_wsS RX6 58 yX6_isCell wsX6_isCell) := goodIn_app (goodIn_of _ (by decide +kernel)) ggX6_hush_X6_isCell
set_option maxRecDepth 20000 in
theorem ggX6_hush_X6_in : GoodIn wsX6_hush wsX6_in := goodIn_r _ [13] (by decide +kernel) (by decide +kernel)
set_option maxRecDepth 20000 in
theorem gX6_hush_X6_in : GoodIn wsX6_hush (va_wsS RX6 36 yX6_in wsX6_in) := goodIn_app (goodIn_of _ (by decide +kernel)) ggX6_hush_X6_in
set_option maxRecDepth 20000 in
theorem ggX6_hush_X6_putAside : GoodIn wsX6_hush wsX6_putAside := goodIn_r _ [17, 1, 2, 73, 74, 75, 76, 77, 78, 79, 80, 81] (by decide +kernel) (by decide +kernel)
set_option maxRecDepth 20000 in
theorem gX6_hush_X6_putAside : GoodIn wsX6_hush (wsV RX6 158 RX6 yX6_putAside wsX6_putAside) := goodIn_app (goodIn_of _ (by decide +kernel)) ggX6_hush_X6_putAside
set_option maxRecDepth 20000 in
theorem ggX6_hush_X6_bringBack : GoodIn wsX6_hush wsX6_bringBack := goodIn_r _ [21, 2, 1, 73, 74, 75, 76, 77, 78, 79, 80, 81] (by decide +kernel) (by decide +kernel)
set_option maxRecDepth 20000 in
theorem gX6_hush_X6_bringBack : GoodIn wsX6_hush (wsV RX6 161 RX6 yX6_bringBack wsX6_bringBack) := goodIn_app (goodIn_of _ (by decide +kernel)) ggX6_hush_X6_bringBack
set_option maxRecDepth 20000 in
theorem ggX6_hush_X6_ticks : GoodIn wsX6_hush wsX6_ticks := goodIn_r _ [25, 26, 27, 28, 6, 29, 30, 2, 31, 32, 33, 34, 35, 36, 37, 38, 39, 40, 41, 42, 43, 44, 45, 46, 47, 48, 49, 50, 51, 52, 53, 54, 55, 56, 57, 58, 59, 60, 61, 62, 8, 9, 10, 11, 12, 13, 63, 64, 65, 66, 67, 68, 69, 70, 71, 72, 73, 74, 75, 76, 77, 78, 79, 80, 81] (by decide +kernel) (by decide +kernel)
set_option maxRecDepth 20000 in
theorem gX6_hush_X6_ticks : GoodIn wsX6_hush (wsV RX6 124 RX6 yX6_ticks wsX6_ticks) := goodIn_app (goodIn_of _ (by decide +kernel)) ggX6_hush_X6_ticks
set_option maxRecDepth 20000 in
theorem ggX6_hush_X6_now : GoodIn wsX6_hush wsX6_now := goodIn_r _ [54, 2, 73, 74, 75, 76, 77, 78, 79, 80, 81] (by decide +kernel) (by decide +kernel)
set_option maxRecDepth 20000 in
theorem gX6_hush_X6_now : GoodIn wsX6_hush (wsV RX6 85 RX6 yX6_now wsX6_now) := goodIn_app (goodIn_of _ (by decide +kernel)) ggX6_hush_X6_now
set_option maxRecDepth 20000 in
theorem ggX6_hush_X6_size : GoodIn wsX6_hush wsX6_size := goodIn_r _ [68] (by decide +kernel) (by decide +kernel)
set_option maxRecDepth 20000 in
theorem gX6_hush_X6_size : GoodIn wsX6_hush (va_wsS RX6 88 yX6_size wsX6_size) := goodIn_app (goodIn_of _ (by decide +kernel)) ggX6_hush_X6_size
set_option maxRecDepth 20000 in
theorem ggX6_put_X6_in : GoodIn wsX6_put wsX6_in := goodIn_r _ [7] (by decide +kernel) (by decide +kernel)
set_option maxRecDepth 20000 in
theorem gX6_put_X6_in : GoodIn wsX6_put (va_wsS RX6 36 yX6_in wsX6_in) := goodIn_app (goodIn_of _ (by decide +kernel)) ggX6_put_X6_in
set_option maxRecDepth 20000 in
theorem ggX6_readPad_X6_floorOf : GoodIn wsX6_readPad wsX6_floorOf := goodIn_r _ [6] (by decide +kernel) (by decide +kernel)
set_option maxRecDepth 20000 in
theorem gX6_readPad_X6_floorOf : GoodIn wsX6_readPad (va_wsS RX6 73 yX6_floorOf wsX6_floorOf) := goodIn_app (goodIn_of _ (by decide +kernel)) ggX6_readPad_X6_floorOf
end
section
set_option maxRecDepth 20000 in
theorem ggX6_fault_X6_readPad : GoodIn wsX6_fault wsX6_readPad := goodIn_r _ [5, 6, 7, 8, 9, 4, 10, 11, 12, 13, 14, 15, 16, 17, 18, 19] (by decide +kernel) (by decide +kernel)
set_option maxRecDepth 20000 in
theorem gX6_fault_X6_readPad : GoodIn wsX6_fault (wsV RX6 69 RX6 yX6_readPad wsX6_readPad) := goodIn_app (goodIn_of _ (by decide +kernel)) ggX6_fault_X6_readPad
set_option maxRecDepth 20000 in
theorem ggJ0_length_8abf5_J0_coder_7d493 : GoodIn wsJ0_length_8abf5 wsJ0_coder_7d493 := goodIn_r _ [6, 7, 8] (by decide +kernel) (by decide +kernel)
set_option maxRecDepth 20000 in
theorem gJ0_length_8abf5_J0_coder_7d493 : GoodIn wsJ0_length_8abf5 (wsV RJ0 335 RJ0 yJ0_coder_7d493 wsJ0_coder_7d493) := goodIn_app (goodIn_of _ (by decide +kernel)) ggJ0_length_8abf5_J0_coder_7d493
set_option maxRecDepth 20000 in
theorem ggJ0_indexOf_0f7a4_J0_indexOf_7cf53 : GoodIn wsJ0_indexOf_0f7a4 wsJ0_indexOf_7cf53 := goodIn_r _ [5, 6, 7, 8, 9, 4, 10, 11, 12, 13, 14, 15, 16, 17, 18, 19, 20, 21, 22, 23, 24, 25, 26, 27, 28, 29, 30, 31, 32, 33, 34, 35, 36, 37, 38, 39, 40, 41, 42, 43, 44, 45, 46, 47, 48, 49, 50, 51, 52, 53, 54, 55, 56, 57, 58, 59, 60, 61, 62, 63, 64, 65, 66, 67, 68, 69, 70, 71, 72, 73, 74, 75, 76, 77, 78, 79, 80, 81, 82, 83, 84, 85] (by decide +kernel) (by decide +kernel)
set_option maxRecDepth 20000 in
theorem gJ0_indexOf_0f7a4_J0_indexOf_7cf53 : GoodIn wsJ0_indexOf_0f7a4 (wsV RJ0 633 RJ0 yJ0_indexOf_7cf53 wsJ0_indexOf_7cf53) := goodIn_app (goodIn_of _ (by decide +kernel)) ggJ0_indexOf_0f7a4_J0_indexOf_7cf53
set_option maxRecDepth 20000 in
theorem ggJ0_indexOf_7cf53_J0_isLatin1_aae02 : GoodIn wsJ0_indexOf_7cf53 wsJ0_isLatin1_aae02 := goodIn_r _ [6, 7, 8] (by decide +kernel) (by decide +kernel)
set_option maxRecDepth 20000 in
theorem gJ0_indexOf_7cf53_J0_isLatin1_aae02 : GoodIn wsJ0_indexOf_7cf53 (wsV RJ0 492 RJ0 yJ0_isLatin1_aae02 wsJ0_isLatin1_aae02) := goodIn_app (goodIn_of _ (by decide +kernel)) ggJ0_indexOf_7cf53_J0_isLatin1_aae02
set_option maxRecDepth 20000 in
theorem ggJ0_indexOf_7cf53_J0_length_8abf5 : GoodIn wsJ0_indexOf_7cf53 wsJ0_length_8abf5 := goodIn_r _ [12, 1, 13, 14, 15, 5, 16, 7, 8] (by decide +kernel) (by decide +kernel)
set_option maxRecDepth 20000 in
theorem gJ0_indexOf_7cf53_J0_length_8abf5 : GoodIn wsJ0_indexOf_7cf53 (wsV RJ0 505 RJ0 yJ0_length_8abf5 wsJ0_length_8abf5) := goodIn_app (goodIn_of _ (by decide +kernel)) ggJ0_indexOf_7cf53_J0_length_8abf5
set_option maxRecDepth 20000 in
theorem ggJ0_indexOf_7cf53_J1_indexOf_4cfef : GoodIn wsJ0_indexOf_7cf53 wsJ1_indexOf_4cfef := goodIn_r _ [20, 21, 22, 23, 24, 25, 26, 27, 28, 29, 19, 30, 31, 32, 33] (by decide +kernel) (by decide +kernel)
set_option maxRecDepth 20000 in
theorem gJ0_indexOf_7cf53_J1_indexOf_4cfef : GoodIn wsJ0_indexOf_7cf53 (va_wsS RJ0 637 yJ1_indexOf_4cfef wsJ1_indexOf_4cfef) := goodIn_app (goodIn_of _ (by decide +kernel)) ggJ0_indexOf_7cf53_J1_indexOf_4cfef
set_option maxRecDepth 20000 in
theorem ggJ0_indexOf_7cf53_J2_indexOf_4cfef : GoodIn wsJ0_indexOf_7cf53 wsJ2_indexOf_4cfef := goodIn_r _ [37, 38, 22, 23, 24, 39, 26, 27, 40, 41, 42, 36, 43, 44, 45, 46, 47, 48, 49, 50, 51, 5, 52, 53, 54, 55, 56, 57, 58, 59, 60, 61, 62, 63, 64, 65, 66, 67, 68, 69, 70, 71, 72, 73, 74, 75, 76, 77, 78, 79, 80, 81] (by decide +kernel) (by decide +kernel)
set_option maxRecDepth 20000 in
theorem gJ0_indexOf_7cf53_J2_indexOf_4cfef : GoodIn wsJ0_indexOf_7cf53 (va_wsS RJ0 640 yJ2_indexOf_4cfef wsJ2_indexOf_4cfef) := goodIn_app (goodIn_of _ (by decide +kernel)) ggJ0_indexOf_7cf53_J2_indexOf_4cfef
set_option maxRecDepth 20000 in
theorem ggJ0_checkBoundsBeginEnd_23922_J3_checkFromToIndex_8c36e : GoodIn wsJ0_checkBoundsBeginEnd_23922 wsJ3_checkFromToIndex_8c36e := goodIn_r _ [5] (by decide +kernel) (by decide +kernel)
set_option maxRecDepth 20000 in
theorem gJ0_checkBoundsBeginEnd_23922_J3_checkFromToIndex_8c36e : GoodIn wsJ0_checkBoundsBeginEnd_23922 (va_wsS RJ0 1062 yJ3_checkFromToIndex_8c36e wsJ3_checkFromToIndex_8c36e) := goodIn_app (goodIn_of _ (by decide +kernel)) ggJ0_checkBoundsBeginEnd_23922_J3_checkFromToIndex_8c36e
set_option maxRecDepth 20000 in
theorem ggJ1_indexOf_4cfef_J1_canEncode_9a6ad : GoodIn wsJ1_indexOf_4cfef wsJ1_canEncode_9a6ad := goodIn_r _ [11] (by decide +kernel) (by decide +kernel)
set_option maxRecDepth 20000 in
theorem gJ1_indexOf_4cfef_J1_canEncode_9a6ad : GoodIn wsJ1_indexOf_4cfef (va_wsS RJ1 88 yJ1_canEncode_9a6ad wsJ1_canEncode_9a6ad) := goodIn_app (goodIn_of _ (by decide +kernel)) ggJ1_indexOf_4cfef_J1_canEncode_9a6ad
set_option maxRecDepth 20000 in
theorem ggJ1_indexOf_4cfef_J1_indexOfChar_4cfef : GoodIn wsJ1_indexOf_4cfef wsJ1_indexOfChar_4cfef := goodIn_r _ [14] (by decide +kernel) (by decide +kernel)
set_option maxRecDepth 20000 in
theorem gJ1_indexOf_4cfef_J1_indexOfChar_4cfef : GoodIn wsJ1_indexOf_4cfef (va_wsS RJ1 95 yJ1_indexOfChar_4cfef wsJ1_indexOfChar_4cfef) := goodIn_app (goodIn_of _ (by decide +kernel)) ggJ1_indexOf_4cfef_J1_indexOfChar_4cfef
set_option maxRecDepth 20000 in
theorem ggJ2_getChar_3b067_J2_length_9d52b : GoodIn wsJ2_getChar_3b067 wsJ2_length_9d52b := goodIn_r _ [7] (by decide +kernel) (by decide +kernel)
set_option maxRecDepth 20000 in
theorem gJ2_getChar_3b067_J2_length_9d52b : GoodIn wsJ2_getChar_3b067 (va_wsS RJ2 48 yJ2_length_9d52b wsJ2_length_9d52b) := goodIn_app (goodIn_of _ (by decide +kernel)) ggJ2_getChar_3b067_J2_length_9d52b
set_option maxRecDepth 20000 in
theorem ggJ2_indexOf_4cfef_J2_indexOfChar_4cfef : GoodIn wsJ2_indexOf_4cfef wsJ2_indexOfChar_4cfef := goodIn_r _ [12, 13, 14, 11, 15, 16, 17, 18, 19, 20, 21, 22, 23, 24, 25, 26, 27, 28, 29, 30, 31, 32, 33, 34, 35, 36] (by decide +kernel) (by decide +kernel)
set_option maxRecDepth 20000 in
theorem gJ2_indexOf_4cfef_J2_indexOfChar_4cfef : GoodIn wsJ2_indexOf_4cfef (va_wsS RJ2 228 yJ2_indexOfChar_4cfef wsJ2_indexOfChar_4cfef) := goodIn_app (goodIn_of _ (by decide +kernel)) ggJ2_indexOf_4cfef_J2_indexOfChar_4cfef
set_option maxRecDepth 20000 in
theorem ggJ2_indexOf_4cfef_J2_indexOfSupplementary_4cfef : GoodIn wsJ2_indexOf_4cfef wsJ2_indexOfSupplementary_4cfef := goodIn_r _ [39, 40, 41, 42, 43, 44, 45, 46, 47, 48, 49, 50, 51, 13, 14, 11, 15, 16, 17, 18, 19, 20, 21, 22, 23, 24, 25, 26, 27, 31, 32, 33, 34, 35, 36] (by decide +kernel) (by decide +kernel)
set_option maxRecDepth 20000 in
theorem gJ2_indexOf_4cfef_J2_indexOfSupplementary_4cfef : GoodIn wsJ2_indexOf_4cfef (va_wsS RJ2 232 yJ2_indexOfSupplementary_4cfef wsJ2_indexOfSupplementary_4cfef) := goodIn_app (goodIn_of _ (by decide +kernel)) ggJ2_indexOf_4cfef_J2_indexOfSupplementary_4cfef
set_option maxRecDepth 20000 in
theorem ggJ2_indexOfChar_4cfef_J2_checkBoundsBeginEnd_d044e : GoodIn wsJ2_indexOfChar_4cfef wsJ2_checkBoundsBeginEnd_d044e := goodIn_r _ [4, 5, 6, 3, 7, 8, 9, 10, 11, 12, 13, 14, 15, 16] (by decide +kernel) (by decide +kernel)
set_option maxRecDepth 20000 in
theorem gJ2_indexOfChar_4cfef_J2_checkBoundsBeginEnd_d044e : GoodIn wsJ2_indexOfChar_4cfef (va_wsS RJ2 96 yJ2_checkBoundsBeginEnd_d044e wsJ2_checkBoundsBeginEnd_d044e) := goodIn_app (goodIn_of _ (by decide +kernel)) ggJ2_indexOfChar_4cfef_J2_checkBoundsBeginEnd_d044e
set_option maxRecDepth 20000 in
theorem ggJ2_indexOfChar_4cfef_J2_indexOfCharUnsafe_4cfef : GoodIn wsJ2_indexOfChar_4cfef wsJ2_indexOfCharUnsafe_4cfef := goodIn_r _ [19, 20, 21, 3, 22, 23, 24, 25, 5, 6, 7] (by decide +kernel) (by decide +kernel)
set_option maxRecDepth 20000 in
theorem gJ2_indexOfChar_4cfef_J2_indexOfCharUnsafe_4cfef : GoodIn wsJ2_indexOfChar_4cfef (va_wsS RJ2 244 yJ2_indexOfCharUnsafe_4cfef wsJ2_indexOfCharUnsafe_4cfef) := goodIn_app (goodIn_of _ (by decide +kernel)) ggJ2_indexOfChar_4cfef_J2_indexOfCharUnsafe_4cfef
set_option maxRecDepth 20000 in
theorem ggJ2_indexOfCharUnsafe_4cfef_J2_getChar_3b067 : GoodIn wsJ2_indexOfCharUnsafe_4cfef wsJ2_getChar_3b067 := goodIn_r _ [4, 5, 6, 7, 8, 9, 3, 10] (by decide +kernel) (by decide +kernel)
set_option maxRecDepth 20000 in
theorem gJ2_indexOfCharUnsafe_4cfef_J2_getChar_3b067 : GoodIn wsJ2_indexOfCharUnsafe_4cfef (va_wsS RJ2 71 yJ2_getChar_3b067 wsJ2_getChar_3b067) := goodIn_app (goodIn_of _ (by decide +kernel)) ggJ2_indexOfCharUnsafe_4cfef_J2_getChar_3b067
set_option maxRecDepth 20000 in
theorem ggJ2_indexOfSupplementary_4cfef_J11_isValidCodePoint_9a6ad : GoodIn wsJ2_indexOfSupplementary_4cfef wsJ11_isValidCodePoint_9a6ad := goodIn_r _ [4] (by decide +kernel) (by decide +kernel)
set_option maxRecDepth 20000 in
theorem gJ2_indexOfSupplementary_4cfef_J11_isValidCodePoint_9a6ad : GoodIn wsJ2_indexOfSupplementary_4cfef (va_wsS RJ2 164 yJ11_isValidCodePoint_9a6ad wsJ11_isValidCodePoint_9a6ad) := goodIn_app (goodIn_of _ (by decide +kernel)) ggJ2_indexOfSupplementary_4cfef_J11_isValidCodePoint_9a6ad
set_option maxRecDepth 20000 in
theorem ggJ2_indexOfSupplementary_4cfef_J11_highSurrogate_5068e : GoodIn wsJ2_indexOfSupplementary_4cfef wsJ11_highSurrogate_5068e := goodIn_r _ [7, 8] (by decide +kernel) (by decide +kernel)
set_option maxRecDepth 20000 in
theorem gJ2_indexOfSupplementary_4cfef_J11_highSurrogate_5068e : GoodIn wsJ2_indexOfSupplementary_4cfef (va_wsS RJ2 157 yJ11_highSurrogate_5068e wsJ11_highSurrogate_5068e) := goodIn_app (goodIn_of _ (by decide +kernel)) ggJ2_indexOfSupplementary_4cfef_J11_highSurrogate_5068e
set_option maxRecDepth 20000 in
theorem ggJ2_indexOfSupplementary_4cfef_J11_lowSurrogate_5068e : GoodIn wsJ2_indexOfSupplementary_4cfef wsJ11_lowSurrogate_5068e := goodIn_r _ [11, 12] (by decide +kernel) (by decide +kernel)
set_option maxRecDepth 20000 in
theorem gJ2_indexOfSupplementary_4cfef_J11_lowSurrogate_5068e : GoodIn wsJ2_indexOfSupplementary_4cfef (va_wsS RJ2 161 yJ11_lowSurrogate_5068e wsJ11_lowSurrogate_5068e) := goodIn_app (goodIn_of _ (by decide +kernel)) ggJ2_indexOfSupplementary_4cfef_J11_lowSurrogate_5068e
set_option maxRecDepth 20000 in
theorem ggJ2_indexOfSupplementary_4cfef_J2_checkBoundsBeginEnd_d044e : GoodIn wsJ2_indexOfSupplementary_4cfef wsJ2_checkBoundsBeginEnd_d044e := goodIn_r _ [16, 17, 18, 15, 19, 20, 21, 22, 23, 24, 25, 26, 27, 28] (by decide +kernel) (by decide +kernel)
set_option maxRecDepth 20000 in
theorem gJ2_indexOfSupplementary_4cfef_J2_checkBoundsBeginEnd_d044e : GoodIn wsJ2_indexOfSupplementary_4cfef (va_wsS RJ2 96 yJ2_checkBoundsBeginEnd_d044e wsJ2_checkBoundsBeginEnd_d044e) := goodIn_app (goodIn_of _ (by decide +kernel)) ggJ2_indexOfSupplementary_4cfef_J2_checkBoundsBeginEnd_d044e
set_option maxRecDepth 20000 in
theorem ggJ2_indexOfSupplementary_4cfef_J2_getChar_3b067 : GoodIn wsJ2_indexOfSupplementary_4cfef wsJ2_getChar_3b067 := goodIn_r _ [31, 32, 33, 34, 17, 18, 15, 19] (by decide +kernel) (by decide +kernel)
set_option maxRecDepth 20000 in
theorem gJ2_indexOfSupplementary_4cfef_J2_getChar_3b067 : GoodIn wsJ2_indexOfSupplementary_4cfef (va_wsS RJ2 71 yJ2_getChar_3b067 wsJ2_getChar_3b067) := goodIn_app (goodIn_of _ (by decide +kernel)) ggJ2_indexOfSupplementary_4cfef_J2_getChar_3b067
set_option maxRecDepth 20000 in
theorem ggJ2_checkBoundsBeginEnd_d044e_J2_length_9d52b : GoodIn wsJ2_checkBoundsBeginEnd_d044e wsJ2_length_9d52b := goodIn_r _ [4] (by decide +kernel) (by decide +kernel)
set_option maxRecDepth 20000 in
theorem gJ2_checkBoundsBeginEnd_d044e_J2_length_9d52b : GoodIn wsJ2_checkBoundsBeginEnd_d044e (va_wsS RJ2 48 yJ2_length_9d52b wsJ2_length_9d52b) := goodIn_app (goodIn_of _ (by decide +kernel)) ggJ2_checkBoundsBeginEnd_d044e_J2_length_9d52b
set_option maxRecDepth 20000 in
theorem ggJ2_checkBoundsBeginEnd_d044e_J0_checkBoundsBeginEnd_23922 : GoodIn wsJ2_checkBoundsBeginEnd_d044e wsJ0_checkBoundsBeginEnd_23922 := goodIn_r _ [8, 9, 10, 11, 12, 13] (by decide +kernel) (by decide +kernel)
set_option maxRecDepth 20000 in
theorem gJ2_checkBoundsBeginEnd_d044e_J0_checkBoundsBeginEnd_23922 : GoodIn wsJ2_checkBoundsBeginEnd_d044e (va_wsS RJ2 241 yJ0_checkBoundsBeginEnd_23922 wsJ0_checkBoundsBeginEnd_23922) := goodIn_app (goodIn_of _ (by decide +kernel)) ggJ2_checkBoundsBeginEnd_d044e_J0_checkBoundsBeginEnd_23922
end
section
theorem dX0_init_0 : decode cX0_init 0 = .ok (.aload_n 0, 1) := by decide +kernel
theorem dX0_init_1 : decode cX0_init 1 = .ok (.invokespecial 3, 3) := by decide +kernel
theorem dX0_init_4 : decode cX0_init 4 = .ok (.aload_n 0, 1) := by decide +kernel
theorem dX0_init_5 : decode cX0_init 5 = .ok (.iconst 5, 1) := by decide +kernel
theorem dX0_init_6 : decode cX0_init 6 = .ok (.newarray .int, 2) := by decide +kernel
theorem dX0_init_8 : decode cX0_init 8 = .ok (.putfield 9, 3) := by decide +kernel
theorem dX0_init_11 : decode cX0_init 11 = .ok (.aload_n 0, 1) := by decide +kernel
theorem dX0_init_12 : decode cX0_init 12 = .ok (.iconst 5, 1) := by decide +kernel
theorem dX0_init_13 : decode cX0_init 13 = .ok (.newarray .int, 2) := by decide +kernel
theorem dX0_init_15 : decode cX0_init 15 = .ok (.putfield 15, 3) := by decide +kernel
theorem dX0_init_18 : decode cX0_init 18 = .ok (.aload_n 0, 1) := by decide +kernel
theorem dX0_init_19 : decode cX0_init 19 = .ok (.iconst 5, 1) := by decide +kernel
theorem dX0_init_20 : decode cX0_init 20 = .ok (.newarray .int, 2) := by decide +kernel
theorem dX0_init_22 : decode cX0_init 22 = .ok (.putfield 18, 3) := by decide +kernel
theorem dX0_init_25 : decode cX0_init 25 = .ok (.aload_n 0, 1) := by decide +kernel
theorem dX0_init_26 : decode cX0_init 26 = .ok (.iconst 5, 1) := by decide +kernel
theorem dX0_init_27 : decode cX0_init 27 = .ok (.newarray .int, 2) := by decide +kernel
theorem dX0_init_29 : decode cX0_init 29 = .ok (.putfield 21, 3) := by decide +kernel
theorem dX0_init_32 : decode cX0_init 32 = .ok (.aload_n 0, 1) := by decide +kernel
theorem dX0_init_33 : decode cX0_init 33 = .ok (.iconst 0, 1) := by decide +kernel
theorem dX0_init_34 : decode cX0_init 34 = .ok (.putfield 24, 3) := by decide +kernel
theorem dX0_init_37 : decode cX0_init 37 = .ok (.return_, 1) := by decide +kernel
theorem dX0_become_0 : decode cX0_become 0 = .ok (.aload_n 1, 1) := by decide +kernel
theorem dX0_become_1 : decode cX0_become 1 = .ok (.getfield 9, 3) := by decide +kernel
theorem dX0_become_4 : decode cX0_become 4 = .ok (.iconst 0, 1) := by decide +kernel
theorem dX0_become_5 : decode cX0_become 5 = .ok (.aload_n 0, 1) := by decide +kernel
theorem dX0_become_6 : decode cX0_become 6 = .ok (.getfield 9, 3) := by decide +kernel
theorem dX0_become_9 : decode cX0_become 9 = .ok (.iconst 0, 1) := by decide +kernel
theorem dX0_become_10 : decode cX0_become 10 = .ok (.iconst 5, 1) := by decide +kernel
theorem dX0_become_11 : decode cX0_become 11 = .ok (.invokestatic 28, 3) := by decide +kernel
theorem dX0_become_14 : decode cX0_become 14 = .ok (.aload_n 1, 1) := by decide +kernel
theorem dX0_become_15 : decode cX0_become 15 = .ok (.getfield 15, 3) := by decide +kernel
theorem dX0_become_18 : decode cX0_become 18 = .ok (.iconst 0, 1) := by decide +kernel
theorem dX0_become_19 : decode cX0_become 19 = .ok (.aload_n 0, 1) := by decide +kernel
theorem dX0_become_20 : decode cX0_become 20 = .ok (.getfield 15, 3) := by decide +kernel
theorem dX0_become_23 : decode cX0_become 23 = .ok (.iconst 0, 1) := by decide +kernel
theorem dX0_become_24 : decode cX0_become 24 = .ok (.iconst 5, 1) := by decide +kernel
theorem dX0_become_25 : decode cX0_become 25 = .ok (.invokestatic 28, 3) := by decide +kernel
theorem dX0_become_28 : decode cX0_become 28 = .ok (.aload_n 1, 1) := by decide +kernel
theorem dX0_become_29 : decode cX0_become 29 = .ok (.getfield 18, 3) := by decide +kernel
theorem dX0_become_32 : decode cX0_become 32 = .ok (.iconst 0, 1) := by decide +kernel
theorem dX0_become_33 : decode cX0_become 33 = .ok (.aload_n 0, 1) := by decide +kernel
theorem dX0_become_34 : decode cX0_become 34 = .ok (.getfield 18, 3) := by decide +kernel
theorem dX0_become_37 : decode cX0_become 37 = .ok (.iconst 0, 1) := by decide +kernel
theorem dX0_become_38 : decode cX0_become 38 = .ok (.iconst 5, 1) := by decide +kernel
theorem dX0_become_39 : decode cX0_become 39 = .ok (.invokestatic 28, 3) := by decide +kernel
theorem dX0_become_42 : decode cX0_become 42 = .ok (.aload_n 1, 1) := by decide +kernel
theorem dX0_become_43 : decode cX0_become 43 = .ok (.getfield 21, 3) := by decide +kernel
theorem dX0_become_46 : decode cX0_become 46 = .ok (.iconst 0, 1) := by decide +kernel
theorem dX0_become_47 : decode cX0_become 47 = .ok (.aload_n 0, 1) := by decide +kernel
theorem dX0_become_48 : decode cX0_become 48 = .ok (.getfield 21, 3) := by decide +kernel
theorem dX0_become_51 : decode cX0_become 51 = .ok (.iconst 0, 1) := by decide +kernel
theorem dX0_become_52 : decode cX0_become 52 = .ok (.iconst 5, 1) := by decide +kernel
theorem dX0_become_53 : decode cX0_become 53 = .ok (.invokestatic 28, 3) := by decide +kernel
theorem dX0_become_56 : decode cX0_become 56 = .ok (.aload_n 0, 1) := by decide +kernel
theorem dX0_become_57 : decode cX0_become 57 = .ok (.aload_n 1, 1) := by decide +kernel
theorem dX0_become_58 : decode cX0_become 58 = .ok (.getfield 24, 3) := by decide +kernel
theorem dX0_become_61 : decode cX0_become 61 = .ok (.putfield 24, 3) := by decide +kernel
theorem dX0_become_64 : decode cX0_become 64 = .ok (.return_, 1) := by decide +kernel
theorem dX0_append_0 : decode cX0_append 0 = .ok (.aload_n 0, 1) := by decide +kernel
theorem dX0_append_1 : decode cX0_append 1 = .ok (.getfield 9, 3) := by decide +kernel
theorem dX0_append_4 : decode cX0_append 4 = .ok (.aload_n 0, 1) := by decide +kernel
theorem dX0_append_5 : decode cX0_append 5 = .ok (.getfield 24, 3) := by decide +kernel
theorem dX0_append_8 : decode cX0_append 8 = .ok (.iload_n 1, 1) := by decide +kernel
theorem dX0_append_9 : decode cX0_append 9 = .ok (.iastore, 1) := by decide +kernel
theorem dX0_append_10 : decode cX0_append 10 = .ok (.aload_n 0, 1) := by decide +kernel
theorem dX0_append_11 : decode cX0_append 11 = .ok (.getfield 15, 3) := by decide +kernel
theorem dX0_append_14 : decode cX0_append 14 = .ok (.aload_n 0, 1) := by decide +kernel
theorem dX0_append_15 : decode cX0_append 15 = .ok (.getfield 24, 3) := by decide +kernel
theorem dX0_append_18 : decode cX0_append 18 = .ok (.iload_n 2, 1) := by decide +kernel
theorem dX0_append_19 : decode cX0_append 19 = .ok (.iastore, 1) := by decide +kernel
theorem dX0_append_20 : decode cX0_append 20 = .ok (.aload_n 0, 1) := by decide +kernel
theorem dX0_append_21 : decode cX0_append 21 = .ok (.getfield 18, 3) := by decide +kernel
theorem dX0_append_24 : decode cX0_append 24 = .ok (.aload_n 0, 1) := by decide +kernel
theorem dX0_append_25 : decode cX0_append 25 = .ok (.getfield 24, 3) := by decide +kernel
theorem dX0_append_28 : decode cX0_append 28 = .ok (.iload_n 3, 1) := by decide +kernel
theorem dX0_append_29 : decode cX0_append 29 = .ok (.iastore, 1) := by decide +kernel
theorem dX0_append_30 : decode cX0_append 30 = .ok (.aload_n 0, 1) := by decide +kernel
theorem dX0_append_31 : decode cX0_append 31 = .ok (.getfield 21, 3) := by decide +kernel
theorem dX0_append_34 : decode cX0_append 34 = .ok (.aload_n 0, 1) := by decide +kernel
theorem dX0_append_35 : decode cX0_append 35 = .ok (.getfield 24, 3) := by decide +kernel
theorem dX0_append_38 : decode cX0_append 38 = .ok (.iload 4, 2) := by decide +kernel
theorem dX0_append_40 : decode cX0_append 40 = .ok (.iastore, 1) := by decide +kernel
theorem dX0_append_41 : decode cX0_append 41 = .ok (.aload_n 0, 1) := by decide +kernel
theorem dX0_append_42 : decode cX0_append 42 = .ok (.dup, 1) := by decide +kernel
theorem dX0_append_43 : decode cX0_append 43 = .ok (.getfield 24, 3) := by decide +kernel
theorem dX0_append_46 : decode cX0_append 46 = .ok (.iconst 1, 1) := by decide +kernel
theorem dX0_append_47 : decode cX0_append 47 = .ok (.iadd, 1) := by decide +kernel
theorem dX0_append_48 : decode cX0_append 48 = .ok (.putfield 24, 3) := by decide +kernel
theorem dX0_append_51 : decode cX0_append 51 = .ok (.aload_n 0, 1) := by decide +kernel
theorem dX0_append_52 : decode cX0_append 52 = .ok (.getfield 24, 3) := by decide +kernel
theorem dX0_append_55 : decode cX0_append 55 = .ok (.iconst 1, 1) := by decide +kernel
theorem dX0_append_56 : decode cX0_append 56 = .ok (.isub, 1) := by decide +kernel
theorem dX0_append_57 : decode cX0_append 57 = .ok (.ireturn, 1) := by decide +kernel
theorem dX0_remove_0 : decode cX0_remove 0 = .ok (.iload_n 1, 1) := by decide +kernel
theorem dX0_remove_1 : decode cX0_remove 1 = .ok (.iconst 1, 1) := by decide +kernel
theorem dX0_remove_2 : decode cX0_remove 2 = .ok (.iadd, 1) := by decide +kernel
theorem dX0_remove_3 : decode cX0_remove 3 = .ok (.istore_n 2, 1) := by decide +kernel
theorem dX0_remove_4 : decode cX0_remove 4 = .ok (.iload_n 2, 1) := by decide +kernel
theorem dX0_remove_5 : decode cX0_remove 5 = .ok (.aload_n 0, 1) := by decide +kernel
theorem dX0_remove_6 : decode cX0_remove 6 = .ok (.getfield 24, 3) := by decide +kernel
theorem dX0_remove_9 : decode cX0_remove 9 = .ok (.if_icmp .ge 65, 3) := by decide +kernel
theorem dX0_remove_12 : decode cX0_remove 12 = .ok (.aload_n 0, 1) := by decide +kernel
theorem dX0_remove_13 : decode cX0_remove 13 = .ok (.getfield 9, 3) := by decide +kernel
theorem dX0_remove_16 : decode cX0_remove 16 = .ok (.iload_n 2, 1) := by decide +kernel
theorem dX0_remove_17 : decode cX0_remove 17 = .ok (.iconst 1, 1) := by decide +kernel
theorem dX0_remove_18 : decode cX0_remove 18 = .ok (.isub, 1) := by decide +kernel
theorem dX0_remove_19 : decode cX0_remove 19 = .ok (.aload_n 0, 1) := by decide +kernel
theorem dX0_remove_20 : decode cX0_remove 20 = .ok (.getfield 9, 3) := by decide +kernel
theorem dX0_remove_23 : decode cX0_remove 23 = .ok (.iload_n 2, 1) := by decide +kernel
theorem dX0_remove_24 : decode cX0_remove 24 = .ok (.iaload, 1) := by decide +kernel
theorem dX0_remove_25 : decode cX0_remove 25 = .ok (.iastore, 1) := by decide +kernel
theorem dX0_remove_26 : decode cX0_remove 26 = .ok (.aload_n 0, 1) := by decide +kernel
theorem dX0_remove_27 : decode cX0_remove 27 = .ok (.getfield 15, 3) := by decide +kernel
theorem dX0_remove_30 : decode cX0_remove 30 = .ok (.iload_n 2, 1) := by decide +kernel
theorem dX0_remove_31 : decode cX0_remove 31 = .ok (.iconst 1, 1) := by decide +kernel
theorem dX0_remove_32 : decode cX0_remove 32 = .ok (.isub, 1) := by decide +kernel
theorem dX0_remove_33 : decode cX0_remove 33 = .ok (.aload_n 0, 1) := by decide +kernel
theorem dX0_remove_34 : decode cX0_remove 34 = .ok (.getfield 15, 3) := by decide +kernel
theorem dX0_remove_37 : decode cX0_remove 37 = .ok (.iload_n 2, 1) := by decide +kernel
theorem dX0_remove_38 : decode cX0_remove 38 = .ok (.iaload, 1) := by decide +kernel
theorem dX0_remove_39 : decode cX0_remove 39 = .ok (.iastore, 1) := by decide +kernel
theorem dX0_remove_40 : decode cX0_remove 40 = .ok (.aload_n 0, 1) := by decide +kernel
theorem dX0_remove_41 : decode cX0_remove 41 = .ok (.getfield 18, 3) := by decide +kernel
theorem dX0_remove_44 : decode cX0_remove 44 = .ok (.iload_n 2, 1) := by decide +kernel
theorem dX0_remove_45 : decode cX0_remove 45 = .ok (.iconst 1, 1) := by decide +kernel
theorem dX0_remove_46 : decode cX0_remove 46 = .ok (.isub, 1) := by decide +kernel
theorem dX0_remove_47 : decode cX0_remove 47 = .ok (.aload_n 0, 1) := by decide +kernel
theorem dX0_remove_48 : decode cX0_remove 48 = .ok (.getfield 18, 3) := by decide +kernel
theorem dX0_remove_51 : decode cX0_remove 51 = .ok (.iload_n 2, 1) := by decide +kernel
theorem dX0_remove_52 : decode cX0_remove 52 = .ok (.iaload, 1) := by decide +kernel
theorem dX0_remove_53 : decode cX0_remove 53 = .ok (.iastore, 1) := by decide +kernel
theorem dX0_remove_54 : decode cX0_remove 54 = .ok (.aload_n 0, 1) := by decide +kernel
theorem dX0_remove_55 : decode cX0_remove 55 = .ok (.getfield 21, 3) := by decide +kernel
theorem dX0_remove_58 : decode cX0_remove 58 = .ok (.iload_n 2, 1) := by decide +kernel
theorem dX0_remove_59 : decode cX0_remove 59 = .ok (.iconst 1, 1) := by decide +kernel
theorem dX0_remove_60 : decode cX0_remove 60 = .ok (.isub, 1) := by decide +kernel
theorem dX0_remove_61 : decode cX0_remove 61 = .ok (.aload_n 0, 1) := by decide +kernel
theorem dX0_remove_62 : decode cX0_remove 62 = .ok (.getfield 21, 3) := by decide +kernel
theorem dX0_remove_65 : decode cX0_remove 65 = .ok (.iload_n 2, 1) := by decide +kernel
theorem dX0_remove_66 : decode cX0_remove 66 = .ok (.iaload, 1) := by decide +kernel
theorem dX0_remove_67 : decode cX0_remove 67 = .ok (.iastore, 1) := by decide +kernel
theorem dX0_remove_68 : decode cX0_remove 68 = .ok (.iinc 2 1, 3) := by decide +kernel
theorem dX0_remove_71 : decode cX0_remove 71 = .ok (.goto (-67), 3) := by decide +kernel
theorem dX0_remove_74 : decode cX0_remove 74 = .ok (.aload_n 0, 1) := by decide +kernel
theorem dX0_remove_75 : decode cX0_remove 75 = .ok (.dup, 1) := by decide +kernel
theorem dX0_remove_76 : decode cX0_remove 76 = .ok (.getfield 24, 3) := by decide +kernel
theorem dX0_remove_79 : decode cX0_remove 79 = .ok (.iconst 1, 1) := by decide +kernel
theorem dX0_remove_80 : decode cX0_remove 80 = .ok (.isub, 1) := by decide +kernel
theorem dX0_remove_81 : decode cX0_remove 81 = .ok (.putfield 24, 3) := by decide +kernel
theorem dX0_remove_84 : decode cX0_remove 84 = .ok (.return_, 1) := by decide +kernel
theorem dX0_isUp_0 : decode cX0_isUp 0 = .ok (.aload_n 0, 1) := by decide +kernel
theorem dX0_isUp_1 : decode cX0_isUp 1 = .ok (.getfield 15, 3) := by decide +kernel
theorem dX0_isUp_4 : decode cX0_isUp 4 = .ok (.iload_n 1, 1) := by decide +kernel
theorem dX0_isUp_5 : decode cX0_isUp 5 = .ok (.iaload, 1) := by decide +kernel
theorem dX0_isUp_6 : decode cX0_isUp 6 = .ok (.istore_n 3, 1) := by decide +kernel
theorem dX0_isUp_7 : decode cX0_isUp 7 = .ok (.iload_n 3, 1) := by decide +kernel
theorem dX0_isUp_8 : decode cX0_isUp 8 = .ok (.ifCond .le 23, 3) := by decide +kernel
theorem dX0_isUp_11 : decode cX0_isUp 11 = .ok (.iload_n 2, 1) := by decide +kernel
theorem dX0_isUp_12 : decode cX0_isUp 12 = .ok (.aload_n 0, 1) := by decide +kernel
theorem dX0_isUp_13 : decode cX0_isUp 13 = .ok (.getfield 21, 3) := by decide +kernel
theorem dX0_isUp_16 : decode cX0_isUp 16 = .ok (.iload_n 1, 1) := by decide +kernel
theorem dX0_isUp_17 : decode cX0_isUp 17 = .ok (.iaload, 1) := by decide +kernel
theorem dX0_isUp_18 : decode cX0_isUp 18 = .ok (.iadd, 1) := by decide +kernel
theorem dX0_isUp_19 : decode cX0_isUp 19 = .ok (.iload_n 3, 1) := by decide +kernel
theorem dX0_isUp_20 : decode cX0_isUp 20 = .ok (.irem, 1) := by decide +kernel
theorem dX0_isUp_21 : decode cX0_isUp 21 = .ok (.iload_n 3, 1) := by decide +kernel
theorem dX0_isUp_22 : decode cX0_isUp 22 = .ok (.iconst 2, 1) := by decide +kernel
theorem dX0_isUp_23 : decode cX0_isUp 23 = .ok (.idiv, 1) := by decide +kernel
theorem dX0_isUp_24 : decode cX0_isUp 24 = .ok (.if_icmp .lt 7, 3) := by decide +kernel
theorem dX0_isUp_27 : decode cX0_isUp 27 = .ok (.iconst 1, 1) := by decide +kernel
theorem dX0_isUp_28 : decode cX0_isUp 28 = .ok (.goto 4, 3) := by decide +kernel
theorem dX0_isUp_31 : decode cX0_isUp 31 = .ok (.iconst 0, 1) := by decide +kernel
theorem dX0_isUp_32 : decode cX0_isUp 32 = .ok (.ireturn, 1) := by decide +kernel
theorem dX0_beat_0 : decode cX0_beat 0 = .ok (.iconst 0, 1) := by decide +kernel
theorem dX0_beat_1 : decode cX0_beat 1 = .ok (.istore_n 3, 1) := by decide +kernel
theorem dX0_beat_2 : decode cX0_beat 2 = .ok (.iload_n 3, 1) := by decide +kernel
theorem dX0_beat_3 : decode cX0_beat 3 = .ok (.aload_n 0, 1) := by decide +kernel
theorem dX0_beat_4 : decode cX0_beat 4 = .ok (.getfield 24, 3) := by decide +kernel
theorem dX0_beat_7 : decode cX0_beat 7 = .ok (.if_icmp .ge 42, 3) := by decide +kernel
theorem dX0_beat_10 : decode cX0_beat 10 = .ok (.aload_n 1, 1) := by decide +kernel
theorem dX0_beat_11 : decode cX0_beat 11 = .ok (.aload_n 0, 1) := by decide +kernel
theorem dX0_beat_12 : decode cX0_beat 12 = .ok (.getfield 9, 3) := by decide +kernel
theorem dX0_beat_15 : decode cX0_beat 15 = .ok (.iload_n 3, 1) := by decide +kernel
theorem dX0_beat_16 : decode cX0_beat 16 = .ok (.iaload, 1) := by decide +kernel
theorem dX0_beat_17 : decode cX0_beat 17 = .ok (.aload_n 0, 1) := by decide +kernel
theorem dX0_beat_18 : decode cX0_beat 18 = .ok (.iload_n 3, 1) := by decide +kernel
theorem dX0_beat_19 : decode cX0_beat 19 = .ok (.iload_n 2, 1) := by decide +kernel
theorem dX0_beat_20 : decode cX0_beat 20 = .ok (.invokevirtual 34, 3) := by decide +kernel
theorem dX0_beat_23 : decode cX0_beat 23 = .ok (.ifCond .eq 12, 3) := by decide +kernel
theorem dX0_beat_26 : decode cX0_beat 26 = .ok (.aload_n 0, 1) := by decide +kernel
theorem dX0_beat_27 : decode cX0_beat 27 = .ok (.getfield 18, 3) := by decide +kernel
theorem dX0_beat_30 : decode cX0_beat 30 = .ok (.iload_n 3, 1) := by decide +kernel
theorem dX0_beat_31 : decode cX0_beat 31 = .ok (.iaload, 1) := by decide +kernel
theorem dX0_beat_32 : decode cX0_beat 32 = .ok (.goto 10, 3) := by decide +kernel
theorem dX0_beat_35 : decode cX0_beat 35 = .ok (.aload_n 0, 1) := by decide +kernel
theorem dX0_beat_36 : decode cX0_beat 36 = .ok (.getfield 18, 3) := by decide +kernel
theorem dX0_beat_39 : decode cX0_beat 39 = .ok (.iload_n 3, 1) := by decide +kernel
theorem dX0_beat_40 : decode cX0_beat 40 = .ok (.iaload, 1) := by decide +kernel
theorem dX0_beat_41 : decode cX0_beat 41 = .ok (.ineg, 1) := by decide +kernel
theorem dX0_beat_42 : decode cX0_beat 42 = .ok (.iastore, 1) := by decide +kernel
theorem dX0_beat_43 : decode cX0_beat 43 = .ok (.iinc 3 1, 3) := by decide +kernel
theorem dX0_beat_46 : decode cX0_beat 46 = .ok (.goto (-44), 3) := by decide +kernel
theorem dX0_beat_49 : decode cX0_beat 49 = .ok (.return_, 1) := by decide +kernel
theorem dX0_lastIn_0 : decode cX0_lastIn 0 = .ok (.aload_n 0, 1) := by decide +kernel
theorem dX0_lastIn_1 : decode cX0_lastIn 1 = .ok (.getfield 24, 3) := by decide +kernel
theorem dX0_lastIn_4 : decode cX0_lastIn 4 = .ok (.iconst 1, 1) := by decide +kernel
theorem dX0_lastIn_5 : decode cX0_lastIn 5 = .ok (.isub, 1) := by decide +kernel
theorem dX0_lastIn_6 : decode cX0_lastIn 6 = .ok (.istore_n 2, 1) := by decide +kernel
theorem dX0_lastIn_7 : decode cX0_lastIn 7 = .ok (.iload_n 2, 1) := by decide +kernel
theorem dX0_lastIn_8 : decode cX0_lastIn 8 = .ok (.ifCond .lt 21, 3) := by decide +kernel
theorem dX0_lastIn_11 : decode cX0_lastIn 11 = .ok (.aload_n 0, 1) := by decide +kernel
theorem dX0_lastIn_12 : decode cX0_lastIn 12 = .ok (.getfield 9, 3) := by decide +kernel
theorem dX0_lastIn_15 : decode cX0_lastIn 15 = .ok (.iload_n 2, 1) := by decide +kernel
theorem dX0_lastIn_16 : decode cX0_lastIn 16 = .ok (.iaload, 1) := by decide +kernel
theorem dX0_lastIn_17 : decode cX0_lastIn 17 = .ok (.iload_n 1, 1) := by decide +kernel
theorem dX0_lastIn_18 : decode cX0_lastIn 18 = .ok (.if_icmp .ne 5, 3) := by decide +kernel
theorem dX0_lastIn_21 : decode cX0_lastIn 21 = .ok (.iload_n 2, 1) := by decide +kernel
theorem dX0_lastIn_22 : decode cX0_lastIn 22 = .ok (.ireturn, 1) := by decide +kernel
theorem dX0_lastIn_23 : decode cX0_lastIn 23 = .ok (.iinc 2 (-1), 3) := by decide +kernel
theorem dX0_lastIn_26 : decode cX0_lastIn 26 = .ok (.goto (-19), 3) := by decide +kernel
theorem dX0_lastIn_29 : decode cX0_lastIn 29 = .ok (.bipush (-6), 2) := by decide +kernel
theorem dX0_lastIn_31 : decode cX0_lastIn 31 = .ok (.ireturn, 1) := by decide +kernel
theorem dX1_init_0 : decode cX1_init 0 = .ok (.aload_n 0, 1) := by decide +kernel
theorem dX1_init_1 : decode cX1_init 1 = .ok (.invokespecial 3, 3) := by decide +kernel
theorem dX1_init_4 : decode cX1_init 4 = .ok (.aload_n 0, 1) := by decide +kernel
theorem dX1_init_5 : decode cX1_init 5 = .ok (.bipush 6, 2) := by decide +kernel
theorem dX1_init_7 : decode cX1_init 7 = .ok (.anewarray 9, 3) := by decide +kernel
theorem dX1_init_10 : decode cX1_init 10 = .ok (.putfield 11, 3) := by decide +kernel
theorem dX1_init_13 : decode cX1_init 13 = .ok (.aload_n 0, 1) := by decide +kernel
theorem dX1_init_14 : decode cX1_init 14 = .ok (.iconst 0, 1) := by decide +kernel
theorem dX1_init_15 : decode cX1_init 15 = .ok (.putfield 17, 3) := by decide +kernel
theorem dX1_init_18 : decode cX1_init 18 = .ok (.iconst 0, 1) := by decide +kernel
theorem dX1_init_19 : decode cX1_init 19 = .ok (.istore_n 1, 1) := by decide +kernel
theorem dX1_init_20 : decode cX1_init 20 = .ok (.iload_n 1, 1) := by decide +kernel
theorem dX1_init_21 : decode cX1_init 21 = .ok (.bipush 6, 2) := by decide +kernel
theorem dX1_init_23 : decode cX1_init 23 = .ok (.if_icmp .ge 22, 3) := by decide +kernel
theorem dX1_init_26 : decode cX1_init 26 = .ok (.aload_n 0, 1) := by decide +kernel
theorem dX1_init_27 : decode cX1_init 27 = .ok (.getfield 11, 3) := by decide +kernel
theorem dX1_init_30 : decode cX1_init 30 = .ok (.iload_n 1, 1) := by decide +kernel
theorem dX1_init_31 : decode cX1_init 31 = .ok (.new 9, 3) := by decide +kernel
theorem dX1_init_34 : decode cX1_init 34 = .ok (.dup, 1) := by decide +kernel
theorem dX1_init_35 : decode cX1_init 35 = .ok (.invokespecial 21, 3) := by decide +kernel
theorem dX1_init_38 : decode cX1_init 38 = .ok (.aastore, 1) := by decide +kernel
theorem dX1_init_39 : decode cX1_init 39 = .ok (.iinc 1 1, 3) := by decide +kernel
theorem dX1_init_42 : decode cX1_init 42 = .ok (.goto (-22), 3) := by decide +kernel
theorem dX1_init_45 : decode cX1_init 45 = .ok (.return_, 1) := by decide +kernel
theorem dX1_keep_0 : decode cX1_keep 0 = .ok (.aload_n 0, 1) := by decide +kernel
theorem dX1_keep_1 : decode cX1_keep 1 = .ok (.getfield 17, 3) := by decide +kernel
theorem dX1_keep_4 : decode cX1_keep 4 = .ok (.bipush 6, 2) := by decide +kernel
theorem dX1_keep_6 : decode cX1_keep 6 = .ok (.if_icmp .lt 7, 3) := by decide +kernel
theorem dX1_keep_9 : decode cX1_keep 9 = .ok (.aload_n 0, 1) := by decide +kernel
theorem dX1_keep_10 : decode cX1_keep 10 = .ok (.invokevirtual 22, 3) := by decide +kernel
theorem dX1_keep_13 : decode cX1_keep 13 = .ok (.aload_n 0, 1) := by decide +kernel
theorem dX1_keep_14 : decode cX1_keep 14 = .ok (.getfield 11, 3) := by decide +kernel
theorem dX1_keep_17 : decode cX1_keep 17 = .ok (.aload_n 0, 1) := by decide +kernel
theorem dX1_keep_18 : decode cX1_keep 18 = .ok (.getfield 17, 3) := by decide +kernel
theorem dX1_keep_21 : decode cX1_keep 21 = .ok (.aaload, 1) := by decide +kernel
theorem dX1_keep_22 : decode cX1_keep 22 = .ok (.aload_n 1, 1) := by decide +kernel
theorem dX1_keep_23 : decode cX1_keep 23 = .ok (.invokevirtual 25, 3) := by decide +kernel
theorem dX1_keep_26 : decode cX1_keep 26 = .ok (.aload_n 0, 1) := by decide +kernel
theorem dX1_keep_27 : decode cX1_keep 27 = .ok (.dup, 1) := by decide +kernel
theorem dX1_keep_28 : decode cX1_keep 28 = .ok (.getfield 17, 3) := by decide +kernel
theorem dX1_keep_31 : decode cX1_keep 31 = .ok (.iconst 1, 1) := by decide +kernel
theorem dX1_keep_32 : decode cX1_keep 32 = .ok (.iadd, 1) := by decide +kernel
theorem dX1_keep_33 : decode cX1_keep 33 = .ok (.putfield 17, 3) := by decide +kernel
theorem dX1_keep_36 : decode cX1_keep 36 = .ok (.return_, 1) := by decide +kernel
theorem dX1_loseOldest_0 : decode cX1_loseOldest 0 = .ok (.aload_n 0, 1) := by decide +kernel
theorem dX1_loseOldest_1 : decode cX1_loseOldest 1 = .ok (.getfield 11, 3) := by decide +kernel
theorem dX1_loseOldest_4 : decode cX1_loseOldest 4 = .ok (.iconst 0, 1) := by decide +kernel
theorem dX1_loseOldest_5 : decode cX1_loseOldest 5 = .ok (.aaload, 1) := by decide +kernel
theorem dX1_loseOldest_6 : decode cX1_loseOldest 6 = .ok (.astore_n 1, 1) := by decide +kernel
theorem dX1_loseOldest_7 : decode cX1_loseOldest 7 = .ok (.iconst 1, 1) := by decide +kernel
theorem dX1_loseOldest_8 : decode cX1_loseOldest 8 = .ok (.istore_n 2, 1) := by decide +kernel
theorem dX1_loseOldest_9 : decode cX1_loseOldest 9 = .ok (.iload_n 2, 1) := by decide +kernel
theorem dX1_loseOldest_10 : decode cX1_loseOldest 10 = .ok (.bipush 6, 2) := by decide +kernel
theorem dX1_loseOldest_12 : decode cX1_loseOldest 12 = .ok (.if_icmp .ge 23, 3) := by decide +kernel
theorem dX1_loseOldest_15 : decode cX1_loseOldest 15 = .ok (.aload_n 0, 1) := by decide +kernel
theorem dX1_loseOldest_16 : decode cX1_loseOldest 16 = .ok (.getfield 11, 3) := by decide +kernel
theorem dX1_loseOldest_19 : decode cX1_loseOldest 19 = .ok (.iload_n 2, 1) := by decide +kernel
theorem dX1_loseOldest_20 : decode cX1_loseOldest 20 = .ok (.iconst 1, 1) := by decide +kernel
theorem dX1_loseOldest_21 : decode cX1_loseOldest 21 = .ok (.isub, 1) := by decide +kernel
theorem dX1_loseOldest_22 : decode cX1_loseOldest 22 = .ok (.aload_n 0, 1) := by decide +kernel
theorem dX1_loseOldest_23 : decode cX1_loseOldest 23 = .ok (.getfield 11, 3) := by decide +kernel
theorem dX1_loseOldest_26 : decode cX1_loseOldest 26 = .ok (.iload_n 2, 1) := by decide +kernel
theorem dX1_loseOldest_27 : decode cX1_loseOldest 27 = .ok (.aaload, 1) := by decide +kernel
theorem dX1_loseOldest_28 : decode cX1_loseOldest 28 = .ok (.aastore, 1) := by decide +kernel
theorem dX1_loseOldest_29 : decode cX1_loseOldest 29 = .ok (.iinc 2 1, 3) := by decide +kernel
theorem dX1_loseOldest_32 : decode cX1_loseOldest 32 = .ok (.goto (-23), 3) := by decide +kernel
theorem dX1_loseOldest_35 : decode cX1_loseOldest 35 = .ok (.aload_n 0, 1) := by decide +kernel
theorem dX1_loseOldest_36 : decode cX1_loseOldest 36 = .ok (.getfield 11, 3) := by decide +kernel
theorem dX1_loseOldest_39 : decode cX1_loseOldest 39 = .ok (.iconst 5, 1) := by decide +kernel
theorem dX1_loseOldest_40 : decode cX1_loseOldest 40 = .ok (.aload_n 1, 1) := by decide +kernel
theorem dX1_loseOldest_41 : decode cX1_loseOldest 41 = .ok (.aastore, 1) := by decide +kernel
theorem dX1_loseOldest_42 : decode cX1_loseOldest 42 = .ok (.aload_n 0, 1) := by decide +kernel
theorem dX1_loseOldest_43 : decode cX1_loseOldest 43 = .ok (.iconst 5, 1) := by decide +kernel
theorem dX1_loseOldest_44 : decode cX1_loseOldest 44 = .ok (.putfield 17, 3) := by decide +kernel
theorem dX1_loseOldest_47 : decode cX1_loseOldest 47 = .ok (.return_, 1) := by decide +kernel
theorem dX1_giveBack_0 : decode cX1_giveBack 0 = .ok (.aload_n 0, 1) := by decide +kernel
theorem dX1_giveBack_1 : decode cX1_giveBack 1 = .ok (.dup, 1) := by decide +kernel
theorem dX1_giveBack_2 : decode cX1_giveBack 2 = .ok (.getfield 17, 3) := by decide +kernel
theorem dX1_giveBack_5 : decode cX1_giveBack 5 = .ok (.iconst 1, 1) := by decide +kernel
theorem dX1_giveBack_6 : decode cX1_giveBack 6 = .ok (.isub, 1) := by decide +kernel
theorem dX1_giveBack_7 : decode cX1_giveBack 7 = .ok (.putfield 17, 3) := by decide +kernel
theorem dX1_giveBack_10 : decode cX1_giveBack 10 = .ok (.aload_n 1, 1) := by decide +kernel
theorem dX1_giveBack_11 : decode cX1_giveBack 11 = .ok (.aload_n 0, 1) := by decide +kernel
theorem dX1_giveBack_12 : decode cX1_giveBack 12 = .ok (.getfield 11, 3) := by decide +kernel
theorem dX1_giveBack_15 : decode cX1_giveBack 15 = .ok (.aload_n 0, 1) := by decide +kernel
theorem dX1_giveBack_16 : decode cX1_giveBack 16 = .ok (.getfield 17, 3) := by decide +kernel
theorem dX1_giveBack_19 : decode cX1_giveBack 19 = .ok (.aaload, 1) := by decide +kernel
theorem dX1_giveBack_20 : decode cX1_giveBack 20 = .ok (.invokevirtual 25, 3) := by decide +kernel
theorem dX1_giveBack_23 : decode cX1_giveBack 23 = .ok (.return_, 1) := by decide +kernel
theorem dX2_init_0 : decode cX2_init 0 = .ok (.aload_n 0, 1) := by decide +kernel
theorem dX2_init_1 : decode cX2_init 1 = .ok (.invokespecial 3, 3) := by decide +kernel
theorem dX2_init_4 : decode cX2_init 4 = .ok (.aload_n 0, 1) := by decide +kernel
theorem dX2_init_5 : decode cX2_init 5 = .ok (.bipush 72, 2) := by decide +kernel
theorem dX2_init_7 : decode cX2_init 7 = .ok (.newarray .char, 2) := by decide +kernel
theorem dX2_init_9 : decode cX2_init 9 = .ok (.putfield 9, 3) := by decide +kernel
theorem dX2_init_12 : decode cX2_init 12 = .ok (.aload_n 0, 1) := by decide +kernel
theorem dX2_init_13 : decode cX2_init 13 = .ok (.iconst 0, 1) := by decide +kernel
theorem dX2_init_14 : decode cX2_init 14 = .ok (.putfield 15, 3) := by decide +kernel
theorem dX2_init_17 : decode cX2_init 17 = .ok (.return_, 1) := by decide +kernel
theorem dX2_charactersIn_0 : decode cX2_charactersIn 0 = .ok (.lload_n 0, 1) := by decide +kernel
theorem dX2_charactersIn_1 : decode cX2_charactersIn 1 = .ok (.lstore_n 2, 1) := by decide +kernel
theorem dX2_charactersIn_2 : decode cX2_charactersIn 2 = .ok (.iconst 0, 1) := by decide +kernel
theorem dX2_charactersIn_3 : decode cX2_charactersIn 3 = .ok (.istore 4, 2) := by decide +kernel
theorem dX2_charactersIn_5 : decode cX2_charactersIn 5 = .ok (.iload 4, 2) := by decide +kernel
theorem dX2_charactersIn_7 : decode cX2_charactersIn 7 = .ok (.bipush 8, 2) := by decide +kernel
theorem dX2_charactersIn_9 : decode cX2_charactersIn 9 = .ok (.if_icmp .ge 42, 3) := by decide +kernel
theorem dX2_charactersIn_12 : decode cX2_charactersIn 12 = .ok (.lload_n 2, 1) := by decide +kernel
theorem dX2_charactersIn_13 : decode cX2_charactersIn 13 = .ok (.ldc2_w 19, 3) := by decide +kernel
theorem dX2_charactersIn_16 : decode cX2_charactersIn 16 = .ok (.land, 1) := by decide +kernel
theorem dX2_charactersIn_17 : decode cX2_charactersIn 17 = .ok (.lconst 0, 1) := by decide +kernel
theorem dX2_charactersIn_18 : decode cX2_charactersIn 18 = .ok (.lcmp, 1) := by decide +kernel
theorem dX2_charactersIn_19 : decode cX2_charactersIn 19 = .ok (.ifCond .eq 32, 3) := by decide +kernel
theorem dX2_charactersIn_22 : decode cX2_charactersIn 22 = .ok (.lload_n 2, 1) := by decide +kernel
theorem dX2_charactersIn_23 : decode cX2_charactersIn 23 = .ok (.ldc2_w 19, 3) := by decide +kernel
theorem dX2_charactersIn_26 : decode cX2_charactersIn 26 = .ok (.land, 1) := by decide +kernel
theorem dX2_charactersIn_27 : decode cX2_charactersIn 27 = .ok (.l2i, 1) := by decide +kernel
theorem dX2_charactersIn_28 : decode cX2_charactersIn 28 = .ok (.bipush 33, 2) := by decide +kernel
theorem dX2_charactersIn_30 : decode cX2_charactersIn 30 = .ok (.bipush 126, 2) := by decide +kernel
theorem dX2_charactersIn_32 : decode cX2_charactersIn 32 = .ok (.invokestatic 21, 3) := by decide +kernel
theorem dX2_charactersIn_35 : decode cX2_charactersIn 35 = .ok (.ifCond .ne 5, 3) := by decide +kernel
theorem dX2_charactersIn_38 : decode cX2_charactersIn 38 = .ok (.iconst 0, 1) := by decide +kernel
theorem dX2_charactersIn_39 : decode cX2_charactersIn 39 = .ok (.ireturn, 1) := by decide +kernel
theorem dX2_charactersIn_40 : decode cX2_charactersIn 40 = .ok (.lload_n 2, 1) := by decide +kernel
theorem dX2_charactersIn_41 : decode cX2_charactersIn 41 = .ok (.bipush 8, 2) := by decide +kernel
theorem dX2_charactersIn_43 : decode cX2_charactersIn 43 = .ok (.lushr, 1) := by decide +kernel
theorem dX2_charactersIn_44 : decode cX2_charactersIn 44 = .ok (.lstore_n 2, 1) := by decide +kernel
theorem dX2_charactersIn_45 : decode cX2_charactersIn 45 = .ok (.iinc 4 1, 3) := by decide +kernel
theorem dX2_charactersIn_48 : decode cX2_charactersIn 48 = .ok (.goto (-43), 3) := by decide +kernel
theorem dX2_charactersIn_51 : decode cX2_charactersIn 51 = .ok (.lload_n 2, 1) := by decide +kernel
theorem dX2_charactersIn_52 : decode cX2_charactersIn 52 = .ok (.lconst 0, 1) := by decide +kernel
theorem dX2_charactersIn_53 : decode cX2_charactersIn 53 = .ok (.lcmp, 1) := by decide +kernel
theorem dX2_charactersIn_54 : decode cX2_charactersIn 54 = .ok (.ifCond .ne 8, 3) := by decide +kernel
theorem dX2_charactersIn_57 : decode cX2_charactersIn 57 = .ok (.iload 4, 2) := by decide +kernel
theorem dX2_charactersIn_59 : decode cX2_charactersIn 59 = .ok (.goto 4, 3) := by decide +kernel
theorem dX2_charactersIn_62 : decode cX2_charactersIn 62 = .ok (.iconst 0, 1) := by decide +kernel
theorem dX2_charactersIn_63 : decode cX2_charactersIn 63 = .ok (.ireturn, 1) := by decide +kernel
theorem dX2_append_0 : decode cX2_append 0 = .ok (.iconst 0, 1) := by decide +kernel
theorem dX2_append_1 : decode cX2_append 1 = .ok (.istore 4, 2) := by decide +kernel
theorem dX2_append_3 : decode cX2_append 3 = .ok (.iload 4, 2) := by decide +kernel
theorem dX2_append_5 : decode cX2_append 5 = .ok (.iload_n 3, 1) := by decide +kernel
theorem dX2_append_6 : decode cX2_append 6 = .ok (.if_icmp .ge 38, 3) := by decide +kernel
theorem dX2_append_9 : decode cX2_append 9 = .ok (.aload_n 0, 1) := by decide +kernel
theorem dX2_append_10 : decode cX2_append 10 = .ok (.getfield 9, 3) := by decide +kernel
theorem dX2_append_13 : decode cX2_append 13 = .ok (.aload_n 0, 1) := by decide +kernel
theorem dX2_append_14 : decode cX2_append 14 = .ok (.getfield 15, 3) := by decide +kernel
theorem dX2_append_17 : decode cX2_append 17 = .ok (.iload 4, 2) := by decide +kernel
theorem dX2_append_19 : decode cX2_append 19 = .ok (.iadd, 1) := by decide +kernel
theorem dX2_append_20 : decode cX2_append 20 = .ok (.lload_n 1, 1) := by decide +kernel
theorem dX2_append_21 : decode cX2_append 21 = .ok (.bipush 8, 2) := by decide +kernel
theorem dX2_append_23 : decode cX2_append 23 = .ok (.iload_n 3, 1) := by decide +kernel
theorem dX2_append_24 : decode cX2_append 24 = .ok (.iconst 1, 1) := by decide +kernel
theorem dX2_append_25 : decode cX2_append 25 = .ok (.isub, 1) := by decide +kernel
theorem dX2_append_26 : decode cX2_append 26 = .ok (.iload 4, 2) := by decide +kernel
theorem dX2_append_28 : decode cX2_append 28 = .ok (.isub, 1) := by decide +kernel
theorem dX2_append_29 : decode cX2_append 29 = .ok (.imul, 1) := by decide +kernel
theorem dX2_append_30 : decode cX2_append 30 = .ok (.lushr, 1) := by decide +kernel
theorem dX2_append_31 : decode cX2_append 31 = .ok (.ldc2_w 19, 3) := by decide +kernel
theorem dX2_append_34 : decode cX2_append 34 = .ok (.land, 1) := by decide +kernel
theorem dX2_append_35 : decode cX2_append 35 = .ok (.l2i, 1) := by decide +kernel
theorem dX2_append_36 : decode cX2_append 36 = .ok (.i2c, 1) := by decide +kernel
theorem dX2_append_37 : decode cX2_append 37 = .ok (.castore, 1) := by decide +kernel
theorem dX2_append_38 : decode cX2_append 38 = .ok (.iinc 4 1, 3) := by decide +kernel
theorem dX2_append_41 : decode cX2_append 41 = .ok (.goto (-38), 3) := by decide +kernel
theorem dX2_append_44 : decode cX2_append 44 = .ok (.aload_n 0, 1) := by decide +kernel
theorem dX2_append_45 : decode cX2_append 45 = .ok (.dup, 1) := by decide +kernel
theorem dX2_append_46 : decode cX2_append 46 = .ok (.getfield 15, 3) := by decide +kernel
theorem dX2_append_49 : decode cX2_append 49 = .ok (.iload_n 3, 1) := by decide +kernel
theorem dX2_append_50 : decode cX2_append 50 = .ok (.iadd, 1) := by decide +kernel
theorem dX2_append_51 : decode cX2_append 51 = .ok (.putfield 15, 3) := by decide +kernel
theorem dX2_append_54 : decode cX2_append 54 = .ok (.return_, 1) := by decide +kernel
theorem dX2_firstFault_0 : decode cX2_firstFault 0 = .ok (.iconst 0, 1) := by decide +kernel
theorem dX2_firstFault_1 : decode cX2_firstFault 1 = .ok (.istore_n 1, 1) := by decide +kernel
theorem dX2_firstFault_2 : decode cX2_firstFault 2 = .ok (.iload_n 1, 1) := by decide +kernel
theorem dX2_firstFault_3 : decode cX2_firstFault 3 = .ok (.aload_n 0, 1) := by decide +kernel
theorem dX2_firstFault_4 : decode cX2_firstFault 4 = .ok (.getfield 15, 3) := by decide +kernel
theorem dX2_firstFault_7 : decode cX2_firstFault 7 = .ok (.if_icmp .ge 24, 3) := by decide +kernel
theorem dX2_firstFault_10 : decode cX2_firstFault 10 = .ok (.aload_n 0, 1) := by decide +kernel
theorem dX2_firstFault_11 : decode cX2_firstFault 11 = .ok (.getfield 9, 3) := by decide +kernel
theorem dX2_firstFault_14 : decode cX2_firstFault 14 = .ok (.iload_n 1, 1) := by decide +kernel
theorem dX2_firstFault_15 : decode cX2_firstFault 15 = .ok (.caload, 1) := by decide +kernel
theorem dX2_firstFault_16 : decode cX2_firstFault 16 = .ok (.iload_n 1, 1) := by decide +kernel
theorem dX2_firstFault_17 : decode cX2_firstFault 17 = .ok (.invokestatic 25, 3) := by decide +kernel
theorem dX2_firstFault_20 : decode cX2_firstFault 20 = .ok (.ifCond .ne 5, 3) := by decide +kernel
theorem dX2_firstFault_23 : decode cX2_firstFault 23 = .ok (.iload_n 1, 1) := by decide +kernel
theorem dX2_firstFault_24 : decode cX2_firstFault 24 = .ok (.ireturn, 1) := by decide +kernel
theorem dX2_firstFault_25 : decode cX2_firstFault 25 = .ok (.iinc 1 1, 3) := by decide +kernel
theorem dX2_firstFault_28 : decode cX2_firstFault 28 = .ok (.goto (-26), 3) := by decide +kernel
theorem dX2_firstFault_31 : decode cX2_firstFault 31 = .ok (.aload_n 0, 1) := by decide +kernel
theorem dX2_firstFault_32 : decode cX2_firstFault 32 = .ok (.getfield 15, 3) := by decide +kernel
theorem dX2_firstFault_35 : decode cX2_firstFault 35 = .ok (.bipush 65, 2) := by decide +kernel
theorem dX2_firstFault_37 : decode cX2_firstFault 37 = .ok (.if_icmp .ge 10, 3) := by decide +kernel
theorem dX2_firstFault_40 : decode cX2_firstFault 40 = .ok (.aload_n 0, 1) := by decide +kernel
theorem dX2_firstFault_41 : decode cX2_firstFault 41 = .ok (.getfield 15, 3) := by decide +kernel
theorem dX2_firstFault_44 : decode cX2_firstFault 44 = .ok (.goto 5, 3) := by decide +kernel
theorem dX2_firstFault_47 : decode cX2_firstFault 47 = .ok (.bipush (-6), 2) := by decide +kernel
theorem dX2_firstFault_49 : decode cX2_firstFault 49 = .ok (.ireturn, 1) := by decide +kernel
theorem dX2_canStand_0 : decode cX2_canStand 0 = .ok (.iload_n 1, 1) := by decide +kernel
theorem dX2_canStand_1 : decode cX2_canStand 1 = .ok (.bipush 65, 2) := by decide +kernel
theorem dX2_canStand_3 : decode cX2_canStand 3 = .ok (.if_icmp .lt 5, 3) := by decide +kernel
theorem dX2_canStand_6 : decode cX2_canStand 6 = .ok (.iconst 0, 1) := by decide +kernel
theorem dX2_canStand_7 : decode cX2_canStand 7 = .ok (.ireturn, 1) := by decide +kernel
theorem dX2_canStand_8 : decode cX2_canStand 8 = .ok (.iload_n 1, 1) := by decide +kernel
theorem dX2_canStand_9 : decode cX2_canStand 9 = .ok (.bipush 11, 2) := by decide +kernel
theorem dX2_canStand_11 : decode cX2_canStand 11 = .ok (.irem, 1) := by decide +kernel
theorem dX2_canStand_12 : decode cX2_canStand 12 = .ok (.bipush 10, 2) := by decide +kernel
theorem dX2_canStand_14 : decode cX2_canStand 14 = .ok (.if_icmp .ne 17, 3) := by decide +kernel
theorem dX2_canStand_17 : decode cX2_canStand 17 = .ok (.iload_n 0, 1) := by decide +kernel
theorem dX2_canStand_18 : decode cX2_canStand 18 = .ok (.bipush 47, 2) := by decide +kernel
theorem dX2_canStand_20 : decode cX2_canStand 20 = .ok (.if_icmp .ne 7, 3) := by decide +kernel
theorem dX2_canStand_23 : decode cX2_canStand 23 = .ok (.iconst 1, 1) := by decide +kernel
theorem dX2_canStand_24 : decode cX2_canStand 24 = .ok (.goto 21, 3) := by decide +kernel
theorem dX2_canStand_27 : decode cX2_canStand 27 = .ok (.iconst 0, 1) := by decide +kernel
theorem dX2_canStand_28 : decode cX2_canStand 28 = .ok (.goto 17, 3) := by decide +kernel
theorem dX2_canStand_31 : decode cX2_canStand 31 = .ok (.ldc 29, 2) := by decide +kernel
theorem dX2_canStand_33 : decode cX2_canStand 33 = .ok (.iload_n 0, 1) := by decide +kernel
theorem dX2_canStand_34 : decode cX2_canStand 34 = .ok (.invokevirtual 31, 3) := by decide +kernel
theorem dX2_canStand_37 : decode cX2_canStand 37 = .ok (.ifCond .lt 7, 3) := by decide +kernel
theorem dX2_canStand_40 : decode cX2_canStand 40 = .ok (.iconst 1, 1) := by decide +kernel
theorem dX2_canStand_41 : decode cX2_canStand 41 = .ok (.goto 4, 3) := by decide +kernel
theorem dX2_canStand_44 : decode cX2_canStand 44 = .ok (.iconst 0, 1) := by decide +kernel
theorem dX2_canStand_45 : decode cX2_canStand 45 = .ok (.ireturn, 1) := by decide +kernel
theorem dX2_floorOf_0 : decode cX2_floorOf 0 = .ok (.ldc 29, 2) := by decide +kernel
theorem dX2_floorOf_2 : decode cX2_floorOf 2 = .ok (.aload_n 0, 1) := by decide +kernel
theorem dX2_floorOf_3 : decode cX2_floorOf 3 = .ok (.getfield 9, 3) := by decide +kernel
theorem dX2_floorOf_6 : decode cX2_floorOf 6 = .ok (.iload_n 1, 1) := by decide +kernel
theorem dX2_floorOf_7 : decode cX2_floorOf 7 = .ok (.bipush 10, 2) := by decide +kernel
theorem dX2_floorOf_9 : decode cX2_floorOf 9 = .ok (.idiv, 1) := by decide +kernel
theorem dX2_floorOf_10 : decode cX2_floorOf 10 = .ok (.bipush 11, 2) := by decide +kernel
theorem dX2_floorOf_12 : decode cX2_floorOf 12 = .ok (.imul, 1) := by decide +kernel
theorem dX2_floorOf_13 : decode cX2_floorOf 13 = .ok (.iload_n 1, 1) := by decide +kernel
theorem dX2_floorOf_14 : decode cX2_floorOf 14 = .ok (.bipush 10, 2) := by decide +kernel
theorem dX2_floorOf_16 : decode cX2_floorOf 16 = .ok (.irem, 1) := by decide +kernel
theorem dX2_floorOf_17 : decode cX2_floorOf 17 = .ok (.iadd, 1) := by decide +kernel
theorem dX2_floorOf_18 : decode cX2_floorOf 18 = .ok (.caload, 1) := by decide +kernel
theorem dX2_floorOf_19 : decode cX2_floorOf 19 = .ok (.invokevirtual 31, 3) := by decide +kernel
theorem dX2_floorOf_22 : decode cX2_floorOf 22 = .ok (.ireturn, 1) := by decide +kernel
theorem dX3_init_0 : decode cX3_init 0 = .ok (.aload_n 0, 1) := by decide +kernel
theorem dX3_init_1 : decode cX3_init 1 = .ok (.invokespecial 3, 3) := by decide +kernel
theorem dX3_init_4 : decode cX3_init 4 = .ok (.aload_n 0, 1) := by decide +kernel
theorem dX3_init_5 : decode cX3_init 5 = .ok (.iconst 3, 1) := by decide +kernel
theorem dX3_init_6 : decode cX3_init 6 = .ok (.newarray .int, 2) := by decide +kernel
theorem dX3_init_8 : decode cX3_init 8 = .ok (.putfield 9, 3) := by decide +kernel
theorem dX3_init_11 : decode cX3_init 11 = .ok (.aload_n 0, 1) := by decide +kernel
theorem dX3_init_12 : decode cX3_init 12 = .ok (.iconst 3, 1) := by decide +kernel
theorem dX3_init_13 : decode cX3_init 13 = .ok (.newarray .int, 2) := by decide +kernel
theorem dX3_init_15 : decode cX3_init 15 = .ok (.putfield 15, 3) := by decide +kernel
theorem dX3_init_18 : decode cX3_init 18 = .ok (.aload_n 0, 1) := by decide +kernel
theorem dX3_init_19 : decode cX3_init 19 = .ok (.iconst 3, 1) := by decide +kernel
theorem dX3_init_20 : decode cX3_init 20 = .ok (.bipush 24, 2) := by decide +kernel
theorem dX3_init_22 : decode cX3_init 22 = .ok (.multianewarray 18 2, 4) := by decide +kernel
theorem dX3_init_26 : decode cX3_init 26 = .ok (.putfield 20, 3) := by decide +kernel
theorem dX3_init_29 : decode cX3_init 29 = .ok (.aload_n 0, 1) := by decide +kernel
theorem dX3_init_30 : decode cX3_init 30 = .ok (.iconst 0, 1) := by decide +kernel
theorem dX3_init_31 : decode cX3_init 31 = .ok (.putfield 23, 3) := by decide +kernel
theorem dX3_init_34 : decode cX3_init 34 = .ok (.return_, 1) := by decide +kernel
theorem dX3_become_0 : decode cX3_become 0 = .ok (.aload_n 1, 1) := by decide +kernel
theorem dX3_become_1 : decode cX3_become 1 = .ok (.getfield 9, 3) := by decide +kernel
theorem dX3_become_4 : decode cX3_become 4 = .ok (.iconst 0, 1) := by decide +kernel
theorem dX3_become_5 : decode cX3_become 5 = .ok (.aload_n 0, 1) := by decide +kernel
theorem dX3_become_6 : decode cX3_become 6 = .ok (.getfield 9, 3) := by decide +kernel
theorem dX3_become_9 : decode cX3_become 9 = .ok (.iconst 0, 1) := by decide +kernel
theorem dX3_become_10 : decode cX3_become 10 = .ok (.iconst 3, 1) := by decide +kernel
theorem dX3_become_11 : decode cX3_become 11 = .ok (.invokestatic 27, 3) := by decide +kernel
theorem dX3_become_14 : decode cX3_become 14 = .ok (.aload_n 1, 1) := by decide +kernel
theorem dX3_become_15 : decode cX3_become 15 = .ok (.getfield 15, 3) := by decide +kernel
theorem dX3_become_18 : decode cX3_become 18 = .ok (.iconst 0, 1) := by decide +kernel
theorem dX3_become_19 : decode cX3_become 19 = .ok (.aload_n 0, 1) := by decide +kernel
theorem dX3_become_20 : decode cX3_become 20 = .ok (.getfield 15, 3) := by decide +kernel
theorem dX3_become_23 : decode cX3_become 23 = .ok (.iconst 0, 1) := by decide +kernel
theorem dX3_become_24 : decode cX3_become 24 = .ok (.iconst 3, 1) := by decide +kernel
theorem dX3_become_25 : decode cX3_become 25 = .ok (.invokestatic 27, 3) := by decide +kernel
theorem dX3_become_28 : decode cX3_become 28 = .ok (.iconst 0, 1) := by decide +kernel
theorem dX3_become_29 : decode cX3_become 29 = .ok (.istore_n 2, 1) := by decide +kernel
theorem dX3_become_30 : decode cX3_become 30 = .ok (.iload_n 2, 1) := by decide +kernel
theorem dX3_become_31 : decode cX3_become 31 = .ok (.iconst 3, 1) := by decide +kernel
theorem dX3_become_32 : decode cX3_become 32 = .ok (.if_icmp .ge 28, 3) := by decide +kernel
theorem dX3_become_35 : decode cX3_become 35 = .ok (.aload_n 1, 1) := by decide +kernel
theorem dX3_become_36 : decode cX3_become 36 = .ok (.getfield 20, 3) := by decide +kernel
theorem dX3_become_39 : decode cX3_become 39 = .ok (.iload_n 2, 1) := by decide +kernel
theorem dX3_become_40 : decode cX3_become 40 = .ok (.aaload, 1) := by decide +kernel
theorem dX3_become_41 : decode cX3_become 41 = .ok (.iconst 0, 1) := by decide +kernel
theorem dX3_become_42 : decode cX3_become 42 = .ok (.aload_n 0, 1) := by decide +kernel
theorem dX3_become_43 : decode cX3_become 43 = .ok (.getfield 20, 3) := by decide +kernel
theorem dX3_become_46 : decode cX3_become 46 = .ok (.iload_n 2, 1) := by decide +kernel
theorem dX3_become_47 : decode cX3_become 47 = .ok (.aaload, 1) := by decide +kernel
theorem dX3_become_48 : decode cX3_become 48 = .ok (.iconst 0, 1) := by decide +kernel
theorem dX3_become_49 : decode cX3_become 49 = .ok (.bipush 24, 2) := by decide +kernel
theorem dX3_become_51 : decode cX3_become 51 = .ok (.invokestatic 27, 3) := by decide +kernel
theorem dX3_become_54 : decode cX3_become 54 = .ok (.iinc 2 1, 3) := by decide +kernel
theorem dX3_become_57 : decode cX3_become 57 = .ok (.goto (-27), 3) := by decide +kernel
theorem dX3_become_60 : decode cX3_become 60 = .ok (.aload_n 0, 1) := by decide +kernel
theorem dX3_become_61 : decode cX3_become 61 = .ok (.aload_n 1, 1) := by decide +kernel
theorem dX3_become_62 : decode cX3_become 62 = .ok (.getfield 23, 3) := by decide +kernel
theorem dX3_become_65 : decode cX3_become 65 = .ok (.putfield 23, 3) := by decide +kernel
theorem dX3_become_68 : decode cX3_become 68 = .ok (.return_, 1) := by decide +kernel
theorem dX3_append_0 : decode cX3_append 0 = .ok (.aload_n 0, 1) := by decide +kernel
theorem dX3_append_1 : decode cX3_append 1 = .ok (.getfield 9, 3) := by decide +kernel
theorem dX3_append_4 : decode cX3_append 4 = .ok (.aload_n 0, 1) := by decide +kernel
theorem dX3_append_5 : decode cX3_append 5 = .ok (.getfield 23, 3) := by decide +kernel
theorem dX3_append_8 : decode cX3_append 8 = .ok (.iload_n 1, 1) := by decide +kernel
theorem dX3_append_9 : decode cX3_append 9 = .ok (.iastore, 1) := by decide +kernel
theorem dX3_append_10 : decode cX3_append 10 = .ok (.aload_n 0, 1) := by decide +kernel
theorem dX3_append_11 : decode cX3_append 11 = .ok (.getfield 15, 3) := by decide +kernel
theorem dX3_append_14 : decode cX3_append 14 = .ok (.aload_n 0, 1) := by decide +kernel
theorem dX3_append_15 : decode cX3_append 15 = .ok (.getfield 23, 3) := by decide +kernel
theorem dX3_append_18 : decode cX3_append 18 = .ok (.iconst 0, 1) := by decide +kernel
theorem dX3_append_19 : decode cX3_append 19 = .ok (.iastore, 1) := by decide +kernel
theorem dX3_append_20 : decode cX3_append 20 = .ok (.aload_n 0, 1) := by decide +kernel
theorem dX3_append_21 : decode cX3_append 21 = .ok (.dup, 1) := by decide +kernel
theorem dX3_append_22 : decode cX3_append 22 = .ok (.getfield 23, 3) := by decide +kernel
theorem dX3_append_25 : decode cX3_append 25 = .ok (.iconst 1, 1) := by decide +kernel
theorem dX3_append_26 : decode cX3_append 26 = .ok (.iadd, 1) := by decide +kernel
theorem dX3_append_27 : decode cX3_append 27 = .ok (.putfield 23, 3) := by decide +kernel
theorem dX3_append_30 : decode cX3_append 30 = .ok (.aload_n 0, 1) := by decide +kernel
theorem dX3_append_31 : decode cX3_append 31 = .ok (.getfield 23, 3) := by decide +kernel
theorem dX3_append_34 : decode cX3_append 34 = .ok (.iconst 1, 1) := by decide +kernel
theorem dX3_append_35 : decode cX3_append 35 = .ok (.isub, 1) := by decide +kernel
theorem dX3_append_36 : decode cX3_append 36 = .ok (.ireturn, 1) := by decide +kernel
theorem dX3_forget_0 : decode cX3_forget 0 = .ok (.aload_n 0, 1) := by decide +kernel
theorem dX3_forget_1 : decode cX3_forget 1 = .ok (.getfield 15, 3) := by decide +kernel
theorem dX3_forget_4 : decode cX3_forget 4 = .ok (.iconst 0, 1) := by decide +kernel
theorem dX3_forget_5 : decode cX3_forget 5 = .ok (.invokestatic 33, 3) := by decide +kernel
theorem dX3_forget_8 : decode cX3_forget 8 = .ok (.return_, 1) := by decide +kernel
theorem dX3_look_0 : decode cX3_look 0 = .ok (.iconst 0, 1) := by decide +kernel
theorem dX3_look_1 : decode cX3_look 1 = .ok (.istore_n 2, 1) := by decide +kernel
theorem dX3_look_2 : decode cX3_look 2 = .ok (.iload_n 2, 1) := by decide +kernel
theorem dX3_look_3 : decode cX3_look 3 = .ok (.aload_n 0, 1) := by decide +kernel
theorem dX3_look_4 : decode cX3_look 4 = .ok (.getfield 23, 3) := by decide +kernel
theorem dX3_look_7 : decode cX3_look 7 = .ok (.if_icmp .ge 63, 3) := by decide +kernel
theorem dX3_look_10 : decode cX3_look 10 = .ok (.aload_n 0, 1) := by decide +kernel
theorem dX3_look_11 : decode cX3_look 11 = .ok (.getfield 20, 3) := by decide +kernel
theorem dX3_look_14 : decode cX3_look 14 = .ok (.iload_n 2, 1) := by decide +kernel
theorem dX3_look_15 : decode cX3_look 15 = .ok (.aaload, 1) := by decide +kernel
theorem dX3_look_16 : decode cX3_look 16 = .ok (.iconst 0, 1) := by decide +kernel
theorem dX3_look_17 : decode cX3_look 17 = .ok (.aload_n 0, 1) := by decide +kernel
theorem dX3_look_18 : decode cX3_look 18 = .ok (.getfield 20, 3) := by decide +kernel
theorem dX3_look_21 : decode cX3_look 21 = .ok (.iload_n 2, 1) := by decide +kernel
theorem dX3_look_22 : decode cX3_look 22 = .ok (.aaload, 1) := by decide +kernel
theorem dX3_look_23 : decode cX3_look 23 = .ok (.iconst 1, 1) := by decide +kernel
theorem dX3_look_24 : decode cX3_look 24 = .ok (.bipush 23, 2) := by decide +kernel
theorem dX3_look_26 : decode cX3_look 26 = .ok (.invokestatic 27, 3) := by decide +kernel
theorem dX3_look_29 : decode cX3_look 29 = .ok (.aload_n 0, 1) := by decide +kernel
theorem dX3_look_30 : decode cX3_look 30 = .ok (.getfield 20, 3) := by decide +kernel
theorem dX3_look_33 : decode cX3_look 33 = .ok (.iload_n 2, 1) := by decide +kernel
theorem dX3_look_34 : decode cX3_look 34 = .ok (.aaload, 1) := by decide +kernel
theorem dX3_look_35 : decode cX3_look 35 = .ok (.iconst 0, 1) := by decide +kernel
theorem dX3_look_36 : decode cX3_look 36 = .ok (.aload_n 1, 1) := by decide +kernel
theorem dX3_look_37 : decode cX3_look 37 = .ok (.aload_n 0, 1) := by decide +kernel
theorem dX3_look_38 : decode cX3_look 38 = .ok (.getfield 9, 3) := by decide +kernel
theorem dX3_look_41 : decode cX3_look 41 = .ok (.iload_n 2, 1) := by decide +kernel
theorem dX3_look_42 : decode cX3_look 42 = .ok (.iaload, 1) := by decide +kernel
theorem dX3_look_43 : decode cX3_look 43 = .ok (.iaload, 1) := by decide +kernel
theorem dX3_look_44 : decode cX3_look 44 = .ok (.iastore, 1) := by decide +kernel
theorem dX3_look_45 : decode cX3_look 45 = .ok (.aload_n 0, 1) := by decide +kernel
theorem dX3_look_46 : decode cX3_look 46 = .ok (.getfield 15, 3) := by decide +kernel
theorem dX3_look_49 : decode cX3_look 49 = .ok (.iload_n 2, 1) := by decide +kernel
theorem dX3_look_50 : decode cX3_look 50 = .ok (.aload_n 0, 1) := by decide +kernel
theorem dX3_look_51 : decode cX3_look 51 = .ok (.getfield 15, 3) := by decide +kernel
theorem dX3_look_54 : decode cX3_look 54 = .ok (.iload_n 2, 1) := by decide +kernel
theorem dX3_look_55 : decode cX3_look 55 = .ok (.iaload, 1) := by decide +kernel
theorem dX3_look_56 : decode cX3_look 56 = .ok (.iconst 1, 1) := by decide +kernel
theorem dX3_look_57 : decode cX3_look 57 = .ok (.iadd, 1) := by decide +kernel
theorem dX3_look_58 : decode cX3_look 58 = .ok (.bipush 24, 2) := by decide +kernel
theorem dX3_look_60 : decode cX3_look 60 = .ok (.invokestatic 39, 3) := by decide +kernel
theorem dX3_look_63 : decode cX3_look 63 = .ok (.iastore, 1) := by decide +kernel
theorem dX3_look_64 : decode cX3_look 64 = .ok (.iinc 2 1, 3) := by decide +kernel
theorem dX3_look_67 : decode cX3_look 67 = .ok (.goto (-65), 3) := by decide +kernel
theorem dX3_look_70 : decode cX3_look 70 = .ok (.return_, 1) := by decide +kernel
theorem dX3_greatestOf_0 : decode cX3_greatestOf 0 = .ok (.aload_n 0, 1) := by decide +kernel
theorem dX3_greatestOf_1 : decode cX3_greatestOf 1 = .ok (.getfield 20, 3) := by decide +kernel
theorem dX3_greatestOf_4 : decode cX3_greatestOf 4 = .ok (.iload_n 1, 1) := by decide +kernel
theorem dX3_greatestOf_5 : decode cX3_greatestOf 5 = .ok (.aaload, 1) := by decide +kernel
theorem dX3_greatestOf_6 : decode cX3_greatestOf 6 = .ok (.iconst 0, 1) := by decide +kernel
theorem dX3_greatestOf_7 : decode cX3_greatestOf 7 = .ok (.iaload, 1) := by decide +kernel
theorem dX3_greatestOf_8 : decode cX3_greatestOf 8 = .ok (.istore_n 2, 1) := by decide +kernel
theorem dX3_greatestOf_9 : decode cX3_greatestOf 9 = .ok (.iconst 1, 1) := by decide +kernel
theorem dX3_greatestOf_10 : decode cX3_greatestOf 10 = .ok (.istore_n 3, 1) := by decide +kernel
theorem dX3_greatestOf_11 : decode cX3_greatestOf 11 = .ok (.iload_n 3, 1) := by decide +kernel
theorem dX3_greatestOf_12 : decode cX3_greatestOf 12 = .ok (.aload_n 0, 1) := by decide +kernel
theorem dX3_greatestOf_13 : decode cX3_greatestOf 13 = .ok (.getfield 15, 3) := by decide +kernel
theorem dX3_greatestOf_16 : decode cX3_greatestOf 16 = .ok (.iload_n 1, 1) := by decide +kernel
theorem dX3_greatestOf_17 : decode cX3_greatestOf 17 = .ok (.iaload, 1) := by decide +kernel
theorem dX3_greatestOf_18 : decode cX3_greatestOf 18 = .ok (.if_icmp .ge 22, 3) := by decide +kernel
theorem dX3_greatestOf_21 : decode cX3_greatestOf 21 = .ok (.iload_n 2, 1) := by decide +kernel
theorem dX3_greatestOf_22 : decode cX3_greatestOf 22 = .ok (.aload_n 0, 1) := by decide +kernel
theorem dX3_greatestOf_23 : decode cX3_greatestOf 23 = .ok (.getfield 20, 3) := by decide +kernel
theorem dX3_greatestOf_26 : decode cX3_greatestOf 26 = .ok (.iload_n 1, 1) := by decide +kernel
theorem dX3_greatestOf_27 : decode cX3_greatestOf 27 = .ok (.aaload, 1) := by decide +kernel
theorem dX3_greatestOf_28 : decode cX3_greatestOf 28 = .ok (.iload_n 3, 1) := by decide +kernel
theorem dX3_greatestOf_29 : decode cX3_greatestOf 29 = .ok (.iaload, 1) := by decide +kernel
theorem dX3_greatestOf_30 : decode cX3_greatestOf 30 = .ok (.invokestatic 45, 3) := by decide +kernel
theorem dX3_greatestOf_33 : decode cX3_greatestOf 33 = .ok (.istore_n 2, 1) := by decide +kernel
theorem dX3_greatestOf_34 : decode cX3_greatestOf 34 = .ok (.iinc 3 1, 3) := by decide +kernel
theorem dX3_greatestOf_37 : decode cX3_greatestOf 37 = .ok (.goto (-26), 3) := by decide +kernel
theorem dX3_greatestOf_40 : decode cX3_greatestOf 40 = .ok (.iload_n 2, 1) := by decide +kernel
theorem dX3_greatestOf_41 : decode cX3_greatestOf 41 = .ok (.ireturn, 1) := by decide +kernel
theorem dX3_beatOf_0 : decode cX3_beatOf 0 = .ok (.aload_n 0, 1) := by decide +kernel
theorem dX3_beatOf_1 : decode cX3_beatOf 1 = .ok (.getfield 15, 3) := by decide +kernel
theorem dX3_beatOf_4 : decode cX3_beatOf 4 = .ok (.iload_n 1, 1) := by decide +kernel
theorem dX3_beatOf_5 : decode cX3_beatOf 5 = .ok (.iaload, 1) := by decide +kernel
theorem dX3_beatOf_6 : decode cX3_beatOf 6 = .ok (.bipush 24, 2) := by decide +kernel
theorem dX3_beatOf_8 : decode cX3_beatOf 8 = .ok (.if_icmp .ge 6, 3) := by decide +kernel
theorem dX3_beatOf_11 : decode cX3_beatOf 11 = .ok (.bipush (-6), 2) := by decide +kernel
theorem dX3_beatOf_13 : decode cX3_beatOf 13 = .ok (.ireturn, 1) := by decide +kernel
theorem dX3_beatOf_14 : decode cX3_beatOf 14 = .ok (.iconst 2, 1) := by decide +kernel
theorem dX3_beatOf_15 : decode cX3_beatOf 15 = .ok (.istore_n 2, 1) := by decide +kernel
theorem dX3_beatOf_16 : decode cX3_beatOf 16 = .ok (.aload_n 0, 1) := by decide +kernel
theorem dX3_beatOf_17 : decode cX3_beatOf 17 = .ok (.iload_n 1, 1) := by decide +kernel
theorem dX3_beatOf_18 : decode cX3_beatOf 18 = .ok (.iconst 2, 1) := by decide +kernel
theorem dX3_beatOf_19 : decode cX3_beatOf 19 = .ok (.invokevirtual 48, 3) := by decide +kernel
theorem dX3_beatOf_22 : decode cX3_beatOf 22 = .ok (.istore_n 3, 1) := by decide +kernel
theorem dX3_beatOf_23 : decode cX3_beatOf 23 = .ok (.iconst 3, 1) := by decide +kernel
theorem dX3_beatOf_24 : decode cX3_beatOf 24 = .ok (.istore 4, 2) := by decide +kernel
theorem dX3_beatOf_26 : decode cX3_beatOf 26 = .ok (.iload 4, 2) := by decide +kernel
theorem dX3_beatOf_28 : decode cX3_beatOf 28 = .ok (.bipush 12, 2) := by decide +kernel
theorem dX3_beatOf_30 : decode cX3_beatOf 30 = .ok (.if_icmp .gt 30, 3) := by decide +kernel
theorem dX3_beatOf_33 : decode cX3_beatOf 33 = .ok (.aload_n 0, 1) := by decide +kernel
theorem dX3_beatOf_34 : decode cX3_beatOf 34 = .ok (.iload_n 1, 1) := by decide +kernel
theorem dX3_beatOf_35 : decode cX3_beatOf 35 = .ok (.iload 4, 2) := by decide +kernel
theorem dX3_beatOf_37 : decode cX3_beatOf 37 = .ok (.invokevirtual 48, 3) := by decide +kernel
theorem dX3_beatOf_40 : decode cX3_beatOf 40 = .ok (.istore 5, 2) := by decide +kernel
theorem dX3_beatOf_42 : decode cX3_beatOf 42 = .ok (.iload 5, 2) := by decide +kernel
theorem dX3_beatOf_44 : decode cX3_beatOf 44 = .ok (.iload_n 3, 1) := by decide +kernel
theorem dX3_beatOf_45 : decode cX3_beatOf 45 = .ok (.if_icmp .ge 9, 3) := by decide +kernel
theorem dX3_beatOf_48 : decode cX3_beatOf 48 = .ok (.iload 4, 2) := by decide +kernel
theorem dX3_beatOf_50 : decode cX3_beatOf 50 = .ok (.istore_n 2, 1) := by decide +kernel
theorem dX3_beatOf_51 : decode cX3_beatOf 51 = .ok (.iload 5, 2) := by decide +kernel
theorem dX3_beatOf_53 : decode cX3_beatOf 53 = .ok (.istore_n 3, 1) := by decide +kernel
theorem dX3_beatOf_54 : decode cX3_beatOf 54 = .ok (.iinc 4 1, 3) := by decide +kernel
theorem dX3_beatOf_57 : decode cX3_beatOf 57 = .ok (.goto (-31), 3) := by decide +kernel
theorem dX3_beatOf_60 : decode cX3_beatOf 60 = .ok (.iload_n 2, 1) := by decide +kernel
theorem dX3_beatOf_61 : decode cX3_beatOf 61 = .ok (.ireturn, 1) := by decide +kernel
theorem dX3_differences_0 : decode cX3_differences 0 = .ok (.iconst 0, 1) := by decide +kernel
theorem dX3_differences_1 : decode cX3_differences 1 = .ok (.istore_n 3, 1) := by decide +kernel
theorem dX3_differences_2 : decode cX3_differences 2 = .ok (.iconst 0, 1) := by decide +kernel
theorem dX3_differences_3 : decode cX3_differences 3 = .ok (.istore 4, 2) := by decide +kernel
theorem dX3_differences_5 : decode cX3_differences 5 = .ok (.iload 4, 2) := by decide +kernel
theorem dX3_differences_7 : decode cX3_differences 7 = .ok (.bipush 12, 2) := by decide +kernel
theorem dX3_differences_9 : decode cX3_differences 9 = .ok (.if_icmp .ge 36, 3) := by decide +kernel
theorem dX3_differences_12 : decode cX3_differences 12 = .ok (.iload_n 3, 1) := by decide +kernel
theorem dX3_differences_13 : decode cX3_differences 13 = .ok (.aload_n 0, 1) := by decide +kernel
theorem dX3_differences_14 : decode cX3_differences 14 = .ok (.getfield 20, 3) := by decide +kernel
theorem dX3_differences_17 : decode cX3_differences 17 = .ok (.iload_n 1, 1) := by decide +kernel
theorem dX3_differences_18 : decode cX3_differences 18 = .ok (.aaload, 1) := by decide +kernel
theorem dX3_differences_19 : decode cX3_differences 19 = .ok (.iload 4, 2) := by decide +kernel
theorem dX3_differences_21 : decode cX3_differences 21 = .ok (.iaload, 1) := by decide +kernel
theorem dX3_differences_22 : decode cX3_differences 22 = .ok (.aload_n 0, 1) := by decide +kernel
theorem dX3_differences_23 : decode cX3_differences 23 = .ok (.getfield 20, 3) := by decide +kernel
theorem dX3_differences_26 : decode cX3_differences 26 = .ok (.iload_n 1, 1) := by decide +kernel
theorem dX3_differences_27 : decode cX3_differences 27 = .ok (.aaload, 1) := by decide +kernel
theorem dX3_differences_28 : decode cX3_differences 28 = .ok (.iload 4, 2) := by decide +kernel
theorem dX3_differences_30 : decode cX3_differences 30 = .ok (.iload_n 2, 1) := by decide +kernel
theorem dX3_differences_31 : decode cX3_differences 31 = .ok (.iadd, 1) := by decide +kernel
theorem dX3_differences_32 : decode cX3_differences 32 = .ok (.iaload, 1) := by decide +kernel
theorem dX3_differences_33 : decode cX3_differences 33 = .ok (.isub, 1) := by decide +kernel
theorem dX3_differences_34 : decode cX3_differences 34 = .ok (.invokestatic 51, 3) := by decide +kernel
theorem dX3_differences_37 : decode cX3_differences 37 = .ok (.iadd, 1) := by decide +kernel
theorem dX3_differences_38 : decode cX3_differences 38 = .ok (.istore_n 3, 1) := by decide +kernel
theorem dX3_differences_39 : decode cX3_differences 39 = .ok (.iinc 4 1, 3) := by decide +kernel
theorem dX3_differences_42 : decode cX3_differences 42 = .ok (.goto (-37), 3) := by decide +kernel
theorem dX3_differences_45 : decode cX3_differences 45 = .ok (.iload_n 3, 1) := by decide +kernel
theorem dX3_differences_46 : decode cX3_differences 46 = .ok (.ireturn, 1) := by decide +kernel
theorem dX4_init_0 : decode cX4_init 0 = .ok (.aload_n 0, 1) := by decide +kernel
theorem dX4_init_1 : decode cX4_init 1 = .ok (.invokespecial 3, 3) := by decide +kernel
theorem dX4_init_4 : decode cX4_init 4 = .ok (.aload_n 0, 1) := by decide +kernel
theorem dX4_init_5 : decode cX4_init 5 = .ok (.getstatic 9, 3) := by decide +kernel
theorem dX4_init_8 : decode cX4_init 8 = .ok (.invokevirtual 13, 3) := by decide +kernel
theorem dX4_init_11 : decode cX4_init 11 = .ok (.checkcast 14, 3) := by decide +kernel
theorem dX4_init_14 : decode cX4_init 14 = .ok (.putfield 18, 3) := by decide +kernel
theorem dX4_init_17 : decode cX4_init 17 = .ok (.aload_n 0, 1) := by decide +kernel
theorem dX4_init_18 : decode cX4_init 18 = .ok (.bipush 60, 2) := by decide +kernel
theorem dX4_init_20 : decode cX4_init 20 = .ok (.newarray .int, 2) := by decide +kernel
theorem dX4_init_22 : decode cX4_init 22 = .ok (.putfield 23, 3) := by decide +kernel
theorem dX4_init_25 : decode cX4_init 25 = .ok (.aload_n 0, 1) := by decide +kernel
theorem dX4_init_26 : decode cX4_init 26 = .ok (.bipush 60, 2) := by decide +kernel
theorem dX4_init_28 : decode cX4_init 28 = .ok (.newarray .int, 2) := by decide +kernel
theorem dX4_init_30 : decode cX4_init 30 = .ok (.putfield 26, 3) := by decide +kernel
end
section
theorem dX4_init_33 : decode cX4_init 33 = .ok (.aload_n 0, 1) := by decide +kernel
theorem dX4_init_34 : decode cX4_init 34 = .ok (.bipush 60, 2) := by decide +kernel
theorem dX4_init_36 : decode cX4_init 36 = .ok (.newarray .int, 2) := by decide +kernel
theorem dX4_init_38 : decode cX4_init 38 = .ok (.putfield 29, 3) := by decide +kernel
theorem dX4_init_41 : decode cX4_init 41 = .ok (.aload_n 0, 1) := by decide +kernel
theorem dX4_init_42 : decode cX4_init 42 = .ok (.bipush 60, 2) := by decide +kernel
theorem dX4_init_44 : decode cX4_init 44 = .ok (.newarray .int, 2) := by decide +kernel
theorem dX4_init_46 : decode cX4_init 46 = .ok (.putfield 32, 3) := by decide +kernel
theorem dX4_init_49 : decode cX4_init 49 = .ok (.aload_n 0, 1) := by decide +kernel
theorem dX4_init_50 : decode cX4_init 50 = .ok (.new 35, 3) := by decide +kernel
theorem dX4_init_53 : decode cX4_init 53 = .ok (.dup, 1) := by decide +kernel
theorem dX4_init_54 : decode cX4_init 54 = .ok (.invokespecial 37, 3) := by decide +kernel
theorem dX4_init_57 : decode cX4_init 57 = .ok (.putfield 38, 3) := by decide +kernel
theorem dX4_init_60 : decode cX4_init 60 = .ok (.aload_n 0, 1) := by decide +kernel
theorem dX4_init_61 : decode cX4_init 61 = .ok (.new 42, 3) := by decide +kernel
theorem dX4_init_64 : decode cX4_init 64 = .ok (.dup, 1) := by decide +kernel
theorem dX4_init_65 : decode cX4_init 65 = .ok (.invokespecial 44, 3) := by decide +kernel
theorem dX4_init_68 : decode cX4_init 68 = .ok (.putfield 45, 3) := by decide +kernel
theorem dX4_init_71 : decode cX4_init 71 = .ok (.aload_n 0, 1) := by decide +kernel
theorem dX4_init_72 : decode cX4_init 72 = .ok (.iconst 0, 1) := by decide +kernel
theorem dX4_init_73 : decode cX4_init 73 = .ok (.putfield 49, 3) := by decide +kernel
theorem dX4_init_76 : decode cX4_init 76 = .ok (.aload_n 0, 1) := by decide +kernel
theorem dX4_init_77 : decode cX4_init 77 = .ok (.getfield 32, 3) := by decide +kernel
theorem dX4_init_80 : decode cX4_init 80 = .ok (.bipush (-6), 2) := by decide +kernel
theorem dX4_init_82 : decode cX4_init 82 = .ok (.invokestatic 53, 3) := by decide +kernel
theorem dX4_init_85 : decode cX4_init 85 = .ok (.return_, 1) := by decide +kernel
theorem dX4_become_0 : decode cX4_become 0 = .ok (.aload_n 1, 1) := by decide +kernel
theorem dX4_become_1 : decode cX4_become 1 = .ok (.getfield 18, 3) := by decide +kernel
theorem dX4_become_4 : decode cX4_become 4 = .ok (.iconst 0, 1) := by decide +kernel
theorem dX4_become_5 : decode cX4_become 5 = .ok (.aload_n 0, 1) := by decide +kernel
theorem dX4_become_6 : decode cX4_become 6 = .ok (.getfield 18, 3) := by decide +kernel
theorem dX4_become_9 : decode cX4_become 9 = .ok (.iconst 0, 1) := by decide +kernel
theorem dX4_become_10 : decode cX4_become 10 = .ok (.iconst 4, 1) := by decide +kernel
theorem dX4_become_11 : decode cX4_become 11 = .ok (.invokestatic 59, 3) := by decide +kernel
theorem dX4_become_14 : decode cX4_become 14 = .ok (.aload_n 1, 1) := by decide +kernel
theorem dX4_become_15 : decode cX4_become 15 = .ok (.getfield 23, 3) := by decide +kernel
theorem dX4_become_18 : decode cX4_become 18 = .ok (.iconst 0, 1) := by decide +kernel
theorem dX4_become_19 : decode cX4_become 19 = .ok (.aload_n 0, 1) := by decide +kernel
theorem dX4_become_20 : decode cX4_become 20 = .ok (.getfield 23, 3) := by decide +kernel
theorem dX4_become_23 : decode cX4_become 23 = .ok (.iconst 0, 1) := by decide +kernel
theorem dX4_become_24 : decode cX4_become 24 = .ok (.bipush 60, 2) := by decide +kernel
theorem dX4_become_26 : decode cX4_become 26 = .ok (.invokestatic 59, 3) := by decide +kernel
theorem dX4_become_29 : decode cX4_become 29 = .ok (.aload_n 1, 1) := by decide +kernel
theorem dX4_become_30 : decode cX4_become 30 = .ok (.getfield 26, 3) := by decide +kernel
theorem dX4_become_33 : decode cX4_become 33 = .ok (.iconst 0, 1) := by decide +kernel
theorem dX4_become_34 : decode cX4_become 34 = .ok (.aload_n 0, 1) := by decide +kernel
theorem dX4_become_35 : decode cX4_become 35 = .ok (.getfield 26, 3) := by decide +kernel
theorem dX4_become_38 : decode cX4_become 38 = .ok (.iconst 0, 1) := by decide +kernel
theorem dX4_become_39 : decode cX4_become 39 = .ok (.bipush 60, 2) := by decide +kernel
theorem dX4_become_41 : decode cX4_become 41 = .ok (.invokestatic 59, 3) := by decide +kernel
theorem dX4_become_44 : decode cX4_become 44 = .ok (.aload_n 1, 1) := by decide +kernel
theorem dX4_become_45 : decode cX4_become 45 = .ok (.getfield 29, 3) := by decide +kernel
theorem dX4_become_48 : decode cX4_become 48 = .ok (.iconst 0, 1) := by decide +kernel
theorem dX4_become_49 : decode cX4_become 49 = .ok (.aload_n 0, 1) := by decide +kernel
theorem dX4_become_50 : decode cX4_become 50 = .ok (.getfield 29, 3) := by decide +kernel
theorem dX4_become_53 : decode cX4_become 53 = .ok (.iconst 0, 1) := by decide +kernel
theorem dX4_become_54 : decode cX4_become 54 = .ok (.bipush 60, 2) := by decide +kernel
theorem dX4_become_56 : decode cX4_become 56 = .ok (.invokestatic 59, 3) := by decide +kernel
theorem dX4_become_59 : decode cX4_become 59 = .ok (.aload_n 1, 1) := by decide +kernel
theorem dX4_become_60 : decode cX4_become 60 = .ok (.getfield 32, 3) := by decide +kernel
theorem dX4_become_63 : decode cX4_become 63 = .ok (.iconst 0, 1) := by decide +kernel
theorem dX4_become_64 : decode cX4_become 64 = .ok (.aload_n 0, 1) := by decide +kernel
theorem dX4_become_65 : decode cX4_become 65 = .ok (.getfield 32, 3) := by decide +kernel
theorem dX4_become_68 : decode cX4_become 68 = .ok (.iconst 0, 1) := by decide +kernel
theorem dX4_become_69 : decode cX4_become 69 = .ok (.bipush 60, 2) := by decide +kernel
theorem dX4_become_71 : decode cX4_become 71 = .ok (.invokestatic 59, 3) := by decide +kernel
theorem dX4_become_74 : decode cX4_become 74 = .ok (.aload_n 0, 1) := by decide +kernel
theorem dX4_become_75 : decode cX4_become 75 = .ok (.getfield 38, 3) := by decide +kernel
theorem dX4_become_78 : decode cX4_become 78 = .ok (.aload_n 1, 1) := by decide +kernel
theorem dX4_become_79 : decode cX4_become 79 = .ok (.getfield 38, 3) := by decide +kernel
theorem dX4_become_82 : decode cX4_become 82 = .ok (.invokevirtual 65, 3) := by decide +kernel
theorem dX4_become_85 : decode cX4_become 85 = .ok (.aload_n 0, 1) := by decide +kernel
theorem dX4_become_86 : decode cX4_become 86 = .ok (.getfield 45, 3) := by decide +kernel
theorem dX4_become_89 : decode cX4_become 89 = .ok (.aload_n 1, 1) := by decide +kernel
theorem dX4_become_90 : decode cX4_become 90 = .ok (.getfield 45, 3) := by decide +kernel
theorem dX4_become_93 : decode cX4_become 93 = .ok (.invokevirtual 69, 3) := by decide +kernel
theorem dX4_become_96 : decode cX4_become 96 = .ok (.aload_n 0, 1) := by decide +kernel
theorem dX4_become_97 : decode cX4_become 97 = .ok (.aload_n 1, 1) := by decide +kernel
theorem dX4_become_98 : decode cX4_become 98 = .ok (.getfield 49, 3) := by decide +kernel
theorem dX4_become_101 : decode cX4_become 101 = .ok (.putfield 49, 3) := by decide +kernel
theorem dX4_become_104 : decode cX4_become 104 = .ok (.return_, 1) := by decide +kernel
theorem dX4_lay_0 : decode cX4_lay 0 = .ok (.aload_n 0, 1) := by decide +kernel
theorem dX4_lay_1 : decode cX4_lay 1 = .ok (.getfield 23, 3) := by decide +kernel
theorem dX4_lay_4 : decode cX4_lay 4 = .ok (.iload_n 1, 1) := by decide +kernel
theorem dX4_lay_5 : decode cX4_lay 5 = .ok (.iload_n 2, 1) := by decide +kernel
theorem dX4_lay_6 : decode cX4_lay 6 = .ok (.iastore, 1) := by decide +kernel
theorem dX4_lay_7 : decode cX4_lay 7 = .ok (.iload_n 2, 1) := by decide +kernel
theorem dX4_lay_8 : decode cX4_lay 8 = .ok (.iconst 2, 1) := by decide +kernel
theorem dX4_lay_9 : decode cX4_lay 9 = .ok (.if_icmp .ne 17, 3) := by decide +kernel
theorem dX4_lay_12 : decode cX4_lay 12 = .ok (.aload_n 0, 1) := by decide +kernel
theorem dX4_lay_13 : decode cX4_lay 13 = .ok (.getfield 26, 3) := by decide +kernel
theorem dX4_lay_16 : decode cX4_lay 16 = .ok (.iload_n 1, 1) := by decide +kernel
theorem dX4_lay_17 : decode cX4_lay 17 = .ok (.iconst 0, 1) := by decide +kernel
theorem dX4_lay_18 : decode cX4_lay 18 = .ok (.iastore, 1) := by decide +kernel
theorem dX4_lay_19 : decode cX4_lay 19 = .ok (.aload_n 0, 1) := by decide +kernel
theorem dX4_lay_20 : decode cX4_lay 20 = .ok (.getfield 29, 3) := by decide +kernel
theorem dX4_lay_23 : decode cX4_lay 23 = .ok (.iload_n 1, 1) := by decide +kernel
theorem dX4_lay_24 : decode cX4_lay 24 = .ok (.iconst 0, 1) := by decide +kernel
theorem dX4_lay_25 : decode cX4_lay 25 = .ok (.iastore, 1) := by decide +kernel
theorem dX4_lay_26 : decode cX4_lay 26 = .ok (.return_, 1) := by decide +kernel
theorem dX4_layAll_0 : decode cX4_layAll 0 = .ok (.iconst 0, 1) := by decide +kernel
theorem dX4_layAll_1 : decode cX4_layAll 1 = .ok (.istore_n 2, 1) := by decide +kernel
theorem dX4_layAll_2 : decode cX4_layAll 2 = .ok (.iload_n 2, 1) := by decide +kernel
theorem dX4_layAll_3 : decode cX4_layAll 3 = .ok (.bipush 60, 2) := by decide +kernel
theorem dX4_layAll_5 : decode cX4_layAll 5 = .ok (.if_icmp .ge 20, 3) := by decide +kernel
theorem dX4_layAll_8 : decode cX4_layAll 8 = .ok (.aload_n 0, 1) := by decide +kernel
theorem dX4_layAll_9 : decode cX4_layAll 9 = .ok (.getfield 23, 3) := by decide +kernel
theorem dX4_layAll_12 : decode cX4_layAll 12 = .ok (.iload_n 2, 1) := by decide +kernel
theorem dX4_layAll_13 : decode cX4_layAll 13 = .ok (.aload_n 1, 1) := by decide +kernel
theorem dX4_layAll_14 : decode cX4_layAll 14 = .ok (.iload_n 2, 1) := by decide +kernel
theorem dX4_layAll_15 : decode cX4_layAll 15 = .ok (.invokevirtual 72, 3) := by decide +kernel
theorem dX4_layAll_18 : decode cX4_layAll 18 = .ok (.iastore, 1) := by decide +kernel
theorem dX4_layAll_19 : decode cX4_layAll 19 = .ok (.iinc 2 1, 3) := by decide +kernel
theorem dX4_layAll_22 : decode cX4_layAll 22 = .ok (.goto (-20), 3) := by decide +kernel
theorem dX4_layAll_25 : decode cX4_layAll 25 = .ok (.aload_n 0, 1) := by decide +kernel
theorem dX4_layAll_26 : decode cX4_layAll 26 = .ok (.getfield 38, 3) := by decide +kernel
theorem dX4_layAll_29 : decode cX4_layAll 29 = .ok (.iconst 0, 1) := by decide +kernel
theorem dX4_layAll_30 : decode cX4_layAll 30 = .ok (.putfield 78, 3) := by decide +kernel
theorem dX4_layAll_33 : decode cX4_layAll 33 = .ok (.aload_n 0, 1) := by decide +kernel
theorem dX4_layAll_34 : decode cX4_layAll 34 = .ok (.getfield 45, 3) := by decide +kernel
theorem dX4_layAll_37 : decode cX4_layAll 37 = .ok (.iconst 0, 1) := by decide +kernel
theorem dX4_layAll_38 : decode cX4_layAll 38 = .ok (.putfield 81, 3) := by decide +kernel
theorem dX4_layAll_41 : decode cX4_layAll 41 = .ok (.aload_n 0, 1) := by decide +kernel
theorem dX4_layAll_42 : decode cX4_layAll 42 = .ok (.invokevirtual 82, 3) := by decide +kernel
theorem dX4_layAll_45 : decode cX4_layAll 45 = .ok (.return_, 1) := by decide +kernel
theorem dX4_calm_0 : decode cX4_calm 0 = .ok (.aload_n 0, 1) := by decide +kernel
theorem dX4_calm_1 : decode cX4_calm 1 = .ok (.getfield 26, 3) := by decide +kernel
theorem dX4_calm_4 : decode cX4_calm 4 = .ok (.iconst 0, 1) := by decide +kernel
theorem dX4_calm_5 : decode cX4_calm 5 = .ok (.invokestatic 53, 3) := by decide +kernel
theorem dX4_calm_8 : decode cX4_calm 8 = .ok (.aload_n 0, 1) := by decide +kernel
theorem dX4_calm_9 : decode cX4_calm 9 = .ok (.getfield 29, 3) := by decide +kernel
theorem dX4_calm_12 : decode cX4_calm 12 = .ok (.iconst 0, 1) := by decide +kernel
theorem dX4_calm_13 : decode cX4_calm 13 = .ok (.invokestatic 53, 3) := by decide +kernel
theorem dX4_calm_16 : decode cX4_calm 16 = .ok (.aload_n 0, 1) := by decide +kernel
theorem dX4_calm_17 : decode cX4_calm 17 = .ok (.getfield 32, 3) := by decide +kernel
theorem dX4_calm_20 : decode cX4_calm 20 = .ok (.bipush (-6), 2) := by decide +kernel
theorem dX4_calm_22 : decode cX4_calm 22 = .ok (.invokestatic 53, 3) := by decide +kernel
theorem dX4_calm_25 : decode cX4_calm 25 = .ok (.aload_n 0, 1) := by decide +kernel
theorem dX4_calm_26 : decode cX4_calm 26 = .ok (.getfield 45, 3) := by decide +kernel
theorem dX4_calm_29 : decode cX4_calm 29 = .ok (.invokevirtual 85, 3) := by decide +kernel
theorem dX4_calm_32 : decode cX4_calm 32 = .ok (.aload_n 0, 1) := by decide +kernel
theorem dX4_calm_33 : decode cX4_calm 33 = .ok (.iconst 0, 1) := by decide +kernel
theorem dX4_calm_34 : decode cX4_calm 34 = .ok (.putfield 49, 3) := by decide +kernel
theorem dX4_calm_37 : decode cX4_calm 37 = .ok (.return_, 1) := by decide +kernel
theorem dX4_run_0 : decode cX4_run 0 = .ok (.iconst 0, 1) := by decide +kernel
theorem dX4_run_1 : decode cX4_run 1 = .ok (.istore_n 2, 1) := by decide +kernel
theorem dX4_run_2 : decode cX4_run 2 = .ok (.iload_n 2, 1) := by decide +kernel
theorem dX4_run_3 : decode cX4_run 3 = .ok (.iload_n 1, 1) := by decide +kernel
theorem dX4_run_4 : decode cX4_run 4 = .ok (.if_icmp .ge 13, 3) := by decide +kernel
theorem dX4_run_7 : decode cX4_run 7 = .ok (.aload_n 0, 1) := by decide +kernel
theorem dX4_run_8 : decode cX4_run 8 = .ok (.invokevirtual 88, 3) := by decide +kernel
theorem dX4_run_11 : decode cX4_run 11 = .ok (.iinc 2 1, 3) := by decide +kernel
theorem dX4_run_14 : decode cX4_run 14 = .ok (.goto (-12), 3) := by decide +kernel
theorem dX4_run_17 : decode cX4_run 17 = .ok (.return_, 1) := by decide +kernel
theorem dX4_step_0 : decode cX4_step 0 = .ok (.aload_n 0, 1) := by decide +kernel
theorem dX4_step_1 : decode cX4_step 1 = .ok (.getfield 29, 3) := by decide +kernel
theorem dX4_step_4 : decode cX4_step 4 = .ok (.astore_n 1, 1) := by decide +kernel
theorem dX4_step_5 : decode cX4_step 5 = .ok (.iconst 0, 1) := by decide +kernel
theorem dX4_step_6 : decode cX4_step 6 = .ok (.istore_n 2, 1) := by decide +kernel
theorem dX4_step_7 : decode cX4_step 7 = .ok (.iload_n 2, 1) := by decide +kernel
theorem dX4_step_8 : decode cX4_step 8 = .ok (.bipush 60, 2) := by decide +kernel
theorem dX4_step_10 : decode cX4_step 10 = .ok (.if_icmp .ge 31, 3) := by decide +kernel
theorem dX4_step_13 : decode cX4_step 13 = .ok (.aload_n 1, 1) := by decide +kernel
theorem dX4_step_14 : decode cX4_step 14 = .ok (.iload_n 2, 1) := by decide +kernel
theorem dX4_step_15 : decode cX4_step 15 = .ok (.aload_n 0, 1) := by decide +kernel
theorem dX4_step_16 : decode cX4_step 16 = .ok (.getfield 23, 3) := by decide +kernel
theorem dX4_step_19 : decode cX4_step 19 = .ok (.iload_n 2, 1) := by decide +kernel
theorem dX4_step_20 : decode cX4_step 20 = .ok (.iaload, 1) := by decide +kernel
theorem dX4_step_21 : decode cX4_step 21 = .ok (.iconst 2, 1) := by decide +kernel
theorem dX4_step_22 : decode cX4_step 22 = .ok (.if_icmp .ne 7, 3) := by decide +kernel
theorem dX4_step_25 : decode cX4_step 25 = .ok (.iconst 0, 1) := by decide +kernel
theorem dX4_step_26 : decode cX4_step 26 = .ok (.goto 8, 3) := by decide +kernel
theorem dX4_step_29 : decode cX4_step 29 = .ok (.aload_n 0, 1) := by decide +kernel
theorem dX4_step_30 : decode cX4_step 30 = .ok (.iload_n 2, 1) := by decide +kernel
theorem dX4_step_31 : decode cX4_step 31 = .ok (.invokevirtual 91, 3) := by decide +kernel
theorem dX4_step_34 : decode cX4_step 34 = .ok (.iastore, 1) := by decide +kernel
theorem dX4_step_35 : decode cX4_step 35 = .ok (.iinc 2 1, 3) := by decide +kernel
theorem dX4_step_38 : decode cX4_step 38 = .ok (.goto (-31), 3) := by decide +kernel
theorem dX4_step_41 : decode cX4_step 41 = .ok (.aload_n 0, 1) := by decide +kernel
theorem dX4_step_42 : decode cX4_step 42 = .ok (.getfield 38, 3) := by decide +kernel
theorem dX4_step_45 : decode cX4_step 45 = .ok (.aload_n 1, 1) := by decide +kernel
theorem dX4_step_46 : decode cX4_step 46 = .ok (.aload_n 0, 1) := by decide +kernel
theorem dX4_step_47 : decode cX4_step 47 = .ok (.getfield 49, 3) := by decide +kernel
theorem dX4_step_50 : decode cX4_step 50 = .ok (.invokevirtual 94, 3) := by decide +kernel
theorem dX4_step_53 : decode cX4_step 53 = .ok (.aload_n 0, 1) := by decide +kernel
theorem dX4_step_54 : decode cX4_step 54 = .ok (.aload_n 0, 1) := by decide +kernel
theorem dX4_step_55 : decode cX4_step 55 = .ok (.getfield 26, 3) := by decide +kernel
theorem dX4_step_58 : decode cX4_step 58 = .ok (.putfield 29, 3) := by decide +kernel
theorem dX4_step_61 : decode cX4_step 61 = .ok (.aload_n 0, 1) := by decide +kernel
theorem dX4_step_62 : decode cX4_step 62 = .ok (.aload_n 1, 1) := by decide +kernel
theorem dX4_step_63 : decode cX4_step 63 = .ok (.putfield 26, 3) := by decide +kernel
theorem dX4_step_66 : decode cX4_step 66 = .ok (.aload_n 0, 1) := by decide +kernel
theorem dX4_step_67 : decode cX4_step 67 = .ok (.invokevirtual 97, 3) := by decide +kernel
theorem dX4_step_70 : decode cX4_step 70 = .ok (.aload_n 0, 1) := by decide +kernel
theorem dX4_step_71 : decode cX4_step 71 = .ok (.getfield 45, 3) := by decide +kernel
theorem dX4_step_74 : decode cX4_step 74 = .ok (.aload_n 0, 1) := by decide +kernel
theorem dX4_step_75 : decode cX4_step 75 = .ok (.getfield 26, 3) := by decide +kernel
theorem dX4_step_78 : decode cX4_step 78 = .ok (.invokevirtual 100, 3) := by decide +kernel
theorem dX4_step_81 : decode cX4_step 81 = .ok (.aload_n 0, 1) := by decide +kernel
theorem dX4_step_82 : decode cX4_step 82 = .ok (.dup, 1) := by decide +kernel
theorem dX4_step_83 : decode cX4_step 83 = .ok (.getfield 49, 3) := by decide +kernel
theorem dX4_step_86 : decode cX4_step 86 = .ok (.iconst 1, 1) := by decide +kernel
theorem dX4_step_87 : decode cX4_step 87 = .ok (.iadd, 1) := by decide +kernel
theorem dX4_step_88 : decode cX4_step 88 = .ok (.putfield 49, 3) := by decide +kernel
theorem dX4_step_91 : decode cX4_step 91 = .ok (.return_, 1) := by decide +kernel
theorem dX4_nextHeight_0 : decode cX4_nextHeight 0 = .ok (.aload_n 0, 1) := by decide +kernel
theorem dX4_nextHeight_1 : decode cX4_nextHeight 1 = .ok (.getfield 23, 3) := by decide +kernel
theorem dX4_nextHeight_4 : decode cX4_nextHeight 4 = .ok (.iload_n 1, 1) := by decide +kernel
theorem dX4_nextHeight_5 : decode cX4_nextHeight 5 = .ok (.iaload, 1) := by decide +kernel
theorem dX4_nextHeight_6 : decode cX4_nextHeight 6 = .ok (.istore_n 2, 1) := by decide +kernel
theorem dX4_nextHeight_7 : decode cX4_nextHeight 7 = .ok (.iload_n 2, 1) := by decide +kernel
theorem dX4_nextHeight_8 : decode cX4_nextHeight 8 = .ok (.ifCond .ne 12, 3) := by decide +kernel
theorem dX4_nextHeight_11 : decode cX4_nextHeight 11 = .ok (.aload_n 0, 1) := by decide +kernel
theorem dX4_nextHeight_12 : decode cX4_nextHeight 12 = .ok (.getfield 18, 3) := by decide +kernel
theorem dX4_nextHeight_15 : decode cX4_nextHeight 15 = .ok (.iconst 1, 1) := by decide +kernel
theorem dX4_nextHeight_16 : decode cX4_nextHeight 16 = .ok (.iaload, 1) := by decide +kernel
theorem dX4_nextHeight_17 : decode cX4_nextHeight 17 = .ok (.goto 9, 3) := by decide +kernel
theorem dX4_nextHeight_20 : decode cX4_nextHeight 20 = .ok (.aload_n 0, 1) := by decide +kernel
theorem dX4_nextHeight_21 : decode cX4_nextHeight 21 = .ok (.getfield 18, 3) := by decide +kernel
theorem dX4_nextHeight_24 : decode cX4_nextHeight 24 = .ok (.iconst 2, 1) := by decide +kernel
theorem dX4_nextHeight_25 : decode cX4_nextHeight 25 = .ok (.iaload, 1) := by decide +kernel
theorem dX4_nextHeight_26 : decode cX4_nextHeight 26 = .ok (.istore_n 3, 1) := by decide +kernel
theorem dX4_nextHeight_27 : decode cX4_nextHeight 27 = .ok (.iconst 2, 1) := by decide +kernel
theorem dX4_nextHeight_28 : decode cX4_nextHeight 28 = .ok (.aload_n 0, 1) := by decide +kernel
theorem dX4_nextHeight_29 : decode cX4_nextHeight 29 = .ok (.getfield 26, 3) := by decide +kernel
theorem dX4_nextHeight_32 : decode cX4_nextHeight 32 = .ok (.iload_n 1, 1) := by decide +kernel
theorem dX4_nextHeight_33 : decode cX4_nextHeight 33 = .ok (.iaload, 1) := by decide +kernel
theorem dX4_nextHeight_34 : decode cX4_nextHeight 34 = .ok (.imul, 1) := by decide +kernel
theorem dX4_nextHeight_35 : decode cX4_nextHeight 35 = .ok (.aload_n 0, 1) := by decide +kernel
theorem dX4_nextHeight_36 : decode cX4_nextHeight 36 = .ok (.getfield 29, 3) := by decide +kernel
theorem dX4_nextHeight_39 : decode cX4_nextHeight 39 = .ok (.iload_n 1, 1) := by decide +kernel
theorem dX4_nextHeight_40 : decode cX4_nextHeight 40 = .ok (.iaload, 1) := by decide +kernel
theorem dX4_nextHeight_41 : decode cX4_nextHeight 41 = .ok (.isub, 1) := by decide +kernel
theorem dX4_nextHeight_42 : decode cX4_nextHeight 42 = .ok (.aload_n 0, 1) := by decide +kernel
theorem dX4_nextHeight_43 : decode cX4_nextHeight 43 = .ok (.iload_n 1, 1) := by decide +kernel
theorem dX4_nextHeight_44 : decode cX4_nextHeight 44 = .ok (.invokevirtual 104, 3) := by decide +kernel
theorem dX4_nextHeight_47 : decode cX4_nextHeight 47 = .ok (.iload_n 3, 1) := by decide +kernel
theorem dX4_nextHeight_48 : decode cX4_nextHeight 48 = .ok (.imul, 1) := by decide +kernel
theorem dX4_nextHeight_49 : decode cX4_nextHeight 49 = .ok (.bipush 16, 2) := by decide +kernel
theorem dX4_nextHeight_51 : decode cX4_nextHeight 51 = .ok (.idiv, 1) := by decide +kernel
theorem dX4_nextHeight_52 : decode cX4_nextHeight 52 = .ok (.iadd, 1) := by decide +kernel
theorem dX4_nextHeight_53 : decode cX4_nextHeight 53 = .ok (.istore 4, 2) := by decide +kernel
theorem dX4_nextHeight_55 : decode cX4_nextHeight 55 = .ok (.iload 4, 2) := by decide +kernel
theorem dX4_nextHeight_57 : decode cX4_nextHeight 57 = .ok (.iload 4, 2) := by decide +kernel
theorem dX4_nextHeight_59 : decode cX4_nextHeight 59 = .ok (.aload_n 0, 1) := by decide +kernel
theorem dX4_nextHeight_60 : decode cX4_nextHeight 60 = .ok (.getfield 18, 3) := by decide +kernel
theorem dX4_nextHeight_63 : decode cX4_nextHeight 63 = .ok (.iconst 0, 1) := by decide +kernel
theorem dX4_nextHeight_64 : decode cX4_nextHeight 64 = .ok (.iaload, 1) := by decide +kernel
theorem dX4_nextHeight_65 : decode cX4_nextHeight 65 = .ok (.imul, 1) := by decide +kernel
theorem dX4_nextHeight_66 : decode cX4_nextHeight 66 = .ok (.sipush 1000, 3) := by decide +kernel
theorem dX4_nextHeight_69 : decode cX4_nextHeight 69 = .ok (.idiv, 1) := by decide +kernel
theorem dX4_nextHeight_70 : decode cX4_nextHeight 70 = .ok (.isub, 1) := by decide +kernel
theorem dX4_nextHeight_71 : decode cX4_nextHeight 71 = .ok (.istore 4, 2) := by decide +kernel
theorem dX4_nextHeight_73 : decode cX4_nextHeight 73 = .ok (.iload_n 2, 1) := by decide +kernel
theorem dX4_nextHeight_74 : decode cX4_nextHeight 74 = .ok (.iconst 3, 1) := by decide +kernel
theorem dX4_nextHeight_75 : decode cX4_nextHeight 75 = .ok (.if_icmp .ne 9, 3) := by decide +kernel
theorem dX4_nextHeight_78 : decode cX4_nextHeight 78 = .ok (.iload 4, 2) := by decide +kernel
theorem dX4_nextHeight_80 : decode cX4_nextHeight 80 = .ok (.iconst 2, 1) := by decide +kernel
theorem dX4_nextHeight_81 : decode cX4_nextHeight 81 = .ok (.idiv, 1) := by decide +kernel
theorem dX4_nextHeight_82 : decode cX4_nextHeight 82 = .ok (.istore 4, 2) := by decide +kernel
theorem dX4_nextHeight_84 : decode cX4_nextHeight 84 = .ok (.iload 4, 2) := by decide +kernel
theorem dX4_nextHeight_86 : decode cX4_nextHeight 86 = .ok (.invokestatic 107, 3) := by decide +kernel
theorem dX4_nextHeight_89 : decode cX4_nextHeight 89 = .ok (.ireturn, 1) := by decide +kernel
theorem dX4_keepFirsts_0 : decode cX4_keepFirsts 0 = .ok (.iconst 0, 1) := by decide +kernel
theorem dX4_keepFirsts_1 : decode cX4_keepFirsts 1 = .ok (.istore_n 1, 1) := by decide +kernel
theorem dX4_keepFirsts_2 : decode cX4_keepFirsts 2 = .ok (.iload_n 1, 1) := by decide +kernel
theorem dX4_keepFirsts_3 : decode cX4_keepFirsts 3 = .ok (.bipush 60, 2) := by decide +kernel
theorem dX4_keepFirsts_5 : decode cX4_keepFirsts 5 = .ok (.if_icmp .ge 44, 3) := by decide +kernel
theorem dX4_keepFirsts_8 : decode cX4_keepFirsts 8 = .ok (.aload_n 0, 1) := by decide +kernel
theorem dX4_keepFirsts_9 : decode cX4_keepFirsts 9 = .ok (.getfield 32, 3) := by decide +kernel
theorem dX4_keepFirsts_12 : decode cX4_keepFirsts 12 = .ok (.iload_n 1, 1) := by decide +kernel
theorem dX4_keepFirsts_13 : decode cX4_keepFirsts 13 = .ok (.iaload, 1) := by decide +kernel
theorem dX4_keepFirsts_14 : decode cX4_keepFirsts 14 = .ok (.bipush (-6), 2) := by decide +kernel
theorem dX4_keepFirsts_16 : decode cX4_keepFirsts 16 = .ok (.if_icmp .ne 27, 3) := by decide +kernel
theorem dX4_keepFirsts_19 : decode cX4_keepFirsts 19 = .ok (.aload_n 0, 1) := by decide +kernel
theorem dX4_keepFirsts_20 : decode cX4_keepFirsts 20 = .ok (.iload_n 1, 1) := by decide +kernel
theorem dX4_keepFirsts_21 : decode cX4_keepFirsts 21 = .ok (.invokevirtual 110, 3) := by decide +kernel
theorem dX4_keepFirsts_24 : decode cX4_keepFirsts 24 = .ok (.aload_n 0, 1) := by decide +kernel
theorem dX4_keepFirsts_25 : decode cX4_keepFirsts 25 = .ok (.getfield 18, 3) := by decide +kernel
theorem dX4_keepFirsts_28 : decode cX4_keepFirsts 28 = .ok (.iconst 3, 1) := by decide +kernel
theorem dX4_keepFirsts_29 : decode cX4_keepFirsts 29 = .ok (.iaload, 1) := by decide +kernel
theorem dX4_keepFirsts_30 : decode cX4_keepFirsts 30 = .ok (.if_icmp .le 13, 3) := by decide +kernel
theorem dX4_keepFirsts_33 : decode cX4_keepFirsts 33 = .ok (.aload_n 0, 1) := by decide +kernel
theorem dX4_keepFirsts_34 : decode cX4_keepFirsts 34 = .ok (.getfield 32, 3) := by decide +kernel
theorem dX4_keepFirsts_37 : decode cX4_keepFirsts 37 = .ok (.iload_n 1, 1) := by decide +kernel
theorem dX4_keepFirsts_38 : decode cX4_keepFirsts 38 = .ok (.aload_n 0, 1) := by decide +kernel
theorem dX4_keepFirsts_39 : decode cX4_keepFirsts 39 = .ok (.getfield 49, 3) := by decide +kernel
theorem dX4_keepFirsts_42 : decode cX4_keepFirsts 42 = .ok (.iastore, 1) := by decide +kernel
theorem dX4_keepFirsts_43 : decode cX4_keepFirsts 43 = .ok (.iinc 1 1, 3) := by decide +kernel
theorem dX4_keepFirsts_46 : decode cX4_keepFirsts 46 = .ok (.goto (-44), 3) := by decide +kernel
theorem dX4_keepFirsts_49 : decode cX4_keepFirsts 49 = .ok (.return_, 1) := by decide +kernel
theorem dX4_slopeAt_0 : decode cX4_slopeAt 0 = .ok (.aload_n 0, 1) := by decide +kernel
theorem dX4_slopeAt_1 : decode cX4_slopeAt 1 = .ok (.getfield 23, 3) := by decide +kernel
theorem dX4_slopeAt_4 : decode cX4_slopeAt 4 = .ok (.iload_n 1, 1) := by decide +kernel
theorem dX4_slopeAt_5 : decode cX4_slopeAt 5 = .ok (.iaload, 1) := by decide +kernel
theorem dX4_slopeAt_6 : decode cX4_slopeAt 6 = .ok (.iconst 2, 1) := by decide +kernel
theorem dX4_slopeAt_7 : decode cX4_slopeAt 7 = .ok (.if_icmp .ne 5, 3) := by decide +kernel
theorem dX4_slopeAt_10 : decode cX4_slopeAt 10 = .ok (.iconst 0, 1) := by decide +kernel
theorem dX4_slopeAt_11 : decode cX4_slopeAt 11 = .ok (.ireturn, 1) := by decide +kernel
theorem dX4_slopeAt_12 : decode cX4_slopeAt 12 = .ok (.iload_n 1, 1) := by decide +kernel
theorem dX4_slopeAt_13 : decode cX4_slopeAt 13 = .ok (.bipush 10, 2) := by decide +kernel
theorem dX4_slopeAt_15 : decode cX4_slopeAt 15 = .ok (.irem, 1) := by decide +kernel
theorem dX4_slopeAt_16 : decode cX4_slopeAt 16 = .ok (.istore_n 2, 1) := by decide +kernel
theorem dX4_slopeAt_17 : decode cX4_slopeAt 17 = .ok (.iload_n 1, 1) := by decide +kernel
theorem dX4_slopeAt_18 : decode cX4_slopeAt 18 = .ok (.bipush 10, 2) := by decide +kernel
theorem dX4_slopeAt_20 : decode cX4_slopeAt 20 = .ok (.idiv, 1) := by decide +kernel
theorem dX4_slopeAt_21 : decode cX4_slopeAt 21 = .ok (.istore_n 3, 1) := by decide +kernel
theorem dX4_slopeAt_22 : decode cX4_slopeAt 22 = .ok (.iload_n 2, 1) := by decide +kernel
theorem dX4_slopeAt_23 : decode cX4_slopeAt 23 = .ok (.ifCond .le 14, 3) := by decide +kernel
theorem dX4_slopeAt_26 : decode cX4_slopeAt 26 = .ok (.aload_n 0, 1) := by decide +kernel
theorem dX4_slopeAt_27 : decode cX4_slopeAt 27 = .ok (.iload_n 1, 1) := by decide +kernel
theorem dX4_slopeAt_28 : decode cX4_slopeAt 28 = .ok (.iload_n 1, 1) := by decide +kernel
theorem dX4_slopeAt_29 : decode cX4_slopeAt 29 = .ok (.iconst 1, 1) := by decide +kernel
theorem dX4_slopeAt_30 : decode cX4_slopeAt 30 = .ok (.isub, 1) := by decide +kernel
theorem dX4_slopeAt_31 : decode cX4_slopeAt 31 = .ok (.invokevirtual 113, 3) := by decide +kernel
theorem dX4_slopeAt_34 : decode cX4_slopeAt 34 = .ok (.goto 4, 3) := by decide +kernel
theorem dX4_slopeAt_37 : decode cX4_slopeAt 37 = .ok (.iconst 0, 1) := by decide +kernel
theorem dX4_slopeAt_38 : decode cX4_slopeAt 38 = .ok (.istore 4, 2) := by decide +kernel
theorem dX4_slopeAt_40 : decode cX4_slopeAt 40 = .ok (.iload 4, 2) := by decide +kernel
theorem dX4_slopeAt_42 : decode cX4_slopeAt 42 = .ok (.iload_n 2, 1) := by decide +kernel
theorem dX4_slopeAt_43 : decode cX4_slopeAt 43 = .ok (.bipush 9, 2) := by decide +kernel
theorem dX4_slopeAt_45 : decode cX4_slopeAt 45 = .ok (.if_icmp .ge 14, 3) := by decide +kernel
theorem dX4_slopeAt_48 : decode cX4_slopeAt 48 = .ok (.aload_n 0, 1) := by decide +kernel
theorem dX4_slopeAt_49 : decode cX4_slopeAt 49 = .ok (.iload_n 1, 1) := by decide +kernel
theorem dX4_slopeAt_50 : decode cX4_slopeAt 50 = .ok (.iload_n 1, 1) := by decide +kernel
theorem dX4_slopeAt_51 : decode cX4_slopeAt 51 = .ok (.iconst 1, 1) := by decide +kernel
theorem dX4_slopeAt_52 : decode cX4_slopeAt 52 = .ok (.iadd, 1) := by decide +kernel
theorem dX4_slopeAt_53 : decode cX4_slopeAt 53 = .ok (.invokevirtual 113, 3) := by decide +kernel
theorem dX4_slopeAt_56 : decode cX4_slopeAt 56 = .ok (.goto 4, 3) := by decide +kernel
theorem dX4_slopeAt_59 : decode cX4_slopeAt 59 = .ok (.iconst 0, 1) := by decide +kernel
theorem dX4_slopeAt_60 : decode cX4_slopeAt 60 = .ok (.iadd, 1) := by decide +kernel
theorem dX4_slopeAt_61 : decode cX4_slopeAt 61 = .ok (.istore 4, 2) := by decide +kernel
theorem dX4_slopeAt_63 : decode cX4_slopeAt 63 = .ok (.iload 4, 2) := by decide +kernel
theorem dX4_slopeAt_65 : decode cX4_slopeAt 65 = .ok (.iload_n 3, 1) := by decide +kernel
theorem dX4_slopeAt_66 : decode cX4_slopeAt 66 = .ok (.ifCond .le 15, 3) := by decide +kernel
theorem dX4_slopeAt_69 : decode cX4_slopeAt 69 = .ok (.aload_n 0, 1) := by decide +kernel
theorem dX4_slopeAt_70 : decode cX4_slopeAt 70 = .ok (.iload_n 1, 1) := by decide +kernel
theorem dX4_slopeAt_71 : decode cX4_slopeAt 71 = .ok (.iload_n 1, 1) := by decide +kernel
theorem dX4_slopeAt_72 : decode cX4_slopeAt 72 = .ok (.bipush 10, 2) := by decide +kernel
theorem dX4_slopeAt_74 : decode cX4_slopeAt 74 = .ok (.isub, 1) := by decide +kernel
theorem dX4_slopeAt_75 : decode cX4_slopeAt 75 = .ok (.invokevirtual 113, 3) := by decide +kernel
theorem dX4_slopeAt_78 : decode cX4_slopeAt 78 = .ok (.goto 4, 3) := by decide +kernel
theorem dX4_slopeAt_81 : decode cX4_slopeAt 81 = .ok (.iconst 0, 1) := by decide +kernel
theorem dX4_slopeAt_82 : decode cX4_slopeAt 82 = .ok (.iadd, 1) := by decide +kernel
theorem dX4_slopeAt_83 : decode cX4_slopeAt 83 = .ok (.istore 4, 2) := by decide +kernel
theorem dX4_slopeAt_85 : decode cX4_slopeAt 85 = .ok (.iload 4, 2) := by decide +kernel
theorem dX4_slopeAt_87 : decode cX4_slopeAt 87 = .ok (.iload_n 3, 1) := by decide +kernel
theorem dX4_slopeAt_88 : decode cX4_slopeAt 88 = .ok (.iconst 5, 1) := by decide +kernel
theorem dX4_slopeAt_89 : decode cX4_slopeAt 89 = .ok (.if_icmp .ge 15, 3) := by decide +kernel
theorem dX4_slopeAt_92 : decode cX4_slopeAt 92 = .ok (.aload_n 0, 1) := by decide +kernel
theorem dX4_slopeAt_93 : decode cX4_slopeAt 93 = .ok (.iload_n 1, 1) := by decide +kernel
theorem dX4_slopeAt_94 : decode cX4_slopeAt 94 = .ok (.iload_n 1, 1) := by decide +kernel
theorem dX4_slopeAt_95 : decode cX4_slopeAt 95 = .ok (.bipush 10, 2) := by decide +kernel
theorem dX4_slopeAt_97 : decode cX4_slopeAt 97 = .ok (.iadd, 1) := by decide +kernel
theorem dX4_slopeAt_98 : decode cX4_slopeAt 98 = .ok (.invokevirtual 113, 3) := by decide +kernel
theorem dX4_slopeAt_101 : decode cX4_slopeAt 101 = .ok (.goto 4, 3) := by decide +kernel
theorem dX4_slopeAt_104 : decode cX4_slopeAt 104 = .ok (.iconst 0, 1) := by decide +kernel
theorem dX4_slopeAt_105 : decode cX4_slopeAt 105 = .ok (.iadd, 1) := by decide +kernel
theorem dX4_slopeAt_106 : decode cX4_slopeAt 106 = .ok (.istore 4, 2) := by decide +kernel
theorem dX4_slopeAt_108 : decode cX4_slopeAt 108 = .ok (.iload 4, 2) := by decide +kernel
theorem dX4_slopeAt_110 : decode cX4_slopeAt 110 = .ok (.ireturn, 1) := by decide +kernel
theorem dX4_rise_0 : decode cX4_rise 0 = .ok (.aload_n 0, 1) := by decide +kernel
theorem dX4_rise_1 : decode cX4_rise 1 = .ok (.getfield 23, 3) := by decide +kernel
theorem dX4_rise_4 : decode cX4_rise 4 = .ok (.iload_n 2, 1) := by decide +kernel
theorem dX4_rise_5 : decode cX4_rise 5 = .ok (.iaload, 1) := by decide +kernel
theorem dX4_rise_6 : decode cX4_rise 6 = .ok (.iconst 2, 1) := by decide +kernel
theorem dX4_rise_7 : decode cX4_rise 7 = .ok (.if_icmp .ne 7, 3) := by decide +kernel
theorem dX4_rise_10 : decode cX4_rise 10 = .ok (.iconst 0, 1) := by decide +kernel
theorem dX4_rise_11 : decode cX4_rise 11 = .ok (.goto 16, 3) := by decide +kernel
theorem dX4_rise_14 : decode cX4_rise 14 = .ok (.aload_n 0, 1) := by decide +kernel
theorem dX4_rise_15 : decode cX4_rise 15 = .ok (.getfield 26, 3) := by decide +kernel
theorem dX4_rise_18 : decode cX4_rise 18 = .ok (.iload_n 2, 1) := by decide +kernel
theorem dX4_rise_19 : decode cX4_rise 19 = .ok (.iaload, 1) := by decide +kernel
theorem dX4_rise_20 : decode cX4_rise 20 = .ok (.aload_n 0, 1) := by decide +kernel
theorem dX4_rise_21 : decode cX4_rise 21 = .ok (.getfield 26, 3) := by decide +kernel
theorem dX4_rise_24 : decode cX4_rise 24 = .ok (.iload_n 1, 1) := by decide +kernel
theorem dX4_rise_25 : decode cX4_rise 25 = .ok (.iaload, 1) := by decide +kernel
theorem dX4_rise_26 : decode cX4_rise 26 = .ok (.isub, 1) := by decide +kernel
theorem dX4_rise_27 : decode cX4_rise 27 = .ok (.ireturn, 1) := by decide +kernel
theorem dX4_heightAt_0 : decode cX4_heightAt 0 = .ok (.iload_n 1, 1) := by decide +kernel
theorem dX4_heightAt_1 : decode cX4_heightAt 1 = .ok (.iload_n 2, 1) := by decide +kernel
theorem dX4_heightAt_2 : decode cX4_heightAt 2 = .ok (.invokestatic 117, 3) := by decide +kernel
theorem dX4_heightAt_5 : decode cX4_heightAt 5 = .ok (.ifCond .eq 16, 3) := by decide +kernel
theorem dX4_heightAt_8 : decode cX4_heightAt 8 = .ok (.aload_n 0, 1) := by decide +kernel
theorem dX4_heightAt_9 : decode cX4_heightAt 9 = .ok (.getfield 26, 3) := by decide +kernel
theorem dX4_heightAt_12 : decode cX4_heightAt 12 = .ok (.iload_n 1, 1) := by decide +kernel
theorem dX4_heightAt_13 : decode cX4_heightAt 13 = .ok (.iload_n 2, 1) := by decide +kernel
theorem dX4_heightAt_14 : decode cX4_heightAt 14 = .ok (.invokestatic 121, 3) := by decide +kernel
theorem dX4_heightAt_17 : decode cX4_heightAt 17 = .ok (.iaload, 1) := by decide +kernel
theorem dX4_heightAt_18 : decode cX4_heightAt 18 = .ok (.goto 4, 3) := by decide +kernel
theorem dX4_heightAt_21 : decode cX4_heightAt 21 = .ok (.iconst 0, 1) := by decide +kernel
theorem dX4_heightAt_22 : decode cX4_heightAt 22 = .ok (.ireturn, 1) := by decide +kernel
theorem dX4_loudnessOf_0 : decode cX4_loudnessOf 0 = .ok (.aload_n 0, 1) := by decide +kernel
theorem dX4_loudnessOf_1 : decode cX4_loudnessOf 1 = .ok (.getfield 26, 3) := by decide +kernel
theorem dX4_loudnessOf_4 : decode cX4_loudnessOf 4 = .ok (.iload_n 1, 1) := by decide +kernel
theorem dX4_loudnessOf_5 : decode cX4_loudnessOf 5 = .ok (.iaload, 1) := by decide +kernel
theorem dX4_loudnessOf_6 : decode cX4_loudnessOf 6 = .ok (.invokestatic 124, 3) := by decide +kernel
theorem dX4_loudnessOf_9 : decode cX4_loudnessOf 9 = .ok (.ireturn, 1) := by decide +kernel
theorem dX4_isStill_0 : decode cX4_isStill 0 = .ok (.aload_n 0, 1) := by decide +kernel
theorem dX4_isStill_1 : decode cX4_isStill 1 = .ok (.iload_n 1, 1) := by decide +kernel
theorem dX4_isStill_2 : decode cX4_isStill 2 = .ok (.invokevirtual 110, 3) := by decide +kernel
theorem dX4_isStill_5 : decode cX4_isStill 5 = .ok (.aload_n 0, 1) := by decide +kernel
theorem dX4_isStill_6 : decode cX4_isStill 6 = .ok (.getfield 18, 3) := by decide +kernel
theorem dX4_isStill_9 : decode cX4_isStill 9 = .ok (.iconst 3, 1) := by decide +kernel
theorem dX4_isStill_10 : decode cX4_isStill 10 = .ok (.iaload, 1) := by decide +kernel
theorem dX4_isStill_11 : decode cX4_isStill 11 = .ok (.if_icmp .gt 25, 3) := by decide +kernel
theorem dX4_isStill_14 : decode cX4_isStill 14 = .ok (.aload_n 0, 1) := by decide +kernel
theorem dX4_isStill_15 : decode cX4_isStill 15 = .ok (.getfield 29, 3) := by decide +kernel
theorem dX4_isStill_18 : decode cX4_isStill 18 = .ok (.iload_n 1, 1) := by decide +kernel
theorem dX4_isStill_19 : decode cX4_isStill 19 = .ok (.iaload, 1) := by decide +kernel
theorem dX4_isStill_20 : decode cX4_isStill 20 = .ok (.invokestatic 124, 3) := by decide +kernel
theorem dX4_isStill_23 : decode cX4_isStill 23 = .ok (.aload_n 0, 1) := by decide +kernel
theorem dX4_isStill_24 : decode cX4_isStill 24 = .ok (.getfield 18, 3) := by decide +kernel
theorem dX4_isStill_27 : decode cX4_isStill 27 = .ok (.iconst 3, 1) := by decide +kernel
theorem dX4_isStill_28 : decode cX4_isStill 28 = .ok (.iaload, 1) := by decide +kernel
theorem dX4_isStill_29 : decode cX4_isStill 29 = .ok (.if_icmp .gt 7, 3) := by decide +kernel
theorem dX4_isStill_32 : decode cX4_isStill 32 = .ok (.iconst 1, 1) := by decide +kernel
theorem dX4_isStill_33 : decode cX4_isStill 33 = .ok (.goto 4, 3) := by decide +kernel
theorem dX4_isStill_36 : decode cX4_isStill 36 = .ok (.iconst 0, 1) := by decide +kernel
theorem dX4_isStill_37 : decode cX4_isStill 37 = .ok (.ireturn, 1) := by decide +kernel
theorem dX4_isCrest_0 : decode cX4_isCrest 0 = .ok (.aload_n 0, 1) := by decide +kernel
theorem dX4_isCrest_1 : decode cX4_isCrest 1 = .ok (.iload_n 1, 1) := by decide +kernel
theorem dX4_isCrest_2 : decode cX4_isCrest 2 = .ok (.iload_n 2, 1) := by decide +kernel
theorem dX4_isCrest_3 : decode cX4_isCrest 3 = .ok (.invokevirtual 129, 3) := by decide +kernel
theorem dX4_isCrest_6 : decode cX4_isCrest 6 = .ok (.istore_n 3, 1) := by decide +kernel
theorem dX4_isCrest_7 : decode cX4_isCrest 7 = .ok (.iload_n 3, 1) := by decide +kernel
theorem dX4_isCrest_8 : decode cX4_isCrest 8 = .ok (.ifCond .le 31, 3) := by decide +kernel
theorem dX4_isCrest_11 : decode cX4_isCrest 11 = .ok (.iload_n 3, 1) := by decide +kernel
theorem dX4_isCrest_12 : decode cX4_isCrest 12 = .ok (.aload_n 0, 1) := by decide +kernel
theorem dX4_isCrest_13 : decode cX4_isCrest 13 = .ok (.iload_n 1, 1) := by decide +kernel
theorem dX4_isCrest_14 : decode cX4_isCrest 14 = .ok (.iconst 1, 1) := by decide +kernel
theorem dX4_isCrest_15 : decode cX4_isCrest 15 = .ok (.isub, 1) := by decide +kernel
theorem dX4_isCrest_16 : decode cX4_isCrest 16 = .ok (.iload_n 2, 1) := by decide +kernel
theorem dX4_isCrest_17 : decode cX4_isCrest 17 = .ok (.invokevirtual 129, 3) := by decide +kernel
theorem dX4_isCrest_20 : decode cX4_isCrest 20 = .ok (.if_icmp .le 19, 3) := by decide +kernel
theorem dX4_isCrest_23 : decode cX4_isCrest 23 = .ok (.iload_n 3, 1) := by decide +kernel
theorem dX4_isCrest_24 : decode cX4_isCrest 24 = .ok (.aload_n 0, 1) := by decide +kernel
theorem dX4_isCrest_25 : decode cX4_isCrest 25 = .ok (.iload_n 1, 1) := by decide +kernel
theorem dX4_isCrest_26 : decode cX4_isCrest 26 = .ok (.iconst 1, 1) := by decide +kernel
theorem dX4_isCrest_27 : decode cX4_isCrest 27 = .ok (.iadd, 1) := by decide +kernel
theorem dX4_isCrest_28 : decode cX4_isCrest 28 = .ok (.iload_n 2, 1) := by decide +kernel
theorem dX4_isCrest_29 : decode cX4_isCrest 29 = .ok (.invokevirtual 129, 3) := by decide +kernel
theorem dX4_isCrest_32 : decode cX4_isCrest 32 = .ok (.if_icmp .le 7, 3) := by decide +kernel
theorem dX4_isCrest_35 : decode cX4_isCrest 35 = .ok (.iconst 1, 1) := by decide +kernel
theorem dX4_isCrest_36 : decode cX4_isCrest 36 = .ok (.goto 4, 3) := by decide +kernel
theorem dX4_isCrest_39 : decode cX4_isCrest 39 = .ok (.iconst 0, 1) := by decide +kernel
theorem dX4_isCrest_40 : decode cX4_isCrest 40 = .ok (.ireturn, 1) := by decide +kernel
theorem dX4_openCells_0 : decode cX4_openCells 0 = .ok (.iconst 0, 1) := by decide +kernel
theorem dX4_openCells_1 : decode cX4_openCells 1 = .ok (.istore_n 1, 1) := by decide +kernel
theorem dX4_openCells_2 : decode cX4_openCells 2 = .ok (.iconst 0, 1) := by decide +kernel
theorem dX4_openCells_3 : decode cX4_openCells 3 = .ok (.istore_n 2, 1) := by decide +kernel
theorem dX4_openCells_4 : decode cX4_openCells 4 = .ok (.iload_n 2, 1) := by decide +kernel
theorem dX4_openCells_5 : decode cX4_openCells 5 = .ok (.bipush 60, 2) := by decide +kernel
theorem dX4_openCells_7 : decode cX4_openCells 7 = .ok (.if_icmp .ge 22, 3) := by decide +kernel
theorem dX4_openCells_10 : decode cX4_openCells 10 = .ok (.aload_n 0, 1) := by decide +kernel
theorem dX4_openCells_11 : decode cX4_openCells 11 = .ok (.getfield 23, 3) := by decide +kernel
theorem dX4_openCells_14 : decode cX4_openCells 14 = .ok (.iload_n 2, 1) := by decide +kernel
theorem dX4_openCells_15 : decode cX4_openCells 15 = .ok (.iaload, 1) := by decide +kernel
theorem dX4_openCells_16 : decode cX4_openCells 16 = .ok (.iconst 2, 1) := by decide +kernel
theorem dX4_openCells_17 : decode cX4_openCells 17 = .ok (.if_icmp .eq 6, 3) := by decide +kernel
theorem dX4_openCells_20 : decode cX4_openCells 20 = .ok (.iinc 1 1, 3) := by decide +kernel
theorem dX4_openCells_23 : decode cX4_openCells 23 = .ok (.iinc 2 1, 3) := by decide +kernel
theorem dX4_openCells_26 : decode cX4_openCells 26 = .ok (.goto (-22), 3) := by decide +kernel
theorem dX4_openCells_29 : decode cX4_openCells 29 = .ok (.iload_n 1, 1) := by decide +kernel
theorem dX4_openCells_30 : decode cX4_openCells 30 = .ok (.ireturn, 1) := by decide +kernel
theorem dX4_restlessCells_0 : decode cX4_restlessCells 0 = .ok (.iconst 0, 1) := by decide +kernel
theorem dX4_restlessCells_1 : decode cX4_restlessCells 1 = .ok (.istore_n 1, 1) := by decide +kernel
theorem dX4_restlessCells_2 : decode cX4_restlessCells 2 = .ok (.iconst 0, 1) := by decide +kernel
theorem dX4_restlessCells_3 : decode cX4_restlessCells 3 = .ok (.istore_n 2, 1) := by decide +kernel
theorem dX4_restlessCells_4 : decode cX4_restlessCells 4 = .ok (.iload_n 2, 1) := by decide +kernel
theorem dX4_restlessCells_5 : decode cX4_restlessCells 5 = .ok (.bipush 60, 2) := by decide +kernel
theorem dX4_restlessCells_7 : decode cX4_restlessCells 7 = .ok (.if_icmp .ge 30, 3) := by decide +kernel
theorem dX4_restlessCells_10 : decode cX4_restlessCells 10 = .ok (.aload_n 0, 1) := by decide +kernel
theorem dX4_restlessCells_11 : decode cX4_restlessCells 11 = .ok (.getfield 23, 3) := by decide +kernel
theorem dX4_restlessCells_14 : decode cX4_restlessCells 14 = .ok (.iload_n 2, 1) := by decide +kernel
theorem dX4_restlessCells_15 : decode cX4_restlessCells 15 = .ok (.iaload, 1) := by decide +kernel
theorem dX4_restlessCells_16 : decode cX4_restlessCells 16 = .ok (.iconst 2, 1) := by decide +kernel
theorem dX4_restlessCells_17 : decode cX4_restlessCells 17 = .ok (.if_icmp .eq 14, 3) := by decide +kernel
theorem dX4_restlessCells_20 : decode cX4_restlessCells 20 = .ok (.aload_n 0, 1) := by decide +kernel
theorem dX4_restlessCells_21 : decode cX4_restlessCells 21 = .ok (.iload_n 2, 1) := by decide +kernel
theorem dX4_restlessCells_22 : decode cX4_restlessCells 22 = .ok (.invokevirtual 132, 3) := by decide +kernel
theorem dX4_restlessCells_25 : decode cX4_restlessCells 25 = .ok (.ifCond .ne 6, 3) := by decide +kernel
theorem dX4_restlessCells_28 : decode cX4_restlessCells 28 = .ok (.iinc 1 1, 3) := by decide +kernel
theorem dX4_restlessCells_31 : decode cX4_restlessCells 31 = .ok (.iinc 2 1, 3) := by decide +kernel
theorem dX4_restlessCells_34 : decode cX4_restlessCells 34 = .ok (.goto (-30), 3) := by decide +kernel
theorem dX4_restlessCells_37 : decode cX4_restlessCells 37 = .ok (.iload_n 1, 1) := by decide +kernel
theorem dX4_restlessCells_38 : decode cX4_restlessCells 38 = .ok (.ireturn, 1) := by decide +kernel
theorem dX4_reachedCells_0 : decode cX4_reachedCells 0 = .ok (.iconst 0, 1) := by decide +kernel
theorem dX4_reachedCells_1 : decode cX4_reachedCells 1 = .ok (.istore_n 1, 1) := by decide +kernel
theorem dX4_reachedCells_2 : decode cX4_reachedCells 2 = .ok (.iconst 0, 1) := by decide +kernel
theorem dX4_reachedCells_3 : decode cX4_reachedCells 3 = .ok (.istore_n 2, 1) := by decide +kernel
theorem dX4_reachedCells_4 : decode cX4_reachedCells 4 = .ok (.iload_n 2, 1) := by decide +kernel
theorem dX4_reachedCells_5 : decode cX4_reachedCells 5 = .ok (.bipush 60, 2) := by decide +kernel
theorem dX4_reachedCells_7 : decode cX4_reachedCells 7 = .ok (.if_icmp .ge 23, 3) := by decide +kernel
theorem dX4_reachedCells_10 : decode cX4_reachedCells 10 = .ok (.aload_n 0, 1) := by decide +kernel
theorem dX4_reachedCells_11 : decode cX4_reachedCells 11 = .ok (.getfield 32, 3) := by decide +kernel
theorem dX4_reachedCells_14 : decode cX4_reachedCells 14 = .ok (.iload_n 2, 1) := by decide +kernel
theorem dX4_reachedCells_15 : decode cX4_reachedCells 15 = .ok (.iaload, 1) := by decide +kernel
theorem dX4_reachedCells_16 : decode cX4_reachedCells 16 = .ok (.bipush (-6), 2) := by decide +kernel
theorem dX4_reachedCells_18 : decode cX4_reachedCells 18 = .ok (.if_icmp .eq 6, 3) := by decide +kernel
theorem dX4_reachedCells_21 : decode cX4_reachedCells 21 = .ok (.iinc 1 1, 3) := by decide +kernel
theorem dX4_reachedCells_24 : decode cX4_reachedCells 24 = .ok (.iinc 2 1, 3) := by decide +kernel
theorem dX4_reachedCells_27 : decode cX4_reachedCells 27 = .ok (.goto (-23), 3) := by decide +kernel
theorem dX4_reachedCells_30 : decode cX4_reachedCells 30 = .ok (.iload_n 1, 1) := by decide +kernel
theorem dX4_reachedCells_31 : decode cX4_reachedCells 31 = .ok (.ireturn, 1) := by decide +kernel
theorem dX4_sum_0 : decode cX4_sum 0 = .ok (.iconst 0, 1) := by decide +kernel
theorem dX4_sum_1 : decode cX4_sum 1 = .ok (.istore_n 1, 1) := by decide +kernel
theorem dX4_sum_2 : decode cX4_sum 2 = .ok (.iconst 0, 1) := by decide +kernel
theorem dX4_sum_3 : decode cX4_sum 3 = .ok (.istore_n 2, 1) := by decide +kernel
theorem dX4_sum_4 : decode cX4_sum 4 = .ok (.iload_n 2, 1) := by decide +kernel
theorem dX4_sum_5 : decode cX4_sum 5 = .ok (.bipush 60, 2) := by decide +kernel
theorem dX4_sum_7 : decode cX4_sum 7 = .ok (.if_icmp .ge 18, 3) := by decide +kernel
theorem dX4_sum_10 : decode cX4_sum 10 = .ok (.iload_n 1, 1) := by decide +kernel
theorem dX4_sum_11 : decode cX4_sum 11 = .ok (.aload_n 0, 1) := by decide +kernel
theorem dX4_sum_12 : decode cX4_sum 12 = .ok (.getfield 26, 3) := by decide +kernel
theorem dX4_sum_15 : decode cX4_sum 15 = .ok (.iload_n 2, 1) := by decide +kernel
theorem dX4_sum_16 : decode cX4_sum 16 = .ok (.iaload, 1) := by decide +kernel
theorem dX4_sum_17 : decode cX4_sum 17 = .ok (.iadd, 1) := by decide +kernel
theorem dX4_sum_18 : decode cX4_sum 18 = .ok (.istore_n 1, 1) := by decide +kernel
theorem dX4_sum_19 : decode cX4_sum 19 = .ok (.iinc 2 1, 3) := by decide +kernel
theorem dX4_sum_22 : decode cX4_sum 22 = .ok (.goto (-18), 3) := by decide +kernel
theorem dX4_sum_25 : decode cX4_sum 25 = .ok (.iload_n 1, 1) := by decide +kernel
theorem dX4_sum_26 : decode cX4_sum 26 = .ok (.ireturn, 1) := by decide +kernel
theorem dX4_loudness_0 : decode cX4_loudness 0 = .ok (.iconst 0, 1) := by decide +kernel
theorem dX4_loudness_1 : decode cX4_loudness 1 = .ok (.istore_n 1, 1) := by decide +kernel
theorem dX4_loudness_2 : decode cX4_loudness 2 = .ok (.iconst 0, 1) := by decide +kernel
theorem dX4_loudness_3 : decode cX4_loudness 3 = .ok (.istore_n 2, 1) := by decide +kernel
theorem dX4_loudness_4 : decode cX4_loudness 4 = .ok (.iload_n 2, 1) := by decide +kernel
theorem dX4_loudness_5 : decode cX4_loudness 5 = .ok (.bipush 60, 2) := by decide +kernel
theorem dX4_loudness_7 : decode cX4_loudness 7 = .ok (.if_icmp .ge 17, 3) := by decide +kernel
theorem dX4_loudness_10 : decode cX4_loudness 10 = .ok (.iload_n 1, 1) := by decide +kernel
theorem dX4_loudness_11 : decode cX4_loudness 11 = .ok (.aload_n 0, 1) := by decide +kernel
theorem dX4_loudness_12 : decode cX4_loudness 12 = .ok (.iload_n 2, 1) := by decide +kernel
theorem dX4_loudness_13 : decode cX4_loudness 13 = .ok (.invokevirtual 110, 3) := by decide +kernel
theorem dX4_loudness_16 : decode cX4_loudness 16 = .ok (.iadd, 1) := by decide +kernel
theorem dX4_loudness_17 : decode cX4_loudness 17 = .ok (.istore_n 1, 1) := by decide +kernel
theorem dX4_loudness_18 : decode cX4_loudness 18 = .ok (.iinc 2 1, 3) := by decide +kernel
theorem dX4_loudness_21 : decode cX4_loudness 21 = .ok (.goto (-17), 3) := by decide +kernel
theorem dX4_loudness_24 : decode cX4_loudness 24 = .ok (.iload_n 1, 1) := by decide +kernel
theorem dX4_loudness_25 : decode cX4_loudness 25 = .ok (.ireturn, 1) := by decide +kernel
theorem dX4_loudestCell_0 : decode cX4_loudestCell 0 = .ok (.iconst 0, 1) := by decide +kernel
theorem dX4_loudestCell_1 : decode cX4_loudestCell 1 = .ok (.istore_n 1, 1) := by decide +kernel
theorem dX4_loudestCell_2 : decode cX4_loudestCell 2 = .ok (.iconst 1, 1) := by decide +kernel
theorem dX4_loudestCell_3 : decode cX4_loudestCell 3 = .ok (.istore_n 2, 1) := by decide +kernel
theorem dX4_loudestCell_4 : decode cX4_loudestCell 4 = .ok (.iload_n 2, 1) := by decide +kernel
theorem dX4_loudestCell_5 : decode cX4_loudestCell 5 = .ok (.bipush 60, 2) := by decide +kernel
theorem dX4_loudestCell_7 : decode cX4_loudestCell 7 = .ok (.if_icmp .ge 24, 3) := by decide +kernel
theorem dX4_loudestCell_10 : decode cX4_loudestCell 10 = .ok (.aload_n 0, 1) := by decide +kernel
theorem dX4_loudestCell_11 : decode cX4_loudestCell 11 = .ok (.iload_n 2, 1) := by decide +kernel
theorem dX4_loudestCell_12 : decode cX4_loudestCell 12 = .ok (.invokevirtual 110, 3) := by decide +kernel
theorem dX4_loudestCell_15 : decode cX4_loudestCell 15 = .ok (.aload_n 0, 1) := by decide +kernel
theorem dX4_loudestCell_16 : decode cX4_loudestCell 16 = .ok (.iload_n 1, 1) := by decide +kernel
theorem dX4_loudestCell_17 : decode cX4_loudestCell 17 = .ok (.invokevirtual 110, 3) := by decide +kernel
theorem dX4_loudestCell_20 : decode cX4_loudestCell 20 = .ok (.if_icmp .le 5, 3) := by decide +kernel
theorem dX4_loudestCell_23 : decode cX4_loudestCell 23 = .ok (.iload_n 2, 1) := by decide +kernel
theorem dX4_loudestCell_24 : decode cX4_loudestCell 24 = .ok (.istore_n 1, 1) := by decide +kernel
theorem dX4_loudestCell_25 : decode cX4_loudestCell 25 = .ok (.iinc 2 1, 3) := by decide +kernel
theorem dX4_loudestCell_28 : decode cX4_loudestCell 28 = .ok (.goto (-24), 3) := by decide +kernel
theorem dX4_loudestCell_31 : decode cX4_loudestCell 31 = .ok (.iload_n 1, 1) := by decide +kernel
theorem dX4_loudestCell_32 : decode cX4_loudestCell 32 = .ok (.ireturn, 1) := by decide +kernel
theorem dX5_init_0 : decode cX5_init 0 = .ok (.aload_n 0, 1) := by decide +kernel
theorem dX5_init_1 : decode cX5_init 1 = .ok (.invokespecial 3, 3) := by decide +kernel
theorem dX5_init_4 : decode cX5_init 4 = .ok (.aload_n 0, 1) := by decide +kernel
theorem dX5_init_5 : decode cX5_init 5 = .ok (.new 9, 3) := by decide +kernel
theorem dX5_init_8 : decode cX5_init 8 = .ok (.dup, 1) := by decide +kernel
theorem dX5_init_9 : decode cX5_init 9 = .ok (.invokespecial 11, 3) := by decide +kernel
theorem dX5_init_12 : decode cX5_init 12 = .ok (.putfield 12, 3) := by decide +kernel
theorem dX5_init_15 : decode cX5_init 15 = .ok (.aload_n 0, 1) := by decide +kernel
theorem dX5_init_16 : decode cX5_init 16 = .ok (.new 9, 3) := by decide +kernel
theorem dX5_init_19 : decode cX5_init 19 = .ok (.dup, 1) := by decide +kernel
theorem dX5_init_20 : decode cX5_init 20 = .ok (.invokespecial 11, 3) := by decide +kernel
theorem dX5_init_23 : decode cX5_init 23 = .ok (.putfield 16, 3) := by decide +kernel
theorem dX5_init_26 : decode cX5_init 26 = .ok (.aload_n 0, 1) := by decide +kernel
theorem dX5_init_27 : decode cX5_init 27 = .ok (.new 19, 3) := by decide +kernel
theorem dX5_init_30 : decode cX5_init 30 = .ok (.dup, 1) := by decide +kernel
theorem dX5_init_31 : decode cX5_init 31 = .ok (.invokespecial 21, 3) := by decide +kernel
theorem dX5_init_34 : decode cX5_init 34 = .ok (.putfield 22, 3) := by decide +kernel
theorem dX5_init_37 : decode cX5_init 37 = .ok (.aload_n 0, 1) := by decide +kernel
theorem dX5_init_38 : decode cX5_init 38 = .ok (.iconst 2, 1) := by decide +kernel
theorem dX5_init_39 : decode cX5_init 39 = .ok (.anewarray 9, 3) := by decide +kernel
theorem dX5_init_42 : decode cX5_init 42 = .ok (.putfield 26, 3) := by decide +kernel
theorem dX5_init_45 : decode cX5_init 45 = .ok (.aload_n 0, 1) := by decide +kernel
theorem dX5_init_46 : decode cX5_init 46 = .ok (.iconst 2, 1) := by decide +kernel
theorem dX5_init_47 : decode cX5_init 47 = .ok (.newarray .boolean, 2) := by decide +kernel
theorem dX5_init_49 : decode cX5_init 49 = .ok (.putfield 30, 3) := by decide +kernel
theorem dX5_init_52 : decode cX5_init 52 = .ok (.aload_n 0, 1) := by decide +kernel
theorem dX5_init_53 : decode cX5_init 53 = .ok (.new 34, 3) := by decide +kernel
theorem dX5_init_56 : decode cX5_init 56 = .ok (.dup, 1) := by decide +kernel
theorem dX5_init_57 : decode cX5_init 57 = .ok (.invokespecial 36, 3) := by decide +kernel
theorem dX5_init_60 : decode cX5_init 60 = .ok (.putfield 37, 3) := by decide +kernel
theorem dX5_init_63 : decode cX5_init 63 = .ok (.iconst 0, 1) := by decide +kernel
theorem dX5_init_64 : decode cX5_init 64 = .ok (.istore_n 1, 1) := by decide +kernel
theorem dX5_init_65 : decode cX5_init 65 = .ok (.iload_n 1, 1) := by decide +kernel
theorem dX5_init_66 : decode cX5_init 66 = .ok (.iconst 2, 1) := by decide +kernel
theorem dX5_init_67 : decode cX5_init 67 = .ok (.if_icmp .ge 22, 3) := by decide +kernel
theorem dX5_init_70 : decode cX5_init 70 = .ok (.aload_n 0, 1) := by decide +kernel
theorem dX5_init_71 : decode cX5_init 71 = .ok (.getfield 26, 3) := by decide +kernel
theorem dX5_init_74 : decode cX5_init 74 = .ok (.iload_n 1, 1) := by decide +kernel
theorem dX5_init_75 : decode cX5_init 75 = .ok (.new 9, 3) := by decide +kernel
theorem dX5_init_78 : decode cX5_init 78 = .ok (.dup, 1) := by decide +kernel
theorem dX5_init_79 : decode cX5_init 79 = .ok (.invokespecial 11, 3) := by decide +kernel
theorem dX5_init_82 : decode cX5_init 82 = .ok (.aastore, 1) := by decide +kernel
theorem dX5_init_83 : decode cX5_init 83 = .ok (.iinc 1 1, 3) := by decide +kernel
theorem dX5_init_86 : decode cX5_init 86 = .ok (.goto (-21), 3) := by decide +kernel
theorem dX5_init_89 : decode cX5_init 89 = .ok (.return_, 1) := by decide +kernel
theorem dX5_set_0 : decode cX5_set 0 = .ok (.iload_n 1, 1) := by decide +kernel
theorem dX5_set_1 : decode cX5_set 1 = .ok (.ifCond .lt 8, 3) := by decide +kernel
theorem dX5_set_4 : decode cX5_set 4 = .ok (.iload_n 1, 1) := by decide +kernel
theorem dX5_set_5 : decode cX5_set 5 = .ok (.iconst 4, 1) := by decide +kernel
theorem dX5_set_6 : decode cX5_set 6 = .ok (.if_icmp .lt 6, 3) := by decide +kernel
theorem dX5_set_9 : decode cX5_set 9 = .ok (.bipush (-2), 2) := by decide +kernel
theorem dX5_set_11 : decode cX5_set 11 = .ok (.ireturn, 1) := by decide +kernel
theorem dX5_set_12 : decode cX5_set 12 = .ok (.iload_n 2, 1) := by decide +kernel
theorem dX5_set_13 : decode cX5_set 13 = .ok (.getstatic 41, 3) := by decide +kernel
theorem dX5_set_16 : decode cX5_set 16 = .ok (.iload_n 1, 1) := by decide +kernel
theorem dX5_set_17 : decode cX5_set 17 = .ok (.iaload, 1) := by decide +kernel
theorem dX5_set_18 : decode cX5_set 18 = .ok (.if_icmp .lt 12, 3) := by decide +kernel
theorem dX5_set_21 : decode cX5_set 21 = .ok (.iload_n 2, 1) := by decide +kernel
theorem dX5_set_22 : decode cX5_set 22 = .ok (.getstatic 45, 3) := by decide +kernel
theorem dX5_set_25 : decode cX5_set 25 = .ok (.iload_n 1, 1) := by decide +kernel
theorem dX5_set_26 : decode cX5_set 26 = .ok (.iaload, 1) := by decide +kernel
theorem dX5_set_27 : decode cX5_set 27 = .ok (.if_icmp .le 6, 3) := by decide +kernel
theorem dX5_set_30 : decode cX5_set 30 = .ok (.bipush (-2), 2) := by decide +kernel
theorem dX5_set_32 : decode cX5_set 32 = .ok (.ireturn, 1) := by decide +kernel
theorem dX5_set_33 : decode cX5_set 33 = .ok (.aload_n 0, 1) := by decide +kernel
theorem dX5_set_34 : decode cX5_set 34 = .ok (.getfield 22, 3) := by decide +kernel
theorem dX5_set_37 : decode cX5_set 37 = .ok (.aload_n 0, 1) := by decide +kernel
theorem dX5_set_38 : decode cX5_set 38 = .ok (.getfield 12, 3) := by decide +kernel
theorem dX5_set_41 : decode cX5_set 41 = .ok (.invokevirtual 48, 3) := by decide +kernel
theorem dX5_set_44 : decode cX5_set 44 = .ok (.aload_n 0, 1) := by decide +kernel
theorem dX5_set_45 : decode cX5_set 45 = .ok (.getfield 12, 3) := by decide +kernel
theorem dX5_set_48 : decode cX5_set 48 = .ok (.getfield 52, 3) := by decide +kernel
theorem dX5_set_51 : decode cX5_set 51 = .ok (.iload_n 1, 1) := by decide +kernel
theorem dX5_set_52 : decode cX5_set 52 = .ok (.iaload, 1) := by decide +kernel
theorem dX5_set_53 : decode cX5_set 53 = .ok (.istore_n 3, 1) := by decide +kernel
theorem dX5_set_54 : decode cX5_set 54 = .ok (.aload_n 0, 1) := by decide +kernel
theorem dX5_set_55 : decode cX5_set 55 = .ok (.getfield 12, 3) := by decide +kernel
theorem dX5_set_58 : decode cX5_set 58 = .ok (.getfield 52, 3) := by decide +kernel
theorem dX5_set_61 : decode cX5_set 61 = .ok (.iload_n 1, 1) := by decide +kernel
theorem dX5_set_62 : decode cX5_set 62 = .ok (.iload_n 2, 1) := by decide +kernel
theorem dX5_set_63 : decode cX5_set 63 = .ok (.iastore, 1) := by decide +kernel
theorem dX5_set_64 : decode cX5_set 64 = .ok (.iload_n 3, 1) := by decide +kernel
theorem dX5_set_65 : decode cX5_set 65 = .ok (.ireturn, 1) := by decide +kernel
theorem dX5_floor_0 : decode cX5_floor 0 = .ok (.iload_n 1, 1) := by decide +kernel
theorem dX5_floor_1 : decode cX5_floor 1 = .ok (.iload_n 2, 1) := by decide +kernel
theorem dX5_floor_2 : decode cX5_floor 2 = .ok (.invokestatic 55, 3) := by decide +kernel
theorem dX5_floor_5 : decode cX5_floor 5 = .ok (.ifCond .ne 5, 3) := by decide +kernel
theorem dX5_floor_8 : decode cX5_floor 8 = .ok (.iconst (-1), 1) := by decide +kernel
theorem dX5_floor_9 : decode cX5_floor 9 = .ok (.ireturn, 1) := by decide +kernel
theorem dX5_floor_10 : decode cX5_floor 10 = .ok (.iload_n 3, 1) := by decide +kernel
theorem dX5_floor_11 : decode cX5_floor 11 = .ok (.ifCond .lt 8, 3) := by decide +kernel
theorem dX5_floor_14 : decode cX5_floor 14 = .ok (.iload_n 3, 1) := by decide +kernel
theorem dX5_floor_15 : decode cX5_floor 15 = .ok (.iconst 3, 1) := by decide +kernel
theorem dX5_floor_16 : decode cX5_floor 16 = .ok (.if_icmp .le 6, 3) := by decide +kernel
theorem dX5_floor_19 : decode cX5_floor 19 = .ok (.bipush (-2), 2) := by decide +kernel
theorem dX5_floor_21 : decode cX5_floor 21 = .ok (.ireturn, 1) := by decide +kernel
theorem dX5_floor_22 : decode cX5_floor 22 = .ok (.iload_n 1, 1) := by decide +kernel
theorem dX5_floor_23 : decode cX5_floor 23 = .ok (.iload_n 2, 1) := by decide +kernel
theorem dX5_floor_24 : decode cX5_floor 24 = .ok (.invokestatic 59, 3) := by decide +kernel
theorem dX5_floor_27 : decode cX5_floor 27 = .ok (.istore 4, 2) := by decide +kernel
theorem dX5_floor_29 : decode cX5_floor 29 = .ok (.iload_n 3, 1) := by decide +kernel
theorem dX5_floor_30 : decode cX5_floor 30 = .ok (.iconst 2, 1) := by decide +kernel
theorem dX5_floor_31 : decode cX5_floor 31 = .ok (.if_icmp .ne 23, 3) := by decide +kernel
theorem dX5_floor_34 : decode cX5_floor 34 = .ok (.aload_n 0, 1) := by decide +kernel
theorem dX5_floor_35 : decode cX5_floor 35 = .ok (.getfield 12, 3) := by decide +kernel
theorem dX5_floor_38 : decode cX5_floor 38 = .ok (.getfield 63, 3) := by decide +kernel
theorem dX5_floor_41 : decode cX5_floor 41 = .ok (.iload 4, 2) := by decide +kernel
theorem dX5_floor_43 : decode cX5_floor 43 = .ok (.invokevirtual 67, 3) := by decide +kernel
theorem dX5_floor_46 : decode cX5_floor 46 = .ok (.bipush (-6), 2) := by decide +kernel
theorem dX5_floor_48 : decode cX5_floor 48 = .ok (.if_icmp .eq 6, 3) := by decide +kernel
theorem dX5_floor_51 : decode cX5_floor 51 = .ok (.bipush (-5), 2) := by decide +kernel
theorem dX5_floor_53 : decode cX5_floor 53 = .ok (.ireturn, 1) := by decide +kernel
theorem dX5_floor_54 : decode cX5_floor 54 = .ok (.aload_n 0, 1) := by decide +kernel
theorem dX5_floor_55 : decode cX5_floor 55 = .ok (.getfield 22, 3) := by decide +kernel
theorem dX5_floor_58 : decode cX5_floor 58 = .ok (.aload_n 0, 1) := by decide +kernel
theorem dX5_floor_59 : decode cX5_floor 59 = .ok (.getfield 12, 3) := by decide +kernel
theorem dX5_floor_62 : decode cX5_floor 62 = .ok (.invokevirtual 48, 3) := by decide +kernel
theorem dX5_floor_65 : decode cX5_floor 65 = .ok (.aload_n 0, 1) := by decide +kernel
theorem dX5_floor_66 : decode cX5_floor 66 = .ok (.getfield 12, 3) := by decide +kernel
theorem dX5_floor_69 : decode cX5_floor 69 = .ok (.getfield 73, 3) := by decide +kernel
theorem dX5_floor_72 : decode cX5_floor 72 = .ok (.iload 4, 2) := by decide +kernel
theorem dX5_floor_74 : decode cX5_floor 74 = .ok (.iaload, 1) := by decide +kernel
theorem dX5_floor_75 : decode cX5_floor 75 = .ok (.istore 5, 2) := by decide +kernel
theorem dX5_floor_77 : decode cX5_floor 77 = .ok (.aload_n 0, 1) := by decide +kernel
theorem dX5_floor_78 : decode cX5_floor 78 = .ok (.getfield 12, 3) := by decide +kernel
theorem dX5_floor_81 : decode cX5_floor 81 = .ok (.iload 4, 2) := by decide +kernel
theorem dX5_floor_83 : decode cX5_floor 83 = .ok (.iload_n 3, 1) := by decide +kernel
theorem dX5_floor_84 : decode cX5_floor 84 = .ok (.invokevirtual 76, 3) := by decide +kernel
theorem dX5_floor_87 : decode cX5_floor 87 = .ok (.iload 5, 2) := by decide +kernel
theorem dX5_floor_89 : decode cX5_floor 89 = .ok (.ireturn, 1) := by decide +kernel
theorem dX5_read_0 : decode cX5_read 0 = .ok (.aload_n 0, 1) := by decide +kernel
theorem dX5_read_1 : decode cX5_read 1 = .ok (.getfield 37, 3) := by decide +kernel
theorem dX5_read_4 : decode cX5_read 4 = .ok (.invokevirtual 80, 3) := by decide +kernel
theorem dX5_read_7 : decode cX5_read 7 = .ok (.bipush (-6), 2) := by decide +kernel
theorem dX5_read_9 : decode cX5_read 9 = .ok (.if_icmp .eq 6, 3) := by decide +kernel
theorem dX5_read_12 : decode cX5_read 12 = .ok (.bipush (-3), 2) := by decide +kernel
theorem dX5_read_14 : decode cX5_read 14 = .ok (.ireturn, 1) := by decide +kernel
theorem dX5_read_15 : decode cX5_read 15 = .ok (.aload_n 0, 1) := by decide +kernel
theorem dX5_read_16 : decode cX5_read 16 = .ok (.getfield 22, 3) := by decide +kernel
theorem dX5_read_19 : decode cX5_read 19 = .ok (.aload_n 0, 1) := by decide +kernel
end
section
theorem dX5_read_20 : decode cX5_read 20 = .ok (.getfield 12, 3) := by decide +kernel
theorem dX5_read_23 : decode cX5_read 23 = .ok (.invokevirtual 48, 3) := by decide +kernel
theorem dX5_read_26 : decode cX5_read 26 = .ok (.aload_n 0, 1) := by decide +kernel
theorem dX5_read_27 : decode cX5_read 27 = .ok (.getfield 12, 3) := by decide +kernel
theorem dX5_read_30 : decode cX5_read 30 = .ok (.aload_n 0, 1) := by decide +kernel
theorem dX5_read_31 : decode cX5_read 31 = .ok (.getfield 37, 3) := by decide +kernel
theorem dX5_read_34 : decode cX5_read 34 = .ok (.invokevirtual 84, 3) := by decide +kernel
theorem dX5_read_37 : decode cX5_read 37 = .ok (.aload_n 0, 1) := by decide +kernel
theorem dX5_read_38 : decode cX5_read 38 = .ok (.getfield 37, 3) := by decide +kernel
theorem dX5_read_41 : decode cX5_read 41 = .ok (.iconst 0, 1) := by decide +kernel
theorem dX5_read_42 : decode cX5_read 42 = .ok (.putfield 88, 3) := by decide +kernel
theorem dX5_read_45 : decode cX5_read 45 = .ok (.aload_n 0, 1) := by decide +kernel
theorem dX5_read_46 : decode cX5_read 46 = .ok (.getfield 12, 3) := by decide +kernel
theorem dX5_read_49 : decode cX5_read 49 = .ok (.invokevirtual 92, 3) := by decide +kernel
theorem dX5_read_52 : decode cX5_read 52 = .ok (.ireturn, 1) := by decide +kernel
theorem dX5_clear_0 : decode cX5_clear 0 = .ok (.aload_n 0, 1) := by decide +kernel
theorem dX5_clear_1 : decode cX5_clear 1 = .ok (.getfield 22, 3) := by decide +kernel
theorem dX5_clear_4 : decode cX5_clear 4 = .ok (.aload_n 0, 1) := by decide +kernel
theorem dX5_clear_5 : decode cX5_clear 5 = .ok (.getfield 12, 3) := by decide +kernel
theorem dX5_clear_8 : decode cX5_clear 8 = .ok (.invokevirtual 48, 3) := by decide +kernel
theorem dX5_clear_11 : decode cX5_clear 11 = .ok (.aload_n 0, 1) := by decide +kernel
theorem dX5_clear_12 : decode cX5_clear 12 = .ok (.getfield 12, 3) := by decide +kernel
theorem dX5_clear_15 : decode cX5_clear 15 = .ok (.invokevirtual 95, 3) := by decide +kernel
theorem dX5_clear_18 : decode cX5_clear 18 = .ok (.istore_n 1, 1) := by decide +kernel
theorem dX5_clear_19 : decode cX5_clear 19 = .ok (.aload_n 0, 1) := by decide +kernel
theorem dX5_clear_20 : decode cX5_clear 20 = .ok (.getfield 12, 3) := by decide +kernel
theorem dX5_clear_23 : decode cX5_clear 23 = .ok (.invokevirtual 98, 3) := by decide +kernel
theorem dX5_clear_26 : decode cX5_clear 26 = .ok (.iload_n 1, 1) := by decide +kernel
theorem dX5_clear_27 : decode cX5_clear 27 = .ok (.ireturn, 1) := by decide +kernel
theorem dX5_dip_0 : decode cX5_dip 0 = .ok (.iload_n 1, 1) := by decide +kernel
theorem dX5_dip_1 : decode cX5_dip 1 = .ok (.iload_n 2, 1) := by decide +kernel
theorem dX5_dip_2 : decode cX5_dip 2 = .ok (.invokestatic 55, 3) := by decide +kernel
theorem dX5_dip_5 : decode cX5_dip 5 = .ok (.ifCond .ne 5, 3) := by decide +kernel
theorem dX5_dip_8 : decode cX5_dip 8 = .ok (.iconst (-1), 1) := by decide +kernel
theorem dX5_dip_9 : decode cX5_dip 9 = .ok (.ireturn, 1) := by decide +kernel
theorem dX5_dip_10 : decode cX5_dip 10 = .ok (.iload_n 3, 1) := by decide +kernel
theorem dX5_dip_11 : decode cX5_dip 11 = .ok (.iconst 2, 1) := by decide +kernel
theorem dX5_dip_12 : decode cX5_dip 12 = .ok (.bipush 40, 2) := by decide +kernel
theorem dX5_dip_14 : decode cX5_dip 14 = .ok (.invokestatic 101, 3) := by decide +kernel
theorem dX5_dip_17 : decode cX5_dip 17 = .ok (.ifCond .eq 27, 3) := by decide +kernel
theorem dX5_dip_20 : decode cX5_dip 20 = .ok (.iload 4, 2) := by decide +kernel
theorem dX5_dip_22 : decode cX5_dip 22 = .ok (.iconst 1, 1) := by decide +kernel
theorem dX5_dip_23 : decode cX5_dip 23 = .ok (.sipush 900, 3) := by decide +kernel
theorem dX5_dip_26 : decode cX5_dip 26 = .ok (.invokestatic 101, 3) := by decide +kernel
theorem dX5_dip_29 : decode cX5_dip 29 = .ok (.ifCond .eq 15, 3) := by decide +kernel
theorem dX5_dip_32 : decode cX5_dip 32 = .ok (.iload 5, 2) := by decide +kernel
theorem dX5_dip_34 : decode cX5_dip 34 = .ok (.iconst 0, 1) := by decide +kernel
theorem dX5_dip_35 : decode cX5_dip 35 = .ok (.iload_n 3, 1) := by decide +kernel
theorem dX5_dip_36 : decode cX5_dip 36 = .ok (.iconst 1, 1) := by decide +kernel
theorem dX5_dip_37 : decode cX5_dip 37 = .ok (.isub, 1) := by decide +kernel
theorem dX5_dip_38 : decode cX5_dip 38 = .ok (.invokestatic 101, 3) := by decide +kernel
theorem dX5_dip_41 : decode cX5_dip 41 = .ok (.ifCond .ne 6, 3) := by decide +kernel
theorem dX5_dip_44 : decode cX5_dip 44 = .ok (.bipush (-2), 2) := by decide +kernel
theorem dX5_dip_46 : decode cX5_dip 46 = .ok (.ireturn, 1) := by decide +kernel
theorem dX5_dip_47 : decode cX5_dip 47 = .ok (.iload_n 1, 1) := by decide +kernel
theorem dX5_dip_48 : decode cX5_dip 48 = .ok (.iload_n 2, 1) := by decide +kernel
theorem dX5_dip_49 : decode cX5_dip 49 = .ok (.invokestatic 59, 3) := by decide +kernel
theorem dX5_dip_52 : decode cX5_dip 52 = .ok (.istore 6, 2) := by decide +kernel
theorem dX5_dip_54 : decode cX5_dip 54 = .ok (.aload_n 0, 1) := by decide +kernel
theorem dX5_dip_55 : decode cX5_dip 55 = .ok (.getfield 12, 3) := by decide +kernel
theorem dX5_dip_58 : decode cX5_dip 58 = .ok (.getfield 73, 3) := by decide +kernel
theorem dX5_dip_61 : decode cX5_dip 61 = .ok (.iload 6, 2) := by decide +kernel
theorem dX5_dip_63 : decode cX5_dip 63 = .ok (.iaload, 1) := by decide +kernel
theorem dX5_dip_64 : decode cX5_dip 64 = .ok (.iconst 2, 1) := by decide +kernel
theorem dX5_dip_65 : decode cX5_dip 65 = .ok (.if_icmp .ne 6, 3) := by decide +kernel
theorem dX5_dip_68 : decode cX5_dip 68 = .ok (.bipush (-5), 2) := by decide +kernel
theorem dX5_dip_70 : decode cX5_dip 70 = .ok (.ireturn, 1) := by decide +kernel
theorem dX5_dip_71 : decode cX5_dip 71 = .ok (.aload_n 0, 1) := by decide +kernel
theorem dX5_dip_72 : decode cX5_dip 72 = .ok (.getfield 12, 3) := by decide +kernel
theorem dX5_dip_75 : decode cX5_dip 75 = .ok (.getfield 63, 3) := by decide +kernel
theorem dX5_dip_78 : decode cX5_dip 78 = .ok (.getfield 105, 3) := by decide +kernel
theorem dX5_dip_81 : decode cX5_dip 81 = .ok (.iconst 5, 1) := by decide +kernel
theorem dX5_dip_82 : decode cX5_dip 82 = .ok (.if_icmp .lt 6, 3) := by decide +kernel
theorem dX5_dip_85 : decode cX5_dip 85 = .ok (.bipush (-4), 2) := by decide +kernel
theorem dX5_dip_87 : decode cX5_dip 87 = .ok (.ireturn, 1) := by decide +kernel
theorem dX5_dip_88 : decode cX5_dip 88 = .ok (.aload_n 0, 1) := by decide +kernel
theorem dX5_dip_89 : decode cX5_dip 89 = .ok (.getfield 22, 3) := by decide +kernel
theorem dX5_dip_92 : decode cX5_dip 92 = .ok (.aload_n 0, 1) := by decide +kernel
theorem dX5_dip_93 : decode cX5_dip 93 = .ok (.getfield 12, 3) := by decide +kernel
theorem dX5_dip_96 : decode cX5_dip 96 = .ok (.invokevirtual 48, 3) := by decide +kernel
theorem dX5_dip_99 : decode cX5_dip 99 = .ok (.aload_n 0, 1) := by decide +kernel
theorem dX5_dip_100 : decode cX5_dip 100 = .ok (.getfield 12, 3) := by decide +kernel
theorem dX5_dip_103 : decode cX5_dip 103 = .ok (.getfield 63, 3) := by decide +kernel
theorem dX5_dip_106 : decode cX5_dip 106 = .ok (.iload 6, 2) := by decide +kernel
theorem dX5_dip_108 : decode cX5_dip 108 = .ok (.iload_n 3, 1) := by decide +kernel
theorem dX5_dip_109 : decode cX5_dip 109 = .ok (.iload 4, 2) := by decide +kernel
theorem dX5_dip_111 : decode cX5_dip 111 = .ok (.iload 5, 2) := by decide +kernel
theorem dX5_dip_113 : decode cX5_dip 113 = .ok (.invokevirtual 108, 3) := by decide +kernel
theorem dX5_dip_116 : decode cX5_dip 116 = .ok (.ireturn, 1) := by decide +kernel
theorem dX5_takeOut_0 : decode cX5_takeOut 0 = .ok (.aload_n 0, 1) := by decide +kernel
theorem dX5_takeOut_1 : decode cX5_takeOut 1 = .ok (.iload_n 1, 1) := by decide +kernel
theorem dX5_takeOut_2 : decode cX5_takeOut 2 = .ok (.invokevirtual 112, 3) := by decide +kernel
theorem dX5_takeOut_5 : decode cX5_takeOut 5 = .ok (.ifCond .ne 5, 3) := by decide +kernel
theorem dX5_takeOut_8 : decode cX5_takeOut 8 = .ok (.iconst (-1), 1) := by decide +kernel
theorem dX5_takeOut_9 : decode cX5_takeOut 9 = .ok (.ireturn, 1) := by decide +kernel
theorem dX5_takeOut_10 : decode cX5_takeOut 10 = .ok (.aload_n 0, 1) := by decide +kernel
theorem dX5_takeOut_11 : decode cX5_takeOut 11 = .ok (.getfield 22, 3) := by decide +kernel
theorem dX5_takeOut_14 : decode cX5_takeOut 14 = .ok (.aload_n 0, 1) := by decide +kernel
theorem dX5_takeOut_15 : decode cX5_takeOut 15 = .ok (.getfield 12, 3) := by decide +kernel
theorem dX5_takeOut_18 : decode cX5_takeOut 18 = .ok (.invokevirtual 48, 3) := by decide +kernel
theorem dX5_takeOut_21 : decode cX5_takeOut 21 = .ok (.aload_n 0, 1) := by decide +kernel
theorem dX5_takeOut_22 : decode cX5_takeOut 22 = .ok (.getfield 12, 3) := by decide +kernel
theorem dX5_takeOut_25 : decode cX5_takeOut 25 = .ok (.getfield 63, 3) := by decide +kernel
theorem dX5_takeOut_28 : decode cX5_takeOut 28 = .ok (.iload_n 1, 1) := by decide +kernel
theorem dX5_takeOut_29 : decode cX5_takeOut 29 = .ok (.invokevirtual 116, 3) := by decide +kernel
theorem dX5_takeOut_32 : decode cX5_takeOut 32 = .ok (.aload_n 0, 1) := by decide +kernel
theorem dX5_takeOut_33 : decode cX5_takeOut 33 = .ok (.getfield 12, 3) := by decide +kernel
theorem dX5_takeOut_36 : decode cX5_takeOut 36 = .ok (.getfield 63, 3) := by decide +kernel
theorem dX5_takeOut_39 : decode cX5_takeOut 39 = .ok (.getfield 105, 3) := by decide +kernel
theorem dX5_takeOut_42 : decode cX5_takeOut 42 = .ok (.ireturn, 1) := by decide +kernel
theorem dX5_drop_0 : decode cX5_drop 0 = .ok (.iload_n 1, 1) := by decide +kernel
theorem dX5_drop_1 : decode cX5_drop 1 = .ok (.iload_n 2, 1) := by decide +kernel
theorem dX5_drop_2 : decode cX5_drop 2 = .ok (.invokestatic 55, 3) := by decide +kernel
theorem dX5_drop_5 : decode cX5_drop 5 = .ok (.ifCond .ne 5, 3) := by decide +kernel
theorem dX5_drop_8 : decode cX5_drop 8 = .ok (.iconst (-1), 1) := by decide +kernel
theorem dX5_drop_9 : decode cX5_drop 9 = .ok (.ireturn, 1) := by decide +kernel
theorem dX5_drop_10 : decode cX5_drop 10 = .ok (.iload_n 3, 1) := by decide +kernel
theorem dX5_drop_11 : decode cX5_drop 11 = .ok (.sipush (-999), 3) := by decide +kernel
theorem dX5_drop_14 : decode cX5_drop 14 = .ok (.sipush 999, 3) := by decide +kernel
theorem dX5_drop_17 : decode cX5_drop 17 = .ok (.invokestatic 101, 3) := by decide +kernel
theorem dX5_drop_20 : decode cX5_drop 20 = .ok (.ifCond .ne 6, 3) := by decide +kernel
theorem dX5_drop_23 : decode cX5_drop 23 = .ok (.bipush (-2), 2) := by decide +kernel
theorem dX5_drop_25 : decode cX5_drop 25 = .ok (.ireturn, 1) := by decide +kernel
theorem dX5_drop_26 : decode cX5_drop 26 = .ok (.iload_n 1, 1) := by decide +kernel
theorem dX5_drop_27 : decode cX5_drop 27 = .ok (.iload_n 2, 1) := by decide +kernel
theorem dX5_drop_28 : decode cX5_drop 28 = .ok (.invokestatic 59, 3) := by decide +kernel
theorem dX5_drop_31 : decode cX5_drop 31 = .ok (.istore 4, 2) := by decide +kernel
theorem dX5_drop_33 : decode cX5_drop 33 = .ok (.aload_n 0, 1) := by decide +kernel
theorem dX5_drop_34 : decode cX5_drop 34 = .ok (.getfield 12, 3) := by decide +kernel
theorem dX5_drop_37 : decode cX5_drop 37 = .ok (.getfield 73, 3) := by decide +kernel
theorem dX5_drop_40 : decode cX5_drop 40 = .ok (.iload 4, 2) := by decide +kernel
theorem dX5_drop_42 : decode cX5_drop 42 = .ok (.iaload, 1) := by decide +kernel
theorem dX5_drop_43 : decode cX5_drop 43 = .ok (.iconst 2, 1) := by decide +kernel
theorem dX5_drop_44 : decode cX5_drop 44 = .ok (.if_icmp .ne 6, 3) := by decide +kernel
theorem dX5_drop_47 : decode cX5_drop 47 = .ok (.bipush (-5), 2) := by decide +kernel
theorem dX5_drop_49 : decode cX5_drop 49 = .ok (.ireturn, 1) := by decide +kernel
theorem dX5_drop_50 : decode cX5_drop 50 = .ok (.aload_n 0, 1) := by decide +kernel
theorem dX5_drop_51 : decode cX5_drop 51 = .ok (.getfield 22, 3) := by decide +kernel
theorem dX5_drop_54 : decode cX5_drop 54 = .ok (.aload_n 0, 1) := by decide +kernel
theorem dX5_drop_55 : decode cX5_drop 55 = .ok (.getfield 12, 3) := by decide +kernel
theorem dX5_drop_58 : decode cX5_drop 58 = .ok (.invokevirtual 48, 3) := by decide +kernel
theorem dX5_drop_61 : decode cX5_drop 61 = .ok (.aload_n 0, 1) := by decide +kernel
theorem dX5_drop_62 : decode cX5_drop 62 = .ok (.getfield 12, 3) := by decide +kernel
theorem dX5_drop_65 : decode cX5_drop 65 = .ok (.getfield 120, 3) := by decide +kernel
theorem dX5_drop_68 : decode cX5_drop 68 = .ok (.iload 4, 2) := by decide +kernel
theorem dX5_drop_70 : decode cX5_drop 70 = .ok (.aload_n 0, 1) := by decide +kernel
theorem dX5_drop_71 : decode cX5_drop 71 = .ok (.getfield 12, 3) := by decide +kernel
theorem dX5_drop_74 : decode cX5_drop 74 = .ok (.getfield 120, 3) := by decide +kernel
theorem dX5_drop_77 : decode cX5_drop 77 = .ok (.iload 4, 2) := by decide +kernel
theorem dX5_drop_79 : decode cX5_drop 79 = .ok (.iaload, 1) := by decide +kernel
theorem dX5_drop_80 : decode cX5_drop 80 = .ok (.iload_n 3, 1) := by decide +kernel
theorem dX5_drop_81 : decode cX5_drop 81 = .ok (.iadd, 1) := by decide +kernel
theorem dX5_drop_82 : decode cX5_drop 82 = .ok (.invokestatic 123, 3) := by decide +kernel
theorem dX5_drop_85 : decode cX5_drop 85 = .ok (.iastore, 1) := by decide +kernel
theorem dX5_drop_86 : decode cX5_drop 86 = .ok (.aload_n 0, 1) := by decide +kernel
theorem dX5_drop_87 : decode cX5_drop 87 = .ok (.getfield 12, 3) := by decide +kernel
theorem dX5_drop_90 : decode cX5_drop 90 = .ok (.getfield 120, 3) := by decide +kernel
theorem dX5_drop_93 : decode cX5_drop 93 = .ok (.iload 4, 2) := by decide +kernel
theorem dX5_drop_95 : decode cX5_drop 95 = .ok (.iaload, 1) := by decide +kernel
theorem dX5_drop_96 : decode cX5_drop 96 = .ok (.sipush 10000, 3) := by decide +kernel
theorem dX5_drop_99 : decode cX5_drop 99 = .ok (.iadd, 1) := by decide +kernel
theorem dX5_drop_100 : decode cX5_drop 100 = .ok (.ireturn, 1) := by decide +kernel
theorem dX5_probe_0 : decode cX5_probe 0 = .ok (.iload_n 1, 1) := by decide +kernel
theorem dX5_probe_1 : decode cX5_probe 1 = .ok (.iload_n 2, 1) := by decide +kernel
theorem dX5_probe_2 : decode cX5_probe 2 = .ok (.invokestatic 55, 3) := by decide +kernel
theorem dX5_probe_5 : decode cX5_probe 5 = .ok (.ifCond .ne 5, 3) := by decide +kernel
theorem dX5_probe_8 : decode cX5_probe 8 = .ok (.iconst (-1), 1) := by decide +kernel
theorem dX5_probe_9 : decode cX5_probe 9 = .ok (.ireturn, 1) := by decide +kernel
theorem dX5_probe_10 : decode cX5_probe 10 = .ok (.aload_n 0, 1) := by decide +kernel
theorem dX5_probe_11 : decode cX5_probe 11 = .ok (.getfield 12, 3) := by decide +kernel
theorem dX5_probe_14 : decode cX5_probe 14 = .ok (.getfield 126, 3) := by decide +kernel
theorem dX5_probe_17 : decode cX5_probe 17 = .ok (.getfield 130, 3) := by decide +kernel
theorem dX5_probe_20 : decode cX5_probe 20 = .ok (.iconst 3, 1) := by decide +kernel
theorem dX5_probe_21 : decode cX5_probe 21 = .ok (.if_icmp .lt 6, 3) := by decide +kernel
theorem dX5_probe_24 : decode cX5_probe 24 = .ok (.bipush (-4), 2) := by decide +kernel
theorem dX5_probe_26 : decode cX5_probe 26 = .ok (.ireturn, 1) := by decide +kernel
theorem dX5_probe_27 : decode cX5_probe 27 = .ok (.aload_n 0, 1) := by decide +kernel
theorem dX5_probe_28 : decode cX5_probe 28 = .ok (.getfield 22, 3) := by decide +kernel
theorem dX5_probe_31 : decode cX5_probe 31 = .ok (.aload_n 0, 1) := by decide +kernel
theorem dX5_probe_32 : decode cX5_probe 32 = .ok (.getfield 12, 3) := by decide +kernel
theorem dX5_probe_35 : decode cX5_probe 35 = .ok (.invokevirtual 48, 3) := by decide +kernel
theorem dX5_probe_38 : decode cX5_probe 38 = .ok (.aload_n 0, 1) := by decide +kernel
theorem dX5_probe_39 : decode cX5_probe 39 = .ok (.getfield 12, 3) := by decide +kernel
theorem dX5_probe_42 : decode cX5_probe 42 = .ok (.getfield 126, 3) := by decide +kernel
theorem dX5_probe_45 : decode cX5_probe 45 = .ok (.iload_n 1, 1) := by decide +kernel
theorem dX5_probe_46 : decode cX5_probe 46 = .ok (.iload_n 2, 1) := by decide +kernel
theorem dX5_probe_47 : decode cX5_probe 47 = .ok (.invokestatic 59, 3) := by decide +kernel
theorem dX5_probe_50 : decode cX5_probe 50 = .ok (.invokevirtual 133, 3) := by decide +kernel
theorem dX5_probe_53 : decode cX5_probe 53 = .ok (.ireturn, 1) := by decide +kernel
theorem dX5_pass_0 : decode cX5_pass 0 = .ok (.iload_n 1, 1) := by decide +kernel
theorem dX5_pass_1 : decode cX5_pass 1 = .ok (.iconst 1, 1) := by decide +kernel
theorem dX5_pass_2 : decode cX5_pass 2 = .ok (.bipush 100, 2) := by decide +kernel
theorem dX5_pass_4 : decode cX5_pass 4 = .ok (.invokestatic 101, 3) := by decide +kernel
theorem dX5_pass_7 : decode cX5_pass 7 = .ok (.ifCond .ne 6, 3) := by decide +kernel
theorem dX5_pass_10 : decode cX5_pass 10 = .ok (.bipush (-2), 2) := by decide +kernel
theorem dX5_pass_12 : decode cX5_pass 12 = .ok (.ireturn, 1) := by decide +kernel
theorem dX5_pass_13 : decode cX5_pass 13 = .ok (.aload_n 0, 1) := by decide +kernel
theorem dX5_pass_14 : decode cX5_pass 14 = .ok (.getfield 12, 3) := by decide +kernel
theorem dX5_pass_17 : decode cX5_pass 17 = .ok (.getfield 135, 3) := by decide +kernel
theorem dX5_pass_20 : decode cX5_pass 20 = .ok (.iload_n 1, 1) := by decide +kernel
theorem dX5_pass_21 : decode cX5_pass 21 = .ok (.iadd, 1) := by decide +kernel
theorem dX5_pass_22 : decode cX5_pass 22 = .ok (.ldc 138, 2) := by decide +kernel
theorem dX5_pass_24 : decode cX5_pass 24 = .ok (.if_icmp .le 6, 3) := by decide +kernel
theorem dX5_pass_27 : decode cX5_pass 27 = .ok (.bipush (-4), 2) := by decide +kernel
theorem dX5_pass_29 : decode cX5_pass 29 = .ok (.ireturn, 1) := by decide +kernel
theorem dX5_pass_30 : decode cX5_pass 30 = .ok (.aload_n 0, 1) := by decide +kernel
theorem dX5_pass_31 : decode cX5_pass 31 = .ok (.getfield 22, 3) := by decide +kernel
theorem dX5_pass_34 : decode cX5_pass 34 = .ok (.aload_n 0, 1) := by decide +kernel
theorem dX5_pass_35 : decode cX5_pass 35 = .ok (.getfield 12, 3) := by decide +kernel
theorem dX5_pass_38 : decode cX5_pass 38 = .ok (.invokevirtual 48, 3) := by decide +kernel
theorem dX5_pass_41 : decode cX5_pass 41 = .ok (.aload_n 0, 1) := by decide +kernel
theorem dX5_pass_42 : decode cX5_pass 42 = .ok (.getfield 12, 3) := by decide +kernel
theorem dX5_pass_45 : decode cX5_pass 45 = .ok (.iload_n 1, 1) := by decide +kernel
theorem dX5_pass_46 : decode cX5_pass 46 = .ok (.invokevirtual 139, 3) := by decide +kernel
theorem dX5_pass_49 : decode cX5_pass 49 = .ok (.aload_n 0, 1) := by decide +kernel
theorem dX5_pass_50 : decode cX5_pass 50 = .ok (.getfield 12, 3) := by decide +kernel
theorem dX5_pass_53 : decode cX5_pass 53 = .ok (.invokevirtual 142, 3) := by decide +kernel
theorem dX5_pass_56 : decode cX5_pass 56 = .ok (.ireturn, 1) := by decide +kernel
theorem dX5_cell_0 : decode cX5_cell 0 = .ok (.iload_n 1, 1) := by decide +kernel
theorem dX5_cell_1 : decode cX5_cell 1 = .ok (.iload_n 2, 1) := by decide +kernel
theorem dX5_cell_2 : decode cX5_cell 2 = .ok (.invokestatic 55, 3) := by decide +kernel
theorem dX5_cell_5 : decode cX5_cell 5 = .ok (.ifCond .ne 5, 3) := by decide +kernel
theorem dX5_cell_8 : decode cX5_cell 8 = .ok (.iconst (-1), 1) := by decide +kernel
theorem dX5_cell_9 : decode cX5_cell 9 = .ok (.ireturn, 1) := by decide +kernel
theorem dX5_cell_10 : decode cX5_cell 10 = .ok (.iload_n 1, 1) := by decide +kernel
theorem dX5_cell_11 : decode cX5_cell 11 = .ok (.iload_n 2, 1) := by decide +kernel
theorem dX5_cell_12 : decode cX5_cell 12 = .ok (.invokestatic 59, 3) := by decide +kernel
theorem dX5_cell_15 : decode cX5_cell 15 = .ok (.istore 4, 2) := by decide +kernel
theorem dX5_cell_17 : decode cX5_cell 17 = .ok (.iload_n 3, 1) := by decide +kernel
theorem dX5_cell_18 : decode cX5_cell 18 = .ok (.tableswitch 138 0 6 #[42, 53, 68, 83, 96, 114, 125], 42) := by decide +kernel
theorem dX5_cell_60 : decode cX5_cell 60 = .ok (.aload_n 0, 1) := by decide +kernel
theorem dX5_cell_61 : decode cX5_cell 61 = .ok (.getfield 12, 3) := by decide +kernel
theorem dX5_cell_64 : decode cX5_cell 64 = .ok (.getfield 73, 3) := by decide +kernel
theorem dX5_cell_67 : decode cX5_cell 67 = .ok (.iload 4, 2) := by decide +kernel
theorem dX5_cell_69 : decode cX5_cell 69 = .ok (.iaload, 1) := by decide +kernel
theorem dX5_cell_70 : decode cX5_cell 70 = .ok (.ireturn, 1) := by decide +kernel
theorem dX5_cell_71 : decode cX5_cell 71 = .ok (.aload_n 0, 1) := by decide +kernel
theorem dX5_cell_72 : decode cX5_cell 72 = .ok (.getfield 12, 3) := by decide +kernel
theorem dX5_cell_75 : decode cX5_cell 75 = .ok (.getfield 120, 3) := by decide +kernel
theorem dX5_cell_78 : decode cX5_cell 78 = .ok (.iload 4, 2) := by decide +kernel
theorem dX5_cell_80 : decode cX5_cell 80 = .ok (.iaload, 1) := by decide +kernel
theorem dX5_cell_81 : decode cX5_cell 81 = .ok (.sipush 10000, 3) := by decide +kernel
theorem dX5_cell_84 : decode cX5_cell 84 = .ok (.iadd, 1) := by decide +kernel
theorem dX5_cell_85 : decode cX5_cell 85 = .ok (.ireturn, 1) := by decide +kernel
theorem dX5_cell_86 : decode cX5_cell 86 = .ok (.aload_n 0, 1) := by decide +kernel
theorem dX5_cell_87 : decode cX5_cell 87 = .ok (.getfield 12, 3) := by decide +kernel
theorem dX5_cell_90 : decode cX5_cell 90 = .ok (.getfield 145, 3) := by decide +kernel
theorem dX5_cell_93 : decode cX5_cell 93 = .ok (.iload 4, 2) := by decide +kernel
theorem dX5_cell_95 : decode cX5_cell 95 = .ok (.iaload, 1) := by decide +kernel
theorem dX5_cell_96 : decode cX5_cell 96 = .ok (.sipush 10000, 3) := by decide +kernel
theorem dX5_cell_99 : decode cX5_cell 99 = .ok (.iadd, 1) := by decide +kernel
theorem dX5_cell_100 : decode cX5_cell 100 = .ok (.ireturn, 1) := by decide +kernel
theorem dX5_cell_101 : decode cX5_cell 101 = .ok (.aload_n 0, 1) := by decide +kernel
theorem dX5_cell_102 : decode cX5_cell 102 = .ok (.getfield 12, 3) := by decide +kernel
theorem dX5_cell_105 : decode cX5_cell 105 = .ok (.iload 4, 2) := by decide +kernel
theorem dX5_cell_107 : decode cX5_cell 107 = .ok (.invokevirtual 148, 3) := by decide +kernel
theorem dX5_cell_110 : decode cX5_cell 110 = .ok (.ldc 138, 2) := by decide +kernel
theorem dX5_cell_112 : decode cX5_cell 112 = .ok (.iadd, 1) := by decide +kernel
theorem dX5_cell_113 : decode cX5_cell 113 = .ok (.ireturn, 1) := by decide +kernel
theorem dX5_cell_114 : decode cX5_cell 114 = .ok (.aload_n 0, 1) := by decide +kernel
theorem dX5_cell_115 : decode cX5_cell 115 = .ok (.getfield 12, 3) := by decide +kernel
theorem dX5_cell_118 : decode cX5_cell 118 = .ok (.iload 4, 2) := by decide +kernel
theorem dX5_cell_120 : decode cX5_cell 120 = .ok (.invokevirtual 151, 3) := by decide +kernel
theorem dX5_cell_123 : decode cX5_cell 123 = .ok (.ifCond .eq 7, 3) := by decide +kernel
theorem dX5_cell_126 : decode cX5_cell 126 = .ok (.iconst 1, 1) := by decide +kernel
theorem dX5_cell_127 : decode cX5_cell 127 = .ok (.goto 4, 3) := by decide +kernel
theorem dX5_cell_130 : decode cX5_cell 130 = .ok (.iconst 0, 1) := by decide +kernel
theorem dX5_cell_131 : decode cX5_cell 131 = .ok (.ireturn, 1) := by decide +kernel
theorem dX5_cell_132 : decode cX5_cell 132 = .ok (.aload_n 0, 1) := by decide +kernel
theorem dX5_cell_133 : decode cX5_cell 133 = .ok (.getfield 12, 3) := by decide +kernel
theorem dX5_cell_136 : decode cX5_cell 136 = .ok (.getfield 154, 3) := by decide +kernel
theorem dX5_cell_139 : decode cX5_cell 139 = .ok (.iload 4, 2) := by decide +kernel
theorem dX5_cell_141 : decode cX5_cell 141 = .ok (.iaload, 1) := by decide +kernel
theorem dX5_cell_142 : decode cX5_cell 142 = .ok (.ireturn, 1) := by decide +kernel
theorem dX5_cell_143 : decode cX5_cell 143 = .ok (.aload_n 0, 1) := by decide +kernel
theorem dX5_cell_144 : decode cX5_cell 144 = .ok (.getfield 12, 3) := by decide +kernel
theorem dX5_cell_147 : decode cX5_cell 147 = .ok (.getfield 63, 3) := by decide +kernel
theorem dX5_cell_150 : decode cX5_cell 150 = .ok (.iload 4, 2) := by decide +kernel
theorem dX5_cell_152 : decode cX5_cell 152 = .ok (.invokevirtual 67, 3) := by decide +kernel
theorem dX5_cell_155 : decode cX5_cell 155 = .ok (.ireturn, 1) := by decide +kernel
theorem dX5_cell_156 : decode cX5_cell 156 = .ok (.bipush (-2), 2) := by decide +kernel
theorem dX5_cell_158 : decode cX5_cell 158 = .ok (.ireturn, 1) := by decide +kernel
theorem dX5_dipper_0 : decode cX5_dipper 0 = .ok (.aload_n 0, 1) := by decide +kernel
theorem dX5_dipper_1 : decode cX5_dipper 1 = .ok (.iload_n 1, 1) := by decide +kernel
theorem dX5_dipper_2 : decode cX5_dipper 2 = .ok (.invokevirtual 112, 3) := by decide +kernel
theorem dX5_dipper_5 : decode cX5_dipper 5 = .ok (.ifCond .ne 5, 3) := by decide +kernel
theorem dX5_dipper_8 : decode cX5_dipper 8 = .ok (.iconst (-1), 1) := by decide +kernel
theorem dX5_dipper_9 : decode cX5_dipper 9 = .ok (.ireturn, 1) := by decide +kernel
theorem dX5_dipper_10 : decode cX5_dipper 10 = .ok (.aload_n 0, 1) := by decide +kernel
theorem dX5_dipper_11 : decode cX5_dipper 11 = .ok (.getfield 12, 3) := by decide +kernel
theorem dX5_dipper_14 : decode cX5_dipper 14 = .ok (.getfield 63, 3) := by decide +kernel
theorem dX5_dipper_17 : decode cX5_dipper 17 = .ok (.astore_n 3, 1) := by decide +kernel
theorem dX5_dipper_18 : decode cX5_dipper 18 = .ok (.iload_n 2, 1) := by decide +kernel
theorem dX5_dipper_19 : decode cX5_dipper 19 = .ok (.tableswitch 99 0 5 #[37, 47, 57, 64, 71, 78], 37) := by decide +kernel
theorem dX5_dipper_56 : decode cX5_dipper 56 = .ok (.aload_n 3, 1) := by decide +kernel
theorem dX5_dipper_57 : decode cX5_dipper 57 = .ok (.getfield 157, 3) := by decide +kernel
theorem dX5_dipper_60 : decode cX5_dipper 60 = .ok (.iload_n 1, 1) := by decide +kernel
theorem dX5_dipper_61 : decode cX5_dipper 61 = .ok (.iaload, 1) := by decide +kernel
theorem dX5_dipper_62 : decode cX5_dipper 62 = .ok (.bipush 10, 2) := by decide +kernel
theorem dX5_dipper_64 : decode cX5_dipper 64 = .ok (.irem, 1) := by decide +kernel
theorem dX5_dipper_65 : decode cX5_dipper 65 = .ok (.ireturn, 1) := by decide +kernel
theorem dX5_dipper_66 : decode cX5_dipper 66 = .ok (.aload_n 3, 1) := by decide +kernel
theorem dX5_dipper_67 : decode cX5_dipper 67 = .ok (.getfield 157, 3) := by decide +kernel
theorem dX5_dipper_70 : decode cX5_dipper 70 = .ok (.iload_n 1, 1) := by decide +kernel
theorem dX5_dipper_71 : decode cX5_dipper 71 = .ok (.iaload, 1) := by decide +kernel
theorem dX5_dipper_72 : decode cX5_dipper 72 = .ok (.bipush 10, 2) := by decide +kernel
theorem dX5_dipper_74 : decode cX5_dipper 74 = .ok (.idiv, 1) := by decide +kernel
theorem dX5_dipper_75 : decode cX5_dipper 75 = .ok (.ireturn, 1) := by decide +kernel
theorem dX5_dipper_76 : decode cX5_dipper 76 = .ok (.aload_n 3, 1) := by decide +kernel
theorem dX5_dipper_77 : decode cX5_dipper 77 = .ok (.getfield 160, 3) := by decide +kernel
theorem dX5_dipper_80 : decode cX5_dipper 80 = .ok (.iload_n 1, 1) := by decide +kernel
theorem dX5_dipper_81 : decode cX5_dipper 81 = .ok (.iaload, 1) := by decide +kernel
theorem dX5_dipper_82 : decode cX5_dipper 82 = .ok (.ireturn, 1) := by decide +kernel
theorem dX5_dipper_83 : decode cX5_dipper 83 = .ok (.aload_n 3, 1) := by decide +kernel
theorem dX5_dipper_84 : decode cX5_dipper 84 = .ok (.getfield 163, 3) := by decide +kernel
theorem dX5_dipper_87 : decode cX5_dipper 87 = .ok (.iload_n 1, 1) := by decide +kernel
theorem dX5_dipper_88 : decode cX5_dipper 88 = .ok (.iaload, 1) := by decide +kernel
theorem dX5_dipper_89 : decode cX5_dipper 89 = .ok (.ireturn, 1) := by decide +kernel
theorem dX5_dipper_90 : decode cX5_dipper 90 = .ok (.aload_n 3, 1) := by decide +kernel
theorem dX5_dipper_91 : decode cX5_dipper 91 = .ok (.getfield 166, 3) := by decide +kernel
theorem dX5_dipper_94 : decode cX5_dipper 94 = .ok (.iload_n 1, 1) := by decide +kernel
theorem dX5_dipper_95 : decode cX5_dipper 95 = .ok (.iaload, 1) := by decide +kernel
theorem dX5_dipper_96 : decode cX5_dipper 96 = .ok (.ireturn, 1) := by decide +kernel
theorem dX5_dipper_97 : decode cX5_dipper 97 = .ok (.aload_n 3, 1) := by decide +kernel
theorem dX5_dipper_98 : decode cX5_dipper 98 = .ok (.iload_n 1, 1) := by decide +kernel
theorem dX5_dipper_99 : decode cX5_dipper 99 = .ok (.aload_n 0, 1) := by decide +kernel
theorem dX5_dipper_100 : decode cX5_dipper 100 = .ok (.getfield 12, 3) := by decide +kernel
theorem dX5_dipper_103 : decode cX5_dipper 103 = .ok (.getfield 135, 3) := by decide +kernel
theorem dX5_dipper_106 : decode cX5_dipper 106 = .ok (.invokevirtual 169, 3) := by decide +kernel
theorem dX5_dipper_109 : decode cX5_dipper 109 = .ok (.ifCond .eq 7, 3) := by decide +kernel
theorem dX5_dipper_112 : decode cX5_dipper 112 = .ok (.iconst 1, 1) := by decide +kernel
theorem dX5_dipper_113 : decode cX5_dipper 113 = .ok (.goto 4, 3) := by decide +kernel
theorem dX5_dipper_116 : decode cX5_dipper 116 = .ok (.iconst 0, 1) := by decide +kernel
theorem dX5_dipper_117 : decode cX5_dipper 117 = .ok (.ireturn, 1) := by decide +kernel
theorem dX5_dipper_118 : decode cX5_dipper 118 = .ok (.bipush (-2), 2) := by decide +kernel
theorem dX5_dipper_120 : decode cX5_dipper 120 = .ok (.ireturn, 1) := by decide +kernel
theorem dX5_ofProbe_0 : decode cX5_ofProbe 0 = .ok (.aload_n 0, 1) := by decide +kernel
theorem dX5_ofProbe_1 : decode cX5_ofProbe 1 = .ok (.iload_n 1, 1) := by decide +kernel
theorem dX5_ofProbe_2 : decode cX5_ofProbe 2 = .ok (.invokevirtual 172, 3) := by decide +kernel
theorem dX5_ofProbe_5 : decode cX5_ofProbe 5 = .ok (.ifCond .ne 5, 3) := by decide +kernel
theorem dX5_ofProbe_8 : decode cX5_ofProbe 8 = .ok (.iconst (-1), 1) := by decide +kernel
theorem dX5_ofProbe_9 : decode cX5_ofProbe 9 = .ok (.ireturn, 1) := by decide +kernel
theorem dX5_ofProbe_10 : decode cX5_ofProbe 10 = .ok (.aload_n 0, 1) := by decide +kernel
theorem dX5_ofProbe_11 : decode cX5_ofProbe 11 = .ok (.getfield 12, 3) := by decide +kernel
theorem dX5_ofProbe_14 : decode cX5_ofProbe 14 = .ok (.getfield 126, 3) := by decide +kernel
theorem dX5_ofProbe_17 : decode cX5_ofProbe 17 = .ok (.astore_n 3, 1) := by decide +kernel
theorem dX5_ofProbe_18 : decode cX5_ofProbe 18 = .ok (.iload_n 2, 1) := by decide +kernel
theorem dX5_ofProbe_19 : decode cX5_ofProbe 19 = .ok (.tableswitch 90 0 4 #[33, 43, 53, 60, 66], 33) := by decide +kernel
theorem dX5_ofProbe_52 : decode cX5_ofProbe 52 = .ok (.aload_n 3, 1) := by decide +kernel
theorem dX5_ofProbe_53 : decode cX5_ofProbe 53 = .ok (.getfield 175, 3) := by decide +kernel
theorem dX5_ofProbe_56 : decode cX5_ofProbe 56 = .ok (.iload_n 1, 1) := by decide +kernel
theorem dX5_ofProbe_57 : decode cX5_ofProbe 57 = .ok (.iaload, 1) := by decide +kernel
theorem dX5_ofProbe_58 : decode cX5_ofProbe 58 = .ok (.bipush 10, 2) := by decide +kernel
theorem dX5_ofProbe_60 : decode cX5_ofProbe 60 = .ok (.irem, 1) := by decide +kernel
theorem dX5_ofProbe_61 : decode cX5_ofProbe 61 = .ok (.ireturn, 1) := by decide +kernel
theorem dX5_ofProbe_62 : decode cX5_ofProbe 62 = .ok (.aload_n 3, 1) := by decide +kernel
theorem dX5_ofProbe_63 : decode cX5_ofProbe 63 = .ok (.getfield 175, 3) := by decide +kernel
theorem dX5_ofProbe_66 : decode cX5_ofProbe 66 = .ok (.iload_n 1, 1) := by decide +kernel
theorem dX5_ofProbe_67 : decode cX5_ofProbe 67 = .ok (.iaload, 1) := by decide +kernel
theorem dX5_ofProbe_68 : decode cX5_ofProbe 68 = .ok (.bipush 10, 2) := by decide +kernel
theorem dX5_ofProbe_70 : decode cX5_ofProbe 70 = .ok (.idiv, 1) := by decide +kernel
theorem dX5_ofProbe_71 : decode cX5_ofProbe 71 = .ok (.ireturn, 1) := by decide +kernel
theorem dX5_ofProbe_72 : decode cX5_ofProbe 72 = .ok (.aload_n 3, 1) := by decide +kernel
theorem dX5_ofProbe_73 : decode cX5_ofProbe 73 = .ok (.getfield 176, 3) := by decide +kernel
theorem dX5_ofProbe_76 : decode cX5_ofProbe 76 = .ok (.iload_n 1, 1) := by decide +kernel
theorem dX5_ofProbe_77 : decode cX5_ofProbe 77 = .ok (.iaload, 1) := by decide +kernel
theorem dX5_ofProbe_78 : decode cX5_ofProbe 78 = .ok (.ireturn, 1) := by decide +kernel
theorem dX5_ofProbe_79 : decode cX5_ofProbe 79 = .ok (.aload_n 3, 1) := by decide +kernel
theorem dX5_ofProbe_80 : decode cX5_ofProbe 80 = .ok (.iload_n 1, 1) := by decide +kernel
theorem dX5_ofProbe_81 : decode cX5_ofProbe 81 = .ok (.invokevirtual 179, 3) := by decide +kernel
theorem dX5_ofProbe_84 : decode cX5_ofProbe 84 = .ok (.ireturn, 1) := by decide +kernel
theorem dX5_ofProbe_85 : decode cX5_ofProbe 85 = .ok (.aload_n 3, 1) := by decide +kernel
theorem dX5_ofProbe_86 : decode cX5_ofProbe 86 = .ok (.getfield 176, 3) := by decide +kernel
theorem dX5_ofProbe_89 : decode cX5_ofProbe 89 = .ok (.iload_n 1, 1) := by decide +kernel
theorem dX5_ofProbe_90 : decode cX5_ofProbe 90 = .ok (.iaload, 1) := by decide +kernel
theorem dX5_ofProbe_91 : decode cX5_ofProbe 91 = .ok (.ifCond .ne 8, 3) := by decide +kernel
theorem dX5_ofProbe_94 : decode cX5_ofProbe 94 = .ok (.bipush (-6), 2) := by decide +kernel
theorem dX5_ofProbe_96 : decode cX5_ofProbe 96 = .ok (.goto 12, 3) := by decide +kernel
theorem dX5_ofProbe_99 : decode cX5_ofProbe 99 = .ok (.aload_n 3, 1) := by decide +kernel
theorem dX5_ofProbe_100 : decode cX5_ofProbe 100 = .ok (.iload_n 1, 1) := by decide +kernel
theorem dX5_ofProbe_101 : decode cX5_ofProbe 101 = .ok (.invokevirtual 182, 3) := by decide +kernel
theorem dX5_ofProbe_104 : decode cX5_ofProbe 104 = .ok (.sipush 10000, 3) := by decide +kernel
theorem dX5_ofProbe_107 : decode cX5_ofProbe 107 = .ok (.iadd, 1) := by decide +kernel
theorem dX5_ofProbe_108 : decode cX5_ofProbe 108 = .ok (.ireturn, 1) := by decide +kernel
theorem dX5_ofProbe_109 : decode cX5_ofProbe 109 = .ok (.bipush (-2), 2) := by decide +kernel
theorem dX5_ofProbe_111 : decode cX5_ofProbe 111 = .ok (.ireturn, 1) := by decide +kernel
theorem dX5_seen_0 : decode cX5_seen 0 = .ok (.aload_n 0, 1) := by decide +kernel
theorem dX5_seen_1 : decode cX5_seen 1 = .ok (.iload_n 1, 1) := by decide +kernel
theorem dX5_seen_2 : decode cX5_seen 2 = .ok (.invokevirtual 172, 3) := by decide +kernel
theorem dX5_seen_5 : decode cX5_seen 5 = .ok (.ifCond .eq 25, 3) := by decide +kernel
theorem dX5_seen_8 : decode cX5_seen 8 = .ok (.iload_n 2, 1) := by decide +kernel
theorem dX5_seen_9 : decode cX5_seen 9 = .ok (.iconst 0, 1) := by decide +kernel
theorem dX5_seen_10 : decode cX5_seen 10 = .ok (.aload_n 0, 1) := by decide +kernel
theorem dX5_seen_11 : decode cX5_seen 11 = .ok (.getfield 12, 3) := by decide +kernel
theorem dX5_seen_14 : decode cX5_seen 14 = .ok (.getfield 126, 3) := by decide +kernel
theorem dX5_seen_17 : decode cX5_seen 17 = .ok (.getfield 176, 3) := by decide +kernel
theorem dX5_seen_20 : decode cX5_seen 20 = .ok (.iload_n 1, 1) := by decide +kernel
theorem dX5_seen_21 : decode cX5_seen 21 = .ok (.iaload, 1) := by decide +kernel
theorem dX5_seen_22 : decode cX5_seen 22 = .ok (.iconst 1, 1) := by decide +kernel
theorem dX5_seen_23 : decode cX5_seen 23 = .ok (.isub, 1) := by decide +kernel
theorem dX5_seen_24 : decode cX5_seen 24 = .ok (.invokestatic 101, 3) := by decide +kernel
theorem dX5_seen_27 : decode cX5_seen 27 = .ok (.ifCond .ne 5, 3) := by decide +kernel
theorem dX5_seen_30 : decode cX5_seen 30 = .ok (.iconst (-1), 1) := by decide +kernel
theorem dX5_seen_31 : decode cX5_seen 31 = .ok (.ireturn, 1) := by decide +kernel
theorem dX5_seen_32 : decode cX5_seen 32 = .ok (.aload_n 0, 1) := by decide +kernel
theorem dX5_seen_33 : decode cX5_seen 33 = .ok (.getfield 12, 3) := by decide +kernel
theorem dX5_seen_36 : decode cX5_seen 36 = .ok (.getfield 126, 3) := by decide +kernel
theorem dX5_seen_39 : decode cX5_seen 39 = .ok (.getfield 185, 3) := by decide +kernel
theorem dX5_seen_42 : decode cX5_seen 42 = .ok (.iload_n 1, 1) := by decide +kernel
theorem dX5_seen_43 : decode cX5_seen 43 = .ok (.aaload, 1) := by decide +kernel
theorem dX5_seen_44 : decode cX5_seen 44 = .ok (.iload_n 2, 1) := by decide +kernel
theorem dX5_seen_45 : decode cX5_seen 45 = .ok (.iaload, 1) := by decide +kernel
theorem dX5_seen_46 : decode cX5_seen 46 = .ok (.sipush 10000, 3) := by decide +kernel
theorem dX5_seen_49 : decode cX5_seen 49 = .ok (.iadd, 1) := by decide +kernel
theorem dX5_seen_50 : decode cX5_seen 50 = .ok (.ireturn, 1) := by decide +kernel
theorem dX5_count_0 : decode cX5_count 0 = .ok (.iload_n 1, 1) := by decide +kernel
theorem dX5_count_1 : decode cX5_count 1 = .ok (.tableswitch 200 0 14 #[75, 83, 91, 107, 118, 126, 141, 149, 160, 171, 171, 171, 171, 184, 192], 75) := by decide +kernel
theorem dX5_count_76 : decode cX5_count 76 = .ok (.aload_n 0, 1) := by decide +kernel
theorem dX5_count_77 : decode cX5_count 77 = .ok (.getfield 12, 3) := by decide +kernel
theorem dX5_count_80 : decode cX5_count 80 = .ok (.getfield 135, 3) := by decide +kernel
theorem dX5_count_83 : decode cX5_count 83 = .ok (.ireturn, 1) := by decide +kernel
theorem dX5_count_84 : decode cX5_count 84 = .ok (.aload_n 0, 1) := by decide +kernel
theorem dX5_count_85 : decode cX5_count 85 = .ok (.getfield 12, 3) := by decide +kernel
theorem dX5_count_88 : decode cX5_count 88 = .ok (.invokevirtual 92, 3) := by decide +kernel
theorem dX5_count_91 : decode cX5_count 91 = .ok (.ireturn, 1) := by decide +kernel
theorem dX5_count_92 : decode cX5_count 92 = .ok (.aload_n 0, 1) := by decide +kernel
theorem dX5_count_93 : decode cX5_count 93 = .ok (.getfield 12, 3) := by decide +kernel
theorem dX5_count_96 : decode cX5_count 96 = .ok (.invokevirtual 92, 3) := by decide +kernel
theorem dX5_count_99 : decode cX5_count 99 = .ok (.aload_n 0, 1) := by decide +kernel
theorem dX5_count_100 : decode cX5_count 100 = .ok (.getfield 12, 3) := by decide +kernel
theorem dX5_count_103 : decode cX5_count 103 = .ok (.invokevirtual 142, 3) := by decide +kernel
theorem dX5_count_106 : decode cX5_count 106 = .ok (.isub, 1) := by decide +kernel
theorem dX5_count_107 : decode cX5_count 107 = .ok (.ireturn, 1) := by decide +kernel
theorem dX5_count_108 : decode cX5_count 108 = .ok (.aload_n 0, 1) := by decide +kernel
theorem dX5_count_109 : decode cX5_count 109 = .ok (.getfield 12, 3) := by decide +kernel
theorem dX5_count_112 : decode cX5_count 112 = .ok (.invokevirtual 188, 3) := by decide +kernel
theorem dX5_count_115 : decode cX5_count 115 = .ok (.ldc 191, 2) := by decide +kernel
theorem dX5_count_117 : decode cX5_count 117 = .ok (.iadd, 1) := by decide +kernel
theorem dX5_count_118 : decode cX5_count 118 = .ok (.ireturn, 1) := by decide +kernel
theorem dX5_count_119 : decode cX5_count 119 = .ok (.aload_n 0, 1) := by decide +kernel
theorem dX5_count_120 : decode cX5_count 120 = .ok (.getfield 12, 3) := by decide +kernel
theorem dX5_count_123 : decode cX5_count 123 = .ok (.invokevirtual 95, 3) := by decide +kernel
theorem dX5_count_126 : decode cX5_count 126 = .ok (.ireturn, 1) := by decide +kernel
theorem dX5_count_127 : decode cX5_count 127 = .ok (.aload_n 0, 1) := by decide +kernel
theorem dX5_count_128 : decode cX5_count 128 = .ok (.getfield 12, 3) := by decide +kernel
theorem dX5_count_131 : decode cX5_count 131 = .ok (.aload_n 0, 1) := by decide +kernel
theorem dX5_count_132 : decode cX5_count 132 = .ok (.getfield 12, 3) := by decide +kernel
theorem dX5_count_135 : decode cX5_count 135 = .ok (.invokevirtual 192, 3) := by decide +kernel
theorem dX5_count_138 : decode cX5_count 138 = .ok (.invokevirtual 195, 3) := by decide +kernel
theorem dX5_count_141 : decode cX5_count 141 = .ok (.ireturn, 1) := by decide +kernel
theorem dX5_count_142 : decode cX5_count 142 = .ok (.aload_n 0, 1) := by decide +kernel
theorem dX5_count_143 : decode cX5_count 143 = .ok (.getfield 12, 3) := by decide +kernel
theorem dX5_count_146 : decode cX5_count 146 = .ok (.invokevirtual 198, 3) := by decide +kernel
theorem dX5_count_149 : decode cX5_count 149 = .ok (.ireturn, 1) := by decide +kernel
theorem dX5_count_150 : decode cX5_count 150 = .ok (.aload_n 0, 1) := by decide +kernel
theorem dX5_count_151 : decode cX5_count 151 = .ok (.getfield 12, 3) := by decide +kernel
theorem dX5_count_154 : decode cX5_count 154 = .ok (.getfield 63, 3) := by decide +kernel
theorem dX5_count_157 : decode cX5_count 157 = .ok (.getfield 105, 3) := by decide +kernel
theorem dX5_count_160 : decode cX5_count 160 = .ok (.ireturn, 1) := by decide +kernel
theorem dX5_count_161 : decode cX5_count 161 = .ok (.aload_n 0, 1) := by decide +kernel
theorem dX5_count_162 : decode cX5_count 162 = .ok (.getfield 12, 3) := by decide +kernel
theorem dX5_count_165 : decode cX5_count 165 = .ok (.getfield 126, 3) := by decide +kernel
theorem dX5_count_168 : decode cX5_count 168 = .ok (.getfield 130, 3) := by decide +kernel
theorem dX5_count_171 : decode cX5_count 171 = .ok (.ireturn, 1) := by decide +kernel
theorem dX5_count_172 : decode cX5_count 172 = .ok (.aload_n 0, 1) := by decide +kernel
theorem dX5_count_173 : decode cX5_count 173 = .ok (.getfield 12, 3) := by decide +kernel
theorem dX5_count_176 : decode cX5_count 176 = .ok (.getfield 52, 3) := by decide +kernel
theorem dX5_count_179 : decode cX5_count 179 = .ok (.iload_n 1, 1) := by decide +kernel
theorem dX5_count_180 : decode cX5_count 180 = .ok (.bipush 9, 2) := by decide +kernel
theorem dX5_count_182 : decode cX5_count 182 = .ok (.isub, 1) := by decide +kernel
theorem dX5_count_183 : decode cX5_count 183 = .ok (.iaload, 1) := by decide +kernel
theorem dX5_count_184 : decode cX5_count 184 = .ok (.ireturn, 1) := by decide +kernel
theorem dX5_count_185 : decode cX5_count 185 = .ok (.aload_n 0, 1) := by decide +kernel
theorem dX5_count_186 : decode cX5_count 186 = .ok (.getfield 37, 3) := by decide +kernel
theorem dX5_count_189 : decode cX5_count 189 = .ok (.getfield 88, 3) := by decide +kernel
theorem dX5_count_192 : decode cX5_count 192 = .ok (.ireturn, 1) := by decide +kernel
theorem dX5_count_193 : decode cX5_count 193 = .ok (.aload_n 0, 1) := by decide +kernel
theorem dX5_count_194 : decode cX5_count 194 = .ok (.getfield 22, 3) := by decide +kernel
theorem dX5_count_197 : decode cX5_count 197 = .ok (.getfield 201, 3) := by decide +kernel
theorem dX5_count_200 : decode cX5_count 200 = .ok (.ireturn, 1) := by decide +kernel
theorem dX5_count_201 : decode cX5_count 201 = .ok (.bipush (-2), 2) := by decide +kernel
theorem dX5_count_203 : decode cX5_count 203 = .ok (.ireturn, 1) := by decide +kernel
theorem dX5_loudest_0 : decode cX5_loudest 0 = .ok (.iload_n 1, 1) := by decide +kernel
theorem dX5_loudest_1 : decode cX5_loudest 1 = .ok (.iconst 0, 1) := by decide +kernel
theorem dX5_loudest_2 : decode cX5_loudest 2 = .ok (.iconst 1, 1) := by decide +kernel
theorem dX5_loudest_3 : decode cX5_loudest 3 = .ok (.invokestatic 101, 3) := by decide +kernel
theorem dX5_loudest_6 : decode cX5_loudest 6 = .ok (.ifCond .ne 6, 3) := by decide +kernel
theorem dX5_loudest_9 : decode cX5_loudest 9 = .ok (.bipush (-2), 2) := by decide +kernel
theorem dX5_loudest_11 : decode cX5_loudest 11 = .ok (.ireturn, 1) := by decide +kernel
theorem dX5_loudest_12 : decode cX5_loudest 12 = .ok (.aload_n 0, 1) := by decide +kernel
theorem dX5_loudest_13 : decode cX5_loudest 13 = .ok (.getfield 12, 3) := by decide +kernel
theorem dX5_loudest_16 : decode cX5_loudest 16 = .ok (.invokevirtual 192, 3) := by decide +kernel
theorem dX5_loudest_19 : decode cX5_loudest 19 = .ok (.istore_n 2, 1) := by decide +kernel
theorem dX5_loudest_20 : decode cX5_loudest 20 = .ok (.aload_n 0, 1) := by decide +kernel
theorem dX5_loudest_21 : decode cX5_loudest 21 = .ok (.getfield 12, 3) := by decide +kernel
theorem dX5_loudest_24 : decode cX5_loudest 24 = .ok (.iload_n 2, 1) := by decide +kernel
theorem dX5_loudest_25 : decode cX5_loudest 25 = .ok (.invokevirtual 195, 3) := by decide +kernel
theorem dX5_loudest_28 : decode cX5_loudest 28 = .ok (.ifCond .ne 6, 3) := by decide +kernel
theorem dX5_loudest_31 : decode cX5_loudest 31 = .ok (.bipush (-6), 2) := by decide +kernel
theorem dX5_loudest_33 : decode cX5_loudest 33 = .ok (.ireturn, 1) := by decide +kernel
theorem dX5_loudest_34 : decode cX5_loudest 34 = .ok (.iload_n 1, 1) := by decide +kernel
theorem dX5_loudest_35 : decode cX5_loudest 35 = .ok (.ifCond .ne 10, 3) := by decide +kernel
theorem dX5_loudest_38 : decode cX5_loudest 38 = .ok (.iload_n 2, 1) := by decide +kernel
theorem dX5_loudest_39 : decode cX5_loudest 39 = .ok (.bipush 10, 2) := by decide +kernel
theorem dX5_loudest_41 : decode cX5_loudest 41 = .ok (.irem, 1) := by decide +kernel
theorem dX5_loudest_42 : decode cX5_loudest 42 = .ok (.goto 7, 3) := by decide +kernel
theorem dX5_loudest_45 : decode cX5_loudest 45 = .ok (.iload_n 2, 1) := by decide +kernel
theorem dX5_loudest_46 : decode cX5_loudest 46 = .ok (.bipush 10, 2) := by decide +kernel
theorem dX5_loudest_48 : decode cX5_loudest 48 = .ok (.idiv, 1) := by decide +kernel
theorem dX5_loudest_49 : decode cX5_loudest 49 = .ok (.ireturn, 1) := by decide +kernel
theorem dX5_crests_0 : decode cX5_crests 0 = .ok (.iload_n 1, 1) := by decide +kernel
theorem dX5_crests_1 : decode cX5_crests 1 = .ok (.iconst 0, 1) := by decide +kernel
theorem dX5_crests_2 : decode cX5_crests 2 = .ok (.iconst 5, 1) := by decide +kernel
theorem dX5_crests_3 : decode cX5_crests 3 = .ok (.invokestatic 101, 3) := by decide +kernel
theorem dX5_crests_6 : decode cX5_crests 6 = .ok (.ifCond .ne 5, 3) := by decide +kernel
theorem dX5_crests_9 : decode cX5_crests 9 = .ok (.iconst (-1), 1) := by decide +kernel
theorem dX5_crests_10 : decode cX5_crests 10 = .ok (.ireturn, 1) := by decide +kernel
theorem dX5_crests_11 : decode cX5_crests 11 = .ok (.iconst 0, 1) := by decide +kernel
theorem dX5_crests_12 : decode cX5_crests 12 = .ok (.istore_n 2, 1) := by decide +kernel
theorem dX5_crests_13 : decode cX5_crests 13 = .ok (.iconst 0, 1) := by decide +kernel
theorem dX5_crests_14 : decode cX5_crests 14 = .ok (.istore_n 3, 1) := by decide +kernel
theorem dX5_crests_15 : decode cX5_crests 15 = .ok (.iload_n 3, 1) := by decide +kernel
theorem dX5_crests_16 : decode cX5_crests 16 = .ok (.bipush 10, 2) := by decide +kernel
theorem dX5_crests_18 : decode cX5_crests 18 = .ok (.if_icmp .ge 24, 3) := by decide +kernel
theorem dX5_crests_21 : decode cX5_crests 21 = .ok (.aload_n 0, 1) := by decide +kernel
theorem dX5_crests_22 : decode cX5_crests 22 = .ok (.getfield 12, 3) := by decide +kernel
theorem dX5_crests_25 : decode cX5_crests 25 = .ok (.iload_n 3, 1) := by decide +kernel
theorem dX5_crests_26 : decode cX5_crests 26 = .ok (.iload_n 1, 1) := by decide +kernel
theorem dX5_crests_27 : decode cX5_crests 27 = .ok (.invokevirtual 202, 3) := by decide +kernel
theorem dX5_crests_30 : decode cX5_crests 30 = .ok (.ifCond .eq 6, 3) := by decide +kernel
theorem dX5_crests_33 : decode cX5_crests 33 = .ok (.iinc 2 1, 3) := by decide +kernel
theorem dX5_crests_36 : decode cX5_crests 36 = .ok (.iinc 3 1, 3) := by decide +kernel
theorem dX5_crests_39 : decode cX5_crests 39 = .ok (.goto (-24), 3) := by decide +kernel
theorem dX5_crests_42 : decode cX5_crests 42 = .ok (.iload_n 2, 1) := by decide +kernel
theorem dX5_crests_43 : decode cX5_crests 43 = .ok (.ireturn, 1) := by decide +kernel
theorem dX5_ifPassed_0 : decode cX5_ifPassed 0 = .ok (.iload_n 1, 1) := by decide +kernel
theorem dX5_ifPassed_1 : decode cX5_ifPassed 1 = .ok (.iload_n 2, 1) := by decide +kernel
theorem dX5_ifPassed_2 : decode cX5_ifPassed 2 = .ok (.invokestatic 55, 3) := by decide +kernel
theorem dX5_ifPassed_5 : decode cX5_ifPassed 5 = .ok (.ifCond .ne 5, 3) := by decide +kernel
theorem dX5_ifPassed_8 : decode cX5_ifPassed 8 = .ok (.iconst (-1), 1) := by decide +kernel
theorem dX5_ifPassed_9 : decode cX5_ifPassed 9 = .ok (.ireturn, 1) := by decide +kernel
theorem dX5_ifPassed_10 : decode cX5_ifPassed 10 = .ok (.iload_n 3, 1) := by decide +kernel
theorem dX5_ifPassed_11 : decode cX5_ifPassed 11 = .ok (.iconst 1, 1) := by decide +kernel
theorem dX5_ifPassed_12 : decode cX5_ifPassed 12 = .ok (.bipush 60, 2) := by decide +kernel
theorem dX5_ifPassed_14 : decode cX5_ifPassed 14 = .ok (.invokestatic 101, 3) := by decide +kernel
theorem dX5_ifPassed_17 : decode cX5_ifPassed 17 = .ok (.ifCond .ne 6, 3) := by decide +kernel
theorem dX5_ifPassed_20 : decode cX5_ifPassed 20 = .ok (.bipush (-2), 2) := by decide +kernel
theorem dX5_ifPassed_22 : decode cX5_ifPassed 22 = .ok (.ireturn, 1) := by decide +kernel
theorem dX5_ifPassed_23 : decode cX5_ifPassed 23 = .ok (.aload_n 0, 1) := by decide +kernel
theorem dX5_ifPassed_24 : decode cX5_ifPassed 24 = .ok (.getfield 16, 3) := by decide +kernel
theorem dX5_ifPassed_27 : decode cX5_ifPassed 27 = .ok (.aload_n 0, 1) := by decide +kernel
theorem dX5_ifPassed_28 : decode cX5_ifPassed 28 = .ok (.getfield 12, 3) := by decide +kernel
theorem dX5_ifPassed_31 : decode cX5_ifPassed 31 = .ok (.invokevirtual 205, 3) := by decide +kernel
theorem dX5_ifPassed_34 : decode cX5_ifPassed 34 = .ok (.aload_n 0, 1) := by decide +kernel
theorem dX5_ifPassed_35 : decode cX5_ifPassed 35 = .ok (.getfield 16, 3) := by decide +kernel
theorem dX5_ifPassed_38 : decode cX5_ifPassed 38 = .ok (.iload_n 3, 1) := by decide +kernel
theorem dX5_ifPassed_39 : decode cX5_ifPassed 39 = .ok (.invokevirtual 139, 3) := by decide +kernel
theorem dX5_ifPassed_42 : decode cX5_ifPassed 42 = .ok (.aload_n 0, 1) := by decide +kernel
theorem dX5_ifPassed_43 : decode cX5_ifPassed 43 = .ok (.getfield 16, 3) := by decide +kernel
theorem dX5_ifPassed_46 : decode cX5_ifPassed 46 = .ok (.getfield 120, 3) := by decide +kernel
theorem dX5_ifPassed_49 : decode cX5_ifPassed 49 = .ok (.iload_n 1, 1) := by decide +kernel
theorem dX5_ifPassed_50 : decode cX5_ifPassed 50 = .ok (.iload_n 2, 1) := by decide +kernel
theorem dX5_ifPassed_51 : decode cX5_ifPassed 51 = .ok (.invokestatic 59, 3) := by decide +kernel
theorem dX5_ifPassed_54 : decode cX5_ifPassed 54 = .ok (.iaload, 1) := by decide +kernel
theorem dX5_ifPassed_55 : decode cX5_ifPassed 55 = .ok (.sipush 10000, 3) := by decide +kernel
theorem dX5_ifPassed_58 : decode cX5_ifPassed 58 = .ok (.iadd, 1) := by decide +kernel
theorem dX5_ifPassed_59 : decode cX5_ifPassed 59 = .ok (.ireturn, 1) := by decide +kernel
theorem dX5_comes_0 : decode cX5_comes 0 = .ok (.iload_n 1, 1) := by decide +kernel
theorem dX5_comes_1 : decode cX5_comes 1 = .ok (.iload_n 2, 1) := by decide +kernel
theorem dX5_comes_2 : decode cX5_comes 2 = .ok (.invokestatic 55, 3) := by decide +kernel
theorem dX5_comes_5 : decode cX5_comes 5 = .ok (.ifCond .ne 5, 3) := by decide +kernel
theorem dX5_comes_8 : decode cX5_comes 8 = .ok (.iconst (-1), 1) := by decide +kernel
theorem dX5_comes_9 : decode cX5_comes 9 = .ok (.ireturn, 1) := by decide +kernel
theorem dX5_comes_10 : decode cX5_comes 10 = .ok (.iload_n 1, 1) := by decide +kernel
theorem dX5_comes_11 : decode cX5_comes 11 = .ok (.iload_n 2, 1) := by decide +kernel
theorem dX5_comes_12 : decode cX5_comes 12 = .ok (.invokestatic 59, 3) := by decide +kernel
theorem dX5_comes_15 : decode cX5_comes 15 = .ok (.istore_n 3, 1) := by decide +kernel
theorem dX5_comes_16 : decode cX5_comes 16 = .ok (.aload_n 0, 1) := by decide +kernel
theorem dX5_comes_17 : decode cX5_comes 17 = .ok (.getfield 12, 3) := by decide +kernel
theorem dX5_comes_20 : decode cX5_comes 20 = .ok (.iload_n 3, 1) := by decide +kernel
theorem dX5_comes_21 : decode cX5_comes 21 = .ok (.invokevirtual 151, 3) := by decide +kernel
theorem dX5_comes_24 : decode cX5_comes 24 = .ok (.ifCond .ne 6, 3) := by decide +kernel
theorem dX5_comes_27 : decode cX5_comes 27 = .ok (.bipush (-5), 2) := by decide +kernel
theorem dX5_comes_29 : decode cX5_comes 29 = .ok (.ireturn, 1) := by decide +kernel
theorem dX5_comes_30 : decode cX5_comes 30 = .ok (.aload_n 0, 1) := by decide +kernel
theorem dX5_comes_31 : decode cX5_comes 31 = .ok (.getfield 16, 3) := by decide +kernel
theorem dX5_comes_34 : decode cX5_comes 34 = .ok (.aload_n 0, 1) := by decide +kernel
theorem dX5_comes_35 : decode cX5_comes 35 = .ok (.getfield 12, 3) := by decide +kernel
theorem dX5_comes_38 : decode cX5_comes 38 = .ok (.invokevirtual 205, 3) := by decide +kernel
theorem dX5_comes_41 : decode cX5_comes 41 = .ok (.iconst 1, 1) := by decide +kernel
theorem dX5_comes_42 : decode cX5_comes 42 = .ok (.istore 4, 2) := by decide +kernel
theorem dX5_comes_44 : decode cX5_comes 44 = .ok (.iload 4, 2) := by decide +kernel
theorem dX5_comes_46 : decode cX5_comes 46 = .ok (.bipush 80, 2) := by decide +kernel
theorem dX5_comes_48 : decode cX5_comes 48 = .ok (.if_icmp .gt 30, 3) := by decide +kernel
theorem dX5_comes_51 : decode cX5_comes 51 = .ok (.aload_n 0, 1) := by decide +kernel
theorem dX5_comes_52 : decode cX5_comes 52 = .ok (.getfield 16, 3) := by decide +kernel
theorem dX5_comes_55 : decode cX5_comes 55 = .ok (.invokevirtual 208, 3) := by decide +kernel
theorem dX5_comes_58 : decode cX5_comes 58 = .ok (.aload_n 0, 1) := by decide +kernel
theorem dX5_comes_59 : decode cX5_comes 59 = .ok (.getfield 16, 3) := by decide +kernel
theorem dX5_comes_62 : decode cX5_comes 62 = .ok (.iload_n 3, 1) := by decide +kernel
theorem dX5_comes_63 : decode cX5_comes 63 = .ok (.invokevirtual 151, 3) := by decide +kernel
theorem dX5_comes_66 : decode cX5_comes 66 = .ok (.ifCond .ne 6, 3) := by decide +kernel
theorem dX5_comes_69 : decode cX5_comes 69 = .ok (.iload 4, 2) := by decide +kernel
theorem dX5_comes_71 : decode cX5_comes 71 = .ok (.ireturn, 1) := by decide +kernel
theorem dX5_comes_72 : decode cX5_comes 72 = .ok (.iinc 4 1, 3) := by decide +kernel
theorem dX5_comes_75 : decode cX5_comes 75 = .ok (.goto (-31), 3) := by decide +kernel
theorem dX5_comes_78 : decode cX5_comes 78 = .ok (.bipush (-6), 2) := by decide +kernel
theorem dX5_comes_80 : decode cX5_comes 80 = .ok (.ireturn, 1) := by decide +kernel
theorem dX5_hush_0 : decode cX5_hush 0 = .ok (.aload_n 0, 1) := by decide +kernel
theorem dX5_hush_1 : decode cX5_hush 1 = .ok (.iload_n 1, 1) := by decide +kernel
theorem dX5_hush_2 : decode cX5_hush 2 = .ok (.invokevirtual 112, 3) := by decide +kernel
theorem dX5_hush_5 : decode cX5_hush 5 = .ok (.ifCond .eq 11, 3) := by decide +kernel
theorem dX5_hush_8 : decode cX5_hush 8 = .ok (.iload_n 2, 1) := by decide +kernel
theorem dX5_hush_9 : decode cX5_hush 9 = .ok (.iload_n 3, 1) := by decide +kernel
theorem dX5_hush_10 : decode cX5_hush 10 = .ok (.invokestatic 55, 3) := by decide +kernel
theorem dX5_hush_13 : decode cX5_hush 13 = .ok (.ifCond .ne 5, 3) := by decide +kernel
theorem dX5_hush_16 : decode cX5_hush 16 = .ok (.iconst (-1), 1) := by decide +kernel
theorem dX5_hush_17 : decode cX5_hush 17 = .ok (.ireturn, 1) := by decide +kernel
theorem dX5_hush_18 : decode cX5_hush 18 = .ok (.iload 4, 2) := by decide +kernel
theorem dX5_hush_20 : decode cX5_hush 20 = .ok (.iconst 1, 1) := by decide +kernel
theorem dX5_hush_21 : decode cX5_hush 21 = .ok (.bipush 30, 2) := by decide +kernel
theorem dX5_hush_23 : decode cX5_hush 23 = .ok (.invokestatic 101, 3) := by decide +kernel
theorem dX5_hush_26 : decode cX5_hush 26 = .ok (.ifCond .eq 13, 3) := by decide +kernel
theorem dX5_hush_29 : decode cX5_hush 29 = .ok (.iload 5, 2) := by decide +kernel
theorem dX5_hush_31 : decode cX5_hush 31 = .ok (.iconst 0, 1) := by decide +kernel
theorem dX5_hush_32 : decode cX5_hush 32 = .ok (.iconst 1, 1) := by decide +kernel
theorem dX5_hush_33 : decode cX5_hush 33 = .ok (.invokestatic 101, 3) := by decide +kernel
theorem dX5_hush_36 : decode cX5_hush 36 = .ok (.ifCond .ne 6, 3) := by decide +kernel
theorem dX5_hush_39 : decode cX5_hush 39 = .ok (.bipush (-2), 2) := by decide +kernel
theorem dX5_hush_41 : decode cX5_hush 41 = .ok (.ireturn, 1) := by decide +kernel
theorem dX5_hush_42 : decode cX5_hush 42 = .ok (.iload_n 2, 1) := by decide +kernel
theorem dX5_hush_43 : decode cX5_hush 43 = .ok (.iload_n 3, 1) := by decide +kernel
theorem dX5_hush_44 : decode cX5_hush 44 = .ok (.invokestatic 59, 3) := by decide +kernel
theorem dX5_hush_47 : decode cX5_hush 47 = .ok (.istore 6, 2) := by decide +kernel
theorem dX5_hush_49 : decode cX5_hush 49 = .ok (.iconst 0, 1) := by decide +kernel
theorem dX5_hush_50 : decode cX5_hush 50 = .ok (.istore 7, 2) := by decide +kernel
theorem dX5_hush_52 : decode cX5_hush 52 = .ok (.aload_n 0, 1) := by decide +kernel
theorem dX5_hush_53 : decode cX5_hush 53 = .ok (.iload_n 1, 1) := by decide +kernel
theorem dX5_hush_54 : decode cX5_hush 54 = .ok (.iconst 0, 1) := by decide +kernel
theorem dX5_hush_55 : decode cX5_hush 55 = .ok (.iload 6, 2) := by decide +kernel
theorem dX5_hush_57 : decode cX5_hush 57 = .ok (.iload 4, 2) := by decide +kernel
theorem dX5_hush_59 : decode cX5_hush 59 = .ok (.invokevirtual 211, 3) := by decide +kernel
theorem dX5_hush_62 : decode cX5_hush 62 = .ok (.istore 8, 2) := by decide +kernel
theorem dX5_hush_64 : decode cX5_hush 64 = .ok (.iconst 1, 1) := by decide +kernel
theorem dX5_hush_65 : decode cX5_hush 65 = .ok (.istore 9, 2) := by decide +kernel
theorem dX5_hush_67 : decode cX5_hush 67 = .ok (.iload 9, 2) := by decide +kernel
theorem dX5_hush_69 : decode cX5_hush 69 = .ok (.aload_n 0, 1) := by decide +kernel
theorem dX5_hush_70 : decode cX5_hush 70 = .ok (.getfield 12, 3) := by decide +kernel
theorem dX5_hush_73 : decode cX5_hush 73 = .ok (.getfield 63, 3) := by decide +kernel
theorem dX5_hush_76 : decode cX5_hush 76 = .ok (.getfield 160, 3) := by decide +kernel
theorem dX5_hush_79 : decode cX5_hush 79 = .ok (.iload_n 1, 1) := by decide +kernel
theorem dX5_hush_80 : decode cX5_hush 80 = .ok (.iaload, 1) := by decide +kernel
theorem dX5_hush_81 : decode cX5_hush 81 = .ok (.if_icmp .ge 37, 3) := by decide +kernel
theorem dX5_hush_84 : decode cX5_hush 84 = .ok (.aload_n 0, 1) := by decide +kernel
theorem dX5_hush_85 : decode cX5_hush 85 = .ok (.iload_n 1, 1) := by decide +kernel
theorem dX5_hush_86 : decode cX5_hush 86 = .ok (.iload 9, 2) := by decide +kernel
theorem dX5_hush_88 : decode cX5_hush 88 = .ok (.iload 6, 2) := by decide +kernel
theorem dX5_hush_90 : decode cX5_hush 90 = .ok (.iload 4, 2) := by decide +kernel
theorem dX5_hush_92 : decode cX5_hush 92 = .ok (.invokevirtual 211, 3) := by decide +kernel
theorem dX5_hush_95 : decode cX5_hush 95 = .ok (.istore 10, 2) := by decide +kernel
theorem dX5_hush_97 : decode cX5_hush 97 = .ok (.iload 10, 2) := by decide +kernel
theorem dX5_hush_99 : decode cX5_hush 99 = .ok (.iload 8, 2) := by decide +kernel
theorem dX5_hush_101 : decode cX5_hush 101 = .ok (.if_icmp .ge 11, 3) := by decide +kernel
theorem dX5_hush_104 : decode cX5_hush 104 = .ok (.iload 9, 2) := by decide +kernel
theorem dX5_hush_106 : decode cX5_hush 106 = .ok (.istore 7, 2) := by decide +kernel
theorem dX5_hush_108 : decode cX5_hush 108 = .ok (.iload 10, 2) := by decide +kernel
theorem dX5_hush_110 : decode cX5_hush 110 = .ok (.istore 8, 2) := by decide +kernel
theorem dX5_hush_112 : decode cX5_hush 112 = .ok (.iinc 9 1, 3) := by decide +kernel
theorem dX5_hush_115 : decode cX5_hush 115 = .ok (.goto (-48), 3) := by decide +kernel
theorem dX5_hush_118 : decode cX5_hush 118 = .ok (.iload 5, 2) := by decide +kernel
theorem dX5_hush_120 : decode cX5_hush 120 = .ok (.ifCond .ne 8, 3) := by decide +kernel
theorem dX5_hush_123 : decode cX5_hush 123 = .ok (.iload 7, 2) := by decide +kernel
theorem dX5_hush_125 : decode cX5_hush 125 = .ok (.goto 5, 3) := by decide +kernel
theorem dX5_hush_128 : decode cX5_hush 128 = .ok (.iload 8, 2) := by decide +kernel
theorem dX5_hush_130 : decode cX5_hush 130 = .ok (.ireturn, 1) := by decide +kernel
theorem dX5_put_0 : decode cX5_put 0 = .ok (.lload_n 1, 1) := by decide +kernel
theorem dX5_put_1 : decode cX5_put 1 = .ok (.invokestatic 214, 3) := by decide +kernel
theorem dX5_put_4 : decode cX5_put 4 = .ok (.istore_n 3, 1) := by decide +kernel
theorem dX5_put_5 : decode cX5_put 5 = .ok (.iload_n 3, 1) := by decide +kernel
theorem dX5_put_6 : decode cX5_put 6 = .ok (.ifCond .ne 6, 3) := by decide +kernel
theorem dX5_put_9 : decode cX5_put 9 = .ok (.bipush (-2), 2) := by decide +kernel
theorem dX5_put_11 : decode cX5_put 11 = .ok (.ireturn, 1) := by decide +kernel
theorem dX5_put_12 : decode cX5_put 12 = .ok (.aload_n 0, 1) := by decide +kernel
theorem dX5_put_13 : decode cX5_put 13 = .ok (.getfield 37, 3) := by decide +kernel
theorem dX5_put_16 : decode cX5_put 16 = .ok (.getfield 88, 3) := by decide +kernel
theorem dX5_put_19 : decode cX5_put 19 = .ok (.iload_n 3, 1) := by decide +kernel
theorem dX5_put_20 : decode cX5_put 20 = .ok (.iadd, 1) := by decide +kernel
theorem dX5_put_21 : decode cX5_put 21 = .ok (.bipush 72, 2) := by decide +kernel
theorem dX5_put_23 : decode cX5_put 23 = .ok (.if_icmp .le 6, 3) := by decide +kernel
theorem dX5_put_26 : decode cX5_put 26 = .ok (.bipush (-4), 2) := by decide +kernel
theorem dX5_put_28 : decode cX5_put 28 = .ok (.ireturn, 1) := by decide +kernel
theorem dX5_put_29 : decode cX5_put 29 = .ok (.aload_n 0, 1) := by decide +kernel
theorem dX5_put_30 : decode cX5_put 30 = .ok (.getfield 37, 3) := by decide +kernel
theorem dX5_put_33 : decode cX5_put 33 = .ok (.lload_n 1, 1) := by decide +kernel
theorem dX5_put_34 : decode cX5_put 34 = .ok (.iload_n 3, 1) := by decide +kernel
theorem dX5_put_35 : decode cX5_put 35 = .ok (.invokevirtual 218, 3) := by decide +kernel
theorem dX5_put_38 : decode cX5_put 38 = .ok (.aload_n 0, 1) := by decide +kernel
theorem dX5_put_39 : decode cX5_put 39 = .ok (.getfield 37, 3) := by decide +kernel
theorem dX5_put_42 : decode cX5_put 42 = .ok (.getfield 88, 3) := by decide +kernel
theorem dX5_put_45 : decode cX5_put 45 = .ok (.ireturn, 1) := by decide +kernel
end
section
theorem dX5_wipe_0 : decode cX5_wipe 0 = .ok (.aload_n 0, 1) := by decide +kernel
theorem dX5_wipe_1 : decode cX5_wipe 1 = .ok (.getfield 37, 3) := by decide +kernel
theorem dX5_wipe_4 : decode cX5_wipe 4 = .ok (.getfield 88, 3) := by decide +kernel
theorem dX5_wipe_7 : decode cX5_wipe 7 = .ok (.istore_n 1, 1) := by decide +kernel
theorem dX5_wipe_8 : decode cX5_wipe 8 = .ok (.aload_n 0, 1) := by decide +kernel
theorem dX5_wipe_9 : decode cX5_wipe 9 = .ok (.getfield 37, 3) := by decide +kernel
theorem dX5_wipe_12 : decode cX5_wipe 12 = .ok (.iconst 0, 1) := by decide +kernel
theorem dX5_wipe_13 : decode cX5_wipe 13 = .ok (.putfield 88, 3) := by decide +kernel
theorem dX5_wipe_16 : decode cX5_wipe 16 = .ok (.iload_n 1, 1) := by decide +kernel
theorem dX5_wipe_17 : decode cX5_wipe 17 = .ok (.ireturn, 1) := by decide +kernel
theorem dX5_fault_0 : decode cX5_fault 0 = .ok (.aload_n 0, 1) := by decide +kernel
theorem dX5_fault_1 : decode cX5_fault 1 = .ok (.getfield 37, 3) := by decide +kernel
theorem dX5_fault_4 : decode cX5_fault 4 = .ok (.invokevirtual 80, 3) := by decide +kernel
theorem dX5_fault_7 : decode cX5_fault 7 = .ok (.ireturn, 1) := by decide +kernel
theorem dX5_undo_0 : decode cX5_undo 0 = .ok (.aload_n 0, 1) := by decide +kernel
theorem dX5_undo_1 : decode cX5_undo 1 = .ok (.getfield 22, 3) := by decide +kernel
theorem dX5_undo_4 : decode cX5_undo 4 = .ok (.getfield 201, 3) := by decide +kernel
theorem dX5_undo_7 : decode cX5_undo 7 = .ok (.ifCond .ne 6, 3) := by decide +kernel
theorem dX5_undo_10 : decode cX5_undo 10 = .ok (.bipush (-5), 2) := by decide +kernel
theorem dX5_undo_12 : decode cX5_undo 12 = .ok (.ireturn, 1) := by decide +kernel
theorem dX5_undo_13 : decode cX5_undo 13 = .ok (.aload_n 0, 1) := by decide +kernel
theorem dX5_undo_14 : decode cX5_undo 14 = .ok (.getfield 22, 3) := by decide +kernel
theorem dX5_undo_17 : decode cX5_undo 17 = .ok (.aload_n 0, 1) := by decide +kernel
theorem dX5_undo_18 : decode cX5_undo 18 = .ok (.getfield 12, 3) := by decide +kernel
theorem dX5_undo_21 : decode cX5_undo 21 = .ok (.invokevirtual 221, 3) := by decide +kernel
theorem dX5_undo_24 : decode cX5_undo 24 = .ok (.aload_n 0, 1) := by decide +kernel
theorem dX5_undo_25 : decode cX5_undo 25 = .ok (.getfield 22, 3) := by decide +kernel
theorem dX5_undo_28 : decode cX5_undo 28 = .ok (.getfield 201, 3) := by decide +kernel
theorem dX5_undo_31 : decode cX5_undo 31 = .ok (.ireturn, 1) := by decide +kernel
theorem dX5_save_0 : decode cX5_save 0 = .ok (.iload_n 1, 1) := by decide +kernel
theorem dX5_save_1 : decode cX5_save 1 = .ok (.iconst 0, 1) := by decide +kernel
theorem dX5_save_2 : decode cX5_save 2 = .ok (.iconst 1, 1) := by decide +kernel
theorem dX5_save_3 : decode cX5_save 3 = .ok (.invokestatic 101, 3) := by decide +kernel
theorem dX5_save_6 : decode cX5_save 6 = .ok (.ifCond .ne 6, 3) := by decide +kernel
theorem dX5_save_9 : decode cX5_save 9 = .ok (.bipush (-2), 2) := by decide +kernel
theorem dX5_save_11 : decode cX5_save 11 = .ok (.ireturn, 1) := by decide +kernel
theorem dX5_save_12 : decode cX5_save 12 = .ok (.aload_n 0, 1) := by decide +kernel
theorem dX5_save_13 : decode cX5_save 13 = .ok (.getfield 26, 3) := by decide +kernel
theorem dX5_save_16 : decode cX5_save 16 = .ok (.iload_n 1, 1) := by decide +kernel
theorem dX5_save_17 : decode cX5_save 17 = .ok (.aaload, 1) := by decide +kernel
theorem dX5_save_18 : decode cX5_save 18 = .ok (.aload_n 0, 1) := by decide +kernel
theorem dX5_save_19 : decode cX5_save 19 = .ok (.getfield 12, 3) := by decide +kernel
theorem dX5_save_22 : decode cX5_save 22 = .ok (.invokevirtual 205, 3) := by decide +kernel
theorem dX5_save_25 : decode cX5_save 25 = .ok (.aload_n 0, 1) := by decide +kernel
theorem dX5_save_26 : decode cX5_save 26 = .ok (.getfield 30, 3) := by decide +kernel
theorem dX5_save_29 : decode cX5_save 29 = .ok (.iload_n 1, 1) := by decide +kernel
theorem dX5_save_30 : decode cX5_save 30 = .ok (.iconst 1, 1) := by decide +kernel
theorem dX5_save_31 : decode cX5_save 31 = .ok (.bastore, 1) := by decide +kernel
theorem dX5_save_32 : decode cX5_save 32 = .ok (.aload_n 0, 1) := by decide +kernel
theorem dX5_save_33 : decode cX5_save 33 = .ok (.getfield 12, 3) := by decide +kernel
theorem dX5_save_36 : decode cX5_save 36 = .ok (.getfield 135, 3) := by decide +kernel
theorem dX5_save_39 : decode cX5_save 39 = .ok (.ireturn, 1) := by decide +kernel
theorem dX5_restore_0 : decode cX5_restore 0 = .ok (.iload_n 1, 1) := by decide +kernel
theorem dX5_restore_1 : decode cX5_restore 1 = .ok (.iconst 0, 1) := by decide +kernel
theorem dX5_restore_2 : decode cX5_restore 2 = .ok (.iconst 1, 1) := by decide +kernel
theorem dX5_restore_3 : decode cX5_restore 3 = .ok (.invokestatic 101, 3) := by decide +kernel
theorem dX5_restore_6 : decode cX5_restore 6 = .ok (.ifCond .ne 6, 3) := by decide +kernel
theorem dX5_restore_9 : decode cX5_restore 9 = .ok (.bipush (-2), 2) := by decide +kernel
theorem dX5_restore_11 : decode cX5_restore 11 = .ok (.ireturn, 1) := by decide +kernel
theorem dX5_restore_12 : decode cX5_restore 12 = .ok (.aload_n 0, 1) := by decide +kernel
theorem dX5_restore_13 : decode cX5_restore 13 = .ok (.getfield 30, 3) := by decide +kernel
theorem dX5_restore_16 : decode cX5_restore 16 = .ok (.iload_n 1, 1) := by decide +kernel
theorem dX5_restore_17 : decode cX5_restore 17 = .ok (.baload, 1) := by decide +kernel
theorem dX5_restore_18 : decode cX5_restore 18 = .ok (.ifCond .ne 6, 3) := by decide +kernel
theorem dX5_restore_21 : decode cX5_restore 21 = .ok (.bipush (-5), 2) := by decide +kernel
theorem dX5_restore_23 : decode cX5_restore 23 = .ok (.ireturn, 1) := by decide +kernel
theorem dX5_restore_24 : decode cX5_restore 24 = .ok (.aload_n 0, 1) := by decide +kernel
theorem dX5_restore_25 : decode cX5_restore 25 = .ok (.getfield 22, 3) := by decide +kernel
theorem dX5_restore_28 : decode cX5_restore 28 = .ok (.aload_n 0, 1) := by decide +kernel
theorem dX5_restore_29 : decode cX5_restore 29 = .ok (.getfield 12, 3) := by decide +kernel
theorem dX5_restore_32 : decode cX5_restore 32 = .ok (.invokevirtual 48, 3) := by decide +kernel
theorem dX5_restore_35 : decode cX5_restore 35 = .ok (.aload_n 0, 1) := by decide +kernel
theorem dX5_restore_36 : decode cX5_restore 36 = .ok (.getfield 12, 3) := by decide +kernel
theorem dX5_restore_39 : decode cX5_restore 39 = .ok (.aload_n 0, 1) := by decide +kernel
theorem dX5_restore_40 : decode cX5_restore 40 = .ok (.getfield 26, 3) := by decide +kernel
theorem dX5_restore_43 : decode cX5_restore 43 = .ok (.iload_n 1, 1) := by decide +kernel
theorem dX5_restore_44 : decode cX5_restore 44 = .ok (.aaload, 1) := by decide +kernel
theorem dX5_restore_45 : decode cX5_restore 45 = .ok (.invokevirtual 205, 3) := by decide +kernel
theorem dX5_restore_48 : decode cX5_restore 48 = .ok (.aload_n 0, 1) := by decide +kernel
theorem dX5_restore_49 : decode cX5_restore 49 = .ok (.getfield 12, 3) := by decide +kernel
theorem dX5_restore_52 : decode cX5_restore 52 = .ok (.getfield 135, 3) := by decide +kernel
theorem dX5_restore_55 : decode cX5_restore 55 = .ok (.ireturn, 1) := by decide +kernel
theorem dX5_loudnessWith_0 : decode cX5_loudnessWith 0 = .ok (.aload_n 0, 1) := by decide +kernel
theorem dX5_loudnessWith_1 : decode cX5_loudnessWith 1 = .ok (.getfield 16, 3) := by decide +kernel
theorem dX5_loudnessWith_4 : decode cX5_loudnessWith 4 = .ok (.aload_n 0, 1) := by decide +kernel
theorem dX5_loudnessWith_5 : decode cX5_loudnessWith 5 = .ok (.getfield 12, 3) := by decide +kernel
theorem dX5_loudnessWith_8 : decode cX5_loudnessWith 8 = .ok (.invokevirtual 205, 3) := by decide +kernel
theorem dX5_loudnessWith_11 : decode cX5_loudnessWith 11 = .ok (.aload_n 0, 1) := by decide +kernel
theorem dX5_loudnessWith_12 : decode cX5_loudnessWith 12 = .ok (.getfield 16, 3) := by decide +kernel
theorem dX5_loudnessWith_15 : decode cX5_loudnessWith 15 = .ok (.getfield 63, 3) := by decide +kernel
theorem dX5_loudnessWith_18 : decode cX5_loudnessWith 18 = .ok (.getfield 166, 3) := by decide +kernel
theorem dX5_loudnessWith_21 : decode cX5_loudnessWith 21 = .ok (.iload_n 1, 1) := by decide +kernel
theorem dX5_loudnessWith_22 : decode cX5_loudnessWith 22 = .ok (.iload_n 2, 1) := by decide +kernel
theorem dX5_loudnessWith_23 : decode cX5_loudnessWith 23 = .ok (.iastore, 1) := by decide +kernel
theorem dX5_loudnessWith_24 : decode cX5_loudnessWith 24 = .ok (.aload_n 0, 1) := by decide +kernel
theorem dX5_loudnessWith_25 : decode cX5_loudnessWith 25 = .ok (.getfield 16, 3) := by decide +kernel
theorem dX5_loudnessWith_28 : decode cX5_loudnessWith 28 = .ok (.iload 4, 2) := by decide +kernel
theorem dX5_loudnessWith_30 : decode cX5_loudnessWith 30 = .ok (.invokevirtual 139, 3) := by decide +kernel
theorem dX5_loudnessWith_33 : decode cX5_loudnessWith 33 = .ok (.aload_n 0, 1) := by decide +kernel
theorem dX5_loudnessWith_34 : decode cX5_loudnessWith 34 = .ok (.getfield 16, 3) := by decide +kernel
theorem dX5_loudnessWith_37 : decode cX5_loudnessWith 37 = .ok (.iload_n 3, 1) := by decide +kernel
theorem dX5_loudnessWith_38 : decode cX5_loudnessWith 38 = .ok (.invokevirtual 195, 3) := by decide +kernel
theorem dX5_loudnessWith_41 : decode cX5_loudnessWith 41 = .ok (.ireturn, 1) := by decide +kernel
theorem dX5_isDipper_0 : decode cX5_isDipper 0 = .ok (.iload_n 1, 1) := by decide +kernel
theorem dX5_isDipper_1 : decode cX5_isDipper 1 = .ok (.iconst 0, 1) := by decide +kernel
theorem dX5_isDipper_2 : decode cX5_isDipper 2 = .ok (.aload_n 0, 1) := by decide +kernel
theorem dX5_isDipper_3 : decode cX5_isDipper 3 = .ok (.getfield 12, 3) := by decide +kernel
theorem dX5_isDipper_6 : decode cX5_isDipper 6 = .ok (.getfield 63, 3) := by decide +kernel
theorem dX5_isDipper_9 : decode cX5_isDipper 9 = .ok (.getfield 105, 3) := by decide +kernel
theorem dX5_isDipper_12 : decode cX5_isDipper 12 = .ok (.iconst 1, 1) := by decide +kernel
theorem dX5_isDipper_13 : decode cX5_isDipper 13 = .ok (.isub, 1) := by decide +kernel
theorem dX5_isDipper_14 : decode cX5_isDipper 14 = .ok (.invokestatic 101, 3) := by decide +kernel
theorem dX5_isDipper_17 : decode cX5_isDipper 17 = .ok (.ireturn, 1) := by decide +kernel
theorem dX5_isProbe_0 : decode cX5_isProbe 0 = .ok (.iload_n 1, 1) := by decide +kernel
theorem dX5_isProbe_1 : decode cX5_isProbe 1 = .ok (.iconst 0, 1) := by decide +kernel
theorem dX5_isProbe_2 : decode cX5_isProbe 2 = .ok (.aload_n 0, 1) := by decide +kernel
theorem dX5_isProbe_3 : decode cX5_isProbe 3 = .ok (.getfield 12, 3) := by decide +kernel
theorem dX5_isProbe_6 : decode cX5_isProbe 6 = .ok (.getfield 126, 3) := by decide +kernel
theorem dX5_isProbe_9 : decode cX5_isProbe 9 = .ok (.getfield 130, 3) := by decide +kernel
theorem dX5_isProbe_12 : decode cX5_isProbe 12 = .ok (.iconst 1, 1) := by decide +kernel
theorem dX5_isProbe_13 : decode cX5_isProbe 13 = .ok (.isub, 1) := by decide +kernel
theorem dX5_isProbe_14 : decode cX5_isProbe 14 = .ok (.invokestatic 101, 3) := by decide +kernel
theorem dX5_isProbe_17 : decode cX5_isProbe 17 = .ok (.ireturn, 1) := by decide +kernel
theorem dX5_isIn_0 : decode cX5_isIn 0 = .ok (.iload_n 0, 1) := by decide +kernel
theorem dX5_isIn_1 : decode cX5_isIn 1 = .ok (.iload_n 1, 1) := by decide +kernel
theorem dX5_isIn_2 : decode cX5_isIn 2 = .ok (.if_icmp .lt 12, 3) := by decide +kernel
theorem dX5_isIn_5 : decode cX5_isIn 5 = .ok (.iload_n 0, 1) := by decide +kernel
theorem dX5_isIn_6 : decode cX5_isIn 6 = .ok (.iload_n 2, 1) := by decide +kernel
theorem dX5_isIn_7 : decode cX5_isIn 7 = .ok (.if_icmp .gt 7, 3) := by decide +kernel
theorem dX5_isIn_10 : decode cX5_isIn 10 = .ok (.iconst 1, 1) := by decide +kernel
theorem dX5_isIn_11 : decode cX5_isIn 11 = .ok (.goto 4, 3) := by decide +kernel
theorem dX5_isIn_14 : decode cX5_isIn 14 = .ok (.iconst 0, 1) := by decide +kernel
theorem dX5_isIn_15 : decode cX5_isIn 15 = .ok (.ireturn, 1) := by decide +kernel
theorem dX5_isCell_0 : decode cX5_isCell 0 = .ok (.iload_n 0, 1) := by decide +kernel
theorem dX5_isCell_1 : decode cX5_isCell 1 = .ok (.iconst 0, 1) := by decide +kernel
theorem dX5_isCell_2 : decode cX5_isCell 2 = .ok (.bipush 9, 2) := by decide +kernel
theorem dX5_isCell_4 : decode cX5_isCell 4 = .ok (.invokestatic 101, 3) := by decide +kernel
theorem dX5_isCell_7 : decode cX5_isCell 7 = .ok (.ifCond .eq 16, 3) := by decide +kernel
theorem dX5_isCell_10 : decode cX5_isCell 10 = .ok (.iload_n 1, 1) := by decide +kernel
theorem dX5_isCell_11 : decode cX5_isCell 11 = .ok (.iconst 0, 1) := by decide +kernel
theorem dX5_isCell_12 : decode cX5_isCell 12 = .ok (.iconst 5, 1) := by decide +kernel
theorem dX5_isCell_13 : decode cX5_isCell 13 = .ok (.invokestatic 101, 3) := by decide +kernel
theorem dX5_isCell_16 : decode cX5_isCell 16 = .ok (.ifCond .eq 7, 3) := by decide +kernel
theorem dX5_isCell_19 : decode cX5_isCell 19 = .ok (.iconst 1, 1) := by decide +kernel
theorem dX5_isCell_20 : decode cX5_isCell 20 = .ok (.goto 4, 3) := by decide +kernel
theorem dX5_isCell_23 : decode cX5_isCell 23 = .ok (.iconst 0, 1) := by decide +kernel
theorem dX5_isCell_24 : decode cX5_isCell 24 = .ok (.ireturn, 1) := by decide +kernel
theorem dX5_placeOf_0 : decode cX5_placeOf 0 = .ok (.iload_n 1, 1) := by decide +kernel
theorem dX5_placeOf_1 : decode cX5_placeOf 1 = .ok (.bipush 10, 2) := by decide +kernel
theorem dX5_placeOf_3 : decode cX5_placeOf 3 = .ok (.imul, 1) := by decide +kernel
theorem dX5_placeOf_4 : decode cX5_placeOf 4 = .ok (.iload_n 0, 1) := by decide +kernel
theorem dX5_placeOf_5 : decode cX5_placeOf 5 = .ok (.iadd, 1) := by decide +kernel
theorem dX5_placeOf_6 : decode cX5_placeOf 6 = .ok (.ireturn, 1) := by decide +kernel
theorem dX5_bounded_0 : decode cX5_bounded 0 = .ok (.sipush (-9999), 3) := by decide +kernel
theorem dX5_bounded_3 : decode cX5_bounded 3 = .ok (.sipush 9999, 3) := by decide +kernel
theorem dX5_bounded_6 : decode cX5_bounded 6 = .ok (.iload_n 0, 1) := by decide +kernel
theorem dX5_bounded_7 : decode cX5_bounded 7 = .ok (.invokestatic 224, 3) := by decide +kernel
theorem dX5_bounded_10 : decode cX5_bounded 10 = .ok (.invokestatic 229, 3) := by decide +kernel
theorem dX5_bounded_13 : decode cX5_bounded 13 = .ok (.ireturn, 1) := by decide +kernel
theorem dX6_init_0 : decode cX6_init 0 = .ok (.aload_n 0, 1) := by decide +kernel
theorem dX6_init_1 : decode cX6_init 1 = .ok (.invokespecial 1, 3) := by decide +kernel
theorem dX6_init_4 : decode cX6_init 4 = .ok (.aload_n 0, 1) := by decide +kernel
theorem dX6_init_5 : decode cX6_init 5 = .ok (.sipush 345, 3) := by decide +kernel
theorem dX6_init_8 : decode cX6_init 8 = .ok (.newarray .int, 2) := by decide +kernel
theorem dX6_init_10 : decode cX6_init 10 = .ok (.putfield 7, 3) := by decide +kernel
theorem dX6_init_13 : decode cX6_init 13 = .ok (.aload_n 0, 1) := by decide +kernel
theorem dX6_init_14 : decode cX6_init 14 = .ok (.sipush 2070, 3) := by decide +kernel
theorem dX6_init_17 : decode cX6_init 17 = .ok (.newarray .int, 2) := by decide +kernel
theorem dX6_init_19 : decode cX6_init 19 = .ok (.putfield 13, 3) := by decide +kernel
theorem dX6_init_22 : decode cX6_init 22 = .ok (.aload_n 0, 1) := by decide +kernel
theorem dX6_init_23 : decode cX6_init 23 = .ok (.sipush 690, 3) := by decide +kernel
theorem dX6_init_26 : decode cX6_init 26 = .ok (.newarray .int, 2) := by decide +kernel
theorem dX6_init_28 : decode cX6_init 28 = .ok (.putfield 16, 3) := by decide +kernel
theorem dX6_init_31 : decode cX6_init 31 = .ok (.aload_n 0, 1) := by decide +kernel
theorem dX6_init_32 : decode cX6_init 32 = .ok (.iconst 2, 1) := by decide +kernel
theorem dX6_init_33 : decode cX6_init 33 = .ok (.newarray .boolean, 2) := by decide +kernel
theorem dX6_init_35 : decode cX6_init 35 = .ok (.putfield 19, 3) := by decide +kernel
theorem dX6_init_38 : decode cX6_init 38 = .ok (.aload_n 0, 1) := by decide +kernel
theorem dX6_init_39 : decode cX6_init 39 = .ok (.sipush 345, 3) := by decide +kernel
theorem dX6_init_42 : decode cX6_init 42 = .ok (.newarray .int, 2) := by decide +kernel
theorem dX6_init_44 : decode cX6_init 44 = .ok (.putfield 23, 3) := by decide +kernel
theorem dX6_init_47 : decode cX6_init 47 = .ok (.aload_n 0, 1) := by decide +kernel
theorem dX6_init_48 : decode cX6_init 48 = .ok (.bipush 72, 2) := by decide +kernel
theorem dX6_init_50 : decode cX6_init 50 = .ok (.newarray .char, 2) := by decide +kernel
theorem dX6_init_52 : decode cX6_init 52 = .ok (.putfield 26, 3) := by decide +kernel
theorem dX6_init_55 : decode cX6_init 55 = .ok (.aload_n 0, 1) := by decide +kernel
theorem dX6_init_56 : decode cX6_init 56 = .ok (.bipush 60, 2) := by decide +kernel
theorem dX6_init_58 : decode cX6_init 58 = .ok (.newarray .int, 2) := by decide +kernel
theorem dX6_init_60 : decode cX6_init 60 = .ok (.putfield 30, 3) := by decide +kernel
theorem dX6_init_63 : decode cX6_init 63 = .ok (.aload_n 0, 1) := by decide +kernel
theorem dX6_init_64 : decode cX6_init 64 = .ok (.getfield 7, 3) := by decide +kernel
theorem dX6_init_67 : decode cX6_init 67 = .ok (.iconst 0, 1) := by decide +kernel
theorem dX6_init_68 : decode cX6_init 68 = .ok (.bipush 10, 2) := by decide +kernel
theorem dX6_init_70 : decode cX6_init 70 = .ok (.iastore, 1) := by decide +kernel
theorem dX6_init_71 : decode cX6_init 71 = .ok (.aload_n 0, 1) := by decide +kernel
theorem dX6_init_72 : decode cX6_init 72 = .ok (.getfield 7, 3) := by decide +kernel
theorem dX6_init_75 : decode cX6_init 75 = .ok (.iconst 1, 1) := by decide +kernel
theorem dX6_init_76 : decode cX6_init 76 = .ok (.bipush 8, 2) := by decide +kernel
theorem dX6_init_78 : decode cX6_init 78 = .ok (.iastore, 1) := by decide +kernel
theorem dX6_init_79 : decode cX6_init 79 = .ok (.aload_n 0, 1) := by decide +kernel
theorem dX6_init_80 : decode cX6_init 80 = .ok (.getfield 7, 3) := by decide +kernel
theorem dX6_init_83 : decode cX6_init 83 = .ok (.iconst 2, 1) := by decide +kernel
theorem dX6_init_84 : decode cX6_init 84 = .ok (.iconst 3, 1) := by decide +kernel
theorem dX6_init_85 : decode cX6_init 85 = .ok (.iastore, 1) := by decide +kernel
theorem dX6_init_86 : decode cX6_init 86 = .ok (.aload_n 0, 1) := by decide +kernel
theorem dX6_init_87 : decode cX6_init 87 = .ok (.getfield 7, 3) := by decide +kernel
theorem dX6_init_90 : decode cX6_init 90 = .ok (.iconst 3, 1) := by decide +kernel
theorem dX6_init_91 : decode cX6_init 91 = .ok (.iconst 5, 1) := by decide +kernel
theorem dX6_init_92 : decode cX6_init 92 = .ok (.iastore, 1) := by decide +kernel
theorem dX6_init_93 : decode cX6_init 93 = .ok (.aload_n 0, 1) := by decide +kernel
theorem dX6_init_94 : decode cX6_init 94 = .ok (.invokevirtual 33, 3) := by decide +kernel
theorem dX6_init_97 : decode cX6_init 97 = .ok (.return_, 1) := by decide +kernel
theorem dX6_in_0 : decode cX6_in 0 = .ok (.iload_n 0, 1) := by decide +kernel
theorem dX6_in_1 : decode cX6_in 1 = .ok (.iload_n 1, 1) := by decide +kernel
theorem dX6_in_2 : decode cX6_in 2 = .ok (.if_icmp .lt 12, 3) := by decide +kernel
theorem dX6_in_5 : decode cX6_in 5 = .ok (.iload_n 0, 1) := by decide +kernel
theorem dX6_in_6 : decode cX6_in 6 = .ok (.iload_n 2, 1) := by decide +kernel
theorem dX6_in_7 : decode cX6_in 7 = .ok (.if_icmp .gt 7, 3) := by decide +kernel
theorem dX6_in_10 : decode cX6_in 10 = .ok (.iconst 1, 1) := by decide +kernel
theorem dX6_in_11 : decode cX6_in 11 = .ok (.goto 4, 3) := by decide +kernel
theorem dX6_in_14 : decode cX6_in 14 = .ok (.iconst 0, 1) := by decide +kernel
theorem dX6_in_15 : decode cX6_in 15 = .ok (.ireturn, 1) := by decide +kernel
theorem dX6_isCell_0 : decode cX6_isCell 0 = .ok (.iload_n 0, 1) := by decide +kernel
theorem dX6_isCell_1 : decode cX6_isCell 1 = .ok (.iconst 0, 1) := by decide +kernel
theorem dX6_isCell_2 : decode cX6_isCell 2 = .ok (.bipush 9, 2) := by decide +kernel
theorem dX6_isCell_4 : decode cX6_isCell 4 = .ok (.invokestatic 36, 3) := by decide +kernel
theorem dX6_isCell_7 : decode cX6_isCell 7 = .ok (.ifCond .eq 16, 3) := by decide +kernel
theorem dX6_isCell_10 : decode cX6_isCell 10 = .ok (.iload_n 1, 1) := by decide +kernel
theorem dX6_isCell_11 : decode cX6_isCell 11 = .ok (.iconst 0, 1) := by decide +kernel
theorem dX6_isCell_12 : decode cX6_isCell 12 = .ok (.iconst 5, 1) := by decide +kernel
theorem dX6_isCell_13 : decode cX6_isCell 13 = .ok (.invokestatic 36, 3) := by decide +kernel
theorem dX6_isCell_16 : decode cX6_isCell 16 = .ok (.ifCond .eq 7, 3) := by decide +kernel
theorem dX6_isCell_19 : decode cX6_isCell 19 = .ok (.iconst 1, 1) := by decide +kernel
theorem dX6_isCell_20 : decode cX6_isCell 20 = .ok (.goto 4, 3) := by decide +kernel
theorem dX6_isCell_23 : decode cX6_isCell 23 = .ok (.iconst 0, 1) := by decide +kernel
theorem dX6_isCell_24 : decode cX6_isCell 24 = .ok (.ireturn, 1) := by decide +kernel
theorem dX6_isWall_0 : decode cX6_isWall 0 = .ok (.aload_n 0, 1) := by decide +kernel
theorem dX6_isWall_1 : decode cX6_isWall 1 = .ok (.getfield 7, 3) := by decide +kernel
theorem dX6_isWall_4 : decode cX6_isWall 4 = .ok (.iconst 5, 1) := by decide +kernel
theorem dX6_isWall_5 : decode cX6_isWall 5 = .ok (.iload_n 1, 1) := by decide +kernel
theorem dX6_isWall_6 : decode cX6_isWall 6 = .ok (.iadd, 1) := by decide +kernel
theorem dX6_isWall_7 : decode cX6_isWall 7 = .ok (.iaload, 1) := by decide +kernel
theorem dX6_isWall_8 : decode cX6_isWall 8 = .ok (.iconst 2, 1) := by decide +kernel
theorem dX6_isWall_9 : decode cX6_isWall 9 = .ok (.if_icmp .ne 7, 3) := by decide +kernel
theorem dX6_isWall_12 : decode cX6_isWall 12 = .ok (.iconst 1, 1) := by decide +kernel
theorem dX6_isWall_13 : decode cX6_isWall 13 = .ok (.goto 4, 3) := by decide +kernel
theorem dX6_isWall_16 : decode cX6_isWall 16 = .ok (.iconst 0, 1) := by decide +kernel
theorem dX6_isWall_17 : decode cX6_isWall 17 = .ok (.ireturn, 1) := by decide +kernel
theorem dX6_isDipper_0 : decode cX6_isDipper 0 = .ok (.iload_n 1, 1) := by decide +kernel
theorem dX6_isDipper_1 : decode cX6_isDipper 1 = .ok (.ifCond .lt 19, 3) := by decide +kernel
theorem dX6_isDipper_4 : decode cX6_isDipper 4 = .ok (.iload_n 1, 1) := by decide +kernel
theorem dX6_isDipper_5 : decode cX6_isDipper 5 = .ok (.aload_n 0, 1) := by decide +kernel
theorem dX6_isDipper_6 : decode cX6_isDipper 6 = .ok (.getfield 7, 3) := by decide +kernel
theorem dX6_isDipper_9 : decode cX6_isDipper 9 = .ok (.sipush 245, 3) := by decide +kernel
theorem dX6_isDipper_12 : decode cX6_isDipper 12 = .ok (.iaload, 1) := by decide +kernel
theorem dX6_isDipper_13 : decode cX6_isDipper 13 = .ok (.if_icmp .ge 7, 3) := by decide +kernel
theorem dX6_isDipper_16 : decode cX6_isDipper 16 = .ok (.iconst 1, 1) := by decide +kernel
theorem dX6_isDipper_17 : decode cX6_isDipper 17 = .ok (.goto 4, 3) := by decide +kernel
theorem dX6_isDipper_20 : decode cX6_isDipper 20 = .ok (.iconst 0, 1) := by decide +kernel
theorem dX6_isDipper_21 : decode cX6_isDipper 21 = .ok (.ireturn, 1) := by decide +kernel
theorem dX6_isProbe_0 : decode cX6_isProbe 0 = .ok (.iload_n 1, 1) := by decide +kernel
theorem dX6_isProbe_1 : decode cX6_isProbe 1 = .ok (.ifCond .lt 19, 3) := by decide +kernel
theorem dX6_isProbe_4 : decode cX6_isProbe 4 = .ok (.iload_n 1, 1) := by decide +kernel
theorem dX6_isProbe_5 : decode cX6_isProbe 5 = .ok (.aload_n 0, 1) := by decide +kernel
theorem dX6_isProbe_6 : decode cX6_isProbe 6 = .ok (.getfield 7, 3) := by decide +kernel
theorem dX6_isProbe_9 : decode cX6_isProbe 9 = .ok (.sipush 266, 3) := by decide +kernel
theorem dX6_isProbe_12 : decode cX6_isProbe 12 = .ok (.iaload, 1) := by decide +kernel
theorem dX6_isProbe_13 : decode cX6_isProbe 13 = .ok (.if_icmp .ge 7, 3) := by decide +kernel
theorem dX6_isProbe_16 : decode cX6_isProbe 16 = .ok (.iconst 1, 1) := by decide +kernel
theorem dX6_isProbe_17 : decode cX6_isProbe 17 = .ok (.goto 4, 3) := by decide +kernel
theorem dX6_isProbe_20 : decode cX6_isProbe 20 = .ok (.iconst 0, 1) := by decide +kernel
theorem dX6_isProbe_21 : decode cX6_isProbe 21 = .ok (.ireturn, 1) := by decide +kernel
theorem dX6_ofDipper_0 : decode cX6_ofDipper 0 = .ok (.aload_n 0, 1) := by decide +kernel
theorem dX6_ofDipper_1 : decode cX6_ofDipper 1 = .ok (.getfield 7, 3) := by decide +kernel
theorem dX6_ofDipper_4 : decode cX6_ofDipper 4 = .ok (.sipush 246, 3) := by decide +kernel
theorem dX6_ofDipper_7 : decode cX6_ofDipper 7 = .ok (.iconst 4, 1) := by decide +kernel
theorem dX6_ofDipper_8 : decode cX6_ofDipper 8 = .ok (.iload_n 1, 1) := by decide +kernel
theorem dX6_ofDipper_9 : decode cX6_ofDipper 9 = .ok (.imul, 1) := by decide +kernel
theorem dX6_ofDipper_10 : decode cX6_ofDipper 10 = .ok (.iadd, 1) := by decide +kernel
theorem dX6_ofDipper_11 : decode cX6_ofDipper 11 = .ok (.iload_n 2, 1) := by decide +kernel
theorem dX6_ofDipper_12 : decode cX6_ofDipper 12 = .ok (.iadd, 1) := by decide +kernel
theorem dX6_ofDipper_13 : decode cX6_ofDipper 13 = .ok (.iaload, 1) := by decide +kernel
theorem dX6_ofDipper_14 : decode cX6_ofDipper 14 = .ok (.ireturn, 1) := by decide +kernel
theorem dX6_now_0 : decode cX6_now 0 = .ok (.aload_n 0, 1) := by decide +kernel
theorem dX6_now_1 : decode cX6_now 1 = .ok (.getfield 7, 3) := by decide +kernel
theorem dX6_now_4 : decode cX6_now 4 = .ok (.bipush 65, 2) := by decide +kernel
theorem dX6_now_6 : decode cX6_now 6 = .ok (.iload_n 1, 1) := by decide +kernel
theorem dX6_now_7 : decode cX6_now 7 = .ok (.iadd, 1) := by decide +kernel
theorem dX6_now_8 : decode cX6_now 8 = .ok (.iaload, 1) := by decide +kernel
theorem dX6_now_9 : decode cX6_now 9 = .ok (.ireturn, 1) := by decide +kernel
theorem dX6_size_0 : decode cX6_size 0 = .ok (.iload_n 0, 1) := by decide +kernel
theorem dX6_size_1 : decode cX6_size 1 = .ok (.ifCond .ge 8, 3) := by decide +kernel
theorem dX6_size_4 : decode cX6_size 4 = .ok (.iload_n 0, 1) := by decide +kernel
theorem dX6_size_5 : decode cX6_size 5 = .ok (.ineg, 1) := by decide +kernel
theorem dX6_size_6 : decode cX6_size 6 = .ok (.goto 4, 3) := by decide +kernel
theorem dX6_size_9 : decode cX6_size 9 = .ok (.iload_n 0, 1) := by decide +kernel
theorem dX6_size_10 : decode cX6_size 10 = .ok (.ireturn, 1) := by decide +kernel
theorem dX6_kept_0 : decode cX6_kept 0 = .ok (.iload_n 0, 1) := by decide +kernel
theorem dX6_kept_1 : decode cX6_kept 1 = .ok (.sipush (-9999), 3) := by decide +kernel
theorem dX6_kept_4 : decode cX6_kept 4 = .ok (.if_icmp .ge 9, 3) := by decide +kernel
theorem dX6_kept_7 : decode cX6_kept 7 = .ok (.sipush (-9999), 3) := by decide +kernel
theorem dX6_kept_10 : decode cX6_kept 10 = .ok (.goto 17, 3) := by decide +kernel
theorem dX6_kept_13 : decode cX6_kept 13 = .ok (.iload_n 0, 1) := by decide +kernel
theorem dX6_kept_14 : decode cX6_kept 14 = .ok (.sipush 9999, 3) := by decide +kernel
theorem dX6_kept_17 : decode cX6_kept 17 = .ok (.if_icmp .le 9, 3) := by decide +kernel
theorem dX6_kept_20 : decode cX6_kept 20 = .ok (.sipush 9999, 3) := by decide +kernel
theorem dX6_kept_23 : decode cX6_kept 23 = .ok (.goto 4, 3) := by decide +kernel
theorem dX6_kept_26 : decode cX6_kept 26 = .ok (.iload_n 0, 1) := by decide +kernel
theorem dX6_kept_27 : decode cX6_kept 27 = .ok (.ireturn, 1) := by decide +kernel
theorem dX6_forgetFirst_0 : decode cX6_forgetFirst 0 = .ok (.iconst 0, 1) := by decide +kernel
theorem dX6_forgetFirst_1 : decode cX6_forgetFirst 1 = .ok (.istore_n 1, 1) := by decide +kernel
theorem dX6_forgetFirst_2 : decode cX6_forgetFirst 2 = .ok (.iload_n 1, 1) := by decide +kernel
theorem dX6_forgetFirst_3 : decode cX6_forgetFirst 3 = .ok (.bipush 60, 2) := by decide +kernel
theorem dX6_forgetFirst_5 : decode cX6_forgetFirst 5 = .ok (.if_icmp .ge 21, 3) := by decide +kernel
theorem dX6_forgetFirst_8 : decode cX6_forgetFirst 8 = .ok (.aload_n 0, 1) := by decide +kernel
theorem dX6_forgetFirst_9 : decode cX6_forgetFirst 9 = .ok (.getfield 7, 3) := by decide +kernel
theorem dX6_forgetFirst_12 : decode cX6_forgetFirst 12 = .ok (.sipush 185, 3) := by decide +kernel
theorem dX6_forgetFirst_15 : decode cX6_forgetFirst 15 = .ok (.iload_n 1, 1) := by decide +kernel
theorem dX6_forgetFirst_16 : decode cX6_forgetFirst 16 = .ok (.iadd, 1) := by decide +kernel
theorem dX6_forgetFirst_17 : decode cX6_forgetFirst 17 = .ok (.bipush (-6), 2) := by decide +kernel
theorem dX6_forgetFirst_19 : decode cX6_forgetFirst 19 = .ok (.iastore, 1) := by decide +kernel
theorem dX6_forgetFirst_20 : decode cX6_forgetFirst 20 = .ok (.iinc 1 1, 3) := by decide +kernel
theorem dX6_forgetFirst_23 : decode cX6_forgetFirst 23 = .ok (.goto (-21), 3) := by decide +kernel
theorem dX6_forgetFirst_26 : decode cX6_forgetFirst 26 = .ok (.return_, 1) := by decide +kernel
theorem dX6_record_0 : decode cX6_record 0 = .ok (.aload_n 0, 1) := by decide +kernel
theorem dX6_record_1 : decode cX6_record 1 = .ok (.getfield 40, 3) := by decide +kernel
theorem dX6_record_4 : decode cX6_record 4 = .ok (.bipush 6, 2) := by decide +kernel
theorem dX6_record_6 : decode cX6_record 6 = .ok (.if_icmp .ne 44, 3) := by decide +kernel
theorem dX6_record_9 : decode cX6_record 9 = .ok (.iconst 0, 1) := by decide +kernel
theorem dX6_record_10 : decode cX6_record 10 = .ok (.istore_n 1, 1) := by decide +kernel
theorem dX6_record_11 : decode cX6_record 11 = .ok (.iload_n 1, 1) := by decide +kernel
theorem dX6_record_12 : decode cX6_record 12 = .ok (.sipush 1725, 3) := by decide +kernel
theorem dX6_record_15 : decode cX6_record 15 = .ok (.if_icmp .ge 25, 3) := by decide +kernel
theorem dX6_record_18 : decode cX6_record 18 = .ok (.aload_n 0, 1) := by decide +kernel
theorem dX6_record_19 : decode cX6_record 19 = .ok (.getfield 13, 3) := by decide +kernel
theorem dX6_record_22 : decode cX6_record 22 = .ok (.iload_n 1, 1) := by decide +kernel
theorem dX6_record_23 : decode cX6_record 23 = .ok (.aload_n 0, 1) := by decide +kernel
theorem dX6_record_24 : decode cX6_record 24 = .ok (.getfield 13, 3) := by decide +kernel
theorem dX6_record_27 : decode cX6_record 27 = .ok (.iload_n 1, 1) := by decide +kernel
theorem dX6_record_28 : decode cX6_record 28 = .ok (.sipush 345, 3) := by decide +kernel
theorem dX6_record_31 : decode cX6_record 31 = .ok (.iadd, 1) := by decide +kernel
theorem dX6_record_32 : decode cX6_record 32 = .ok (.iaload, 1) := by decide +kernel
theorem dX6_record_33 : decode cX6_record 33 = .ok (.iastore, 1) := by decide +kernel
theorem dX6_record_34 : decode cX6_record 34 = .ok (.iinc 1 1, 3) := by decide +kernel
theorem dX6_record_37 : decode cX6_record 37 = .ok (.goto (-26), 3) := by decide +kernel
theorem dX6_record_40 : decode cX6_record 40 = .ok (.aload_n 0, 1) := by decide +kernel
theorem dX6_record_41 : decode cX6_record 41 = .ok (.dup, 1) := by decide +kernel
theorem dX6_record_42 : decode cX6_record 42 = .ok (.getfield 40, 3) := by decide +kernel
theorem dX6_record_45 : decode cX6_record 45 = .ok (.iconst 1, 1) := by decide +kernel
theorem dX6_record_46 : decode cX6_record 46 = .ok (.isub, 1) := by decide +kernel
theorem dX6_record_47 : decode cX6_record 47 = .ok (.putfield 40, 3) := by decide +kernel
theorem dX6_record_50 : decode cX6_record 50 = .ok (.iconst 0, 1) := by decide +kernel
theorem dX6_record_51 : decode cX6_record 51 = .ok (.istore_n 1, 1) := by decide +kernel
theorem dX6_record_52 : decode cX6_record 52 = .ok (.iload_n 1, 1) := by decide +kernel
theorem dX6_record_53 : decode cX6_record 53 = .ok (.sipush 345, 3) := by decide +kernel
theorem dX6_record_56 : decode cX6_record 56 = .ok (.if_icmp .ge 30, 3) := by decide +kernel
theorem dX6_record_59 : decode cX6_record 59 = .ok (.aload_n 0, 1) := by decide +kernel
theorem dX6_record_60 : decode cX6_record 60 = .ok (.getfield 13, 3) := by decide +kernel
theorem dX6_record_63 : decode cX6_record 63 = .ok (.aload_n 0, 1) := by decide +kernel
theorem dX6_record_64 : decode cX6_record 64 = .ok (.getfield 40, 3) := by decide +kernel
theorem dX6_record_67 : decode cX6_record 67 = .ok (.sipush 345, 3) := by decide +kernel
theorem dX6_record_70 : decode cX6_record 70 = .ok (.imul, 1) := by decide +kernel
theorem dX6_record_71 : decode cX6_record 71 = .ok (.iload_n 1, 1) := by decide +kernel
theorem dX6_record_72 : decode cX6_record 72 = .ok (.iadd, 1) := by decide +kernel
theorem dX6_record_73 : decode cX6_record 73 = .ok (.aload_n 0, 1) := by decide +kernel
theorem dX6_record_74 : decode cX6_record 74 = .ok (.getfield 7, 3) := by decide +kernel
theorem dX6_record_77 : decode cX6_record 77 = .ok (.iload_n 1, 1) := by decide +kernel
theorem dX6_record_78 : decode cX6_record 78 = .ok (.iaload, 1) := by decide +kernel
theorem dX6_record_79 : decode cX6_record 79 = .ok (.iastore, 1) := by decide +kernel
theorem dX6_record_80 : decode cX6_record 80 = .ok (.iinc 1 1, 3) := by decide +kernel
theorem dX6_record_83 : decode cX6_record 83 = .ok (.goto (-31), 3) := by decide +kernel
theorem dX6_record_86 : decode cX6_record 86 = .ok (.aload_n 0, 1) := by decide +kernel
theorem dX6_record_87 : decode cX6_record 87 = .ok (.dup, 1) := by decide +kernel
theorem dX6_record_88 : decode cX6_record 88 = .ok (.getfield 40, 3) := by decide +kernel
theorem dX6_record_91 : decode cX6_record 91 = .ok (.iconst 1, 1) := by decide +kernel
theorem dX6_record_92 : decode cX6_record 92 = .ok (.iadd, 1) := by decide +kernel
theorem dX6_record_93 : decode cX6_record 93 = .ok (.putfield 40, 3) := by decide +kernel
theorem dX6_record_96 : decode cX6_record 96 = .ok (.return_, 1) := by decide +kernel
theorem dX6_undo_0 : decode cX6_undo 0 = .ok (.aload_n 0, 1) := by decide +kernel
theorem dX6_undo_1 : decode cX6_undo 1 = .ok (.getfield 40, 3) := by decide +kernel
theorem dX6_undo_4 : decode cX6_undo 4 = .ok (.ifCond .ne 6, 3) := by decide +kernel
theorem dX6_undo_7 : decode cX6_undo 7 = .ok (.bipush (-5), 2) := by decide +kernel
theorem dX6_undo_9 : decode cX6_undo 9 = .ok (.ireturn, 1) := by decide +kernel
theorem dX6_undo_10 : decode cX6_undo 10 = .ok (.aload_n 0, 1) := by decide +kernel
theorem dX6_undo_11 : decode cX6_undo 11 = .ok (.dup, 1) := by decide +kernel
theorem dX6_undo_12 : decode cX6_undo 12 = .ok (.getfield 40, 3) := by decide +kernel
theorem dX6_undo_15 : decode cX6_undo 15 = .ok (.iconst 1, 1) := by decide +kernel
theorem dX6_undo_16 : decode cX6_undo 16 = .ok (.isub, 1) := by decide +kernel
theorem dX6_undo_17 : decode cX6_undo 17 = .ok (.putfield 40, 3) := by decide +kernel
theorem dX6_undo_20 : decode cX6_undo 20 = .ok (.iconst 0, 1) := by decide +kernel
theorem dX6_undo_21 : decode cX6_undo 21 = .ok (.istore_n 1, 1) := by decide +kernel
theorem dX6_undo_22 : decode cX6_undo 22 = .ok (.iload_n 1, 1) := by decide +kernel
theorem dX6_undo_23 : decode cX6_undo 23 = .ok (.sipush 345, 3) := by decide +kernel
theorem dX6_undo_26 : decode cX6_undo 26 = .ok (.if_icmp .ge 30, 3) := by decide +kernel
theorem dX6_undo_29 : decode cX6_undo 29 = .ok (.aload_n 0, 1) := by decide +kernel
theorem dX6_undo_30 : decode cX6_undo 30 = .ok (.getfield 7, 3) := by decide +kernel
theorem dX6_undo_33 : decode cX6_undo 33 = .ok (.iload_n 1, 1) := by decide +kernel
theorem dX6_undo_34 : decode cX6_undo 34 = .ok (.aload_n 0, 1) := by decide +kernel
theorem dX6_undo_35 : decode cX6_undo 35 = .ok (.getfield 13, 3) := by decide +kernel
theorem dX6_undo_38 : decode cX6_undo 38 = .ok (.aload_n 0, 1) := by decide +kernel
theorem dX6_undo_39 : decode cX6_undo 39 = .ok (.getfield 40, 3) := by decide +kernel
theorem dX6_undo_42 : decode cX6_undo 42 = .ok (.sipush 345, 3) := by decide +kernel
theorem dX6_undo_45 : decode cX6_undo 45 = .ok (.imul, 1) := by decide +kernel
theorem dX6_undo_46 : decode cX6_undo 46 = .ok (.iload_n 1, 1) := by decide +kernel
theorem dX6_undo_47 : decode cX6_undo 47 = .ok (.iadd, 1) := by decide +kernel
theorem dX6_undo_48 : decode cX6_undo 48 = .ok (.iaload, 1) := by decide +kernel
theorem dX6_undo_49 : decode cX6_undo 49 = .ok (.iastore, 1) := by decide +kernel
theorem dX6_undo_50 : decode cX6_undo 50 = .ok (.iinc 1 1, 3) := by decide +kernel
theorem dX6_undo_53 : decode cX6_undo 53 = .ok (.goto (-31), 3) := by decide +kernel
theorem dX6_undo_56 : decode cX6_undo 56 = .ok (.aload_n 0, 1) := by decide +kernel
theorem dX6_undo_57 : decode cX6_undo 57 = .ok (.getfield 40, 3) := by decide +kernel
theorem dX6_undo_60 : decode cX6_undo 60 = .ok (.ireturn, 1) := by decide +kernel
theorem dX6_save_0 : decode cX6_save 0 = .ok (.iload_n 1, 1) := by decide +kernel
theorem dX6_save_1 : decode cX6_save 1 = .ok (.iconst 0, 1) := by decide +kernel
theorem dX6_save_2 : decode cX6_save 2 = .ok (.iconst 1, 1) := by decide +kernel
theorem dX6_save_3 : decode cX6_save 3 = .ok (.invokestatic 36, 3) := by decide +kernel
theorem dX6_save_6 : decode cX6_save 6 = .ok (.ifCond .ne 6, 3) := by decide +kernel
theorem dX6_save_9 : decode cX6_save 9 = .ok (.bipush (-2), 2) := by decide +kernel
theorem dX6_save_11 : decode cX6_save 11 = .ok (.ireturn, 1) := by decide +kernel
theorem dX6_save_12 : decode cX6_save 12 = .ok (.aload_n 0, 1) := by decide +kernel
theorem dX6_save_13 : decode cX6_save 13 = .ok (.getfield 19, 3) := by decide +kernel
theorem dX6_save_16 : decode cX6_save 16 = .ok (.iload_n 1, 1) := by decide +kernel
theorem dX6_save_17 : decode cX6_save 17 = .ok (.iconst 1, 1) := by decide +kernel
theorem dX6_save_18 : decode cX6_save 18 = .ok (.bastore, 1) := by decide +kernel
theorem dX6_save_19 : decode cX6_save 19 = .ok (.iconst 0, 1) := by decide +kernel
theorem dX6_save_20 : decode cX6_save 20 = .ok (.istore_n 2, 1) := by decide +kernel
theorem dX6_save_21 : decode cX6_save 21 = .ok (.iload_n 2, 1) := by decide +kernel
theorem dX6_save_22 : decode cX6_save 22 = .ok (.sipush 345, 3) := by decide +kernel
theorem dX6_save_25 : decode cX6_save 25 = .ok (.if_icmp .ge 27, 3) := by decide +kernel
theorem dX6_save_28 : decode cX6_save 28 = .ok (.aload_n 0, 1) := by decide +kernel
theorem dX6_save_29 : decode cX6_save 29 = .ok (.getfield 16, 3) := by decide +kernel
theorem dX6_save_32 : decode cX6_save 32 = .ok (.iload_n 1, 1) := by decide +kernel
theorem dX6_save_33 : decode cX6_save 33 = .ok (.sipush 345, 3) := by decide +kernel
theorem dX6_save_36 : decode cX6_save 36 = .ok (.imul, 1) := by decide +kernel
theorem dX6_save_37 : decode cX6_save 37 = .ok (.iload_n 2, 1) := by decide +kernel
theorem dX6_save_38 : decode cX6_save 38 = .ok (.iadd, 1) := by decide +kernel
theorem dX6_save_39 : decode cX6_save 39 = .ok (.aload_n 0, 1) := by decide +kernel
theorem dX6_save_40 : decode cX6_save 40 = .ok (.getfield 7, 3) := by decide +kernel
theorem dX6_save_43 : decode cX6_save 43 = .ok (.iload_n 2, 1) := by decide +kernel
theorem dX6_save_44 : decode cX6_save 44 = .ok (.iaload, 1) := by decide +kernel
theorem dX6_save_45 : decode cX6_save 45 = .ok (.iastore, 1) := by decide +kernel
theorem dX6_save_46 : decode cX6_save 46 = .ok (.iinc 2 1, 3) := by decide +kernel
theorem dX6_save_49 : decode cX6_save 49 = .ok (.goto (-28), 3) := by decide +kernel
theorem dX6_save_52 : decode cX6_save 52 = .ok (.aload_n 0, 1) := by decide +kernel
theorem dX6_save_53 : decode cX6_save 53 = .ok (.getfield 7, 3) := by decide +kernel
theorem dX6_save_56 : decode cX6_save 56 = .ok (.iconst 4, 1) := by decide +kernel
theorem dX6_save_57 : decode cX6_save 57 = .ok (.iaload, 1) := by decide +kernel
theorem dX6_save_58 : decode cX6_save 58 = .ok (.ireturn, 1) := by decide +kernel
theorem dX6_restore_0 : decode cX6_restore 0 = .ok (.iload_n 1, 1) := by decide +kernel
theorem dX6_restore_1 : decode cX6_restore 1 = .ok (.iconst 0, 1) := by decide +kernel
theorem dX6_restore_2 : decode cX6_restore 2 = .ok (.iconst 1, 1) := by decide +kernel
theorem dX6_restore_3 : decode cX6_restore 3 = .ok (.invokestatic 36, 3) := by decide +kernel
theorem dX6_restore_6 : decode cX6_restore 6 = .ok (.ifCond .ne 6, 3) := by decide +kernel
theorem dX6_restore_9 : decode cX6_restore 9 = .ok (.bipush (-2), 2) := by decide +kernel
theorem dX6_restore_11 : decode cX6_restore 11 = .ok (.ireturn, 1) := by decide +kernel
theorem dX6_restore_12 : decode cX6_restore 12 = .ok (.aload_n 0, 1) := by decide +kernel
theorem dX6_restore_13 : decode cX6_restore 13 = .ok (.getfield 19, 3) := by decide +kernel
theorem dX6_restore_16 : decode cX6_restore 16 = .ok (.iload_n 1, 1) := by decide +kernel
theorem dX6_restore_17 : decode cX6_restore 17 = .ok (.baload, 1) := by decide +kernel
theorem dX6_restore_18 : decode cX6_restore 18 = .ok (.ifCond .ne 6, 3) := by decide +kernel
theorem dX6_restore_21 : decode cX6_restore 21 = .ok (.bipush (-5), 2) := by decide +kernel
theorem dX6_restore_23 : decode cX6_restore 23 = .ok (.ireturn, 1) := by decide +kernel
theorem dX6_restore_24 : decode cX6_restore 24 = .ok (.aload_n 0, 1) := by decide +kernel
theorem dX6_restore_25 : decode cX6_restore 25 = .ok (.invokevirtual 44, 3) := by decide +kernel
theorem dX6_restore_28 : decode cX6_restore 28 = .ok (.iconst 0, 1) := by decide +kernel
theorem dX6_restore_29 : decode cX6_restore 29 = .ok (.istore_n 2, 1) := by decide +kernel
theorem dX6_restore_30 : decode cX6_restore 30 = .ok (.iload_n 2, 1) := by decide +kernel
theorem dX6_restore_31 : decode cX6_restore 31 = .ok (.sipush 345, 3) := by decide +kernel
theorem dX6_restore_34 : decode cX6_restore 34 = .ok (.if_icmp .ge 27, 3) := by decide +kernel
theorem dX6_restore_37 : decode cX6_restore 37 = .ok (.aload_n 0, 1) := by decide +kernel
theorem dX6_restore_38 : decode cX6_restore 38 = .ok (.getfield 7, 3) := by decide +kernel
theorem dX6_restore_41 : decode cX6_restore 41 = .ok (.iload_n 2, 1) := by decide +kernel
theorem dX6_restore_42 : decode cX6_restore 42 = .ok (.aload_n 0, 1) := by decide +kernel
theorem dX6_restore_43 : decode cX6_restore 43 = .ok (.getfield 16, 3) := by decide +kernel
theorem dX6_restore_46 : decode cX6_restore 46 = .ok (.iload_n 1, 1) := by decide +kernel
theorem dX6_restore_47 : decode cX6_restore 47 = .ok (.sipush 345, 3) := by decide +kernel
theorem dX6_restore_50 : decode cX6_restore 50 = .ok (.imul, 1) := by decide +kernel
theorem dX6_restore_51 : decode cX6_restore 51 = .ok (.iload_n 2, 1) := by decide +kernel
theorem dX6_restore_52 : decode cX6_restore 52 = .ok (.iadd, 1) := by decide +kernel
theorem dX6_restore_53 : decode cX6_restore 53 = .ok (.iaload, 1) := by decide +kernel
theorem dX6_restore_54 : decode cX6_restore 54 = .ok (.iastore, 1) := by decide +kernel
theorem dX6_restore_55 : decode cX6_restore 55 = .ok (.iinc 2 1, 3) := by decide +kernel
theorem dX6_restore_58 : decode cX6_restore 58 = .ok (.goto (-28), 3) := by decide +kernel
theorem dX6_restore_61 : decode cX6_restore 61 = .ok (.aload_n 0, 1) := by decide +kernel
theorem dX6_restore_62 : decode cX6_restore 62 = .ok (.getfield 7, 3) := by decide +kernel
theorem dX6_restore_65 : decode cX6_restore 65 = .ok (.iconst 4, 1) := by decide +kernel
theorem dX6_restore_66 : decode cX6_restore 66 = .ok (.iaload, 1) := by decide +kernel
theorem dX6_restore_67 : decode cX6_restore 67 = .ok (.ireturn, 1) := by decide +kernel
theorem dX6_putAside_0 : decode cX6_putAside 0 = .ok (.iconst 0, 1) := by decide +kernel
theorem dX6_putAside_1 : decode cX6_putAside 1 = .ok (.istore_n 1, 1) := by decide +kernel
theorem dX6_putAside_2 : decode cX6_putAside 2 = .ok (.iload_n 1, 1) := by decide +kernel
theorem dX6_putAside_3 : decode cX6_putAside 3 = .ok (.sipush 345, 3) := by decide +kernel
theorem dX6_putAside_6 : decode cX6_putAside 6 = .ok (.if_icmp .ge 21, 3) := by decide +kernel
theorem dX6_putAside_9 : decode cX6_putAside 9 = .ok (.aload_n 0, 1) := by decide +kernel
theorem dX6_putAside_10 : decode cX6_putAside 10 = .ok (.getfield 23, 3) := by decide +kernel
theorem dX6_putAside_13 : decode cX6_putAside 13 = .ok (.iload_n 1, 1) := by decide +kernel
theorem dX6_putAside_14 : decode cX6_putAside 14 = .ok (.aload_n 0, 1) := by decide +kernel
theorem dX6_putAside_15 : decode cX6_putAside 15 = .ok (.getfield 7, 3) := by decide +kernel
theorem dX6_putAside_18 : decode cX6_putAside 18 = .ok (.iload_n 1, 1) := by decide +kernel
theorem dX6_putAside_19 : decode cX6_putAside 19 = .ok (.iaload, 1) := by decide +kernel
theorem dX6_putAside_20 : decode cX6_putAside 20 = .ok (.iastore, 1) := by decide +kernel
theorem dX6_putAside_21 : decode cX6_putAside 21 = .ok (.iinc 1 1, 3) := by decide +kernel
theorem dX6_putAside_24 : decode cX6_putAside 24 = .ok (.goto (-22), 3) := by decide +kernel
theorem dX6_putAside_27 : decode cX6_putAside 27 = .ok (.return_, 1) := by decide +kernel
theorem dX6_bringBack_0 : decode cX6_bringBack 0 = .ok (.iconst 0, 1) := by decide +kernel
theorem dX6_bringBack_1 : decode cX6_bringBack 1 = .ok (.istore_n 1, 1) := by decide +kernel
theorem dX6_bringBack_2 : decode cX6_bringBack 2 = .ok (.iload_n 1, 1) := by decide +kernel
theorem dX6_bringBack_3 : decode cX6_bringBack 3 = .ok (.sipush 345, 3) := by decide +kernel
theorem dX6_bringBack_6 : decode cX6_bringBack 6 = .ok (.if_icmp .ge 21, 3) := by decide +kernel
theorem dX6_bringBack_9 : decode cX6_bringBack 9 = .ok (.aload_n 0, 1) := by decide +kernel
theorem dX6_bringBack_10 : decode cX6_bringBack 10 = .ok (.getfield 7, 3) := by decide +kernel
theorem dX6_bringBack_13 : decode cX6_bringBack 13 = .ok (.iload_n 1, 1) := by decide +kernel
theorem dX6_bringBack_14 : decode cX6_bringBack 14 = .ok (.aload_n 0, 1) := by decide +kernel
theorem dX6_bringBack_15 : decode cX6_bringBack 15 = .ok (.getfield 23, 3) := by decide +kernel
theorem dX6_bringBack_18 : decode cX6_bringBack 18 = .ok (.iload_n 1, 1) := by decide +kernel
theorem dX6_bringBack_19 : decode cX6_bringBack 19 = .ok (.iaload, 1) := by decide +kernel
theorem dX6_bringBack_20 : decode cX6_bringBack 20 = .ok (.iastore, 1) := by decide +kernel
theorem dX6_bringBack_21 : decode cX6_bringBack 21 = .ok (.iinc 1 1, 3) := by decide +kernel
theorem dX6_bringBack_24 : decode cX6_bringBack 24 = .ok (.goto (-22), 3) := by decide +kernel
theorem dX6_bringBack_27 : decode cX6_bringBack 27 = .ok (.return_, 1) := by decide +kernel
theorem dX6_leastOf_0 : decode cX6_leastOf 0 = .ok (.iload_n 0, 1) := by decide +kernel
theorem dX6_leastOf_1 : decode cX6_leastOf 1 = .ok (.iconst 1, 1) := by decide +kernel
theorem dX6_leastOf_2 : decode cX6_leastOf 2 = .ok (.if_icmp .eq 8, 3) := by decide +kernel
theorem dX6_leastOf_5 : decode cX6_leastOf 5 = .ok (.iload_n 0, 1) := by decide +kernel
theorem dX6_leastOf_6 : decode cX6_leastOf 6 = .ok (.iconst 2, 1) := by decide +kernel
theorem dX6_leastOf_7 : decode cX6_leastOf 7 = .ok (.if_icmp .ne 7, 3) := by decide +kernel
theorem dX6_leastOf_10 : decode cX6_leastOf 10 = .ok (.iconst 1, 1) := by decide +kernel
theorem dX6_leastOf_11 : decode cX6_leastOf 11 = .ok (.goto 4, 3) := by decide +kernel
theorem dX6_leastOf_14 : decode cX6_leastOf 14 = .ok (.iconst 0, 1) := by decide +kernel
theorem dX6_leastOf_15 : decode cX6_leastOf 15 = .ok (.ireturn, 1) := by decide +kernel
theorem dX6_mostOf_0 : decode cX6_mostOf 0 = .ok (.iload_n 0, 1) := by decide +kernel
theorem dX6_mostOf_1 : decode cX6_mostOf 1 = .ok (.iconst 1, 1) := by decide +kernel
theorem dX6_mostOf_2 : decode cX6_mostOf 2 = .ok (.if_icmp .eq 8, 3) := by decide +kernel
theorem dX6_mostOf_5 : decode cX6_mostOf 5 = .ok (.iload_n 0, 1) := by decide +kernel
theorem dX6_mostOf_6 : decode cX6_mostOf 6 = .ok (.iconst 2, 1) := by decide +kernel
theorem dX6_mostOf_7 : decode cX6_mostOf 7 = .ok (.if_icmp .ne 8, 3) := by decide +kernel
theorem dX6_mostOf_10 : decode cX6_mostOf 10 = .ok (.bipush 8, 2) := by decide +kernel
theorem dX6_mostOf_12 : decode cX6_mostOf 12 = .ok (.goto 6, 3) := by decide +kernel
theorem dX6_mostOf_15 : decode cX6_mostOf 15 = .ok (.sipush 500, 3) := by decide +kernel
theorem dX6_mostOf_18 : decode cX6_mostOf 18 = .ok (.ireturn, 1) := by decide +kernel
theorem dX6_set_0 : decode cX6_set 0 = .ok (.iload_n 1, 1) := by decide +kernel
theorem dX6_set_1 : decode cX6_set 1 = .ok (.iconst 0, 1) := by decide +kernel
theorem dX6_set_2 : decode cX6_set 2 = .ok (.iconst 3, 1) := by decide +kernel
theorem dX6_set_3 : decode cX6_set 3 = .ok (.invokestatic 36, 3) := by decide +kernel
theorem dX6_set_6 : decode cX6_set 6 = .ok (.ifCond .eq 18, 3) := by decide +kernel
theorem dX6_set_9 : decode cX6_set 9 = .ok (.iload_n 2, 1) := by decide +kernel
theorem dX6_set_10 : decode cX6_set 10 = .ok (.iload_n 1, 1) := by decide +kernel
theorem dX6_set_11 : decode cX6_set 11 = .ok (.invokestatic 47, 3) := by decide +kernel
theorem dX6_set_14 : decode cX6_set 14 = .ok (.iload_n 1, 1) := by decide +kernel
theorem dX6_set_15 : decode cX6_set 15 = .ok (.invokestatic 51, 3) := by decide +kernel
theorem dX6_set_18 : decode cX6_set 18 = .ok (.invokestatic 36, 3) := by decide +kernel
theorem dX6_set_21 : decode cX6_set 21 = .ok (.ifCond .ne 6, 3) := by decide +kernel
theorem dX6_set_24 : decode cX6_set 24 = .ok (.bipush (-2), 2) := by decide +kernel
theorem dX6_set_26 : decode cX6_set 26 = .ok (.ireturn, 1) := by decide +kernel
theorem dX6_set_27 : decode cX6_set 27 = .ok (.aload_n 0, 1) := by decide +kernel
theorem dX6_set_28 : decode cX6_set 28 = .ok (.invokevirtual 44, 3) := by decide +kernel
theorem dX6_set_31 : decode cX6_set 31 = .ok (.aload_n 0, 1) := by decide +kernel
theorem dX6_set_32 : decode cX6_set 32 = .ok (.getfield 7, 3) := by decide +kernel
theorem dX6_set_35 : decode cX6_set 35 = .ok (.iload_n 1, 1) := by decide +kernel
theorem dX6_set_36 : decode cX6_set 36 = .ok (.iaload, 1) := by decide +kernel
theorem dX6_set_37 : decode cX6_set 37 = .ok (.istore_n 3, 1) := by decide +kernel
theorem dX6_set_38 : decode cX6_set 38 = .ok (.aload_n 0, 1) := by decide +kernel
theorem dX6_set_39 : decode cX6_set 39 = .ok (.getfield 7, 3) := by decide +kernel
theorem dX6_set_42 : decode cX6_set 42 = .ok (.iload_n 1, 1) := by decide +kernel
theorem dX6_set_43 : decode cX6_set 43 = .ok (.iload_n 2, 1) := by decide +kernel
theorem dX6_set_44 : decode cX6_set 44 = .ok (.iastore, 1) := by decide +kernel
theorem dX6_set_45 : decode cX6_set 45 = .ok (.iload_n 3, 1) := by decide +kernel
theorem dX6_set_46 : decode cX6_set 46 = .ok (.ireturn, 1) := by decide +kernel
theorem dX6_dipperIn_0 : decode cX6_dipperIn 0 = .ok (.bipush (-6), 2) := by decide +kernel
theorem dX6_dipperIn_2 : decode cX6_dipperIn 2 = .ok (.istore_n 2, 1) := by decide +kernel
theorem dX6_dipperIn_3 : decode cX6_dipperIn 3 = .ok (.iconst 0, 1) := by decide +kernel
theorem dX6_dipperIn_4 : decode cX6_dipperIn 4 = .ok (.istore_n 3, 1) := by decide +kernel
theorem dX6_dipperIn_5 : decode cX6_dipperIn 5 = .ok (.iload_n 3, 1) := by decide +kernel
theorem dX6_dipperIn_6 : decode cX6_dipperIn 6 = .ok (.aload_n 0, 1) := by decide +kernel
theorem dX6_dipperIn_7 : decode cX6_dipperIn 7 = .ok (.getfield 7, 3) := by decide +kernel
theorem dX6_dipperIn_10 : decode cX6_dipperIn 10 = .ok (.sipush 245, 3) := by decide +kernel
theorem dX6_dipperIn_13 : decode cX6_dipperIn 13 = .ok (.iaload, 1) := by decide +kernel
theorem dX6_dipperIn_14 : decode cX6_dipperIn 14 = .ok (.if_icmp .ge 25, 3) := by decide +kernel
theorem dX6_dipperIn_17 : decode cX6_dipperIn 17 = .ok (.aload_n 0, 1) := by decide +kernel
theorem dX6_dipperIn_18 : decode cX6_dipperIn 18 = .ok (.iload_n 3, 1) := by decide +kernel
theorem dX6_dipperIn_19 : decode cX6_dipperIn 19 = .ok (.iconst 0, 1) := by decide +kernel
theorem dX6_dipperIn_20 : decode cX6_dipperIn 20 = .ok (.invokevirtual 54, 3) := by decide +kernel
theorem dX6_dipperIn_23 : decode cX6_dipperIn 23 = .ok (.iload_n 1, 1) := by decide +kernel
theorem dX6_dipperIn_24 : decode cX6_dipperIn 24 = .ok (.if_icmp .ne 7, 3) := by decide +kernel
theorem dX6_dipperIn_27 : decode cX6_dipperIn 27 = .ok (.iload_n 3, 1) := by decide +kernel
theorem dX6_dipperIn_28 : decode cX6_dipperIn 28 = .ok (.goto 4, 3) := by decide +kernel
theorem dX6_dipperIn_31 : decode cX6_dipperIn 31 = .ok (.iload_n 2, 1) := by decide +kernel
theorem dX6_dipperIn_32 : decode cX6_dipperIn 32 = .ok (.istore_n 2, 1) := by decide +kernel
theorem dX6_dipperIn_33 : decode cX6_dipperIn 33 = .ok (.iinc 3 1, 3) := by decide +kernel
theorem dX6_dipperIn_36 : decode cX6_dipperIn 36 = .ok (.goto (-31), 3) := by decide +kernel
theorem dX6_dipperIn_39 : decode cX6_dipperIn 39 = .ok (.iload_n 2, 1) := by decide +kernel
theorem dX6_dipperIn_40 : decode cX6_dipperIn 40 = .ok (.ireturn, 1) := by decide +kernel
theorem dX6_floor_0 : decode cX6_floor 0 = .ok (.iload_n 1, 1) := by decide +kernel
theorem dX6_floor_1 : decode cX6_floor 1 = .ok (.iload_n 2, 1) := by decide +kernel
theorem dX6_floor_2 : decode cX6_floor 2 = .ok (.invokestatic 58, 3) := by decide +kernel
theorem dX6_floor_5 : decode cX6_floor 5 = .ok (.ifCond .ne 5, 3) := by decide +kernel
theorem dX6_floor_8 : decode cX6_floor 8 = .ok (.iconst (-1), 1) := by decide +kernel
theorem dX6_floor_9 : decode cX6_floor 9 = .ok (.ireturn, 1) := by decide +kernel
theorem dX6_floor_10 : decode cX6_floor 10 = .ok (.iload_n 3, 1) := by decide +kernel
theorem dX6_floor_11 : decode cX6_floor 11 = .ok (.iconst 0, 1) := by decide +kernel
theorem dX6_floor_12 : decode cX6_floor 12 = .ok (.iconst 3, 1) := by decide +kernel
theorem dX6_floor_13 : decode cX6_floor 13 = .ok (.invokestatic 36, 3) := by decide +kernel
theorem dX6_floor_16 : decode cX6_floor 16 = .ok (.ifCond .ne 6, 3) := by decide +kernel
theorem dX6_floor_19 : decode cX6_floor 19 = .ok (.bipush (-2), 2) := by decide +kernel
theorem dX6_floor_21 : decode cX6_floor 21 = .ok (.ireturn, 1) := by decide +kernel
theorem dX6_floor_22 : decode cX6_floor 22 = .ok (.bipush 10, 2) := by decide +kernel
theorem dX6_floor_24 : decode cX6_floor 24 = .ok (.iload_n 2, 1) := by decide +kernel
theorem dX6_floor_25 : decode cX6_floor 25 = .ok (.imul, 1) := by decide +kernel
theorem dX6_floor_26 : decode cX6_floor 26 = .ok (.iload_n 1, 1) := by decide +kernel
theorem dX6_floor_27 : decode cX6_floor 27 = .ok (.iadd, 1) := by decide +kernel
theorem dX6_floor_28 : decode cX6_floor 28 = .ok (.istore 4, 2) := by decide +kernel
theorem dX6_floor_30 : decode cX6_floor 30 = .ok (.iload_n 3, 1) := by decide +kernel
theorem dX6_floor_31 : decode cX6_floor 31 = .ok (.iconst 2, 1) := by decide +kernel
theorem dX6_floor_32 : decode cX6_floor 32 = .ok (.if_icmp .ne 17, 3) := by decide +kernel
theorem dX6_floor_35 : decode cX6_floor 35 = .ok (.aload_n 0, 1) := by decide +kernel
theorem dX6_floor_36 : decode cX6_floor 36 = .ok (.iload 4, 2) := by decide +kernel
theorem dX6_floor_38 : decode cX6_floor 38 = .ok (.invokevirtual 62, 3) := by decide +kernel
theorem dX6_floor_41 : decode cX6_floor 41 = .ok (.bipush (-6), 2) := by decide +kernel
theorem dX6_floor_43 : decode cX6_floor 43 = .ok (.if_icmp .eq 6, 3) := by decide +kernel
theorem dX6_floor_46 : decode cX6_floor 46 = .ok (.bipush (-5), 2) := by decide +kernel
theorem dX6_floor_48 : decode cX6_floor 48 = .ok (.ireturn, 1) := by decide +kernel
theorem dX6_floor_49 : decode cX6_floor 49 = .ok (.aload_n 0, 1) := by decide +kernel
theorem dX6_floor_50 : decode cX6_floor 50 = .ok (.invokevirtual 44, 3) := by decide +kernel
theorem dX6_floor_53 : decode cX6_floor 53 = .ok (.aload_n 0, 1) := by decide +kernel
theorem dX6_floor_54 : decode cX6_floor 54 = .ok (.getfield 7, 3) := by decide +kernel
theorem dX6_floor_57 : decode cX6_floor 57 = .ok (.iconst 5, 1) := by decide +kernel
theorem dX6_floor_58 : decode cX6_floor 58 = .ok (.iload 4, 2) := by decide +kernel
theorem dX6_floor_60 : decode cX6_floor 60 = .ok (.iadd, 1) := by decide +kernel
theorem dX6_floor_61 : decode cX6_floor 61 = .ok (.iaload, 1) := by decide +kernel
theorem dX6_floor_62 : decode cX6_floor 62 = .ok (.istore 5, 2) := by decide +kernel
theorem dX6_floor_64 : decode cX6_floor 64 = .ok (.aload_n 0, 1) := by decide +kernel
theorem dX6_floor_65 : decode cX6_floor 65 = .ok (.getfield 7, 3) := by decide +kernel
theorem dX6_floor_68 : decode cX6_floor 68 = .ok (.iconst 5, 1) := by decide +kernel
theorem dX6_floor_69 : decode cX6_floor 69 = .ok (.iload 4, 2) := by decide +kernel
theorem dX6_floor_71 : decode cX6_floor 71 = .ok (.iadd, 1) := by decide +kernel
theorem dX6_floor_72 : decode cX6_floor 72 = .ok (.iload_n 3, 1) := by decide +kernel
theorem dX6_floor_73 : decode cX6_floor 73 = .ok (.iastore, 1) := by decide +kernel
theorem dX6_floor_74 : decode cX6_floor 74 = .ok (.iload_n 3, 1) := by decide +kernel
theorem dX6_floor_75 : decode cX6_floor 75 = .ok (.iconst 2, 1) := by decide +kernel
theorem dX6_floor_76 : decode cX6_floor 76 = .ok (.if_icmp .ne 25, 3) := by decide +kernel
theorem dX6_floor_79 : decode cX6_floor 79 = .ok (.aload_n 0, 1) := by decide +kernel
theorem dX6_floor_80 : decode cX6_floor 80 = .ok (.getfield 7, 3) := by decide +kernel
theorem dX6_floor_83 : decode cX6_floor 83 = .ok (.bipush 65, 2) := by decide +kernel
theorem dX6_floor_85 : decode cX6_floor 85 = .ok (.iload 4, 2) := by decide +kernel
theorem dX6_floor_87 : decode cX6_floor 87 = .ok (.iadd, 1) := by decide +kernel
theorem dX6_floor_88 : decode cX6_floor 88 = .ok (.iconst 0, 1) := by decide +kernel
theorem dX6_floor_89 : decode cX6_floor 89 = .ok (.iastore, 1) := by decide +kernel
theorem dX6_floor_90 : decode cX6_floor 90 = .ok (.aload_n 0, 1) := by decide +kernel
theorem dX6_floor_91 : decode cX6_floor 91 = .ok (.getfield 7, 3) := by decide +kernel
theorem dX6_floor_94 : decode cX6_floor 94 = .ok (.bipush 125, 2) := by decide +kernel
theorem dX6_floor_96 : decode cX6_floor 96 = .ok (.iload 4, 2) := by decide +kernel
theorem dX6_floor_98 : decode cX6_floor 98 = .ok (.iadd, 1) := by decide +kernel
theorem dX6_floor_99 : decode cX6_floor 99 = .ok (.iconst 0, 1) := by decide +kernel
theorem dX6_floor_100 : decode cX6_floor 100 = .ok (.iastore, 1) := by decide +kernel
theorem dX6_floor_101 : decode cX6_floor 101 = .ok (.iload 5, 2) := by decide +kernel
theorem dX6_floor_103 : decode cX6_floor 103 = .ok (.ireturn, 1) := by decide +kernel
theorem dX6_water_0 : decode cX6_water 0 = .ok (.iconst 0, 1) := by decide +kernel
theorem dX6_water_1 : decode cX6_water 1 = .ok (.istore_n 1, 1) := by decide +kernel
theorem dX6_water_2 : decode cX6_water 2 = .ok (.iconst 0, 1) := by decide +kernel
theorem dX6_water_3 : decode cX6_water 3 = .ok (.istore_n 2, 1) := by decide +kernel
theorem dX6_water_4 : decode cX6_water 4 = .ok (.iload_n 2, 1) := by decide +kernel
theorem dX6_water_5 : decode cX6_water 5 = .ok (.bipush 60, 2) := by decide +kernel
theorem dX6_water_7 : decode cX6_water 7 = .ok (.if_icmp .ge 25, 3) := by decide +kernel
theorem dX6_water_10 : decode cX6_water 10 = .ok (.iload_n 1, 1) := by decide +kernel
theorem dX6_water_11 : decode cX6_water 11 = .ok (.aload_n 0, 1) := by decide +kernel
theorem dX6_water_12 : decode cX6_water 12 = .ok (.iload_n 2, 1) := by decide +kernel
theorem dX6_water_13 : decode cX6_water 13 = .ok (.invokevirtual 65, 3) := by decide +kernel
theorem dX6_water_16 : decode cX6_water 16 = .ok (.ifCond .eq 7, 3) := by decide +kernel
theorem dX6_water_19 : decode cX6_water 19 = .ok (.iconst 0, 1) := by decide +kernel
theorem dX6_water_20 : decode cX6_water 20 = .ok (.goto 4, 3) := by decide +kernel
theorem dX6_water_23 : decode cX6_water 23 = .ok (.iconst 1, 1) := by decide +kernel
theorem dX6_water_24 : decode cX6_water 24 = .ok (.iadd, 1) := by decide +kernel
theorem dX6_water_25 : decode cX6_water 25 = .ok (.istore_n 1, 1) := by decide +kernel
theorem dX6_water_26 : decode cX6_water 26 = .ok (.iinc 2 1, 3) := by decide +kernel
theorem dX6_water_29 : decode cX6_water 29 = .ok (.goto (-25), 3) := by decide +kernel
theorem dX6_water_32 : decode cX6_water 32 = .ok (.iload_n 1, 1) := by decide +kernel
theorem dX6_water_33 : decode cX6_water 33 = .ok (.ireturn, 1) := by decide +kernel
theorem dX6_calm_0 : decode cX6_calm 0 = .ok (.iconst 0, 1) := by decide +kernel
theorem dX6_calm_1 : decode cX6_calm 1 = .ok (.istore_n 1, 1) := by decide +kernel
theorem dX6_calm_2 : decode cX6_calm 2 = .ok (.iload_n 1, 1) := by decide +kernel
theorem dX6_calm_3 : decode cX6_calm 3 = .ok (.bipush 60, 2) := by decide +kernel
theorem dX6_calm_5 : decode cX6_calm 5 = .ok (.if_icmp .ge 29, 3) := by decide +kernel
theorem dX6_calm_8 : decode cX6_calm 8 = .ok (.aload_n 0, 1) := by decide +kernel
theorem dX6_calm_9 : decode cX6_calm 9 = .ok (.getfield 7, 3) := by decide +kernel
theorem dX6_calm_12 : decode cX6_calm 12 = .ok (.bipush 65, 2) := by decide +kernel
theorem dX6_calm_14 : decode cX6_calm 14 = .ok (.iload_n 1, 1) := by decide +kernel
theorem dX6_calm_15 : decode cX6_calm 15 = .ok (.iadd, 1) := by decide +kernel
theorem dX6_calm_16 : decode cX6_calm 16 = .ok (.iconst 0, 1) := by decide +kernel
theorem dX6_calm_17 : decode cX6_calm 17 = .ok (.iastore, 1) := by decide +kernel
theorem dX6_calm_18 : decode cX6_calm 18 = .ok (.aload_n 0, 1) := by decide +kernel
theorem dX6_calm_19 : decode cX6_calm 19 = .ok (.getfield 7, 3) := by decide +kernel
theorem dX6_calm_22 : decode cX6_calm 22 = .ok (.bipush 125, 2) := by decide +kernel
theorem dX6_calm_24 : decode cX6_calm 24 = .ok (.iload_n 1, 1) := by decide +kernel
theorem dX6_calm_25 : decode cX6_calm 25 = .ok (.iadd, 1) := by decide +kernel
theorem dX6_calm_26 : decode cX6_calm 26 = .ok (.iconst 0, 1) := by decide +kernel
theorem dX6_calm_27 : decode cX6_calm 27 = .ok (.iastore, 1) := by decide +kernel
theorem dX6_calm_28 : decode cX6_calm 28 = .ok (.iinc 1 1, 3) := by decide +kernel
theorem dX6_calm_31 : decode cX6_calm 31 = .ok (.goto (-29), 3) := by decide +kernel
theorem dX6_calm_34 : decode cX6_calm 34 = .ok (.aload_n 0, 1) := by decide +kernel
theorem dX6_calm_35 : decode cX6_calm 35 = .ok (.getfield 7, 3) := by decide +kernel
end
section
theorem dX6_calm_38 : decode cX6_calm 38 = .ok (.iconst 4, 1) := by decide +kernel
theorem dX6_calm_39 : decode cX6_calm 39 = .ok (.iconst 0, 1) := by decide +kernel
theorem dX6_calm_40 : decode cX6_calm 40 = .ok (.iastore, 1) := by decide +kernel
theorem dX6_calm_41 : decode cX6_calm 41 = .ok (.aload_n 0, 1) := by decide +kernel
theorem dX6_calm_42 : decode cX6_calm 42 = .ok (.invokevirtual 33, 3) := by decide +kernel
theorem dX6_calm_45 : decode cX6_calm 45 = .ok (.return_, 1) := by decide +kernel
theorem dX6_read_0 : decode cX6_read 0 = .ok (.aload_n 0, 1) := by decide +kernel
theorem dX6_read_1 : decode cX6_read 1 = .ok (.invokevirtual 69, 3) := by decide +kernel
theorem dX6_read_4 : decode cX6_read 4 = .ok (.bipush (-6), 2) := by decide +kernel
theorem dX6_read_6 : decode cX6_read 6 = .ok (.if_icmp .eq 6, 3) := by decide +kernel
theorem dX6_read_9 : decode cX6_read 9 = .ok (.bipush (-3), 2) := by decide +kernel
theorem dX6_read_11 : decode cX6_read 11 = .ok (.ireturn, 1) := by decide +kernel
theorem dX6_read_12 : decode cX6_read 12 = .ok (.aload_n 0, 1) := by decide +kernel
theorem dX6_read_13 : decode cX6_read 13 = .ok (.invokevirtual 44, 3) := by decide +kernel
theorem dX6_read_16 : decode cX6_read 16 = .ok (.iconst 0, 1) := by decide +kernel
theorem dX6_read_17 : decode cX6_read 17 = .ok (.istore_n 1, 1) := by decide +kernel
theorem dX6_read_18 : decode cX6_read 18 = .ok (.iload_n 1, 1) := by decide +kernel
theorem dX6_read_19 : decode cX6_read 19 = .ok (.bipush 60, 2) := by decide +kernel
theorem dX6_read_21 : decode cX6_read 21 = .ok (.if_icmp .ge 37, 3) := by decide +kernel
theorem dX6_read_24 : decode cX6_read 24 = .ok (.aload_n 0, 1) := by decide +kernel
theorem dX6_read_25 : decode cX6_read 25 = .ok (.getfield 7, 3) := by decide +kernel
theorem dX6_read_28 : decode cX6_read 28 = .ok (.iconst 5, 1) := by decide +kernel
theorem dX6_read_29 : decode cX6_read 29 = .ok (.iload_n 1, 1) := by decide +kernel
theorem dX6_read_30 : decode cX6_read 30 = .ok (.iadd, 1) := by decide +kernel
theorem dX6_read_31 : decode cX6_read 31 = .ok (.aload_n 0, 1) := by decide +kernel
theorem dX6_read_32 : decode cX6_read 32 = .ok (.getfield 26, 3) := by decide +kernel
theorem dX6_read_35 : decode cX6_read 35 = .ok (.iload_n 1, 1) := by decide +kernel
theorem dX6_read_36 : decode cX6_read 36 = .ok (.bipush 10, 2) := by decide +kernel
theorem dX6_read_38 : decode cX6_read 38 = .ok (.idiv, 1) := by decide +kernel
theorem dX6_read_39 : decode cX6_read 39 = .ok (.bipush 11, 2) := by decide +kernel
theorem dX6_read_41 : decode cX6_read 41 = .ok (.imul, 1) := by decide +kernel
theorem dX6_read_42 : decode cX6_read 42 = .ok (.iload_n 1, 1) := by decide +kernel
theorem dX6_read_43 : decode cX6_read 43 = .ok (.bipush 10, 2) := by decide +kernel
theorem dX6_read_45 : decode cX6_read 45 = .ok (.irem, 1) := by decide +kernel
theorem dX6_read_46 : decode cX6_read 46 = .ok (.iadd, 1) := by decide +kernel
theorem dX6_read_47 : decode cX6_read 47 = .ok (.caload, 1) := by decide +kernel
theorem dX6_read_48 : decode cX6_read 48 = .ok (.invokestatic 73, 3) := by decide +kernel
theorem dX6_read_51 : decode cX6_read 51 = .ok (.iastore, 1) := by decide +kernel
theorem dX6_read_52 : decode cX6_read 52 = .ok (.iinc 1 1, 3) := by decide +kernel
theorem dX6_read_55 : decode cX6_read 55 = .ok (.goto (-37), 3) := by decide +kernel
theorem dX6_read_58 : decode cX6_read 58 = .ok (.aload_n 0, 1) := by decide +kernel
theorem dX6_read_59 : decode cX6_read 59 = .ok (.invokevirtual 76, 3) := by decide +kernel
theorem dX6_read_62 : decode cX6_read 62 = .ok (.sipush 245, 3) := by decide +kernel
theorem dX6_read_65 : decode cX6_read 65 = .ok (.istore_n 1, 1) := by decide +kernel
theorem dX6_read_66 : decode cX6_read 66 = .ok (.iload_n 1, 1) := by decide +kernel
theorem dX6_read_67 : decode cX6_read 67 = .ok (.sipush 345, 3) := by decide +kernel
theorem dX6_read_70 : decode cX6_read 70 = .ok (.if_icmp .ge 16, 3) := by decide +kernel
theorem dX6_read_73 : decode cX6_read 73 = .ok (.aload_n 0, 1) := by decide +kernel
theorem dX6_read_74 : decode cX6_read 74 = .ok (.getfield 7, 3) := by decide +kernel
theorem dX6_read_77 : decode cX6_read 77 = .ok (.iload_n 1, 1) := by decide +kernel
theorem dX6_read_78 : decode cX6_read 78 = .ok (.iconst 0, 1) := by decide +kernel
theorem dX6_read_79 : decode cX6_read 79 = .ok (.iastore, 1) := by decide +kernel
theorem dX6_read_80 : decode cX6_read 80 = .ok (.iinc 1 1, 3) := by decide +kernel
theorem dX6_read_83 : decode cX6_read 83 = .ok (.goto (-17), 3) := by decide +kernel
theorem dX6_read_86 : decode cX6_read 86 = .ok (.aload_n 0, 1) := by decide +kernel
theorem dX6_read_87 : decode cX6_read 87 = .ok (.iconst 0, 1) := by decide +kernel
theorem dX6_read_88 : decode cX6_read 88 = .ok (.putfield 79, 3) := by decide +kernel
theorem dX6_read_91 : decode cX6_read 91 = .ok (.aload_n 0, 1) := by decide +kernel
theorem dX6_read_92 : decode cX6_read 92 = .ok (.invokevirtual 82, 3) := by decide +kernel
theorem dX6_read_95 : decode cX6_read 95 = .ok (.ireturn, 1) := by decide +kernel
theorem dX6_allSizes_0 : decode cX6_allSizes 0 = .ok (.iconst 0, 1) := by decide +kernel
theorem dX6_allSizes_1 : decode cX6_allSizes 1 = .ok (.istore_n 1, 1) := by decide +kernel
theorem dX6_allSizes_2 : decode cX6_allSizes 2 = .ok (.iconst 0, 1) := by decide +kernel
theorem dX6_allSizes_3 : decode cX6_allSizes 3 = .ok (.istore_n 2, 1) := by decide +kernel
theorem dX6_allSizes_4 : decode cX6_allSizes 4 = .ok (.iload_n 2, 1) := by decide +kernel
theorem dX6_allSizes_5 : decode cX6_allSizes 5 = .ok (.bipush 60, 2) := by decide +kernel
theorem dX6_allSizes_7 : decode cX6_allSizes 7 = .ok (.if_icmp .ge 20, 3) := by decide +kernel
theorem dX6_allSizes_10 : decode cX6_allSizes 10 = .ok (.iload_n 1, 1) := by decide +kernel
theorem dX6_allSizes_11 : decode cX6_allSizes 11 = .ok (.aload_n 0, 1) := by decide +kernel
theorem dX6_allSizes_12 : decode cX6_allSizes 12 = .ok (.iload_n 2, 1) := by decide +kernel
theorem dX6_allSizes_13 : decode cX6_allSizes 13 = .ok (.invokevirtual 85, 3) := by decide +kernel
theorem dX6_allSizes_16 : decode cX6_allSizes 16 = .ok (.invokestatic 88, 3) := by decide +kernel
theorem dX6_allSizes_19 : decode cX6_allSizes 19 = .ok (.iadd, 1) := by decide +kernel
theorem dX6_allSizes_20 : decode cX6_allSizes 20 = .ok (.istore_n 1, 1) := by decide +kernel
theorem dX6_allSizes_21 : decode cX6_allSizes 21 = .ok (.iinc 2 1, 3) := by decide +kernel
theorem dX6_allSizes_24 : decode cX6_allSizes 24 = .ok (.goto (-20), 3) := by decide +kernel
theorem dX6_allSizes_27 : decode cX6_allSizes 27 = .ok (.iload_n 1, 1) := by decide +kernel
theorem dX6_allSizes_28 : decode cX6_allSizes 28 = .ok (.ireturn, 1) := by decide +kernel
theorem dX6_clear_0 : decode cX6_clear 0 = .ok (.aload_n 0, 1) := by decide +kernel
theorem dX6_clear_1 : decode cX6_clear 1 = .ok (.invokevirtual 44, 3) := by decide +kernel
theorem dX6_clear_4 : decode cX6_clear 4 = .ok (.aload_n 0, 1) := by decide +kernel
theorem dX6_clear_5 : decode cX6_clear 5 = .ok (.invokevirtual 91, 3) := by decide +kernel
theorem dX6_clear_8 : decode cX6_clear 8 = .ok (.istore_n 1, 1) := by decide +kernel
theorem dX6_clear_9 : decode cX6_clear 9 = .ok (.aload_n 0, 1) := by decide +kernel
theorem dX6_clear_10 : decode cX6_clear 10 = .ok (.invokevirtual 76, 3) := by decide +kernel
theorem dX6_clear_13 : decode cX6_clear 13 = .ok (.iconst 0, 1) := by decide +kernel
theorem dX6_clear_14 : decode cX6_clear 14 = .ok (.istore_n 2, 1) := by decide +kernel
theorem dX6_clear_15 : decode cX6_clear 15 = .ok (.iload_n 2, 1) := by decide +kernel
theorem dX6_clear_16 : decode cX6_clear 16 = .ok (.aload_n 0, 1) := by decide +kernel
theorem dX6_clear_17 : decode cX6_clear 17 = .ok (.getfield 7, 3) := by decide +kernel
theorem dX6_clear_20 : decode cX6_clear 20 = .ok (.sipush 266, 3) := by decide +kernel
theorem dX6_clear_23 : decode cX6_clear 23 = .ok (.iaload, 1) := by decide +kernel
theorem dX6_clear_24 : decode cX6_clear 24 = .ok (.if_icmp .ge 39, 3) := by decide +kernel
theorem dX6_clear_27 : decode cX6_clear 27 = .ok (.iconst 1, 1) := by decide +kernel
theorem dX6_clear_28 : decode cX6_clear 28 = .ok (.istore_n 3, 1) := by decide +kernel
theorem dX6_clear_29 : decode cX6_clear 29 = .ok (.iload_n 3, 1) := by decide +kernel
theorem dX6_clear_30 : decode cX6_clear 30 = .ok (.bipush 26, 2) := by decide +kernel
theorem dX6_clear_32 : decode cX6_clear 32 = .ok (.if_icmp .ge 25, 3) := by decide +kernel
theorem dX6_clear_35 : decode cX6_clear 35 = .ok (.aload_n 0, 1) := by decide +kernel
theorem dX6_clear_36 : decode cX6_clear 36 = .ok (.getfield 7, 3) := by decide +kernel
theorem dX6_clear_39 : decode cX6_clear 39 = .ok (.sipush 267, 3) := by decide +kernel
theorem dX6_clear_42 : decode cX6_clear 42 = .ok (.bipush 26, 2) := by decide +kernel
theorem dX6_clear_44 : decode cX6_clear 44 = .ok (.iload_n 2, 1) := by decide +kernel
theorem dX6_clear_45 : decode cX6_clear 45 = .ok (.imul, 1) := by decide +kernel
theorem dX6_clear_46 : decode cX6_clear 46 = .ok (.iadd, 1) := by decide +kernel
theorem dX6_clear_47 : decode cX6_clear 47 = .ok (.iload_n 3, 1) := by decide +kernel
theorem dX6_clear_48 : decode cX6_clear 48 = .ok (.iadd, 1) := by decide +kernel
theorem dX6_clear_49 : decode cX6_clear 49 = .ok (.iconst 0, 1) := by decide +kernel
theorem dX6_clear_50 : decode cX6_clear 50 = .ok (.iastore, 1) := by decide +kernel
theorem dX6_clear_51 : decode cX6_clear 51 = .ok (.iinc 3 1, 3) := by decide +kernel
theorem dX6_clear_54 : decode cX6_clear 54 = .ok (.goto (-25), 3) := by decide +kernel
theorem dX6_clear_57 : decode cX6_clear 57 = .ok (.iinc 2 1, 3) := by decide +kernel
theorem dX6_clear_60 : decode cX6_clear 60 = .ok (.goto (-45), 3) := by decide +kernel
theorem dX6_clear_63 : decode cX6_clear 63 = .ok (.iload_n 1, 1) := by decide +kernel
theorem dX6_clear_64 : decode cX6_clear 64 = .ok (.ireturn, 1) := by decide +kernel
theorem dX6_dip_0 : decode cX6_dip 0 = .ok (.iload_n 1, 1) := by decide +kernel
theorem dX6_dip_1 : decode cX6_dip 1 = .ok (.iload_n 2, 1) := by decide +kernel
theorem dX6_dip_2 : decode cX6_dip 2 = .ok (.invokestatic 58, 3) := by decide +kernel
theorem dX6_dip_5 : decode cX6_dip 5 = .ok (.ifCond .ne 5, 3) := by decide +kernel
theorem dX6_dip_8 : decode cX6_dip 8 = .ok (.iconst (-1), 1) := by decide +kernel
theorem dX6_dip_9 : decode cX6_dip 9 = .ok (.ireturn, 1) := by decide +kernel
theorem dX6_dip_10 : decode cX6_dip 10 = .ok (.iload_n 3, 1) := by decide +kernel
theorem dX6_dip_11 : decode cX6_dip 11 = .ok (.iconst 2, 1) := by decide +kernel
theorem dX6_dip_12 : decode cX6_dip 12 = .ok (.bipush 40, 2) := by decide +kernel
theorem dX6_dip_14 : decode cX6_dip 14 = .ok (.invokestatic 36, 3) := by decide +kernel
theorem dX6_dip_17 : decode cX6_dip 17 = .ok (.ifCond .eq 27, 3) := by decide +kernel
theorem dX6_dip_20 : decode cX6_dip 20 = .ok (.iload 4, 2) := by decide +kernel
theorem dX6_dip_22 : decode cX6_dip 22 = .ok (.iconst 1, 1) := by decide +kernel
theorem dX6_dip_23 : decode cX6_dip 23 = .ok (.sipush 900, 3) := by decide +kernel
theorem dX6_dip_26 : decode cX6_dip 26 = .ok (.invokestatic 36, 3) := by decide +kernel
theorem dX6_dip_29 : decode cX6_dip 29 = .ok (.ifCond .eq 15, 3) := by decide +kernel
theorem dX6_dip_32 : decode cX6_dip 32 = .ok (.iload 5, 2) := by decide +kernel
theorem dX6_dip_34 : decode cX6_dip 34 = .ok (.iconst 0, 1) := by decide +kernel
theorem dX6_dip_35 : decode cX6_dip 35 = .ok (.iload_n 3, 1) := by decide +kernel
theorem dX6_dip_36 : decode cX6_dip 36 = .ok (.iconst 1, 1) := by decide +kernel
theorem dX6_dip_37 : decode cX6_dip 37 = .ok (.isub, 1) := by decide +kernel
theorem dX6_dip_38 : decode cX6_dip 38 = .ok (.invokestatic 36, 3) := by decide +kernel
theorem dX6_dip_41 : decode cX6_dip 41 = .ok (.ifCond .ne 6, 3) := by decide +kernel
theorem dX6_dip_44 : decode cX6_dip 44 = .ok (.bipush (-2), 2) := by decide +kernel
theorem dX6_dip_46 : decode cX6_dip 46 = .ok (.ireturn, 1) := by decide +kernel
theorem dX6_dip_47 : decode cX6_dip 47 = .ok (.aload_n 0, 1) := by decide +kernel
theorem dX6_dip_48 : decode cX6_dip 48 = .ok (.bipush 10, 2) := by decide +kernel
theorem dX6_dip_50 : decode cX6_dip 50 = .ok (.iload_n 2, 1) := by decide +kernel
theorem dX6_dip_51 : decode cX6_dip 51 = .ok (.imul, 1) := by decide +kernel
theorem dX6_dip_52 : decode cX6_dip 52 = .ok (.iload_n 1, 1) := by decide +kernel
theorem dX6_dip_53 : decode cX6_dip 53 = .ok (.iadd, 1) := by decide +kernel
theorem dX6_dip_54 : decode cX6_dip 54 = .ok (.invokevirtual 65, 3) := by decide +kernel
theorem dX6_dip_57 : decode cX6_dip 57 = .ok (.ifCond .eq 6, 3) := by decide +kernel
theorem dX6_dip_60 : decode cX6_dip 60 = .ok (.bipush (-5), 2) := by decide +kernel
theorem dX6_dip_62 : decode cX6_dip 62 = .ok (.ireturn, 1) := by decide +kernel
theorem dX6_dip_63 : decode cX6_dip 63 = .ok (.aload_n 0, 1) := by decide +kernel
theorem dX6_dip_64 : decode cX6_dip 64 = .ok (.getfield 7, 3) := by decide +kernel
theorem dX6_dip_67 : decode cX6_dip 67 = .ok (.sipush 245, 3) := by decide +kernel
theorem dX6_dip_70 : decode cX6_dip 70 = .ok (.iaload, 1) := by decide +kernel
theorem dX6_dip_71 : decode cX6_dip 71 = .ok (.iconst 5, 1) := by decide +kernel
theorem dX6_dip_72 : decode cX6_dip 72 = .ok (.if_icmp .ne 6, 3) := by decide +kernel
theorem dX6_dip_75 : decode cX6_dip 75 = .ok (.bipush (-4), 2) := by decide +kernel
theorem dX6_dip_77 : decode cX6_dip 77 = .ok (.ireturn, 1) := by decide +kernel
theorem dX6_dip_78 : decode cX6_dip 78 = .ok (.aload_n 0, 1) := by decide +kernel
theorem dX6_dip_79 : decode cX6_dip 79 = .ok (.invokevirtual 44, 3) := by decide +kernel
theorem dX6_dip_82 : decode cX6_dip 82 = .ok (.sipush 246, 3) := by decide +kernel
theorem dX6_dip_85 : decode cX6_dip 85 = .ok (.iconst 4, 1) := by decide +kernel
theorem dX6_dip_86 : decode cX6_dip 86 = .ok (.aload_n 0, 1) := by decide +kernel
theorem dX6_dip_87 : decode cX6_dip 87 = .ok (.getfield 7, 3) := by decide +kernel
theorem dX6_dip_90 : decode cX6_dip 90 = .ok (.sipush 245, 3) := by decide +kernel
theorem dX6_dip_93 : decode cX6_dip 93 = .ok (.iaload, 1) := by decide +kernel
theorem dX6_dip_94 : decode cX6_dip 94 = .ok (.imul, 1) := by decide +kernel
theorem dX6_dip_95 : decode cX6_dip 95 = .ok (.iadd, 1) := by decide +kernel
theorem dX6_dip_96 : decode cX6_dip 96 = .ok (.istore 6, 2) := by decide +kernel
theorem dX6_dip_98 : decode cX6_dip 98 = .ok (.aload_n 0, 1) := by decide +kernel
theorem dX6_dip_99 : decode cX6_dip 99 = .ok (.getfield 7, 3) := by decide +kernel
theorem dX6_dip_102 : decode cX6_dip 102 = .ok (.iload 6, 2) := by decide +kernel
theorem dX6_dip_104 : decode cX6_dip 104 = .ok (.bipush 10, 2) := by decide +kernel
theorem dX6_dip_106 : decode cX6_dip 106 = .ok (.iload_n 2, 1) := by decide +kernel
theorem dX6_dip_107 : decode cX6_dip 107 = .ok (.imul, 1) := by decide +kernel
theorem dX6_dip_108 : decode cX6_dip 108 = .ok (.iload_n 1, 1) := by decide +kernel
theorem dX6_dip_109 : decode cX6_dip 109 = .ok (.iadd, 1) := by decide +kernel
theorem dX6_dip_110 : decode cX6_dip 110 = .ok (.iastore, 1) := by decide +kernel
theorem dX6_dip_111 : decode cX6_dip 111 = .ok (.aload_n 0, 1) := by decide +kernel
theorem dX6_dip_112 : decode cX6_dip 112 = .ok (.getfield 7, 3) := by decide +kernel
theorem dX6_dip_115 : decode cX6_dip 115 = .ok (.iload 6, 2) := by decide +kernel
theorem dX6_dip_117 : decode cX6_dip 117 = .ok (.iconst 1, 1) := by decide +kernel
theorem dX6_dip_118 : decode cX6_dip 118 = .ok (.iadd, 1) := by decide +kernel
theorem dX6_dip_119 : decode cX6_dip 119 = .ok (.iload_n 3, 1) := by decide +kernel
theorem dX6_dip_120 : decode cX6_dip 120 = .ok (.iastore, 1) := by decide +kernel
theorem dX6_dip_121 : decode cX6_dip 121 = .ok (.aload_n 0, 1) := by decide +kernel
theorem dX6_dip_122 : decode cX6_dip 122 = .ok (.getfield 7, 3) := by decide +kernel
theorem dX6_dip_125 : decode cX6_dip 125 = .ok (.iload 6, 2) := by decide +kernel
theorem dX6_dip_127 : decode cX6_dip 127 = .ok (.iconst 2, 1) := by decide +kernel
theorem dX6_dip_128 : decode cX6_dip 128 = .ok (.iadd, 1) := by decide +kernel
theorem dX6_dip_129 : decode cX6_dip 129 = .ok (.iload 4, 2) := by decide +kernel
theorem dX6_dip_131 : decode cX6_dip 131 = .ok (.iastore, 1) := by decide +kernel
theorem dX6_dip_132 : decode cX6_dip 132 = .ok (.aload_n 0, 1) := by decide +kernel
theorem dX6_dip_133 : decode cX6_dip 133 = .ok (.getfield 7, 3) := by decide +kernel
theorem dX6_dip_136 : decode cX6_dip 136 = .ok (.iload 6, 2) := by decide +kernel
theorem dX6_dip_138 : decode cX6_dip 138 = .ok (.iconst 3, 1) := by decide +kernel
theorem dX6_dip_139 : decode cX6_dip 139 = .ok (.iadd, 1) := by decide +kernel
theorem dX6_dip_140 : decode cX6_dip 140 = .ok (.iload 5, 2) := by decide +kernel
theorem dX6_dip_142 : decode cX6_dip 142 = .ok (.iastore, 1) := by decide +kernel
theorem dX6_dip_143 : decode cX6_dip 143 = .ok (.aload_n 0, 1) := by decide +kernel
theorem dX6_dip_144 : decode cX6_dip 144 = .ok (.getfield 7, 3) := by decide +kernel
theorem dX6_dip_147 : decode cX6_dip 147 = .ok (.sipush 245, 3) := by decide +kernel
theorem dX6_dip_150 : decode cX6_dip 150 = .ok (.dup2, 1) := by decide +kernel
theorem dX6_dip_151 : decode cX6_dip 151 = .ok (.iaload, 1) := by decide +kernel
theorem dX6_dip_152 : decode cX6_dip 152 = .ok (.iconst 1, 1) := by decide +kernel
theorem dX6_dip_153 : decode cX6_dip 153 = .ok (.iadd, 1) := by decide +kernel
theorem dX6_dip_154 : decode cX6_dip 154 = .ok (.iastore, 1) := by decide +kernel
theorem dX6_dip_155 : decode cX6_dip 155 = .ok (.aload_n 0, 1) := by decide +kernel
theorem dX6_dip_156 : decode cX6_dip 156 = .ok (.getfield 7, 3) := by decide +kernel
theorem dX6_dip_159 : decode cX6_dip 159 = .ok (.sipush 245, 3) := by decide +kernel
theorem dX6_dip_162 : decode cX6_dip 162 = .ok (.iaload, 1) := by decide +kernel
theorem dX6_dip_163 : decode cX6_dip 163 = .ok (.iconst 1, 1) := by decide +kernel
theorem dX6_dip_164 : decode cX6_dip 164 = .ok (.isub, 1) := by decide +kernel
theorem dX6_dip_165 : decode cX6_dip 165 = .ok (.ireturn, 1) := by decide +kernel
theorem dX6_takeOut_0 : decode cX6_takeOut 0 = .ok (.aload_n 0, 1) := by decide +kernel
theorem dX6_takeOut_1 : decode cX6_takeOut 1 = .ok (.iload_n 1, 1) := by decide +kernel
theorem dX6_takeOut_2 : decode cX6_takeOut 2 = .ok (.invokevirtual 94, 3) := by decide +kernel
theorem dX6_takeOut_5 : decode cX6_takeOut 5 = .ok (.ifCond .ne 5, 3) := by decide +kernel
theorem dX6_takeOut_8 : decode cX6_takeOut 8 = .ok (.iconst (-1), 1) := by decide +kernel
theorem dX6_takeOut_9 : decode cX6_takeOut 9 = .ok (.ireturn, 1) := by decide +kernel
theorem dX6_takeOut_10 : decode cX6_takeOut 10 = .ok (.aload_n 0, 1) := by decide +kernel
theorem dX6_takeOut_11 : decode cX6_takeOut 11 = .ok (.invokevirtual 44, 3) := by decide +kernel
theorem dX6_takeOut_14 : decode cX6_takeOut 14 = .ok (.sipush 246, 3) := by decide +kernel
theorem dX6_takeOut_17 : decode cX6_takeOut 17 = .ok (.iconst 4, 1) := by decide +kernel
theorem dX6_takeOut_18 : decode cX6_takeOut 18 = .ok (.iload_n 1, 1) := by decide +kernel
theorem dX6_takeOut_19 : decode cX6_takeOut 19 = .ok (.imul, 1) := by decide +kernel
theorem dX6_takeOut_20 : decode cX6_takeOut 20 = .ok (.iadd, 1) := by decide +kernel
theorem dX6_takeOut_21 : decode cX6_takeOut 21 = .ok (.istore_n 2, 1) := by decide +kernel
theorem dX6_takeOut_22 : decode cX6_takeOut 22 = .ok (.iload_n 2, 1) := by decide +kernel
theorem dX6_takeOut_23 : decode cX6_takeOut 23 = .ok (.iconst 4, 1) := by decide +kernel
theorem dX6_takeOut_24 : decode cX6_takeOut 24 = .ok (.iadd, 1) := by decide +kernel
theorem dX6_takeOut_25 : decode cX6_takeOut 25 = .ok (.sipush 266, 3) := by decide +kernel
theorem dX6_takeOut_28 : decode cX6_takeOut 28 = .ok (.if_icmp .ge 23, 3) := by decide +kernel
theorem dX6_takeOut_31 : decode cX6_takeOut 31 = .ok (.aload_n 0, 1) := by decide +kernel
theorem dX6_takeOut_32 : decode cX6_takeOut 32 = .ok (.getfield 7, 3) := by decide +kernel
theorem dX6_takeOut_35 : decode cX6_takeOut 35 = .ok (.iload_n 2, 1) := by decide +kernel
theorem dX6_takeOut_36 : decode cX6_takeOut 36 = .ok (.aload_n 0, 1) := by decide +kernel
theorem dX6_takeOut_37 : decode cX6_takeOut 37 = .ok (.getfield 7, 3) := by decide +kernel
theorem dX6_takeOut_40 : decode cX6_takeOut 40 = .ok (.iload_n 2, 1) := by decide +kernel
theorem dX6_takeOut_41 : decode cX6_takeOut 41 = .ok (.iconst 4, 1) := by decide +kernel
theorem dX6_takeOut_42 : decode cX6_takeOut 42 = .ok (.iadd, 1) := by decide +kernel
theorem dX6_takeOut_43 : decode cX6_takeOut 43 = .ok (.iaload, 1) := by decide +kernel
theorem dX6_takeOut_44 : decode cX6_takeOut 44 = .ok (.iastore, 1) := by decide +kernel
theorem dX6_takeOut_45 : decode cX6_takeOut 45 = .ok (.iinc 2 1, 3) := by decide +kernel
theorem dX6_takeOut_48 : decode cX6_takeOut 48 = .ok (.goto (-26), 3) := by decide +kernel
theorem dX6_takeOut_51 : decode cX6_takeOut 51 = .ok (.aload_n 0, 1) := by decide +kernel
theorem dX6_takeOut_52 : decode cX6_takeOut 52 = .ok (.getfield 7, 3) := by decide +kernel
theorem dX6_takeOut_55 : decode cX6_takeOut 55 = .ok (.sipush 245, 3) := by decide +kernel
theorem dX6_takeOut_58 : decode cX6_takeOut 58 = .ok (.dup2, 1) := by decide +kernel
theorem dX6_takeOut_59 : decode cX6_takeOut 59 = .ok (.iaload, 1) := by decide +kernel
theorem dX6_takeOut_60 : decode cX6_takeOut 60 = .ok (.iconst 1, 1) := by decide +kernel
theorem dX6_takeOut_61 : decode cX6_takeOut 61 = .ok (.isub, 1) := by decide +kernel
theorem dX6_takeOut_62 : decode cX6_takeOut 62 = .ok (.iastore, 1) := by decide +kernel
theorem dX6_takeOut_63 : decode cX6_takeOut 63 = .ok (.aload_n 0, 1) := by decide +kernel
theorem dX6_takeOut_64 : decode cX6_takeOut 64 = .ok (.getfield 7, 3) := by decide +kernel
theorem dX6_takeOut_67 : decode cX6_takeOut 67 = .ok (.sipush 245, 3) := by decide +kernel
theorem dX6_takeOut_70 : decode cX6_takeOut 70 = .ok (.iaload, 1) := by decide +kernel
theorem dX6_takeOut_71 : decode cX6_takeOut 71 = .ok (.ireturn, 1) := by decide +kernel
theorem dX6_drop_0 : decode cX6_drop 0 = .ok (.iload_n 1, 1) := by decide +kernel
theorem dX6_drop_1 : decode cX6_drop 1 = .ok (.iload_n 2, 1) := by decide +kernel
theorem dX6_drop_2 : decode cX6_drop 2 = .ok (.invokestatic 58, 3) := by decide +kernel
theorem dX6_drop_5 : decode cX6_drop 5 = .ok (.ifCond .ne 5, 3) := by decide +kernel
theorem dX6_drop_8 : decode cX6_drop 8 = .ok (.iconst (-1), 1) := by decide +kernel
theorem dX6_drop_9 : decode cX6_drop 9 = .ok (.ireturn, 1) := by decide +kernel
theorem dX6_drop_10 : decode cX6_drop 10 = .ok (.iload_n 3, 1) := by decide +kernel
theorem dX6_drop_11 : decode cX6_drop 11 = .ok (.sipush (-999), 3) := by decide +kernel
theorem dX6_drop_14 : decode cX6_drop 14 = .ok (.sipush 999, 3) := by decide +kernel
theorem dX6_drop_17 : decode cX6_drop 17 = .ok (.invokestatic 36, 3) := by decide +kernel
theorem dX6_drop_20 : decode cX6_drop 20 = .ok (.ifCond .ne 6, 3) := by decide +kernel
theorem dX6_drop_23 : decode cX6_drop 23 = .ok (.bipush (-2), 2) := by decide +kernel
theorem dX6_drop_25 : decode cX6_drop 25 = .ok (.ireturn, 1) := by decide +kernel
theorem dX6_drop_26 : decode cX6_drop 26 = .ok (.bipush 10, 2) := by decide +kernel
theorem dX6_drop_28 : decode cX6_drop 28 = .ok (.iload_n 2, 1) := by decide +kernel
theorem dX6_drop_29 : decode cX6_drop 29 = .ok (.imul, 1) := by decide +kernel
theorem dX6_drop_30 : decode cX6_drop 30 = .ok (.iload_n 1, 1) := by decide +kernel
theorem dX6_drop_31 : decode cX6_drop 31 = .ok (.iadd, 1) := by decide +kernel
theorem dX6_drop_32 : decode cX6_drop 32 = .ok (.istore 4, 2) := by decide +kernel
theorem dX6_drop_34 : decode cX6_drop 34 = .ok (.aload_n 0, 1) := by decide +kernel
theorem dX6_drop_35 : decode cX6_drop 35 = .ok (.iload 4, 2) := by decide +kernel
theorem dX6_drop_37 : decode cX6_drop 37 = .ok (.invokevirtual 65, 3) := by decide +kernel
theorem dX6_drop_40 : decode cX6_drop 40 = .ok (.ifCond .eq 6, 3) := by decide +kernel
theorem dX6_drop_43 : decode cX6_drop 43 = .ok (.bipush (-5), 2) := by decide +kernel
theorem dX6_drop_45 : decode cX6_drop 45 = .ok (.ireturn, 1) := by decide +kernel
theorem dX6_drop_46 : decode cX6_drop 46 = .ok (.aload_n 0, 1) := by decide +kernel
theorem dX6_drop_47 : decode cX6_drop 47 = .ok (.invokevirtual 44, 3) := by decide +kernel
theorem dX6_drop_50 : decode cX6_drop 50 = .ok (.aload_n 0, 1) := by decide +kernel
theorem dX6_drop_51 : decode cX6_drop 51 = .ok (.getfield 7, 3) := by decide +kernel
theorem dX6_drop_54 : decode cX6_drop 54 = .ok (.bipush 65, 2) := by decide +kernel
theorem dX6_drop_56 : decode cX6_drop 56 = .ok (.iload 4, 2) := by decide +kernel
theorem dX6_drop_58 : decode cX6_drop 58 = .ok (.iadd, 1) := by decide +kernel
theorem dX6_drop_59 : decode cX6_drop 59 = .ok (.aload_n 0, 1) := by decide +kernel
theorem dX6_drop_60 : decode cX6_drop 60 = .ok (.iload 4, 2) := by decide +kernel
theorem dX6_drop_62 : decode cX6_drop 62 = .ok (.invokevirtual 85, 3) := by decide +kernel
theorem dX6_drop_65 : decode cX6_drop 65 = .ok (.iload_n 3, 1) := by decide +kernel
theorem dX6_drop_66 : decode cX6_drop 66 = .ok (.iadd, 1) := by decide +kernel
theorem dX6_drop_67 : decode cX6_drop 67 = .ok (.invokestatic 97, 3) := by decide +kernel
theorem dX6_drop_70 : decode cX6_drop 70 = .ok (.iastore, 1) := by decide +kernel
theorem dX6_drop_71 : decode cX6_drop 71 = .ok (.aload_n 0, 1) := by decide +kernel
theorem dX6_drop_72 : decode cX6_drop 72 = .ok (.iload 4, 2) := by decide +kernel
theorem dX6_drop_74 : decode cX6_drop 74 = .ok (.invokevirtual 85, 3) := by decide +kernel
theorem dX6_drop_77 : decode cX6_drop 77 = .ok (.sipush 10000, 3) := by decide +kernel
theorem dX6_drop_80 : decode cX6_drop 80 = .ok (.iadd, 1) := by decide +kernel
theorem dX6_drop_81 : decode cX6_drop 81 = .ok (.ireturn, 1) := by decide +kernel
theorem dX6_probe_0 : decode cX6_probe 0 = .ok (.iload_n 1, 1) := by decide +kernel
theorem dX6_probe_1 : decode cX6_probe 1 = .ok (.iload_n 2, 1) := by decide +kernel
theorem dX6_probe_2 : decode cX6_probe 2 = .ok (.invokestatic 58, 3) := by decide +kernel
theorem dX6_probe_5 : decode cX6_probe 5 = .ok (.ifCond .ne 5, 3) := by decide +kernel
theorem dX6_probe_8 : decode cX6_probe 8 = .ok (.iconst (-1), 1) := by decide +kernel
theorem dX6_probe_9 : decode cX6_probe 9 = .ok (.ireturn, 1) := by decide +kernel
theorem dX6_probe_10 : decode cX6_probe 10 = .ok (.aload_n 0, 1) := by decide +kernel
theorem dX6_probe_11 : decode cX6_probe 11 = .ok (.getfield 7, 3) := by decide +kernel
theorem dX6_probe_14 : decode cX6_probe 14 = .ok (.sipush 266, 3) := by decide +kernel
theorem dX6_probe_17 : decode cX6_probe 17 = .ok (.iaload, 1) := by decide +kernel
theorem dX6_probe_18 : decode cX6_probe 18 = .ok (.iconst 3, 1) := by decide +kernel
theorem dX6_probe_19 : decode cX6_probe 19 = .ok (.if_icmp .ne 6, 3) := by decide +kernel
theorem dX6_probe_22 : decode cX6_probe 22 = .ok (.bipush (-4), 2) := by decide +kernel
theorem dX6_probe_24 : decode cX6_probe 24 = .ok (.ireturn, 1) := by decide +kernel
theorem dX6_probe_25 : decode cX6_probe 25 = .ok (.aload_n 0, 1) := by decide +kernel
theorem dX6_probe_26 : decode cX6_probe 26 = .ok (.invokevirtual 44, 3) := by decide +kernel
theorem dX6_probe_29 : decode cX6_probe 29 = .ok (.iconst 0, 1) := by decide +kernel
theorem dX6_probe_30 : decode cX6_probe 30 = .ok (.istore_n 3, 1) := by decide +kernel
theorem dX6_probe_31 : decode cX6_probe 31 = .ok (.iload_n 3, 1) := by decide +kernel
theorem dX6_probe_32 : decode cX6_probe 32 = .ok (.bipush 26, 2) := by decide +kernel
theorem dX6_probe_34 : decode cX6_probe 34 = .ok (.if_icmp .ge 32, 3) := by decide +kernel
theorem dX6_probe_37 : decode cX6_probe 37 = .ok (.aload_n 0, 1) := by decide +kernel
theorem dX6_probe_38 : decode cX6_probe 38 = .ok (.getfield 7, 3) := by decide +kernel
theorem dX6_probe_41 : decode cX6_probe 41 = .ok (.sipush 267, 3) := by decide +kernel
theorem dX6_probe_44 : decode cX6_probe 44 = .ok (.bipush 26, 2) := by decide +kernel
theorem dX6_probe_46 : decode cX6_probe 46 = .ok (.aload_n 0, 1) := by decide +kernel
theorem dX6_probe_47 : decode cX6_probe 47 = .ok (.getfield 7, 3) := by decide +kernel
theorem dX6_probe_50 : decode cX6_probe 50 = .ok (.sipush 266, 3) := by decide +kernel
theorem dX6_probe_53 : decode cX6_probe 53 = .ok (.iaload, 1) := by decide +kernel
theorem dX6_probe_54 : decode cX6_probe 54 = .ok (.imul, 1) := by decide +kernel
theorem dX6_probe_55 : decode cX6_probe 55 = .ok (.iadd, 1) := by decide +kernel
theorem dX6_probe_56 : decode cX6_probe 56 = .ok (.iload_n 3, 1) := by decide +kernel
theorem dX6_probe_57 : decode cX6_probe 57 = .ok (.iadd, 1) := by decide +kernel
theorem dX6_probe_58 : decode cX6_probe 58 = .ok (.iconst 0, 1) := by decide +kernel
theorem dX6_probe_59 : decode cX6_probe 59 = .ok (.iastore, 1) := by decide +kernel
theorem dX6_probe_60 : decode cX6_probe 60 = .ok (.iinc 3 1, 3) := by decide +kernel
theorem dX6_probe_63 : decode cX6_probe 63 = .ok (.goto (-32), 3) := by decide +kernel
theorem dX6_probe_66 : decode cX6_probe 66 = .ok (.aload_n 0, 1) := by decide +kernel
theorem dX6_probe_67 : decode cX6_probe 67 = .ok (.getfield 7, 3) := by decide +kernel
theorem dX6_probe_70 : decode cX6_probe 70 = .ok (.sipush 267, 3) := by decide +kernel
theorem dX6_probe_73 : decode cX6_probe 73 = .ok (.bipush 26, 2) := by decide +kernel
theorem dX6_probe_75 : decode cX6_probe 75 = .ok (.aload_n 0, 1) := by decide +kernel
theorem dX6_probe_76 : decode cX6_probe 76 = .ok (.getfield 7, 3) := by decide +kernel
theorem dX6_probe_79 : decode cX6_probe 79 = .ok (.sipush 266, 3) := by decide +kernel
theorem dX6_probe_82 : decode cX6_probe 82 = .ok (.iaload, 1) := by decide +kernel
theorem dX6_probe_83 : decode cX6_probe 83 = .ok (.imul, 1) := by decide +kernel
theorem dX6_probe_84 : decode cX6_probe 84 = .ok (.iadd, 1) := by decide +kernel
theorem dX6_probe_85 : decode cX6_probe 85 = .ok (.bipush 10, 2) := by decide +kernel
theorem dX6_probe_87 : decode cX6_probe 87 = .ok (.iload_n 2, 1) := by decide +kernel
theorem dX6_probe_88 : decode cX6_probe 88 = .ok (.imul, 1) := by decide +kernel
theorem dX6_probe_89 : decode cX6_probe 89 = .ok (.iload_n 1, 1) := by decide +kernel
theorem dX6_probe_90 : decode cX6_probe 90 = .ok (.iadd, 1) := by decide +kernel
theorem dX6_probe_91 : decode cX6_probe 91 = .ok (.iastore, 1) := by decide +kernel
theorem dX6_probe_92 : decode cX6_probe 92 = .ok (.aload_n 0, 1) := by decide +kernel
theorem dX6_probe_93 : decode cX6_probe 93 = .ok (.getfield 7, 3) := by decide +kernel
theorem dX6_probe_96 : decode cX6_probe 96 = .ok (.sipush 266, 3) := by decide +kernel
theorem dX6_probe_99 : decode cX6_probe 99 = .ok (.dup2, 1) := by decide +kernel
theorem dX6_probe_100 : decode cX6_probe 100 = .ok (.iaload, 1) := by decide +kernel
theorem dX6_probe_101 : decode cX6_probe 101 = .ok (.iconst 1, 1) := by decide +kernel
theorem dX6_probe_102 : decode cX6_probe 102 = .ok (.iadd, 1) := by decide +kernel
theorem dX6_probe_103 : decode cX6_probe 103 = .ok (.iastore, 1) := by decide +kernel
theorem dX6_probe_104 : decode cX6_probe 104 = .ok (.aload_n 0, 1) := by decide +kernel
theorem dX6_probe_105 : decode cX6_probe 105 = .ok (.getfield 7, 3) := by decide +kernel
theorem dX6_probe_108 : decode cX6_probe 108 = .ok (.sipush 266, 3) := by decide +kernel
theorem dX6_probe_111 : decode cX6_probe 111 = .ok (.iaload, 1) := by decide +kernel
theorem dX6_probe_112 : decode cX6_probe 112 = .ok (.iconst 1, 1) := by decide +kernel
theorem dX6_probe_113 : decode cX6_probe 113 = .ok (.isub, 1) := by decide +kernel
theorem dX6_probe_114 : decode cX6_probe 114 = .ok (.ireturn, 1) := by decide +kernel
theorem dX6_from_0 : decode cX6_from 0 = .ok (.iload_n 2, 1) := by decide +kernel
theorem dX6_from_1 : decode cX6_from 1 = .ok (.iload_n 3, 1) := by decide +kernel
theorem dX6_from_2 : decode cX6_from 2 = .ok (.invokestatic 58, 3) := by decide +kernel
theorem dX6_from_5 : decode cX6_from 5 = .ok (.ifCond .eq 35, 3) := by decide +kernel
theorem dX6_from_8 : decode cX6_from 8 = .ok (.aload_n 0, 1) := by decide +kernel
theorem dX6_from_9 : decode cX6_from 9 = .ok (.bipush 10, 2) := by decide +kernel
theorem dX6_from_11 : decode cX6_from 11 = .ok (.iload_n 3, 1) := by decide +kernel
theorem dX6_from_12 : decode cX6_from 12 = .ok (.imul, 1) := by decide +kernel
theorem dX6_from_13 : decode cX6_from 13 = .ok (.iload_n 2, 1) := by decide +kernel
theorem dX6_from_14 : decode cX6_from 14 = .ok (.iadd, 1) := by decide +kernel
theorem dX6_from_15 : decode cX6_from 15 = .ok (.invokevirtual 65, 3) := by decide +kernel
theorem dX6_from_18 : decode cX6_from 18 = .ok (.ifCond .ne 22, 3) := by decide +kernel
theorem dX6_from_21 : decode cX6_from 21 = .ok (.aload_n 0, 1) := by decide +kernel
theorem dX6_from_22 : decode cX6_from 22 = .ok (.bipush 10, 2) := by decide +kernel
theorem dX6_from_24 : decode cX6_from 24 = .ok (.iload_n 3, 1) := by decide +kernel
theorem dX6_from_25 : decode cX6_from 25 = .ok (.imul, 1) := by decide +kernel
theorem dX6_from_26 : decode cX6_from 26 = .ok (.iload_n 2, 1) := by decide +kernel
theorem dX6_from_27 : decode cX6_from 27 = .ok (.iadd, 1) := by decide +kernel
theorem dX6_from_28 : decode cX6_from 28 = .ok (.invokevirtual 85, 3) := by decide +kernel
theorem dX6_from_31 : decode cX6_from 31 = .ok (.aload_n 0, 1) := by decide +kernel
theorem dX6_from_32 : decode cX6_from 32 = .ok (.iload_n 1, 1) := by decide +kernel
theorem dX6_from_33 : decode cX6_from 33 = .ok (.invokevirtual 85, 3) := by decide +kernel
theorem dX6_from_36 : decode cX6_from 36 = .ok (.isub, 1) := by decide +kernel
theorem dX6_from_37 : decode cX6_from 37 = .ok (.goto 4, 3) := by decide +kernel
theorem dX6_from_40 : decode cX6_from 40 = .ok (.iconst 0, 1) := by decide +kernel
theorem dX6_from_41 : decode cX6_from 41 = .ok (.ireturn, 1) := by decide +kernel
theorem dX6_slope_0 : decode cX6_slope 0 = .ok (.iload_n 1, 1) := by decide +kernel
theorem dX6_slope_1 : decode cX6_slope 1 = .ok (.bipush 10, 2) := by decide +kernel
theorem dX6_slope_3 : decode cX6_slope 3 = .ok (.irem, 1) := by decide +kernel
theorem dX6_slope_4 : decode cX6_slope 4 = .ok (.istore_n 2, 1) := by decide +kernel
theorem dX6_slope_5 : decode cX6_slope 5 = .ok (.iload_n 1, 1) := by decide +kernel
theorem dX6_slope_6 : decode cX6_slope 6 = .ok (.bipush 10, 2) := by decide +kernel
theorem dX6_slope_8 : decode cX6_slope 8 = .ok (.idiv, 1) := by decide +kernel
theorem dX6_slope_9 : decode cX6_slope 9 = .ok (.istore_n 3, 1) := by decide +kernel
theorem dX6_slope_10 : decode cX6_slope 10 = .ok (.aload_n 0, 1) := by decide +kernel
theorem dX6_slope_11 : decode cX6_slope 11 = .ok (.iload_n 1, 1) := by decide +kernel
theorem dX6_slope_12 : decode cX6_slope 12 = .ok (.invokevirtual 65, 3) := by decide +kernel
theorem dX6_slope_15 : decode cX6_slope 15 = .ok (.ifCond .eq 7, 3) := by decide +kernel
theorem dX6_slope_18 : decode cX6_slope 18 = .ok (.iconst 0, 1) := by decide +kernel
theorem dX6_slope_19 : decode cX6_slope 19 = .ok (.goto 42, 3) := by decide +kernel
theorem dX6_slope_22 : decode cX6_slope 22 = .ok (.aload_n 0, 1) := by decide +kernel
theorem dX6_slope_23 : decode cX6_slope 23 = .ok (.iload_n 1, 1) := by decide +kernel
theorem dX6_slope_24 : decode cX6_slope 24 = .ok (.iload_n 2, 1) := by decide +kernel
theorem dX6_slope_25 : decode cX6_slope 25 = .ok (.iconst 1, 1) := by decide +kernel
theorem dX6_slope_26 : decode cX6_slope 26 = .ok (.isub, 1) := by decide +kernel
theorem dX6_slope_27 : decode cX6_slope 27 = .ok (.iload_n 3, 1) := by decide +kernel
theorem dX6_slope_28 : decode cX6_slope 28 = .ok (.invokevirtual 100, 3) := by decide +kernel
theorem dX6_slope_31 : decode cX6_slope 31 = .ok (.aload_n 0, 1) := by decide +kernel
theorem dX6_slope_32 : decode cX6_slope 32 = .ok (.iload_n 1, 1) := by decide +kernel
theorem dX6_slope_33 : decode cX6_slope 33 = .ok (.iload_n 2, 1) := by decide +kernel
theorem dX6_slope_34 : decode cX6_slope 34 = .ok (.iconst 1, 1) := by decide +kernel
theorem dX6_slope_35 : decode cX6_slope 35 = .ok (.iadd, 1) := by decide +kernel
theorem dX6_slope_36 : decode cX6_slope 36 = .ok (.iload_n 3, 1) := by decide +kernel
theorem dX6_slope_37 : decode cX6_slope 37 = .ok (.invokevirtual 100, 3) := by decide +kernel
theorem dX6_slope_40 : decode cX6_slope 40 = .ok (.iadd, 1) := by decide +kernel
theorem dX6_slope_41 : decode cX6_slope 41 = .ok (.aload_n 0, 1) := by decide +kernel
theorem dX6_slope_42 : decode cX6_slope 42 = .ok (.iload_n 1, 1) := by decide +kernel
theorem dX6_slope_43 : decode cX6_slope 43 = .ok (.iload_n 2, 1) := by decide +kernel
theorem dX6_slope_44 : decode cX6_slope 44 = .ok (.iload_n 3, 1) := by decide +kernel
theorem dX6_slope_45 : decode cX6_slope 45 = .ok (.iconst 1, 1) := by decide +kernel
theorem dX6_slope_46 : decode cX6_slope 46 = .ok (.isub, 1) := by decide +kernel
theorem dX6_slope_47 : decode cX6_slope 47 = .ok (.invokevirtual 100, 3) := by decide +kernel
theorem dX6_slope_50 : decode cX6_slope 50 = .ok (.iadd, 1) := by decide +kernel
theorem dX6_slope_51 : decode cX6_slope 51 = .ok (.aload_n 0, 1) := by decide +kernel
theorem dX6_slope_52 : decode cX6_slope 52 = .ok (.iload_n 1, 1) := by decide +kernel
theorem dX6_slope_53 : decode cX6_slope 53 = .ok (.iload_n 2, 1) := by decide +kernel
theorem dX6_slope_54 : decode cX6_slope 54 = .ok (.iload_n 3, 1) := by decide +kernel
theorem dX6_slope_55 : decode cX6_slope 55 = .ok (.iconst 1, 1) := by decide +kernel
theorem dX6_slope_56 : decode cX6_slope 56 = .ok (.iadd, 1) := by decide +kernel
theorem dX6_slope_57 : decode cX6_slope 57 = .ok (.invokevirtual 100, 3) := by decide +kernel
theorem dX6_slope_60 : decode cX6_slope 60 = .ok (.iadd, 1) := by decide +kernel
theorem dX6_slope_61 : decode cX6_slope 61 = .ok (.ireturn, 1) := by decide +kernel
theorem dX6_isUp_0 : decode cX6_isUp 0 = .ok (.aload_n 0, 1) := by decide +kernel
theorem dX6_isUp_1 : decode cX6_isUp 1 = .ok (.getfield 7, 3) := by decide +kernel
theorem dX6_isUp_4 : decode cX6_isUp 4 = .ok (.iconst 4, 1) := by decide +kernel
theorem dX6_isUp_5 : decode cX6_isUp 5 = .ok (.iaload, 1) := by decide +kernel
theorem dX6_isUp_6 : decode cX6_isUp 6 = .ok (.aload_n 0, 1) := by decide +kernel
theorem dX6_isUp_7 : decode cX6_isUp 7 = .ok (.iload_n 1, 1) := by decide +kernel
theorem dX6_isUp_8 : decode cX6_isUp 8 = .ok (.iconst 3, 1) := by decide +kernel
theorem dX6_isUp_9 : decode cX6_isUp 9 = .ok (.invokevirtual 54, 3) := by decide +kernel
theorem dX6_isUp_12 : decode cX6_isUp 12 = .ok (.iadd, 1) := by decide +kernel
theorem dX6_isUp_13 : decode cX6_isUp 13 = .ok (.aload_n 0, 1) := by decide +kernel
theorem dX6_isUp_14 : decode cX6_isUp 14 = .ok (.iload_n 1, 1) := by decide +kernel
theorem dX6_isUp_15 : decode cX6_isUp 15 = .ok (.iconst 1, 1) := by decide +kernel
theorem dX6_isUp_16 : decode cX6_isUp 16 = .ok (.invokevirtual 54, 3) := by decide +kernel
theorem dX6_isUp_19 : decode cX6_isUp 19 = .ok (.irem, 1) := by decide +kernel
theorem dX6_isUp_20 : decode cX6_isUp 20 = .ok (.aload_n 0, 1) := by decide +kernel
theorem dX6_isUp_21 : decode cX6_isUp 21 = .ok (.iload_n 1, 1) := by decide +kernel
theorem dX6_isUp_22 : decode cX6_isUp 22 = .ok (.iconst 1, 1) := by decide +kernel
theorem dX6_isUp_23 : decode cX6_isUp 23 = .ok (.invokevirtual 54, 3) := by decide +kernel
theorem dX6_isUp_26 : decode cX6_isUp 26 = .ok (.iconst 2, 1) := by decide +kernel
theorem dX6_isUp_27 : decode cX6_isUp 27 = .ok (.idiv, 1) := by decide +kernel
theorem dX6_isUp_28 : decode cX6_isUp 28 = .ok (.if_icmp .lt 7, 3) := by decide +kernel
theorem dX6_isUp_31 : decode cX6_isUp 31 = .ok (.iconst 1, 1) := by decide +kernel
theorem dX6_isUp_32 : decode cX6_isUp 32 = .ok (.goto 4, 3) := by decide +kernel
theorem dX6_isUp_35 : decode cX6_isUp 35 = .ok (.iconst 0, 1) := by decide +kernel
theorem dX6_isUp_36 : decode cX6_isUp 36 = .ok (.ireturn, 1) := by decide +kernel
theorem dX6_heightThen_0 : decode cX6_heightThen 0 = .ok (.aload_n 0, 1) := by decide +kernel
theorem dX6_heightThen_1 : decode cX6_heightThen 1 = .ok (.iload_n 1, 1) := by decide +kernel
theorem dX6_heightThen_2 : decode cX6_heightThen 2 = .ok (.invokevirtual 65, 3) := by decide +kernel
theorem dX6_heightThen_5 : decode cX6_heightThen 5 = .ok (.ifCond .eq 5, 3) := by decide +kernel
theorem dX6_heightThen_8 : decode cX6_heightThen 8 = .ok (.iconst 0, 1) := by decide +kernel
theorem dX6_heightThen_9 : decode cX6_heightThen 9 = .ok (.ireturn, 1) := by decide +kernel
theorem dX6_heightThen_10 : decode cX6_heightThen 10 = .ok (.aload_n 0, 1) := by decide +kernel
theorem dX6_heightThen_11 : decode cX6_heightThen 11 = .ok (.iload_n 1, 1) := by decide +kernel
theorem dX6_heightThen_12 : decode cX6_heightThen 12 = .ok (.invokevirtual 62, 3) := by decide +kernel
theorem dX6_heightThen_15 : decode cX6_heightThen 15 = .ok (.istore_n 2, 1) := by decide +kernel
theorem dX6_heightThen_16 : decode cX6_heightThen 16 = .ok (.iload_n 2, 1) := by decide +kernel
theorem dX6_heightThen_17 : decode cX6_heightThen 17 = .ok (.bipush (-6), 2) := by decide +kernel
theorem dX6_heightThen_19 : decode cX6_heightThen 19 = .ok (.if_icmp .eq 28, 3) := by decide +kernel
theorem dX6_heightThen_22 : decode cX6_heightThen 22 = .ok (.aload_n 0, 1) := by decide +kernel
theorem dX6_heightThen_23 : decode cX6_heightThen 23 = .ok (.iload_n 2, 1) := by decide +kernel
theorem dX6_heightThen_24 : decode cX6_heightThen 24 = .ok (.invokevirtual 104, 3) := by decide +kernel
theorem dX6_heightThen_27 : decode cX6_heightThen 27 = .ok (.ifCond .eq 12, 3) := by decide +kernel
theorem dX6_heightThen_30 : decode cX6_heightThen 30 = .ok (.aload_n 0, 1) := by decide +kernel
theorem dX6_heightThen_31 : decode cX6_heightThen 31 = .ok (.iload_n 2, 1) := by decide +kernel
theorem dX6_heightThen_32 : decode cX6_heightThen 32 = .ok (.iconst 2, 1) := by decide +kernel
theorem dX6_heightThen_33 : decode cX6_heightThen 33 = .ok (.invokevirtual 54, 3) := by decide +kernel
theorem dX6_heightThen_36 : decode cX6_heightThen 36 = .ok (.goto 10, 3) := by decide +kernel
theorem dX6_heightThen_39 : decode cX6_heightThen 39 = .ok (.aload_n 0, 1) := by decide +kernel
theorem dX6_heightThen_40 : decode cX6_heightThen 40 = .ok (.iload_n 2, 1) := by decide +kernel
theorem dX6_heightThen_41 : decode cX6_heightThen 41 = .ok (.iconst 2, 1) := by decide +kernel
theorem dX6_heightThen_42 : decode cX6_heightThen 42 = .ok (.invokevirtual 54, 3) := by decide +kernel
theorem dX6_heightThen_45 : decode cX6_heightThen 45 = .ok (.ineg, 1) := by decide +kernel
theorem dX6_heightThen_46 : decode cX6_heightThen 46 = .ok (.ireturn, 1) := by decide +kernel
theorem dX6_heightThen_47 : decode cX6_heightThen 47 = .ok (.aload_n 0, 1) := by decide +kernel
theorem dX6_heightThen_48 : decode cX6_heightThen 48 = .ok (.getfield 7, 3) := by decide +kernel
theorem dX6_heightThen_51 : decode cX6_heightThen 51 = .ok (.iconst 5, 1) := by decide +kernel
theorem dX6_heightThen_52 : decode cX6_heightThen 52 = .ok (.iload_n 1, 1) := by decide +kernel
theorem dX6_heightThen_53 : decode cX6_heightThen 53 = .ok (.iadd, 1) := by decide +kernel
theorem dX6_heightThen_54 : decode cX6_heightThen 54 = .ok (.iaload, 1) := by decide +kernel
theorem dX6_heightThen_55 : decode cX6_heightThen 55 = .ok (.ifCond .ne 12, 3) := by decide +kernel
theorem dX6_heightThen_58 : decode cX6_heightThen 58 = .ok (.aload_n 0, 1) := by decide +kernel
theorem dX6_heightThen_59 : decode cX6_heightThen 59 = .ok (.getfield 7, 3) := by decide +kernel
theorem dX6_heightThen_62 : decode cX6_heightThen 62 = .ok (.iconst 1, 1) := by decide +kernel
theorem dX6_heightThen_63 : decode cX6_heightThen 63 = .ok (.iaload, 1) := by decide +kernel
theorem dX6_heightThen_64 : decode cX6_heightThen 64 = .ok (.goto 9, 3) := by decide +kernel
theorem dX6_heightThen_67 : decode cX6_heightThen 67 = .ok (.aload_n 0, 1) := by decide +kernel
theorem dX6_heightThen_68 : decode cX6_heightThen 68 = .ok (.getfield 7, 3) := by decide +kernel
theorem dX6_heightThen_71 : decode cX6_heightThen 71 = .ok (.iconst 2, 1) := by decide +kernel
theorem dX6_heightThen_72 : decode cX6_heightThen 72 = .ok (.iaload, 1) := by decide +kernel
theorem dX6_heightThen_73 : decode cX6_heightThen 73 = .ok (.istore_n 3, 1) := by decide +kernel
theorem dX6_heightThen_74 : decode cX6_heightThen 74 = .ok (.iconst 2, 1) := by decide +kernel
theorem dX6_heightThen_75 : decode cX6_heightThen 75 = .ok (.aload_n 0, 1) := by decide +kernel
theorem dX6_heightThen_76 : decode cX6_heightThen 76 = .ok (.iload_n 1, 1) := by decide +kernel
theorem dX6_heightThen_77 : decode cX6_heightThen 77 = .ok (.invokevirtual 85, 3) := by decide +kernel
theorem dX6_heightThen_80 : decode cX6_heightThen 80 = .ok (.imul, 1) := by decide +kernel
theorem dX6_heightThen_81 : decode cX6_heightThen 81 = .ok (.aload_n 0, 1) := by decide +kernel
theorem dX6_heightThen_82 : decode cX6_heightThen 82 = .ok (.getfield 7, 3) := by decide +kernel
theorem dX6_heightThen_85 : decode cX6_heightThen 85 = .ok (.bipush 125, 2) := by decide +kernel
theorem dX6_heightThen_87 : decode cX6_heightThen 87 = .ok (.iload_n 1, 1) := by decide +kernel
theorem dX6_heightThen_88 : decode cX6_heightThen 88 = .ok (.iadd, 1) := by decide +kernel
theorem dX6_heightThen_89 : decode cX6_heightThen 89 = .ok (.iaload, 1) := by decide +kernel
theorem dX6_heightThen_90 : decode cX6_heightThen 90 = .ok (.isub, 1) := by decide +kernel
theorem dX6_heightThen_91 : decode cX6_heightThen 91 = .ok (.aload_n 0, 1) := by decide +kernel
theorem dX6_heightThen_92 : decode cX6_heightThen 92 = .ok (.iload_n 1, 1) := by decide +kernel
theorem dX6_heightThen_93 : decode cX6_heightThen 93 = .ok (.invokevirtual 107, 3) := by decide +kernel
theorem dX6_heightThen_96 : decode cX6_heightThen 96 = .ok (.iload_n 3, 1) := by decide +kernel
theorem dX6_heightThen_97 : decode cX6_heightThen 97 = .ok (.imul, 1) := by decide +kernel
theorem dX6_heightThen_98 : decode cX6_heightThen 98 = .ok (.bipush 16, 2) := by decide +kernel
theorem dX6_heightThen_100 : decode cX6_heightThen 100 = .ok (.idiv, 1) := by decide +kernel
theorem dX6_heightThen_101 : decode cX6_heightThen 101 = .ok (.iadd, 1) := by decide +kernel
theorem dX6_heightThen_102 : decode cX6_heightThen 102 = .ok (.istore 4, 2) := by decide +kernel
theorem dX6_heightThen_104 : decode cX6_heightThen 104 = .ok (.iload 4, 2) := by decide +kernel
theorem dX6_heightThen_106 : decode cX6_heightThen 106 = .ok (.iload 4, 2) := by decide +kernel
theorem dX6_heightThen_108 : decode cX6_heightThen 108 = .ok (.aload_n 0, 1) := by decide +kernel
theorem dX6_heightThen_109 : decode cX6_heightThen 109 = .ok (.getfield 7, 3) := by decide +kernel
theorem dX6_heightThen_112 : decode cX6_heightThen 112 = .ok (.iconst 0, 1) := by decide +kernel
theorem dX6_heightThen_113 : decode cX6_heightThen 113 = .ok (.iaload, 1) := by decide +kernel
theorem dX6_heightThen_114 : decode cX6_heightThen 114 = .ok (.imul, 1) := by decide +kernel
theorem dX6_heightThen_115 : decode cX6_heightThen 115 = .ok (.sipush 1000, 3) := by decide +kernel
theorem dX6_heightThen_118 : decode cX6_heightThen 118 = .ok (.idiv, 1) := by decide +kernel
theorem dX6_heightThen_119 : decode cX6_heightThen 119 = .ok (.isub, 1) := by decide +kernel
theorem dX6_heightThen_120 : decode cX6_heightThen 120 = .ok (.istore 4, 2) := by decide +kernel
theorem dX6_heightThen_122 : decode cX6_heightThen 122 = .ok (.aload_n 0, 1) := by decide +kernel
theorem dX6_heightThen_123 : decode cX6_heightThen 123 = .ok (.getfield 7, 3) := by decide +kernel
theorem dX6_heightThen_126 : decode cX6_heightThen 126 = .ok (.iconst 5, 1) := by decide +kernel
theorem dX6_heightThen_127 : decode cX6_heightThen 127 = .ok (.iload_n 1, 1) := by decide +kernel
theorem dX6_heightThen_128 : decode cX6_heightThen 128 = .ok (.iadd, 1) := by decide +kernel
theorem dX6_heightThen_129 : decode cX6_heightThen 129 = .ok (.iaload, 1) := by decide +kernel
theorem dX6_heightThen_130 : decode cX6_heightThen 130 = .ok (.iconst 3, 1) := by decide +kernel
theorem dX6_heightThen_131 : decode cX6_heightThen 131 = .ok (.if_icmp .ne 10, 3) := by decide +kernel
theorem dX6_heightThen_134 : decode cX6_heightThen 134 = .ok (.iload 4, 2) := by decide +kernel
theorem dX6_heightThen_136 : decode cX6_heightThen 136 = .ok (.iconst 2, 1) := by decide +kernel
theorem dX6_heightThen_137 : decode cX6_heightThen 137 = .ok (.idiv, 1) := by decide +kernel
theorem dX6_heightThen_138 : decode cX6_heightThen 138 = .ok (.goto 5, 3) := by decide +kernel
theorem dX6_heightThen_141 : decode cX6_heightThen 141 = .ok (.iload 4, 2) := by decide +kernel
theorem dX6_heightThen_143 : decode cX6_heightThen 143 = .ok (.istore 4, 2) := by decide +kernel
theorem dX6_heightThen_145 : decode cX6_heightThen 145 = .ok (.iload 4, 2) := by decide +kernel
theorem dX6_heightThen_147 : decode cX6_heightThen 147 = .ok (.invokestatic 97, 3) := by decide +kernel
theorem dX6_heightThen_150 : decode cX6_heightThen 150 = .ok (.ireturn, 1) := by decide +kernel
theorem dX6_see_0 : decode cX6_see 0 = .ok (.sipush 267, 3) := by decide +kernel
theorem dX6_see_3 : decode cX6_see 3 = .ok (.bipush 26, 2) := by decide +kernel
theorem dX6_see_5 : decode cX6_see 5 = .ok (.iload_n 1, 1) := by decide +kernel
theorem dX6_see_6 : decode cX6_see 6 = .ok (.imul, 1) := by decide +kernel
theorem dX6_see_7 : decode cX6_see 7 = .ok (.iadd, 1) := by decide +kernel
theorem dX6_see_8 : decode cX6_see 8 = .ok (.istore_n 2, 1) := by decide +kernel
theorem dX6_see_9 : decode cX6_see 9 = .ok (.bipush 24, 2) := by decide +kernel
theorem dX6_see_11 : decode cX6_see 11 = .ok (.istore_n 3, 1) := by decide +kernel
theorem dX6_see_12 : decode cX6_see 12 = .ok (.iload_n 3, 1) := by decide +kernel
theorem dX6_see_13 : decode cX6_see 13 = .ok (.iconst 1, 1) := by decide +kernel
theorem dX6_see_14 : decode cX6_see 14 = .ok (.if_icmp .le 27, 3) := by decide +kernel
theorem dX6_see_17 : decode cX6_see 17 = .ok (.aload_n 0, 1) := by decide +kernel
theorem dX6_see_18 : decode cX6_see 18 = .ok (.getfield 7, 3) := by decide +kernel
theorem dX6_see_21 : decode cX6_see 21 = .ok (.iload_n 2, 1) := by decide +kernel
theorem dX6_see_22 : decode cX6_see 22 = .ok (.iconst 1, 1) := by decide +kernel
theorem dX6_see_23 : decode cX6_see 23 = .ok (.iadd, 1) := by decide +kernel
theorem dX6_see_24 : decode cX6_see 24 = .ok (.iload_n 3, 1) := by decide +kernel
theorem dX6_see_25 : decode cX6_see 25 = .ok (.iadd, 1) := by decide +kernel
theorem dX6_see_26 : decode cX6_see 26 = .ok (.aload_n 0, 1) := by decide +kernel
theorem dX6_see_27 : decode cX6_see 27 = .ok (.getfield 7, 3) := by decide +kernel
theorem dX6_see_30 : decode cX6_see 30 = .ok (.iload_n 2, 1) := by decide +kernel
theorem dX6_see_31 : decode cX6_see 31 = .ok (.iload_n 3, 1) := by decide +kernel
theorem dX6_see_32 : decode cX6_see 32 = .ok (.iadd, 1) := by decide +kernel
theorem dX6_see_33 : decode cX6_see 33 = .ok (.iaload, 1) := by decide +kernel
theorem dX6_see_34 : decode cX6_see 34 = .ok (.iastore, 1) := by decide +kernel
theorem dX6_see_35 : decode cX6_see 35 = .ok (.iinc 3 (-1), 3) := by decide +kernel
theorem dX6_see_38 : decode cX6_see 38 = .ok (.goto (-26), 3) := by decide +kernel
theorem dX6_see_41 : decode cX6_see 41 = .ok (.aload_n 0, 1) := by decide +kernel
theorem dX6_see_42 : decode cX6_see 42 = .ok (.getfield 7, 3) := by decide +kernel
theorem dX6_see_45 : decode cX6_see 45 = .ok (.iload_n 2, 1) := by decide +kernel
theorem dX6_see_46 : decode cX6_see 46 = .ok (.iconst 2, 1) := by decide +kernel
theorem dX6_see_47 : decode cX6_see 47 = .ok (.iadd, 1) := by decide +kernel
theorem dX6_see_48 : decode cX6_see 48 = .ok (.aload_n 0, 1) := by decide +kernel
theorem dX6_see_49 : decode cX6_see 49 = .ok (.aload_n 0, 1) := by decide +kernel
theorem dX6_see_50 : decode cX6_see 50 = .ok (.getfield 7, 3) := by decide +kernel
theorem dX6_see_53 : decode cX6_see 53 = .ok (.iload_n 2, 1) := by decide +kernel
theorem dX6_see_54 : decode cX6_see 54 = .ok (.iaload, 1) := by decide +kernel
theorem dX6_see_55 : decode cX6_see 55 = .ok (.invokevirtual 85, 3) := by decide +kernel
theorem dX6_see_58 : decode cX6_see 58 = .ok (.iastore, 1) := by decide +kernel
theorem dX6_see_59 : decode cX6_see 59 = .ok (.aload_n 0, 1) := by decide +kernel
theorem dX6_see_60 : decode cX6_see 60 = .ok (.getfield 7, 3) := by decide +kernel
theorem dX6_see_63 : decode cX6_see 63 = .ok (.iload_n 2, 1) := by decide +kernel
theorem dX6_see_64 : decode cX6_see 64 = .ok (.iconst 1, 1) := by decide +kernel
theorem dX6_see_65 : decode cX6_see 65 = .ok (.iadd, 1) := by decide +kernel
theorem dX6_see_66 : decode cX6_see 66 = .ok (.aload_n 0, 1) := by decide +kernel
theorem dX6_see_67 : decode cX6_see 67 = .ok (.getfield 7, 3) := by decide +kernel
theorem dX6_see_70 : decode cX6_see 70 = .ok (.iload_n 2, 1) := by decide +kernel
theorem dX6_see_71 : decode cX6_see 71 = .ok (.iconst 1, 1) := by decide +kernel
theorem dX6_see_72 : decode cX6_see 72 = .ok (.iadd, 1) := by decide +kernel
theorem dX6_see_73 : decode cX6_see 73 = .ok (.iaload, 1) := by decide +kernel
theorem dX6_see_74 : decode cX6_see 74 = .ok (.bipush 24, 2) := by decide +kernel
theorem dX6_see_76 : decode cX6_see 76 = .ok (.if_icmp .ge 16, 3) := by decide +kernel
theorem dX6_see_79 : decode cX6_see 79 = .ok (.aload_n 0, 1) := by decide +kernel
theorem dX6_see_80 : decode cX6_see 80 = .ok (.getfield 7, 3) := by decide +kernel
theorem dX6_see_83 : decode cX6_see 83 = .ok (.iload_n 2, 1) := by decide +kernel
theorem dX6_see_84 : decode cX6_see 84 = .ok (.iconst 1, 1) := by decide +kernel
theorem dX6_see_85 : decode cX6_see 85 = .ok (.iadd, 1) := by decide +kernel
theorem dX6_see_86 : decode cX6_see 86 = .ok (.iaload, 1) := by decide +kernel
theorem dX6_see_87 : decode cX6_see 87 = .ok (.iconst 1, 1) := by decide +kernel
theorem dX6_see_88 : decode cX6_see 88 = .ok (.iadd, 1) := by decide +kernel
theorem dX6_see_89 : decode cX6_see 89 = .ok (.goto 5, 3) := by decide +kernel
theorem dX6_see_92 : decode cX6_see 92 = .ok (.bipush 24, 2) := by decide +kernel
theorem dX6_see_94 : decode cX6_see 94 = .ok (.iastore, 1) := by decide +kernel
theorem dX6_see_95 : decode cX6_see 95 = .ok (.return_, 1) := by decide +kernel
theorem dX6_tick_0 : decode cX6_tick 0 = .ok (.iconst 0, 1) := by decide +kernel
theorem dX6_tick_1 : decode cX6_tick 1 = .ok (.istore_n 1, 1) := by decide +kernel
theorem dX6_tick_2 : decode cX6_tick 2 = .ok (.iload_n 1, 1) := by decide +kernel
theorem dX6_tick_3 : decode cX6_tick 3 = .ok (.bipush 60, 2) := by decide +kernel
theorem dX6_tick_5 : decode cX6_tick 5 = .ok (.if_icmp .ge 20, 3) := by decide +kernel
theorem dX6_tick_8 : decode cX6_tick 8 = .ok (.aload_n 0, 1) := by decide +kernel
theorem dX6_tick_9 : decode cX6_tick 9 = .ok (.getfield 30, 3) := by decide +kernel
theorem dX6_tick_12 : decode cX6_tick 12 = .ok (.iload_n 1, 1) := by decide +kernel
theorem dX6_tick_13 : decode cX6_tick 13 = .ok (.aload_n 0, 1) := by decide +kernel
theorem dX6_tick_14 : decode cX6_tick 14 = .ok (.iload_n 1, 1) := by decide +kernel
theorem dX6_tick_15 : decode cX6_tick 15 = .ok (.invokevirtual 110, 3) := by decide +kernel
theorem dX6_tick_18 : decode cX6_tick 18 = .ok (.iastore, 1) := by decide +kernel
theorem dX6_tick_19 : decode cX6_tick 19 = .ok (.iinc 1 1, 3) := by decide +kernel
theorem dX6_tick_22 : decode cX6_tick 22 = .ok (.goto (-20), 3) := by decide +kernel
theorem dX6_tick_25 : decode cX6_tick 25 = .ok (.iconst 0, 1) := by decide +kernel
theorem dX6_tick_26 : decode cX6_tick 26 = .ok (.istore_n 1, 1) := by decide +kernel
theorem dX6_tick_27 : decode cX6_tick 27 = .ok (.iload_n 1, 1) := by decide +kernel
theorem dX6_tick_28 : decode cX6_tick 28 = .ok (.bipush 60, 2) := by decide +kernel
theorem dX6_tick_30 : decode cX6_tick 30 = .ok (.if_icmp .ge 99, 3) := by decide +kernel
theorem dX6_tick_33 : decode cX6_tick 33 = .ok (.aload_n 0, 1) := by decide +kernel
theorem dX6_tick_34 : decode cX6_tick 34 = .ok (.getfield 7, 3) := by decide +kernel
theorem dX6_tick_37 : decode cX6_tick 37 = .ok (.bipush 125, 2) := by decide +kernel
theorem dX6_tick_39 : decode cX6_tick 39 = .ok (.iload_n 1, 1) := by decide +kernel
theorem dX6_tick_40 : decode cX6_tick 40 = .ok (.iadd, 1) := by decide +kernel
theorem dX6_tick_41 : decode cX6_tick 41 = .ok (.aload_n 0, 1) := by decide +kernel
theorem dX6_tick_42 : decode cX6_tick 42 = .ok (.iload_n 1, 1) := by decide +kernel
theorem dX6_tick_43 : decode cX6_tick 43 = .ok (.invokevirtual 85, 3) := by decide +kernel
theorem dX6_tick_46 : decode cX6_tick 46 = .ok (.iastore, 1) := by decide +kernel
theorem dX6_tick_47 : decode cX6_tick 47 = .ok (.aload_n 0, 1) := by decide +kernel
theorem dX6_tick_48 : decode cX6_tick 48 = .ok (.getfield 7, 3) := by decide +kernel
theorem dX6_tick_51 : decode cX6_tick 51 = .ok (.bipush 65, 2) := by decide +kernel
theorem dX6_tick_53 : decode cX6_tick 53 = .ok (.iload_n 1, 1) := by decide +kernel
theorem dX6_tick_54 : decode cX6_tick 54 = .ok (.iadd, 1) := by decide +kernel
theorem dX6_tick_55 : decode cX6_tick 55 = .ok (.aload_n 0, 1) := by decide +kernel
theorem dX6_tick_56 : decode cX6_tick 56 = .ok (.getfield 30, 3) := by decide +kernel
theorem dX6_tick_59 : decode cX6_tick 59 = .ok (.iload_n 1, 1) := by decide +kernel
theorem dX6_tick_60 : decode cX6_tick 60 = .ok (.iaload, 1) := by decide +kernel
theorem dX6_tick_61 : decode cX6_tick 61 = .ok (.iastore, 1) := by decide +kernel
theorem dX6_tick_62 : decode cX6_tick 62 = .ok (.aload_n 0, 1) := by decide +kernel
theorem dX6_tick_63 : decode cX6_tick 63 = .ok (.getfield 7, 3) := by decide +kernel
theorem dX6_tick_66 : decode cX6_tick 66 = .ok (.sipush 185, 3) := by decide +kernel
theorem dX6_tick_69 : decode cX6_tick 69 = .ok (.iload_n 1, 1) := by decide +kernel
theorem dX6_tick_70 : decode cX6_tick 70 = .ok (.iadd, 1) := by decide +kernel
theorem dX6_tick_71 : decode cX6_tick 71 = .ok (.aload_n 0, 1) := by decide +kernel
theorem dX6_tick_72 : decode cX6_tick 72 = .ok (.getfield 7, 3) := by decide +kernel
theorem dX6_tick_75 : decode cX6_tick 75 = .ok (.sipush 185, 3) := by decide +kernel
theorem dX6_tick_78 : decode cX6_tick 78 = .ok (.iload_n 1, 1) := by decide +kernel
theorem dX6_tick_79 : decode cX6_tick 79 = .ok (.iadd, 1) := by decide +kernel
theorem dX6_tick_80 : decode cX6_tick 80 = .ok (.iaload, 1) := by decide +kernel
theorem dX6_tick_81 : decode cX6_tick 81 = .ok (.bipush (-6), 2) := by decide +kernel
theorem dX6_tick_83 : decode cX6_tick 83 = .ok (.if_icmp .ne 29, 3) := by decide +kernel
theorem dX6_tick_86 : decode cX6_tick 86 = .ok (.aload_n 0, 1) := by decide +kernel
theorem dX6_tick_87 : decode cX6_tick 87 = .ok (.iload_n 1, 1) := by decide +kernel
theorem dX6_tick_88 : decode cX6_tick 88 = .ok (.invokevirtual 85, 3) := by decide +kernel
theorem dX6_tick_91 : decode cX6_tick 91 = .ok (.invokestatic 88, 3) := by decide +kernel
theorem dX6_tick_94 : decode cX6_tick 94 = .ok (.aload_n 0, 1) := by decide +kernel
theorem dX6_tick_95 : decode cX6_tick 95 = .ok (.getfield 7, 3) := by decide +kernel
theorem dX6_tick_98 : decode cX6_tick 98 = .ok (.iconst 3, 1) := by decide +kernel
theorem dX6_tick_99 : decode cX6_tick 99 = .ok (.iaload, 1) := by decide +kernel
theorem dX6_tick_100 : decode cX6_tick 100 = .ok (.if_icmp .le 12, 3) := by decide +kernel
theorem dX6_tick_103 : decode cX6_tick 103 = .ok (.aload_n 0, 1) := by decide +kernel
theorem dX6_tick_104 : decode cX6_tick 104 = .ok (.getfield 7, 3) := by decide +kernel
theorem dX6_tick_107 : decode cX6_tick 107 = .ok (.iconst 4, 1) := by decide +kernel
theorem dX6_tick_108 : decode cX6_tick 108 = .ok (.iaload, 1) := by decide +kernel
theorem dX6_tick_109 : decode cX6_tick 109 = .ok (.goto 13, 3) := by decide +kernel
theorem dX6_tick_112 : decode cX6_tick 112 = .ok (.aload_n 0, 1) := by decide +kernel
theorem dX6_tick_113 : decode cX6_tick 113 = .ok (.getfield 7, 3) := by decide +kernel
theorem dX6_tick_116 : decode cX6_tick 116 = .ok (.sipush 185, 3) := by decide +kernel
theorem dX6_tick_119 : decode cX6_tick 119 = .ok (.iload_n 1, 1) := by decide +kernel
theorem dX6_tick_120 : decode cX6_tick 120 = .ok (.iadd, 1) := by decide +kernel
theorem dX6_tick_121 : decode cX6_tick 121 = .ok (.iaload, 1) := by decide +kernel
theorem dX6_tick_122 : decode cX6_tick 122 = .ok (.iastore, 1) := by decide +kernel
theorem dX6_tick_123 : decode cX6_tick 123 = .ok (.iinc 1 1, 3) := by decide +kernel
theorem dX6_tick_126 : decode cX6_tick 126 = .ok (.goto (-99), 3) := by decide +kernel
end
section
theorem dX6_tick_129 : decode cX6_tick 129 = .ok (.iconst 0, 1) := by decide +kernel
theorem dX6_tick_130 : decode cX6_tick 130 = .ok (.istore_n 1, 1) := by decide +kernel
theorem dX6_tick_131 : decode cX6_tick 131 = .ok (.iload_n 1, 1) := by decide +kernel
theorem dX6_tick_132 : decode cX6_tick 132 = .ok (.aload_n 0, 1) := by decide +kernel
theorem dX6_tick_133 : decode cX6_tick 133 = .ok (.getfield 7, 3) := by decide +kernel
theorem dX6_tick_136 : decode cX6_tick 136 = .ok (.sipush 266, 3) := by decide +kernel
theorem dX6_tick_139 : decode cX6_tick 139 = .ok (.iaload, 1) := by decide +kernel
theorem dX6_tick_140 : decode cX6_tick 140 = .ok (.if_icmp .ge 14, 3) := by decide +kernel
theorem dX6_tick_143 : decode cX6_tick 143 = .ok (.aload_n 0, 1) := by decide +kernel
theorem dX6_tick_144 : decode cX6_tick 144 = .ok (.iload_n 1, 1) := by decide +kernel
theorem dX6_tick_145 : decode cX6_tick 145 = .ok (.invokevirtual 113, 3) := by decide +kernel
theorem dX6_tick_148 : decode cX6_tick 148 = .ok (.iinc 1 1, 3) := by decide +kernel
theorem dX6_tick_151 : decode cX6_tick 151 = .ok (.goto (-20), 3) := by decide +kernel
theorem dX6_tick_154 : decode cX6_tick 154 = .ok (.aload_n 0, 1) := by decide +kernel
theorem dX6_tick_155 : decode cX6_tick 155 = .ok (.getfield 7, 3) := by decide +kernel
theorem dX6_tick_158 : decode cX6_tick 158 = .ok (.iconst 4, 1) := by decide +kernel
theorem dX6_tick_159 : decode cX6_tick 159 = .ok (.dup2, 1) := by decide +kernel
theorem dX6_tick_160 : decode cX6_tick 160 = .ok (.iaload, 1) := by decide +kernel
theorem dX6_tick_161 : decode cX6_tick 161 = .ok (.iconst 1, 1) := by decide +kernel
theorem dX6_tick_162 : decode cX6_tick 162 = .ok (.iadd, 1) := by decide +kernel
theorem dX6_tick_163 : decode cX6_tick 163 = .ok (.iastore, 1) := by decide +kernel
theorem dX6_tick_164 : decode cX6_tick 164 = .ok (.return_, 1) := by decide +kernel
theorem dX6_isStill_0 : decode cX6_isStill 0 = .ok (.aload_n 0, 1) := by decide +kernel
theorem dX6_isStill_1 : decode cX6_isStill 1 = .ok (.iload_n 1, 1) := by decide +kernel
theorem dX6_isStill_2 : decode cX6_isStill 2 = .ok (.invokevirtual 85, 3) := by decide +kernel
theorem dX6_isStill_5 : decode cX6_isStill 5 = .ok (.invokestatic 88, 3) := by decide +kernel
theorem dX6_isStill_8 : decode cX6_isStill 8 = .ok (.aload_n 0, 1) := by decide +kernel
theorem dX6_isStill_9 : decode cX6_isStill 9 = .ok (.getfield 7, 3) := by decide +kernel
theorem dX6_isStill_12 : decode cX6_isStill 12 = .ok (.iconst 3, 1) := by decide +kernel
theorem dX6_isStill_13 : decode cX6_isStill 13 = .ok (.iaload, 1) := by decide +kernel
theorem dX6_isStill_14 : decode cX6_isStill 14 = .ok (.if_icmp .gt 28, 3) := by decide +kernel
theorem dX6_isStill_17 : decode cX6_isStill 17 = .ok (.aload_n 0, 1) := by decide +kernel
theorem dX6_isStill_18 : decode cX6_isStill 18 = .ok (.getfield 7, 3) := by decide +kernel
theorem dX6_isStill_21 : decode cX6_isStill 21 = .ok (.bipush 125, 2) := by decide +kernel
theorem dX6_isStill_23 : decode cX6_isStill 23 = .ok (.iload_n 1, 1) := by decide +kernel
theorem dX6_isStill_24 : decode cX6_isStill 24 = .ok (.iadd, 1) := by decide +kernel
theorem dX6_isStill_25 : decode cX6_isStill 25 = .ok (.iaload, 1) := by decide +kernel
theorem dX6_isStill_26 : decode cX6_isStill 26 = .ok (.invokestatic 88, 3) := by decide +kernel
theorem dX6_isStill_29 : decode cX6_isStill 29 = .ok (.aload_n 0, 1) := by decide +kernel
theorem dX6_isStill_30 : decode cX6_isStill 30 = .ok (.getfield 7, 3) := by decide +kernel
theorem dX6_isStill_33 : decode cX6_isStill 33 = .ok (.iconst 3, 1) := by decide +kernel
theorem dX6_isStill_34 : decode cX6_isStill 34 = .ok (.iaload, 1) := by decide +kernel
theorem dX6_isStill_35 : decode cX6_isStill 35 = .ok (.if_icmp .gt 7, 3) := by decide +kernel
theorem dX6_isStill_38 : decode cX6_isStill 38 = .ok (.iconst 1, 1) := by decide +kernel
theorem dX6_isStill_39 : decode cX6_isStill 39 = .ok (.goto 4, 3) := by decide +kernel
theorem dX6_isStill_42 : decode cX6_isStill 42 = .ok (.iconst 0, 1) := by decide +kernel
theorem dX6_isStill_43 : decode cX6_isStill 43 = .ok (.ireturn, 1) := by decide +kernel
theorem dX6_stillOnes_0 : decode cX6_stillOnes 0 = .ok (.iconst 0, 1) := by decide +kernel
theorem dX6_stillOnes_1 : decode cX6_stillOnes 1 = .ok (.istore_n 1, 1) := by decide +kernel
theorem dX6_stillOnes_2 : decode cX6_stillOnes 2 = .ok (.iconst 0, 1) := by decide +kernel
theorem dX6_stillOnes_3 : decode cX6_stillOnes 3 = .ok (.istore_n 2, 1) := by decide +kernel
theorem dX6_stillOnes_4 : decode cX6_stillOnes 4 = .ok (.iload_n 2, 1) := by decide +kernel
theorem dX6_stillOnes_5 : decode cX6_stillOnes 5 = .ok (.bipush 60, 2) := by decide +kernel
theorem dX6_stillOnes_7 : decode cX6_stillOnes 7 = .ok (.if_icmp .ge 33, 3) := by decide +kernel
theorem dX6_stillOnes_10 : decode cX6_stillOnes 10 = .ok (.iload_n 1, 1) := by decide +kernel
theorem dX6_stillOnes_11 : decode cX6_stillOnes 11 = .ok (.aload_n 0, 1) := by decide +kernel
theorem dX6_stillOnes_12 : decode cX6_stillOnes 12 = .ok (.iload_n 2, 1) := by decide +kernel
theorem dX6_stillOnes_13 : decode cX6_stillOnes 13 = .ok (.invokevirtual 65, 3) := by decide +kernel
theorem dX6_stillOnes_16 : decode cX6_stillOnes 16 = .ok (.ifCond .ne 15, 3) := by decide +kernel
theorem dX6_stillOnes_19 : decode cX6_stillOnes 19 = .ok (.aload_n 0, 1) := by decide +kernel
theorem dX6_stillOnes_20 : decode cX6_stillOnes 20 = .ok (.iload_n 2, 1) := by decide +kernel
theorem dX6_stillOnes_21 : decode cX6_stillOnes 21 = .ok (.invokevirtual 117, 3) := by decide +kernel
theorem dX6_stillOnes_24 : decode cX6_stillOnes 24 = .ok (.ifCond .eq 7, 3) := by decide +kernel
theorem dX6_stillOnes_27 : decode cX6_stillOnes 27 = .ok (.iconst 1, 1) := by decide +kernel
theorem dX6_stillOnes_28 : decode cX6_stillOnes 28 = .ok (.goto 4, 3) := by decide +kernel
theorem dX6_stillOnes_31 : decode cX6_stillOnes 31 = .ok (.iconst 0, 1) := by decide +kernel
theorem dX6_stillOnes_32 : decode cX6_stillOnes 32 = .ok (.iadd, 1) := by decide +kernel
theorem dX6_stillOnes_33 : decode cX6_stillOnes 33 = .ok (.istore_n 1, 1) := by decide +kernel
theorem dX6_stillOnes_34 : decode cX6_stillOnes 34 = .ok (.iinc 2 1, 3) := by decide +kernel
theorem dX6_stillOnes_37 : decode cX6_stillOnes 37 = .ok (.goto (-33), 3) := by decide +kernel
theorem dX6_stillOnes_40 : decode cX6_stillOnes 40 = .ok (.iload_n 1, 1) := by decide +kernel
theorem dX6_stillOnes_41 : decode cX6_stillOnes 41 = .ok (.ireturn, 1) := by decide +kernel
theorem dX6_ticks_0 : decode cX6_ticks 0 = .ok (.iconst 0, 1) := by decide +kernel
theorem dX6_ticks_1 : decode cX6_ticks 1 = .ok (.istore_n 2, 1) := by decide +kernel
theorem dX6_ticks_2 : decode cX6_ticks 2 = .ok (.iload_n 2, 1) := by decide +kernel
theorem dX6_ticks_3 : decode cX6_ticks 3 = .ok (.iload_n 1, 1) := by decide +kernel
theorem dX6_ticks_4 : decode cX6_ticks 4 = .ok (.if_icmp .ge 13, 3) := by decide +kernel
theorem dX6_ticks_7 : decode cX6_ticks 7 = .ok (.aload_n 0, 1) := by decide +kernel
theorem dX6_ticks_8 : decode cX6_ticks 8 = .ok (.invokevirtual 120, 3) := by decide +kernel
theorem dX6_ticks_11 : decode cX6_ticks 11 = .ok (.iinc 2 1, 3) := by decide +kernel
theorem dX6_ticks_14 : decode cX6_ticks 14 = .ok (.goto (-12), 3) := by decide +kernel
theorem dX6_ticks_17 : decode cX6_ticks 17 = .ok (.return_, 1) := by decide +kernel
theorem dX6_pass_0 : decode cX6_pass 0 = .ok (.iload_n 1, 1) := by decide +kernel
theorem dX6_pass_1 : decode cX6_pass 1 = .ok (.iconst 1, 1) := by decide +kernel
theorem dX6_pass_2 : decode cX6_pass 2 = .ok (.bipush 100, 2) := by decide +kernel
theorem dX6_pass_4 : decode cX6_pass 4 = .ok (.invokestatic 36, 3) := by decide +kernel
theorem dX6_pass_7 : decode cX6_pass 7 = .ok (.ifCond .ne 6, 3) := by decide +kernel
theorem dX6_pass_10 : decode cX6_pass 10 = .ok (.bipush (-2), 2) := by decide +kernel
theorem dX6_pass_12 : decode cX6_pass 12 = .ok (.ireturn, 1) := by decide +kernel
theorem dX6_pass_13 : decode cX6_pass 13 = .ok (.aload_n 0, 1) := by decide +kernel
theorem dX6_pass_14 : decode cX6_pass 14 = .ok (.getfield 7, 3) := by decide +kernel
theorem dX6_pass_17 : decode cX6_pass 17 = .ok (.iconst 4, 1) := by decide +kernel
theorem dX6_pass_18 : decode cX6_pass 18 = .ok (.iaload, 1) := by decide +kernel
theorem dX6_pass_19 : decode cX6_pass 19 = .ok (.iload_n 1, 1) := by decide +kernel
theorem dX6_pass_20 : decode cX6_pass 20 = .ok (.iadd, 1) := by decide +kernel
theorem dX6_pass_21 : decode cX6_pass 21 = .ok (.ldc 123, 2) := by decide +kernel
theorem dX6_pass_23 : decode cX6_pass 23 = .ok (.if_icmp .le 6, 3) := by decide +kernel
theorem dX6_pass_26 : decode cX6_pass 26 = .ok (.bipush (-4), 2) := by decide +kernel
theorem dX6_pass_28 : decode cX6_pass 28 = .ok (.ireturn, 1) := by decide +kernel
theorem dX6_pass_29 : decode cX6_pass 29 = .ok (.aload_n 0, 1) := by decide +kernel
theorem dX6_pass_30 : decode cX6_pass 30 = .ok (.invokevirtual 44, 3) := by decide +kernel
theorem dX6_pass_33 : decode cX6_pass 33 = .ok (.aload_n 0, 1) := by decide +kernel
theorem dX6_pass_34 : decode cX6_pass 34 = .ok (.iload_n 1, 1) := by decide +kernel
theorem dX6_pass_35 : decode cX6_pass 35 = .ok (.invokevirtual 124, 3) := by decide +kernel
theorem dX6_pass_38 : decode cX6_pass 38 = .ok (.aload_n 0, 1) := by decide +kernel
theorem dX6_pass_39 : decode cX6_pass 39 = .ok (.invokevirtual 82, 3) := by decide +kernel
theorem dX6_pass_42 : decode cX6_pass 42 = .ok (.aload_n 0, 1) := by decide +kernel
theorem dX6_pass_43 : decode cX6_pass 43 = .ok (.invokevirtual 127, 3) := by decide +kernel
theorem dX6_pass_46 : decode cX6_pass 46 = .ok (.isub, 1) := by decide +kernel
theorem dX6_pass_47 : decode cX6_pass 47 = .ok (.ireturn, 1) := by decide +kernel
theorem dX6_cell_0 : decode cX6_cell 0 = .ok (.iload_n 1, 1) := by decide +kernel
theorem dX6_cell_1 : decode cX6_cell 1 = .ok (.iload_n 2, 1) := by decide +kernel
theorem dX6_cell_2 : decode cX6_cell 2 = .ok (.invokestatic 58, 3) := by decide +kernel
theorem dX6_cell_5 : decode cX6_cell 5 = .ok (.ifCond .ne 5, 3) := by decide +kernel
theorem dX6_cell_8 : decode cX6_cell 8 = .ok (.iconst (-1), 1) := by decide +kernel
theorem dX6_cell_9 : decode cX6_cell 9 = .ok (.ireturn, 1) := by decide +kernel
theorem dX6_cell_10 : decode cX6_cell 10 = .ok (.bipush 10, 2) := by decide +kernel
theorem dX6_cell_12 : decode cX6_cell 12 = .ok (.iload_n 2, 1) := by decide +kernel
theorem dX6_cell_13 : decode cX6_cell 13 = .ok (.imul, 1) := by decide +kernel
theorem dX6_cell_14 : decode cX6_cell 14 = .ok (.iload_n 1, 1) := by decide +kernel
theorem dX6_cell_15 : decode cX6_cell 15 = .ok (.iadd, 1) := by decide +kernel
theorem dX6_cell_16 : decode cX6_cell 16 = .ok (.istore 4, 2) := by decide +kernel
theorem dX6_cell_18 : decode cX6_cell 18 = .ok (.iload_n 3, 1) := by decide +kernel
theorem dX6_cell_19 : decode cX6_cell 19 = .ok (.tableswitch 130 0 6 #[41, 51, 62, 77, 87, 111, 123], 41) := by decide +kernel
theorem dX6_cell_60 : decode cX6_cell 60 = .ok (.aload_n 0, 1) := by decide +kernel
theorem dX6_cell_61 : decode cX6_cell 61 = .ok (.getfield 7, 3) := by decide +kernel
theorem dX6_cell_64 : decode cX6_cell 64 = .ok (.iconst 5, 1) := by decide +kernel
theorem dX6_cell_65 : decode cX6_cell 65 = .ok (.iload 4, 2) := by decide +kernel
theorem dX6_cell_67 : decode cX6_cell 67 = .ok (.iadd, 1) := by decide +kernel
theorem dX6_cell_68 : decode cX6_cell 68 = .ok (.iaload, 1) := by decide +kernel
theorem dX6_cell_69 : decode cX6_cell 69 = .ok (.ireturn, 1) := by decide +kernel
theorem dX6_cell_70 : decode cX6_cell 70 = .ok (.aload_n 0, 1) := by decide +kernel
theorem dX6_cell_71 : decode cX6_cell 71 = .ok (.iload 4, 2) := by decide +kernel
theorem dX6_cell_73 : decode cX6_cell 73 = .ok (.invokevirtual 85, 3) := by decide +kernel
theorem dX6_cell_76 : decode cX6_cell 76 = .ok (.sipush 10000, 3) := by decide +kernel
theorem dX6_cell_79 : decode cX6_cell 79 = .ok (.iadd, 1) := by decide +kernel
theorem dX6_cell_80 : decode cX6_cell 80 = .ok (.ireturn, 1) := by decide +kernel
theorem dX6_cell_81 : decode cX6_cell 81 = .ok (.aload_n 0, 1) := by decide +kernel
theorem dX6_cell_82 : decode cX6_cell 82 = .ok (.getfield 7, 3) := by decide +kernel
theorem dX6_cell_85 : decode cX6_cell 85 = .ok (.bipush 125, 2) := by decide +kernel
theorem dX6_cell_87 : decode cX6_cell 87 = .ok (.iload 4, 2) := by decide +kernel
theorem dX6_cell_89 : decode cX6_cell 89 = .ok (.iadd, 1) := by decide +kernel
theorem dX6_cell_90 : decode cX6_cell 90 = .ok (.iaload, 1) := by decide +kernel
theorem dX6_cell_91 : decode cX6_cell 91 = .ok (.sipush 10000, 3) := by decide +kernel
theorem dX6_cell_94 : decode cX6_cell 94 = .ok (.iadd, 1) := by decide +kernel
theorem dX6_cell_95 : decode cX6_cell 95 = .ok (.ireturn, 1) := by decide +kernel
theorem dX6_cell_96 : decode cX6_cell 96 = .ok (.aload_n 0, 1) := by decide +kernel
theorem dX6_cell_97 : decode cX6_cell 97 = .ok (.iload 4, 2) := by decide +kernel
theorem dX6_cell_99 : decode cX6_cell 99 = .ok (.invokevirtual 107, 3) := by decide +kernel
theorem dX6_cell_102 : decode cX6_cell 102 = .ok (.ldc 123, 2) := by decide +kernel
theorem dX6_cell_104 : decode cX6_cell 104 = .ok (.iadd, 1) := by decide +kernel
theorem dX6_cell_105 : decode cX6_cell 105 = .ok (.ireturn, 1) := by decide +kernel
theorem dX6_cell_106 : decode cX6_cell 106 = .ok (.aload_n 0, 1) := by decide +kernel
theorem dX6_cell_107 : decode cX6_cell 107 = .ok (.iload 4, 2) := by decide +kernel
theorem dX6_cell_109 : decode cX6_cell 109 = .ok (.invokevirtual 65, 3) := by decide +kernel
theorem dX6_cell_112 : decode cX6_cell 112 = .ok (.ifCond .ne 12, 3) := by decide +kernel
theorem dX6_cell_115 : decode cX6_cell 115 = .ok (.aload_n 0, 1) := by decide +kernel
theorem dX6_cell_116 : decode cX6_cell 116 = .ok (.iload 4, 2) := by decide +kernel
theorem dX6_cell_118 : decode cX6_cell 118 = .ok (.invokevirtual 117, 3) := by decide +kernel
theorem dX6_cell_121 : decode cX6_cell 121 = .ok (.ifCond .eq 7, 3) := by decide +kernel
theorem dX6_cell_124 : decode cX6_cell 124 = .ok (.iconst 1, 1) := by decide +kernel
theorem dX6_cell_125 : decode cX6_cell 125 = .ok (.goto 4, 3) := by decide +kernel
theorem dX6_cell_128 : decode cX6_cell 128 = .ok (.iconst 0, 1) := by decide +kernel
theorem dX6_cell_129 : decode cX6_cell 129 = .ok (.ireturn, 1) := by decide +kernel
theorem dX6_cell_130 : decode cX6_cell 130 = .ok (.aload_n 0, 1) := by decide +kernel
theorem dX6_cell_131 : decode cX6_cell 131 = .ok (.getfield 7, 3) := by decide +kernel
theorem dX6_cell_134 : decode cX6_cell 134 = .ok (.sipush 185, 3) := by decide +kernel
theorem dX6_cell_137 : decode cX6_cell 137 = .ok (.iload 4, 2) := by decide +kernel
theorem dX6_cell_139 : decode cX6_cell 139 = .ok (.iadd, 1) := by decide +kernel
theorem dX6_cell_140 : decode cX6_cell 140 = .ok (.iaload, 1) := by decide +kernel
theorem dX6_cell_141 : decode cX6_cell 141 = .ok (.ireturn, 1) := by decide +kernel
theorem dX6_cell_142 : decode cX6_cell 142 = .ok (.aload_n 0, 1) := by decide +kernel
theorem dX6_cell_143 : decode cX6_cell 143 = .ok (.iload 4, 2) := by decide +kernel
theorem dX6_cell_145 : decode cX6_cell 145 = .ok (.invokevirtual 62, 3) := by decide +kernel
theorem dX6_cell_148 : decode cX6_cell 148 = .ok (.ireturn, 1) := by decide +kernel
theorem dX6_cell_149 : decode cX6_cell 149 = .ok (.bipush (-2), 2) := by decide +kernel
theorem dX6_cell_151 : decode cX6_cell 151 = .ok (.ireturn, 1) := by decide +kernel
theorem dX6_dipper_0 : decode cX6_dipper 0 = .ok (.aload_n 0, 1) := by decide +kernel
theorem dX6_dipper_1 : decode cX6_dipper 1 = .ok (.iload_n 1, 1) := by decide +kernel
theorem dX6_dipper_2 : decode cX6_dipper 2 = .ok (.invokevirtual 94, 3) := by decide +kernel
theorem dX6_dipper_5 : decode cX6_dipper 5 = .ok (.ifCond .ne 5, 3) := by decide +kernel
theorem dX6_dipper_8 : decode cX6_dipper 8 = .ok (.iconst (-1), 1) := by decide +kernel
theorem dX6_dipper_9 : decode cX6_dipper 9 = .ok (.ireturn, 1) := by decide +kernel
theorem dX6_dipper_10 : decode cX6_dipper 10 = .ok (.iload_n 2, 1) := by decide +kernel
theorem dX6_dipper_11 : decode cX6_dipper 11 = .ok (.tableswitch 80 0 5 #[37, 47, 57, 57, 57, 66], 37) := by decide +kernel
theorem dX6_dipper_48 : decode cX6_dipper 48 = .ok (.aload_n 0, 1) := by decide +kernel
theorem dX6_dipper_49 : decode cX6_dipper 49 = .ok (.iload_n 1, 1) := by decide +kernel
theorem dX6_dipper_50 : decode cX6_dipper 50 = .ok (.iconst 0, 1) := by decide +kernel
theorem dX6_dipper_51 : decode cX6_dipper 51 = .ok (.invokevirtual 54, 3) := by decide +kernel
theorem dX6_dipper_54 : decode cX6_dipper 54 = .ok (.bipush 10, 2) := by decide +kernel
theorem dX6_dipper_56 : decode cX6_dipper 56 = .ok (.irem, 1) := by decide +kernel
theorem dX6_dipper_57 : decode cX6_dipper 57 = .ok (.ireturn, 1) := by decide +kernel
theorem dX6_dipper_58 : decode cX6_dipper 58 = .ok (.aload_n 0, 1) := by decide +kernel
theorem dX6_dipper_59 : decode cX6_dipper 59 = .ok (.iload_n 1, 1) := by decide +kernel
theorem dX6_dipper_60 : decode cX6_dipper 60 = .ok (.iconst 0, 1) := by decide +kernel
theorem dX6_dipper_61 : decode cX6_dipper 61 = .ok (.invokevirtual 54, 3) := by decide +kernel
theorem dX6_dipper_64 : decode cX6_dipper 64 = .ok (.bipush 10, 2) := by decide +kernel
theorem dX6_dipper_66 : decode cX6_dipper 66 = .ok (.idiv, 1) := by decide +kernel
theorem dX6_dipper_67 : decode cX6_dipper 67 = .ok (.ireturn, 1) := by decide +kernel
theorem dX6_dipper_68 : decode cX6_dipper 68 = .ok (.aload_n 0, 1) := by decide +kernel
theorem dX6_dipper_69 : decode cX6_dipper 69 = .ok (.iload_n 1, 1) := by decide +kernel
theorem dX6_dipper_70 : decode cX6_dipper 70 = .ok (.iload_n 2, 1) := by decide +kernel
theorem dX6_dipper_71 : decode cX6_dipper 71 = .ok (.iconst 1, 1) := by decide +kernel
theorem dX6_dipper_72 : decode cX6_dipper 72 = .ok (.isub, 1) := by decide +kernel
theorem dX6_dipper_73 : decode cX6_dipper 73 = .ok (.invokevirtual 54, 3) := by decide +kernel
theorem dX6_dipper_76 : decode cX6_dipper 76 = .ok (.ireturn, 1) := by decide +kernel
theorem dX6_dipper_77 : decode cX6_dipper 77 = .ok (.aload_n 0, 1) := by decide +kernel
theorem dX6_dipper_78 : decode cX6_dipper 78 = .ok (.iload_n 1, 1) := by decide +kernel
theorem dX6_dipper_79 : decode cX6_dipper 79 = .ok (.invokevirtual 104, 3) := by decide +kernel
theorem dX6_dipper_82 : decode cX6_dipper 82 = .ok (.ifCond .eq 7, 3) := by decide +kernel
theorem dX6_dipper_85 : decode cX6_dipper 85 = .ok (.iconst 1, 1) := by decide +kernel
theorem dX6_dipper_86 : decode cX6_dipper 86 = .ok (.goto 4, 3) := by decide +kernel
theorem dX6_dipper_89 : decode cX6_dipper 89 = .ok (.iconst 0, 1) := by decide +kernel
theorem dX6_dipper_90 : decode cX6_dipper 90 = .ok (.ireturn, 1) := by decide +kernel
theorem dX6_dipper_91 : decode cX6_dipper 91 = .ok (.bipush (-2), 2) := by decide +kernel
theorem dX6_dipper_93 : decode cX6_dipper 93 = .ok (.ireturn, 1) := by decide +kernel
theorem dX6_seenBy_0 : decode cX6_seenBy 0 = .ok (.aload_n 0, 1) := by decide +kernel
theorem dX6_seenBy_1 : decode cX6_seenBy 1 = .ok (.getfield 7, 3) := by decide +kernel
theorem dX6_seenBy_4 : decode cX6_seenBy 4 = .ok (.sipush 267, 3) := by decide +kernel
theorem dX6_seenBy_7 : decode cX6_seenBy 7 = .ok (.bipush 26, 2) := by decide +kernel
theorem dX6_seenBy_9 : decode cX6_seenBy 9 = .ok (.iload_n 1, 1) := by decide +kernel
theorem dX6_seenBy_10 : decode cX6_seenBy 10 = .ok (.imul, 1) := by decide +kernel
theorem dX6_seenBy_11 : decode cX6_seenBy 11 = .ok (.iadd, 1) := by decide +kernel
theorem dX6_seenBy_12 : decode cX6_seenBy 12 = .ok (.iconst 2, 1) := by decide +kernel
theorem dX6_seenBy_13 : decode cX6_seenBy 13 = .ok (.iadd, 1) := by decide +kernel
theorem dX6_seenBy_14 : decode cX6_seenBy 14 = .ok (.iload_n 2, 1) := by decide +kernel
theorem dX6_seenBy_15 : decode cX6_seenBy 15 = .ok (.iadd, 1) := by decide +kernel
theorem dX6_seenBy_16 : decode cX6_seenBy 16 = .ok (.iaload, 1) := by decide +kernel
theorem dX6_seenBy_17 : decode cX6_seenBy 17 = .ok (.ireturn, 1) := by decide +kernel
theorem dX6_seenMany_0 : decode cX6_seenMany 0 = .ok (.aload_n 0, 1) := by decide +kernel
theorem dX6_seenMany_1 : decode cX6_seenMany 1 = .ok (.getfield 7, 3) := by decide +kernel
theorem dX6_seenMany_4 : decode cX6_seenMany 4 = .ok (.sipush 267, 3) := by decide +kernel
theorem dX6_seenMany_7 : decode cX6_seenMany 7 = .ok (.bipush 26, 2) := by decide +kernel
theorem dX6_seenMany_9 : decode cX6_seenMany 9 = .ok (.iload_n 1, 1) := by decide +kernel
theorem dX6_seenMany_10 : decode cX6_seenMany 10 = .ok (.imul, 1) := by decide +kernel
theorem dX6_seenMany_11 : decode cX6_seenMany 11 = .ok (.iadd, 1) := by decide +kernel
theorem dX6_seenMany_12 : decode cX6_seenMany 12 = .ok (.iconst 1, 1) := by decide +kernel
theorem dX6_seenMany_13 : decode cX6_seenMany 13 = .ok (.iadd, 1) := by decide +kernel
theorem dX6_seenMany_14 : decode cX6_seenMany 14 = .ok (.iaload, 1) := by decide +kernel
theorem dX6_seenMany_15 : decode cX6_seenMany 15 = .ok (.ireturn, 1) := by decide +kernel
theorem dX6_beat_0 : decode cX6_beat 0 = .ok (.aload_n 0, 1) := by decide +kernel
theorem dX6_beat_1 : decode cX6_beat 1 = .ok (.iload_n 1, 1) := by decide +kernel
theorem dX6_beat_2 : decode cX6_beat 2 = .ok (.invokevirtual 130, 3) := by decide +kernel
theorem dX6_beat_5 : decode cX6_beat 5 = .ok (.bipush 24, 2) := by decide +kernel
theorem dX6_beat_7 : decode cX6_beat 7 = .ok (.if_icmp .ge 6, 3) := by decide +kernel
theorem dX6_beat_10 : decode cX6_beat 10 = .ok (.bipush (-6), 2) := by decide +kernel
theorem dX6_beat_12 : decode cX6_beat 12 = .ok (.ireturn, 1) := by decide +kernel
theorem dX6_beat_13 : decode cX6_beat 13 = .ok (.bipush (-6), 2) := by decide +kernel
theorem dX6_beat_15 : decode cX6_beat 15 = .ok (.istore_n 2, 1) := by decide +kernel
theorem dX6_beat_16 : decode cX6_beat 16 = .ok (.iconst 0, 1) := by decide +kernel
theorem dX6_beat_17 : decode cX6_beat 17 = .ok (.istore_n 3, 1) := by decide +kernel
theorem dX6_beat_18 : decode cX6_beat 18 = .ok (.iconst 2, 1) := by decide +kernel
theorem dX6_beat_19 : decode cX6_beat 19 = .ok (.istore 4, 2) := by decide +kernel
theorem dX6_beat_21 : decode cX6_beat 21 = .ok (.iload 4, 2) := by decide +kernel
theorem dX6_beat_23 : decode cX6_beat 23 = .ok (.bipush 12, 2) := by decide +kernel
theorem dX6_beat_25 : decode cX6_beat 25 = .ok (.if_icmp .gt 97, 3) := by decide +kernel
theorem dX6_beat_28 : decode cX6_beat 28 = .ok (.iconst 0, 1) := by decide +kernel
theorem dX6_beat_29 : decode cX6_beat 29 = .ok (.istore 5, 2) := by decide +kernel
theorem dX6_beat_31 : decode cX6_beat 31 = .ok (.iconst 0, 1) := by decide +kernel
theorem dX6_beat_32 : decode cX6_beat 32 = .ok (.istore 6, 2) := by decide +kernel
theorem dX6_beat_34 : decode cX6_beat 34 = .ok (.iload 6, 2) := by decide +kernel
theorem dX6_beat_36 : decode cX6_beat 36 = .ok (.bipush 12, 2) := by decide +kernel
theorem dX6_beat_38 : decode cX6_beat 38 = .ok (.if_icmp .ge 35, 3) := by decide +kernel
theorem dX6_beat_41 : decode cX6_beat 41 = .ok (.iload 5, 2) := by decide +kernel
theorem dX6_beat_43 : decode cX6_beat 43 = .ok (.aload_n 0, 1) := by decide +kernel
theorem dX6_beat_44 : decode cX6_beat 44 = .ok (.iload_n 1, 1) := by decide +kernel
theorem dX6_beat_45 : decode cX6_beat 45 = .ok (.iload 6, 2) := by decide +kernel
theorem dX6_beat_47 : decode cX6_beat 47 = .ok (.invokevirtual 133, 3) := by decide +kernel
theorem dX6_beat_50 : decode cX6_beat 50 = .ok (.aload_n 0, 1) := by decide +kernel
theorem dX6_beat_51 : decode cX6_beat 51 = .ok (.iload_n 1, 1) := by decide +kernel
theorem dX6_beat_52 : decode cX6_beat 52 = .ok (.iload 6, 2) := by decide +kernel
theorem dX6_beat_54 : decode cX6_beat 54 = .ok (.iload 4, 2) := by decide +kernel
theorem dX6_beat_56 : decode cX6_beat 56 = .ok (.iadd, 1) := by decide +kernel
theorem dX6_beat_57 : decode cX6_beat 57 = .ok (.invokevirtual 133, 3) := by decide +kernel
theorem dX6_beat_60 : decode cX6_beat 60 = .ok (.isub, 1) := by decide +kernel
theorem dX6_beat_61 : decode cX6_beat 61 = .ok (.invokestatic 88, 3) := by decide +kernel
theorem dX6_beat_64 : decode cX6_beat 64 = .ok (.iadd, 1) := by decide +kernel
theorem dX6_beat_65 : decode cX6_beat 65 = .ok (.istore 5, 2) := by decide +kernel
theorem dX6_beat_67 : decode cX6_beat 67 = .ok (.iinc 6 1, 3) := by decide +kernel
theorem dX6_beat_70 : decode cX6_beat 70 = .ok (.goto (-36), 3) := by decide +kernel
theorem dX6_beat_73 : decode cX6_beat 73 = .ok (.iload_n 2, 1) := by decide +kernel
theorem dX6_beat_74 : decode cX6_beat 74 = .ok (.bipush (-6), 2) := by decide +kernel
theorem dX6_beat_76 : decode cX6_beat 76 = .ok (.if_icmp .eq 9, 3) := by decide +kernel
theorem dX6_beat_79 : decode cX6_beat 79 = .ok (.iload 5, 2) := by decide +kernel
theorem dX6_beat_81 : decode cX6_beat 81 = .ok (.iload_n 3, 1) := by decide +kernel
theorem dX6_beat_82 : decode cX6_beat 82 = .ok (.if_icmp .ge 7, 3) := by decide +kernel
theorem dX6_beat_85 : decode cX6_beat 85 = .ok (.iconst 1, 1) := by decide +kernel
theorem dX6_beat_86 : decode cX6_beat 86 = .ok (.goto 4, 3) := by decide +kernel
theorem dX6_beat_89 : decode cX6_beat 89 = .ok (.iconst 0, 1) := by decide +kernel
theorem dX6_beat_90 : decode cX6_beat 90 = .ok (.istore 6, 2) := by decide +kernel
theorem dX6_beat_92 : decode cX6_beat 92 = .ok (.iload 6, 2) := by decide +kernel
theorem dX6_beat_94 : decode cX6_beat 94 = .ok (.ifCond .eq 8, 3) := by decide +kernel
theorem dX6_beat_97 : decode cX6_beat 97 = .ok (.iload 4, 2) := by decide +kernel
theorem dX6_beat_99 : decode cX6_beat 99 = .ok (.goto 4, 3) := by decide +kernel
theorem dX6_beat_102 : decode cX6_beat 102 = .ok (.iload_n 2, 1) := by decide +kernel
theorem dX6_beat_103 : decode cX6_beat 103 = .ok (.istore_n 2, 1) := by decide +kernel
theorem dX6_beat_104 : decode cX6_beat 104 = .ok (.iload 6, 2) := by decide +kernel
theorem dX6_beat_106 : decode cX6_beat 106 = .ok (.ifCond .eq 8, 3) := by decide +kernel
theorem dX6_beat_109 : decode cX6_beat 109 = .ok (.iload 5, 2) := by decide +kernel
theorem dX6_beat_111 : decode cX6_beat 111 = .ok (.goto 4, 3) := by decide +kernel
theorem dX6_beat_114 : decode cX6_beat 114 = .ok (.iload_n 3, 1) := by decide +kernel
theorem dX6_beat_115 : decode cX6_beat 115 = .ok (.istore_n 3, 1) := by decide +kernel
theorem dX6_beat_116 : decode cX6_beat 116 = .ok (.iinc 4 1, 3) := by decide +kernel
theorem dX6_beat_119 : decode cX6_beat 119 = .ok (.goto (-98), 3) := by decide +kernel
theorem dX6_beat_122 : decode cX6_beat 122 = .ok (.iload_n 2, 1) := by decide +kernel
theorem dX6_beat_123 : decode cX6_beat 123 = .ok (.ireturn, 1) := by decide +kernel
theorem dX6_greatestSeen_0 : decode cX6_greatestSeen 0 = .ok (.bipush (-6), 2) := by decide +kernel
theorem dX6_greatestSeen_2 : decode cX6_greatestSeen 2 = .ok (.istore_n 2, 1) := by decide +kernel
theorem dX6_greatestSeen_3 : decode cX6_greatestSeen 3 = .ok (.iconst 0, 1) := by decide +kernel
theorem dX6_greatestSeen_4 : decode cX6_greatestSeen 4 = .ok (.istore_n 3, 1) := by decide +kernel
theorem dX6_greatestSeen_5 : decode cX6_greatestSeen 5 = .ok (.iload_n 3, 1) := by decide +kernel
theorem dX6_greatestSeen_6 : decode cX6_greatestSeen 6 = .ok (.aload_n 0, 1) := by decide +kernel
theorem dX6_greatestSeen_7 : decode cX6_greatestSeen 7 = .ok (.iload_n 1, 1) := by decide +kernel
theorem dX6_greatestSeen_8 : decode cX6_greatestSeen 8 = .ok (.invokevirtual 130, 3) := by decide +kernel
theorem dX6_greatestSeen_11 : decode cX6_greatestSeen 11 = .ok (.if_icmp .ge 34, 3) := by decide +kernel
theorem dX6_greatestSeen_14 : decode cX6_greatestSeen 14 = .ok (.aload_n 0, 1) := by decide +kernel
theorem dX6_greatestSeen_15 : decode cX6_greatestSeen 15 = .ok (.iload_n 1, 1) := by decide +kernel
theorem dX6_greatestSeen_16 : decode cX6_greatestSeen 16 = .ok (.iload_n 3, 1) := by decide +kernel
theorem dX6_greatestSeen_17 : decode cX6_greatestSeen 17 = .ok (.invokevirtual 133, 3) := by decide +kernel
theorem dX6_greatestSeen_20 : decode cX6_greatestSeen 20 = .ok (.sipush 10000, 3) := by decide +kernel
theorem dX6_greatestSeen_23 : decode cX6_greatestSeen 23 = .ok (.iadd, 1) := by decide +kernel
theorem dX6_greatestSeen_24 : decode cX6_greatestSeen 24 = .ok (.istore 4, 2) := by decide +kernel
theorem dX6_greatestSeen_26 : decode cX6_greatestSeen 26 = .ok (.iload 4, 2) := by decide +kernel
theorem dX6_greatestSeen_28 : decode cX6_greatestSeen 28 = .ok (.iload_n 2, 1) := by decide +kernel
theorem dX6_greatestSeen_29 : decode cX6_greatestSeen 29 = .ok (.if_icmp .le 8, 3) := by decide +kernel
theorem dX6_greatestSeen_32 : decode cX6_greatestSeen 32 = .ok (.iload 4, 2) := by decide +kernel
theorem dX6_greatestSeen_34 : decode cX6_greatestSeen 34 = .ok (.goto 4, 3) := by decide +kernel
theorem dX6_greatestSeen_37 : decode cX6_greatestSeen 37 = .ok (.iload_n 2, 1) := by decide +kernel
theorem dX6_greatestSeen_38 : decode cX6_greatestSeen 38 = .ok (.istore_n 2, 1) := by decide +kernel
theorem dX6_greatestSeen_39 : decode cX6_greatestSeen 39 = .ok (.iinc 3 1, 3) := by decide +kernel
theorem dX6_greatestSeen_42 : decode cX6_greatestSeen 42 = .ok (.goto (-37), 3) := by decide +kernel
theorem dX6_greatestSeen_45 : decode cX6_greatestSeen 45 = .ok (.iload_n 2, 1) := by decide +kernel
theorem dX6_greatestSeen_46 : decode cX6_greatestSeen 46 = .ok (.ireturn, 1) := by decide +kernel
theorem dX6_ofProbe_0 : decode cX6_ofProbe 0 = .ok (.aload_n 0, 1) := by decide +kernel
theorem dX6_ofProbe_1 : decode cX6_ofProbe 1 = .ok (.iload_n 1, 1) := by decide +kernel
theorem dX6_ofProbe_2 : decode cX6_ofProbe 2 = .ok (.invokevirtual 136, 3) := by decide +kernel
theorem dX6_ofProbe_5 : decode cX6_ofProbe 5 = .ok (.ifCond .ne 5, 3) := by decide +kernel
theorem dX6_ofProbe_8 : decode cX6_ofProbe 8 = .ok (.iconst (-1), 1) := by decide +kernel
theorem dX6_ofProbe_9 : decode cX6_ofProbe 9 = .ok (.ireturn, 1) := by decide +kernel
theorem dX6_ofProbe_10 : decode cX6_ofProbe 10 = .ok (.aload_n 0, 1) := by decide +kernel
theorem dX6_ofProbe_11 : decode cX6_ofProbe 11 = .ok (.getfield 7, 3) := by decide +kernel
theorem dX6_ofProbe_14 : decode cX6_ofProbe 14 = .ok (.sipush 267, 3) := by decide +kernel
theorem dX6_ofProbe_17 : decode cX6_ofProbe 17 = .ok (.bipush 26, 2) := by decide +kernel
theorem dX6_ofProbe_19 : decode cX6_ofProbe 19 = .ok (.iload_n 1, 1) := by decide +kernel
theorem dX6_ofProbe_20 : decode cX6_ofProbe 20 = .ok (.imul, 1) := by decide +kernel
theorem dX6_ofProbe_21 : decode cX6_ofProbe 21 = .ok (.iadd, 1) := by decide +kernel
theorem dX6_ofProbe_22 : decode cX6_ofProbe 22 = .ok (.iaload, 1) := by decide +kernel
theorem dX6_ofProbe_23 : decode cX6_ofProbe 23 = .ok (.istore_n 3, 1) := by decide +kernel
theorem dX6_ofProbe_24 : decode cX6_ofProbe 24 = .ok (.iload_n 2, 1) := by decide +kernel
theorem dX6_ofProbe_25 : decode cX6_ofProbe 25 = .ok (.tableswitch 63 0 4 #[35, 40, 45, 51, 57], 35) := by decide +kernel
theorem dX6_ofProbe_60 : decode cX6_ofProbe 60 = .ok (.iload_n 3, 1) := by decide +kernel
theorem dX6_ofProbe_61 : decode cX6_ofProbe 61 = .ok (.bipush 10, 2) := by decide +kernel
theorem dX6_ofProbe_63 : decode cX6_ofProbe 63 = .ok (.irem, 1) := by decide +kernel
theorem dX6_ofProbe_64 : decode cX6_ofProbe 64 = .ok (.ireturn, 1) := by decide +kernel
theorem dX6_ofProbe_65 : decode cX6_ofProbe 65 = .ok (.iload_n 3, 1) := by decide +kernel
theorem dX6_ofProbe_66 : decode cX6_ofProbe 66 = .ok (.bipush 10, 2) := by decide +kernel
theorem dX6_ofProbe_68 : decode cX6_ofProbe 68 = .ok (.idiv, 1) := by decide +kernel
theorem dX6_ofProbe_69 : decode cX6_ofProbe 69 = .ok (.ireturn, 1) := by decide +kernel
theorem dX6_ofProbe_70 : decode cX6_ofProbe 70 = .ok (.aload_n 0, 1) := by decide +kernel
theorem dX6_ofProbe_71 : decode cX6_ofProbe 71 = .ok (.iload_n 1, 1) := by decide +kernel
theorem dX6_ofProbe_72 : decode cX6_ofProbe 72 = .ok (.invokevirtual 130, 3) := by decide +kernel
theorem dX6_ofProbe_75 : decode cX6_ofProbe 75 = .ok (.ireturn, 1) := by decide +kernel
theorem dX6_ofProbe_76 : decode cX6_ofProbe 76 = .ok (.aload_n 0, 1) := by decide +kernel
theorem dX6_ofProbe_77 : decode cX6_ofProbe 77 = .ok (.iload_n 1, 1) := by decide +kernel
theorem dX6_ofProbe_78 : decode cX6_ofProbe 78 = .ok (.invokevirtual 139, 3) := by decide +kernel
theorem dX6_ofProbe_81 : decode cX6_ofProbe 81 = .ok (.ireturn, 1) := by decide +kernel
theorem dX6_ofProbe_82 : decode cX6_ofProbe 82 = .ok (.aload_n 0, 1) := by decide +kernel
theorem dX6_ofProbe_83 : decode cX6_ofProbe 83 = .ok (.iload_n 1, 1) := by decide +kernel
theorem dX6_ofProbe_84 : decode cX6_ofProbe 84 = .ok (.invokevirtual 142, 3) := by decide +kernel
theorem dX6_ofProbe_87 : decode cX6_ofProbe 87 = .ok (.ireturn, 1) := by decide +kernel
theorem dX6_ofProbe_88 : decode cX6_ofProbe 88 = .ok (.bipush (-2), 2) := by decide +kernel
theorem dX6_ofProbe_90 : decode cX6_ofProbe 90 = .ok (.ireturn, 1) := by decide +kernel
theorem dX6_seen_0 : decode cX6_seen 0 = .ok (.aload_n 0, 1) := by decide +kernel
theorem dX6_seen_1 : decode cX6_seen 1 = .ok (.iload_n 1, 1) := by decide +kernel
theorem dX6_seen_2 : decode cX6_seen 2 = .ok (.invokevirtual 136, 3) := by decide +kernel
theorem dX6_seen_5 : decode cX6_seen 5 = .ok (.ifCond .eq 31, 3) := by decide +kernel
theorem dX6_seen_8 : decode cX6_seen 8 = .ok (.iload_n 2, 1) := by decide +kernel
theorem dX6_seen_9 : decode cX6_seen 9 = .ok (.iconst 0, 1) := by decide +kernel
theorem dX6_seen_10 : decode cX6_seen 10 = .ok (.aload_n 0, 1) := by decide +kernel
theorem dX6_seen_11 : decode cX6_seen 11 = .ok (.iload_n 1, 1) := by decide +kernel
theorem dX6_seen_12 : decode cX6_seen 12 = .ok (.invokevirtual 130, 3) := by decide +kernel
theorem dX6_seen_15 : decode cX6_seen 15 = .ok (.iconst 1, 1) := by decide +kernel
theorem dX6_seen_16 : decode cX6_seen 16 = .ok (.isub, 1) := by decide +kernel
theorem dX6_seen_17 : decode cX6_seen 17 = .ok (.invokestatic 36, 3) := by decide +kernel
theorem dX6_seen_20 : decode cX6_seen 20 = .ok (.ifCond .eq 16, 3) := by decide +kernel
theorem dX6_seen_23 : decode cX6_seen 23 = .ok (.aload_n 0, 1) := by decide +kernel
theorem dX6_seen_24 : decode cX6_seen 24 = .ok (.iload_n 1, 1) := by decide +kernel
theorem dX6_seen_25 : decode cX6_seen 25 = .ok (.iload_n 2, 1) := by decide +kernel
theorem dX6_seen_26 : decode cX6_seen 26 = .ok (.invokevirtual 133, 3) := by decide +kernel
theorem dX6_seen_29 : decode cX6_seen 29 = .ok (.sipush 10000, 3) := by decide +kernel
theorem dX6_seen_32 : decode cX6_seen 32 = .ok (.iadd, 1) := by decide +kernel
theorem dX6_seen_33 : decode cX6_seen 33 = .ok (.goto 4, 3) := by decide +kernel
theorem dX6_seen_36 : decode cX6_seen 36 = .ok (.iconst (-1), 1) := by decide +kernel
theorem dX6_seen_37 : decode cX6_seen 37 = .ok (.ireturn, 1) := by decide +kernel
theorem dX6_sum_0 : decode cX6_sum 0 = .ok (.iconst 0, 1) := by decide +kernel
theorem dX6_sum_1 : decode cX6_sum 1 = .ok (.istore_n 1, 1) := by decide +kernel
theorem dX6_sum_2 : decode cX6_sum 2 = .ok (.iconst 0, 1) := by decide +kernel
theorem dX6_sum_3 : decode cX6_sum 3 = .ok (.istore_n 2, 1) := by decide +kernel
theorem dX6_sum_4 : decode cX6_sum 4 = .ok (.iload_n 2, 1) := by decide +kernel
theorem dX6_sum_5 : decode cX6_sum 5 = .ok (.bipush 60, 2) := by decide +kernel
theorem dX6_sum_7 : decode cX6_sum 7 = .ok (.if_icmp .ge 17, 3) := by decide +kernel
theorem dX6_sum_10 : decode cX6_sum 10 = .ok (.iload_n 1, 1) := by decide +kernel
theorem dX6_sum_11 : decode cX6_sum 11 = .ok (.aload_n 0, 1) := by decide +kernel
theorem dX6_sum_12 : decode cX6_sum 12 = .ok (.iload_n 2, 1) := by decide +kernel
theorem dX6_sum_13 : decode cX6_sum 13 = .ok (.invokevirtual 85, 3) := by decide +kernel
theorem dX6_sum_16 : decode cX6_sum 16 = .ok (.iadd, 1) := by decide +kernel
theorem dX6_sum_17 : decode cX6_sum 17 = .ok (.istore_n 1, 1) := by decide +kernel
theorem dX6_sum_18 : decode cX6_sum 18 = .ok (.iinc 2 1, 3) := by decide +kernel
theorem dX6_sum_21 : decode cX6_sum 21 = .ok (.goto (-17), 3) := by decide +kernel
theorem dX6_sum_24 : decode cX6_sum 24 = .ok (.iload_n 1, 1) := by decide +kernel
theorem dX6_sum_25 : decode cX6_sum 25 = .ok (.ireturn, 1) := by decide +kernel
theorem dX6_greatest_0 : decode cX6_greatest 0 = .ok (.iconst 0, 1) := by decide +kernel
theorem dX6_greatest_1 : decode cX6_greatest 1 = .ok (.istore_n 1, 1) := by decide +kernel
theorem dX6_greatest_2 : decode cX6_greatest 2 = .ok (.iconst 0, 1) := by decide +kernel
theorem dX6_greatest_3 : decode cX6_greatest 3 = .ok (.istore_n 2, 1) := by decide +kernel
theorem dX6_greatest_4 : decode cX6_greatest 4 = .ok (.iload_n 2, 1) := by decide +kernel
theorem dX6_greatest_5 : decode cX6_greatest 5 = .ok (.bipush 60, 2) := by decide +kernel
theorem dX6_greatest_7 : decode cX6_greatest 7 = .ok (.if_icmp .ge 34, 3) := by decide +kernel
theorem dX6_greatest_10 : decode cX6_greatest 10 = .ok (.aload_n 0, 1) := by decide +kernel
theorem dX6_greatest_11 : decode cX6_greatest 11 = .ok (.iload_n 2, 1) := by decide +kernel
theorem dX6_greatest_12 : decode cX6_greatest 12 = .ok (.invokevirtual 85, 3) := by decide +kernel
theorem dX6_greatest_15 : decode cX6_greatest 15 = .ok (.invokestatic 88, 3) := by decide +kernel
theorem dX6_greatest_18 : decode cX6_greatest 18 = .ok (.iload_n 1, 1) := by decide +kernel
theorem dX6_greatest_19 : decode cX6_greatest 19 = .ok (.if_icmp .le 14, 3) := by decide +kernel
theorem dX6_greatest_22 : decode cX6_greatest 22 = .ok (.aload_n 0, 1) := by decide +kernel
theorem dX6_greatest_23 : decode cX6_greatest 23 = .ok (.iload_n 2, 1) := by decide +kernel
theorem dX6_greatest_24 : decode cX6_greatest 24 = .ok (.invokevirtual 85, 3) := by decide +kernel
theorem dX6_greatest_27 : decode cX6_greatest 27 = .ok (.invokestatic 88, 3) := by decide +kernel
theorem dX6_greatest_30 : decode cX6_greatest 30 = .ok (.goto 4, 3) := by decide +kernel
theorem dX6_greatest_33 : decode cX6_greatest 33 = .ok (.iload_n 1, 1) := by decide +kernel
theorem dX6_greatest_34 : decode cX6_greatest 34 = .ok (.istore_n 1, 1) := by decide +kernel
theorem dX6_greatest_35 : decode cX6_greatest 35 = .ok (.iinc 2 1, 3) := by decide +kernel
theorem dX6_greatest_38 : decode cX6_greatest 38 = .ok (.goto (-34), 3) := by decide +kernel
theorem dX6_greatest_41 : decode cX6_greatest 41 = .ok (.iload_n 1, 1) := by decide +kernel
theorem dX6_greatest_42 : decode cX6_greatest 42 = .ok (.ireturn, 1) := by decide +kernel
theorem dX6_come_0 : decode cX6_come 0 = .ok (.iconst 0, 1) := by decide +kernel
theorem dX6_come_1 : decode cX6_come 1 = .ok (.istore_n 1, 1) := by decide +kernel
theorem dX6_come_2 : decode cX6_come 2 = .ok (.iconst 0, 1) := by decide +kernel
theorem dX6_come_3 : decode cX6_come 3 = .ok (.istore_n 2, 1) := by decide +kernel
theorem dX6_come_4 : decode cX6_come 4 = .ok (.iload_n 2, 1) := by decide +kernel
theorem dX6_come_5 : decode cX6_come 5 = .ok (.bipush 60, 2) := by decide +kernel
theorem dX6_come_7 : decode cX6_come 7 = .ok (.if_icmp .ge 32, 3) := by decide +kernel
theorem dX6_come_10 : decode cX6_come 10 = .ok (.iload_n 1, 1) := by decide +kernel
theorem dX6_come_11 : decode cX6_come 11 = .ok (.aload_n 0, 1) := by decide +kernel
theorem dX6_come_12 : decode cX6_come 12 = .ok (.getfield 7, 3) := by decide +kernel
theorem dX6_come_15 : decode cX6_come 15 = .ok (.sipush 185, 3) := by decide +kernel
theorem dX6_come_18 : decode cX6_come 18 = .ok (.iload_n 2, 1) := by decide +kernel
theorem dX6_come_19 : decode cX6_come 19 = .ok (.iadd, 1) := by decide +kernel
theorem dX6_come_20 : decode cX6_come 20 = .ok (.iaload, 1) := by decide +kernel
theorem dX6_come_21 : decode cX6_come 21 = .ok (.bipush (-6), 2) := by decide +kernel
theorem dX6_come_23 : decode cX6_come 23 = .ok (.if_icmp .ne 7, 3) := by decide +kernel
theorem dX6_come_26 : decode cX6_come 26 = .ok (.iconst 0, 1) := by decide +kernel
theorem dX6_come_27 : decode cX6_come 27 = .ok (.goto 4, 3) := by decide +kernel
theorem dX6_come_30 : decode cX6_come 30 = .ok (.iconst 1, 1) := by decide +kernel
theorem dX6_come_31 : decode cX6_come 31 = .ok (.iadd, 1) := by decide +kernel
theorem dX6_come_32 : decode cX6_come 32 = .ok (.istore_n 1, 1) := by decide +kernel
theorem dX6_come_33 : decode cX6_come 33 = .ok (.iinc 2 1, 3) := by decide +kernel
theorem dX6_come_36 : decode cX6_come 36 = .ok (.goto (-32), 3) := by decide +kernel
theorem dX6_come_39 : decode cX6_come 39 = .ok (.iload_n 1, 1) := by decide +kernel
theorem dX6_come_40 : decode cX6_come 40 = .ok (.ireturn, 1) := by decide +kernel
theorem dX6_count_0 : decode cX6_count 0 = .ok (.iload_n 1, 1) := by decide +kernel
theorem dX6_count_1 : decode cX6_count 1 = .ok (.tableswitch 153 0 14 #[75, 82, 87, 92, 100, 105, 110, 115, 124, 133, 133, 133, 133, 143, 148], 75) := by decide +kernel
theorem dX6_count_76 : decode cX6_count 76 = .ok (.aload_n 0, 1) := by decide +kernel
theorem dX6_count_77 : decode cX6_count 77 = .ok (.getfield 7, 3) := by decide +kernel
theorem dX6_count_80 : decode cX6_count 80 = .ok (.iconst 4, 1) := by decide +kernel
theorem dX6_count_81 : decode cX6_count 81 = .ok (.iaload, 1) := by decide +kernel
theorem dX6_count_82 : decode cX6_count 82 = .ok (.ireturn, 1) := by decide +kernel
theorem dX6_count_83 : decode cX6_count 83 = .ok (.aload_n 0, 1) := by decide +kernel
theorem dX6_count_84 : decode cX6_count 84 = .ok (.invokevirtual 82, 3) := by decide +kernel
theorem dX6_count_87 : decode cX6_count 87 = .ok (.ireturn, 1) := by decide +kernel
theorem dX6_count_88 : decode cX6_count 88 = .ok (.aload_n 0, 1) := by decide +kernel
theorem dX6_count_89 : decode cX6_count 89 = .ok (.invokevirtual 127, 3) := by decide +kernel
theorem dX6_count_92 : decode cX6_count 92 = .ok (.ireturn, 1) := by decide +kernel
theorem dX6_count_93 : decode cX6_count 93 = .ok (.aload_n 0, 1) := by decide +kernel
theorem dX6_count_94 : decode cX6_count 94 = .ok (.invokevirtual 145, 3) := by decide +kernel
theorem dX6_count_97 : decode cX6_count 97 = .ok (.ldc 148, 2) := by decide +kernel
theorem dX6_count_99 : decode cX6_count 99 = .ok (.iadd, 1) := by decide +kernel
theorem dX6_count_100 : decode cX6_count 100 = .ok (.ireturn, 1) := by decide +kernel
theorem dX6_count_101 : decode cX6_count 101 = .ok (.aload_n 0, 1) := by decide +kernel
theorem dX6_count_102 : decode cX6_count 102 = .ok (.invokevirtual 91, 3) := by decide +kernel
theorem dX6_count_105 : decode cX6_count 105 = .ok (.ireturn, 1) := by decide +kernel
theorem dX6_count_106 : decode cX6_count 106 = .ok (.aload_n 0, 1) := by decide +kernel
theorem dX6_count_107 : decode cX6_count 107 = .ok (.invokevirtual 149, 3) := by decide +kernel
theorem dX6_count_110 : decode cX6_count 110 = .ok (.ireturn, 1) := by decide +kernel
theorem dX6_count_111 : decode cX6_count 111 = .ok (.aload_n 0, 1) := by decide +kernel
theorem dX6_count_112 : decode cX6_count 112 = .ok (.invokevirtual 152, 3) := by decide +kernel
theorem dX6_count_115 : decode cX6_count 115 = .ok (.ireturn, 1) := by decide +kernel
theorem dX6_count_116 : decode cX6_count 116 = .ok (.aload_n 0, 1) := by decide +kernel
theorem dX6_count_117 : decode cX6_count 117 = .ok (.getfield 7, 3) := by decide +kernel
theorem dX6_count_120 : decode cX6_count 120 = .ok (.sipush 245, 3) := by decide +kernel
theorem dX6_count_123 : decode cX6_count 123 = .ok (.iaload, 1) := by decide +kernel
theorem dX6_count_124 : decode cX6_count 124 = .ok (.ireturn, 1) := by decide +kernel
theorem dX6_count_125 : decode cX6_count 125 = .ok (.aload_n 0, 1) := by decide +kernel
theorem dX6_count_126 : decode cX6_count 126 = .ok (.getfield 7, 3) := by decide +kernel
theorem dX6_count_129 : decode cX6_count 129 = .ok (.sipush 266, 3) := by decide +kernel
theorem dX6_count_132 : decode cX6_count 132 = .ok (.iaload, 1) := by decide +kernel
theorem dX6_count_133 : decode cX6_count 133 = .ok (.ireturn, 1) := by decide +kernel
theorem dX6_count_134 : decode cX6_count 134 = .ok (.aload_n 0, 1) := by decide +kernel
theorem dX6_count_135 : decode cX6_count 135 = .ok (.getfield 7, 3) := by decide +kernel
theorem dX6_count_138 : decode cX6_count 138 = .ok (.iload_n 1, 1) := by decide +kernel
theorem dX6_count_139 : decode cX6_count 139 = .ok (.bipush 9, 2) := by decide +kernel
theorem dX6_count_141 : decode cX6_count 141 = .ok (.isub, 1) := by decide +kernel
theorem dX6_count_142 : decode cX6_count 142 = .ok (.iaload, 1) := by decide +kernel
theorem dX6_count_143 : decode cX6_count 143 = .ok (.ireturn, 1) := by decide +kernel
theorem dX6_count_144 : decode cX6_count 144 = .ok (.aload_n 0, 1) := by decide +kernel
theorem dX6_count_145 : decode cX6_count 145 = .ok (.getfield 79, 3) := by decide +kernel
theorem dX6_count_148 : decode cX6_count 148 = .ok (.ireturn, 1) := by decide +kernel
theorem dX6_count_149 : decode cX6_count 149 = .ok (.aload_n 0, 1) := by decide +kernel
theorem dX6_count_150 : decode cX6_count 150 = .ok (.getfield 40, 3) := by decide +kernel
theorem dX6_count_153 : decode cX6_count 153 = .ok (.ireturn, 1) := by decide +kernel
theorem dX6_count_154 : decode cX6_count 154 = .ok (.bipush (-2), 2) := by decide +kernel
theorem dX6_count_156 : decode cX6_count 156 = .ok (.ireturn, 1) := by decide +kernel
theorem dX6_loudest_0 : decode cX6_loudest 0 = .ok (.iload_n 1, 1) := by decide +kernel
theorem dX6_loudest_1 : decode cX6_loudest 1 = .ok (.iconst 0, 1) := by decide +kernel
theorem dX6_loudest_2 : decode cX6_loudest 2 = .ok (.iconst 1, 1) := by decide +kernel
theorem dX6_loudest_3 : decode cX6_loudest 3 = .ok (.invokestatic 36, 3) := by decide +kernel
theorem dX6_loudest_6 : decode cX6_loudest 6 = .ok (.ifCond .ne 6, 3) := by decide +kernel
theorem dX6_loudest_9 : decode cX6_loudest 9 = .ok (.bipush (-2), 2) := by decide +kernel
theorem dX6_loudest_11 : decode cX6_loudest 11 = .ok (.ireturn, 1) := by decide +kernel
theorem dX6_loudest_12 : decode cX6_loudest 12 = .ok (.aload_n 0, 1) := by decide +kernel
theorem dX6_loudest_13 : decode cX6_loudest 13 = .ok (.invokevirtual 149, 3) := by decide +kernel
theorem dX6_loudest_16 : decode cX6_loudest 16 = .ok (.istore_n 2, 1) := by decide +kernel
theorem dX6_loudest_17 : decode cX6_loudest 17 = .ok (.iconst 0, 1) := by decide +kernel
theorem dX6_loudest_18 : decode cX6_loudest 18 = .ok (.istore_n 3, 1) := by decide +kernel
theorem dX6_loudest_19 : decode cX6_loudest 19 = .ok (.iload_n 3, 1) := by decide +kernel
theorem dX6_loudest_20 : decode cX6_loudest 20 = .ok (.bipush 60, 2) := by decide +kernel
theorem dX6_loudest_22 : decode cX6_loudest 22 = .ok (.if_icmp .ge 41, 3) := by decide +kernel
theorem dX6_loudest_25 : decode cX6_loudest 25 = .ok (.iload_n 2, 1) := by decide +kernel
theorem dX6_loudest_26 : decode cX6_loudest 26 = .ok (.ifCond .le 37, 3) := by decide +kernel
theorem dX6_loudest_29 : decode cX6_loudest 29 = .ok (.aload_n 0, 1) := by decide +kernel
theorem dX6_loudest_30 : decode cX6_loudest 30 = .ok (.iload_n 3, 1) := by decide +kernel
theorem dX6_loudest_31 : decode cX6_loudest 31 = .ok (.invokevirtual 85, 3) := by decide +kernel
theorem dX6_loudest_34 : decode cX6_loudest 34 = .ok (.invokestatic 88, 3) := by decide +kernel
theorem dX6_loudest_37 : decode cX6_loudest 37 = .ok (.iload_n 2, 1) := by decide +kernel
theorem dX6_loudest_38 : decode cX6_loudest 38 = .ok (.if_icmp .ne 19, 3) := by decide +kernel
theorem dX6_loudest_41 : decode cX6_loudest 41 = .ok (.iload_n 1, 1) := by decide +kernel
theorem dX6_loudest_42 : decode cX6_loudest 42 = .ok (.ifCond .ne 10, 3) := by decide +kernel
theorem dX6_loudest_45 : decode cX6_loudest 45 = .ok (.iload_n 3, 1) := by decide +kernel
theorem dX6_loudest_46 : decode cX6_loudest 46 = .ok (.bipush 10, 2) := by decide +kernel
theorem dX6_loudest_48 : decode cX6_loudest 48 = .ok (.irem, 1) := by decide +kernel
theorem dX6_loudest_49 : decode cX6_loudest 49 = .ok (.goto 7, 3) := by decide +kernel
theorem dX6_loudest_52 : decode cX6_loudest 52 = .ok (.iload_n 3, 1) := by decide +kernel
theorem dX6_loudest_53 : decode cX6_loudest 53 = .ok (.bipush 10, 2) := by decide +kernel
theorem dX6_loudest_55 : decode cX6_loudest 55 = .ok (.idiv, 1) := by decide +kernel
theorem dX6_loudest_56 : decode cX6_loudest 56 = .ok (.ireturn, 1) := by decide +kernel
theorem dX6_loudest_57 : decode cX6_loudest 57 = .ok (.iinc 3 1, 3) := by decide +kernel
theorem dX6_loudest_60 : decode cX6_loudest 60 = .ok (.goto (-41), 3) := by decide +kernel
theorem dX6_loudest_63 : decode cX6_loudest 63 = .ok (.bipush (-6), 2) := by decide +kernel
theorem dX6_loudest_65 : decode cX6_loudest 65 = .ok (.ireturn, 1) := by decide +kernel
theorem dX6_heightAt_0 : decode cX6_heightAt 0 = .ok (.iload_n 1, 1) := by decide +kernel
theorem dX6_heightAt_1 : decode cX6_heightAt 1 = .ok (.iload_n 2, 1) := by decide +kernel
theorem dX6_heightAt_2 : decode cX6_heightAt 2 = .ok (.invokestatic 58, 3) := by decide +kernel
theorem dX6_heightAt_5 : decode cX6_heightAt 5 = .ok (.ifCond .eq 16, 3) := by decide +kernel
theorem dX6_heightAt_8 : decode cX6_heightAt 8 = .ok (.aload_n 0, 1) := by decide +kernel
theorem dX6_heightAt_9 : decode cX6_heightAt 9 = .ok (.bipush 10, 2) := by decide +kernel
theorem dX6_heightAt_11 : decode cX6_heightAt 11 = .ok (.iload_n 2, 1) := by decide +kernel
theorem dX6_heightAt_12 : decode cX6_heightAt 12 = .ok (.imul, 1) := by decide +kernel
theorem dX6_heightAt_13 : decode cX6_heightAt 13 = .ok (.iload_n 1, 1) := by decide +kernel
theorem dX6_heightAt_14 : decode cX6_heightAt 14 = .ok (.iadd, 1) := by decide +kernel
theorem dX6_heightAt_15 : decode cX6_heightAt 15 = .ok (.invokevirtual 85, 3) := by decide +kernel
theorem dX6_heightAt_18 : decode cX6_heightAt 18 = .ok (.goto 4, 3) := by decide +kernel
theorem dX6_heightAt_21 : decode cX6_heightAt 21 = .ok (.iconst 0, 1) := by decide +kernel
theorem dX6_heightAt_22 : decode cX6_heightAt 22 = .ok (.ireturn, 1) := by decide +kernel
theorem dX6_crests_0 : decode cX6_crests 0 = .ok (.iload_n 1, 1) := by decide +kernel
theorem dX6_crests_1 : decode cX6_crests 1 = .ok (.iconst 0, 1) := by decide +kernel
theorem dX6_crests_2 : decode cX6_crests 2 = .ok (.iconst 5, 1) := by decide +kernel
theorem dX6_crests_3 : decode cX6_crests 3 = .ok (.invokestatic 36, 3) := by decide +kernel
theorem dX6_crests_6 : decode cX6_crests 6 = .ok (.ifCond .ne 5, 3) := by decide +kernel
theorem dX6_crests_9 : decode cX6_crests 9 = .ok (.iconst (-1), 1) := by decide +kernel
theorem dX6_crests_10 : decode cX6_crests 10 = .ok (.ireturn, 1) := by decide +kernel
theorem dX6_crests_11 : decode cX6_crests 11 = .ok (.iconst 0, 1) := by decide +kernel
theorem dX6_crests_12 : decode cX6_crests 12 = .ok (.istore_n 2, 1) := by decide +kernel
theorem dX6_crests_13 : decode cX6_crests 13 = .ok (.iconst 0, 1) := by decide +kernel
theorem dX6_crests_14 : decode cX6_crests 14 = .ok (.istore_n 3, 1) := by decide +kernel
theorem dX6_crests_15 : decode cX6_crests 15 = .ok (.iload_n 3, 1) := by decide +kernel
theorem dX6_crests_16 : decode cX6_crests 16 = .ok (.bipush 10, 2) := by decide +kernel
theorem dX6_crests_18 : decode cX6_crests 18 = .ok (.if_icmp .ge 56, 3) := by decide +kernel
theorem dX6_crests_21 : decode cX6_crests 21 = .ok (.aload_n 0, 1) := by decide +kernel
theorem dX6_crests_22 : decode cX6_crests 22 = .ok (.iload_n 3, 1) := by decide +kernel
theorem dX6_crests_23 : decode cX6_crests 23 = .ok (.iload_n 1, 1) := by decide +kernel
theorem dX6_crests_24 : decode cX6_crests 24 = .ok (.invokevirtual 155, 3) := by decide +kernel
theorem dX6_crests_27 : decode cX6_crests 27 = .ok (.istore 4, 2) := by decide +kernel
theorem dX6_crests_29 : decode cX6_crests 29 = .ok (.iload_n 2, 1) := by decide +kernel
theorem dX6_crests_30 : decode cX6_crests 30 = .ok (.iload 4, 2) := by decide +kernel
theorem dX6_crests_32 : decode cX6_crests 32 = .ok (.ifCond .le 33, 3) := by decide +kernel
theorem dX6_crests_35 : decode cX6_crests 35 = .ok (.iload 4, 2) := by decide +kernel
theorem dX6_crests_37 : decode cX6_crests 37 = .ok (.aload_n 0, 1) := by decide +kernel
theorem dX6_crests_38 : decode cX6_crests 38 = .ok (.iload_n 3, 1) := by decide +kernel
theorem dX6_crests_39 : decode cX6_crests 39 = .ok (.iconst 1, 1) := by decide +kernel
theorem dX6_crests_40 : decode cX6_crests 40 = .ok (.isub, 1) := by decide +kernel
theorem dX6_crests_41 : decode cX6_crests 41 = .ok (.iload_n 1, 1) := by decide +kernel
theorem dX6_crests_42 : decode cX6_crests 42 = .ok (.invokevirtual 155, 3) := by decide +kernel
theorem dX6_crests_45 : decode cX6_crests 45 = .ok (.if_icmp .le 20, 3) := by decide +kernel
theorem dX6_crests_48 : decode cX6_crests 48 = .ok (.iload 4, 2) := by decide +kernel
theorem dX6_crests_50 : decode cX6_crests 50 = .ok (.aload_n 0, 1) := by decide +kernel
theorem dX6_crests_51 : decode cX6_crests 51 = .ok (.iload_n 3, 1) := by decide +kernel
theorem dX6_crests_52 : decode cX6_crests 52 = .ok (.iconst 1, 1) := by decide +kernel
theorem dX6_crests_53 : decode cX6_crests 53 = .ok (.iadd, 1) := by decide +kernel
theorem dX6_crests_54 : decode cX6_crests 54 = .ok (.iload_n 1, 1) := by decide +kernel
theorem dX6_crests_55 : decode cX6_crests 55 = .ok (.invokevirtual 155, 3) := by decide +kernel
theorem dX6_crests_58 : decode cX6_crests 58 = .ok (.if_icmp .le 7, 3) := by decide +kernel
theorem dX6_crests_61 : decode cX6_crests 61 = .ok (.iconst 1, 1) := by decide +kernel
theorem dX6_crests_62 : decode cX6_crests 62 = .ok (.goto 4, 3) := by decide +kernel
theorem dX6_crests_65 : decode cX6_crests 65 = .ok (.iconst 0, 1) := by decide +kernel
theorem dX6_crests_66 : decode cX6_crests 66 = .ok (.iadd, 1) := by decide +kernel
theorem dX6_crests_67 : decode cX6_crests 67 = .ok (.istore_n 2, 1) := by decide +kernel
theorem dX6_crests_68 : decode cX6_crests 68 = .ok (.iinc 3 1, 3) := by decide +kernel
theorem dX6_crests_71 : decode cX6_crests 71 = .ok (.goto (-56), 3) := by decide +kernel
theorem dX6_crests_74 : decode cX6_crests 74 = .ok (.iload_n 2, 1) := by decide +kernel
theorem dX6_crests_75 : decode cX6_crests 75 = .ok (.ireturn, 1) := by decide +kernel
theorem dX6_ifPassed_0 : decode cX6_ifPassed 0 = .ok (.iload_n 1, 1) := by decide +kernel
theorem dX6_ifPassed_1 : decode cX6_ifPassed 1 = .ok (.iload_n 2, 1) := by decide +kernel
theorem dX6_ifPassed_2 : decode cX6_ifPassed 2 = .ok (.invokestatic 58, 3) := by decide +kernel
theorem dX6_ifPassed_5 : decode cX6_ifPassed 5 = .ok (.ifCond .ne 5, 3) := by decide +kernel
theorem dX6_ifPassed_8 : decode cX6_ifPassed 8 = .ok (.iconst (-1), 1) := by decide +kernel
theorem dX6_ifPassed_9 : decode cX6_ifPassed 9 = .ok (.ireturn, 1) := by decide +kernel
theorem dX6_ifPassed_10 : decode cX6_ifPassed 10 = .ok (.iload_n 3, 1) := by decide +kernel
theorem dX6_ifPassed_11 : decode cX6_ifPassed 11 = .ok (.iconst 1, 1) := by decide +kernel
theorem dX6_ifPassed_12 : decode cX6_ifPassed 12 = .ok (.bipush 60, 2) := by decide +kernel
theorem dX6_ifPassed_14 : decode cX6_ifPassed 14 = .ok (.invokestatic 36, 3) := by decide +kernel
theorem dX6_ifPassed_17 : decode cX6_ifPassed 17 = .ok (.ifCond .ne 6, 3) := by decide +kernel
theorem dX6_ifPassed_20 : decode cX6_ifPassed 20 = .ok (.bipush (-2), 2) := by decide +kernel
theorem dX6_ifPassed_22 : decode cX6_ifPassed 22 = .ok (.ireturn, 1) := by decide +kernel
theorem dX6_ifPassed_23 : decode cX6_ifPassed 23 = .ok (.aload_n 0, 1) := by decide +kernel
theorem dX6_ifPassed_24 : decode cX6_ifPassed 24 = .ok (.invokevirtual 158, 3) := by decide +kernel
theorem dX6_ifPassed_27 : decode cX6_ifPassed 27 = .ok (.aload_n 0, 1) := by decide +kernel
theorem dX6_ifPassed_28 : decode cX6_ifPassed 28 = .ok (.iload_n 3, 1) := by decide +kernel
theorem dX6_ifPassed_29 : decode cX6_ifPassed 29 = .ok (.invokevirtual 124, 3) := by decide +kernel
theorem dX6_ifPassed_32 : decode cX6_ifPassed 32 = .ok (.aload_n 0, 1) := by decide +kernel
theorem dX6_ifPassed_33 : decode cX6_ifPassed 33 = .ok (.bipush 10, 2) := by decide +kernel
theorem dX6_ifPassed_35 : decode cX6_ifPassed 35 = .ok (.iload_n 2, 1) := by decide +kernel
theorem dX6_ifPassed_36 : decode cX6_ifPassed 36 = .ok (.imul, 1) := by decide +kernel
theorem dX6_ifPassed_37 : decode cX6_ifPassed 37 = .ok (.iload_n 1, 1) := by decide +kernel
theorem dX6_ifPassed_38 : decode cX6_ifPassed 38 = .ok (.iadd, 1) := by decide +kernel
theorem dX6_ifPassed_39 : decode cX6_ifPassed 39 = .ok (.invokevirtual 85, 3) := by decide +kernel
theorem dX6_ifPassed_42 : decode cX6_ifPassed 42 = .ok (.sipush 10000, 3) := by decide +kernel
theorem dX6_ifPassed_45 : decode cX6_ifPassed 45 = .ok (.iadd, 1) := by decide +kernel
theorem dX6_ifPassed_46 : decode cX6_ifPassed 46 = .ok (.istore 4, 2) := by decide +kernel
theorem dX6_ifPassed_48 : decode cX6_ifPassed 48 = .ok (.aload_n 0, 1) := by decide +kernel
theorem dX6_ifPassed_49 : decode cX6_ifPassed 49 = .ok (.invokevirtual 161, 3) := by decide +kernel
theorem dX6_ifPassed_52 : decode cX6_ifPassed 52 = .ok (.iload 4, 2) := by decide +kernel
theorem dX6_ifPassed_54 : decode cX6_ifPassed 54 = .ok (.ireturn, 1) := by decide +kernel
theorem dX6_comes_0 : decode cX6_comes 0 = .ok (.iload_n 1, 1) := by decide +kernel
theorem dX6_comes_1 : decode cX6_comes 1 = .ok (.iload_n 2, 1) := by decide +kernel
theorem dX6_comes_2 : decode cX6_comes 2 = .ok (.invokestatic 58, 3) := by decide +kernel
theorem dX6_comes_5 : decode cX6_comes 5 = .ok (.ifCond .ne 5, 3) := by decide +kernel
theorem dX6_comes_8 : decode cX6_comes 8 = .ok (.iconst (-1), 1) := by decide +kernel
theorem dX6_comes_9 : decode cX6_comes 9 = .ok (.ireturn, 1) := by decide +kernel
theorem dX6_comes_10 : decode cX6_comes 10 = .ok (.bipush 10, 2) := by decide +kernel
theorem dX6_comes_12 : decode cX6_comes 12 = .ok (.iload_n 2, 1) := by decide +kernel
theorem dX6_comes_13 : decode cX6_comes 13 = .ok (.imul, 1) := by decide +kernel
theorem dX6_comes_14 : decode cX6_comes 14 = .ok (.iload_n 1, 1) := by decide +kernel
theorem dX6_comes_15 : decode cX6_comes 15 = .ok (.iadd, 1) := by decide +kernel
theorem dX6_comes_16 : decode cX6_comes 16 = .ok (.istore_n 3, 1) := by decide +kernel
theorem dX6_comes_17 : decode cX6_comes 17 = .ok (.aload_n 0, 1) := by decide +kernel
theorem dX6_comes_18 : decode cX6_comes 18 = .ok (.iload_n 3, 1) := by decide +kernel
theorem dX6_comes_19 : decode cX6_comes 19 = .ok (.invokevirtual 117, 3) := by decide +kernel
theorem dX6_comes_22 : decode cX6_comes 22 = .ok (.ifCond .ne 6, 3) := by decide +kernel
theorem dX6_comes_25 : decode cX6_comes 25 = .ok (.bipush (-5), 2) := by decide +kernel
theorem dX6_comes_27 : decode cX6_comes 27 = .ok (.ireturn, 1) := by decide +kernel
theorem dX6_comes_28 : decode cX6_comes 28 = .ok (.aload_n 0, 1) := by decide +kernel
theorem dX6_comes_29 : decode cX6_comes 29 = .ok (.invokevirtual 158, 3) := by decide +kernel
theorem dX6_comes_32 : decode cX6_comes 32 = .ok (.bipush (-6), 2) := by decide +kernel
theorem dX6_comes_34 : decode cX6_comes 34 = .ok (.istore 4, 2) := by decide +kernel
theorem dX6_comes_36 : decode cX6_comes 36 = .ok (.iconst 1, 1) := by decide +kernel
theorem dX6_comes_37 : decode cX6_comes 37 = .ok (.istore 5, 2) := by decide +kernel
theorem dX6_comes_39 : decode cX6_comes 39 = .ok (.iload 5, 2) := by decide +kernel
theorem dX6_comes_41 : decode cX6_comes 41 = .ok (.bipush 80, 2) := by decide +kernel
theorem dX6_comes_43 : decode cX6_comes 43 = .ok (.if_icmp .gt 37, 3) := by decide +kernel
theorem dX6_comes_46 : decode cX6_comes 46 = .ok (.iload 4, 2) := by decide +kernel
theorem dX6_comes_48 : decode cX6_comes 48 = .ok (.bipush (-6), 2) := by decide +kernel
theorem dX6_comes_50 : decode cX6_comes 50 = .ok (.if_icmp .ne 30, 3) := by decide +kernel
theorem dX6_comes_53 : decode cX6_comes 53 = .ok (.aload_n 0, 1) := by decide +kernel
theorem dX6_comes_54 : decode cX6_comes 54 = .ok (.invokevirtual 120, 3) := by decide +kernel
theorem dX6_comes_57 : decode cX6_comes 57 = .ok (.aload_n 0, 1) := by decide +kernel
theorem dX6_comes_58 : decode cX6_comes 58 = .ok (.iload_n 3, 1) := by decide +kernel
theorem dX6_comes_59 : decode cX6_comes 59 = .ok (.invokevirtual 117, 3) := by decide +kernel
theorem dX6_comes_62 : decode cX6_comes 62 = .ok (.ifCond .eq 8, 3) := by decide +kernel
theorem dX6_comes_65 : decode cX6_comes 65 = .ok (.bipush (-6), 2) := by decide +kernel
theorem dX6_comes_67 : decode cX6_comes 67 = .ok (.goto 5, 3) := by decide +kernel
theorem dX6_comes_70 : decode cX6_comes 70 = .ok (.iload 5, 2) := by decide +kernel
theorem dX6_comes_72 : decode cX6_comes 72 = .ok (.istore 4, 2) := by decide +kernel
theorem dX6_comes_74 : decode cX6_comes 74 = .ok (.iinc 5 1, 3) := by decide +kernel
theorem dX6_comes_77 : decode cX6_comes 77 = .ok (.goto (-38), 3) := by decide +kernel
theorem dX6_comes_80 : decode cX6_comes 80 = .ok (.aload_n 0, 1) := by decide +kernel
theorem dX6_comes_81 : decode cX6_comes 81 = .ok (.invokevirtual 161, 3) := by decide +kernel
theorem dX6_comes_84 : decode cX6_comes 84 = .ok (.iload 4, 2) := by decide +kernel
theorem dX6_comes_86 : decode cX6_comes 86 = .ok (.ireturn, 1) := by decide +kernel
theorem dX6_hush_0 : decode cX6_hush 0 = .ok (.aload_n 0, 1) := by decide +kernel
theorem dX6_hush_1 : decode cX6_hush 1 = .ok (.iload_n 1, 1) := by decide +kernel
theorem dX6_hush_2 : decode cX6_hush 2 = .ok (.invokevirtual 94, 3) := by decide +kernel
theorem dX6_hush_5 : decode cX6_hush 5 = .ok (.ifCond .eq 11, 3) := by decide +kernel
theorem dX6_hush_8 : decode cX6_hush 8 = .ok (.iload_n 2, 1) := by decide +kernel
theorem dX6_hush_9 : decode cX6_hush 9 = .ok (.iload_n 3, 1) := by decide +kernel
theorem dX6_hush_10 : decode cX6_hush 10 = .ok (.invokestatic 58, 3) := by decide +kernel
theorem dX6_hush_13 : decode cX6_hush 13 = .ok (.ifCond .ne 5, 3) := by decide +kernel
theorem dX6_hush_16 : decode cX6_hush 16 = .ok (.iconst (-1), 1) := by decide +kernel
theorem dX6_hush_17 : decode cX6_hush 17 = .ok (.ireturn, 1) := by decide +kernel
theorem dX6_hush_18 : decode cX6_hush 18 = .ok (.iload 4, 2) := by decide +kernel
theorem dX6_hush_20 : decode cX6_hush 20 = .ok (.iconst 1, 1) := by decide +kernel
end
section
theorem dX6_hush_21 : decode cX6_hush 21 = .ok (.bipush 30, 2) := by decide +kernel
theorem dX6_hush_23 : decode cX6_hush 23 = .ok (.invokestatic 36, 3) := by decide +kernel
theorem dX6_hush_26 : decode cX6_hush 26 = .ok (.ifCond .eq 13, 3) := by decide +kernel
theorem dX6_hush_29 : decode cX6_hush 29 = .ok (.iload 5, 2) := by decide +kernel
theorem dX6_hush_31 : decode cX6_hush 31 = .ok (.iconst 0, 1) := by decide +kernel
theorem dX6_hush_32 : decode cX6_hush 32 = .ok (.iconst 1, 1) := by decide +kernel
theorem dX6_hush_33 : decode cX6_hush 33 = .ok (.invokestatic 36, 3) := by decide +kernel
theorem dX6_hush_36 : decode cX6_hush 36 = .ok (.ifCond .ne 6, 3) := by decide +kernel
theorem dX6_hush_39 : decode cX6_hush 39 = .ok (.bipush (-2), 2) := by decide +kernel
theorem dX6_hush_41 : decode cX6_hush 41 = .ok (.ireturn, 1) := by decide +kernel
theorem dX6_hush_42 : decode cX6_hush 42 = .ok (.aload_n 0, 1) := by decide +kernel
theorem dX6_hush_43 : decode cX6_hush 43 = .ok (.invokevirtual 158, 3) := by decide +kernel
theorem dX6_hush_46 : decode cX6_hush 46 = .ok (.bipush (-6), 2) := by decide +kernel
theorem dX6_hush_48 : decode cX6_hush 48 = .ok (.istore 6, 2) := by decide +kernel
theorem dX6_hush_50 : decode cX6_hush 50 = .ok (.iconst 0, 1) := by decide +kernel
theorem dX6_hush_51 : decode cX6_hush 51 = .ok (.istore 7, 2) := by decide +kernel
theorem dX6_hush_53 : decode cX6_hush 53 = .ok (.iconst 0, 1) := by decide +kernel
theorem dX6_hush_54 : decode cX6_hush 54 = .ok (.istore 8, 2) := by decide +kernel
theorem dX6_hush_56 : decode cX6_hush 56 = .ok (.iload 8, 2) := by decide +kernel
theorem dX6_hush_58 : decode cX6_hush 58 = .ok (.aload_n 0, 1) := by decide +kernel
theorem dX6_hush_59 : decode cX6_hush 59 = .ok (.getfield 23, 3) := by decide +kernel
theorem dX6_hush_62 : decode cX6_hush 62 = .ok (.sipush 246, 3) := by decide +kernel
theorem dX6_hush_65 : decode cX6_hush 65 = .ok (.iconst 4, 1) := by decide +kernel
theorem dX6_hush_66 : decode cX6_hush 66 = .ok (.iload_n 1, 1) := by decide +kernel
theorem dX6_hush_67 : decode cX6_hush 67 = .ok (.imul, 1) := by decide +kernel
theorem dX6_hush_68 : decode cX6_hush 68 = .ok (.iadd, 1) := by decide +kernel
theorem dX6_hush_69 : decode cX6_hush 69 = .ok (.iconst 1, 1) := by decide +kernel
theorem dX6_hush_70 : decode cX6_hush 70 = .ok (.iadd, 1) := by decide +kernel
theorem dX6_hush_71 : decode cX6_hush 71 = .ok (.iaload, 1) := by decide +kernel
theorem dX6_hush_72 : decode cX6_hush 72 = .ok (.if_icmp .ge 99, 3) := by decide +kernel
theorem dX6_hush_75 : decode cX6_hush 75 = .ok (.aload_n 0, 1) := by decide +kernel
theorem dX6_hush_76 : decode cX6_hush 76 = .ok (.invokevirtual 161, 3) := by decide +kernel
theorem dX6_hush_79 : decode cX6_hush 79 = .ok (.aload_n 0, 1) := by decide +kernel
theorem dX6_hush_80 : decode cX6_hush 80 = .ok (.getfield 7, 3) := by decide +kernel
theorem dX6_hush_83 : decode cX6_hush 83 = .ok (.sipush 246, 3) := by decide +kernel
theorem dX6_hush_86 : decode cX6_hush 86 = .ok (.iconst 4, 1) := by decide +kernel
theorem dX6_hush_87 : decode cX6_hush 87 = .ok (.iload_n 1, 1) := by decide +kernel
theorem dX6_hush_88 : decode cX6_hush 88 = .ok (.imul, 1) := by decide +kernel
theorem dX6_hush_89 : decode cX6_hush 89 = .ok (.iadd, 1) := by decide +kernel
theorem dX6_hush_90 : decode cX6_hush 90 = .ok (.iconst 3, 1) := by decide +kernel
theorem dX6_hush_91 : decode cX6_hush 91 = .ok (.iadd, 1) := by decide +kernel
theorem dX6_hush_92 : decode cX6_hush 92 = .ok (.iload 8, 2) := by decide +kernel
theorem dX6_hush_94 : decode cX6_hush 94 = .ok (.iastore, 1) := by decide +kernel
theorem dX6_hush_95 : decode cX6_hush 95 = .ok (.aload_n 0, 1) := by decide +kernel
theorem dX6_hush_96 : decode cX6_hush 96 = .ok (.iload 4, 2) := by decide +kernel
theorem dX6_hush_98 : decode cX6_hush 98 = .ok (.invokevirtual 124, 3) := by decide +kernel
theorem dX6_hush_101 : decode cX6_hush 101 = .ok (.aload_n 0, 1) := by decide +kernel
theorem dX6_hush_102 : decode cX6_hush 102 = .ok (.bipush 10, 2) := by decide +kernel
theorem dX6_hush_104 : decode cX6_hush 104 = .ok (.iload_n 3, 1) := by decide +kernel
theorem dX6_hush_105 : decode cX6_hush 105 = .ok (.imul, 1) := by decide +kernel
theorem dX6_hush_106 : decode cX6_hush 106 = .ok (.iload_n 2, 1) := by decide +kernel
theorem dX6_hush_107 : decode cX6_hush 107 = .ok (.iadd, 1) := by decide +kernel
theorem dX6_hush_108 : decode cX6_hush 108 = .ok (.invokevirtual 85, 3) := by decide +kernel
theorem dX6_hush_111 : decode cX6_hush 111 = .ok (.invokestatic 88, 3) := by decide +kernel
theorem dX6_hush_114 : decode cX6_hush 114 = .ok (.istore 9, 2) := by decide +kernel
theorem dX6_hush_116 : decode cX6_hush 116 = .ok (.iload 6, 2) := by decide +kernel
theorem dX6_hush_118 : decode cX6_hush 118 = .ok (.bipush (-6), 2) := by decide +kernel
theorem dX6_hush_120 : decode cX6_hush 120 = .ok (.if_icmp .eq 10, 3) := by decide +kernel
theorem dX6_hush_123 : decode cX6_hush 123 = .ok (.iload 9, 2) := by decide +kernel
theorem dX6_hush_125 : decode cX6_hush 125 = .ok (.iload 7, 2) := by decide +kernel
theorem dX6_hush_127 : decode cX6_hush 127 = .ok (.if_icmp .ge 7, 3) := by decide +kernel
theorem dX6_hush_130 : decode cX6_hush 130 = .ok (.iconst 1, 1) := by decide +kernel
theorem dX6_hush_131 : decode cX6_hush 131 = .ok (.goto 4, 3) := by decide +kernel
theorem dX6_hush_134 : decode cX6_hush 134 = .ok (.iconst 0, 1) := by decide +kernel
theorem dX6_hush_135 : decode cX6_hush 135 = .ok (.istore 10, 2) := by decide +kernel
theorem dX6_hush_137 : decode cX6_hush 137 = .ok (.iload 10, 2) := by decide +kernel
theorem dX6_hush_139 : decode cX6_hush 139 = .ok (.ifCond .eq 8, 3) := by decide +kernel
theorem dX6_hush_142 : decode cX6_hush 142 = .ok (.iload 8, 2) := by decide +kernel
theorem dX6_hush_144 : decode cX6_hush 144 = .ok (.goto 5, 3) := by decide +kernel
theorem dX6_hush_147 : decode cX6_hush 147 = .ok (.iload 6, 2) := by decide +kernel
theorem dX6_hush_149 : decode cX6_hush 149 = .ok (.istore 6, 2) := by decide +kernel
theorem dX6_hush_151 : decode cX6_hush 151 = .ok (.iload 10, 2) := by decide +kernel
theorem dX6_hush_153 : decode cX6_hush 153 = .ok (.ifCond .eq 8, 3) := by decide +kernel
theorem dX6_hush_156 : decode cX6_hush 156 = .ok (.iload 9, 2) := by decide +kernel
theorem dX6_hush_158 : decode cX6_hush 158 = .ok (.goto 5, 3) := by decide +kernel
theorem dX6_hush_161 : decode cX6_hush 161 = .ok (.iload 7, 2) := by decide +kernel
theorem dX6_hush_163 : decode cX6_hush 163 = .ok (.istore 7, 2) := by decide +kernel
theorem dX6_hush_165 : decode cX6_hush 165 = .ok (.iinc 8 1, 3) := by decide +kernel
theorem dX6_hush_168 : decode cX6_hush 168 = .ok (.goto (-112), 3) := by decide +kernel
theorem dX6_hush_171 : decode cX6_hush 171 = .ok (.aload_n 0, 1) := by decide +kernel
theorem dX6_hush_172 : decode cX6_hush 172 = .ok (.invokevirtual 161, 3) := by decide +kernel
theorem dX6_hush_175 : decode cX6_hush 175 = .ok (.iload 5, 2) := by decide +kernel
theorem dX6_hush_177 : decode cX6_hush 177 = .ok (.ifCond .ne 8, 3) := by decide +kernel
theorem dX6_hush_180 : decode cX6_hush 180 = .ok (.iload 6, 2) := by decide +kernel
theorem dX6_hush_182 : decode cX6_hush 182 = .ok (.goto 5, 3) := by decide +kernel
theorem dX6_hush_185 : decode cX6_hush 185 = .ok (.iload 7, 2) := by decide +kernel
theorem dX6_hush_187 : decode cX6_hush 187 = .ok (.ireturn, 1) := by decide +kernel
theorem dX6_put_0 : decode cX6_put 0 = .ok (.iconst 0, 1) := by decide +kernel
theorem dX6_put_1 : decode cX6_put 1 = .ok (.istore_n 3, 1) := by decide +kernel
theorem dX6_put_2 : decode cX6_put 2 = .ok (.lload_n 1, 1) := by decide +kernel
theorem dX6_put_3 : decode cX6_put 3 = .ok (.lstore 4, 2) := by decide +kernel
theorem dX6_put_5 : decode cX6_put 5 = .ok (.iconst 1, 1) := by decide +kernel
theorem dX6_put_6 : decode cX6_put 6 = .ok (.istore 6, 2) := by decide +kernel
theorem dX6_put_8 : decode cX6_put 8 = .ok (.lload 4, 2) := by decide +kernel
theorem dX6_put_10 : decode cX6_put 10 = .ok (.lconst 0, 1) := by decide +kernel
theorem dX6_put_11 : decode cX6_put 11 = .ok (.lcmp, 1) := by decide +kernel
theorem dX6_put_12 : decode cX6_put 12 = .ok (.ifCond .eq 37, 3) := by decide +kernel
theorem dX6_put_15 : decode cX6_put 15 = .ok (.iload 6, 2) := by decide +kernel
theorem dX6_put_17 : decode cX6_put 17 = .ok (.ifCond .eq 32, 3) := by decide +kernel
theorem dX6_put_20 : decode cX6_put 20 = .ok (.lload 4, 2) := by decide +kernel
theorem dX6_put_22 : decode cX6_put 22 = .ok (.ldc2_w 164, 3) := by decide +kernel
theorem dX6_put_25 : decode cX6_put 25 = .ok (.land, 1) := by decide +kernel
theorem dX6_put_26 : decode cX6_put 26 = .ok (.l2i, 1) := by decide +kernel
theorem dX6_put_27 : decode cX6_put 27 = .ok (.bipush 33, 2) := by decide +kernel
theorem dX6_put_29 : decode cX6_put 29 = .ok (.bipush 126, 2) := by decide +kernel
theorem dX6_put_31 : decode cX6_put 31 = .ok (.invokestatic 36, 3) := by decide +kernel
theorem dX6_put_34 : decode cX6_put 34 = .ok (.istore 6, 2) := by decide +kernel
theorem dX6_put_36 : decode cX6_put 36 = .ok (.lload 4, 2) := by decide +kernel
theorem dX6_put_38 : decode cX6_put 38 = .ok (.bipush 8, 2) := by decide +kernel
theorem dX6_put_40 : decode cX6_put 40 = .ok (.lushr, 1) := by decide +kernel
theorem dX6_put_41 : decode cX6_put 41 = .ok (.lstore 4, 2) := by decide +kernel
theorem dX6_put_43 : decode cX6_put 43 = .ok (.iinc 3 1, 3) := by decide +kernel
theorem dX6_put_46 : decode cX6_put 46 = .ok (.goto (-38), 3) := by decide +kernel
theorem dX6_put_49 : decode cX6_put 49 = .ok (.iload_n 3, 1) := by decide +kernel
theorem dX6_put_50 : decode cX6_put 50 = .ok (.ifCond .eq 8, 3) := by decide +kernel
theorem dX6_put_53 : decode cX6_put 53 = .ok (.iload 6, 2) := by decide +kernel
theorem dX6_put_55 : decode cX6_put 55 = .ok (.ifCond .ne 6, 3) := by decide +kernel
theorem dX6_put_58 : decode cX6_put 58 = .ok (.bipush (-2), 2) := by decide +kernel
theorem dX6_put_60 : decode cX6_put 60 = .ok (.ireturn, 1) := by decide +kernel
theorem dX6_put_61 : decode cX6_put 61 = .ok (.aload_n 0, 1) := by decide +kernel
theorem dX6_put_62 : decode cX6_put 62 = .ok (.getfield 79, 3) := by decide +kernel
theorem dX6_put_65 : decode cX6_put 65 = .ok (.iload_n 3, 1) := by decide +kernel
theorem dX6_put_66 : decode cX6_put 66 = .ok (.iadd, 1) := by decide +kernel
theorem dX6_put_67 : decode cX6_put 67 = .ok (.bipush 72, 2) := by decide +kernel
theorem dX6_put_69 : decode cX6_put 69 = .ok (.if_icmp .le 6, 3) := by decide +kernel
theorem dX6_put_72 : decode cX6_put 72 = .ok (.bipush (-4), 2) := by decide +kernel
theorem dX6_put_74 : decode cX6_put 74 = .ok (.ireturn, 1) := by decide +kernel
theorem dX6_put_75 : decode cX6_put 75 = .ok (.iload_n 3, 1) := by decide +kernel
theorem dX6_put_76 : decode cX6_put 76 = .ok (.iconst 1, 1) := by decide +kernel
theorem dX6_put_77 : decode cX6_put 77 = .ok (.isub, 1) := by decide +kernel
theorem dX6_put_78 : decode cX6_put 78 = .ok (.istore 7, 2) := by decide +kernel
theorem dX6_put_80 : decode cX6_put 80 = .ok (.iload 7, 2) := by decide +kernel
theorem dX6_put_82 : decode cX6_put 82 = .ok (.ifCond .lt 41, 3) := by decide +kernel
theorem dX6_put_85 : decode cX6_put 85 = .ok (.aload_n 0, 1) := by decide +kernel
theorem dX6_put_86 : decode cX6_put 86 = .ok (.getfield 26, 3) := by decide +kernel
theorem dX6_put_89 : decode cX6_put 89 = .ok (.aload_n 0, 1) := by decide +kernel
theorem dX6_put_90 : decode cX6_put 90 = .ok (.getfield 79, 3) := by decide +kernel
theorem dX6_put_93 : decode cX6_put 93 = .ok (.lload_n 1, 1) := by decide +kernel
theorem dX6_put_94 : decode cX6_put 94 = .ok (.bipush 8, 2) := by decide +kernel
theorem dX6_put_96 : decode cX6_put 96 = .ok (.iload 7, 2) := by decide +kernel
theorem dX6_put_98 : decode cX6_put 98 = .ok (.imul, 1) := by decide +kernel
theorem dX6_put_99 : decode cX6_put 99 = .ok (.lushr, 1) := by decide +kernel
theorem dX6_put_100 : decode cX6_put 100 = .ok (.ldc2_w 164, 3) := by decide +kernel
theorem dX6_put_103 : decode cX6_put 103 = .ok (.land, 1) := by decide +kernel
theorem dX6_put_104 : decode cX6_put 104 = .ok (.l2i, 1) := by decide +kernel
theorem dX6_put_105 : decode cX6_put 105 = .ok (.i2c, 1) := by decide +kernel
theorem dX6_put_106 : decode cX6_put 106 = .ok (.castore, 1) := by decide +kernel
theorem dX6_put_107 : decode cX6_put 107 = .ok (.aload_n 0, 1) := by decide +kernel
theorem dX6_put_108 : decode cX6_put 108 = .ok (.dup, 1) := by decide +kernel
theorem dX6_put_109 : decode cX6_put 109 = .ok (.getfield 79, 3) := by decide +kernel
theorem dX6_put_112 : decode cX6_put 112 = .ok (.iconst 1, 1) := by decide +kernel
theorem dX6_put_113 : decode cX6_put 113 = .ok (.iadd, 1) := by decide +kernel
theorem dX6_put_114 : decode cX6_put 114 = .ok (.putfield 79, 3) := by decide +kernel
theorem dX6_put_117 : decode cX6_put 117 = .ok (.iinc 7 (-1), 3) := by decide +kernel
theorem dX6_put_120 : decode cX6_put 120 = .ok (.goto (-40), 3) := by decide +kernel
theorem dX6_put_123 : decode cX6_put 123 = .ok (.aload_n 0, 1) := by decide +kernel
theorem dX6_put_124 : decode cX6_put 124 = .ok (.getfield 79, 3) := by decide +kernel
theorem dX6_put_127 : decode cX6_put 127 = .ok (.ireturn, 1) := by decide +kernel
theorem dX6_wipe_0 : decode cX6_wipe 0 = .ok (.aload_n 0, 1) := by decide +kernel
theorem dX6_wipe_1 : decode cX6_wipe 1 = .ok (.getfield 79, 3) := by decide +kernel
theorem dX6_wipe_4 : decode cX6_wipe 4 = .ok (.istore_n 1, 1) := by decide +kernel
theorem dX6_wipe_5 : decode cX6_wipe 5 = .ok (.aload_n 0, 1) := by decide +kernel
theorem dX6_wipe_6 : decode cX6_wipe 6 = .ok (.iconst 0, 1) := by decide +kernel
theorem dX6_wipe_7 : decode cX6_wipe 7 = .ok (.putfield 79, 3) := by decide +kernel
theorem dX6_wipe_10 : decode cX6_wipe 10 = .ok (.iload_n 1, 1) := by decide +kernel
theorem dX6_wipe_11 : decode cX6_wipe 11 = .ok (.ireturn, 1) := by decide +kernel
theorem dX6_floorOf_0 : decode cX6_floorOf 0 = .ok (.iload_n 0, 1) := by decide +kernel
theorem dX6_floorOf_1 : decode cX6_floorOf 1 = .ok (.bipush 46, 2) := by decide +kernel
theorem dX6_floorOf_3 : decode cX6_floorOf 3 = .ok (.if_icmp .ne 7, 3) := by decide +kernel
theorem dX6_floorOf_6 : decode cX6_floorOf 6 = .ok (.iconst 0, 1) := by decide +kernel
theorem dX6_floorOf_7 : decode cX6_floorOf 7 = .ok (.goto 35, 3) := by decide +kernel
theorem dX6_floorOf_10 : decode cX6_floorOf 10 = .ok (.iload_n 0, 1) := by decide +kernel
theorem dX6_floorOf_11 : decode cX6_floorOf 11 = .ok (.bipush 45, 2) := by decide +kernel
theorem dX6_floorOf_13 : decode cX6_floorOf 13 = .ok (.if_icmp .ne 7, 3) := by decide +kernel
theorem dX6_floorOf_16 : decode cX6_floorOf 16 = .ok (.iconst 1, 1) := by decide +kernel
theorem dX6_floorOf_17 : decode cX6_floorOf 17 = .ok (.goto 25, 3) := by decide +kernel
theorem dX6_floorOf_20 : decode cX6_floorOf 20 = .ok (.iload_n 0, 1) := by decide +kernel
theorem dX6_floorOf_21 : decode cX6_floorOf 21 = .ok (.bipush 35, 2) := by decide +kernel
theorem dX6_floorOf_23 : decode cX6_floorOf 23 = .ok (.if_icmp .ne 7, 3) := by decide +kernel
theorem dX6_floorOf_26 : decode cX6_floorOf 26 = .ok (.iconst 2, 1) := by decide +kernel
theorem dX6_floorOf_27 : decode cX6_floorOf 27 = .ok (.goto 15, 3) := by decide +kernel
theorem dX6_floorOf_30 : decode cX6_floorOf 30 = .ok (.iload_n 0, 1) := by decide +kernel
theorem dX6_floorOf_31 : decode cX6_floorOf 31 = .ok (.bipush 126, 2) := by decide +kernel
theorem dX6_floorOf_33 : decode cX6_floorOf 33 = .ok (.if_icmp .ne 7, 3) := by decide +kernel
theorem dX6_floorOf_36 : decode cX6_floorOf 36 = .ok (.iconst 3, 1) := by decide +kernel
theorem dX6_floorOf_37 : decode cX6_floorOf 37 = .ok (.goto 5, 3) := by decide +kernel
theorem dX6_floorOf_40 : decode cX6_floorOf 40 = .ok (.bipush (-6), 2) := by decide +kernel
theorem dX6_floorOf_42 : decode cX6_floorOf 42 = .ok (.ireturn, 1) := by decide +kernel
theorem dX6_readPad_0 : decode cX6_readPad 0 = .ok (.iconst 0, 1) := by decide +kernel
theorem dX6_readPad_1 : decode cX6_readPad 1 = .ok (.istore_n 1, 1) := by decide +kernel
theorem dX6_readPad_2 : decode cX6_readPad 2 = .ok (.iload_n 1, 1) := by decide +kernel
theorem dX6_readPad_3 : decode cX6_readPad 3 = .ok (.aload_n 0, 1) := by decide +kernel
theorem dX6_readPad_4 : decode cX6_readPad 4 = .ok (.getfield 79, 3) := by decide +kernel
theorem dX6_readPad_7 : decode cX6_readPad 7 = .ok (.if_icmp .ge 64, 3) := by decide +kernel
theorem dX6_readPad_10 : decode cX6_readPad 10 = .ok (.iload_n 1, 1) := by decide +kernel
theorem dX6_readPad_11 : decode cX6_readPad 11 = .ok (.bipush 11, 2) := by decide +kernel
theorem dX6_readPad_13 : decode cX6_readPad 13 = .ok (.irem, 1) := by decide +kernel
theorem dX6_readPad_14 : decode cX6_readPad 14 = .ok (.bipush 10, 2) := by decide +kernel
theorem dX6_readPad_16 : decode cX6_readPad 16 = .ok (.if_icmp .ne 7, 3) := by decide +kernel
theorem dX6_readPad_19 : decode cX6_readPad 19 = .ok (.iconst 1, 1) := by decide +kernel
theorem dX6_readPad_20 : decode cX6_readPad 20 = .ok (.goto 4, 3) := by decide +kernel
theorem dX6_readPad_23 : decode cX6_readPad 23 = .ok (.iconst 0, 1) := by decide +kernel
theorem dX6_readPad_24 : decode cX6_readPad 24 = .ok (.istore_n 2, 1) := by decide +kernel
theorem dX6_readPad_25 : decode cX6_readPad 25 = .ok (.iload_n 1, 1) := by decide +kernel
theorem dX6_readPad_26 : decode cX6_readPad 26 = .ok (.bipush 65, 2) := by decide +kernel
theorem dX6_readPad_28 : decode cX6_readPad 28 = .ok (.if_icmp .eq 35, 3) := by decide +kernel
theorem dX6_readPad_31 : decode cX6_readPad 31 = .ok (.iload_n 2, 1) := by decide +kernel
theorem dX6_readPad_32 : decode cX6_readPad 32 = .ok (.ifCond .eq 17, 3) := by decide +kernel
theorem dX6_readPad_35 : decode cX6_readPad 35 = .ok (.aload_n 0, 1) := by decide +kernel
theorem dX6_readPad_36 : decode cX6_readPad 36 = .ok (.getfield 26, 3) := by decide +kernel
theorem dX6_readPad_39 : decode cX6_readPad 39 = .ok (.iload_n 1, 1) := by decide +kernel
theorem dX6_readPad_40 : decode cX6_readPad 40 = .ok (.caload, 1) := by decide +kernel
theorem dX6_readPad_41 : decode cX6_readPad 41 = .ok (.bipush 47, 2) := by decide +kernel
theorem dX6_readPad_43 : decode cX6_readPad 43 = .ok (.if_icmp .eq 22, 3) := by decide +kernel
theorem dX6_readPad_46 : decode cX6_readPad 46 = .ok (.goto 17, 3) := by decide +kernel
theorem dX6_readPad_49 : decode cX6_readPad 49 = .ok (.aload_n 0, 1) := by decide +kernel
theorem dX6_readPad_50 : decode cX6_readPad 50 = .ok (.getfield 26, 3) := by decide +kernel
theorem dX6_readPad_53 : decode cX6_readPad 53 = .ok (.iload_n 1, 1) := by decide +kernel
theorem dX6_readPad_54 : decode cX6_readPad 54 = .ok (.caload, 1) := by decide +kernel
theorem dX6_readPad_55 : decode cX6_readPad 55 = .ok (.invokestatic 73, 3) := by decide +kernel
theorem dX6_readPad_58 : decode cX6_readPad 58 = .ok (.bipush (-6), 2) := by decide +kernel
theorem dX6_readPad_60 : decode cX6_readPad 60 = .ok (.if_icmp .ne 5, 3) := by decide +kernel
theorem dX6_readPad_63 : decode cX6_readPad 63 = .ok (.iload_n 1, 1) := by decide +kernel
theorem dX6_readPad_64 : decode cX6_readPad 64 = .ok (.ireturn, 1) := by decide +kernel
theorem dX6_readPad_65 : decode cX6_readPad 65 = .ok (.iinc 1 1, 3) := by decide +kernel
theorem dX6_readPad_68 : decode cX6_readPad 68 = .ok (.goto (-66), 3) := by decide +kernel
theorem dX6_readPad_71 : decode cX6_readPad 71 = .ok (.aload_n 0, 1) := by decide +kernel
theorem dX6_readPad_72 : decode cX6_readPad 72 = .ok (.getfield 79, 3) := by decide +kernel
theorem dX6_readPad_75 : decode cX6_readPad 75 = .ok (.bipush 65, 2) := by decide +kernel
theorem dX6_readPad_77 : decode cX6_readPad 77 = .ok (.if_icmp .ge 10, 3) := by decide +kernel
theorem dX6_readPad_80 : decode cX6_readPad 80 = .ok (.aload_n 0, 1) := by decide +kernel
theorem dX6_readPad_81 : decode cX6_readPad 81 = .ok (.getfield 79, 3) := by decide +kernel
theorem dX6_readPad_84 : decode cX6_readPad 84 = .ok (.goto 5, 3) := by decide +kernel
theorem dX6_readPad_87 : decode cX6_readPad 87 = .ok (.bipush (-6), 2) := by decide +kernel
theorem dX6_readPad_89 : decode cX6_readPad 89 = .ok (.ireturn, 1) := by decide +kernel
theorem dX6_fault_0 : decode cX6_fault 0 = .ok (.aload_n 0, 1) := by decide +kernel
theorem dX6_fault_1 : decode cX6_fault 1 = .ok (.invokevirtual 69, 3) := by decide +kernel
theorem dX6_fault_4 : decode cX6_fault 4 = .ok (.ireturn, 1) := by decide +kernel
theorem dJ11_isValidCodePoint_9a6ad_0 : decode cJ11_isValidCodePoint_9a6ad 0 = .ok (.iload_n 0, 1) := by decide +kernel
theorem dJ11_isValidCodePoint_9a6ad_1 : decode cJ11_isValidCodePoint_9a6ad 1 = .ok (.bipush 16, 2) := by decide +kernel
theorem dJ11_isValidCodePoint_9a6ad_3 : decode cJ11_isValidCodePoint_9a6ad 3 = .ok (.iushr, 1) := by decide +kernel
theorem dJ11_isValidCodePoint_9a6ad_4 : decode cJ11_isValidCodePoint_9a6ad 4 = .ok (.istore_n 1, 1) := by decide +kernel
theorem dJ11_isValidCodePoint_9a6ad_5 : decode cJ11_isValidCodePoint_9a6ad 5 = .ok (.iload_n 1, 1) := by decide +kernel
theorem dJ11_isValidCodePoint_9a6ad_6 : decode cJ11_isValidCodePoint_9a6ad 6 = .ok (.bipush 17, 2) := by decide +kernel
theorem dJ11_isValidCodePoint_9a6ad_8 : decode cJ11_isValidCodePoint_9a6ad 8 = .ok (.if_icmp .ge 7, 3) := by decide +kernel
theorem dJ11_isValidCodePoint_9a6ad_11 : decode cJ11_isValidCodePoint_9a6ad 11 = .ok (.iconst 1, 1) := by decide +kernel
theorem dJ11_isValidCodePoint_9a6ad_12 : decode cJ11_isValidCodePoint_9a6ad 12 = .ok (.goto 4, 3) := by decide +kernel
theorem dJ11_isValidCodePoint_9a6ad_15 : decode cJ11_isValidCodePoint_9a6ad 15 = .ok (.iconst 0, 1) := by decide +kernel
theorem dJ11_isValidCodePoint_9a6ad_16 : decode cJ11_isValidCodePoint_9a6ad 16 = .ok (.ireturn, 1) := by decide +kernel
theorem dJ11_highSurrogate_5068e_0 : decode cJ11_highSurrogate_5068e 0 = .ok (.iload_n 0, 1) := by decide +kernel
theorem dJ11_highSurrogate_5068e_1 : decode cJ11_highSurrogate_5068e 1 = .ok (.bipush 10, 2) := by decide +kernel
theorem dJ11_highSurrogate_5068e_3 : decode cJ11_highSurrogate_5068e 3 = .ok (.iushr, 1) := by decide +kernel
theorem dJ11_highSurrogate_5068e_4 : decode cJ11_highSurrogate_5068e 4 = .ok (.ldc 110, 2) := by decide +kernel
theorem dJ11_highSurrogate_5068e_6 : decode cJ11_highSurrogate_5068e 6 = .ok (.iadd, 1) := by decide +kernel
theorem dJ11_highSurrogate_5068e_7 : decode cJ11_highSurrogate_5068e 7 = .ok (.i2c, 1) := by decide +kernel
theorem dJ11_highSurrogate_5068e_8 : decode cJ11_highSurrogate_5068e 8 = .ok (.ireturn, 1) := by decide +kernel
theorem dJ11_lowSurrogate_5068e_0 : decode cJ11_lowSurrogate_5068e 0 = .ok (.iload_n 0, 1) := by decide +kernel
theorem dJ11_lowSurrogate_5068e_1 : decode cJ11_lowSurrogate_5068e 1 = .ok (.sipush 1023, 3) := by decide +kernel
theorem dJ11_lowSurrogate_5068e_4 : decode cJ11_lowSurrogate_5068e 4 = .ok (.iand, 1) := by decide +kernel
theorem dJ11_lowSurrogate_5068e_5 : decode cJ11_lowSurrogate_5068e 5 = .ok (.ldc 76, 2) := by decide +kernel
theorem dJ11_lowSurrogate_5068e_7 : decode cJ11_lowSurrogate_5068e 7 = .ok (.iadd, 1) := by decide +kernel
theorem dJ11_lowSurrogate_5068e_8 : decode cJ11_lowSurrogate_5068e 8 = .ok (.i2c, 1) := by decide +kernel
theorem dJ11_lowSurrogate_5068e_9 : decode cJ11_lowSurrogate_5068e 9 = .ok (.ireturn, 1) := by decide +kernel
theorem dJ9_abs_0f7a4_0 : decode cJ9_abs_0f7a4 0 = .ok (.iload_n 0, 1) := by decide +kernel
theorem dJ9_abs_0f7a4_1 : decode cJ9_abs_0f7a4 1 = .ok (.ifCond .ge 8, 3) := by decide +kernel
theorem dJ9_abs_0f7a4_4 : decode cJ9_abs_0f7a4 4 = .ok (.iload_n 0, 1) := by decide +kernel
theorem dJ9_abs_0f7a4_5 : decode cJ9_abs_0f7a4 5 = .ok (.ineg, 1) := by decide +kernel
theorem dJ9_abs_0f7a4_6 : decode cJ9_abs_0f7a4 6 = .ok (.goto 4, 3) := by decide +kernel
theorem dJ9_abs_0f7a4_9 : decode cJ9_abs_0f7a4 9 = .ok (.iload_n 0, 1) := by decide +kernel
theorem dJ9_abs_0f7a4_10 : decode cJ9_abs_0f7a4 10 = .ok (.ireturn, 1) := by decide +kernel
theorem dJ9_max_7cf53_0 : decode cJ9_max_7cf53 0 = .ok (.iload_n 0, 1) := by decide +kernel
theorem dJ9_max_7cf53_1 : decode cJ9_max_7cf53 1 = .ok (.iload_n 1, 1) := by decide +kernel
theorem dJ9_max_7cf53_2 : decode cJ9_max_7cf53 2 = .ok (.if_icmp .lt 7, 3) := by decide +kernel
theorem dJ9_max_7cf53_5 : decode cJ9_max_7cf53 5 = .ok (.iload_n 0, 1) := by decide +kernel
theorem dJ9_max_7cf53_6 : decode cJ9_max_7cf53 6 = .ok (.goto 4, 3) := by decide +kernel
theorem dJ9_max_7cf53_9 : decode cJ9_max_7cf53 9 = .ok (.iload_n 1, 1) := by decide +kernel
theorem dJ9_max_7cf53_10 : decode cJ9_max_7cf53 10 = .ok (.ireturn, 1) := by decide +kernel
theorem dJ9_min_7cf53_0 : decode cJ9_min_7cf53 0 = .ok (.iload_n 0, 1) := by decide +kernel
theorem dJ9_min_7cf53_1 : decode cJ9_min_7cf53 1 = .ok (.iload_n 1, 1) := by decide +kernel
theorem dJ9_min_7cf53_2 : decode cJ9_min_7cf53 2 = .ok (.if_icmp .gt 7, 3) := by decide +kernel
theorem dJ9_min_7cf53_5 : decode cJ9_min_7cf53 5 = .ok (.iload_n 0, 1) := by decide +kernel
theorem dJ9_min_7cf53_6 : decode cJ9_min_7cf53 6 = .ok (.goto 4, 3) := by decide +kernel
theorem dJ9_min_7cf53_9 : decode cJ9_min_7cf53 9 = .ok (.iload_n 1, 1) := by decide +kernel
theorem dJ9_min_7cf53_10 : decode cJ9_min_7cf53 10 = .ok (.ireturn, 1) := by decide +kernel
theorem dJ0_length_8abf5_0 : decode cJ0_length_8abf5 0 = .ok (.aload_n 0, 1) := by decide +kernel
theorem dJ0_length_8abf5_1 : decode cJ0_length_8abf5 1 = .ok (.getfield 9, 3) := by decide +kernel
theorem dJ0_length_8abf5_4 : decode cJ0_length_8abf5 4 = .ok (.arraylength, 1) := by decide +kernel
theorem dJ0_length_8abf5_5 : decode cJ0_length_8abf5 5 = .ok (.aload_n 0, 1) := by decide +kernel
theorem dJ0_length_8abf5_6 : decode cJ0_length_8abf5 6 = .ok (.invokevirtual 335, 3) := by decide +kernel
theorem dJ0_length_8abf5_9 : decode cJ0_length_8abf5 9 = .ok (.ishr, 1) := by decide +kernel
theorem dJ0_length_8abf5_10 : decode cJ0_length_8abf5 10 = .ok (.ireturn, 1) := by decide +kernel
theorem dJ0_indexOf_0f7a4_0 : decode cJ0_indexOf_0f7a4 0 = .ok (.aload_n 0, 1) := by decide +kernel
theorem dJ0_indexOf_0f7a4_1 : decode cJ0_indexOf_0f7a4 1 = .ok (.iload_n 1, 1) := by decide +kernel
theorem dJ0_indexOf_0f7a4_2 : decode cJ0_indexOf_0f7a4 2 = .ok (.iconst 0, 1) := by decide +kernel
theorem dJ0_indexOf_0f7a4_3 : decode cJ0_indexOf_0f7a4 3 = .ok (.invokevirtual 633, 3) := by decide +kernel
theorem dJ0_indexOf_0f7a4_6 : decode cJ0_indexOf_0f7a4 6 = .ok (.ireturn, 1) := by decide +kernel
theorem dJ0_indexOf_7cf53_0 : decode cJ0_indexOf_7cf53 0 = .ok (.aload_n 0, 1) := by decide +kernel
theorem dJ0_indexOf_7cf53_1 : decode cJ0_indexOf_7cf53 1 = .ok (.invokevirtual 492, 3) := by decide +kernel
theorem dJ0_indexOf_7cf53_4 : decode cJ0_indexOf_7cf53 4 = .ok (.ifCond .eq 19, 3) := by decide +kernel
theorem dJ0_indexOf_7cf53_7 : decode cJ0_indexOf_7cf53 7 = .ok (.aload_n 0, 1) := by decide +kernel
theorem dJ0_indexOf_7cf53_8 : decode cJ0_indexOf_7cf53 8 = .ok (.getfield 9, 3) := by decide +kernel
theorem dJ0_indexOf_7cf53_11 : decode cJ0_indexOf_7cf53 11 = .ok (.iload_n 1, 1) := by decide +kernel
theorem dJ0_indexOf_7cf53_12 : decode cJ0_indexOf_7cf53 12 = .ok (.iload_n 2, 1) := by decide +kernel
theorem dJ0_indexOf_7cf53_13 : decode cJ0_indexOf_7cf53 13 = .ok (.aload_n 0, 1) := by decide +kernel
theorem dJ0_indexOf_7cf53_14 : decode cJ0_indexOf_7cf53 14 = .ok (.invokevirtual 505, 3) := by decide +kernel
theorem dJ0_indexOf_7cf53_17 : decode cJ0_indexOf_7cf53 17 = .ok (.invokestatic 637, 3) := by decide +kernel
theorem dJ0_indexOf_7cf53_20 : decode cJ0_indexOf_7cf53 20 = .ok (.goto 16, 3) := by decide +kernel
theorem dJ0_indexOf_7cf53_23 : decode cJ0_indexOf_7cf53 23 = .ok (.aload_n 0, 1) := by decide +kernel
theorem dJ0_indexOf_7cf53_24 : decode cJ0_indexOf_7cf53 24 = .ok (.getfield 9, 3) := by decide +kernel
theorem dJ0_indexOf_7cf53_27 : decode cJ0_indexOf_7cf53 27 = .ok (.iload_n 1, 1) := by decide +kernel
theorem dJ0_indexOf_7cf53_28 : decode cJ0_indexOf_7cf53 28 = .ok (.iload_n 2, 1) := by decide +kernel
theorem dJ0_indexOf_7cf53_29 : decode cJ0_indexOf_7cf53 29 = .ok (.aload_n 0, 1) := by decide +kernel
theorem dJ0_indexOf_7cf53_30 : decode cJ0_indexOf_7cf53 30 = .ok (.invokevirtual 505, 3) := by decide +kernel
theorem dJ0_indexOf_7cf53_33 : decode cJ0_indexOf_7cf53 33 = .ok (.invokestatic 640, 3) := by decide +kernel
theorem dJ0_indexOf_7cf53_36 : decode cJ0_indexOf_7cf53 36 = .ok (.ireturn, 1) := by decide +kernel
theorem dJ0_coder_7d493_0 : decode cJ0_coder_7d493 0 = .ok (.getstatic 38, 3) := by decide +kernel
theorem dJ0_coder_7d493_3 : decode cJ0_coder_7d493 3 = .ok (.ifCond .eq 10, 3) := by decide +kernel
theorem dJ0_coder_7d493_6 : decode cJ0_coder_7d493 6 = .ok (.aload_n 0, 1) := by decide +kernel
theorem dJ0_coder_7d493_7 : decode cJ0_coder_7d493 7 = .ok (.getfield 15, 3) := by decide +kernel
theorem dJ0_coder_7d493_10 : decode cJ0_coder_7d493 10 = .ok (.goto 4, 3) := by decide +kernel
theorem dJ0_coder_7d493_13 : decode cJ0_coder_7d493 13 = .ok (.iconst 1, 1) := by decide +kernel
theorem dJ0_coder_7d493_14 : decode cJ0_coder_7d493 14 = .ok (.ireturn, 1) := by decide +kernel
theorem dJ0_isLatin1_aae02_0 : decode cJ0_isLatin1_aae02 0 = .ok (.getstatic 38, 3) := by decide +kernel
theorem dJ0_isLatin1_aae02_3 : decode cJ0_isLatin1_aae02 3 = .ok (.ifCond .eq 14, 3) := by decide +kernel
theorem dJ0_isLatin1_aae02_6 : decode cJ0_isLatin1_aae02 6 = .ok (.aload_n 0, 1) := by decide +kernel
theorem dJ0_isLatin1_aae02_7 : decode cJ0_isLatin1_aae02 7 = .ok (.getfield 15, 3) := by decide +kernel
theorem dJ0_isLatin1_aae02_10 : decode cJ0_isLatin1_aae02 10 = .ok (.ifCond .ne 7, 3) := by decide +kernel
theorem dJ0_isLatin1_aae02_13 : decode cJ0_isLatin1_aae02 13 = .ok (.iconst 1, 1) := by decide +kernel
theorem dJ0_isLatin1_aae02_14 : decode cJ0_isLatin1_aae02 14 = .ok (.goto 4, 3) := by decide +kernel
theorem dJ0_isLatin1_aae02_17 : decode cJ0_isLatin1_aae02 17 = .ok (.iconst 0, 1) := by decide +kernel
theorem dJ0_isLatin1_aae02_18 : decode cJ0_isLatin1_aae02 18 = .ok (.ireturn, 1) := by decide +kernel
theorem dJ0_checkBoundsBeginEnd_23922_0 : decode cJ0_checkBoundsBeginEnd_23922 0 = .ok (.iload_n 0, 1) := by decide +kernel
theorem dJ0_checkBoundsBeginEnd_23922_1 : decode cJ0_checkBoundsBeginEnd_23922 1 = .ok (.iload_n 1, 1) := by decide +kernel
theorem dJ0_checkBoundsBeginEnd_23922_2 : decode cJ0_checkBoundsBeginEnd_23922 2 = .ok (.iload_n 2, 1) := by decide +kernel
theorem dJ0_checkBoundsBeginEnd_23922_3 : decode cJ0_checkBoundsBeginEnd_23922 3 = .ok (.getstatic 1053, 3) := by decide +kernel
theorem dJ0_checkBoundsBeginEnd_23922_6 : decode cJ0_checkBoundsBeginEnd_23922 6 = .ok (.invokestatic 1062, 3) := by decide +kernel
theorem dJ0_checkBoundsBeginEnd_23922_9 : decode cJ0_checkBoundsBeginEnd_23922 9 = .ok (.pop, 1) := by decide +kernel
theorem dJ0_checkBoundsBeginEnd_23922_10 : decode cJ0_checkBoundsBeginEnd_23922 10 = .ok (.return_, 1) := by decide +kernel
theorem dJ1_canEncode_9a6ad_0 : decode cJ1_canEncode_9a6ad 0 = .ok (.iload_n 0, 1) := by decide +kernel
theorem dJ1_canEncode_9a6ad_1 : decode cJ1_canEncode_9a6ad 1 = .ok (.ifCond .lt 14, 3) := by decide +kernel
theorem dJ1_canEncode_9a6ad_4 : decode cJ1_canEncode_9a6ad 4 = .ok (.iload_n 0, 1) := by decide +kernel
theorem dJ1_canEncode_9a6ad_5 : decode cJ1_canEncode_9a6ad 5 = .ok (.sipush 255, 3) := by decide +kernel
theorem dJ1_canEncode_9a6ad_8 : decode cJ1_canEncode_9a6ad 8 = .ok (.if_icmp .gt 7, 3) := by decide +kernel
theorem dJ1_canEncode_9a6ad_11 : decode cJ1_canEncode_9a6ad 11 = .ok (.iconst 1, 1) := by decide +kernel
theorem dJ1_canEncode_9a6ad_12 : decode cJ1_canEncode_9a6ad 12 = .ok (.goto 4, 3) := by decide +kernel
theorem dJ1_canEncode_9a6ad_15 : decode cJ1_canEncode_9a6ad 15 = .ok (.iconst 0, 1) := by decide +kernel
theorem dJ1_canEncode_9a6ad_16 : decode cJ1_canEncode_9a6ad 16 = .ok (.ireturn, 1) := by decide +kernel
theorem dJ1_indexOf_4cfef_0 : decode cJ1_indexOf_4cfef 0 = .ok (.iload_n 1, 1) := by decide +kernel
theorem dJ1_indexOf_4cfef_1 : decode cJ1_indexOf_4cfef 1 = .ok (.invokestatic 88, 3) := by decide +kernel
theorem dJ1_indexOf_4cfef_4 : decode cJ1_indexOf_4cfef 4 = .ok (.ifCond .ne 5, 3) := by decide +kernel
theorem dJ1_indexOf_4cfef_7 : decode cJ1_indexOf_4cfef 7 = .ok (.iconst (-1), 1) := by decide +kernel
theorem dJ1_indexOf_4cfef_8 : decode cJ1_indexOf_4cfef 8 = .ok (.ireturn, 1) := by decide +kernel
theorem dJ1_indexOf_4cfef_9 : decode cJ1_indexOf_4cfef 9 = .ok (.iload_n 2, 1) := by decide +kernel
theorem dJ1_indexOf_4cfef_10 : decode cJ1_indexOf_4cfef 10 = .ok (.iconst 0, 1) := by decide +kernel
theorem dJ1_indexOf_4cfef_11 : decode cJ1_indexOf_4cfef 11 = .ok (.invokestatic 92, 3) := by decide +kernel
theorem dJ1_indexOf_4cfef_14 : decode cJ1_indexOf_4cfef 14 = .ok (.istore_n 2, 1) := by decide +kernel
theorem dJ1_indexOf_4cfef_15 : decode cJ1_indexOf_4cfef 15 = .ok (.iload_n 3, 1) := by decide +kernel
theorem dJ1_indexOf_4cfef_16 : decode cJ1_indexOf_4cfef 16 = .ok (.aload_n 0, 1) := by decide +kernel
theorem dJ1_indexOf_4cfef_17 : decode cJ1_indexOf_4cfef 17 = .ok (.arraylength, 1) := by decide +kernel
theorem dJ1_indexOf_4cfef_18 : decode cJ1_indexOf_4cfef 18 = .ok (.invokestatic 38, 3) := by decide +kernel
theorem dJ1_indexOf_4cfef_21 : decode cJ1_indexOf_4cfef 21 = .ok (.istore_n 3, 1) := by decide +kernel
theorem dJ1_indexOf_4cfef_22 : decode cJ1_indexOf_4cfef 22 = .ok (.iload_n 2, 1) := by decide +kernel
theorem dJ1_indexOf_4cfef_23 : decode cJ1_indexOf_4cfef 23 = .ok (.iload_n 3, 1) := by decide +kernel
theorem dJ1_indexOf_4cfef_24 : decode cJ1_indexOf_4cfef 24 = .ok (.if_icmp .lt 5, 3) := by decide +kernel
theorem dJ1_indexOf_4cfef_27 : decode cJ1_indexOf_4cfef 27 = .ok (.iconst (-1), 1) := by decide +kernel
theorem dJ1_indexOf_4cfef_28 : decode cJ1_indexOf_4cfef 28 = .ok (.ireturn, 1) := by decide +kernel
theorem dJ1_indexOf_4cfef_29 : decode cJ1_indexOf_4cfef 29 = .ok (.aload_n 0, 1) := by decide +kernel
theorem dJ1_indexOf_4cfef_30 : decode cJ1_indexOf_4cfef 30 = .ok (.iload_n 1, 1) := by decide +kernel
theorem dJ1_indexOf_4cfef_31 : decode cJ1_indexOf_4cfef 31 = .ok (.iload_n 2, 1) := by decide +kernel
theorem dJ1_indexOf_4cfef_32 : decode cJ1_indexOf_4cfef 32 = .ok (.iload_n 3, 1) := by decide +kernel
theorem dJ1_indexOf_4cfef_33 : decode cJ1_indexOf_4cfef 33 = .ok (.invokestatic 95, 3) := by decide +kernel
theorem dJ1_indexOf_4cfef_36 : decode cJ1_indexOf_4cfef 36 = .ok (.ireturn, 1) := by decide +kernel
theorem dJ1_indexOfChar_4cfef_0 : decode cJ1_indexOfChar_4cfef 0 = .ok (.iload_n 1, 1) := by decide +kernel
theorem dJ1_indexOfChar_4cfef_1 : decode cJ1_indexOfChar_4cfef 1 = .ok (.i2b, 1) := by decide +kernel
theorem dJ1_indexOfChar_4cfef_2 : decode cJ1_indexOfChar_4cfef 2 = .ok (.istore 4, 2) := by decide +kernel
theorem dJ1_indexOfChar_4cfef_4 : decode cJ1_indexOfChar_4cfef 4 = .ok (.iload_n 2, 1) := by decide +kernel
theorem dJ1_indexOfChar_4cfef_5 : decode cJ1_indexOfChar_4cfef 5 = .ok (.istore 5, 2) := by decide +kernel
theorem dJ1_indexOfChar_4cfef_7 : decode cJ1_indexOfChar_4cfef 7 = .ok (.iload 5, 2) := by decide +kernel
theorem dJ1_indexOfChar_4cfef_9 : decode cJ1_indexOfChar_4cfef 9 = .ok (.iload_n 3, 1) := by decide +kernel
theorem dJ1_indexOfChar_4cfef_10 : decode cJ1_indexOfChar_4cfef 10 = .ok (.if_icmp .ge 21, 3) := by decide +kernel
theorem dJ1_indexOfChar_4cfef_13 : decode cJ1_indexOfChar_4cfef 13 = .ok (.aload_n 0, 1) := by decide +kernel
theorem dJ1_indexOfChar_4cfef_14 : decode cJ1_indexOfChar_4cfef 14 = .ok (.iload 5, 2) := by decide +kernel
theorem dJ1_indexOfChar_4cfef_16 : decode cJ1_indexOfChar_4cfef 16 = .ok (.baload, 1) := by decide +kernel
theorem dJ1_indexOfChar_4cfef_17 : decode cJ1_indexOfChar_4cfef 17 = .ok (.iload 4, 2) := by decide +kernel
theorem dJ1_indexOfChar_4cfef_19 : decode cJ1_indexOfChar_4cfef 19 = .ok (.if_icmp .ne 6, 3) := by decide +kernel
theorem dJ1_indexOfChar_4cfef_22 : decode cJ1_indexOfChar_4cfef 22 = .ok (.iload 5, 2) := by decide +kernel
theorem dJ1_indexOfChar_4cfef_24 : decode cJ1_indexOfChar_4cfef 24 = .ok (.ireturn, 1) := by decide +kernel
theorem dJ1_indexOfChar_4cfef_25 : decode cJ1_indexOfChar_4cfef 25 = .ok (.iinc 5 1, 3) := by decide +kernel
theorem dJ1_indexOfChar_4cfef_28 : decode cJ1_indexOfChar_4cfef 28 = .ok (.goto (-21), 3) := by decide +kernel
theorem dJ1_indexOfChar_4cfef_31 : decode cJ1_indexOfChar_4cfef 31 = .ok (.iconst (-1), 1) := by decide +kernel
theorem dJ1_indexOfChar_4cfef_32 : decode cJ1_indexOfChar_4cfef 32 = .ok (.ireturn, 1) := by decide +kernel
theorem dJ2_getChar_3b067_0 : decode cJ2_getChar_3b067 0 = .ok (.getstatic 44, 3) := by decide +kernel
theorem dJ2_getChar_3b067_3 : decode cJ2_getChar_3b067 3 = .ok (.ifCond .ne 25, 3) := by decide +kernel
theorem dJ2_getChar_3b067_6 : decode cJ2_getChar_3b067 6 = .ok (.iload_n 1, 1) := by decide +kernel
theorem dJ2_getChar_3b067_7 : decode cJ2_getChar_3b067 7 = .ok (.ifCond .lt 11, 3) := by decide +kernel
theorem dJ2_getChar_3b067_10 : decode cJ2_getChar_3b067 10 = .ok (.iload_n 1, 1) := by decide +kernel
theorem dJ2_getChar_3b067_11 : decode cJ2_getChar_3b067 11 = .ok (.aload_n 0, 1) := by decide +kernel
theorem dJ2_getChar_3b067_12 : decode cJ2_getChar_3b067 12 = .ok (.invokestatic 48, 3) := by decide +kernel
theorem dJ2_getChar_3b067_15 : decode cJ2_getChar_3b067 15 = .ok (.if_icmp .lt 13, 3) := by decide +kernel
theorem dJ2_getChar_3b067_18 : decode cJ2_getChar_3b067 18 = .ok (.new 52, 3) := by decide +kernel
theorem dJ2_getChar_3b067_21 : decode cJ2_getChar_3b067 21 = .ok (.dup, 1) := by decide +kernel
theorem dJ2_getChar_3b067_22 : decode cJ2_getChar_3b067 22 = .ok (.ldc 54, 2) := by decide +kernel
theorem dJ2_getChar_3b067_24 : decode cJ2_getChar_3b067 24 = .ok (.invokespecial 56, 3) := by decide +kernel
theorem dJ2_getChar_3b067_27 : decode cJ2_getChar_3b067 27 = .ok (.athrow, 1) := by decide +kernel
theorem dJ2_getChar_3b067_28 : decode cJ2_getChar_3b067 28 = .ok (.iload_n 1, 1) := by decide +kernel
theorem dJ2_getChar_3b067_29 : decode cJ2_getChar_3b067 29 = .ok (.iconst 1, 1) := by decide +kernel
theorem dJ2_getChar_3b067_30 : decode cJ2_getChar_3b067 30 = .ok (.ishl, 1) := by decide +kernel
theorem dJ2_getChar_3b067_31 : decode cJ2_getChar_3b067 31 = .ok (.istore_n 1, 1) := by decide +kernel
theorem dJ2_getChar_3b067_32 : decode cJ2_getChar_3b067 32 = .ok (.aload_n 0, 1) := by decide +kernel
theorem dJ2_getChar_3b067_33 : decode cJ2_getChar_3b067 33 = .ok (.iload_n 1, 1) := by decide +kernel
theorem dJ2_getChar_3b067_34 : decode cJ2_getChar_3b067 34 = .ok (.iinc 1 1, 3) := by decide +kernel
theorem dJ2_getChar_3b067_37 : decode cJ2_getChar_3b067 37 = .ok (.baload, 1) := by decide +kernel
theorem dJ2_getChar_3b067_38 : decode cJ2_getChar_3b067 38 = .ok (.sipush 255, 3) := by decide +kernel
theorem dJ2_getChar_3b067_41 : decode cJ2_getChar_3b067 41 = .ok (.iand, 1) := by decide +kernel
theorem dJ2_getChar_3b067_42 : decode cJ2_getChar_3b067 42 = .ok (.getstatic 59, 3) := by decide +kernel
theorem dJ2_getChar_3b067_45 : decode cJ2_getChar_3b067 45 = .ok (.ishl, 1) := by decide +kernel
theorem dJ2_getChar_3b067_46 : decode cJ2_getChar_3b067 46 = .ok (.aload_n 0, 1) := by decide +kernel
theorem dJ2_getChar_3b067_47 : decode cJ2_getChar_3b067 47 = .ok (.iload_n 1, 1) := by decide +kernel
theorem dJ2_getChar_3b067_48 : decode cJ2_getChar_3b067 48 = .ok (.baload, 1) := by decide +kernel
theorem dJ2_getChar_3b067_49 : decode cJ2_getChar_3b067 49 = .ok (.sipush 255, 3) := by decide +kernel
theorem dJ2_getChar_3b067_52 : decode cJ2_getChar_3b067 52 = .ok (.iand, 1) := by decide +kernel
theorem dJ2_getChar_3b067_53 : decode cJ2_getChar_3b067 53 = .ok (.getstatic 63, 3) := by decide +kernel
theorem dJ2_getChar_3b067_56 : decode cJ2_getChar_3b067 56 = .ok (.ishl, 1) := by decide +kernel
theorem dJ2_getChar_3b067_57 : decode cJ2_getChar_3b067 57 = .ok (.ior, 1) := by decide +kernel
theorem dJ2_getChar_3b067_58 : decode cJ2_getChar_3b067 58 = .ok (.i2c, 1) := by decide +kernel
theorem dJ2_getChar_3b067_59 : decode cJ2_getChar_3b067 59 = .ok (.ireturn, 1) := by decide +kernel
theorem dJ2_length_9d52b_0 : decode cJ2_length_9d52b 0 = .ok (.aload_n 0, 1) := by decide +kernel
theorem dJ2_length_9d52b_1 : decode cJ2_length_9d52b 1 = .ok (.arraylength, 1) := by decide +kernel
theorem dJ2_length_9d52b_2 : decode cJ2_length_9d52b 2 = .ok (.iconst 1, 1) := by decide +kernel
theorem dJ2_length_9d52b_3 : decode cJ2_length_9d52b 3 = .ok (.ishr, 1) := by decide +kernel
theorem dJ2_length_9d52b_4 : decode cJ2_length_9d52b 4 = .ok (.ireturn, 1) := by decide +kernel
theorem dJ2_indexOf_4cfef_0 : decode cJ2_indexOf_4cfef 0 = .ok (.iload_n 2, 1) := by decide +kernel
theorem dJ2_indexOf_4cfef_1 : decode cJ2_indexOf_4cfef 1 = .ok (.iconst 0, 1) := by decide +kernel
theorem dJ2_indexOf_4cfef_2 : decode cJ2_indexOf_4cfef 2 = .ok (.invokestatic 224, 3) := by decide +kernel
theorem dJ2_indexOf_4cfef_5 : decode cJ2_indexOf_4cfef 5 = .ok (.istore_n 2, 1) := by decide +kernel
theorem dJ2_indexOf_4cfef_6 : decode cJ2_indexOf_4cfef 6 = .ok (.iload_n 3, 1) := by decide +kernel
theorem dJ2_indexOf_4cfef_7 : decode cJ2_indexOf_4cfef 7 = .ok (.aload_n 0, 1) := by decide +kernel
theorem dJ2_indexOf_4cfef_8 : decode cJ2_indexOf_4cfef 8 = .ok (.arraylength, 1) := by decide +kernel
theorem dJ2_indexOf_4cfef_9 : decode cJ2_indexOf_4cfef 9 = .ok (.iconst 1, 1) := by decide +kernel
theorem dJ2_indexOf_4cfef_10 : decode cJ2_indexOf_4cfef 10 = .ok (.ishr, 1) := by decide +kernel
theorem dJ2_indexOf_4cfef_11 : decode cJ2_indexOf_4cfef 11 = .ok (.invokestatic 183, 3) := by decide +kernel
theorem dJ2_indexOf_4cfef_14 : decode cJ2_indexOf_4cfef 14 = .ok (.istore_n 3, 1) := by decide +kernel
theorem dJ2_indexOf_4cfef_15 : decode cJ2_indexOf_4cfef 15 = .ok (.iload_n 2, 1) := by decide +kernel
theorem dJ2_indexOf_4cfef_16 : decode cJ2_indexOf_4cfef 16 = .ok (.iload_n 3, 1) := by decide +kernel
theorem dJ2_indexOf_4cfef_17 : decode cJ2_indexOf_4cfef 17 = .ok (.if_icmp .lt 5, 3) := by decide +kernel
theorem dJ2_indexOf_4cfef_20 : decode cJ2_indexOf_4cfef 20 = .ok (.iconst (-1), 1) := by decide +kernel
theorem dJ2_indexOf_4cfef_21 : decode cJ2_indexOf_4cfef 21 = .ok (.ireturn, 1) := by decide +kernel
theorem dJ2_indexOf_4cfef_22 : decode cJ2_indexOf_4cfef 22 = .ok (.iload_n 1, 1) := by decide +kernel
theorem dJ2_indexOf_4cfef_23 : decode cJ2_indexOf_4cfef 23 = .ok (.ldc 227, 2) := by decide +kernel
theorem dJ2_indexOf_4cfef_25 : decode cJ2_indexOf_4cfef 25 = .ok (.if_icmp .ge 11, 3) := by decide +kernel
theorem dJ2_indexOf_4cfef_28 : decode cJ2_indexOf_4cfef 28 = .ok (.aload_n 0, 1) := by decide +kernel
theorem dJ2_indexOf_4cfef_29 : decode cJ2_indexOf_4cfef 29 = .ok (.iload_n 1, 1) := by decide +kernel
theorem dJ2_indexOf_4cfef_30 : decode cJ2_indexOf_4cfef 30 = .ok (.iload_n 2, 1) := by decide +kernel
theorem dJ2_indexOf_4cfef_31 : decode cJ2_indexOf_4cfef 31 = .ok (.iload_n 3, 1) := by decide +kernel
theorem dJ2_indexOf_4cfef_32 : decode cJ2_indexOf_4cfef 32 = .ok (.invokestatic 228, 3) := by decide +kernel
theorem dJ2_indexOf_4cfef_35 : decode cJ2_indexOf_4cfef 35 = .ok (.ireturn, 1) := by decide +kernel
theorem dJ2_indexOf_4cfef_36 : decode cJ2_indexOf_4cfef 36 = .ok (.aload_n 0, 1) := by decide +kernel
theorem dJ2_indexOf_4cfef_37 : decode cJ2_indexOf_4cfef 37 = .ok (.iload_n 1, 1) := by decide +kernel
theorem dJ2_indexOf_4cfef_38 : decode cJ2_indexOf_4cfef 38 = .ok (.iload_n 2, 1) := by decide +kernel
theorem dJ2_indexOf_4cfef_39 : decode cJ2_indexOf_4cfef 39 = .ok (.iload_n 3, 1) := by decide +kernel
theorem dJ2_indexOf_4cfef_40 : decode cJ2_indexOf_4cfef 40 = .ok (.invokestatic 232, 3) := by decide +kernel
theorem dJ2_indexOf_4cfef_43 : decode cJ2_indexOf_4cfef 43 = .ok (.ireturn, 1) := by decide +kernel
theorem dJ2_indexOfChar_4cfef_0 : decode cJ2_indexOfChar_4cfef 0 = .ok (.iload_n 2, 1) := by decide +kernel
theorem dJ2_indexOfChar_4cfef_1 : decode cJ2_indexOfChar_4cfef 1 = .ok (.iload_n 3, 1) := by decide +kernel
theorem dJ2_indexOfChar_4cfef_2 : decode cJ2_indexOfChar_4cfef 2 = .ok (.aload_n 0, 1) := by decide +kernel
theorem dJ2_indexOfChar_4cfef_3 : decode cJ2_indexOfChar_4cfef 3 = .ok (.invokestatic 96, 3) := by decide +kernel
theorem dJ2_indexOfChar_4cfef_6 : decode cJ2_indexOfChar_4cfef 6 = .ok (.aload_n 0, 1) := by decide +kernel
theorem dJ2_indexOfChar_4cfef_7 : decode cJ2_indexOfChar_4cfef 7 = .ok (.iload_n 1, 1) := by decide +kernel
theorem dJ2_indexOfChar_4cfef_8 : decode cJ2_indexOfChar_4cfef 8 = .ok (.iload_n 2, 1) := by decide +kernel
theorem dJ2_indexOfChar_4cfef_9 : decode cJ2_indexOfChar_4cfef 9 = .ok (.iload_n 3, 1) := by decide +kernel
theorem dJ2_indexOfChar_4cfef_10 : decode cJ2_indexOfChar_4cfef 10 = .ok (.invokestatic 244, 3) := by decide +kernel
theorem dJ2_indexOfChar_4cfef_13 : decode cJ2_indexOfChar_4cfef 13 = .ok (.ireturn, 1) := by decide +kernel
theorem dJ2_indexOfCharUnsafe_4cfef_0 : decode cJ2_indexOfCharUnsafe_4cfef 0 = .ok (.iload_n 2, 1) := by decide +kernel
theorem dJ2_indexOfCharUnsafe_4cfef_1 : decode cJ2_indexOfCharUnsafe_4cfef 1 = .ok (.istore 4, 2) := by decide +kernel
theorem dJ2_indexOfCharUnsafe_4cfef_3 : decode cJ2_indexOfCharUnsafe_4cfef 3 = .ok (.iload 4, 2) := by decide +kernel
theorem dJ2_indexOfCharUnsafe_4cfef_5 : decode cJ2_indexOfCharUnsafe_4cfef 5 = .ok (.iload_n 3, 1) := by decide +kernel
theorem dJ2_indexOfCharUnsafe_4cfef_6 : decode cJ2_indexOfCharUnsafe_4cfef 6 = .ok (.if_icmp .ge 22, 3) := by decide +kernel
theorem dJ2_indexOfCharUnsafe_4cfef_9 : decode cJ2_indexOfCharUnsafe_4cfef 9 = .ok (.aload_n 0, 1) := by decide +kernel
theorem dJ2_indexOfCharUnsafe_4cfef_10 : decode cJ2_indexOfCharUnsafe_4cfef 10 = .ok (.iload 4, 2) := by decide +kernel
theorem dJ2_indexOfCharUnsafe_4cfef_12 : decode cJ2_indexOfCharUnsafe_4cfef 12 = .ok (.invokestatic 71, 3) := by decide +kernel
theorem dJ2_indexOfCharUnsafe_4cfef_15 : decode cJ2_indexOfCharUnsafe_4cfef 15 = .ok (.iload_n 1, 1) := by decide +kernel
theorem dJ2_indexOfCharUnsafe_4cfef_16 : decode cJ2_indexOfCharUnsafe_4cfef 16 = .ok (.if_icmp .ne 6, 3) := by decide +kernel
theorem dJ2_indexOfCharUnsafe_4cfef_19 : decode cJ2_indexOfCharUnsafe_4cfef 19 = .ok (.iload 4, 2) := by decide +kernel
theorem dJ2_indexOfCharUnsafe_4cfef_21 : decode cJ2_indexOfCharUnsafe_4cfef 21 = .ok (.ireturn, 1) := by decide +kernel
theorem dJ2_indexOfCharUnsafe_4cfef_22 : decode cJ2_indexOfCharUnsafe_4cfef 22 = .ok (.iinc 4 1, 3) := by decide +kernel
theorem dJ2_indexOfCharUnsafe_4cfef_25 : decode cJ2_indexOfCharUnsafe_4cfef 25 = .ok (.goto (-22), 3) := by decide +kernel
theorem dJ2_indexOfCharUnsafe_4cfef_28 : decode cJ2_indexOfCharUnsafe_4cfef 28 = .ok (.iconst (-1), 1) := by decide +kernel
theorem dJ2_indexOfCharUnsafe_4cfef_29 : decode cJ2_indexOfCharUnsafe_4cfef 29 = .ok (.ireturn, 1) := by decide +kernel
theorem dJ2_indexOfSupplementary_4cfef_0 : decode cJ2_indexOfSupplementary_4cfef 0 = .ok (.iload_n 1, 1) := by decide +kernel
theorem dJ2_indexOfSupplementary_4cfef_1 : decode cJ2_indexOfSupplementary_4cfef 1 = .ok (.invokestatic 164, 3) := by decide +kernel
theorem dJ2_indexOfSupplementary_4cfef_4 : decode cJ2_indexOfSupplementary_4cfef 4 = .ok (.ifCond .eq 65, 3) := by decide +kernel
theorem dJ2_indexOfSupplementary_4cfef_7 : decode cJ2_indexOfSupplementary_4cfef 7 = .ok (.iload_n 1, 1) := by decide +kernel
theorem dJ2_indexOfSupplementary_4cfef_8 : decode cJ2_indexOfSupplementary_4cfef 8 = .ok (.invokestatic 157, 3) := by decide +kernel
theorem dJ2_indexOfSupplementary_4cfef_11 : decode cJ2_indexOfSupplementary_4cfef 11 = .ok (.istore 4, 2) := by decide +kernel
theorem dJ2_indexOfSupplementary_4cfef_13 : decode cJ2_indexOfSupplementary_4cfef 13 = .ok (.iload_n 1, 1) := by decide +kernel
theorem dJ2_indexOfSupplementary_4cfef_14 : decode cJ2_indexOfSupplementary_4cfef 14 = .ok (.invokestatic 161, 3) := by decide +kernel
theorem dJ2_indexOfSupplementary_4cfef_17 : decode cJ2_indexOfSupplementary_4cfef 17 = .ok (.istore 5, 2) := by decide +kernel
theorem dJ2_indexOfSupplementary_4cfef_19 : decode cJ2_indexOfSupplementary_4cfef 19 = .ok (.iload_n 2, 1) := by decide +kernel
theorem dJ2_indexOfSupplementary_4cfef_20 : decode cJ2_indexOfSupplementary_4cfef 20 = .ok (.iload_n 3, 1) := by decide +kernel
theorem dJ2_indexOfSupplementary_4cfef_21 : decode cJ2_indexOfSupplementary_4cfef 21 = .ok (.aload_n 0, 1) := by decide +kernel
theorem dJ2_indexOfSupplementary_4cfef_22 : decode cJ2_indexOfSupplementary_4cfef 22 = .ok (.invokestatic 96, 3) := by decide +kernel
theorem dJ2_indexOfSupplementary_4cfef_25 : decode cJ2_indexOfSupplementary_4cfef 25 = .ok (.iload_n 2, 1) := by decide +kernel
theorem dJ2_indexOfSupplementary_4cfef_26 : decode cJ2_indexOfSupplementary_4cfef 26 = .ok (.istore 6, 2) := by decide +kernel
theorem dJ2_indexOfSupplementary_4cfef_28 : decode cJ2_indexOfSupplementary_4cfef 28 = .ok (.iload 6, 2) := by decide +kernel
theorem dJ2_indexOfSupplementary_4cfef_30 : decode cJ2_indexOfSupplementary_4cfef 30 = .ok (.iload_n 3, 1) := by decide +kernel
theorem dJ2_indexOfSupplementary_4cfef_31 : decode cJ2_indexOfSupplementary_4cfef 31 = .ok (.iconst 1, 1) := by decide +kernel
theorem dJ2_indexOfSupplementary_4cfef_32 : decode cJ2_indexOfSupplementary_4cfef 32 = .ok (.isub, 1) := by decide +kernel
theorem dJ2_indexOfSupplementary_4cfef_33 : decode cJ2_indexOfSupplementary_4cfef 33 = .ok (.if_icmp .ge 36, 3) := by decide +kernel
theorem dJ2_indexOfSupplementary_4cfef_36 : decode cJ2_indexOfSupplementary_4cfef 36 = .ok (.aload_n 0, 1) := by decide +kernel
theorem dJ2_indexOfSupplementary_4cfef_37 : decode cJ2_indexOfSupplementary_4cfef 37 = .ok (.iload 6, 2) := by decide +kernel
theorem dJ2_indexOfSupplementary_4cfef_39 : decode cJ2_indexOfSupplementary_4cfef 39 = .ok (.invokestatic 71, 3) := by decide +kernel
theorem dJ2_indexOfSupplementary_4cfef_42 : decode cJ2_indexOfSupplementary_4cfef 42 = .ok (.iload 4, 2) := by decide +kernel
theorem dJ2_indexOfSupplementary_4cfef_44 : decode cJ2_indexOfSupplementary_4cfef 44 = .ok (.if_icmp .ne 19, 3) := by decide +kernel
theorem dJ2_indexOfSupplementary_4cfef_47 : decode cJ2_indexOfSupplementary_4cfef 47 = .ok (.aload_n 0, 1) := by decide +kernel
theorem dJ2_indexOfSupplementary_4cfef_48 : decode cJ2_indexOfSupplementary_4cfef 48 = .ok (.iload 6, 2) := by decide +kernel
theorem dJ2_indexOfSupplementary_4cfef_50 : decode cJ2_indexOfSupplementary_4cfef 50 = .ok (.iconst 1, 1) := by decide +kernel
theorem dJ2_indexOfSupplementary_4cfef_51 : decode cJ2_indexOfSupplementary_4cfef 51 = .ok (.iadd, 1) := by decide +kernel
theorem dJ2_indexOfSupplementary_4cfef_52 : decode cJ2_indexOfSupplementary_4cfef 52 = .ok (.invokestatic 71, 3) := by decide +kernel
theorem dJ2_indexOfSupplementary_4cfef_55 : decode cJ2_indexOfSupplementary_4cfef 55 = .ok (.iload 5, 2) := by decide +kernel
theorem dJ2_indexOfSupplementary_4cfef_57 : decode cJ2_indexOfSupplementary_4cfef 57 = .ok (.if_icmp .ne 6, 3) := by decide +kernel
theorem dJ2_indexOfSupplementary_4cfef_60 : decode cJ2_indexOfSupplementary_4cfef 60 = .ok (.iload 6, 2) := by decide +kernel
theorem dJ2_indexOfSupplementary_4cfef_62 : decode cJ2_indexOfSupplementary_4cfef 62 = .ok (.ireturn, 1) := by decide +kernel
theorem dJ2_indexOfSupplementary_4cfef_63 : decode cJ2_indexOfSupplementary_4cfef 63 = .ok (.iinc 6 1, 3) := by decide +kernel
theorem dJ2_indexOfSupplementary_4cfef_66 : decode cJ2_indexOfSupplementary_4cfef 66 = .ok (.goto (-38), 3) := by decide +kernel
theorem dJ2_indexOfSupplementary_4cfef_69 : decode cJ2_indexOfSupplementary_4cfef 69 = .ok (.iconst (-1), 1) := by decide +kernel
theorem dJ2_indexOfSupplementary_4cfef_70 : decode cJ2_indexOfSupplementary_4cfef 70 = .ok (.ireturn, 1) := by decide +kernel
theorem dJ2_checkBoundsBeginEnd_d044e_0 : decode cJ2_checkBoundsBeginEnd_d044e 0 = .ok (.iload_n 0, 1) := by decide +kernel
theorem dJ2_checkBoundsBeginEnd_d044e_1 : decode cJ2_checkBoundsBeginEnd_d044e 1 = .ok (.iload_n 1, 1) := by decide +kernel
theorem dJ2_checkBoundsBeginEnd_d044e_2 : decode cJ2_checkBoundsBeginEnd_d044e 2 = .ok (.aload_n 2, 1) := by decide +kernel
theorem dJ2_checkBoundsBeginEnd_d044e_3 : decode cJ2_checkBoundsBeginEnd_d044e 3 = .ok (.invokestatic 48, 3) := by decide +kernel
theorem dJ2_checkBoundsBeginEnd_d044e_6 : decode cJ2_checkBoundsBeginEnd_d044e 6 = .ok (.invokestatic 241, 3) := by decide +kernel
theorem dJ2_checkBoundsBeginEnd_d044e_9 : decode cJ2_checkBoundsBeginEnd_d044e 9 = .ok (.return_, 1) := by decide +kernel
theorem dJ7_fill_53178_0 : decode cJ7_fill_53178 0 = .ok (.iconst 0, 1) := by decide +kernel
theorem dJ7_fill_53178_1 : decode cJ7_fill_53178 1 = .ok (.istore_n 2, 1) := by decide +kernel
theorem dJ7_fill_53178_2 : decode cJ7_fill_53178 2 = .ok (.aload_n 0, 1) := by decide +kernel
theorem dJ7_fill_53178_3 : decode cJ7_fill_53178 3 = .ok (.arraylength, 1) := by decide +kernel
theorem dJ7_fill_53178_4 : decode cJ7_fill_53178 4 = .ok (.istore_n 3, 1) := by decide +kernel
theorem dJ7_fill_53178_5 : decode cJ7_fill_53178 5 = .ok (.iload_n 2, 1) := by decide +kernel
theorem dJ7_fill_53178_6 : decode cJ7_fill_53178 6 = .ok (.iload_n 3, 1) := by decide +kernel
theorem dJ7_fill_53178_7 : decode cJ7_fill_53178 7 = .ok (.if_icmp .ge 13, 3) := by decide +kernel
theorem dJ7_fill_53178_10 : decode cJ7_fill_53178 10 = .ok (.aload_n 0, 1) := by decide +kernel
theorem dJ7_fill_53178_11 : decode cJ7_fill_53178 11 = .ok (.iload_n 2, 1) := by decide +kernel
theorem dJ7_fill_53178_12 : decode cJ7_fill_53178 12 = .ok (.iload_n 1, 1) := by decide +kernel
theorem dJ7_fill_53178_13 : decode cJ7_fill_53178 13 = .ok (.iastore, 1) := by decide +kernel
theorem dJ7_fill_53178_14 : decode cJ7_fill_53178 14 = .ok (.iinc 2 1, 3) := by decide +kernel
theorem dJ7_fill_53178_17 : decode cJ7_fill_53178 17 = .ok (.goto (-12), 3) := by decide +kernel
theorem dJ7_fill_53178_20 : decode cJ7_fill_53178 20 = .ok (.return_, 1) := by decide +kernel
theorem dJ3_checkFromToIndex_8c36e_0 : decode cJ3_checkFromToIndex_8c36e 0 = .ok (.iload_n 0, 1) := by decide +kernel
theorem dJ3_checkFromToIndex_8c36e_1 : decode cJ3_checkFromToIndex_8c36e 1 = .ok (.ifCond .lt 13, 3) := by decide +kernel
theorem dJ3_checkFromToIndex_8c36e_4 : decode cJ3_checkFromToIndex_8c36e 4 = .ok (.iload_n 0, 1) := by decide +kernel
theorem dJ3_checkFromToIndex_8c36e_5 : decode cJ3_checkFromToIndex_8c36e 5 = .ok (.iload_n 1, 1) := by decide +kernel
theorem dJ3_checkFromToIndex_8c36e_6 : decode cJ3_checkFromToIndex_8c36e 6 = .ok (.if_icmp .gt 8, 3) := by decide +kernel
theorem dJ3_checkFromToIndex_8c36e_9 : decode cJ3_checkFromToIndex_8c36e 9 = .ok (.iload_n 1, 1) := by decide +kernel
theorem dJ3_checkFromToIndex_8c36e_10 : decode cJ3_checkFromToIndex_8c36e 10 = .ok (.iload_n 2, 1) := by decide +kernel
theorem dJ3_checkFromToIndex_8c36e_11 : decode cJ3_checkFromToIndex_8c36e 11 = .ok (.if_icmp .le 11, 3) := by decide +kernel
theorem dJ3_checkFromToIndex_8c36e_14 : decode cJ3_checkFromToIndex_8c36e 14 = .ok (.aload_n 3, 1) := by decide +kernel
theorem dJ3_checkFromToIndex_8c36e_15 : decode cJ3_checkFromToIndex_8c36e 15 = .ok (.iload_n 0, 1) := by decide +kernel
theorem dJ3_checkFromToIndex_8c36e_16 : decode cJ3_checkFromToIndex_8c36e 16 = .ok (.iload_n 1, 1) := by decide +kernel
theorem dJ3_checkFromToIndex_8c36e_17 : decode cJ3_checkFromToIndex_8c36e 17 = .ok (.iload_n 2, 1) := by decide +kernel
theorem dJ3_checkFromToIndex_8c36e_18 : decode cJ3_checkFromToIndex_8c36e 18 = .ok (.invokestatic 99, 3) := by decide +kernel
theorem dJ3_checkFromToIndex_8c36e_21 : decode cJ3_checkFromToIndex_8c36e 21 = .ok (.athrow, 1) := by decide +kernel
theorem dJ3_checkFromToIndex_8c36e_22 : decode cJ3_checkFromToIndex_8c36e 22 = .ok (.iload_n 0, 1) := by decide +kernel
theorem dJ3_checkFromToIndex_8c36e_23 : decode cJ3_checkFromToIndex_8c36e 23 = .ok (.ireturn, 1) := by decide +kernel
theorem dL_law_0 : decode cL_law 0 = .ok (.new 7, 3) := by decide +kernel
theorem dL_law_3 : decode cL_law 3 = .ok (.dup, 1) := by decide +kernel
theorem dL_law_4 : decode cL_law 4 = .ok (.invokespecial 9, 3) := by decide +kernel
theorem dL_law_7 : decode cL_law 7 = .ok (.astore_n 1, 1) := by decide +kernel
theorem dL_law_8 : decode cL_law 8 = .ok (.new 10, 3) := by decide +kernel
theorem dL_law_11 : decode cL_law 11 = .ok (.dup, 1) := by decide +kernel
theorem dL_law_12 : decode cL_law 12 = .ok (.invokespecial 12, 3) := by decide +kernel
theorem dL_law_15 : decode cL_law 15 = .ok (.astore_n 2, 1) := by decide +kernel
theorem dL_law_16 : decode cL_law 16 = .ok (.iconst 0, 1) := by decide +kernel
theorem dL_law_17 : decode cL_law 17 = .ok (.istore_n 3, 1) := by decide +kernel
theorem dL_law_18 : decode cL_law 18 = .ok (.iload_n 3, 1) := by decide +kernel
theorem dL_law_19 : decode cL_law 19 = .ok (.aload_n 0, 1) := by decide +kernel
theorem dL_law_20 : decode cL_law 20 = .ok (.arraylength, 1) := by decide +kernel
theorem dL_law_21 : decode cL_law 21 = .ok (.bipush 6, 2) := by decide +kernel
theorem dL_law_23 : decode cL_law 23 = .ok (.isub, 1) := by decide +kernel
theorem dL_law_24 : decode cL_law 24 = .ok (.if_icmp .gt 905, 3) := by decide +kernel
theorem dL_law_27 : decode cL_law 27 = .ok (.aload_n 0, 1) := by decide +kernel
theorem dL_law_28 : decode cL_law 28 = .ok (.iload_n 3, 1) := by decide +kernel
theorem dL_law_29 : decode cL_law 29 = .ok (.iaload, 1) := by decide +kernel
theorem dL_law_30 : decode cL_law 30 = .ok (.bipush 31, 2) := by decide +kernel
theorem dL_law_32 : decode cL_law 32 = .ok (.iand, 1) := by decide +kernel
theorem dL_law_33 : decode cL_law 33 = .ok (.tableswitch 890 0 24 #[115, 148, 191, 204, 217, 280, 303, 346, 379, 402, 445, 478, 511, 544, 567, 590, 613, 656, 689, 752, 805, 818, 831, 844, 867], 115) := by decide +kernel
theorem dL_law_148 : decode cL_law 148 = .ok (.aload_n 1, 1) := by decide +kernel
theorem dL_law_149 : decode cL_law 149 = .ok (.aload_n 0, 1) := by decide +kernel
theorem dL_law_150 : decode cL_law 150 = .ok (.iload_n 3, 1) := by decide +kernel
theorem dL_law_151 : decode cL_law 151 = .ok (.iconst 1, 1) := by decide +kernel
theorem dL_law_152 : decode cL_law 152 = .ok (.iadd, 1) := by decide +kernel
theorem dL_law_153 : decode cL_law 153 = .ok (.iaload, 1) := by decide +kernel
theorem dL_law_154 : decode cL_law 154 = .ok (.aload_n 0, 1) := by decide +kernel
theorem dL_law_155 : decode cL_law 155 = .ok (.iload_n 3, 1) := by decide +kernel
theorem dL_law_156 : decode cL_law 156 = .ok (.iconst 2, 1) := by decide +kernel
theorem dL_law_157 : decode cL_law 157 = .ok (.iadd, 1) := by decide +kernel
theorem dL_law_158 : decode cL_law 158 = .ok (.iaload, 1) := by decide +kernel
theorem dL_law_159 : decode cL_law 159 = .ok (.invokevirtual 13, 3) := by decide +kernel
theorem dL_law_162 : decode cL_law 162 = .ok (.aload_n 2, 1) := by decide +kernel
theorem dL_law_163 : decode cL_law 163 = .ok (.aload_n 0, 1) := by decide +kernel
theorem dL_law_164 : decode cL_law 164 = .ok (.iload_n 3, 1) := by decide +kernel
theorem dL_law_165 : decode cL_law 165 = .ok (.iconst 1, 1) := by decide +kernel
theorem dL_law_166 : decode cL_law 166 = .ok (.iadd, 1) := by decide +kernel
theorem dL_law_167 : decode cL_law 167 = .ok (.iaload, 1) := by decide +kernel
theorem dL_law_168 : decode cL_law 168 = .ok (.aload_n 0, 1) := by decide +kernel
theorem dL_law_169 : decode cL_law 169 = .ok (.iload_n 3, 1) := by decide +kernel
theorem dL_law_170 : decode cL_law 170 = .ok (.iconst 2, 1) := by decide +kernel
theorem dL_law_171 : decode cL_law 171 = .ok (.iadd, 1) := by decide +kernel
theorem dL_law_172 : decode cL_law 172 = .ok (.iaload, 1) := by decide +kernel
theorem dL_law_173 : decode cL_law 173 = .ok (.invokevirtual 17, 3) := by decide +kernel
theorem dL_law_176 : decode cL_law 176 = .ok (.if_icmp .eq 747, 3) := by decide +kernel
theorem dL_law_179 : decode cL_law 179 = .ok (.iconst 0, 1) := by decide +kernel
theorem dL_law_180 : decode cL_law 180 = .ok (.ireturn, 1) := by decide +kernel
theorem dL_law_181 : decode cL_law 181 = .ok (.aload_n 1, 1) := by decide +kernel
theorem dL_law_182 : decode cL_law 182 = .ok (.aload_n 0, 1) := by decide +kernel
theorem dL_law_183 : decode cL_law 183 = .ok (.iload_n 3, 1) := by decide +kernel
theorem dL_law_184 : decode cL_law 184 = .ok (.iconst 1, 1) := by decide +kernel
theorem dL_law_185 : decode cL_law 185 = .ok (.iadd, 1) := by decide +kernel
theorem dL_law_186 : decode cL_law 186 = .ok (.iaload, 1) := by decide +kernel
theorem dL_law_187 : decode cL_law 187 = .ok (.aload_n 0, 1) := by decide +kernel
theorem dL_law_188 : decode cL_law 188 = .ok (.iload_n 3, 1) := by decide +kernel
theorem dL_law_189 : decode cL_law 189 = .ok (.iconst 2, 1) := by decide +kernel
theorem dL_law_190 : decode cL_law 190 = .ok (.iadd, 1) := by decide +kernel
theorem dL_law_191 : decode cL_law 191 = .ok (.iaload, 1) := by decide +kernel
theorem dL_law_192 : decode cL_law 192 = .ok (.aload_n 0, 1) := by decide +kernel
theorem dL_law_193 : decode cL_law 193 = .ok (.iload_n 3, 1) := by decide +kernel
theorem dL_law_194 : decode cL_law 194 = .ok (.iconst 3, 1) := by decide +kernel
theorem dL_law_195 : decode cL_law 195 = .ok (.iadd, 1) := by decide +kernel
theorem dL_law_196 : decode cL_law 196 = .ok (.iaload, 1) := by decide +kernel
theorem dL_law_197 : decode cL_law 197 = .ok (.invokevirtual 18, 3) := by decide +kernel
theorem dL_law_200 : decode cL_law 200 = .ok (.aload_n 2, 1) := by decide +kernel
theorem dL_law_201 : decode cL_law 201 = .ok (.aload_n 0, 1) := by decide +kernel
theorem dL_law_202 : decode cL_law 202 = .ok (.iload_n 3, 1) := by decide +kernel
theorem dL_law_203 : decode cL_law 203 = .ok (.iconst 1, 1) := by decide +kernel
theorem dL_law_204 : decode cL_law 204 = .ok (.iadd, 1) := by decide +kernel
theorem dL_law_205 : decode cL_law 205 = .ok (.iaload, 1) := by decide +kernel
theorem dL_law_206 : decode cL_law 206 = .ok (.aload_n 0, 1) := by decide +kernel
theorem dL_law_207 : decode cL_law 207 = .ok (.iload_n 3, 1) := by decide +kernel
theorem dL_law_208 : decode cL_law 208 = .ok (.iconst 2, 1) := by decide +kernel
theorem dL_law_209 : decode cL_law 209 = .ok (.iadd, 1) := by decide +kernel
theorem dL_law_210 : decode cL_law 210 = .ok (.iaload, 1) := by decide +kernel
theorem dL_law_211 : decode cL_law 211 = .ok (.aload_n 0, 1) := by decide +kernel
theorem dL_law_212 : decode cL_law 212 = .ok (.iload_n 3, 1) := by decide +kernel
theorem dL_law_213 : decode cL_law 213 = .ok (.iconst 3, 1) := by decide +kernel
theorem dL_law_214 : decode cL_law 214 = .ok (.iadd, 1) := by decide +kernel
theorem dL_law_215 : decode cL_law 215 = .ok (.iaload, 1) := by decide +kernel
theorem dL_law_216 : decode cL_law 216 = .ok (.invokevirtual 22, 3) := by decide +kernel
theorem dL_law_219 : decode cL_law 219 = .ok (.if_icmp .eq 704, 3) := by decide +kernel
theorem dL_law_222 : decode cL_law 222 = .ok (.iconst 0, 1) := by decide +kernel
theorem dL_law_223 : decode cL_law 223 = .ok (.ireturn, 1) := by decide +kernel
theorem dL_law_224 : decode cL_law 224 = .ok (.aload_n 1, 1) := by decide +kernel
theorem dL_law_225 : decode cL_law 225 = .ok (.invokevirtual 23, 3) := by decide +kernel
theorem dL_law_228 : decode cL_law 228 = .ok (.aload_n 2, 1) := by decide +kernel
theorem dL_law_229 : decode cL_law 229 = .ok (.invokevirtual 27, 3) := by decide +kernel
theorem dL_law_232 : decode cL_law 232 = .ok (.if_icmp .eq 691, 3) := by decide +kernel
theorem dL_law_235 : decode cL_law 235 = .ok (.iconst 0, 1) := by decide +kernel
theorem dL_law_236 : decode cL_law 236 = .ok (.ireturn, 1) := by decide +kernel
theorem dL_law_237 : decode cL_law 237 = .ok (.aload_n 1, 1) := by decide +kernel
theorem dL_law_238 : decode cL_law 238 = .ok (.invokevirtual 28, 3) := by decide +kernel
theorem dL_law_241 : decode cL_law 241 = .ok (.aload_n 2, 1) := by decide +kernel
theorem dL_law_242 : decode cL_law 242 = .ok (.invokevirtual 31, 3) := by decide +kernel
theorem dL_law_245 : decode cL_law 245 = .ok (.if_icmp .eq 678, 3) := by decide +kernel
theorem dL_law_248 : decode cL_law 248 = .ok (.iconst 0, 1) := by decide +kernel
theorem dL_law_249 : decode cL_law 249 = .ok (.ireturn, 1) := by decide +kernel
theorem dL_law_250 : decode cL_law 250 = .ok (.aload_n 1, 1) := by decide +kernel
theorem dL_law_251 : decode cL_law 251 = .ok (.aload_n 0, 1) := by decide +kernel
theorem dL_law_252 : decode cL_law 252 = .ok (.iload_n 3, 1) := by decide +kernel
theorem dL_law_253 : decode cL_law 253 = .ok (.iconst 1, 1) := by decide +kernel
theorem dL_law_254 : decode cL_law 254 = .ok (.iadd, 1) := by decide +kernel
theorem dL_law_255 : decode cL_law 255 = .ok (.iaload, 1) := by decide +kernel
theorem dL_law_256 : decode cL_law 256 = .ok (.aload_n 0, 1) := by decide +kernel
theorem dL_law_257 : decode cL_law 257 = .ok (.iload_n 3, 1) := by decide +kernel
theorem dL_law_258 : decode cL_law 258 = .ok (.iconst 2, 1) := by decide +kernel
theorem dL_law_259 : decode cL_law 259 = .ok (.iadd, 1) := by decide +kernel
theorem dL_law_260 : decode cL_law 260 = .ok (.iaload, 1) := by decide +kernel
theorem dL_law_261 : decode cL_law 261 = .ok (.aload_n 0, 1) := by decide +kernel
theorem dL_law_262 : decode cL_law 262 = .ok (.iload_n 3, 1) := by decide +kernel
theorem dL_law_263 : decode cL_law 263 = .ok (.iconst 3, 1) := by decide +kernel
theorem dL_law_264 : decode cL_law 264 = .ok (.iadd, 1) := by decide +kernel
theorem dL_law_265 : decode cL_law 265 = .ok (.iaload, 1) := by decide +kernel
theorem dL_law_266 : decode cL_law 266 = .ok (.aload_n 0, 1) := by decide +kernel
theorem dL_law_267 : decode cL_law 267 = .ok (.iload_n 3, 1) := by decide +kernel
theorem dL_law_268 : decode cL_law 268 = .ok (.iconst 4, 1) := by decide +kernel
theorem dL_law_269 : decode cL_law 269 = .ok (.iadd, 1) := by decide +kernel
theorem dL_law_270 : decode cL_law 270 = .ok (.iaload, 1) := by decide +kernel
theorem dL_law_271 : decode cL_law 271 = .ok (.aload_n 0, 1) := by decide +kernel
theorem dL_law_272 : decode cL_law 272 = .ok (.iload_n 3, 1) := by decide +kernel
theorem dL_law_273 : decode cL_law 273 = .ok (.iconst 5, 1) := by decide +kernel
theorem dL_law_274 : decode cL_law 274 = .ok (.iadd, 1) := by decide +kernel
theorem dL_law_275 : decode cL_law 275 = .ok (.iaload, 1) := by decide +kernel
theorem dL_law_276 : decode cL_law 276 = .ok (.invokevirtual 32, 3) := by decide +kernel
theorem dL_law_279 : decode cL_law 279 = .ok (.aload_n 2, 1) := by decide +kernel
theorem dL_law_280 : decode cL_law 280 = .ok (.aload_n 0, 1) := by decide +kernel
theorem dL_law_281 : decode cL_law 281 = .ok (.iload_n 3, 1) := by decide +kernel
theorem dL_law_282 : decode cL_law 282 = .ok (.iconst 1, 1) := by decide +kernel
theorem dL_law_283 : decode cL_law 283 = .ok (.iadd, 1) := by decide +kernel
theorem dL_law_284 : decode cL_law 284 = .ok (.iaload, 1) := by decide +kernel
theorem dL_law_285 : decode cL_law 285 = .ok (.aload_n 0, 1) := by decide +kernel
theorem dL_law_286 : decode cL_law 286 = .ok (.iload_n 3, 1) := by decide +kernel
theorem dL_law_287 : decode cL_law 287 = .ok (.iconst 2, 1) := by decide +kernel
theorem dL_law_288 : decode cL_law 288 = .ok (.iadd, 1) := by decide +kernel
end
section
theorem dL_law_289 : decode cL_law 289 = .ok (.iaload, 1) := by decide +kernel
theorem dL_law_290 : decode cL_law 290 = .ok (.aload_n 0, 1) := by decide +kernel
theorem dL_law_291 : decode cL_law 291 = .ok (.iload_n 3, 1) := by decide +kernel
theorem dL_law_292 : decode cL_law 292 = .ok (.iconst 3, 1) := by decide +kernel
theorem dL_law_293 : decode cL_law 293 = .ok (.iadd, 1) := by decide +kernel
theorem dL_law_294 : decode cL_law 294 = .ok (.iaload, 1) := by decide +kernel
theorem dL_law_295 : decode cL_law 295 = .ok (.aload_n 0, 1) := by decide +kernel
theorem dL_law_296 : decode cL_law 296 = .ok (.iload_n 3, 1) := by decide +kernel
theorem dL_law_297 : decode cL_law 297 = .ok (.iconst 4, 1) := by decide +kernel
theorem dL_law_298 : decode cL_law 298 = .ok (.iadd, 1) := by decide +kernel
theorem dL_law_299 : decode cL_law 299 = .ok (.iaload, 1) := by decide +kernel
theorem dL_law_300 : decode cL_law 300 = .ok (.aload_n 0, 1) := by decide +kernel
theorem dL_law_301 : decode cL_law 301 = .ok (.iload_n 3, 1) := by decide +kernel
theorem dL_law_302 : decode cL_law 302 = .ok (.iconst 5, 1) := by decide +kernel
theorem dL_law_303 : decode cL_law 303 = .ok (.iadd, 1) := by decide +kernel
theorem dL_law_304 : decode cL_law 304 = .ok (.iaload, 1) := by decide +kernel
theorem dL_law_305 : decode cL_law 305 = .ok (.invokevirtual 36, 3) := by decide +kernel
theorem dL_law_308 : decode cL_law 308 = .ok (.if_icmp .eq 615, 3) := by decide +kernel
theorem dL_law_311 : decode cL_law 311 = .ok (.iconst 0, 1) := by decide +kernel
theorem dL_law_312 : decode cL_law 312 = .ok (.ireturn, 1) := by decide +kernel
theorem dL_law_313 : decode cL_law 313 = .ok (.aload_n 1, 1) := by decide +kernel
theorem dL_law_314 : decode cL_law 314 = .ok (.aload_n 0, 1) := by decide +kernel
theorem dL_law_315 : decode cL_law 315 = .ok (.iload_n 3, 1) := by decide +kernel
theorem dL_law_316 : decode cL_law 316 = .ok (.iconst 1, 1) := by decide +kernel
theorem dL_law_317 : decode cL_law 317 = .ok (.iadd, 1) := by decide +kernel
theorem dL_law_318 : decode cL_law 318 = .ok (.iaload, 1) := by decide +kernel
theorem dL_law_319 : decode cL_law 319 = .ok (.invokevirtual 37, 3) := by decide +kernel
theorem dL_law_322 : decode cL_law 322 = .ok (.aload_n 2, 1) := by decide +kernel
theorem dL_law_323 : decode cL_law 323 = .ok (.aload_n 0, 1) := by decide +kernel
theorem dL_law_324 : decode cL_law 324 = .ok (.iload_n 3, 1) := by decide +kernel
theorem dL_law_325 : decode cL_law 325 = .ok (.iconst 1, 1) := by decide +kernel
theorem dL_law_326 : decode cL_law 326 = .ok (.iadd, 1) := by decide +kernel
theorem dL_law_327 : decode cL_law 327 = .ok (.iaload, 1) := by decide +kernel
theorem dL_law_328 : decode cL_law 328 = .ok (.invokevirtual 41, 3) := by decide +kernel
theorem dL_law_331 : decode cL_law 331 = .ok (.if_icmp .eq 592, 3) := by decide +kernel
theorem dL_law_334 : decode cL_law 334 = .ok (.iconst 0, 1) := by decide +kernel
theorem dL_law_335 : decode cL_law 335 = .ok (.ireturn, 1) := by decide +kernel
theorem dL_law_336 : decode cL_law 336 = .ok (.aload_n 1, 1) := by decide +kernel
theorem dL_law_337 : decode cL_law 337 = .ok (.aload_n 0, 1) := by decide +kernel
theorem dL_law_338 : decode cL_law 338 = .ok (.iload_n 3, 1) := by decide +kernel
theorem dL_law_339 : decode cL_law 339 = .ok (.iconst 1, 1) := by decide +kernel
theorem dL_law_340 : decode cL_law 340 = .ok (.iadd, 1) := by decide +kernel
theorem dL_law_341 : decode cL_law 341 = .ok (.iaload, 1) := by decide +kernel
theorem dL_law_342 : decode cL_law 342 = .ok (.aload_n 0, 1) := by decide +kernel
theorem dL_law_343 : decode cL_law 343 = .ok (.iload_n 3, 1) := by decide +kernel
theorem dL_law_344 : decode cL_law 344 = .ok (.iconst 2, 1) := by decide +kernel
theorem dL_law_345 : decode cL_law 345 = .ok (.iadd, 1) := by decide +kernel
theorem dL_law_346 : decode cL_law 346 = .ok (.iaload, 1) := by decide +kernel
theorem dL_law_347 : decode cL_law 347 = .ok (.aload_n 0, 1) := by decide +kernel
theorem dL_law_348 : decode cL_law 348 = .ok (.iload_n 3, 1) := by decide +kernel
theorem dL_law_349 : decode cL_law 349 = .ok (.iconst 3, 1) := by decide +kernel
theorem dL_law_350 : decode cL_law 350 = .ok (.iadd, 1) := by decide +kernel
theorem dL_law_351 : decode cL_law 351 = .ok (.iaload, 1) := by decide +kernel
theorem dL_law_352 : decode cL_law 352 = .ok (.invokevirtual 42, 3) := by decide +kernel
theorem dL_law_355 : decode cL_law 355 = .ok (.aload_n 2, 1) := by decide +kernel
theorem dL_law_356 : decode cL_law 356 = .ok (.aload_n 0, 1) := by decide +kernel
theorem dL_law_357 : decode cL_law 357 = .ok (.iload_n 3, 1) := by decide +kernel
theorem dL_law_358 : decode cL_law 358 = .ok (.iconst 1, 1) := by decide +kernel
theorem dL_law_359 : decode cL_law 359 = .ok (.iadd, 1) := by decide +kernel
theorem dL_law_360 : decode cL_law 360 = .ok (.iaload, 1) := by decide +kernel
theorem dL_law_361 : decode cL_law 361 = .ok (.aload_n 0, 1) := by decide +kernel
theorem dL_law_362 : decode cL_law 362 = .ok (.iload_n 3, 1) := by decide +kernel
theorem dL_law_363 : decode cL_law 363 = .ok (.iconst 2, 1) := by decide +kernel
theorem dL_law_364 : decode cL_law 364 = .ok (.iadd, 1) := by decide +kernel
theorem dL_law_365 : decode cL_law 365 = .ok (.iaload, 1) := by decide +kernel
theorem dL_law_366 : decode cL_law 366 = .ok (.aload_n 0, 1) := by decide +kernel
theorem dL_law_367 : decode cL_law 367 = .ok (.iload_n 3, 1) := by decide +kernel
theorem dL_law_368 : decode cL_law 368 = .ok (.iconst 3, 1) := by decide +kernel
theorem dL_law_369 : decode cL_law 369 = .ok (.iadd, 1) := by decide +kernel
theorem dL_law_370 : decode cL_law 370 = .ok (.iaload, 1) := by decide +kernel
theorem dL_law_371 : decode cL_law 371 = .ok (.invokevirtual 45, 3) := by decide +kernel
theorem dL_law_374 : decode cL_law 374 = .ok (.if_icmp .eq 549, 3) := by decide +kernel
theorem dL_law_377 : decode cL_law 377 = .ok (.iconst 0, 1) := by decide +kernel
theorem dL_law_378 : decode cL_law 378 = .ok (.ireturn, 1) := by decide +kernel
theorem dL_law_379 : decode cL_law 379 = .ok (.aload_n 1, 1) := by decide +kernel
theorem dL_law_380 : decode cL_law 380 = .ok (.aload_n 0, 1) := by decide +kernel
theorem dL_law_381 : decode cL_law 381 = .ok (.iload_n 3, 1) := by decide +kernel
theorem dL_law_382 : decode cL_law 382 = .ok (.iconst 1, 1) := by decide +kernel
theorem dL_law_383 : decode cL_law 383 = .ok (.iadd, 1) := by decide +kernel
theorem dL_law_384 : decode cL_law 384 = .ok (.iaload, 1) := by decide +kernel
theorem dL_law_385 : decode cL_law 385 = .ok (.aload_n 0, 1) := by decide +kernel
theorem dL_law_386 : decode cL_law 386 = .ok (.iload_n 3, 1) := by decide +kernel
theorem dL_law_387 : decode cL_law 387 = .ok (.iconst 2, 1) := by decide +kernel
theorem dL_law_388 : decode cL_law 388 = .ok (.iadd, 1) := by decide +kernel
theorem dL_law_389 : decode cL_law 389 = .ok (.iaload, 1) := by decide +kernel
theorem dL_law_390 : decode cL_law 390 = .ok (.invokevirtual 46, 3) := by decide +kernel
theorem dL_law_393 : decode cL_law 393 = .ok (.aload_n 2, 1) := by decide +kernel
theorem dL_law_394 : decode cL_law 394 = .ok (.aload_n 0, 1) := by decide +kernel
theorem dL_law_395 : decode cL_law 395 = .ok (.iload_n 3, 1) := by decide +kernel
theorem dL_law_396 : decode cL_law 396 = .ok (.iconst 1, 1) := by decide +kernel
theorem dL_law_397 : decode cL_law 397 = .ok (.iadd, 1) := by decide +kernel
theorem dL_law_398 : decode cL_law 398 = .ok (.iaload, 1) := by decide +kernel
theorem dL_law_399 : decode cL_law 399 = .ok (.aload_n 0, 1) := by decide +kernel
theorem dL_law_400 : decode cL_law 400 = .ok (.iload_n 3, 1) := by decide +kernel
theorem dL_law_401 : decode cL_law 401 = .ok (.iconst 2, 1) := by decide +kernel
theorem dL_law_402 : decode cL_law 402 = .ok (.iadd, 1) := by decide +kernel
theorem dL_law_403 : decode cL_law 403 = .ok (.iaload, 1) := by decide +kernel
theorem dL_law_404 : decode cL_law 404 = .ok (.invokevirtual 49, 3) := by decide +kernel
theorem dL_law_407 : decode cL_law 407 = .ok (.if_icmp .eq 516, 3) := by decide +kernel
theorem dL_law_410 : decode cL_law 410 = .ok (.iconst 0, 1) := by decide +kernel
theorem dL_law_411 : decode cL_law 411 = .ok (.ireturn, 1) := by decide +kernel
theorem dL_law_412 : decode cL_law 412 = .ok (.aload_n 1, 1) := by decide +kernel
theorem dL_law_413 : decode cL_law 413 = .ok (.aload_n 0, 1) := by decide +kernel
theorem dL_law_414 : decode cL_law 414 = .ok (.iload_n 3, 1) := by decide +kernel
theorem dL_law_415 : decode cL_law 415 = .ok (.iconst 1, 1) := by decide +kernel
theorem dL_law_416 : decode cL_law 416 = .ok (.iadd, 1) := by decide +kernel
theorem dL_law_417 : decode cL_law 417 = .ok (.iaload, 1) := by decide +kernel
theorem dL_law_418 : decode cL_law 418 = .ok (.invokevirtual 50, 3) := by decide +kernel
theorem dL_law_421 : decode cL_law 421 = .ok (.aload_n 2, 1) := by decide +kernel
theorem dL_law_422 : decode cL_law 422 = .ok (.aload_n 0, 1) := by decide +kernel
theorem dL_law_423 : decode cL_law 423 = .ok (.iload_n 3, 1) := by decide +kernel
theorem dL_law_424 : decode cL_law 424 = .ok (.iconst 1, 1) := by decide +kernel
theorem dL_law_425 : decode cL_law 425 = .ok (.iadd, 1) := by decide +kernel
theorem dL_law_426 : decode cL_law 426 = .ok (.iaload, 1) := by decide +kernel
theorem dL_law_427 : decode cL_law 427 = .ok (.invokevirtual 53, 3) := by decide +kernel
theorem dL_law_430 : decode cL_law 430 = .ok (.if_icmp .eq 493, 3) := by decide +kernel
theorem dL_law_433 : decode cL_law 433 = .ok (.iconst 0, 1) := by decide +kernel
theorem dL_law_434 : decode cL_law 434 = .ok (.ireturn, 1) := by decide +kernel
theorem dL_law_435 : decode cL_law 435 = .ok (.aload_n 1, 1) := by decide +kernel
theorem dL_law_436 : decode cL_law 436 = .ok (.aload_n 0, 1) := by decide +kernel
theorem dL_law_437 : decode cL_law 437 = .ok (.iload_n 3, 1) := by decide +kernel
theorem dL_law_438 : decode cL_law 438 = .ok (.iconst 1, 1) := by decide +kernel
theorem dL_law_439 : decode cL_law 439 = .ok (.iadd, 1) := by decide +kernel
theorem dL_law_440 : decode cL_law 440 = .ok (.iaload, 1) := by decide +kernel
theorem dL_law_441 : decode cL_law 441 = .ok (.aload_n 0, 1) := by decide +kernel
theorem dL_law_442 : decode cL_law 442 = .ok (.iload_n 3, 1) := by decide +kernel
theorem dL_law_443 : decode cL_law 443 = .ok (.iconst 2, 1) := by decide +kernel
theorem dL_law_444 : decode cL_law 444 = .ok (.iadd, 1) := by decide +kernel
theorem dL_law_445 : decode cL_law 445 = .ok (.iaload, 1) := by decide +kernel
theorem dL_law_446 : decode cL_law 446 = .ok (.aload_n 0, 1) := by decide +kernel
theorem dL_law_447 : decode cL_law 447 = .ok (.iload_n 3, 1) := by decide +kernel
theorem dL_law_448 : decode cL_law 448 = .ok (.iconst 3, 1) := by decide +kernel
theorem dL_law_449 : decode cL_law 449 = .ok (.iadd, 1) := by decide +kernel
theorem dL_law_450 : decode cL_law 450 = .ok (.iaload, 1) := by decide +kernel
theorem dL_law_451 : decode cL_law 451 = .ok (.invokevirtual 54, 3) := by decide +kernel
theorem dL_law_454 : decode cL_law 454 = .ok (.aload_n 2, 1) := by decide +kernel
theorem dL_law_455 : decode cL_law 455 = .ok (.aload_n 0, 1) := by decide +kernel
theorem dL_law_456 : decode cL_law 456 = .ok (.iload_n 3, 1) := by decide +kernel
theorem dL_law_457 : decode cL_law 457 = .ok (.iconst 1, 1) := by decide +kernel
theorem dL_law_458 : decode cL_law 458 = .ok (.iadd, 1) := by decide +kernel
theorem dL_law_459 : decode cL_law 459 = .ok (.iaload, 1) := by decide +kernel
theorem dL_law_460 : decode cL_law 460 = .ok (.aload_n 0, 1) := by decide +kernel
theorem dL_law_461 : decode cL_law 461 = .ok (.iload_n 3, 1) := by decide +kernel
theorem dL_law_462 : decode cL_law 462 = .ok (.iconst 2, 1) := by decide +kernel
theorem dL_law_463 : decode cL_law 463 = .ok (.iadd, 1) := by decide +kernel
theorem dL_law_464 : decode cL_law 464 = .ok (.iaload, 1) := by decide +kernel
theorem dL_law_465 : decode cL_law 465 = .ok (.aload_n 0, 1) := by decide +kernel
theorem dL_law_466 : decode cL_law 466 = .ok (.iload_n 3, 1) := by decide +kernel
theorem dL_law_467 : decode cL_law 467 = .ok (.iconst 3, 1) := by decide +kernel
theorem dL_law_468 : decode cL_law 468 = .ok (.iadd, 1) := by decide +kernel
theorem dL_law_469 : decode cL_law 469 = .ok (.iaload, 1) := by decide +kernel
theorem dL_law_470 : decode cL_law 470 = .ok (.invokevirtual 57, 3) := by decide +kernel
theorem dL_law_473 : decode cL_law 473 = .ok (.if_icmp .eq 450, 3) := by decide +kernel
theorem dL_law_476 : decode cL_law 476 = .ok (.iconst 0, 1) := by decide +kernel
theorem dL_law_477 : decode cL_law 477 = .ok (.ireturn, 1) := by decide +kernel
theorem dL_law_478 : decode cL_law 478 = .ok (.aload_n 1, 1) := by decide +kernel
theorem dL_law_479 : decode cL_law 479 = .ok (.aload_n 0, 1) := by decide +kernel
theorem dL_law_480 : decode cL_law 480 = .ok (.iload_n 3, 1) := by decide +kernel
theorem dL_law_481 : decode cL_law 481 = .ok (.iconst 1, 1) := by decide +kernel
theorem dL_law_482 : decode cL_law 482 = .ok (.iadd, 1) := by decide +kernel
theorem dL_law_483 : decode cL_law 483 = .ok (.iaload, 1) := by decide +kernel
theorem dL_law_484 : decode cL_law 484 = .ok (.aload_n 0, 1) := by decide +kernel
theorem dL_law_485 : decode cL_law 485 = .ok (.iload_n 3, 1) := by decide +kernel
theorem dL_law_486 : decode cL_law 486 = .ok (.iconst 2, 1) := by decide +kernel
theorem dL_law_487 : decode cL_law 487 = .ok (.iadd, 1) := by decide +kernel
theorem dL_law_488 : decode cL_law 488 = .ok (.iaload, 1) := by decide +kernel
theorem dL_law_489 : decode cL_law 489 = .ok (.invokevirtual 58, 3) := by decide +kernel
theorem dL_law_492 : decode cL_law 492 = .ok (.aload_n 2, 1) := by decide +kernel
theorem dL_law_493 : decode cL_law 493 = .ok (.aload_n 0, 1) := by decide +kernel
theorem dL_law_494 : decode cL_law 494 = .ok (.iload_n 3, 1) := by decide +kernel
theorem dL_law_495 : decode cL_law 495 = .ok (.iconst 1, 1) := by decide +kernel
theorem dL_law_496 : decode cL_law 496 = .ok (.iadd, 1) := by decide +kernel
theorem dL_law_497 : decode cL_law 497 = .ok (.iaload, 1) := by decide +kernel
theorem dL_law_498 : decode cL_law 498 = .ok (.aload_n 0, 1) := by decide +kernel
theorem dL_law_499 : decode cL_law 499 = .ok (.iload_n 3, 1) := by decide +kernel
theorem dL_law_500 : decode cL_law 500 = .ok (.iconst 2, 1) := by decide +kernel
theorem dL_law_501 : decode cL_law 501 = .ok (.iadd, 1) := by decide +kernel
theorem dL_law_502 : decode cL_law 502 = .ok (.iaload, 1) := by decide +kernel
theorem dL_law_503 : decode cL_law 503 = .ok (.invokevirtual 61, 3) := by decide +kernel
theorem dL_law_506 : decode cL_law 506 = .ok (.if_icmp .eq 417, 3) := by decide +kernel
theorem dL_law_509 : decode cL_law 509 = .ok (.iconst 0, 1) := by decide +kernel
theorem dL_law_510 : decode cL_law 510 = .ok (.ireturn, 1) := by decide +kernel
theorem dL_law_511 : decode cL_law 511 = .ok (.aload_n 1, 1) := by decide +kernel
theorem dL_law_512 : decode cL_law 512 = .ok (.aload_n 0, 1) := by decide +kernel
theorem dL_law_513 : decode cL_law 513 = .ok (.iload_n 3, 1) := by decide +kernel
theorem dL_law_514 : decode cL_law 514 = .ok (.iconst 1, 1) := by decide +kernel
theorem dL_law_515 : decode cL_law 515 = .ok (.iadd, 1) := by decide +kernel
theorem dL_law_516 : decode cL_law 516 = .ok (.iaload, 1) := by decide +kernel
theorem dL_law_517 : decode cL_law 517 = .ok (.aload_n 0, 1) := by decide +kernel
theorem dL_law_518 : decode cL_law 518 = .ok (.iload_n 3, 1) := by decide +kernel
theorem dL_law_519 : decode cL_law 519 = .ok (.iconst 2, 1) := by decide +kernel
theorem dL_law_520 : decode cL_law 520 = .ok (.iadd, 1) := by decide +kernel
theorem dL_law_521 : decode cL_law 521 = .ok (.iaload, 1) := by decide +kernel
theorem dL_law_522 : decode cL_law 522 = .ok (.invokevirtual 62, 3) := by decide +kernel
theorem dL_law_525 : decode cL_law 525 = .ok (.aload_n 2, 1) := by decide +kernel
theorem dL_law_526 : decode cL_law 526 = .ok (.aload_n 0, 1) := by decide +kernel
theorem dL_law_527 : decode cL_law 527 = .ok (.iload_n 3, 1) := by decide +kernel
theorem dL_law_528 : decode cL_law 528 = .ok (.iconst 1, 1) := by decide +kernel
theorem dL_law_529 : decode cL_law 529 = .ok (.iadd, 1) := by decide +kernel
theorem dL_law_530 : decode cL_law 530 = .ok (.iaload, 1) := by decide +kernel
theorem dL_law_531 : decode cL_law 531 = .ok (.aload_n 0, 1) := by decide +kernel
theorem dL_law_532 : decode cL_law 532 = .ok (.iload_n 3, 1) := by decide +kernel
theorem dL_law_533 : decode cL_law 533 = .ok (.iconst 2, 1) := by decide +kernel
theorem dL_law_534 : decode cL_law 534 = .ok (.iadd, 1) := by decide +kernel
theorem dL_law_535 : decode cL_law 535 = .ok (.iaload, 1) := by decide +kernel
theorem dL_law_536 : decode cL_law 536 = .ok (.invokevirtual 65, 3) := by decide +kernel
theorem dL_law_539 : decode cL_law 539 = .ok (.if_icmp .eq 384, 3) := by decide +kernel
theorem dL_law_542 : decode cL_law 542 = .ok (.iconst 0, 1) := by decide +kernel
theorem dL_law_543 : decode cL_law 543 = .ok (.ireturn, 1) := by decide +kernel
theorem dL_law_544 : decode cL_law 544 = .ok (.aload_n 1, 1) := by decide +kernel
theorem dL_law_545 : decode cL_law 545 = .ok (.aload_n 0, 1) := by decide +kernel
theorem dL_law_546 : decode cL_law 546 = .ok (.iload_n 3, 1) := by decide +kernel
theorem dL_law_547 : decode cL_law 547 = .ok (.iconst 1, 1) := by decide +kernel
theorem dL_law_548 : decode cL_law 548 = .ok (.iadd, 1) := by decide +kernel
theorem dL_law_549 : decode cL_law 549 = .ok (.iaload, 1) := by decide +kernel
theorem dL_law_550 : decode cL_law 550 = .ok (.aload_n 0, 1) := by decide +kernel
theorem dL_law_551 : decode cL_law 551 = .ok (.iload_n 3, 1) := by decide +kernel
theorem dL_law_552 : decode cL_law 552 = .ok (.iconst 2, 1) := by decide +kernel
theorem dL_law_553 : decode cL_law 553 = .ok (.iadd, 1) := by decide +kernel
theorem dL_law_554 : decode cL_law 554 = .ok (.iaload, 1) := by decide +kernel
theorem dL_law_555 : decode cL_law 555 = .ok (.invokevirtual 66, 3) := by decide +kernel
theorem dL_law_558 : decode cL_law 558 = .ok (.aload_n 2, 1) := by decide +kernel
theorem dL_law_559 : decode cL_law 559 = .ok (.aload_n 0, 1) := by decide +kernel
theorem dL_law_560 : decode cL_law 560 = .ok (.iload_n 3, 1) := by decide +kernel
theorem dL_law_561 : decode cL_law 561 = .ok (.iconst 1, 1) := by decide +kernel
theorem dL_law_562 : decode cL_law 562 = .ok (.iadd, 1) := by decide +kernel
theorem dL_law_563 : decode cL_law 563 = .ok (.iaload, 1) := by decide +kernel
theorem dL_law_564 : decode cL_law 564 = .ok (.aload_n 0, 1) := by decide +kernel
theorem dL_law_565 : decode cL_law 565 = .ok (.iload_n 3, 1) := by decide +kernel
theorem dL_law_566 : decode cL_law 566 = .ok (.iconst 2, 1) := by decide +kernel
theorem dL_law_567 : decode cL_law 567 = .ok (.iadd, 1) := by decide +kernel
theorem dL_law_568 : decode cL_law 568 = .ok (.iaload, 1) := by decide +kernel
theorem dL_law_569 : decode cL_law 569 = .ok (.invokevirtual 69, 3) := by decide +kernel
theorem dL_law_572 : decode cL_law 572 = .ok (.if_icmp .eq 351, 3) := by decide +kernel
theorem dL_law_575 : decode cL_law 575 = .ok (.iconst 0, 1) := by decide +kernel
theorem dL_law_576 : decode cL_law 576 = .ok (.ireturn, 1) := by decide +kernel
theorem dL_law_577 : decode cL_law 577 = .ok (.aload_n 1, 1) := by decide +kernel
theorem dL_law_578 : decode cL_law 578 = .ok (.aload_n 0, 1) := by decide +kernel
theorem dL_law_579 : decode cL_law 579 = .ok (.iload_n 3, 1) := by decide +kernel
theorem dL_law_580 : decode cL_law 580 = .ok (.iconst 1, 1) := by decide +kernel
theorem dL_law_581 : decode cL_law 581 = .ok (.iadd, 1) := by decide +kernel
theorem dL_law_582 : decode cL_law 582 = .ok (.iaload, 1) := by decide +kernel
theorem dL_law_583 : decode cL_law 583 = .ok (.invokevirtual 70, 3) := by decide +kernel
theorem dL_law_586 : decode cL_law 586 = .ok (.aload_n 2, 1) := by decide +kernel
theorem dL_law_587 : decode cL_law 587 = .ok (.aload_n 0, 1) := by decide +kernel
theorem dL_law_588 : decode cL_law 588 = .ok (.iload_n 3, 1) := by decide +kernel
theorem dL_law_589 : decode cL_law 589 = .ok (.iconst 1, 1) := by decide +kernel
theorem dL_law_590 : decode cL_law 590 = .ok (.iadd, 1) := by decide +kernel
theorem dL_law_591 : decode cL_law 591 = .ok (.iaload, 1) := by decide +kernel
theorem dL_law_592 : decode cL_law 592 = .ok (.invokevirtual 73, 3) := by decide +kernel
theorem dL_law_595 : decode cL_law 595 = .ok (.if_icmp .eq 328, 3) := by decide +kernel
theorem dL_law_598 : decode cL_law 598 = .ok (.iconst 0, 1) := by decide +kernel
theorem dL_law_599 : decode cL_law 599 = .ok (.ireturn, 1) := by decide +kernel
theorem dL_law_600 : decode cL_law 600 = .ok (.aload_n 1, 1) := by decide +kernel
theorem dL_law_601 : decode cL_law 601 = .ok (.aload_n 0, 1) := by decide +kernel
theorem dL_law_602 : decode cL_law 602 = .ok (.iload_n 3, 1) := by decide +kernel
theorem dL_law_603 : decode cL_law 603 = .ok (.iconst 1, 1) := by decide +kernel
theorem dL_law_604 : decode cL_law 604 = .ok (.iadd, 1) := by decide +kernel
theorem dL_law_605 : decode cL_law 605 = .ok (.iaload, 1) := by decide +kernel
theorem dL_law_606 : decode cL_law 606 = .ok (.invokevirtual 74, 3) := by decide +kernel
theorem dL_law_609 : decode cL_law 609 = .ok (.aload_n 2, 1) := by decide +kernel
theorem dL_law_610 : decode cL_law 610 = .ok (.aload_n 0, 1) := by decide +kernel
theorem dL_law_611 : decode cL_law 611 = .ok (.iload_n 3, 1) := by decide +kernel
theorem dL_law_612 : decode cL_law 612 = .ok (.iconst 1, 1) := by decide +kernel
theorem dL_law_613 : decode cL_law 613 = .ok (.iadd, 1) := by decide +kernel
theorem dL_law_614 : decode cL_law 614 = .ok (.iaload, 1) := by decide +kernel
theorem dL_law_615 : decode cL_law 615 = .ok (.invokevirtual 77, 3) := by decide +kernel
theorem dL_law_618 : decode cL_law 618 = .ok (.if_icmp .eq 305, 3) := by decide +kernel
theorem dL_law_621 : decode cL_law 621 = .ok (.iconst 0, 1) := by decide +kernel
theorem dL_law_622 : decode cL_law 622 = .ok (.ireturn, 1) := by decide +kernel
theorem dL_law_623 : decode cL_law 623 = .ok (.aload_n 1, 1) := by decide +kernel
theorem dL_law_624 : decode cL_law 624 = .ok (.aload_n 0, 1) := by decide +kernel
theorem dL_law_625 : decode cL_law 625 = .ok (.iload_n 3, 1) := by decide +kernel
theorem dL_law_626 : decode cL_law 626 = .ok (.iconst 1, 1) := by decide +kernel
theorem dL_law_627 : decode cL_law 627 = .ok (.iadd, 1) := by decide +kernel
theorem dL_law_628 : decode cL_law 628 = .ok (.iaload, 1) := by decide +kernel
theorem dL_law_629 : decode cL_law 629 = .ok (.invokevirtual 78, 3) := by decide +kernel
theorem dL_law_632 : decode cL_law 632 = .ok (.aload_n 2, 1) := by decide +kernel
theorem dL_law_633 : decode cL_law 633 = .ok (.aload_n 0, 1) := by decide +kernel
theorem dL_law_634 : decode cL_law 634 = .ok (.iload_n 3, 1) := by decide +kernel
theorem dL_law_635 : decode cL_law 635 = .ok (.iconst 1, 1) := by decide +kernel
theorem dL_law_636 : decode cL_law 636 = .ok (.iadd, 1) := by decide +kernel
theorem dL_law_637 : decode cL_law 637 = .ok (.iaload, 1) := by decide +kernel
theorem dL_law_638 : decode cL_law 638 = .ok (.invokevirtual 81, 3) := by decide +kernel
theorem dL_law_641 : decode cL_law 641 = .ok (.if_icmp .eq 282, 3) := by decide +kernel
theorem dL_law_644 : decode cL_law 644 = .ok (.iconst 0, 1) := by decide +kernel
theorem dL_law_645 : decode cL_law 645 = .ok (.ireturn, 1) := by decide +kernel
theorem dL_law_646 : decode cL_law 646 = .ok (.aload_n 1, 1) := by decide +kernel
theorem dL_law_647 : decode cL_law 647 = .ok (.aload_n 0, 1) := by decide +kernel
theorem dL_law_648 : decode cL_law 648 = .ok (.iload_n 3, 1) := by decide +kernel
theorem dL_law_649 : decode cL_law 649 = .ok (.iconst 1, 1) := by decide +kernel
theorem dL_law_650 : decode cL_law 650 = .ok (.iadd, 1) := by decide +kernel
theorem dL_law_651 : decode cL_law 651 = .ok (.iaload, 1) := by decide +kernel
theorem dL_law_652 : decode cL_law 652 = .ok (.aload_n 0, 1) := by decide +kernel
theorem dL_law_653 : decode cL_law 653 = .ok (.iload_n 3, 1) := by decide +kernel
theorem dL_law_654 : decode cL_law 654 = .ok (.iconst 2, 1) := by decide +kernel
theorem dL_law_655 : decode cL_law 655 = .ok (.iadd, 1) := by decide +kernel
theorem dL_law_656 : decode cL_law 656 = .ok (.iaload, 1) := by decide +kernel
theorem dL_law_657 : decode cL_law 657 = .ok (.aload_n 0, 1) := by decide +kernel
theorem dL_law_658 : decode cL_law 658 = .ok (.iload_n 3, 1) := by decide +kernel
theorem dL_law_659 : decode cL_law 659 = .ok (.iconst 3, 1) := by decide +kernel
theorem dL_law_660 : decode cL_law 660 = .ok (.iadd, 1) := by decide +kernel
theorem dL_law_661 : decode cL_law 661 = .ok (.iaload, 1) := by decide +kernel
theorem dL_law_662 : decode cL_law 662 = .ok (.invokevirtual 82, 3) := by decide +kernel
theorem dL_law_665 : decode cL_law 665 = .ok (.aload_n 2, 1) := by decide +kernel
theorem dL_law_666 : decode cL_law 666 = .ok (.aload_n 0, 1) := by decide +kernel
theorem dL_law_667 : decode cL_law 667 = .ok (.iload_n 3, 1) := by decide +kernel
theorem dL_law_668 : decode cL_law 668 = .ok (.iconst 1, 1) := by decide +kernel
theorem dL_law_669 : decode cL_law 669 = .ok (.iadd, 1) := by decide +kernel
theorem dL_law_670 : decode cL_law 670 = .ok (.iaload, 1) := by decide +kernel
theorem dL_law_671 : decode cL_law 671 = .ok (.aload_n 0, 1) := by decide +kernel
theorem dL_law_672 : decode cL_law 672 = .ok (.iload_n 3, 1) := by decide +kernel
theorem dL_law_673 : decode cL_law 673 = .ok (.iconst 2, 1) := by decide +kernel
theorem dL_law_674 : decode cL_law 674 = .ok (.iadd, 1) := by decide +kernel
theorem dL_law_675 : decode cL_law 675 = .ok (.iaload, 1) := by decide +kernel
theorem dL_law_676 : decode cL_law 676 = .ok (.aload_n 0, 1) := by decide +kernel
theorem dL_law_677 : decode cL_law 677 = .ok (.iload_n 3, 1) := by decide +kernel
theorem dL_law_678 : decode cL_law 678 = .ok (.iconst 3, 1) := by decide +kernel
theorem dL_law_679 : decode cL_law 679 = .ok (.iadd, 1) := by decide +kernel
theorem dL_law_680 : decode cL_law 680 = .ok (.iaload, 1) := by decide +kernel
theorem dL_law_681 : decode cL_law 681 = .ok (.invokevirtual 85, 3) := by decide +kernel
theorem dL_law_684 : decode cL_law 684 = .ok (.if_icmp .eq 239, 3) := by decide +kernel
theorem dL_law_687 : decode cL_law 687 = .ok (.iconst 0, 1) := by decide +kernel
theorem dL_law_688 : decode cL_law 688 = .ok (.ireturn, 1) := by decide +kernel
theorem dL_law_689 : decode cL_law 689 = .ok (.aload_n 1, 1) := by decide +kernel
theorem dL_law_690 : decode cL_law 690 = .ok (.aload_n 0, 1) := by decide +kernel
theorem dL_law_691 : decode cL_law 691 = .ok (.iload_n 3, 1) := by decide +kernel
theorem dL_law_692 : decode cL_law 692 = .ok (.iconst 1, 1) := by decide +kernel
theorem dL_law_693 : decode cL_law 693 = .ok (.iadd, 1) := by decide +kernel
theorem dL_law_694 : decode cL_law 694 = .ok (.iaload, 1) := by decide +kernel
theorem dL_law_695 : decode cL_law 695 = .ok (.aload_n 0, 1) := by decide +kernel
theorem dL_law_696 : decode cL_law 696 = .ok (.iload_n 3, 1) := by decide +kernel
theorem dL_law_697 : decode cL_law 697 = .ok (.iconst 2, 1) := by decide +kernel
theorem dL_law_698 : decode cL_law 698 = .ok (.iadd, 1) := by decide +kernel
theorem dL_law_699 : decode cL_law 699 = .ok (.iaload, 1) := by decide +kernel
theorem dL_law_700 : decode cL_law 700 = .ok (.invokevirtual 86, 3) := by decide +kernel
theorem dL_law_703 : decode cL_law 703 = .ok (.aload_n 2, 1) := by decide +kernel
theorem dL_law_704 : decode cL_law 704 = .ok (.aload_n 0, 1) := by decide +kernel
theorem dL_law_705 : decode cL_law 705 = .ok (.iload_n 3, 1) := by decide +kernel
theorem dL_law_706 : decode cL_law 706 = .ok (.iconst 1, 1) := by decide +kernel
theorem dL_law_707 : decode cL_law 707 = .ok (.iadd, 1) := by decide +kernel
theorem dL_law_708 : decode cL_law 708 = .ok (.iaload, 1) := by decide +kernel
theorem dL_law_709 : decode cL_law 709 = .ok (.aload_n 0, 1) := by decide +kernel
theorem dL_law_710 : decode cL_law 710 = .ok (.iload_n 3, 1) := by decide +kernel
theorem dL_law_711 : decode cL_law 711 = .ok (.iconst 2, 1) := by decide +kernel
theorem dL_law_712 : decode cL_law 712 = .ok (.iadd, 1) := by decide +kernel
theorem dL_law_713 : decode cL_law 713 = .ok (.iaload, 1) := by decide +kernel
theorem dL_law_714 : decode cL_law 714 = .ok (.invokevirtual 89, 3) := by decide +kernel
theorem dL_law_717 : decode cL_law 717 = .ok (.if_icmp .eq 206, 3) := by decide +kernel
theorem dL_law_720 : decode cL_law 720 = .ok (.iconst 0, 1) := by decide +kernel
theorem dL_law_721 : decode cL_law 721 = .ok (.ireturn, 1) := by decide +kernel
theorem dL_law_722 : decode cL_law 722 = .ok (.aload_n 1, 1) := by decide +kernel
theorem dL_law_723 : decode cL_law 723 = .ok (.aload_n 0, 1) := by decide +kernel
theorem dL_law_724 : decode cL_law 724 = .ok (.iload_n 3, 1) := by decide +kernel
theorem dL_law_725 : decode cL_law 725 = .ok (.iconst 1, 1) := by decide +kernel
theorem dL_law_726 : decode cL_law 726 = .ok (.iadd, 1) := by decide +kernel
theorem dL_law_727 : decode cL_law 727 = .ok (.iaload, 1) := by decide +kernel
theorem dL_law_728 : decode cL_law 728 = .ok (.aload_n 0, 1) := by decide +kernel
theorem dL_law_729 : decode cL_law 729 = .ok (.iload_n 3, 1) := by decide +kernel
theorem dL_law_730 : decode cL_law 730 = .ok (.iconst 2, 1) := by decide +kernel
theorem dL_law_731 : decode cL_law 731 = .ok (.iadd, 1) := by decide +kernel
theorem dL_law_732 : decode cL_law 732 = .ok (.iaload, 1) := by decide +kernel
theorem dL_law_733 : decode cL_law 733 = .ok (.aload_n 0, 1) := by decide +kernel
theorem dL_law_734 : decode cL_law 734 = .ok (.iload_n 3, 1) := by decide +kernel
theorem dL_law_735 : decode cL_law 735 = .ok (.iconst 3, 1) := by decide +kernel
theorem dL_law_736 : decode cL_law 736 = .ok (.iadd, 1) := by decide +kernel
theorem dL_law_737 : decode cL_law 737 = .ok (.iaload, 1) := by decide +kernel
theorem dL_law_738 : decode cL_law 738 = .ok (.aload_n 0, 1) := by decide +kernel
theorem dL_law_739 : decode cL_law 739 = .ok (.iload_n 3, 1) := by decide +kernel
theorem dL_law_740 : decode cL_law 740 = .ok (.iconst 4, 1) := by decide +kernel
theorem dL_law_741 : decode cL_law 741 = .ok (.iadd, 1) := by decide +kernel
theorem dL_law_742 : decode cL_law 742 = .ok (.iaload, 1) := by decide +kernel
theorem dL_law_743 : decode cL_law 743 = .ok (.aload_n 0, 1) := by decide +kernel
theorem dL_law_744 : decode cL_law 744 = .ok (.iload_n 3, 1) := by decide +kernel
theorem dL_law_745 : decode cL_law 745 = .ok (.iconst 5, 1) := by decide +kernel
theorem dL_law_746 : decode cL_law 746 = .ok (.iadd, 1) := by decide +kernel
theorem dL_law_747 : decode cL_law 747 = .ok (.iaload, 1) := by decide +kernel
theorem dL_law_748 : decode cL_law 748 = .ok (.invokevirtual 90, 3) := by decide +kernel
theorem dL_law_751 : decode cL_law 751 = .ok (.aload_n 2, 1) := by decide +kernel
theorem dL_law_752 : decode cL_law 752 = .ok (.aload_n 0, 1) := by decide +kernel
theorem dL_law_753 : decode cL_law 753 = .ok (.iload_n 3, 1) := by decide +kernel
theorem dL_law_754 : decode cL_law 754 = .ok (.iconst 1, 1) := by decide +kernel
theorem dL_law_755 : decode cL_law 755 = .ok (.iadd, 1) := by decide +kernel
theorem dL_law_756 : decode cL_law 756 = .ok (.iaload, 1) := by decide +kernel
theorem dL_law_757 : decode cL_law 757 = .ok (.aload_n 0, 1) := by decide +kernel
theorem dL_law_758 : decode cL_law 758 = .ok (.iload_n 3, 1) := by decide +kernel
theorem dL_law_759 : decode cL_law 759 = .ok (.iconst 2, 1) := by decide +kernel
theorem dL_law_760 : decode cL_law 760 = .ok (.iadd, 1) := by decide +kernel
theorem dL_law_761 : decode cL_law 761 = .ok (.iaload, 1) := by decide +kernel
theorem dL_law_762 : decode cL_law 762 = .ok (.aload_n 0, 1) := by decide +kernel
theorem dL_law_763 : decode cL_law 763 = .ok (.iload_n 3, 1) := by decide +kernel
theorem dL_law_764 : decode cL_law 764 = .ok (.iconst 3, 1) := by decide +kernel
theorem dL_law_765 : decode cL_law 765 = .ok (.iadd, 1) := by decide +kernel
theorem dL_law_766 : decode cL_law 766 = .ok (.iaload, 1) := by decide +kernel
theorem dL_law_767 : decode cL_law 767 = .ok (.aload_n 0, 1) := by decide +kernel
theorem dL_law_768 : decode cL_law 768 = .ok (.iload_n 3, 1) := by decide +kernel
theorem dL_law_769 : decode cL_law 769 = .ok (.iconst 4, 1) := by decide +kernel
theorem dL_law_770 : decode cL_law 770 = .ok (.iadd, 1) := by decide +kernel
theorem dL_law_771 : decode cL_law 771 = .ok (.iaload, 1) := by decide +kernel
theorem dL_law_772 : decode cL_law 772 = .ok (.aload_n 0, 1) := by decide +kernel
theorem dL_law_773 : decode cL_law 773 = .ok (.iload_n 3, 1) := by decide +kernel
theorem dL_law_774 : decode cL_law 774 = .ok (.iconst 5, 1) := by decide +kernel
theorem dL_law_775 : decode cL_law 775 = .ok (.iadd, 1) := by decide +kernel
theorem dL_law_776 : decode cL_law 776 = .ok (.iaload, 1) := by decide +kernel
theorem dL_law_777 : decode cL_law 777 = .ok (.invokevirtual 93, 3) := by decide +kernel
theorem dL_law_780 : decode cL_law 780 = .ok (.if_icmp .eq 143, 3) := by decide +kernel
theorem dL_law_783 : decode cL_law 783 = .ok (.iconst 0, 1) := by decide +kernel
theorem dL_law_784 : decode cL_law 784 = .ok (.ireturn, 1) := by decide +kernel
theorem dL_law_785 : decode cL_law 785 = .ok (.aload_n 1, 1) := by decide +kernel
theorem dL_law_786 : decode cL_law 786 = .ok (.aload_n 0, 1) := by decide +kernel
theorem dL_law_787 : decode cL_law 787 = .ok (.iload_n 3, 1) := by decide +kernel
theorem dL_law_788 : decode cL_law 788 = .ok (.iconst 1, 1) := by decide +kernel
theorem dL_law_789 : decode cL_law 789 = .ok (.iadd, 1) := by decide +kernel
theorem dL_law_790 : decode cL_law 790 = .ok (.iaload, 1) := by decide +kernel
theorem dL_law_791 : decode cL_law 791 = .ok (.i2l, 1) := by decide +kernel
theorem dL_law_792 : decode cL_law 792 = .ok (.bipush 32, 2) := by decide +kernel
theorem dL_law_794 : decode cL_law 794 = .ok (.lshl, 1) := by decide +kernel
theorem dL_law_795 : decode cL_law 795 = .ok (.aload_n 0, 1) := by decide +kernel
theorem dL_law_796 : decode cL_law 796 = .ok (.iload_n 3, 1) := by decide +kernel
theorem dL_law_797 : decode cL_law 797 = .ok (.iconst 2, 1) := by decide +kernel
theorem dL_law_798 : decode cL_law 798 = .ok (.iadd, 1) := by decide +kernel
theorem dL_law_799 : decode cL_law 799 = .ok (.iaload, 1) := by decide +kernel
theorem dL_law_800 : decode cL_law 800 = .ok (.i2l, 1) := by decide +kernel
theorem dL_law_801 : decode cL_law 801 = .ok (.ldc2_w 94, 3) := by decide +kernel
theorem dL_law_804 : decode cL_law 804 = .ok (.land, 1) := by decide +kernel
theorem dL_law_805 : decode cL_law 805 = .ok (.lor, 1) := by decide +kernel
theorem dL_law_806 : decode cL_law 806 = .ok (.invokevirtual 96, 3) := by decide +kernel
theorem dL_law_809 : decode cL_law 809 = .ok (.aload_n 2, 1) := by decide +kernel
theorem dL_law_810 : decode cL_law 810 = .ok (.aload_n 0, 1) := by decide +kernel
theorem dL_law_811 : decode cL_law 811 = .ok (.iload_n 3, 1) := by decide +kernel
theorem dL_law_812 : decode cL_law 812 = .ok (.iconst 1, 1) := by decide +kernel
theorem dL_law_813 : decode cL_law 813 = .ok (.iadd, 1) := by decide +kernel
theorem dL_law_814 : decode cL_law 814 = .ok (.iaload, 1) := by decide +kernel
theorem dL_law_815 : decode cL_law 815 = .ok (.i2l, 1) := by decide +kernel
theorem dL_law_816 : decode cL_law 816 = .ok (.bipush 32, 2) := by decide +kernel
theorem dL_law_818 : decode cL_law 818 = .ok (.lshl, 1) := by decide +kernel
theorem dL_law_819 : decode cL_law 819 = .ok (.aload_n 0, 1) := by decide +kernel
theorem dL_law_820 : decode cL_law 820 = .ok (.iload_n 3, 1) := by decide +kernel
theorem dL_law_821 : decode cL_law 821 = .ok (.iconst 2, 1) := by decide +kernel
theorem dL_law_822 : decode cL_law 822 = .ok (.iadd, 1) := by decide +kernel
theorem dL_law_823 : decode cL_law 823 = .ok (.iaload, 1) := by decide +kernel
theorem dL_law_824 : decode cL_law 824 = .ok (.i2l, 1) := by decide +kernel
theorem dL_law_825 : decode cL_law 825 = .ok (.ldc2_w 94, 3) := by decide +kernel
theorem dL_law_828 : decode cL_law 828 = .ok (.land, 1) := by decide +kernel
theorem dL_law_829 : decode cL_law 829 = .ok (.lor, 1) := by decide +kernel
theorem dL_law_830 : decode cL_law 830 = .ok (.invokevirtual 100, 3) := by decide +kernel
theorem dL_law_833 : decode cL_law 833 = .ok (.if_icmp .eq 90, 3) := by decide +kernel
theorem dL_law_836 : decode cL_law 836 = .ok (.iconst 0, 1) := by decide +kernel
theorem dL_law_837 : decode cL_law 837 = .ok (.ireturn, 1) := by decide +kernel
theorem dL_law_838 : decode cL_law 838 = .ok (.aload_n 1, 1) := by decide +kernel
theorem dL_law_839 : decode cL_law 839 = .ok (.invokevirtual 101, 3) := by decide +kernel
theorem dL_law_842 : decode cL_law 842 = .ok (.aload_n 2, 1) := by decide +kernel
theorem dL_law_843 : decode cL_law 843 = .ok (.invokevirtual 104, 3) := by decide +kernel
theorem dL_law_846 : decode cL_law 846 = .ok (.if_icmp .eq 77, 3) := by decide +kernel
theorem dL_law_849 : decode cL_law 849 = .ok (.iconst 0, 1) := by decide +kernel
theorem dL_law_850 : decode cL_law 850 = .ok (.ireturn, 1) := by decide +kernel
theorem dL_law_851 : decode cL_law 851 = .ok (.aload_n 1, 1) := by decide +kernel
theorem dL_law_852 : decode cL_law 852 = .ok (.invokevirtual 105, 3) := by decide +kernel
theorem dL_law_855 : decode cL_law 855 = .ok (.aload_n 2, 1) := by decide +kernel
theorem dL_law_856 : decode cL_law 856 = .ok (.invokevirtual 108, 3) := by decide +kernel
theorem dL_law_859 : decode cL_law 859 = .ok (.if_icmp .eq 64, 3) := by decide +kernel
theorem dL_law_862 : decode cL_law 862 = .ok (.iconst 0, 1) := by decide +kernel
theorem dL_law_863 : decode cL_law 863 = .ok (.ireturn, 1) := by decide +kernel
theorem dL_law_864 : decode cL_law 864 = .ok (.aload_n 1, 1) := by decide +kernel
theorem dL_law_865 : decode cL_law 865 = .ok (.invokevirtual 109, 3) := by decide +kernel
theorem dL_law_868 : decode cL_law 868 = .ok (.aload_n 2, 1) := by decide +kernel
theorem dL_law_869 : decode cL_law 869 = .ok (.invokevirtual 112, 3) := by decide +kernel
theorem dL_law_872 : decode cL_law 872 = .ok (.if_icmp .eq 51, 3) := by decide +kernel
theorem dL_law_875 : decode cL_law 875 = .ok (.iconst 0, 1) := by decide +kernel
theorem dL_law_876 : decode cL_law 876 = .ok (.ireturn, 1) := by decide +kernel
theorem dL_law_877 : decode cL_law 877 = .ok (.aload_n 1, 1) := by decide +kernel
theorem dL_law_878 : decode cL_law 878 = .ok (.aload_n 0, 1) := by decide +kernel
theorem dL_law_879 : decode cL_law 879 = .ok (.iload_n 3, 1) := by decide +kernel
theorem dL_law_880 : decode cL_law 880 = .ok (.iconst 1, 1) := by decide +kernel
theorem dL_law_881 : decode cL_law 881 = .ok (.iadd, 1) := by decide +kernel
theorem dL_law_882 : decode cL_law 882 = .ok (.iaload, 1) := by decide +kernel
theorem dL_law_883 : decode cL_law 883 = .ok (.invokevirtual 113, 3) := by decide +kernel
theorem dL_law_886 : decode cL_law 886 = .ok (.aload_n 2, 1) := by decide +kernel
theorem dL_law_887 : decode cL_law 887 = .ok (.aload_n 0, 1) := by decide +kernel
theorem dL_law_888 : decode cL_law 888 = .ok (.iload_n 3, 1) := by decide +kernel
theorem dL_law_889 : decode cL_law 889 = .ok (.iconst 1, 1) := by decide +kernel
theorem dL_law_890 : decode cL_law 890 = .ok (.iadd, 1) := by decide +kernel
theorem dL_law_891 : decode cL_law 891 = .ok (.iaload, 1) := by decide +kernel
theorem dL_law_892 : decode cL_law 892 = .ok (.invokevirtual 116, 3) := by decide +kernel
theorem dL_law_895 : decode cL_law 895 = .ok (.if_icmp .eq 28, 3) := by decide +kernel
theorem dL_law_898 : decode cL_law 898 = .ok (.iconst 0, 1) := by decide +kernel
theorem dL_law_899 : decode cL_law 899 = .ok (.ireturn, 1) := by decide +kernel
theorem dL_law_900 : decode cL_law 900 = .ok (.aload_n 1, 1) := by decide +kernel
theorem dL_law_901 : decode cL_law 901 = .ok (.aload_n 0, 1) := by decide +kernel
theorem dL_law_902 : decode cL_law 902 = .ok (.iload_n 3, 1) := by decide +kernel
theorem dL_law_903 : decode cL_law 903 = .ok (.iconst 1, 1) := by decide +kernel
theorem dL_law_904 : decode cL_law 904 = .ok (.iadd, 1) := by decide +kernel
theorem dL_law_905 : decode cL_law 905 = .ok (.iaload, 1) := by decide +kernel
theorem dL_law_906 : decode cL_law 906 = .ok (.invokevirtual 117, 3) := by decide +kernel
theorem dL_law_909 : decode cL_law 909 = .ok (.aload_n 2, 1) := by decide +kernel
theorem dL_law_910 : decode cL_law 910 = .ok (.aload_n 0, 1) := by decide +kernel
theorem dL_law_911 : decode cL_law 911 = .ok (.iload_n 3, 1) := by decide +kernel
theorem dL_law_912 : decode cL_law 912 = .ok (.iconst 1, 1) := by decide +kernel
theorem dL_law_913 : decode cL_law 913 = .ok (.iadd, 1) := by decide +kernel
theorem dL_law_914 : decode cL_law 914 = .ok (.iaload, 1) := by decide +kernel
theorem dL_law_915 : decode cL_law 915 = .ok (.invokevirtual 120, 3) := by decide +kernel
theorem dL_law_918 : decode cL_law 918 = .ok (.if_icmp .eq 5, 3) := by decide +kernel
theorem dL_law_921 : decode cL_law 921 = .ok (.iconst 0, 1) := by decide +kernel
theorem dL_law_922 : decode cL_law 922 = .ok (.ireturn, 1) := by decide +kernel
theorem dL_law_923 : decode cL_law 923 = .ok (.iinc 3 6, 3) := by decide +kernel
theorem dL_law_926 : decode cL_law 926 = .ok (.goto (-908), 3) := by decide +kernel
theorem dL_law_929 : decode cL_law 929 = .ok (.iconst 1, 1) := by decide +kernel
theorem dL_law_930 : decode cL_law 930 = .ok (.ireturn, 1) := by decide +kernel
end
section
/-! The base: two forms of contract (RO: reads only, MU: writes), and rows of one line an instruction or a call. -/
abbrev tys0 (cA : Nat → ClassId) : List (ClassId × FieldType) := [(cA 0, .int), (cA 1, .char), (cA 2, .boolean), (cA 3, .object "DippedWaves$Tank"), (cA 4, .array .int)]
def nestW : List Cond := [.fieldLinkNest RX4 9 RX5 "FIRST_SETTINGS" "[I" RX5, .methodLinkNest RX4 37 yX0_init RX5, .methodLinkNest RX4 44 yX3_init RX5, .methodLinkNest RX5 36 yX2_init RX5, .methodLinkNest RX4 107 yX5_bounded RX5, .methodLinkNest RX4 117 yX5_isCell RX5, .methodLinkNest RX4 121 yX5_placeOf RX5, .methodLinkNest RX2 21 yX5_isIn RX5]
/-- what stays known of the machine: the classes, the array classes, the nest mates' links -/
def EK (G : va_G) (cA : Nat → ClassId) (U : State) : Prop := va_K G vwCl (tys0 cA) U ∧ ∀ w ∈ nestW, va_Nw w U
theorem EK.warm {G : va_G} {cA : Nat → ClassId} {s U : State} (hW : s.WarmedH U.vm) (h : EK G cA s) : EK G cA U := by
  refine ⟨va_K.moved hW.alike h.1, fun w hw => ?_⟩
  have h2 := h.2 w hw
  simp only [nestW, List.mem_cons, List.not_mem_nil, or_false] at hw
  rcases hw with rfl | rfl | rfl | rfl | rfl | rfl | rfl | rfl
  · exact va_Nw.warmF hW h2
  all_goals exact va_Nw.warmM hW h2
theorem EK.calling {G : va_G} {cA : Nat → ClassId} {U : State} {g : JFrame} {mk : MethodId} {a : Array Value} (h : EK G cA U) : EK G cA (U.calling g mk a) := by
  refine ⟨va_K.moved (u := U) (U := U.calling g mk a) (Vm.Alike.refl U.vm) h.1, fun w hw => ?_⟩
  have h2 := h.2 w hw
  simp only [nestW, List.mem_cons, List.not_mem_nil, or_false] at hw
  rcases hw with rfl | rfl | rfl | rfl | rfl | rfl | rfl | rfl <;> exact va_Nw.same rfl (rfl : U.vm = (U.calling g mk a).vm) h2
def blindB (B : State → Prop) : Prop := ∀ (U : State) (g : JFrame) (mk : MethodId) (a : Array Value), B U → B (U.calling g mk a)
abbrev B0 : State → Prop := fun _ => True
theorem B0_blind : blindB B0 := fun _ _ _ _ _ => trivial
/-- a method that reads only: its world is w, its arguments av, its answer v -/
def RO (l : Launch) (y : MethodName) (wy : List Cond) (rm : Room) (G : va_G) (cA : Nat → ClassId) (B : State → Prop) (w : va_W) (av : List Value) (v : Int32) : Prop :=
  Met l y wy rm (va_Pc av (fun U => va_P G vwCl w U.heap ∧ EK G cA U ∧ B U)) (vp_Si (fun r => r = v)) 0 0 (fun _ => False)
theorem RO.mk {l : Launch} {y : MethodName} {wy ws' : List Cond} {rm : Room} {G : va_G} {cA : Nat → ClassId} {B : State → Prop} {w : va_W} {av : List Value} {v : Int32} {cc : ByteArray} {maxL : Nat} {rt : Option FieldType} {own : String} (hy : plainName y.cls = true) (hown : y.cls = own) (hw : wy = Cond.code y cc maxL rt :: ws') (hn : (lg_sl av).length ≤ maxL)
    (body : ∀ (p : Program) (e : Env) (s : State) (m : MethodId) (below : List Frame) (meth : Method) (c : Code) (ls : Array Slot), CallFix p m c cc maxL s av.toArray wy own → meth.sig.returnType = rt → meth.locks = false → va_P G vwCl w s.heap → EK G cA s → B s → lv_has ls maxL (lv_args 0 av) →
      W p l e rm s m av.toArray below meth c s.heap [] 0 0 (MQ below (vp_Si (fun r => r = v)) av.toArray s 0 0 (fun _ => False)) (F0 m 0 ls [])) : RO l y wy rm G cA B w av v := by
  refine Met.ofW (cc := cc) (maxL := maxL) (ret := rt) hy hw ?_
  intro p e s m args below meth c s₁ Bd hml hv
  obtain ⟨rfl, hP, hE, hB⟩ := hv
  have hts := atoms_spec (ws := wy) Bd.pre
  have hl := lv_entry av (n := maxL) hn
  rw [lg_entry_eq]
  generalize (lg_sl av ++ List.replicate (maxL - (lg_sl av).length) Slot.unset).toArray = ls at hl ⊢
  exact body p e s m below meth c ls ⟨Bd.exec, Bd.bytes, hml, hown ▸ findClass_of_methodNamed Bd.named, hts⟩ Bd.returns Bd.notSynchronized hP hE hB hl
/-- the world so far: held, apart, and nothing else written -/
def wld (G : va_G) (A : Nat → Prop) (ws : va_W) (H0 H : Heap) (locs : List Loc) : Prop := va_P G vwCl ws H ∧ va_D A ws ∧ va_S A H0 H locs
/-- a method that writes and makes nothing: world w before, w' after -/
def MUv (l : Launch) (y : MethodName) (wy : List Cond) (rm : Room) (G : va_G) (cA : Nat → ClassId) (B : (Nat → Prop) → State → Prop) (w : va_W) (av : List Value) (w' : va_W) : Prop := ∀ sz : Nat,
  Met l y wy rm (va_Pc av (fun U => U.heap.size = sz ∧ va_P G vwCl w U.heap ∧ va_D (fun _ => True) w ∧ EK G cA U ∧ B (va_A w sz) U)) (va_Qv (fun _ : Unit => True) (fun _ t => va_P G vwCl w' t.heap ∧ va_D (va_A w sz) w') (va_A w sz)) 0 0 (va_A w sz)
def MUi (l : Launch) (y : MethodName) (wy : List Cond) (rm : Room) (G : va_G) (cA : Nat → ClassId) (B : (Nat → Prop) → State → Prop) (w : va_W) (av : List Value) (w' : va_W) (v : Int32) : Prop := ∀ sz : Nat,
  Met l y wy rm (va_Pc av (fun U => U.heap.size = sz ∧ va_P G vwCl w U.heap ∧ va_D (fun _ => True) w ∧ EK G cA U ∧ B (va_A w sz) U)) (va_Qi (fun r (_ : Unit) => r = v) (fun _ t => va_P G vwCl w' t.heap ∧ va_D (va_A w sz) w') (va_A w sz)) 0 0 (va_A w sz)
theorem MUv.mk {l : Launch} {y : MethodName} {wy ws' : List Cond} {rm : Room} {G : va_G} {cA : Nat → ClassId} {B : (Nat → Prop) → State → Prop} {w w' : va_W} {av : List Value} {cc : ByteArray} {maxL : Nat} {rt : Option FieldType} {own : String} (hy : plainName y.cls = true) (hown : y.cls = own) (hw : wy = Cond.code y cc maxL rt :: ws') (hn : (lg_sl av).length ≤ maxL)
    (body : ∀ (p : Program) (e : Env) (s : State) (m : MethodId) (below : List Frame) (meth : Method) (c : Code) (ls : Array Slot) (A : Nat → Prop), CallFix p m c cc maxL s av.toArray wy own → meth.sig.returnType = rt → meth.locks = false → wld G A w s.heap s.heap [] → (∀ q, s.heap.size ≤ q → A q) → EK G cA s → B A s → lv_has ls maxL (lv_args 0 av) →
      W p l e rm s m av.toArray below meth c s.heap [] 0 0 (MQ below (va_Qv (fun _ : Unit => True) (fun _ t => va_P G vwCl w' t.heap ∧ va_D A w') A) av.toArray s 0 0 A) (F0 m 0 ls [])) : MUv l y wy rm G cA B w av w' := by
  intro sz
  refine Met.ofW (cc := cc) (maxL := maxL) (ret := rt) hy hw ?_
  intro p e s m args below meth c s₁ Bd hml hv
  obtain ⟨rfl, hsz, hP, hD0, hE, hB⟩ := hv
  subst hsz
  have hts := atoms_spec (ws := wy) Bd.pre
  have hl := lv_entry av (n := maxL) hn
  have hD := hD0.self (sz := s.heap.size)
  generalize hAe : va_A w s.heap.size = A at hD hB ⊢
  have hA : ∀ q : Nat, s.heap.size ≤ q → A q := fun q h => by rw [← hAe]; exact Or.inr h
  rw [lg_entry_eq]
  generalize (lg_sl av ++ List.replicate (maxL - (lg_sl av).length) Slot.unset).toArray = ls at hl ⊢
  exact body p e s m below meth c ls A ⟨Bd.exec, Bd.bytes, hml, hown ▸ findClass_of_methodNamed Bd.named, hts⟩ Bd.returns Bd.notSynchronized ⟨hP, hD, va_S.rf⟩ hA hE hB hl
theorem MUi.mk {l : Launch} {y : MethodName} {wy ws' : List Cond} {rm : Room} {G : va_G} {cA : Nat → ClassId} {B : (Nat → Prop) → State → Prop} {w w' : va_W} {av : List Value} {v : Int32} {cc : ByteArray} {maxL : Nat} {rt : Option FieldType} {own : String} (hy : plainName y.cls = true) (hown : y.cls = own) (hw : wy = Cond.code y cc maxL rt :: ws') (hn : (lg_sl av).length ≤ maxL)
    (body : ∀ (p : Program) (e : Env) (s : State) (m : MethodId) (below : List Frame) (meth : Method) (c : Code) (ls : Array Slot) (A : Nat → Prop), CallFix p m c cc maxL s av.toArray wy own → meth.sig.returnType = rt → meth.locks = false → wld G A w s.heap s.heap [] → (∀ q, s.heap.size ≤ q → A q) → EK G cA s → B A s → lv_has ls maxL (lv_args 0 av) →
      W p l e rm s m av.toArray below meth c s.heap [] 0 0 (MQ below (va_Qi (fun r (_ : Unit) => r = v) (fun _ t => va_P G vwCl w' t.heap ∧ va_D A w') A) av.toArray s 0 0 A) (F0 m 0 ls [])) : MUi l y wy rm G cA B w av w' v := by
  intro sz
  refine Met.ofW (cc := cc) (maxL := maxL) (ret := rt) hy hw ?_
  intro p e s m args below meth c s₁ Bd hml hv
  obtain ⟨rfl, hsz, hP, hD0, hE, hB⟩ := hv
  subst hsz
  have hts := atoms_spec (ws := wy) Bd.pre
  have hl := lv_entry av (n := maxL) hn
  have hD := hD0.self (sz := s.heap.size)
  generalize hAe : va_A w s.heap.size = A at hD hB ⊢
  have hA : ∀ q : Nat, s.heap.size ≤ q → A q := fun q h => by rw [← hAe]; exact Or.inr h
  rw [lg_entry_eq]
  generalize (lg_sl av ++ List.replicate (maxL - (lg_sl av).length) Slot.unset).toArray = ls at hl ⊢
  exact body p e s m below meth c ls A ⟨Bd.exec, Bd.bytes, hml, hown ▸ findClass_of_methodNamed Bd.named, hts⟩ Bd.returns Bd.notSynchronized ⟨hP, hD, va_S.rf⟩ hA hE hB hl
/-- places of a world, written over -/
def putW : va_W → List Nat → va_W → va_W
  | ws, i :: is, e :: es => putW (ws.set i e) is es
  | ws, _, _ => ws
theorem putW_key : ∀ (pl : List Nat) (w1 ws : va_W), pl.length = w1.length → ∀ (k : Nat) (q : Nat × va_E), (putW ws pl w1)[k]? = some q → (∃ j : Nat, pl[j]? = some k ∧ w1[j]? = some q) ∨ (k ∉ pl ∧ ws[k]? = some q)
  | [], w1, ws, hlen, k, q, h => Or.inr ⟨List.not_mem_nil, by cases w1 <;> exact h⟩
  | i :: is, [], ws, hlen, k, q, h => by cases hlen
  | i :: is, e :: es, ws, hlen, k, q, h => by
    rcases putW_key is es (ws.set i e) (Nat.succ.inj hlen) k q h with ⟨j, h1, h2⟩ | ⟨h1, h2⟩
    · exact Or.inl ⟨j + 1, h1, h2⟩
    · by_cases hk : k = i
      · subst hk
        have hl := (List.getElem?_eq_some_iff.mp h2).1
        rw [List.length_set] at hl
        rw [List.getElem?_set_self hl] at h2
        exact Or.inl ⟨0, rfl, h2⟩
      · rw [List.getElem?_set_ne (Ne.symm hk)] at h2
        refine Or.inr ⟨fun hm => ?_, h2⟩
        rcases List.mem_cons.mp hm with z | z
        · exact hk z
        · exact h1 z
theorem wld_join {G : va_G} {A0 : Nat → Prop} {ws wc w1 ws' : va_W} {H0 H H1 : Heap} {locs locs1 : List Loc} (hW : wld G A0 ws H0 H locs) (pl : List Nat) (hC : pl.map (fun i => ws[i]?) = wc.map some) (hlen : pl.length = w1.length) (hput : putW ws pl w1 = ws')
    (hk : ∀ q : Nat, q < H.size → ¬ va_A wc H.size q → H1[q]? = H[q]?) (hF : ∀ q, va_A wc H.size q → A0 q) (hP1 : va_P G vwCl w1 H1) (hD1 : va_D (va_A wc H.size) w1) (hS : va_S A0 H0 H1 locs1) : wld G A0 ws' H0 H1 locs1 := by
  subst hput
  obtain ⟨hP, hD, -⟩ := hW
  have apart : ∀ (k : Nat) (q : Nat × va_E), k ∉ pl → ws[k]? = some q → q.1 < H.size ∧ ¬ va_A wc H.size q.1 := by
    intro k q hkp hq
    have hl := (hP k q hq).lt
    refine ⟨hl, fun h => ?_⟩
    rcases h with ⟨k2, e, h⟩ | h
    · have h1 : (pl.map (fun i => ws[i]?))[k2]? = some (some (q.1, e)) := by rw [hC, List.getElem?_map, h]; rfl
      rw [List.getElem?_map] at h1
      cases hi : pl[k2]? with
      | none => rw [hi] at h1; cases h1
      | some i =>
        rw [hi] at h1
        have h3 : ws[i]? = some (q.1, e) := Option.some.inj h1
        have hij := hD.1 k i q (q.1, e) hq h3 rfl
        subst hij
        exact hkp (List.mem_of_getElem? hi)
    · omega
  refine ⟨fun k q hq => ?_, ⟨fun i j p q hi hj hpq => ?_, fun k q hq => ?_⟩, hS⟩
  · rcases putW_key pl w1 ws hlen k q hq with ⟨j, -, h2⟩ | ⟨h1, h2⟩
    · exact hP1 j q h2
    · obtain ⟨g1, g2⟩ := apart k q h1 h2
      exact (hP k q h2).kept (hk q.1 g1 g2)
  · rcases putW_key pl w1 ws hlen i p hi with ⟨a, a1, a2⟩ | ⟨a1, a2⟩ <;> rcases putW_key pl w1 ws hlen j q hj with ⟨b, b1, b2⟩ | ⟨b1, b2⟩
    · have hab := hD1.1 a b p q a2 b2 hpq
      subst hab
      exact Option.some.inj (a1.symm.trans b1)
    · exact absurd (hpq ▸ hD1.2 a p a2) (apart j q b1 b2).2
    · exact absurd (hpq ▸ hD1.2 b q b2) (apart i p a1 a2).2
    · exact hD.1 i j p q a2 b2 hpq
  · rcases putW_key pl w1 ws hlen k q hq with ⟨j, -, h2⟩ | ⟨h1, h2⟩
    · exact hF _ (hD1.2 j q h2)
    · exact hD.2 k q h2
/-- an array's contents, as far as it goes -/
theorem va_cell_ext {c : ClassId} {n : Nat} {f g : Nat → Int32} (h : ∀ j, j < n → f j = g j) : vp_cell c (n, .inl f) = vp_cell c (n, .inl g) := by
  rw [vp_cell_i, vp_cell_i]
  unfold arrV
  congr 1
  apply Array.ext
  · simp
  · intro i h1 h2
    simp at h1
    simp [h i h1]
theorem wld.ext {G : va_G} {A : Nat → Prop} {ws : va_W} {H0 H : Heap} {locs : List Loc} (hW : wld G A ws H0 H locs) (q0 : Nat) {a n : Nat} {c : ClassId} {f g : Nat → Int32} (ha : ws[q0]? = some (a, .inl (c, n, .inl f))) (h : ∀ j, j < n → f j = g j) {ws' : va_W} (hws : ws.set q0 (a, .inl (c, n, .inl g)) = ws') : wld G A ws' H0 H locs := by
  subst hws
  obtain ⟨hP, hD, hS⟩ := hW
  refine ⟨hP.set hD ha ?_ (fun _ _ => rfl), hD.set ha, hS⟩
  show H[a]? = some (vp_cell _ _)
  rw [← va_cell_ext h]
  exact hP q0 _ ha
section ROWS
variable {p : Program} {l : Launch} {e : Env} {R : Room} {s : State} {m : MethodId} {args : Array Value} {below : List Frame} {meth : Method} {c : Code} {H : Heap} {locs : List Loc} {cells slots : Nat} {Q : State → Prop}
variable {cc : ByteArray} {pc nL : Nat} {ls : Array Slot} {rest : List Value} {G : va_G} {cA : Nat → ClassId} {A : Nat → Prop} {a : Nat} {ws ws' : va_W} {H0 : Heap} {Ts : List Cond} {own : String}
/-- the end of a method that reads only -/
theorem ro_ret {rt : FieldType} (CX : CallFix p m c cc nL s args Ts own) (hr : meth.sig.returnType = some rt) (hlk : meth.locks = false) {r v : Int32} (hv : r = v) (hn : narrow rt (.int r) = .int r) (hdg : decode cc pc = .ok (.ireturn, 1)) : W p l e R s m args below meth c s.heap [] 0 0 (MQ below (vp_Si (fun r => r = v)) args s 0 0 (fun _ => False)) (F0 m pc ls [.int r]) :=
  W.zret CX.1 CX.2.1 hr hn (fun t ht _ => ⟨r, rfl, hv, ht⟩) (fun q h => by cases h) hdg hlk
theorem mu_retv (CX : CallFix p m c cc nL s args Ts own) (hr : meth.sig.returnType = none) (hlk : meth.locks = false) (hW : wld G A ws s.heap H locs) (hdg : decode cc pc = .ok (.return_, 1)) : W p l e R s m args below meth c H locs cells slots (MQ below (va_Qv (fun _ : Unit => True) (fun _ t => va_P G vwCl ws t.heap ∧ va_D A ws) A) args s cells slots A) (F0 m pc ls []) :=
  W.vret CX.1 CX.2.1 hr (fun t ht _ => ⟨⟨(), rfl, trivial, by rw [ht]; exact hW.1, hW.2.1⟩, hW.2.2.F ht⟩) hW.2.2.2.2 hdg hlk
theorem mu_reti {rt : FieldType} (CX : CallFix p m c cc nL s args Ts own) (hr : meth.sig.returnType = some rt) (hlk : meth.locks = false) {r v : Int32} (hv : r = v) (hn : narrow rt (.int r) = .int r) (hW : wld G A ws s.heap H locs) (hdg : decode cc pc = .ok (.ireturn, 1)) : W p l e R s m args below meth c H locs cells slots (MQ below (va_Qi (fun r (_ : Unit) => r = v) (fun _ t => va_P G vwCl ws t.heap ∧ va_D A ws) A) args s cells slots A) (F0 m pc ls [.int r]) :=
  W.zret CX.1 CX.2.1 hr hn (fun t ht _ => ⟨⟨r, (), rfl, hv, by rw [ht]; exact hW.1, hW.2.1⟩, hW.2.2.F ht⟩) hW.2.2.2.2 hdg hlk
/-- numbers that are naturals -/
theorem rn_iconst (hx : p.tables.exec = Jvm.exec) (hb : c.code = cc) (k : Nat) {z : Int} (hz : z = (k : Int)) (hdg : decode cc pc = .ok (.iconst z, 1)) (kk : W p l e R s m args below meth c H locs cells slots Q (F0 m (pc + 1) ls (.int (nI k) :: rest))) : W p l e R s m args below meth c H locs cells slots Q (F0 m pc ls rest) :=
  lv_iconst hx hb hdg (by subst hz; exact Int32.ofInt_eq_ofNat) kk
theorem rn_top {x : Int32} (y : Int32) (h : x = y) (kk : W p l e R s m args below meth c H locs cells slots Q (F0 m pc ls (.int y :: rest))) : W p l e R s m args below meth c H locs cells slots Q (F0 m pc ls (.int x :: rest)) := h ▸ kk
theorem rn_iadd (hx : p.tables.exec = Jvm.exec) (hb : c.code = cc) {i j : Nat} (hdg : decode cc pc = .ok (.iadd, 1)) (kk : W p l e R s m args below meth c H locs cells slots Q (F0 m (pc + 1) ls (.int (nI (i + j)) :: rest))) : W p l e R s m args below meth c H locs cells slots Q (F0 m pc ls (.int (nI j) :: .int (nI i) :: rest)) :=
  lv_iadd hx hb hdg (by rw [nI_add]; exact kk)
theorem rn_isub (hx : p.tables.exec = Jvm.exec) (hb : c.code = cc) {i j : Nat} (h : j ≤ i) (hdg : decode cc pc = .ok (.isub, 1)) (kk : W p l e R s m args below meth c H locs cells slots Q (F0 m (pc + 1) ls (.int (nI (i - j)) :: rest))) : W p l e R s m args below meth c H locs cells slots Q (F0 m pc ls (.int (nI j) :: .int (nI i) :: rest)) :=
  lv_isub hx hb hdg (by rw [pk_sub h]; exact kk)
theorem rn_imul (hx : p.tables.exec = Jvm.exec) (hb : c.code = cc) {i j : Nat} (hdg : decode cc pc = .ok (.imul, 1)) (kk : W p l e R s m args below meth c H locs cells slots Q (F0 m (pc + 1) ls (.int (nI (i * j)) :: rest))) : W p l e R s m args below meth c H locs cells slots Q (F0 m pc ls (.int (nI j) :: .int (nI i) :: rest)) :=
  lv_imul hx hb hdg (by rw [pk_mul]; exact kk)
theorem rn_idiv (hx : p.tables.exec = Jvm.exec) (hb : c.code = cc) {i j : Nat} (hi : i < 2147483648) (hj : 0 < j) (hj2 : j < 2147483648) (hdg : decode cc pc = .ok (.idiv, 1)) (kk : W p l e R s m args below meth c H locs cells slots Q (F0 m (pc + 1) ls (.int (nI (i / j)) :: rest))) : W p l e R s m args below meth c H locs cells slots Q (F0 m pc ls (.int (nI j) :: .int (nI i) :: rest)) :=
  lv_idiv hx hb hdg (nI_ne0 hj hj2) (by rw [pk_div hi hj hj2]; exact kk)
theorem rn_irem (hx : p.tables.exec = Jvm.exec) (hb : c.code = cc) {i j : Nat} (hi : i < 2147483648) (hj : 0 < j) (hj2 : j < 2147483648) (hdg : decode cc pc = .ok (.irem, 1)) (kk : W p l e R s m args below meth c H locs cells slots Q (F0 m (pc + 1) ls (.int (nI (i % j)) :: rest))) : W p l e R s m args below meth c H locs cells slots Q (F0 m pc ls (.int (nI j) :: .int (nI i) :: rest)) :=
  lv_irem hx hb hdg (nI_ne0 hj hj2) (by rw [pk_rem hi hj hj2]; exact kk)
theorem rn_iinc (hx : p.tables.exec = Jvm.exec) (hb : c.code = cc) {i k j n : Nat} {lv lv' : List (Nat × Value)} {z : Int} (hz : z = (n : Int)) (hdg : decode cc pc = .ok (.iinc i z, 3)) (h : lv_has ls nL lv) (hk : lv[k]? = some (i, .int (nI j))) (hn : i < nL) (hl : (i, Value.int (nI (j + n))) :: lv.filter (fun q => !(q.1 == i) && !(q.1 + 1 == i && q.2.category == 2)) = lv')
    (kk : ∀ ls' : Array Slot, lv_has ls' nL lv' → W p l e R s m args below meth c H locs cells slots Q (F0 m (pc + 3) ls' rest)) : W p l e R s m args below meth c H locs cells slots Q (F0 m pc ls rest) :=
  lv_iinc (v := nI (j + n)) hx hb hdg h hk (by rw [← nI_add]; subst hz; rw [Int32.ofInt_eq_ofNat]; rfl) hn hl kk
theorem rn_iincm (hx : p.tables.exec = Jvm.exec) (hb : c.code = cc) {i k j n : Nat} (hjn : n ≤ j) {lv lv' : List (Nat × Value)} {z : Int} (hz : z = -(n : Int)) (hdg : decode cc pc = .ok (.iinc i z, 3)) (h : lv_has ls nL lv) (hk : lv[k]? = some (i, .int (nI j))) (hn : i < nL) (hl : (i, Value.int (nI (j - n))) :: lv.filter (fun q => !(q.1 == i) && !(q.1 + 1 == i && q.2.category == 2)) = lv')
    (kk : ∀ ls' : Array Slot, lv_has ls' nL lv' → W p l e R s m args below meth c H locs cells slots Q (F0 m (pc + 3) ls' rest)) : W p l e R s m args below meth c H locs cells slots Q (F0 m pc ls rest) :=
  lv_iinc (v := nI (j - n)) hx hb hdg h hk (by rw [← pk_sub hjn]; subst hz; rw [Int32.ofInt_neg, Int32.ofInt_eq_ofNat, Int32.sub_eq_add_neg]; rfl) hn hl kk
theorem rn_icmp_ge (hx : p.tables.exec = Jvm.exec) (hb : c.code = cc) {i j : Nat} {off : Int} {tgt : Nat} (hi : i < 2147483648) (hj : j < 2147483648) (hdg : decode cc pc = .ok (.if_icmp .ge off, 3)) (ht : (pc : Int) + off = (tgt : Int)) (kt : j ≤ i → W p l e R s m args below meth c H locs cells slots Q (F0 m tgt ls rest)) (kf : i < j → W p l e R s m args below meth c H locs cells slots Q (F0 m (pc + 3) ls rest)) : W p l e R s m args below meth c H locs cells slots Q (F0 m pc ls (.int (nI j) :: .int (nI i) :: rest)) :=
  lv_icmp_ge hx hb hdg ht (fun h => kt ((nI_leI hj hi).mp h)) (fun h => kf (Nat.not_le.mp fun z => h ((nI_leI hj hi).mpr z)))
theorem rn_icmp_gt (hx : p.tables.exec = Jvm.exec) (hb : c.code = cc) {i j : Nat} {off : Int} {tgt : Nat} (hi : i < 2147483648) (hj : j < 2147483648) (hdg : decode cc pc = .ok (.if_icmp .gt off, 3)) (ht : (pc : Int) + off = (tgt : Int)) (kt : j < i → W p l e R s m args below meth c H locs cells slots Q (F0 m tgt ls rest)) (kf : i ≤ j → W p l e R s m args below meth c H locs cells slots Q (F0 m (pc + 3) ls rest)) : W p l e R s m args below meth c H locs cells slots Q (F0 m pc ls (.int (nI j) :: .int (nI i) :: rest)) :=
  lv_icmp_gt hx hb hdg ht (fun h => kt ((nI_ltI hj hi).mp h)) (fun h => kf (Nat.not_lt.mp fun z => h ((nI_ltI hj hi).mpr z)))
theorem rn_icmp_le (hx : p.tables.exec = Jvm.exec) (hb : c.code = cc) {i j : Nat} {off : Int} {tgt : Nat} (hi : i < 2147483648) (hj : j < 2147483648) (hdg : decode cc pc = .ok (.if_icmp .le off, 3)) (ht : (pc : Int) + off = (tgt : Int)) (kt : i ≤ j → W p l e R s m args below meth c H locs cells slots Q (F0 m tgt ls rest)) (kf : j < i → W p l e R s m args below meth c H locs cells slots Q (F0 m (pc + 3) ls rest)) : W p l e R s m args below meth c H locs cells slots Q (F0 m pc ls (.int (nI j) :: .int (nI i) :: rest)) :=
  lv_icmp_le hx hb hdg ht (fun h => kt ((nI_leI hi hj).mp h)) (fun h => kf (Nat.not_le.mp fun z => h ((nI_leI hi hj).mpr z)))
theorem rn_icmp_lt (hx : p.tables.exec = Jvm.exec) (hb : c.code = cc) {i j : Nat} {off : Int} {tgt : Nat} (hi : i < 2147483648) (hj : j < 2147483648) (hdg : decode cc pc = .ok (.if_icmp .lt off, 3)) (ht : (pc : Int) + off = (tgt : Int)) (kt : i < j → W p l e R s m args below meth c H locs cells slots Q (F0 m tgt ls rest)) (kf : j ≤ i → W p l e R s m args below meth c H locs cells slots Q (F0 m (pc + 3) ls rest)) : W p l e R s m args below meth c H locs cells slots Q (F0 m pc ls (.int (nI j) :: .int (nI i) :: rest)) :=
  lv_icmp_lt hx hb hdg ht (fun h => kt ((nI_ltI hi hj).mp h)) (fun h => kf (Nat.not_lt.mp fun z => h ((nI_ltI hi hj).mpr z)))
theorem rn_icmp_eq (hx : p.tables.exec = Jvm.exec) (hb : c.code = cc) {i j : Nat} {off : Int} {tgt : Nat} (hi : i < 2147483648) (hj : j < 2147483648) (hdg : decode cc pc = .ok (.if_icmp .eq off, 3)) (ht : (pc : Int) + off = (tgt : Int)) (kt : i = j → W p l e R s m args below meth c H locs cells slots Q (F0 m tgt ls rest)) (kf : i ≠ j → W p l e R s m args below meth c H locs cells slots Q (F0 m (pc + 3) ls rest)) : W p l e R s m args below meth c H locs cells slots Q (F0 m pc ls (.int (nI j) :: .int (nI i) :: rest)) :=
  lv_icmp_eq hx hb hdg ht (fun h => kt ((nI_eq hi hj).mp h)) (fun h => kf (fun z => h ((nI_eq hi hj).mpr z)))
theorem rn_icmp_ne (hx : p.tables.exec = Jvm.exec) (hb : c.code = cc) {i j : Nat} {off : Int} {tgt : Nat} (hi : i < 2147483648) (hj : j < 2147483648) (hdg : decode cc pc = .ok (.if_icmp .ne off, 3)) (ht : (pc : Int) + off = (tgt : Int)) (kt : i ≠ j → W p l e R s m args below meth c H locs cells slots Q (F0 m tgt ls rest)) (kf : i = j → W p l e R s m args below meth c H locs cells slots Q (F0 m (pc + 3) ls rest)) : W p l e R s m args below meth c H locs cells slots Q (F0 m pc ls (.int (nI j) :: .int (nI i) :: rest)) :=
  lv_icmp_ne hx hb hdg ht (fun h => kt (fun z => h ((nI_eq hi hj).mpr z))) (fun h => kf ((nI_eq hi hj).mp h))
/-- arrays, by a natural index -/
theorem rn_iald (CX : CallFix p m c cc nL s args Ts own) (hE : EK G cA s) (hP : va_P G vwCl ws H) (q0 : Nat) {n : Nat} {f : Nat → Int32} (ha : ws[q0]? = some (a, .inl (cA 0, n, .inl f))) {j : Nat} (hj : j < n) (hn : n < 2147483648) (hdg : decode cc pc = .ok (.iaload, 1)) (kk : W p l e R s m args below meth c H locs cells slots Q (F0 m (pc + 1) ls (.int (f j) :: rest))) : W p l e R s m args below meth c H locs cells slots Q (F0 m pc ls (.int (nI j) :: .ref a :: rest)) :=
  va_iald CX.1 CX.2.1 hE.1 hP q0 0 ha rfl (vp_in_nI hj hn) hdg (by rw [nI_clamp (Nat.lt_trans hj hn)]; exact kk)
theorem rn_cald (CX : CallFix p m c cc nL s args Ts own) (hE : EK G cA s) (hP : va_P G vwCl ws H) (q0 : Nat) {n : Nat} {f : Nat → Int32} (ha : ws[q0]? = some (a, .inl (cA 1, n, .inl f))) {j : Nat} (hj : j < n) (hn : n < 2147483648) (hdg : decode cc pc = .ok (.caload, 1)) (kk : W p l e R s m args below meth c H locs cells slots Q (F0 m (pc + 1) ls (.int (f j) :: rest))) : W p l e R s m args below meth c H locs cells slots Q (F0 m pc ls (.int (nI j) :: .ref a :: rest)) :=
  va_cald CX.1 CX.2.1 hE.1 hP q0 1 ha rfl (vp_in_nI hj hn) hdg (by rw [nI_clamp (Nat.lt_trans hj hn)]; exact kk)
theorem rn_zald (CX : CallFix p m c cc nL s args Ts own) (hE : EK G cA s) (hP : va_P G vwCl ws H) (q0 : Nat) {n : Nat} {f : Nat → Int32} (ha : ws[q0]? = some (a, .inl (cA 2, n, .inl f))) {j : Nat} (hj : j < n) (hn : n < 2147483648) (hdg : decode cc pc = .ok (.baload, 1)) (kk : W p l e R s m args below meth c H locs cells slots Q (F0 m (pc + 1) ls (.int (f j) :: rest))) : W p l e R s m args below meth c H locs cells slots Q (F0 m pc ls (.int (nI j) :: .ref a :: rest)) :=
  va_zald CX.1 CX.2.1 hE.1 hP q0 2 ha rfl (vp_in_nI hj hn) hdg (by rw [nI_clamp (Nat.lt_trans hj hn)]; exact kk)
theorem rn_iast (CX : CallFix p m c cc nL s args Ts own) (hE : EK G cA s) (hW : wld G A ws H0 H locs) (q0 : Nat) {n : Nat} {f : Nat → Int32} (ha : ws[q0]? = some (a, .inl (cA 0, n, .inl f))) {j : Nat} {x : Int32} (hj : j < n) (hn : n < 2147483648) (hws : ws.set q0 (a, .inl (cA 0, n, .inl (upd f j x))) = ws') (hdg : decode cc pc = .ok (.iastore, 1)) (kk : ∀ (H1 : Heap) (locs1 : List Loc), wld G A ws' H0 H1 locs1 → W p l e R s m args below meth c H1 locs1 cells slots Q (F0 m (pc + 1) ls rest)) : W p l e R s m args below meth c H locs cells slots Q (F0 m pc ls (.int x :: .int (nI j) :: .ref a :: rest)) :=
  va_iast CX.1 CX.2.1 hE.1 hW.1 hW.2.1 hW.2.2 q0 0 ha rfl (vp_in_nI hj hn) hdg (by rw [nI_clamp (Nat.lt_trans hj hn), hws]; exact fun H1 l1 h1 h2 h3 => kk H1 l1 ⟨h1, h2, h3⟩)
theorem rn_cast (CX : CallFix p m c cc nL s args Ts own) (hE : EK G cA s) (hW : wld G A ws H0 H locs) (q0 : Nat) {n : Nat} {f : Nat → Int32} (ha : ws[q0]? = some (a, .inl (cA 1, n, .inl f))) {j : Nat} {x : Int32} (hj : j < n) (hn : n < 2147483648) (hws : ws.set q0 (a, .inl (cA 1, n, .inl (upd f j (vp_nar .char x)))) = ws') (hdg : decode cc pc = .ok (.castore, 1)) (kk : ∀ (H1 : Heap) (locs1 : List Loc), wld G A ws' H0 H1 locs1 → W p l e R s m args below meth c H1 locs1 cells slots Q (F0 m (pc + 1) ls rest)) : W p l e R s m args below meth c H locs cells slots Q (F0 m pc ls (.int x :: .int (nI j) :: .ref a :: rest)) :=
  va_cast CX.1 CX.2.1 hE.1 hW.1 hW.2.1 hW.2.2 q0 1 ha rfl (vp_in_nI hj hn) hdg (by rw [nI_clamp (Nat.lt_trans hj hn), hws]; exact fun H1 l1 h1 h2 h3 => kk H1 l1 ⟨h1, h2, h3⟩)
theorem rn_zast (CX : CallFix p m c cc nL s args Ts own) (hE : EK G cA s) (hW : wld G A ws H0 H locs) (q0 : Nat) {n : Nat} {f : Nat → Int32} (ha : ws[q0]? = some (a, .inl (cA 2, n, .inl f))) {j : Nat} {x : Int32} (hj : j < n) (hn : n < 2147483648) (hws : ws.set q0 (a, .inl (cA 2, n, .inl (upd f j (vp_nar .boolean x)))) = ws') (hdg : decode cc pc = .ok (.bastore, 1)) (kk : ∀ (H1 : Heap) (locs1 : List Loc), wld G A ws' H0 H1 locs1 → W p l e R s m args below meth c H1 locs1 cells slots Q (F0 m (pc + 1) ls rest)) : W p l e R s m args below meth c H locs cells slots Q (F0 m pc ls (.int x :: .int (nI j) :: .ref a :: rest)) :=
  va_zast CX.1 CX.2.1 hE.1 hW.1 hW.2.1 hW.2.2 q0 2 ha rfl (vp_in_nI hj hn) hdg (by rw [nI_clamp (Nat.lt_trans hj hn), hws]; exact fun H1 l1 h1 h2 h3 => kk H1 l1 ⟨h1, h2, h3⟩)
/-- fields -/
theorem rg {C : String} {T : u_T} {N ci : Nat} (CX : CallFix p m c cc nL s args Ts own) (hE : EK G cA s) (hP : va_P G vwCl ws H) (hin : ∀ w ∈ u_ws C T N, w ∈ Ts) (q0 : Nat) {fs : List Value} (he : ws[q0]? = some (a, .inr (ci, fs))) (hc : vwCl[ci]? = some (C, T, N)) (k : Nat) (hk : k < N) {index : Nat} (hlink : Cond.fieldLink own index C (T k).2.1 (T k).2.2.1 ∈ Ts) (hTk : (T k).1 = C) {v : Value} (hv : fs[k]? = some v) (hdg : decode cc pc = .ok (.getfield index, 3))
    (kk : W p l e R s m args below meth c H locs cells slots Q (F0 m (pc + 3) ls (v :: rest))) : W p l e R s m args below meth c H locs cells slots Q (F0 m pc ls (.ref a :: rest)) :=
  va_get CX.1 CX.2.1 CX.2.2.2.2 hin CX.2.2.2.1 hE.1 hP q0 he hc k hk (CX.2.2.2.2 _ hlink) (fun x h => by rw [hTk] at h; exact h) hv hdg kk
theorem rp {C : String} {T : u_T} {N ci : Nat} (CX : CallFix p m c cc nL s args Ts own) (hE : EK G cA s) (hW : wld G A ws H0 H locs) (hin : ∀ w ∈ u_ws C T N, w ∈ Ts) (ty0 : Nat → FieldType) (hty : ∀ k, k < N → parseFieldDescriptor (T k).2.2.1 = some (ty0 k)) (hnm : ∀ a, a < N → ∀ b, b < N → a ≠ b → (T a).2.1 ≠ (T b).2.1) (q0 : Nat) {fs : List Value} (he : ws[q0]? = some (a, .inr (ci, fs))) (hc : vwCl[ci]? = some (C, T, N)) (k : Nat) (hk : k < N) {index : Nat} (hlink : Cond.fieldLink own index C (T k).2.1 (T k).2.2.1 ∈ Ts) (hTk : (T k).1 = C) (hfin : (T k).2.2.2 = false) {v : Value} (hn : narrow (ty0 k) v = v) (hfit : fits (ty0 k) v = true) (hl : k < fs.length) (hws : ws.set q0 (a, .inr (ci, fs.set k v)) = ws')
    (hdg : decode cc pc = .ok (.putfield index, 3)) (kk : ∀ (H1 : Heap) (locs1 : List Loc), wld G A ws' H0 H1 locs1 → W p l e R s m args below meth c H1 locs1 cells slots Q (F0 m (pc + 3) ls rest)) : W p l e R s m args below meth c H locs cells slots Q (F0 m pc ls (v :: .ref a :: rest)) :=
  va_put CX.1 CX.2.1 CX.2.2.2.2 hin ty0 hty hnm CX.2.2.2.1 hE.1 hW.1 hW.2.1 hW.2.2 q0 he hc k hk (CX.2.2.2.2 _ hlink) (fun x h => by rw [hTk] at h; exact h) hfin (hty k hk) hn hfit hl hdg (by rw [hws]; exact fun H1 l1 h1 h2 h3 => kk H1 l1 ⟨h1, h2, h3⟩)
/-- calls of methods that read only -/
theorem roV {B : State → Prop} {y : MethodName} {bytes : ByteArray} {maxL n index : Nat} {ret : Option FieldType} {wy : List Cond} {rm : Room} {C : String} {b : Nat} {As rest st0 : List Value} {wc : va_W} {v : Int32} (CX : CallFix p m c cc nL s args Ts own) (hE : EK G cA s) (hP : va_P G vwCl ws H) (hM : RO l y wy rm G cA B wc (.ref b :: As) v) (cw : CallW R s args own C index y bytes maxL ret wy rm 0 0 n) (pl : List Nat) (hC : pl.filterMap (fun i => ws[i]?) = wc) (q0 : Nat) {ci : Nat} {fs : List Value} (he : ws[q0]? = some (b, .inr (ci, fs))) {qc : vw_C} (hc : vwCl[ci]? = some qc) (hqc : qc.1 = C) (hBb : blindB B) (hB : ∀ U : State, U.heap = H → s.WarmedH U.vm → B U) (hn : As.length = n) (hls : ls.size = nL) (hst : st0 = As.reverse ++ .ref b :: rest) (hroom : (rest.map fun v => v.category).sum ≤ 8) (hdg : decode cc pc = .ok (.invokevirtual index, 3)) (hcs : cells ≤ R.cells ∧ slots ≤ R.slots)
    (kk : W p l e R s m args below meth c H locs cells slots Q (F0 m (pc + 3) ls (.int v :: rest))) : W p l e R s m args below meth c H locs cells slots Q (F0 m pc ls st0) :=
  vp_callSi (va_runV CX hM cw ⟨fun _ U g mk q => ⟨q.1, q.2.1, q.2.2.1.calling, hBb U g mk _ q.2.2.2⟩, hqc ▸ va_recv hE.1 hP hc he, fun U hU hW => ⟨rfl, by rw [hU]; exact hP.sub pl hC, hE.warm hW, hB U hU hW⟩⟩ rfl hn hls hst (lv_room (ls := ls) hroom) hdg hcs).run (fun r hr => hr ▸ kk)
theorem roS {B : State → Prop} {y : MethodName} {bytes : ByteArray} {maxL n index : Nat} {ret : Option FieldType} {wy : List Cond} {rm : Room} {As rest st0 : List Value} {wc : va_W} {v : Int32} (CX : CallFix p m c cc nL s args Ts own) (hE : EK G cA s) (hP : va_P G vwCl ws H) (hM : RO l y wy rm G cA B wc As v) (cw : CallB R s args own index y bytes maxL ret wy rm 0 0 n ∧ (Cond.static y).before args s = true) (pl : List Nat) (hC : pl.filterMap (fun i => ws[i]?) = wc) (hBb : blindB B) (hB : ∀ U : State, U.heap = H → s.WarmedH U.vm → B U) (hn : As.length = n) (hls : ls.size = nL) (hst : st0 = As.reverse ++ rest) (hroom : (rest.map fun v => v.category).sum ≤ 8) (hdg : decode cc pc = .ok (.invokestatic index, 3)) (hcs : cells ≤ R.cells ∧ slots ≤ R.slots)
    (kk : W p l e R s m args below meth c H locs cells slots Q (F0 m (pc + 3) ls (.int v :: rest))) : W p l e R s m args below meth c H locs cells slots Q (F0 m pc ls st0) :=
  vp_callSi (va_runS CX hM cw ⟨fun _ U g mk q => ⟨q.1, q.2.1, q.2.2.1.calling, hBb U g mk _ q.2.2.2⟩, fun U hU hW => ⟨rfl, by rw [hU]; exact hP.sub pl hC, hE.warm hW, hB U hU hW⟩⟩ rfl hn hls hst (lv_room (ls := ls) hroom) hdg hcs).run (fun r hr => hr ▸ kk)
theorem roSN {B : State → Prop} {y : MethodName} {bytes : ByteArray} {maxL n index : Nat} {ret : Option FieldType} {wy : List Cond} {rm : Room} {host : String} {As rest st0 : List Value} {wc : va_W} {v : Int32} (CX : CallFix p m c cc nL s args Ts own) (hE : EK G cA s) (hP : va_P G vwCl ws H) (hM : RO l y wy rm G cA B wc As v) (cw : va_CN R s args own index y host bytes maxL ret wy rm 0 0 n ∧ (Cond.static y).before args s = true ∧ True) (pl : List Nat) (hC : pl.filterMap (fun i => ws[i]?) = wc) (hBb : blindB B) (hB : ∀ U : State, U.heap = H → s.WarmedH U.vm → B U) (hn : As.length = n) (hls : ls.size = nL) (hst : st0 = As.reverse ++ rest) (hroom : (rest.map fun v => v.category).sum ≤ 8) (hdg : decode cc pc = .ok (.invokestatic index, 3)) (hcs : cells ≤ R.cells ∧ slots ≤ R.slots)
    (kk : W p l e R s m args below meth c H locs cells slots Q (F0 m (pc + 3) ls (.int v :: rest))) : W p l e R s m args below meth c H locs cells slots Q (F0 m pc ls st0) :=
  vp_callSi (va_runSN CX hM cw ⟨fun _ U g mk q => ⟨q.1, q.2.1, q.2.2.1.calling, hBb U g mk _ q.2.2.2⟩, fun U hU hW => ⟨rfl, by rw [hU]; exact hP.sub pl hC, hE.warm hW, hB U hU hW⟩⟩ rfl hn hls hst (lv_room (ls := ls) hroom) hdg hcs).run (fun r hr => hr ▸ kk)
/-- calls of methods that write -/
theorem wld_free {wc : va_W} (hW : wld G A ws H0 H locs) (hA : ∀ q, H0.size ≤ q → A q) (pl : List Nat) (hC : pl.map (fun i => ws[i]?) = wc.map some) : ∀ q, va_A wc H.size q → A q := va_free hW.2.1 hW.2.2 hA pl hC
theorem wld_sub {wc : va_W} (hW : wld G A ws H0 H locs) (pl : List Nat) (hn : va_nd pl = true) (hC : pl.map (fun i => ws[i]?) = wc.map some) : va_P G vwCl wc H ∧ va_D A wc := by
  refine ⟨fun k q hq => ?_, hW.2.1.sub pl hn hC⟩
  have h1 : (pl.map (fun i => ws[i]?))[k]? = some (some q) := by rw [hC, List.getElem?_map, hq]; rfl
  rw [List.getElem?_map] at h1
  cases hi : pl[k]? with
  | none => rw [hi] at h1; cases h1
  | some i => rw [hi] at h1; exact hW.1 i q (Option.some.inj h1)
theorem muv {wc w1 : va_W} {ar : Array Value} {st0 : List Value} (hW : wld G A ws H0 H locs) (hA : ∀ q, H0.size ≤ q → A q) (pl : List Nat) (hC : pl.map (fun i => ws[i]?) = wc.map some) (hlen : pl.length = w1.length) (hput : putW ws pl w1 = ws')
    (hr : va_Run p l e R s m args below meth c H locs cells slots 0 0 (F0 m pc ls st0) rest (va_Qv (fun _ : Unit => True) (fun _ t => va_P G vwCl w1 t.heap ∧ va_D (va_A wc H.size) w1) (va_A wc H.size) ar) (va_A wc H.size))
    (kk : ∀ (H1 : Heap) (locs1 : List Loc), wld G A ws' H0 H1 locs1 → W p l e R s m args below meth c H1 locs1 cells slots Q (F0 m (pc + 3) ls rest)) : W p l e R s m args below meth c H locs cells slots Q (F0 m pc ls st0) := by
  have hF := wld_free hW hA pl hC
  refine va_callv hr hW.2.2 (fun q _ h => hF q h) hF (fun u t H1 locs1 ht hvm hw hB hz1 hk1 hS => ?_)
  obtain ⟨hP1, hD1⟩ := hB
  rw [ht] at hP1
  exact kk H1 locs1 (wld_join hW pl hC hlen hput hk1 hF hP1 hD1 hS)
theorem mui {wc w1 : va_W} {ar : Array Value} {st0 : List Value} {v : Int32} (hW : wld G A ws H0 H locs) (hA : ∀ q, H0.size ≤ q → A q) (pl : List Nat) (hC : pl.map (fun i => ws[i]?) = wc.map some) (hlen : pl.length = w1.length) (hput : putW ws pl w1 = ws')
    (hr : va_Run p l e R s m args below meth c H locs cells slots 0 0 (F0 m pc ls st0) rest (va_Qi (fun r (_ : Unit) => r = v) (fun _ t => va_P G vwCl w1 t.heap ∧ va_D (va_A wc H.size) w1) (va_A wc H.size) ar) (va_A wc H.size))
    (kk : ∀ (H1 : Heap) (locs1 : List Loc), wld G A ws' H0 H1 locs1 → W p l e R s m args below meth c H1 locs1 cells slots Q (F0 m (pc + 3) ls (.int v :: rest))) : W p l e R s m args below meth c H locs cells slots Q (F0 m pc ls st0) := by
  have hF := wld_free hW hA pl hC
  refine va_calli hr hW.2.2 (fun q _ h => hF q h) hF (fun r u t H1 locs1 ht hvm hw hB hz1 hk1 hS => ?_)
  obtain ⟨hP1, hD1⟩ := hB
  rw [ht] at hP1
  subst hw
  exact kk H1 locs1 (wld_join hW pl hC hlen hput hk1 hF hP1 hD1 hS)
def blindM (B : (Nat → Prop) → State → Prop) : Prop := ∀ A' : Nat → Prop, blindB (B A')
abbrev BM0 : (Nat → Prop) → State → Prop := fun _ _ => True
theorem BM0_blind : blindM BM0 := fun _ _ _ _ _ _ => trivial
theorem muvV {B : (Nat → Prop) → State → Prop} {y : MethodName} {bytes : ByteArray} {maxL n index : Nat} {ret : Option FieldType} {wy : List Cond} {rm : Room} {C : String} {b : Nat} {As rest st0 : List Value} {wc w1 : va_W} (CX : CallFix p m c cc nL s args Ts own) (hE : EK G cA s) (hW : wld G A ws H0 H locs) (hA : ∀ q, H0.size ≤ q → A q) (hM : MUv l y wy rm G cA B wc (.ref b :: As) w1) (cw : CallW R s args own C index y bytes maxL ret wy rm 0 0 n) (pl : List Nat) (hnd : va_nd pl = true) (hC : pl.map (fun i => ws[i]?) = wc.map some) (hlen : pl.length = w1.length) (hput : putW ws pl w1 = ws') (q0 : Nat) {ci : Nat} {fs : List Value} (he : ws[q0]? = some (b, .inr (ci, fs))) {qc : vw_C} (hc : vwCl[ci]? = some qc) (hqc : qc.1 = C) (hBb : blindM B) (hB : ∀ U : State, U.heap = H → s.WarmedH U.vm → (∀ q, va_A wc H.size q → A q) → B (va_A wc H.size) U) (hn : As.length = n) (hls : ls.size = nL) (hst : st0 = As.reverse ++ .ref b :: rest) (hroom : (rest.map fun v => v.category).sum ≤ 8) (hdg : decode cc pc = .ok (.invokevirtual index, 3)) (hcs : cells ≤ R.cells ∧ slots ≤ R.slots)
    (kk : ∀ (H1 : Heap) (locs1 : List Loc), wld G A ws' H0 H1 locs1 → W p l e R s m args below meth c H1 locs1 cells slots Q (F0 m (pc + 3) ls rest)) : W p l e R s m args below meth c H locs cells slots Q (F0 m pc ls st0) :=
  muv hW hA pl hC hlen hput (va_runV CX (hM H.size) cw ⟨fun _ U g mk q => ⟨q.1, q.2.1, q.2.2.1, q.2.2.2.1, q.2.2.2.2.1.calling, hBb _ U g mk _ q.2.2.2.2.2⟩, hqc ▸ va_recv hE.1 hW.1 hc he, fun U hU hWm => ⟨rfl, by rw [hU], by rw [hU]; exact (wld_sub hW pl hnd hC).1, (wld_sub hW pl hnd hC).2.weaken (fun _ _ _ _ => trivial), hE.warm hWm, hB U hU hWm (wld_free hW hA pl hC)⟩⟩ rfl hn hls hst (lv_room (ls := ls) hroom) hdg hcs) kk
theorem muiV {B : (Nat → Prop) → State → Prop} {y : MethodName} {bytes : ByteArray} {maxL n index : Nat} {ret : Option FieldType} {wy : List Cond} {rm : Room} {C : String} {b : Nat} {As rest st0 : List Value} {wc w1 : va_W} {v : Int32} (CX : CallFix p m c cc nL s args Ts own) (hE : EK G cA s) (hW : wld G A ws H0 H locs) (hA : ∀ q, H0.size ≤ q → A q) (hM : MUi l y wy rm G cA B wc (.ref b :: As) w1 v) (cw : CallW R s args own C index y bytes maxL ret wy rm 0 0 n) (pl : List Nat) (hnd : va_nd pl = true) (hC : pl.map (fun i => ws[i]?) = wc.map some) (hlen : pl.length = w1.length) (hput : putW ws pl w1 = ws') (q0 : Nat) {ci : Nat} {fs : List Value} (he : ws[q0]? = some (b, .inr (ci, fs))) {qc : vw_C} (hc : vwCl[ci]? = some qc) (hqc : qc.1 = C) (hBb : blindM B) (hB : ∀ U : State, U.heap = H → s.WarmedH U.vm → (∀ q, va_A wc H.size q → A q) → B (va_A wc H.size) U) (hn : As.length = n) (hls : ls.size = nL) (hst : st0 = As.reverse ++ .ref b :: rest) (hroom : (rest.map fun v => v.category).sum ≤ 8) (hdg : decode cc pc = .ok (.invokevirtual index, 3)) (hcs : cells ≤ R.cells ∧ slots ≤ R.slots)
    (kk : ∀ (H1 : Heap) (locs1 : List Loc), wld G A ws' H0 H1 locs1 → W p l e R s m args below meth c H1 locs1 cells slots Q (F0 m (pc + 3) ls (.int v :: rest))) : W p l e R s m args below meth c H locs cells slots Q (F0 m pc ls st0) :=
  mui hW hA pl hC hlen hput (va_runV CX (hM H.size) cw ⟨fun _ U g mk q => ⟨q.1, q.2.1, q.2.2.1, q.2.2.2.1, q.2.2.2.2.1.calling, hBb _ U g mk _ q.2.2.2.2.2⟩, hqc ▸ va_recv hE.1 hW.1 hc he, fun U hU hWm => ⟨rfl, by rw [hU], by rw [hU]; exact (wld_sub hW pl hnd hC).1, (wld_sub hW pl hnd hC).2.weaken (fun _ _ _ _ => trivial), hE.warm hWm, hB U hU hWm (wld_free hW hA pl hC)⟩⟩ rfl hn hls hst (lv_room (ls := ls) hroom) hdg hcs) kk
theorem muvS {B : (Nat → Prop) → State → Prop} {y : MethodName} {bytes : ByteArray} {maxL n index : Nat} {ret : Option FieldType} {wy : List Cond} {rm : Room} {As rest st0 : List Value} {wc w1 : va_W} (CX : CallFix p m c cc nL s args Ts own) (hE : EK G cA s) (hW : wld G A ws H0 H locs) (hA : ∀ q, H0.size ≤ q → A q) (hM : MUv l y wy rm G cA B wc As w1) (cw : CallB R s args own index y bytes maxL ret wy rm 0 0 n ∧ (Cond.static y).before args s = true) (pl : List Nat) (hnd : va_nd pl = true) (hC : pl.map (fun i => ws[i]?) = wc.map some) (hlen : pl.length = w1.length) (hput : putW ws pl w1 = ws') (hBb : blindM B) (hB : ∀ U : State, U.heap = H → s.WarmedH U.vm → (∀ q, va_A wc H.size q → A q) → B (va_A wc H.size) U) (hn : As.length = n) (hls : ls.size = nL) (hst : st0 = As.reverse ++ rest) (hroom : (rest.map fun v => v.category).sum ≤ 8) (hdg : decode cc pc = .ok (.invokestatic index, 3)) (hcs : cells ≤ R.cells ∧ slots ≤ R.slots)
    (kk : ∀ (H1 : Heap) (locs1 : List Loc), wld G A ws' H0 H1 locs1 → W p l e R s m args below meth c H1 locs1 cells slots Q (F0 m (pc + 3) ls rest)) : W p l e R s m args below meth c H locs cells slots Q (F0 m pc ls st0) :=
  muv hW hA pl hC hlen hput (va_runS CX (hM H.size) cw ⟨fun _ U g mk q => ⟨q.1, q.2.1, q.2.2.1, q.2.2.2.1, q.2.2.2.2.1.calling, hBb _ U g mk _ q.2.2.2.2.2⟩, fun U hU hWm => ⟨rfl, by rw [hU], by rw [hU]; exact (wld_sub hW pl hnd hC).1, (wld_sub hW pl hnd hC).2.weaken (fun _ _ _ _ => trivial), hE.warm hWm, hB U hU hWm (wld_free hW hA pl hC)⟩⟩ rfl hn hls hst (lv_room (ls := ls) hroom) hdg hcs) kk
end ROWS
end
section
/-! Words for the numbers, and the rows that speak of them. -/
theorem ltb {a b : Nat} (h : Nat.ble (a + 1) b = true) : a < b := Nat.le_of_ble_eq_true h
def iabs (x : Int32) : Int32 := if 0 ≤ x then x else 0 - x
def imax (x y : Int32) : Int32 := if x < y then y else x
def imin (x y : Int32) : Int32 := if y < x then y else x
def b2i (P : Prop) [Decidable P] : Int32 := if P then nI 1 else nI 0
theorem b2i_t {P : Prop} [Decidable P] (h : P) : nI 1 = b2i P := (if_pos h).symm
theorem b2i_f {P : Prop} [Decidable P] (h : ¬ P) : nI 0 = b2i P := (if_neg h).symm
theorem b2i_1 {P : Prop} [Decidable P] (h : P) : b2i P = nI 1 := if_pos h
theorem b2i_0 {P : Prop} [Decidable P] (h : ¬ P) : b2i P = nI 0 := if_neg h
theorem b2i_nar {P : Prop} [Decidable P] : narrow .boolean (.int (b2i P)) = .int (b2i P) := by
  unfold b2i; split <;> rfl
def sumI : Nat → (Nat → Int32) → Int32
  | 0, _ => nI 0
  | n + 1, f => sumI n f + f n
theorem sumI_congr {n : Nat} {f g : Nat → Int32} (h : ∀ j, j < n → f j = g j) : sumI n f = sumI n g := by
  induction n with
  | zero => rfl
  | succ n ih => simp only [sumI]; rw [ih (fun j hj => h j (Nat.lt_succ_of_lt hj)), h n (Nat.lt_succ_self n)]
abbrev ncl (x : Int32) : Nat := x.toNatClampNeg
abbrev inP (x a b : Int32) : Prop := a ≤ x ∧ x ≤ b
abbrev cellP (x y : Int32) : Prop := inP x (nI 0) (nI 9) ∧ inP y (nI 0) (nI 5)
theorem inP_nat {x : Int32} {n : Nat} (hn : n < 2147483648) (h : inP x (nI 0) (nI n)) : ∃ k, k ≤ n ∧ x = nI k := by
  have h0 : ¬ x < 0 := Int32.not_lt.mpr h.1
  obtain ⟨j, hj, rfl⟩ := nI_of h0
  exact ⟨j, (nI_leI hj hn).mp h.2, rfl⟩
theorem inP_nat1 {x : Int32} {m n : Nat} (hn : n < 2147483648) (h : inP x (nI m) (nI n)) (hm : m < 2147483648) : ∃ k, m ≤ k ∧ k ≤ n ∧ x = nI k := by
  have h0 : nI 0 ≤ x := Int32.le_trans (nI_le (Nat.zero_le m) hm) h.1
  obtain ⟨k, hk, rfl⟩ := inP_nat hn ⟨h0, h.2⟩
  exact ⟨k, (nI_leI hm (by omega)).mp h.1, hk, rfl⟩
theorem cellP_nat {x y : Int32} (h : cellP x y) : ∃ i j, i < 10 ∧ j < 6 ∧ x = nI i ∧ y = nI j := by
  obtain ⟨i, hi, rfl⟩ := inP_nat (by decide) h.1
  obtain ⟨j, hj, rfl⟩ := inP_nat (by decide) h.2
  exact ⟨i, j, by omega, by omega, rfl, rfl⟩
theorem cellP_of {i j : Nat} (hi : i < 10) (hj : j < 6) : cellP (nI i) (nI j) :=
  ⟨⟨nI_le (by omega) (by omega), nI_le (by omega) (by omega)⟩, ⟨nI_le (by omega) (by omega), nI_le (by omega) (by omega)⟩⟩
theorem tsw_cases (x : Int32) (a b : Int) : (x.toInt < a ∨ b < x.toInt) ∨ (¬ x.toInt < a ∧ ¬ b < x.toInt) := by omega
theorem tsw_split (x : Int32) (a : Int) (n : Nat) (h1 : ¬ x.toInt < a) (h2 : x.toInt < a + n) : ∃ k, k < n ∧ (x.toInt - a).toNat = k := ⟨_, by omega, rfl⟩
section ROWSB
variable {p : Program} {l : Launch} {e : Env} {R : Room} {s : State} {m : MethodId} {args : Array Value} {below : List Frame} {meth : Method} {c : Code} {H : Heap} {locs : List Loc} {cells slots : Nat} {Q : State → Prop}
variable {cc : ByteArray} {pc nL : Nat} {ls : Array Slot} {rest : List Value} {G : va_G} {cA : Nat → ClassId} {A : Nat → Prop} {a : Nat} {ws ws' : va_W} {H0 : Heap} {Ts : List Cond} {own : String}
theorem rb_if_eq {P : Prop} [Decidable P] (hx : p.tables.exec = Jvm.exec) (hb : c.code = cc) {off : Int} {tgt : Nat} (hdg : decode cc pc = .ok (.ifCond .eq off, 3)) (ht : (pc : Int) + off = (tgt : Int)) (kt : ¬ P → W p l e R s m args below meth c H locs cells slots Q (F0 m tgt ls rest)) (kf : P → W p l e R s m args below meth c H locs cells slots Q (F0 m (pc + 3) ls rest)) : W p l e R s m args below meth c H locs cells slots Q (F0 m pc ls (.int (b2i P) :: rest)) :=
  lv_if_eq hx hb hdg ht (fun h => kt (fun z => by rw [b2i_1 z] at h; exact absurd h (by decide +kernel))) (fun h => kf (Decidable.not_not.mp fun z => h (by rw [b2i_0 z]; rfl)))
theorem rb_if_ne {P : Prop} [Decidable P] (hx : p.tables.exec = Jvm.exec) (hb : c.code = cc) {off : Int} {tgt : Nat} (hdg : decode cc pc = .ok (.ifCond .ne off, 3)) (ht : (pc : Int) + off = (tgt : Int)) (kt : P → W p l e R s m args below meth c H locs cells slots Q (F0 m tgt ls rest)) (kf : ¬ P → W p l e R s m args below meth c H locs cells slots Q (F0 m (pc + 3) ls rest)) : W p l e R s m args below meth c H locs cells slots Q (F0 m pc ls (.int (b2i P) :: rest)) :=
  lv_if_ne hx hb hdg ht (fun h => kt (Decidable.not_not.mp fun z => h (by rw [b2i_0 z]; rfl))) (fun h => kf (fun z => by rw [b2i_1 z] at h; exact absurd h (by decide +kernel)))
theorem rn_if_eq (hx : p.tables.exec = Jvm.exec) (hb : c.code = cc) {i : Nat} {off : Int} {tgt : Nat} (hi : i < 2147483648) (hdg : decode cc pc = .ok (.ifCond .eq off, 3)) (ht : (pc : Int) + off = (tgt : Int)) (kt : i = 0 → W p l e R s m args below meth c H locs cells slots Q (F0 m tgt ls rest)) (kf : i ≠ 0 → W p l e R s m args below meth c H locs cells slots Q (F0 m (pc + 3) ls rest)) : W p l e R s m args below meth c H locs cells slots Q (F0 m pc ls (.int (nI i) :: rest)) :=
  lv_if_eq hx hb hdg ht (fun h => kt ((nI_eq hi (by decide)).mp h)) (fun h => kf (fun z => h ((nI_eq hi (by decide)).mpr z)))
theorem rn_if_ne (hx : p.tables.exec = Jvm.exec) (hb : c.code = cc) {i : Nat} {off : Int} {tgt : Nat} (hi : i < 2147483648) (hdg : decode cc pc = .ok (.ifCond .ne off, 3)) (ht : (pc : Int) + off = (tgt : Int)) (kt : i ≠ 0 → W p l e R s m args below meth c H locs cells slots Q (F0 m tgt ls rest)) (kf : i = 0 → W p l e R s m args below meth c H locs cells slots Q (F0 m (pc + 3) ls rest)) : W p l e R s m args below meth c H locs cells slots Q (F0 m pc ls (.int (nI i) :: rest)) :=
  lv_if_ne hx hb hdg ht (fun h => kt (fun z => h ((nI_eq hi (by decide)).mpr z))) (fun h => kf ((nI_eq hi (by decide)).mp h))
theorem rn_if_le (hx : p.tables.exec = Jvm.exec) (hb : c.code = cc) {i : Nat} {off : Int} {tgt : Nat} (hi : i < 2147483648) (hdg : decode cc pc = .ok (.ifCond .le off, 3)) (ht : (pc : Int) + off = (tgt : Int)) (kt : i = 0 → W p l e R s m args below meth c H locs cells slots Q (F0 m tgt ls rest)) (kf : 0 < i → W p l e R s m args below meth c H locs cells slots Q (F0 m (pc + 3) ls rest)) : W p l e R s m args below meth c H locs cells slots Q (F0 m pc ls (.int (nI i) :: rest)) :=
  lv_if_le hx hb hdg ht (fun h => kt (Nat.le_zero.mp ((nI_leI hi (by decide)).mp h))) (fun h => kf (Nat.pos_of_ne_zero fun z => h (by rw [z]; exact Int32.le_refl _)))
theorem rn_if_lt (hx : p.tables.exec = Jvm.exec) (hb : c.code = cc) {i : Nat} {off : Int} {tgt : Nat} (hi : i < 2147483648) (hdg : decode cc pc = .ok (.ifCond .lt off, 3)) (ht : (pc : Int) + off = (tgt : Int)) (kt : False → W p l e R s m args below meth c H locs cells slots Q (F0 m tgt ls rest)) (kf : True → W p l e R s m args below meth c H locs cells slots Q (F0 m (pc + 3) ls rest)) : W p l e R s m args below meth c H locs cells slots Q (F0 m pc ls (.int (nI i) :: rest)) :=
  lv_if_lt hx hb hdg ht (fun h => kt (nI_pos hi h)) (fun _ => kf trivial)
theorem rn_copyF (CX : CallFix p m c cc nL s args Ts own) (hE : EK G cA s) (hW : wld G A ws H0 H locs) (hls : ls.size = nL) {index : Nat} (hlink : (Cond.methodLink own index arraycopyName).before args s = true) (hnat : (Cond.native arraycopyName).before args s = true) (hstat : (Cond.static arraycopyName).before args s = true) (hini : (Cond.initialized "java/lang/System").before args s = true)
    (q0 q1 : Nat) {a0 n : Nat} {f g : Nat → Int32} (ha0 : ws[q0]? = some (a0, .inl (cA 0, n, .inl f))) (ha1 : ws[q1]? = some (a, .inl (cA 0, n, .inl g))) (hframes : 1 ≤ R.frames) (hlocals : (rest.map fun v => v.category).sum + (nativeFrameWords "java/lang/System" "arraycopy" 5 + 11) ≤ R.locals) (hn : n < 2147483648) (hws : ws.set q1 (a, .inl (cA 0, n, .inl f)) = ws') (hdg : decode cc pc = .ok (.invokestatic index, 3))
    (kk : ∀ (H1 : Heap) (locs1 : List Loc), wld G A ws' H0 H1 locs1 → W p l e R s m args below meth c H1 locs1 cells slots Q (F0 m (pc + 3) ls rest)) : W p l e R s m args below meth c H locs cells slots Q (F0 m pc ls (.int (nI n) :: .int (nI 0) :: .ref a :: .int (nI 0) :: .ref a0 :: rest)) := by
  have e0 : (nI 0).toNatClampNeg = 0 := rfl
  refine va_copyi CX.1 CX.2.1 (by rw [CX.2.2.1]; exact hls.symm) CX.2.2.2.1 hlink hnat hstat hini hE.1 hW.1 hW.2.1 hW.2.2 q0 q1 0 0 ha0 ha1 rfl rfl rfl (nI_pos (by decide)) (nI_pos (by decide)) (nI_pos hn) (by rw [nI_clamp hn, e0]; omega) (by rw [nI_clamp hn, e0]; omega) (fun _ _ => rfl) hframes hlocals hdg (fun H1 l1 h1 h2 h3 => ?_)
  rw [nI_clamp hn, e0] at h1 h2
  have hl : q1 < ws.length := (List.getElem?_eq_some_iff.mp ha1).1
  have h9 : wld G A (ws.set q1 (a, .inl (cA 0, n, .inl (va_cpy f g 0 0 n)))) H0 H1 l1 := ⟨h1, h2, h3⟩
  exact kk H1 l1 (h9.ext q1 (g := f) (List.getElem?_set_self hl) (fun j hj => by rw [pk_cpy_in (Nat.zero_le _) (by omega)]; simp) (by rw [List.set_set, hws]))
theorem rn_copy (CX : CallFix p m c cc nL s args Ts own) (hE : EK G cA s) (hW : wld G A ws H0 H locs) (hls : ls.size = nL) {index : Nat} (hlink : (Cond.methodLink own index arraycopyName).before args s = true) (hnat : (Cond.native arraycopyName).before args s = true) (hstat : (Cond.static arraycopyName).before args s = true) (hini : (Cond.initialized "java/lang/System").before args s = true)
    (q0 q1 : Nat) {a0 n0 n1 : Nat} {f g : Nat → Int32} (ha0 : ws[q0]? = some (a0, .inl (cA 0, n0, .inl f))) (ha1 : ws[q1]? = some (a, .inl (cA 0, n1, .inl g))) {sp dp n : Nat} (h0 : sp + n ≤ n0) (h1 : dp + n ≤ n1) (h2 : sp < 2147483648 ∧ dp < 2147483648 ∧ n < 2147483648) (hframes : 1 ≤ R.frames) (hlocals : (rest.map fun v => v.category).sum + (nativeFrameWords "java/lang/System" "arraycopy" 5 + 11) ≤ R.locals) (hws : ws.set q1 (a, .inl (cA 0, n1, .inl (va_cpy f g sp dp n))) = ws') (hdg : decode cc pc = .ok (.invokestatic index, 3))
    (kk : ∀ (H1 : Heap) (locs1 : List Loc), wld G A ws' H0 H1 locs1 → W p l e R s m args below meth c H1 locs1 cells slots Q (F0 m (pc + 3) ls rest)) : W p l e R s m args below meth c H locs cells slots Q (F0 m pc ls (.int (nI n) :: .int (nI dp) :: .ref a :: .int (nI sp) :: .ref a0 :: rest)) := by
  refine va_copyi CX.1 CX.2.1 (by rw [CX.2.2.1]; exact hls.symm) CX.2.2.2.1 hlink hnat hstat hini hE.1 hW.1 hW.2.1 hW.2.2 q0 q1 0 0 ha0 ha1 rfl rfl rfl (nI_pos h2.1) (nI_pos h2.2.1) (nI_pos h2.2.2) (by rw [nI_clamp h2.1, nI_clamp h2.2.2]; exact h0) (by rw [nI_clamp h2.2.1, nI_clamp h2.2.2]; exact h1) (fun _ _ => rfl) hframes hlocals hdg (fun H1 l1 z1 z2 z3 => ?_)
  rw [nI_clamp h2.1, nI_clamp h2.2.1, nI_clamp h2.2.2, hws] at z1 z2
  exact kk H1 l1 ⟨z1, z2, z3⟩
theorem rn_aald3 (CX : CallFix p m c cc nL s args Ts own) (hE : EK G cA s) (hP : va_P G vwCl ws H) (q0 : Nat) {n : Nat} {f : Nat → Option Nat} (ha : ws[q0]? = some (a, .inl (cA 3, n, .inr (.inr (.inr (.inr f)))))) {j : Nat} (hj : j < n) (hn : n < 2147483648) {r : Nat} (hr : f j = some r) (hdg : decode cc pc = .ok (.aaload, 1)) (kk : W p l e R s m args below meth c H locs cells slots Q (F0 m (pc + 1) ls (.ref r :: rest))) : W p l e R s m args below meth c H locs cells slots Q (F0 m pc ls (.int (nI j) :: .ref a :: rest)) :=
  va_aldq CX.1 CX.2.1 hE.1 hP q0 3 ha rfl (vp_in_nI hj hn) hdg (by rw [nI_clamp (Nat.lt_trans hj hn), hr]; exact kk)
theorem rn_aald4 (CX : CallFix p m c cc nL s args Ts own) (hE : EK G cA s) (hP : va_P G vwCl ws H) (q0 : Nat) {n : Nat} {f : Nat → Option Nat} (ha : ws[q0]? = some (a, .inl (cA 4, n, .inr (.inr (.inr (.inr f)))))) {j : Nat} (hj : j < n) (hn : n < 2147483648) {r : Nat} (hr : f j = some r) (hdg : decode cc pc = .ok (.aaload, 1)) (kk : W p l e R s m args below meth c H locs cells slots Q (F0 m (pc + 1) ls (.ref r :: rest))) : W p l e R s m args below meth c H locs cells slots Q (F0 m pc ls (.int (nI j) :: .ref a :: rest)) := by
  have hin : vp_in (nI j) n := vp_in_nI hj hn
  have hcl : (nI j).toNatClampNeg = j := nI_clamp (Nat.lt_trans hj hn)
  refine W.aald (v := va_rf (f j)) (ty := .array .int) CX.1 CX.2.1 (hP q0 _ ha) ((hE.1.2 4 _ rfl).1 n (fun j => va_rf (f j))) rfl (fun q => by cases q) (by show ¬ (nI j < 0 ∨ (arrV _ _ _).slots.size ≤ _); rw [arrV_size]; exact hin) (by show (arrV _ _ _).slots[_]? = _; rw [hcl, arrV_read _ _ hj]) rfl rfl hdg ?_
  rw [hr]
  exact kk
end ROWSB
end
section
/-! What the tank's methods compute, as functions of what its rows hold. -/
theorem add0 (x : Int32) : x + nI 0 = x := Int32.add_zero x
theorem nI_m1 (k : Nat) : nI (k + 1) - nI 1 = nI k := pk_sub (Nat.le_add_left 1 k)
def boundF (v : Int32) : Int32 := imax (-9999) (imin (nI 9999) v)
def riseF (fl h : Nat → Int32) (i j : Nat) : Int32 := if fl j = nI 2 then nI 0 else h j - h i
def heightAtF (h : Nat → Int32) (x y : Int32) : Int32 := if cellP x y then h (ncl y * 10 + ncl x) else nI 0
theorem heightAtF_in {h : Nat → Int32} {i j : Nat} (hi : i < 10) (hj : j < 6) : heightAtF h (nI i) (nI j) = h (j * 10 + i) := by
  unfold heightAtF ncl
  rw [if_pos (cellP_of hi hj), nI_clamp (by omega), nI_clamp (by omega)]
def slopeF (fl h : Nat → Int32) (i : Nat) : Int32 := if fl i = nI 2 then nI 0 else
  (((if 0 < i % 10 then riseF fl h i (i - 1) else nI 0) + (if i % 10 < 9 then riseF fl h i (i + 1) else nI 0)) + (if 0 < i / 10 then riseF fl h i (i - 10) else nI 0)) + (if i / 10 < 5 then riseF fl h i (i + 10) else nI 0)
def nextH0 (st fl h ah : Nat → Int32) (i : Nat) : Int32 := nI 2 * h i - ah i + slopeF fl h i * (if fl i = nI 0 then st 1 else st 2) / nI 16
def nextH1 (st fl h ah : Nat → Int32) (i : Nat) : Int32 := nextH0 st fl h ah i - nextH0 st fl h ah i * st 0 / nI 1000
def nextF (st fl h ah : Nat → Int32) (i : Nat) : Int32 := boundF (if fl i = nI 3 then nextH1 st fl h ah i / nI 2 else nextH1 st fl h ah i)
abbrev stillP (st h ah : Nat → Int32) (i : Nat) : Prop := iabs (h i) ≤ st 3 ∧ iabs (ah i) ≤ st 3
abbrev crestP (h : Nat → Int32) (x y : Nat) : Prop := 0 < heightAtF h (nI x) (nI y) ∧ heightAtF h (nI x - nI 1) (nI y) < heightAtF h (nI x) (nI y) ∧ heightAtF h (nI (x + 1)) (nI y) < heightAtF h (nI x) (nI y)
def openF (fl : Nat → Int32) : Int32 := sumI 60 (fun j => if fl j = nI 2 then nI 0 else nI 1)
def reachF (fi : Nat → Int32) : Int32 := sumI 60 (fun j => if fi j = -6 then nI 0 else nI 1)
def restF (st fl h ah : Nat → Int32) : Int32 := sumI 60 (fun j => if fl j = nI 2 then nI 0 else if stillP st h ah j then nI 0 else nI 1)
def loudF (h : Nat → Int32) : Int32 := sumI 60 (fun j => iabs (h j))
def ldF (h : Nat → Int32) : Nat → Nat
  | 0 => 0
  | n + 1 => if iabs (h (ldF h n)) < iabs (h n) then n else ldF h n
theorem ldF_1 {h : Nat → Int32} : ldF h 1 = 0 := by
  show (if iabs (h 0) < iabs (h 0) then 0 else 0) = 0
  split <;> rfl
def remI (x y : Int32) : Int32 := x - x / y * y
abbrev upP (dp : Nat → Nat) (dh : Nat → Int32) (t d : Nat) : Prop := 0 < dp d ∧ nI (dp d / 2) ≤ remI (nI t + dh d) (nI (dp d))
def lastF (dc : Nat → Nat) (c : Nat) : Nat → Int32
  | 0 => -6
  | n + 1 => if dc n = c then nI n else lastF dc c n
/-! The reference's side, on its one row z. -/
def shf (k : Nat) (z : Nat → Int32) : Nat → Int32 := fun j => z (k + j)
theorem size_neg {v : Int32} (h : ¬ 0 ≤ v) : -v = iabs v := by
  unfold iabs; rw [if_neg h]; exact (Int32.zero_sub v).symm
theorem i_lt_of {a b : Int32} (h : a.toInt < b.toInt) : a < b := Int32.lt_iff_toInt_lt.mpr h
theorem kept_lo {v : Int32} (h : ¬ -9999 ≤ v) : (-9999 : Int32) = boundF v := by
  have h1 : v < -9999 := Int32.not_le.mp h
  have h2 : v < nI 9999 := Int32.lt_trans h1 (by decide +kernel)
  unfold boundF imin imax
  rw [if_pos h2, if_neg (fun z => Int32.lt_irrefl (Int32.lt_trans z h1))]
theorem kept_mid {v : Int32} (h : -9999 ≤ v) (h2 : v ≤ nI 9999) : v = boundF v := by
  unfold boundF imin imax
  by_cases q : v < nI 9999
  · rw [if_pos q]
    split
    · rfl
    · rename_i r
      exact Int32.le_antisymm (Int32.not_lt.mp r) h
  · have e : v = nI 9999 := Int32.le_antisymm h2 (Int32.not_lt.mp q)
    rw [if_neg q, if_pos (by decide +kernel), e]
theorem kept_hi {v : Int32} (h2 : ¬ v ≤ nI 9999) : nI 9999 = boundF v := by
  unfold boundF imin imax
  rw [if_neg (fun z => h2 (Int32.le_of_lt z)), if_pos (by decide +kernel)]
def leastF (s : Int32) : Int32 := if s = nI 1 ∨ s = nI 2 then nI 1 else nI 0
def mostF (s : Int32) : Int32 := if s = nI 1 ∨ s = nI 2 then nI 8 else nI 500
def grF (h : Nat → Int32) : Nat → Int32
  | 0 => nI 0
  | n + 1 => if grF h n < iabs (h n) then iabs (h n) else grF h n
def stillsF (z : Nat → Int32) : Int32 := sumI 60 (fun j => if ¬ shf 5 z j = nI 2 ∧ stillP z (shf 65 z) (shf 125 z) j then nI 1 else nI 0)
def fromF (fl h : Nat → Int32) (c : Nat) (x y : Int32) : Int32 := if cellP x y ∧ ¬ fl (ncl y * 10 + ncl x) = nI 2 then h (ncl y * 10 + ncl x) - h c else nI 0
theorem fromF_in {fl h : Nat → Int32} {c i j : Nat} (hi : i < 10) (hj : j < 6) (hw : ¬ fl (j * 10 + i) = nI 2) : h (j * 10 + i) - h c = fromF fl h c (nI i) (nI j) := by
  unfold fromF ncl
  rw [nI_clamp (by omega), nI_clamp (by omega), if_pos ⟨cellP_of hi hj, hw⟩]
theorem fromF_wall {fl h : Nat → Int32} {c i j : Nat} (hi : i < 10) (hj : j < 6) (hw : fl (j * 10 + i) = nI 2) : nI 0 = fromF fl h c (nI i) (nI j) := by
  unfold fromF ncl
  rw [nI_clamp (by omega), nI_clamp (by omega), if_neg (fun z => z.2 hw)]
theorem fromF_out {fl h : Nat → Int32} {c : Nat} {x y : Int32} (hw : ¬ cellP x y) : nI 0 = fromF fl h c x y := by
  unfold fromF
  rw [if_neg (fun z => hw z.1)]
theorem nI_neg1 {i : Nat} (hi : i = 0) : ¬ nI 0 ≤ nI i - nI 1 := by subst hi; decide +kernel
theorem from_side {fl h : Nat → Int32} {c i j : Nat} (hi : i < 10) (hj : j < 6) : fromF fl h c (nI i) (nI j) = riseF fl h c (j * 10 + i) := by
  unfold riseF
  split
  · rename_i q; exact (fromF_wall hi hj q).symm
  · rename_i q; exact (fromF_in hi hj q).symm
theorem slopeM_eq {fl h : Nat → Int32} {c : Nat} (hc : c < 60) (hw : ¬ fl c = nI 2) : fromF fl h c (nI (c % 10) - nI 1) (nI (c / 10)) + fromF fl h c (nI (c % 10 + 1)) (nI (c / 10)) + fromF fl h c (nI (c % 10)) (nI (c / 10) - nI 1) + fromF fl h c (nI (c % 10)) (nI (c / 10 + 1)) = slopeF fl h c := by
  unfold slopeF
  rw [if_neg hw]
  have e1 : fromF fl h c (nI (c % 10) - nI 1) (nI (c / 10)) = if 0 < c % 10 then riseF fl h c (c - 1) else nI 0 := by
    split
    · rename_i q
      rw [pk_sub (by omega), from_side (by omega) (by omega), show c / 10 * 10 + (c % 10 - 1) = c - 1 by omega]
    · rename_i q
      exact (fromF_out (fun z => nI_neg1 (by omega) z.1.1)).symm
  have e2 : fromF fl h c (nI (c % 10 + 1)) (nI (c / 10)) = if c % 10 < 9 then riseF fl h c (c + 1) else nI 0 := by
    split
    · rename_i q
      rw [from_side (by omega) (by omega), show c / 10 * 10 + (c % 10 + 1) = c + 1 by omega]
    · rename_i q
      exact (fromF_out (fun z => absurd z.1.2 (nI_ge (by omega) (by omega)))).symm
  have e3 : fromF fl h c (nI (c % 10)) (nI (c / 10) - nI 1) = if 0 < c / 10 then riseF fl h c (c - 10) else nI 0 := by
    split
    · rename_i q
      rw [pk_sub (by omega), from_side (by omega) (by omega), show (c / 10 - 1) * 10 + c % 10 = c - 10 by omega]
    · rename_i q
      exact (fromF_out (fun z => nI_neg1 (by omega) z.2.1)).symm
  have e4 : fromF fl h c (nI (c % 10)) (nI (c / 10 + 1)) = if c / 10 < 5 then riseF fl h c (c + 10) else nI 0 := by
    split
    · rename_i q
      rw [from_side (by omega) (by omega), show (c / 10 + 1) * 10 + c % 10 = c + 10 by omega]
    · rename_i q
      exact (fromF_out (fun z => absurd z.2.2 (nI_ge (by omega) (by omega)))).symm
  rw [e1, e2, e3, e4]
abbrev upM (z : Nat → Int32) (d : Nat) : Prop := z (246 + 4 * d + 1) / nI 2 ≤ remI (z 4 + z (246 + 4 * d + 3)) (z (246 + 4 * d + 1))
def dinF (z : Nat → Int32) (c : Nat) : Nat → Int32
  | 0 => -6
  | n + 1 => if z (246 + 4 * n) = nI c then nI n else dinF z c n
theorem dinF_some {z : Nat → Int32} {c : Nat} : ∀ {n : Nat}, ¬ dinF z c n = -6 → ∃ d, d < n ∧ dinF z c n = nI d ∧ z (246 + 4 * d) = nI c
  | 0, h => absurd rfl h
  | n + 1, h => by
    unfold dinF at h ⊢
    by_cases q : z (246 + 4 * n) = nI c
    · exact ⟨n, Nat.lt_succ_self n, by rw [if_pos q], q⟩
    · rw [if_neg q] at h ⊢
      obtain ⟨d, h1, h2, h3⟩ := dinF_some h
      exact ⟨d, Nat.lt_succ_of_lt h1, h2, h3⟩
end
section
/-! What a tank is in the heap: T.1 its rows of ints (0 settings, 1 floors, 2 heights, 3 ahead, 4 firsts, 5 sizes, 6 shifts, 7..9 what probes saw), T.2 its naturals (0 dippers' cells, 1 periods, 2 probes' cells, 3 lengths, 4: tick, dippers, probes). -/
abbrev TV : Type := (Nat → Nat → Int32) × (Nat → Nat → Nat)
def row3 (x y z : Nat) : Nat → Option Nat := fun k => match k with
  | 0 => some x
  | 1 => some y
  | _ => some z
def tkW (cA : Nat → ClassId) (a : Nat → Nat) (T : TV) : va_W :=
  [(a 0, .inr (4, [.ref (a 1), .ref (a 2), .ref (a 3), .ref (a 4), .ref (a 5), .ref (a 6), .ref (a 11), .int (nI (T.2 4 0))])),
   (a 1, .inl (cA 0, 4, .inl (T.1 0))), (a 2, .inl (cA 0, 60, .inl (T.1 1))), (a 3, .inl (cA 0, 60, .inl (T.1 2))), (a 4, .inl (cA 0, 60, .inl (T.1 3))), (a 5, .inl (cA 0, 60, .inl (T.1 4))),
   (a 6, .inr (0, [.ref (a 7), .ref (a 8), .ref (a 9), .ref (a 10), .int (nI (T.2 4 1))])),
   (a 7, .inl (cA 0, 5, .inl (fun k => nI (T.2 0 k)))), (a 8, .inl (cA 0, 5, .inl (fun k => nI (T.2 1 k)))), (a 9, .inl (cA 0, 5, .inl (T.1 5))), (a 10, .inl (cA 0, 5, .inl (T.1 6))),
   (a 11, .inr (3, [.ref (a 12), .ref (a 13), .ref (a 14), .int (nI (T.2 4 2))])),
   (a 12, .inl (cA 0, 3, .inl (fun k => nI (T.2 2 k)))), (a 13, .inl (cA 0, 3, .inl (fun k => nI (T.2 3 k)))), (a 14, .inl (cA 4, 3, .inr (.inr (.inr (.inr (row3 (a 15) (a 16) (a 17))))))),
   (a 15, .inl (cA 0, 24, .inl (T.1 7))), (a 16, .inl (cA 0, 24, .inl (T.1 8))), (a 17, .inl (cA 0, 24, .inl (T.1 9)))]
theorem updN_eq {g : Nat → Nat} {i x j : Nat} : upd (fun k => nI (g k)) i (nI x) j = nI (va_up g i x j) := by
  unfold upd va_up
  split <;> rfl
theorem wld.sub {G : va_G} {A : Nat → Prop} {ws wc : va_W} {H0 H : Heap} {locs : List Loc} (hW : wld G A ws H0 H locs) (pl : List Nat) (hn : va_nd pl = true) (hC : pl.map (fun i => ws[i]?) = wc.map some) : wld G A wc H0 H locs :=
  ⟨(wld_sub hW pl hn hC).1, (wld_sub hW pl hn hC).2, hW.2.2⟩
theorem fill_next {g f : Nat → Int32} {v : Int32} {i n : Nat} (h : ∀ j, j < n → g j = if j < i then v else f j) : ∀ j, j < n → upd g i v j = if j < i + 1 then v else f j := by
  intro j hj
  unfold upd
  by_cases q : j = i
  · rw [if_pos q, if_pos (by omega)]
  · rw [if_neg q, h j hj]
    by_cases r : j < i
    · rw [if_pos r, if_pos (by omega)]
    · rw [if_neg r, if_neg (by omega)]
def rmF {α : Type} (f : Nat → α) (d i : Nat) : Nat → α := fun j => if d ≤ j ∧ j + 1 < i then f (j + 1) else f j
theorem rmF_0 {α : Type} {f : Nat → α} {d : Nat} : f = rmF f d (d + 1) := by
  funext j
  unfold rmF
  rw [if_neg (by omega)]
theorem rmF_next {α : Type} {f g : Nat → α} {d i : Nat} (h : g = rmF f d i) (hi : d + 1 ≤ i) : va_up g (i - 1) (g i) = rmF f d (i + 1) := by
  subst h
  funext j
  have e : rmF f d i i = f i := if_neg (by omega)
  unfold va_up
  rw [e]
  unfold rmF
  by_cases q : j = i - 1
  · rw [if_pos q, if_pos (by omega), show j + 1 = i by omega]
  · rw [if_neg q]
    by_cases r : d ≤ j ∧ j + 1 < i
    · rw [if_pos r, if_pos (by omega)]
    · rw [if_neg r, if_neg (by omega)]
theorem rmF_nextI {f g : Nat → Int32} {d i : Nat} (h : g = rmF f d i) (hi : d + 1 ≤ i) : upd g (i - 1) (g i) = rmF f d (i + 1) := rmF_next h hi
def beatF (dc dp : Nat → Nat) (ds dh : Nat → Int32) (t : Nat) (h : Nat → Int32) : Nat → Nat → Int32
  | 0 => h
  | n + 1 => upd (beatF dc dp ds dh t h n) (dc n) (if upP dp dh t n then ds n else -ds n)
def kfF (st h fi : Nat → Int32) (tk : Nat) : Nat → Int32 := fun j => if fi j = -6 ∧ st 3 < iabs (h j) then nI tk else fi j
theorem kf_keep {st h fi g : Nat → Int32} {tk i : Nat} (hg : ∀ j, g j = if j < i then kfF st h fi tk j else fi j) (hc : ¬ (fi i = -6 ∧ st 3 < iabs (h i))) : ∀ j, g j = if j < i + 1 then kfF st h fi tk j else fi j := by
  intro j
  rw [hg j]
  by_cases q : j < i
  · rw [if_pos q, if_pos (by omega)]
  · rw [if_neg q]
    by_cases r : j = i
    · subst r; rw [if_pos (by omega)]; unfold kfF; rw [if_neg hc]
    · rw [if_neg (by omega)]
theorem kf_put {st h fi g : Nat → Int32} {tk i : Nat} (hg : ∀ j, g j = if j < i then kfF st h fi tk j else fi j) (hc : fi i = -6 ∧ st 3 < iabs (h i)) : ∀ j, upd g i (nI tk) j = if j < i + 1 then kfF st h fi tk j else fi j := by
  intro j
  unfold upd
  by_cases r : j = i
  · subst r; rw [if_pos rfl, if_pos (by omega)]; unfold kfF; rw [if_pos hc]
  · rw [if_neg r, hg j]
    by_cases q : j < i
    · rw [if_pos q, if_pos (by omega)]
    · rw [if_neg q, if_neg (by omega)]
def swp (a : Nat → Nat) : Nat → Nat := fun k => if k = 3 then a 4 else if k = 4 then a 3 else a k
def nxF (st fl h ah : Nat → Int32) : Nat → Int32 := fun j => if fl j = nI 2 then nI 0 else nextF st fl h ah j
theorem nextF_congr {st fl h ah g : Nat → Int32} {i : Nat} (e : g i = ah i) : nextF st fl h g i = nextF st fl h ah i := by
  unfold nextF nextH1 nextH0; rw [e]
theorem nx_next {st fl h ah g : Nat → Int32} {i : Nat} (hg : ∀ j, g j = if j < i then nxF st fl h ah j else ah j) : ∀ j, upd g i (if fl i = nI 2 then nI 0 else nextF st fl h g i) j = if j < i + 1 then nxF st fl h ah j else ah j := by
  intro j
  have e : g i = ah i := by rw [hg i, if_neg (Nat.lt_irrefl i)]
  rw [nextF_congr e]
  unfold upd
  by_cases r : j = i
  · subst r; rw [if_pos (show j = j from rfl), if_pos (show j < j + 1 by omega)]; rfl
  · rw [if_neg r, hg j]
    by_cases q : j < i
    · rw [if_pos q, if_pos (by omega)]
    · rw [if_neg q, if_neg (by omega)]
def lookR (r : Nat → Int32) (x : Int32) : Nat → Int32 := fun k => if k = 0 then x else if k < 24 then r (k - 1) else r k
theorem look_eq {r : Nat → Int32} {x : Int32} : upd (va_cpy r r 0 1 23) 0 x = lookR r x := by
  funext k
  unfold upd lookR va_cpy
  by_cases h : k = 0
  · rw [if_pos h, if_pos h]
  · rw [if_neg h, if_neg h]
    by_cases q : k < 24
    · rw [if_pos q, if_pos (by omega)]; congr 1; omega
    · rw [if_neg q, if_neg (by omega)]
def lookL (pl : Nat → Nat) (n : Nat) : Nat → Nat := fun p => if p < n then min (pl p + 1) 24 else pl p
theorem lookL_0 {pl : Nat → Nat} : pl = lookL pl 0 := by funext p; unfold lookL; rw [if_neg (Nat.not_lt_zero _)]
theorem lookL_next {pl g : Nat → Nat} {i : Nat} (h : g = lookL pl i) : va_up g i (min (g i + 1) 24) = lookL pl (i + 1) := by
  subst h
  funext p
  have e : lookL pl i i = pl i := if_neg (Nat.lt_irrefl i)
  unfold va_up
  rw [e]
  unfold lookL
  by_cases q : p = i
  · subst q; rw [if_pos rfl, if_pos (by omega)]
  · rw [if_neg q]
    by_cases r : p < i
    · rw [if_pos r, if_pos (by omega)]
    · rw [if_neg r, if_neg (by omega)]
def lookRow (n q : Nat) (r : Nat → Int32) (x : Int32) : Nat → Int32 := if q < n then lookR r x else r
theorem imin_nat {a b : Nat} (ha : a < 2147483648) (hb : b < 2147483648) : imin (nI a) (nI b) = nI (min a b) := by
  unfold imin
  by_cases h : b < a
  · rw [if_pos (nI_lt h ha), Nat.min_eq_right (by omega)]
  · rw [if_neg (nI_nlt (by omega) hb), Nat.min_eq_left (by omega)]
def diffF (r : Nat → Int32) (lag : Nat) : Int32 := sumI 12 (fun k => iabs (r k - r (k + lag)))
def mxF (r : Nat → Int32) : Nat → Int32
  | 0 => r 0
  | n + 1 => if n = 0 then r 0 else imax (mxF r n) (r n)
theorem mxF_next {r : Nat → Int32} {n : Nat} (h : 1 ≤ n) : imax (mxF r n) (r n) = mxF r (n + 1) := by
  rw [mxF, if_neg (by omega)]
def btF (r : Nat → Int32) : Nat → Nat × Int32
  | 0 => (2, diffF r 2)
  | n + 1 => if diffF r (n + 3) < (btF r n).2 then (n + 3, diffF r (n + 3)) else btF r n
theorem btF_keep {r : Nat → Int32} {L : Nat} (h : 3 ≤ L) (hc : (btF r (L - 3)).2 ≤ diffF r L) : btF r (L - 3) = btF r (L + 1 - 3) := by
  obtain ⟨k, rfl⟩ : ∃ k, L = k + 3 := ⟨L - 3, by omega⟩
  rw [show k + 3 + 1 - 3 = k + 1 by omega, show k + 3 - 3 = k by omega] at *
  rw [btF, if_neg (Int32.not_lt.mpr hc)]
theorem btF_take {r : Nat → Int32} {L : Nat} (h : 3 ≤ L) (hc : diffF r L < (btF r (L - 3)).2) : (L, diffF r L) = btF r (L + 1 - 3) := by
  obtain ⟨k, rfl⟩ : ∃ k, L = k + 3 := ⟨L - 3, by omega⟩
  rw [show k + 3 + 1 - 3 = k + 1 by omega, show k + 3 - 3 = k by omega] at *
  rw [btF, if_pos hc]
def stepH (T : TV) : Nat → Int32 := beatF (T.2 0) (T.2 1) (T.1 5) (T.1 6) (T.2 4 0) (nxF (T.1 0) (T.1 1) (T.1 2) (T.1 3)) (T.2 4 1)
def stepT (T : TV) : TV := (fun k => if k = 2 then stepH T else if k = 3 then T.1 2 else if k = 4 then kfF (T.1 0) (stepH T) (T.1 4) (T.2 4 0) else if k = 7 then lookRow (T.2 4 2) 0 (T.1 7) (stepH T (T.2 2 0)) else if k = 8 then lookRow (T.2 4 2) 1 (T.1 8) (stepH T (T.2 2 1)) else if k = 9 then lookRow (T.2 4 2) 2 (T.1 9) (stepH T (T.2 2 2)) else T.1 k,
  fun k => if k = 3 then lookL (T.2 3) (T.2 4 2) else if k = 4 then (fun j => if j = 0 then T.2 4 0 + 1 else T.2 4 j) else T.2 k)
def okT (T : TV) : Prop := (T.2 4 1 ≤ 5 ∧ ∀ k, k < T.2 4 1 → T.2 0 k < 60 ∧ T.2 1 k ≤ 40) ∧ T.2 4 2 ≤ 3 ∧ ∀ p, p < T.2 4 2 → T.2 2 p < 60 ∧ T.2 3 p ≤ 24
theorem okT.step {T : TV} (h : okT T) : okT (stepT T) := by
  refine ⟨h.1, h.2.1, fun p hp => ⟨(h.2.2 p hp).1, ?_⟩⟩
  show lookL (T.2 3) (T.2 4 2) p ≤ 24
  unfold lookL
  have hp' : p < T.2 4 2 := hp
  rw [if_pos hp']
  omega
def runA (a : Nat → Nat) (n : Nat) : Nat → Nat := fun k => if k = 3 then (if n % 2 = 0 then a 3 else a 4) else if k = 4 then (if n % 2 = 0 then a 4 else a 3) else a k
theorem runA_0 {a : Nat → Nat} : a = runA a 0 := by
  funext k
  unfold runA
  by_cases h3 : k = 3
  · subst h3; rfl
  · rw [if_neg h3]
    by_cases h4 : k = 4
    · subst h4; rfl
    · rw [if_neg h4]
theorem runA_next {a : Nat → Nat} {n : Nat} : swp (runA a n) = runA a (n + 1) := by
  funext k
  unfold swp
  by_cases h3 : k = 3
  · subst h3
    show (if n % 2 = 0 then a 4 else a 3) = (if (n + 1) % 2 = 0 then a 3 else a 4)
    by_cases q : n % 2 = 0
    · rw [if_pos q, if_neg (by omega)]
    · rw [if_neg q, if_pos (by omega)]
  · rw [if_neg h3]
    by_cases h4 : k = 4
    · subst h4
      show (if n % 2 = 0 then a 3 else a 4) = (if (n + 1) % 2 = 0 then a 4 else a 3)
      by_cases q : n % 2 = 0
      · rw [if_pos q, if_neg (by omega)]
      · rw [if_neg q, if_pos (by omega)]
    · rw [if_neg h4]
      unfold runA
      rw [if_neg h3, if_neg h4, if_neg h3, if_neg h4]
def runT (T : TV) : Nat → TV
  | 0 => T
  | n + 1 => stepT (runT T n)
theorem okT.run {T : TV} (h : okT T) : ∀ n, okT (runT T n)
  | 0 => h
  | n + 1 => (okT.run h n).step
/-! The history's rows. -/
theorem va_cell_extq {c : ClassId} {n : Nat} {f g : Nat → Option Nat} (h : ∀ j, j < n → f j = g j) : vp_cell c (n, .inr (.inr (.inr (.inr f)))) = vp_cell c (n, .inr (.inr (.inr (.inr g)))) := by
  rw [vp_cell_q, vp_cell_q]
  unfold arrV
  congr 1
  apply Array.ext
  · simp
  · intro i h1 h2
    simp at h1
    simp [h i h1]
theorem wld.extq {G : va_G} {A : Nat → Prop} {ws : va_W} {H0 H : Heap} {locs : List Loc} (hW : wld G A ws H0 H locs) (q0 : Nat) {a n : Nat} {c : ClassId} {f g : Nat → Option Nat} (ha : ws[q0]? = some (a, .inl (c, n, .inr (.inr (.inr (.inr f)))))) (h : ∀ j, j < n → f j = g j) {ws' : va_W} (hws : ws.set q0 (a, .inl (c, n, .inr (.inr (.inr (.inr g))))) = ws') : wld G A ws' H0 H locs := by
  subst hws
  obtain ⟨hP, hD, hS⟩ := hW
  refine ⟨hP.set hD ha ?_ (fun _ _ => rfl), hD.set ha, hS⟩
  show H[a]? = some (vp_cell _ _)
  rw [← va_cell_extq h]
  exact hP q0 _ ha
def rot {α : Type} (f : Nat → α) : Nat → α := fun k => if k = 5 then f 0 else f (k + 1)
def keepA (ha : Nat → Nat → Nat) (n : Nat) : Nat → Nat → Nat := if n < 6 then ha else rot ha
def keepT (hT : Nat → TV) (n : Nat) (T : TV) : Nat → TV := if n < 6 then va_up hT n T else va_up (rot hT) 5 T
def keepN (n : Nat) : Nat := if n < 6 then n + 1 else 6
def stR (ha : Nat → Nat → Nat) : Nat → Option Nat := fun k => some (ha k 0)
theorem six {P : Nat → Prop} (h0 : P 0) (h1 : P 1) (h2 : P 2) (h3 : P 3) (h4 : P 4) (h5 : P 5) : ∀ j, j < 6 → P j := fun j hj => match j, hj with
  | 0, _ => h0
  | 1, _ => h1
  | 2, _ => h2
  | 3, _ => h3
  | 4, _ => h4
  | 5, _ => h5
  | k + 6, h => absurd h (by omega)
section ROWSQ
variable {p : Program} {l : Launch} {e : Env} {R : Room} {s : State} {m : MethodId} {args : Array Value} {below : List Frame} {meth : Method} {c : Code} {H : Heap} {locs : List Loc} {cells slots : Nat} {Q : State → Prop}
variable {cc : ByteArray} {pc nL : Nat} {ls : Array Slot} {rest : List Value} {G : va_G} {cA : Nat → ClassId} {A : Nat → Prop} {a : Nat} {ws ws' : va_W} {H0 : Heap} {Ts : List Cond} {own : String}
theorem rn_aast3 (CX : CallFix p m c cc nL s args Ts own) (hE : EK G cA s) (hW : wld G A ws H0 H locs) (q0 qk : Nat) {n v : Nat} {vs : List Value} {f : Nat → Option Nat} (ha : ws[q0]? = some (a, .inl (cA 3, n, .inr (.inr (.inr (.inr f)))))) (hv : ws[qk]? = some (v, .inr (4, vs))) {j : Nat} (hj : j < n) (hn : n < 2147483648) (hws : ws.set q0 (a, .inl (cA 3, n, .inr (.inr (.inr (.inr (va_up f j (some v))))))) = ws') (hdg : decode cc pc = .ok (.aastore, 1)) (kk : ∀ (H1 : Heap) (locs1 : List Loc), wld G A ws' H0 H1 locs1 → W p l e R s m args below meth c H1 locs1 cells slots Q (F0 m (pc + 1) ls rest)) : W p l e R s m args below meth c H locs cells slots Q (F0 m pc ls (.ref v :: .int (nI j) :: .ref a :: rest)) :=
  va_astq (r := (RX4, TX4, 8)) CX.1 CX.2.1 hE.1 hW.1 hW.2.1 hW.2.2 q0 3 qk 4 ha rfl hv rfl (vp_in_nI hj hn) hdg (by rw [nI_clamp (Nat.lt_trans hj hn), hws]; exact fun H1 l1 h1 h2 h3 => kk H1 l1 ⟨h1, h2, h3⟩)
end ROWSQ
end
section
/-! Worlds in segments: a list of worlds, each apart from the others; a call takes whole segments, or a part of one. -/
theorem va_P_mem {D : va_G} {cl : List vw_C} {ws : va_W} {H : Heap} : va_P D cl ws H ↔ ∀ q ∈ ws, va_at D cl q H :=
  ⟨fun h q hq => by obtain ⟨k, hk⟩ := List.getElem?_of_mem hq; exact h k q hk, fun h k q hk => h q (List.mem_of_getElem? hk)⟩
theorem va_D_pw {A : Nat → Prop} {ws : va_W} : va_D A ws ↔ ws.Pairwise (fun p q => p.1 ≠ q.1) ∧ ∀ q ∈ ws, A q.1 := by
  constructor
  · intro h
    refine ⟨List.pairwise_iff_getElem.mpr (fun i j hi hj hij he => ?_), fun q hq => ?_⟩
    · have := h.1 i j _ _ (List.getElem?_eq_getElem hi) (List.getElem?_eq_getElem hj) he
      omega
    · obtain ⟨k, hk⟩ := List.getElem?_of_mem hq
      exact h.2 k q hk
  · intro h
    refine ⟨fun i j p q hi hj he => ?_, fun k q hk => h.2 q (List.mem_of_getElem? hk)⟩
    obtain ⟨hi1, hi2⟩ := List.getElem?_eq_some_iff.mp hi
    obtain ⟨hj1, hj2⟩ := List.getElem?_eq_some_iff.mp hj
    rcases Nat.lt_trichotomy i j with q1 | q1 | q1
    · exact absurd (by rw [hi2, hj2]; exact he) (List.pairwise_iff_getElem.mp h.1 i j hi1 hj1 q1)
    · exact q1
    · exact absurd (by rw [hi2, hj2]; exact he.symm) (List.pairwise_iff_getElem.mp h.1 j i hj1 hi1 q1)
def apartS (v w : va_W) : Prop := ∀ x ∈ v, ∀ y ∈ w, x.1 ≠ y.1
theorem va_D_flat {A : Nat → Prop} {segs : List va_W} (h1 : ∀ w ∈ segs, va_D A w) (h2 : segs.Pairwise apartS) : va_D A segs.flatten := by
  refine va_D_pw.mpr ⟨List.pairwise_flatten.mpr ⟨fun w hw => (va_D_pw.mp (h1 w hw)).1, h2⟩, fun q hq => ?_⟩
  obtain ⟨w, hw, hq⟩ := List.mem_flatten.mp hq
  exact (va_D_pw.mp (h1 w hw)).2 q hq
theorem va_D_unflat {A : Nat → Prop} {segs : List va_W} (h : va_D A segs.flatten) : (∀ w ∈ segs, va_D A w) ∧ segs.Pairwise apartS := by
  obtain ⟨h1, h2⟩ := va_D_pw.mp h
  obtain ⟨h3, h4⟩ := List.pairwise_flatten.mp h1
  exact ⟨fun w hw => va_D_pw.mpr ⟨h3 w hw, fun q hq => h2 q (List.mem_flatten.mpr ⟨w, hw, hq⟩)⟩, h4⟩
theorem va_A_mem {ws : va_W} {sz q : Nat} : va_A ws sz q ↔ (∃ e : va_E, (q, e) ∈ ws) ∨ sz ≤ q := by
  constructor
  · rintro (⟨k, e, h⟩ | h)
    · exact Or.inl ⟨e, List.mem_of_getElem? h⟩
    · exact Or.inr h
  · rintro (⟨e, h⟩ | h)
    · obtain ⟨k, hk⟩ := List.getElem?_of_mem h
      exact Or.inl ⟨k, e, hk⟩
    · exact Or.inr h
def wldS (G : va_G) (A : Nat → Prop) (segs : List va_W) (H0 H : Heap) (locs : List Loc) : Prop :=
  (∀ (k : Nat) (w : va_W), segs[k]? = some w → va_P G vwCl w H ∧ va_D A w) ∧ (∀ (i j : Nat) (v w : va_W), segs[i]? = some v → segs[j]? = some w → i ≠ j → apartS v w) ∧ va_S A H0 H locs
theorem wldS.at {G : va_G} {A : Nat → Prop} {segs : List va_W} {H0 H : Heap} {locs : List Loc} (h : wldS G A segs H0 H locs) (k : Nat) {w : va_W} (hk : segs[k]? = some w) : wld G A w H0 H locs := ⟨(h.1 k w hk).1, (h.1 k w hk).2, h.2.2⟩
theorem wldS.hP {G : va_G} {A : Nat → Prop} {segs : List va_W} {H0 H : Heap} {locs : List Loc} (h : wldS G A segs H0 H locs) (k : Nat) {w : va_W} (hk : segs[k]? = some w) : va_P G vwCl w H := (h.1 k w hk).1
theorem apartS.symm {v w : va_W} (h : apartS v w) : apartS w v := fun x hx y hy e => h y hy x hx e.symm
theorem wldS.of {G : va_G} {A : Nat → Prop} {segs : List va_W} {H0 H : Heap} {locs : List Loc} (h : wld G A segs.flatten H0 H locs) : wldS G A segs H0 H locs := by
  obtain ⟨hP, hD, hS⟩ := h
  obtain ⟨h1, h2⟩ := va_D_unflat hD
  refine ⟨fun k w hk => ⟨va_P_mem.mpr fun q hq => va_P_mem.mp hP q (List.mem_flatten.mpr ⟨w, List.mem_of_getElem? hk, hq⟩), h1 w (List.mem_of_getElem? hk)⟩, fun i j v w hi hj hij => ?_, hS⟩
  obtain ⟨hi1, hi2⟩ := List.getElem?_eq_some_iff.mp hi
  obtain ⟨hj1, hj2⟩ := List.getElem?_eq_some_iff.mp hj
  subst hi2
  subst hj2
  rcases Nat.lt_or_gt_of_ne hij with q | q
  · exact List.pairwise_iff_getElem.mp h2 i j hi1 hj1 q
  · exact (List.pairwise_iff_getElem.mp h2 j i hj1 hi1 q).symm
theorem wldS.flat {G : va_G} {A : Nat → Prop} {segs : List va_W} {H0 H : Heap} {locs : List Loc} (h : wldS G A segs H0 H locs) : wld G A segs.flatten H0 H locs := by
  refine ⟨va_P_mem.mpr fun q hq => ?_, va_D_flat (fun w hw => ?_) (List.pairwise_iff_getElem.mpr fun i j hi hj hij => ?_), h.2.2⟩
  · obtain ⟨w, hw, hq⟩ := List.mem_flatten.mp hq
    obtain ⟨k, hk⟩ := List.getElem?_of_mem hw
    exact va_P_mem.mp (h.1 k w hk).1 q hq
  · obtain ⟨k, hk⟩ := List.getElem?_of_mem hw
    exact (h.1 k w hk).2
  · exact h.2.1 i j _ _ (List.getElem?_eq_getElem hi) (List.getElem?_eq_getElem hj) (by omega)
/-- segments taken out by their places -/
theorem wldS.sub {G : va_G} {A : Nat → Prop} {segs wc : List va_W} {H0 H : Heap} {locs : List Loc} (h : wldS G A segs H0 H locs) (pl : List Nat) (hn : va_nd pl = true) (hC : pl.map (fun i => segs[i]?) = wc.map some) : wldS G A wc H0 H locs := by
  have key : ∀ (k : Nat) (w : va_W), wc[k]? = some w → ∃ i, pl[k]? = some i ∧ segs[i]? = some w := by
    intro k w hk
    have h1 : (pl.map (fun i => segs[i]?))[k]? = some (some w) := by rw [hC, List.getElem?_map, hk]; rfl
    rw [List.getElem?_map] at h1
    cases hi : pl[k]? with
    | none => rw [hi] at h1; cases h1
    | some i => rw [hi] at h1; exact ⟨i, rfl, Option.some.inj h1⟩
  refine ⟨fun k w hk => ?_, fun i j v w hi hj hij => ?_, h.2.2⟩
  · obtain ⟨i, -, h2⟩ := key k w hk
    exact h.1 i w h2
  · obtain ⟨a, a1, a2⟩ := key i v hi
    obtain ⟨b, b1, b2⟩ := key j w hj
    exact h.2.1 a b v w a2 b2 (fun z => hij (va_nd_inj pl hn i j a a1 (by rw [b1, z])))
/-- places of a list, written over -/
def putL {α : Type} : List α → List Nat → List α → List α
  | ws, i :: is, e :: es => putL (ws.set i e) is es
  | ws, _, _ => ws
theorem putL_key {α : Type} : ∀ (pl : List Nat) (w1 ws : List α), pl.length = w1.length → ∀ (k : Nat) (q : α), (putL ws pl w1)[k]? = some q → (∃ j : Nat, pl[j]? = some k ∧ w1[j]? = some q) ∨ (k ∉ pl ∧ ws[k]? = some q)
  | [], w1, ws, hlen, k, q, h => Or.inr ⟨List.not_mem_nil, by cases w1 <;> exact h⟩
  | i :: is, [], ws, hlen, k, q, h => by cases hlen
  | i :: is, e :: es, ws, hlen, k, q, h => by
    rcases putL_key is es (ws.set i e) (Nat.succ.inj hlen) k q h with ⟨j, h1, h2⟩ | ⟨h1, h2⟩
    · exact Or.inl ⟨j + 1, h1, h2⟩
    · by_cases hk : k = i
      · subst hk
        have hl := (List.getElem?_eq_some_iff.mp h2).1
        rw [List.length_set] at hl
        rw [List.getElem?_set_self hl] at h2
        exact Or.inl ⟨0, rfl, h2⟩
      · rw [List.getElem?_set_ne (Ne.symm hk)] at h2
        refine Or.inr ⟨fun hm => ?_, h2⟩
        rcases List.mem_cons.mp hm with z | z
        · exact hk z
        · exact h1 z
theorem wldS_join {G : va_G} {A0 : Nat → Prop} {segs wc w1 segs' : List va_W} {H0 H H1 : Heap} {locs locs1 : List Loc} (hW : wldS G A0 segs H0 H locs) (pl : List Nat) (hC : pl.map (fun i => segs[i]?) = wc.map some) (hlen : pl.length = w1.length) (hput : putL segs pl w1 = segs')
    (hk : ∀ q : Nat, q < H.size → ¬ va_A wc.flatten H.size q → H1[q]? = H[q]?) (hF : ∀ q, va_A wc.flatten H.size q → A0 q) (hP1 : va_P G vwCl w1.flatten H1) (hD1 : va_D (va_A wc.flatten H.size) w1.flatten) (hS : va_S A0 H0 H1 locs1) : wldS G A0 segs' H0 H1 locs1 := by
  subst hput
  obtain ⟨hD2, hD3⟩ := va_D_unflat hD1
  have inC : ∀ (k : Nat) (w : va_W), wc[k]? = some w → ∃ i, pl[k]? = some i ∧ segs[i]? = some w := by
    intro k w hk
    have h1 : (pl.map (fun i => segs[i]?))[k]? = some (some w) := by rw [hC, List.getElem?_map, hk]; rfl
    rw [List.getElem?_map] at h1
    cases hi : pl[k]? with
    | none => rw [hi] at h1; cases h1
    | some i => rw [hi] at h1; exact ⟨i, rfl, Option.some.inj h1⟩
  have apart : ∀ (k : Nat) (w : va_W), k ∉ pl → segs[k]? = some w → ∀ x ∈ w, x.1 < H.size ∧ ¬ va_A wc.flatten H.size x.1 := by
    intro k w hkp hw x hx
    obtain ⟨kx, hkx⟩ := List.getElem?_of_mem hx
    have hl := ((hW.1 k w hw).1 kx x hkx).lt
    refine ⟨hl, fun h => ?_⟩
    rcases va_A_mem.mp h with ⟨e, h⟩ | h
    · obtain ⟨v, hv, hx2⟩ := List.mem_flatten.mp h
      obtain ⟨j, hj⟩ := List.getElem?_of_mem hv
      obtain ⟨i, h1, h2⟩ := inC j v hj
      exact hW.2.1 k i w v hw h2 (fun z => hkp (z ▸ List.mem_of_getElem? h1)) x hx _ hx2 rfl
    · omega
  refine ⟨fun k w hw => ?_, fun i j v w hi hj hij => ?_, hS⟩
  · rcases putL_key pl w1 segs hlen k w hw with ⟨j, -, h2⟩ | ⟨h1, h2⟩
    · have hm := List.mem_of_getElem? h2
      exact ⟨va_P_mem.mpr fun q hq => va_P_mem.mp hP1 q (List.mem_flatten.mpr ⟨w, hm, hq⟩), (hD2 w hm).weaken (fun _ q _ h => hF q.1 h)⟩
    · refine ⟨(hW.1 k w h2).1.kept (fun n q hq => ?_), (hW.1 k w h2).2⟩
      obtain ⟨g1, g2⟩ := apart k w h1 h2 q (List.mem_of_getElem? hq)
      exact hk q.1 g1 g2
  · have new : ∀ (n : Nat) (u : va_W), w1[n]? = some u → ∀ y ∈ u, va_A wc.flatten H.size y.1 := by
      intro n u hu y hy
      obtain ⟨ky, hky⟩ := List.getElem?_of_mem hy
      exact (hD2 u (List.mem_of_getElem? hu)).2 ky y hky
    rcases putL_key pl w1 segs hlen i v hi with ⟨a, a1, a2⟩ | ⟨a1, a2⟩ <;> rcases putL_key pl w1 segs hlen j w hj with ⟨b, b1, b2⟩ | ⟨b1, b2⟩
    · have hab : a ≠ b := fun z => hij (by subst z; exact Option.some.inj (a1.symm.trans b1))
      obtain ⟨ha1, ha2⟩ := List.getElem?_eq_some_iff.mp a2
      obtain ⟨hb1, hb2⟩ := List.getElem?_eq_some_iff.mp b2
      subst ha2
      subst hb2
      rcases Nat.lt_or_gt_of_ne hab with q | q
      · exact List.pairwise_iff_getElem.mp hD3 a b ha1 hb1 q
      · exact (List.pairwise_iff_getElem.mp hD3 b a hb1 ha1 q).symm
    · intro x hx y hy e
      exact (apart j w b1 b2 y hy).2 (e ▸ new a v a2 x hx)
    · intro x hx y hy e
      exact (apart i v a1 a2 x hx).2 (e ▸ new b w b2 y hy)
    · exact hW.2.1 i j v w a2 b2 hij
/-- a call that takes a part of one segment -/
theorem wldS_part {G : va_G} {A0 : Nat → Prop} {segs segs' : List va_W} {w wc w1 w' : va_W} {H0 H H1 : Heap} {locs locs1 : List Loc} (hW : wldS G A0 segs H0 H locs) (k0 : Nat) (hk0 : segs[k0]? = some w) (pl : List Nat) (hC : pl.map (fun i => w[i]?) = wc.map some) (hlen : pl.length = w1.length) (hput : putW w pl w1 = w') (hset : segs.set k0 w' = segs')
    (hk : ∀ q : Nat, q < H.size → ¬ va_A wc H.size q → H1[q]? = H[q]?) (hF : ∀ q, va_A wc H.size q → A0 q) (hP1 : va_P G vwCl w1 H1) (hD1 : va_D (va_A wc H.size) w1) (hS : va_S A0 H0 H1 locs1) : wldS G A0 segs' H0 H1 locs1 := by
  have h1 : wld G A0 w' H0 H1 locs1 := wld_join (hW.at k0 hk0) pl hC hlen hput hk hF hP1 hD1 hS
  have inC : ∀ (q : Nat) (e : va_E), (q, e) ∈ wc → ∃ e' : va_E, (q, e') ∈ w := by
    intro q e h
    obtain ⟨k, hk⟩ := List.getElem?_of_mem h
    have h1 : (pl.map (fun i => w[i]?))[k]? = some (some (q, e)) := by rw [hC, List.getElem?_map, hk]; rfl
    rw [List.getElem?_map] at h1
    cases hi : pl[k]? with
    | none => rw [hi] at h1; cases h1
    | some i => rw [hi] at h1; exact ⟨e, List.mem_of_getElem? (Option.some.inj h1)⟩
  have hin : ∀ x ∈ w', (∃ e : va_E, (x.1, e) ∈ w) ∨ H.size ≤ x.1 := by
    intro x hx
    subst hput
    obtain ⟨k, hk⟩ := List.getElem?_of_mem hx
    rcases putW_key pl w1 w hlen k x hk with ⟨j, -, h2⟩ | ⟨-, h2⟩
    · rcases va_A_mem.mp (hD1.2 j x h2) with ⟨e, h3⟩ | h3
      · exact Or.inl (inC _ e h3)
      · exact Or.inr h3
    · exact Or.inl ⟨x.2, List.mem_of_getElem? h2⟩
  have hlt : ∀ (k : Nat) (v : va_W), segs[k]? = some v → ∀ x ∈ v, x.1 < H.size := by
    intro k v hv x hx
    obtain ⟨kx, hkx⟩ := List.getElem?_of_mem hx
    exact ((hW.1 k v hv).1 kx x hkx).lt
  have ap : ∀ (k : Nat) (v : va_W), k ≠ k0 → segs[k]? = some v → apartS w' v := by
    intro k v hne hv x hx y hy e
    rcases hin x hx with ⟨e1, h3⟩ | h3
    · exact hW.2.1 k0 k w v hk0 hv (Ne.symm hne) _ h3 y hy e
    · have := hlt k v hv y hy
      omega
  have hl0 : k0 < segs.length := (List.getElem?_eq_some_iff.mp hk0).1
  subst hset
  refine ⟨fun k v hv => ?_, fun i j u v hi hj hij => ?_, hS⟩
  · by_cases h : k = k0
    · subst h
      rw [List.getElem?_set_self hl0] at hv
      cases hv
      exact ⟨h1.1, h1.2.1⟩
    · rw [List.getElem?_set_ne (Ne.symm h)] at hv
      refine ⟨(hW.1 k v hv).1.kept (fun n q hq => hk q.1 (hlt k v hv q (List.mem_of_getElem? hq)) (fun z => ?_)), (hW.1 k v hv).2⟩
      rcases va_A_mem.mp z with ⟨e, h3⟩ | h3
      · obtain ⟨e', h4⟩ := inC _ e h3
        exact hW.2.1 k0 k w v hk0 hv (Ne.symm h) _ h4 q (List.mem_of_getElem? hq) rfl
      · have := hlt k v hv q (List.mem_of_getElem? hq)
        omega
  · by_cases h1 : i = k0 <;> by_cases h2 : j = k0
    · exact absurd (h1.trans h2.symm) hij
    · subst h1
      rw [List.getElem?_set_self hl0] at hi
      cases hi
      rw [List.getElem?_set_ne (Ne.symm h2)] at hj
      exact ap j v h2 hj
    · subst h2
      rw [List.getElem?_set_self hl0] at hj
      cases hj
      rw [List.getElem?_set_ne (Ne.symm h1)] at hi
      exact (ap i u h1 hi).symm
    · rw [List.getElem?_set_ne (Ne.symm h1)] at hi
      rw [List.getElem?_set_ne (Ne.symm h2)] at hj
      exact hW.2.1 i j u v hi hj hij
/-- one cell of one segment is written over -/
theorem wldS_cell {G : va_G} {A0 : Nat → Prop} {segs segs' : List va_W} {w w' : va_W} {H0 H H1 : Heap} {locs locs1 : List Loc} {a : Nat} {c c' : va_E} (hW : wldS G A0 segs H0 H locs) (k0 : Nat) (hk0 : segs[k0]? = some w) (q0 : Nat) (hq : w[q0]? = some (a, c)) (hs : w.set q0 (a, c') = w') (hset : segs.set k0 w' = segs') (hP1 : va_P G vwCl w' H1) (hk : ∀ q : Nat, q ≠ a → H1[q]? = H[q]?) (hz : H.size ≤ H1.size) (hS : va_S A0 H0 H1 locs1) : wldS G A0 segs' H0 H1 locs1 := by
  subst hs
  have hA : ∀ q, va_A [(a, c)] H.size q → A0 q ∨ H.size ≤ q := by
    intro q h
    rcases va_A_mem.mp h with ⟨e, h⟩ | h
    · rw [List.mem_singleton] at h
      cases h
      exact Or.inl ((hW.1 k0 w hk0).2.2 q0 _ hq)
    · exact Or.inr h
  have hl : q0 < w.length := (List.getElem?_eq_some_iff.mp hq).1
  have hlt : ∀ (k : Nat) (v : va_W), segs[k]? = some v → ∀ x ∈ v, x.1 < H.size := by
    intro k v hv x hx
    obtain ⟨kx, hkx⟩ := List.getElem?_of_mem hx
    exact ((hW.1 k v hv).1 kx x hkx).lt
  have hin : ∀ x ∈ w.set q0 (a, c'), ∃ e : va_E, (x.1, e) ∈ w := by
    intro x hx
    obtain ⟨k, hk⟩ := List.getElem?_of_mem hx
    by_cases h : k = q0
    · subst h
      rw [List.getElem?_set_self hl] at hk
      cases hk
      exact ⟨c, List.mem_of_getElem? hq⟩
    · rw [List.getElem?_set_ne (Ne.symm h)] at hk
      exact ⟨x.2, List.mem_of_getElem? hk⟩
  have hl0 : k0 < segs.length := (List.getElem?_eq_some_iff.mp hk0).1
  have ap : ∀ (k : Nat) (v : va_W), k ≠ k0 → segs[k]? = some v → apartS (w.set q0 (a, c')) v := by
    intro k v hne hv x hx y hy e
    obtain ⟨e1, h3⟩ := hin x hx
    exact hW.2.1 k0 k w v hk0 hv (Ne.symm hne) _ h3 y hy e
  subst hset
  refine ⟨fun k v hv => ?_, fun i j u v hi hj hij => ?_, hS⟩
  · by_cases h : k = k0
    · subst h
      rw [List.getElem?_set_self hl0] at hv
      cases hv
      exact ⟨hP1, (hW.1 k w hk0).2.set hq⟩
    · rw [List.getElem?_set_ne (Ne.symm h)] at hv
      refine ⟨(hW.1 k v hv).1.kept (fun n q hq2 => hk q.1 (fun z => ?_)), (hW.1 k v hv).2⟩
      exact hW.2.1 k0 k w v hk0 hv (Ne.symm h) _ (List.mem_of_getElem? hq) q (List.mem_of_getElem? hq2) z.symm
  · by_cases h1 : i = k0 <;> by_cases h2 : j = k0
    · exact absurd (h1.trans h2.symm) hij
    · subst h1
      rw [List.getElem?_set_self hl0] at hi
      cases hi
      rw [List.getElem?_set_ne (Ne.symm h2)] at hj
      exact ap j v h2 hj
    · subst h2
      rw [List.getElem?_set_self hl0] at hj
      cases hj
      rw [List.getElem?_set_ne (Ne.symm h1)] at hi
      exact (ap i u h1 hi).symm
    · rw [List.getElem?_set_ne (Ne.symm h1)] at hi
      rw [List.getElem?_set_ne (Ne.symm h2)] at hj
      exact hW.2.1 i j u v hi hj hij
end
section
/-! Rows over worlds in segments. -/
def offS : List va_W → Nat → Nat
  | _, 0 => 0
  | [], _ + 1 => 0
  | w :: r, k + 1 => w.length + offS r k
theorem flat_get : ∀ {segs : List va_W} {k : Nat} {w : va_W} {q : Nat} {x : Nat × va_E}, segs[k]? = some w → w[q]? = some x → segs.flatten[offS segs k + q]? = some x
  | [], k, w, q, x, hk, hq => by simp at hk
  | v :: r, 0, w, q, x, hk, hq => by
    simp at hk
    subst hk
    rw [List.flatten_cons, offS, Nat.zero_add, List.getElem?_append_left (List.getElem?_eq_some_iff.mp hq).1]
    exact hq
  | v :: r, k + 1, w, q, x, hk, hq => by
    rw [List.getElem?_cons_succ] at hk
    rw [List.flatten_cons, offS, List.getElem?_append_right (by omega), show v.length + offS r k + q - v.length = offS r k + q by omega]
    exact flat_get hk hq
theorem flat_set : ∀ {segs : List va_W} {k : Nat} {w : va_W} {q : Nat} {x : Nat × va_E}, segs[k]? = some w → q < w.length → segs.flatten.set (offS segs k + q) x = (segs.set k (w.set q x)).flatten
  | [], k, w, q, x, hk, hq => by simp at hk
  | v :: r, 0, w, q, x, hk, hq => by
    simp at hk
    subst hk
    rw [List.flatten_cons, offS, Nat.zero_add, List.set_append_left _ _ hq, List.set_cons_zero, List.flatten_cons]
  | v :: r, k + 1, w, q, x, hk, hq => by
    rw [List.getElem?_cons_succ] at hk
    rw [List.flatten_cons, offS, List.set_append_right _ _ (by omega), show v.length + offS r k + q - v.length = offS r k + q by omega, flat_set hk hq, List.set_cons_succ, List.flatten_cons]
theorem wldS.reset {G : va_G} {A : Nat → Prop} {segs segs' : List va_W} {w w' : va_W} {H0 H : Heap} {locs : List Loc} {k q : Nat} {x y : Nat × va_E} (hk : segs[k]? = some w) (hq : w[q]? = some x) (hs : w.set q y = w') (hset : segs.set k w' = segs') (h : wld G A (segs.flatten.set (offS segs k + q) y) H0 H locs) : wldS G A segs' H0 H locs := by
  rw [flat_set hk (List.getElem?_eq_some_iff.mp hq).1, hs, hset] at h
  exact wldS.of h
theorem va_P_seg {G : va_G} {cl : List vw_C} {segs : List va_W} {H : Heap} (h : va_P G cl segs.flatten H) : ∀ (k : Nat) (w : va_W), segs[k]? = some w → va_P G cl w H := fun _ w hk => va_P_mem.mpr fun q hq => va_P_mem.mp h q (List.mem_flatten.mpr ⟨w, List.mem_of_getElem? hk, hq⟩)
theorem va_P_segs {G : va_G} {cl : List vw_C} {segs wc : List va_W} {H : Heap} (h : ∀ (k : Nat) (w : va_W), segs[k]? = some w → va_P G cl w H) (pl : List Nat) (hC : pl.map (fun i => segs[i]?) = wc.map some) : va_P G cl wc.flatten H := by
  refine va_P_mem.mpr fun q hq => ?_
  obtain ⟨w, hw, hq⟩ := List.mem_flatten.mp hq
  obtain ⟨k, hk⟩ := List.getElem?_of_mem hw
  have h1 : (pl.map (fun i => segs[i]?))[k]? = some (some w) := by rw [hC, List.getElem?_map, hk]; rfl
  rw [List.getElem?_map] at h1
  cases hi : pl[k]? with
  | none => rw [hi] at h1; cases h1
  | some i => rw [hi] at h1; exact va_P_mem.mp (h i w (Option.some.inj h1)) q hq
theorem va_P_nil {G : va_G} {cl : List vw_C} {H : Heap} : va_P G cl [] H := fun k q h => by simp at h
section ROWSS
variable {p : Program} {l : Launch} {e : Env} {R : Room} {s : State} {m : MethodId} {args : Array Value} {below : List Frame} {meth : Method} {c : Code} {H : Heap} {locs : List Loc} {cells slots : Nat} {Q : State → Prop}
variable {cc : ByteArray} {pc nL : Nat} {ls : Array Slot} {rest : List Value} {G : va_G} {cA : Nat → ClassId} {A : Nat → Prop} {a : Nat} {w w' : va_W} {segs segs' : List va_W} {H0 : Heap} {Ts : List Cond} {own : String}
theorem rn_iastS (CX : CallFix p m c cc nL s args Ts own) (hE : EK G cA s) (hW : wldS G A segs H0 H locs) (k0 : Nat) (hk0 : segs[k0]? = some w) (q0 : Nat) {n : Nat} {f : Nat → Int32} (ha : w[q0]? = some (a, .inl (cA 0, n, .inl f))) {j : Nat} {x : Int32} (hj : j < n) (hn : n < 2147483648) (hs : w.set q0 (a, .inl (cA 0, n, .inl (upd f j x))) = w') (hset : segs.set k0 w' = segs') (hdg : decode cc pc = .ok (.iastore, 1)) (kk : ∀ (H1 : Heap) (locs1 : List Loc), wldS G A segs' H0 H1 locs1 → W p l e R s m args below meth c H1 locs1 cells slots Q (F0 m (pc + 1) ls rest)) : W p l e R s m args below meth c H locs cells slots Q (F0 m pc ls (.int x :: .int (nI j) :: .ref a :: rest)) :=
  rn_iast CX hE hW.flat (offS segs k0 + q0) (flat_get hk0 ha) hj hn rfl hdg (fun H1 l1 h => kk H1 l1 (wldS.reset hk0 ha hs hset h))
theorem rn_castS (CX : CallFix p m c cc nL s args Ts own) (hE : EK G cA s) (hW : wldS G A segs H0 H locs) (k0 : Nat) (hk0 : segs[k0]? = some w) (q0 : Nat) {n : Nat} {f : Nat → Int32} (ha : w[q0]? = some (a, .inl (cA 1, n, .inl f))) {j : Nat} {x : Int32} (hj : j < n) (hn : n < 2147483648) (hs : w.set q0 (a, .inl (cA 1, n, .inl (upd f j (vp_nar .char x)))) = w') (hset : segs.set k0 w' = segs') (hdg : decode cc pc = .ok (.castore, 1)) (kk : ∀ (H1 : Heap) (locs1 : List Loc), wldS G A segs' H0 H1 locs1 → W p l e R s m args below meth c H1 locs1 cells slots Q (F0 m (pc + 1) ls rest)) : W p l e R s m args below meth c H locs cells slots Q (F0 m pc ls (.int x :: .int (nI j) :: .ref a :: rest)) :=
  rn_cast CX hE hW.flat (offS segs k0 + q0) (flat_get hk0 ha) hj hn rfl hdg (fun H1 l1 h => kk H1 l1 (wldS.reset hk0 ha hs hset h))
theorem rn_zastS (CX : CallFix p m c cc nL s args Ts own) (hE : EK G cA s) (hW : wldS G A segs H0 H locs) (k0 : Nat) (hk0 : segs[k0]? = some w) (q0 : Nat) {n : Nat} {f : Nat → Int32} (ha : w[q0]? = some (a, .inl (cA 2, n, .inl f))) {j : Nat} {x : Int32} (hj : j < n) (hn : n < 2147483648) (hs : w.set q0 (a, .inl (cA 2, n, .inl (upd f j (vp_nar .boolean x)))) = w') (hset : segs.set k0 w' = segs') (hdg : decode cc pc = .ok (.bastore, 1)) (kk : ∀ (H1 : Heap) (locs1 : List Loc), wldS G A segs' H0 H1 locs1 → W p l e R s m args below meth c H1 locs1 cells slots Q (F0 m (pc + 1) ls rest)) : W p l e R s m args below meth c H locs cells slots Q (F0 m pc ls (.int x :: .int (nI j) :: .ref a :: rest)) :=
  rn_zast CX hE hW.flat (offS segs k0 + q0) (flat_get hk0 ha) hj hn rfl hdg (fun H1 l1 h => kk H1 l1 (wldS.reset hk0 ha hs hset h))
theorem rn_aast3S (CX : CallFix p m c cc nL s args Ts own) (hE : EK G cA s) (hW : wldS G A segs H0 H locs) (k0 : Nat) (hk0 : segs[k0]? = some w) (q0 : Nat) {n v : Nat} {vs : List Value} {f : Nat → Option Nat} (ha : w[q0]? = some (a, .inl (cA 3, n, .inr (.inr (.inr (.inr f)))))) (k1 : Nat) {u : va_W} (hk1 : segs[k1]? = some u) (q1 : Nat) (hv : u[q1]? = some (v, .inr (4, vs))) {j : Nat} (hj : j < n) (hn : n < 2147483648) (hs : w.set q0 (a, .inl (cA 3, n, .inr (.inr (.inr (.inr (va_up f j (some v))))))) = w') (hset : segs.set k0 w' = segs') (hdg : decode cc pc = .ok (.aastore, 1)) (kk : ∀ (H1 : Heap) (locs1 : List Loc), wldS G A segs' H0 H1 locs1 → W p l e R s m args below meth c H1 locs1 cells slots Q (F0 m (pc + 1) ls rest)) : W p l e R s m args below meth c H locs cells slots Q (F0 m pc ls (.ref v :: .int (nI j) :: .ref a :: rest)) :=
  rn_aast3 CX hE hW.flat (offS segs k0 + q0) (offS segs k1 + q1) (flat_get hk0 ha) (flat_get hk1 hv) hj hn rfl hdg (fun H1 l1 h => kk H1 l1 (wldS.reset hk0 ha hs hset h))
theorem rpS {C : String} {T : u_T} {N ci : Nat} (CX : CallFix p m c cc nL s args Ts own) (hE : EK G cA s) (hW : wldS G A segs H0 H locs) (k0 : Nat) (hk0 : segs[k0]? = some w) (hin : ∀ w ∈ u_ws C T N, w ∈ Ts) (ty0 : Nat → FieldType) (hty : ∀ k, k < N → parseFieldDescriptor (T k).2.2.1 = some (ty0 k)) (hnm : ∀ a, a < N → ∀ b, b < N → a ≠ b → (T a).2.1 ≠ (T b).2.1) (q0 : Nat) {fs : List Value} (he : w[q0]? = some (a, .inr (ci, fs))) (hc : vwCl[ci]? = some (C, T, N)) (k : Nat) (hk : k < N) {index : Nat} (hlink : Cond.fieldLink own index C (T k).2.1 (T k).2.2.1 ∈ Ts) (hTk : (T k).1 = C) (hfin : (T k).2.2.2 = false) {v : Value} (hn : narrow (ty0 k) v = v) (hfit : fits (ty0 k) v = true) (hl : k < fs.length) (hs : w.set q0 (a, .inr (ci, fs.set k v)) = w') (hset : segs.set k0 w' = segs')
    (hdg : decode cc pc = .ok (.putfield index, 3)) (kk : ∀ (H1 : Heap) (locs1 : List Loc), wldS G A segs' H0 H1 locs1 → W p l e R s m args below meth c H1 locs1 cells slots Q (F0 m (pc + 3) ls rest)) : W p l e R s m args below meth c H locs cells slots Q (F0 m pc ls (v :: .ref a :: rest)) :=
  rp CX hE hW.flat hin ty0 hty hnm (offS segs k0 + q0) (flat_get hk0 he) hc k hk hlink hTk hfin hn hfit hl rfl hdg (fun H1 l1 h => kk H1 l1 (wldS.reset hk0 he hs hset h))
/-- reading calls, the callee's world given -/
theorem roVg {B : State → Prop} {y : MethodName} {bytes : ByteArray} {maxL n index : Nat} {ret : Option FieldType} {wy : List Cond} {rm : Room} {C : String} {b : Nat} {As rest st0 : List Value} {wc wr : va_W} {v : Int32} (CX : CallFix p m c cc nL s args Ts own) (hE : EK G cA s) (hPc : va_P G vwCl wc H) (hM : RO l y wy rm G cA B wc (.ref b :: As) v) (cw : CallW R s args own C index y bytes maxL ret wy rm 0 0 n) (hPr : va_P G vwCl wr H) (q0 : Nat) {ci : Nat} {fs : List Value} (he : wr[q0]? = some (b, .inr (ci, fs))) {qc : vw_C} (hc : vwCl[ci]? = some qc) (hqc : qc.1 = C) (hBb : blindB B) (hB : ∀ U : State, U.heap = H → s.WarmedH U.vm → B U) (hn : As.length = n) (hls : ls.size = nL) (hst : st0 = As.reverse ++ .ref b :: rest) (hroom : (rest.map fun v => v.category).sum ≤ 8) (hdg : decode cc pc = .ok (.invokevirtual index, 3)) (hcs : cells ≤ R.cells ∧ slots ≤ R.slots)
    (kk : W p l e R s m args below meth c H locs cells slots Q (F0 m (pc + 3) ls (.int v :: rest))) : W p l e R s m args below meth c H locs cells slots Q (F0 m pc ls st0) :=
  vp_callSi (va_runV CX hM cw ⟨fun _ U g mk q => ⟨q.1, q.2.1, q.2.2.1.calling, hBb U g mk _ q.2.2.2⟩, hqc ▸ va_recv hE.1 hPr hc he, fun U hU hW => ⟨rfl, by rw [hU]; exact hPc, hE.warm hW, hB U hU hW⟩⟩ rfl hn hls hst (lv_room (ls := ls) hroom) hdg hcs).run (fun r hr => hr ▸ kk)
/-- writing calls: whole segments -/
theorem muvS0 {wc w1 : List va_W} {ar : Array Value} {st0 : List Value} (hW : wldS G A segs H0 H locs) (hA : ∀ q, H0.size ≤ q → A q) (pl : List Nat) (hnd : va_nd pl = true) (hC : pl.map (fun i => segs[i]?) = wc.map some) (hlen : pl.length = w1.length) (hput : putL segs pl w1 = segs')
    (hr : va_Run p l e R s m args below meth c H locs cells slots 0 0 (F0 m pc ls st0) rest (va_Qv (fun _ : Unit => True) (fun _ t => va_P G vwCl w1.flatten t.heap ∧ va_D (va_A wc.flatten H.size) w1.flatten) (va_A wc.flatten H.size) ar) (va_A wc.flatten H.size))
    (kk : ∀ (H1 : Heap) (locs1 : List Loc), wldS G A segs' H0 H1 locs1 → W p l e R s m args below meth c H1 locs1 cells slots Q (F0 m (pc + 3) ls rest)) : W p l e R s m args below meth c H locs cells slots Q (F0 m pc ls st0) := by
  have hS0 := hW.2.2
  have hF : ∀ q, va_A wc.flatten H.size q → A q := fun q h => by
    rcases h with ⟨k, e, h⟩ | h
    · exact (hW.sub pl hnd hC).flat.2.1.2 k _ h
    · exact hA q (Nat.le_trans hS0.1 h)
  refine va_callv hr hS0 (fun q _ h => hF q h) hF (fun u t H1 locs1 ht hvm hw hB hz1 hk1 hS => ?_)
  obtain ⟨hP1, hD1⟩ := hB
  rw [ht] at hP1
  exact kk H1 locs1 (wldS_join hW pl hC hlen hput hk1 hF hP1 hD1 hS)
theorem muiS0 {wc w1 : List va_W} {ar : Array Value} {st0 : List Value} {v : Int32} (hW : wldS G A segs H0 H locs) (hA : ∀ q, H0.size ≤ q → A q) (pl : List Nat) (hnd : va_nd pl = true) (hC : pl.map (fun i => segs[i]?) = wc.map some) (hlen : pl.length = w1.length) (hput : putL segs pl w1 = segs')
    (hr : va_Run p l e R s m args below meth c H locs cells slots 0 0 (F0 m pc ls st0) rest (va_Qi (fun r (_ : Unit) => r = v) (fun _ t => va_P G vwCl w1.flatten t.heap ∧ va_D (va_A wc.flatten H.size) w1.flatten) (va_A wc.flatten H.size) ar) (va_A wc.flatten H.size))
    (kk : ∀ (H1 : Heap) (locs1 : List Loc), wldS G A segs' H0 H1 locs1 → W p l e R s m args below meth c H1 locs1 cells slots Q (F0 m (pc + 3) ls (.int v :: rest))) : W p l e R s m args below meth c H locs cells slots Q (F0 m pc ls st0) := by
  have hS0 := hW.2.2
  have hF : ∀ q, va_A wc.flatten H.size q → A q := fun q h => by
    rcases h with ⟨k, e, h⟩ | h
    · exact (hW.sub pl hnd hC).flat.2.1.2 k _ h
    · exact hA q (Nat.le_trans hS0.1 h)
  refine va_calli hr hS0 (fun q _ h => hF q h) hF (fun r u t H1 locs1 ht hvm hw hB hz1 hk1 hS => ?_)
  obtain ⟨hP1, hD1⟩ := hB
  rw [ht] at hP1
  subst hw
  exact kk H1 locs1 (wldS_join hW pl hC hlen hput hk1 hF hP1 hD1 hS)
/-- writing calls: a part of a segment -/
theorem muvP0 {wc w1 : va_W} {ar : Array Value} {st0 : List Value} (hW : wldS G A segs H0 H locs) (hA : ∀ q, H0.size ≤ q → A q) (k0 : Nat) (hk0 : segs[k0]? = some w) (pl : List Nat) (hC : pl.map (fun i => w[i]?) = wc.map some) (hlen : pl.length = w1.length) (hput : putW w pl w1 = w') (hset : segs.set k0 w' = segs')
    (hr : va_Run p l e R s m args below meth c H locs cells slots 0 0 (F0 m pc ls st0) rest (va_Qv (fun _ : Unit => True) (fun _ t => va_P G vwCl w1 t.heap ∧ va_D (va_A wc H.size) w1) (va_A wc H.size) ar) (va_A wc H.size))
    (kk : ∀ (H1 : Heap) (locs1 : List Loc), wldS G A segs' H0 H1 locs1 → W p l e R s m args below meth c H1 locs1 cells slots Q (F0 m (pc + 3) ls rest)) : W p l e R s m args below meth c H locs cells slots Q (F0 m pc ls st0) := by
  have hF := wld_free (hW.at k0 hk0) hA pl hC
  refine va_callv hr hW.2.2 (fun q _ h => hF q h) hF (fun u t H1 locs1 ht hvm hw hB hz1 hk1 hS => ?_)
  obtain ⟨hP1, hD1⟩ := hB
  rw [ht] at hP1
  exact kk H1 locs1 (wldS_part hW k0 hk0 pl hC hlen hput hset hk1 hF hP1 hD1 hS)
theorem muiP0 {wc w1 : va_W} {ar : Array Value} {st0 : List Value} {v : Int32} (hW : wldS G A segs H0 H locs) (hA : ∀ q, H0.size ≤ q → A q) (k0 : Nat) (hk0 : segs[k0]? = some w) (pl : List Nat) (hC : pl.map (fun i => w[i]?) = wc.map some) (hlen : pl.length = w1.length) (hput : putW w pl w1 = w') (hset : segs.set k0 w' = segs')
    (hr : va_Run p l e R s m args below meth c H locs cells slots 0 0 (F0 m pc ls st0) rest (va_Qi (fun r (_ : Unit) => r = v) (fun _ t => va_P G vwCl w1 t.heap ∧ va_D (va_A wc H.size) w1) (va_A wc H.size) ar) (va_A wc H.size))
    (kk : ∀ (H1 : Heap) (locs1 : List Loc), wldS G A segs' H0 H1 locs1 → W p l e R s m args below meth c H1 locs1 cells slots Q (F0 m (pc + 3) ls (.int v :: rest))) : W p l e R s m args below meth c H locs cells slots Q (F0 m pc ls st0) := by
  have hF := wld_free (hW.at k0 hk0) hA pl hC
  refine va_calli hr hW.2.2 (fun q _ h => hF q h) hF (fun r u t H1 locs1 ht hvm hw hB hz1 hk1 hS => ?_)
  obtain ⟨hP1, hD1⟩ := hB
  rw [ht] at hP1
  subst hw
  exact kk H1 locs1 (wldS_part hW k0 hk0 pl hC hlen hput hset hk1 hF hP1 hD1 hS)
theorem muvVS {B : (Nat → Prop) → State → Prop} {y : MethodName} {bytes : ByteArray} {maxL n index : Nat} {ret : Option FieldType} {wy : List Cond} {rm : Room} {C : String} {b : Nat} {As rest st0 : List Value} {wc w1 : List va_W} {wr : va_W} (CX : CallFix p m c cc nL s args Ts own) (hE : EK G cA s) (hW : wldS G A segs H0 H locs) (hA : ∀ q, H0.size ≤ q → A q) (hM : MUv l y wy rm G cA B wc.flatten (.ref b :: As) w1.flatten) (cw : CallW R s args own C index y bytes maxL ret wy rm 0 0 n) (pl : List Nat) (hnd : va_nd pl = true) (hC : pl.map (fun i => segs[i]?) = wc.map some) (hlen : pl.length = w1.length) (hput : putL segs pl w1 = segs') (hPr : va_P G vwCl wr H) (q0 : Nat) {ci : Nat} {fs : List Value} (he : wr[q0]? = some (b, .inr (ci, fs))) {qc : vw_C} (hc : vwCl[ci]? = some qc) (hqc : qc.1 = C) (hBb : blindM B) (hB : ∀ U : State, U.heap = H → s.WarmedH U.vm → (∀ q, va_A wc.flatten H.size q → A q) → B (va_A wc.flatten H.size) U) (hn : As.length = n) (hls : ls.size = nL) (hst : st0 = As.reverse ++ .ref b :: rest) (hroom : (rest.map fun v => v.category).sum ≤ 8) (hdg : decode cc pc = .ok (.invokevirtual index, 3)) (hcs : cells ≤ R.cells ∧ slots ≤ R.slots)
    (kk : ∀ (H1 : Heap) (locs1 : List Loc), wldS G A segs' H0 H1 locs1 → W p l e R s m args below meth c H1 locs1 cells slots Q (F0 m (pc + 3) ls rest)) : W p l e R s m args below meth c H locs cells slots Q (F0 m pc ls st0) :=
  muvS0 hW hA pl hnd hC hlen hput (va_runV CX (hM H.size) cw ⟨fun _ U g mk q => ⟨q.1, q.2.1, q.2.2.1, q.2.2.2.1, q.2.2.2.2.1.calling, hBb _ U g mk _ q.2.2.2.2.2⟩, hqc ▸ va_recv hE.1 hPr hc he, fun U hU hWm => ⟨rfl, by rw [hU], by rw [hU]; exact (hW.sub pl hnd hC).flat.1, (hW.sub pl hnd hC).flat.2.1.weaken (fun _ _ _ _ => trivial), hE.warm hWm, hB U hU hWm (fun q h => by
    rcases h with ⟨k, e, h⟩ | h
    · exact (hW.sub pl hnd hC).flat.2.1.2 k _ h
    · exact hA q (Nat.le_trans hW.2.2.1 h))⟩⟩ rfl hn hls hst (lv_room (ls := ls) hroom) hdg hcs) kk
theorem muiVS {B : (Nat → Prop) → State → Prop} {y : MethodName} {bytes : ByteArray} {maxL n index : Nat} {ret : Option FieldType} {wy : List Cond} {rm : Room} {C : String} {b : Nat} {As rest st0 : List Value} {wc w1 : List va_W} {wr : va_W} {v : Int32} (CX : CallFix p m c cc nL s args Ts own) (hE : EK G cA s) (hW : wldS G A segs H0 H locs) (hA : ∀ q, H0.size ≤ q → A q) (hM : MUi l y wy rm G cA B wc.flatten (.ref b :: As) w1.flatten v) (cw : CallW R s args own C index y bytes maxL ret wy rm 0 0 n) (pl : List Nat) (hnd : va_nd pl = true) (hC : pl.map (fun i => segs[i]?) = wc.map some) (hlen : pl.length = w1.length) (hput : putL segs pl w1 = segs') (hPr : va_P G vwCl wr H) (q0 : Nat) {ci : Nat} {fs : List Value} (he : wr[q0]? = some (b, .inr (ci, fs))) {qc : vw_C} (hc : vwCl[ci]? = some qc) (hqc : qc.1 = C) (hBb : blindM B) (hB : ∀ U : State, U.heap = H → s.WarmedH U.vm → (∀ q, va_A wc.flatten H.size q → A q) → B (va_A wc.flatten H.size) U) (hn : As.length = n) (hls : ls.size = nL) (hst : st0 = As.reverse ++ .ref b :: rest) (hroom : (rest.map fun v => v.category).sum ≤ 8) (hdg : decode cc pc = .ok (.invokevirtual index, 3)) (hcs : cells ≤ R.cells ∧ slots ≤ R.slots)
    (kk : ∀ (H1 : Heap) (locs1 : List Loc), wldS G A segs' H0 H1 locs1 → W p l e R s m args below meth c H1 locs1 cells slots Q (F0 m (pc + 3) ls (.int v :: rest))) : W p l e R s m args below meth c H locs cells slots Q (F0 m pc ls st0) :=
  muiS0 hW hA pl hnd hC hlen hput (va_runV CX (hM H.size) cw ⟨fun _ U g mk q => ⟨q.1, q.2.1, q.2.2.1, q.2.2.2.1, q.2.2.2.2.1.calling, hBb _ U g mk _ q.2.2.2.2.2⟩, hqc ▸ va_recv hE.1 hPr hc he, fun U hU hWm => ⟨rfl, by rw [hU], by rw [hU]; exact (hW.sub pl hnd hC).flat.1, (hW.sub pl hnd hC).flat.2.1.weaken (fun _ _ _ _ => trivial), hE.warm hWm, hB U hU hWm (fun q h => by
    rcases h with ⟨k, e, h⟩ | h
    · exact (hW.sub pl hnd hC).flat.2.1.2 k _ h
    · exact hA q (Nat.le_trans hW.2.2.1 h))⟩⟩ rfl hn hls hst (lv_room (ls := ls) hroom) hdg hcs) kk
theorem muvVP {B : (Nat → Prop) → State → Prop} {y : MethodName} {bytes : ByteArray} {maxL n index : Nat} {ret : Option FieldType} {wy : List Cond} {rm : Room} {C : String} {b : Nat} {As rest st0 : List Value} {wc w1 : va_W} (CX : CallFix p m c cc nL s args Ts own) (hE : EK G cA s) (hW : wldS G A segs H0 H locs) (hA : ∀ q, H0.size ≤ q → A q) (hM : MUv l y wy rm G cA B wc (.ref b :: As) w1) (cw : CallW R s args own C index y bytes maxL ret wy rm 0 0 n) (k0 : Nat) (hk0 : segs[k0]? = some w) (pl : List Nat) (hnd : va_nd pl = true) (hC : pl.map (fun i => w[i]?) = wc.map some) (hlen : pl.length = w1.length) (hput : putW w pl w1 = w') (hset : segs.set k0 w' = segs') (q0 : Nat) {ci : Nat} {fs : List Value} (he : w[q0]? = some (b, .inr (ci, fs))) {qc : vw_C} (hc : vwCl[ci]? = some qc) (hqc : qc.1 = C) (hBb : blindM B) (hB : ∀ U : State, U.heap = H → s.WarmedH U.vm → (∀ q, va_A wc H.size q → A q) → B (va_A wc H.size) U) (hn : As.length = n) (hls : ls.size = nL) (hst : st0 = As.reverse ++ .ref b :: rest) (hroom : (rest.map fun v => v.category).sum ≤ 8) (hdg : decode cc pc = .ok (.invokevirtual index, 3)) (hcs : cells ≤ R.cells ∧ slots ≤ R.slots)
    (kk : ∀ (H1 : Heap) (locs1 : List Loc), wldS G A segs' H0 H1 locs1 → W p l e R s m args below meth c H1 locs1 cells slots Q (F0 m (pc + 3) ls rest)) : W p l e R s m args below meth c H locs cells slots Q (F0 m pc ls st0) :=
  muvP0 hW hA k0 hk0 pl hC hlen hput hset (va_runV CX (hM H.size) cw ⟨fun _ U g mk q => ⟨q.1, q.2.1, q.2.2.1, q.2.2.2.1, q.2.2.2.2.1.calling, hBb _ U g mk _ q.2.2.2.2.2⟩, hqc ▸ va_recv hE.1 (hW.hP k0 hk0) hc he, fun U hU hWm => ⟨rfl, by rw [hU], by rw [hU]; exact (wld_sub (hW.at k0 hk0) pl hnd hC).1, (wld_sub (hW.at k0 hk0) pl hnd hC).2.weaken (fun _ _ _ _ => trivial), hE.warm hWm, hB U hU hWm (wld_free (hW.at k0 hk0) hA pl hC)⟩⟩ rfl hn hls hst (lv_room (ls := ls) hroom) hdg hcs) kk
theorem muiVP {B : (Nat → Prop) → State → Prop} {y : MethodName} {bytes : ByteArray} {maxL n index : Nat} {ret : Option FieldType} {wy : List Cond} {rm : Room} {C : String} {b : Nat} {As rest st0 : List Value} {wc w1 : va_W} {v : Int32} (CX : CallFix p m c cc nL s args Ts own) (hE : EK G cA s) (hW : wldS G A segs H0 H locs) (hA : ∀ q, H0.size ≤ q → A q) (hM : MUi l y wy rm G cA B wc (.ref b :: As) w1 v) (cw : CallW R s args own C index y bytes maxL ret wy rm 0 0 n) (k0 : Nat) (hk0 : segs[k0]? = some w) (pl : List Nat) (hnd : va_nd pl = true) (hC : pl.map (fun i => w[i]?) = wc.map some) (hlen : pl.length = w1.length) (hput : putW w pl w1 = w') (hset : segs.set k0 w' = segs') (q0 : Nat) {ci : Nat} {fs : List Value} (he : w[q0]? = some (b, .inr (ci, fs))) {qc : vw_C} (hc : vwCl[ci]? = some qc) (hqc : qc.1 = C) (hBb : blindM B) (hB : ∀ U : State, U.heap = H → s.WarmedH U.vm → (∀ q, va_A wc H.size q → A q) → B (va_A wc H.size) U) (hn : As.length = n) (hls : ls.size = nL) (hst : st0 = As.reverse ++ .ref b :: rest) (hroom : (rest.map fun v => v.category).sum ≤ 8) (hdg : decode cc pc = .ok (.invokevirtual index, 3)) (hcs : cells ≤ R.cells ∧ slots ≤ R.slots)
    (kk : ∀ (H1 : Heap) (locs1 : List Loc), wldS G A segs' H0 H1 locs1 → W p l e R s m args below meth c H1 locs1 cells slots Q (F0 m (pc + 3) ls (.int v :: rest))) : W p l e R s m args below meth c H locs cells slots Q (F0 m pc ls st0) :=
  muiP0 hW hA k0 hk0 pl hC hlen hput hset (va_runV CX (hM H.size) cw ⟨fun _ U g mk q => ⟨q.1, q.2.1, q.2.2.1, q.2.2.2.1, q.2.2.2.2.1.calling, hBb _ U g mk _ q.2.2.2.2.2⟩, hqc ▸ va_recv hE.1 (hW.hP k0 hk0) hc he, fun U hU hWm => ⟨rfl, by rw [hU], by rw [hU]; exact (wld_sub (hW.at k0 hk0) pl hnd hC).1, (wld_sub (hW.at k0 hk0) pl hnd hC).2.weaken (fun _ _ _ _ => trivial), hE.warm hWm, hB U hU hWm (wld_free (hW.at k0 hk0) hA pl hC)⟩⟩ rfl hn hls hst (lv_room (ls := ls) hroom) hdg hcs) kk
end ROWSS
end
