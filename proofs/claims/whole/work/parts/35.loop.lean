/-! The law's claim: what holds at its entry, its end (the names' own text), its loop. -/
def R_law : String := "DippedWavesLaw"
def lw_P (b : Addr) (xs : List Int32) (args : Array Value) (s : State) : Prop := args = #[.ref b] ∧ s.IntsAt b xs ∧ xs.length ≤ 3072 ∧ (Jvm.Cond.and given_1 narrow_1).before args s = true
def lw_Q (_ : Array Value) (s : State) (o : Outcome) (t : State) : Prop := o = .returned (some (.int 1)) ∧ Framed s o t [] 600000 7302250
def lw_Z (below : List Frame) (a : Array Value) (s : State) : State → Prop := fun t => ∃ o, t.status = .running ∧ Ended t below o ∧ lw_Q a s o t
/-- the law's own end, with 1 on the stack, nothing written that was there before, its room as the claim has it -/
theorem lw_ret {p : Program} {l : Launch} {e : Env} {s : State} {m : MethodId} {below : List Frame} {meth : Method} {c : Code} {b : Nat} (hx : p.tables.exec = Jvm.exec) (hb : c.code = code) (hr : meth.sig.returnType = ret) (hlocks : meth.locks = false) {pc : Nat} {H : Heap} {ls : Array Slot} (hdg : decode code pc = .ok (.ireturn, 1)) : W p l e room_1 s m #[Value.ref b] below meth c H [] 600000 7302250 (lw_Z below #[Value.ref b] s) (F0 m pc ls [.int 1]) := by
  intro T hT X
  obtain ⟨fs, hret, hrun, hended, hW, hframe⟩ := X.leave (v := some (.int 1)) (hlocks := hlocks) (fun h => by rw [hr] at h; cases h)
  have hmeth' : T.vm.method? m = some meth := X.method'
  refine ⟨T.setFrames fs, ?_, .returned (some (.int 1)), hrun, hended, rfl, ⟨_, rfl⟩, hW, hframe⟩
  jvm_step X.here [X.here.top, hx, hb, hdg, hmeth', hr, ret, narrow_b1]
  (try refine ⟨rfl, ?_⟩); (try refine ⟨rfl, ?_⟩)
  first | (intro acts; rw [hret _ acts rfl rfl rfl]) | rw [hret _ _ rfl rfl rfl]
  exact Steps.refl _
/-- what holds at the law's entry: the machine, the code, the tables' words (any of lw_tbl by 'hts w (by decide +kernel)'), the script of L ints xs at the cell b, what the Statement gives of the start (any of its parts by flat_of_before) -/
def lw_At (p : Program) (s : State) (m : MethodId) (meth : Method) (c : Code) (b L : Nat) (xs : Nat → Int32) : Prop :=
  p.tables.exec = Jvm.exec ∧ c.code = code ∧ meth.sig.returnType = ret ∧ c.maxLocals = 4 ∧ s.vm.findClass R_law = some m.cls ∧ (∀ w ∈ lw_tbl, w.before #[Value.ref b] s = true) ∧ va_X b L xs s s.heap ∧ b < s.heap.size ∧ meth.locks = false ∧ (Jvm.Cond.and given_1 narrow_1).before #[Value.ref b] s = true
/-! The law's loop, and the law from its entry. -/
set_option maxHeartbeats 8000000 in
set_option maxRecDepth 100000 in
theorem law_loop {p_ : Program} {l : Launch} {e_ : Env} {s_ : State} {m_ : MethodId} {below : List Frame} {meth : Method} {c_ : Code} {cells slots : Nat} {G : va_G} {cA : Nat → ClassId} {x m : Nat → Nat} {bq L tl_ tm_ q_ v_ : Nat} {xs : Nat → Int32} (hL : L ≤ 3072) (C0 : lw_At p_ s_ m_ meth c_ bq L xs) (hE : EK G cA s_) (K : KSM tl_ tm_ (fun q => s_.heap.size ≤ q) s_) (BB : BSM q_ v_ (fun q => s_.heap.size ≤ q) s_) (hcs : cells ≤ room_1.cells ∧ slots ≤ room_1.slots) :
    ∀ (n i : Nat), i ≤ L → L < i + n → ∀ (H : Heap) (locs : List Loc) (ls : Array Slot), LInv G cA (fun q => s_.heap.size ≤ q) x m s_.heap H locs → lv_has ls 4 [(3, .int (nI i)), (2, .ref (m 0)), (1, .ref (x 0)), (0, .ref bq)] → W p_ l e_ room_1 s_ m_ #[Value.ref bq] below meth c_ H locs cells slots (lw_Z below #[Value.ref bq] s_) (F0 m_ 18 ls []) := by
  obtain ⟨hx, hb, hr, hml, hown, htn, hX, hbl, hlocks, hgv⟩ := C0
  have hts : ∀ w ∈ wsL_law, w.before #[Value.ref bq] s_ = true := fun w h => htn w (wsL_law_in w h)
  have CX : CallFix p_ m_ c_ cL_law 4 s_ #[Value.ref bq] wsL_law RL := ⟨hx, hb, hml, hown, hts⟩
  have hA : ∀ q : Nat, s_.heap.size ≤ q → (fun q : Nat => s_.heap.size ≤ q) q := fun _ h => h
  have hbA : ¬ (fun q : Nat => s_.heap.size ≤ q) bq := Nat.not_le.mpr hbl
  intro n
  induction n with
  | zero =>
    intro i h1 h2
    exact absurd h2 (by omega)
  | succ n ih =>
    intro i hiL hin H locs ls hI hl
    have hS : va_S (fun q => s_.heap.size ≤ q) s_.heap H locs := by
      obtain ⟨a, b, g, h, ha, T, S, U, V, hT, hn, ty, sv, svm, pd, pdm, z, pa, sl, sp, th, hW, -⟩ := hI
      exact hW.2.2
    refine lv_iload_n hx hb dL_law_18 rfl (lv_at hl 0 rfl) ?_
    refine lv_aload_n hx hb dL_law_19 rfl (lv_at hl 3 rfl) ?_
    refine va_slen hx hb hX hbl hbA hS dL_law_20 ?_
    refine lv_bipush (v := nI 6) hx hb dL_law_21 (by decide +kernel) ?_
    refine lv_isub hx hb dL_law_23 ?_
    refine lv_icmp_gt (tgt := 929) hx hb dL_law_24 (by decide) (fun c_24 => ?_) (fun c_24 => ?_)
    · refine rn_iconst hx hb 1 rfl dL_law_929 ?_
      refine va_forget (fun q hq => hS.2.2 q hq) ?_
      refine W.widen (k := 600000) (n := 7302250) hcs.1 hcs.2 ?_
      exact lw_ret hx hb hr hlocks dL_law_930
    · have hi6 : i + 6 ≤ L := by
        have h := Int32.le_iff_toInt_le.mp (Int32.not_lt.mp c_24)
        rw [show Int32.ofNat L = nI L from rfl, pk_sub_toInt (by omega) (by decide), nI_toInt (by omega)] at h
        omega
      have NEXT : ∀ (H : Heap) (locs : List Loc), LInv G cA (fun q => s_.heap.size ≤ q) x m s_.heap H locs → W p_ l e_ room_1 s_ m_ #[Value.ref bq] below meth c_ H locs cells slots (lw_Z below #[Value.ref bq] s_) (F0 m_ 923 ls []) := by
        intro H locs hI
        refine rn_iinc hx hb (n := 6) (lv' := [(3, .int (nI (i + 6))), (2, .ref (m 0)), (1, .ref (x 0)), (0, .ref bq)]) rfl dL_law_923 hl (k := 0) rfl (by decide) rfl (fun ls hl => ?_)
        refine lv_goto (tgt := 18) hx hb dL_law_926 (by decide) ?_
        exact ih (i + 6) hi6 (by omega) H locs ls hI hl
      refine lv_aload_n hx hb dL_law_27 rfl (lv_at hl 3 rfl) ?_
      refine lv_iload_n hx hb dL_law_28 rfl (lv_at hl 0 rfl) ?_
      refine rl_ld (v := xs i) hx hb hX hbl hbA hS (j := i) (by omega) hL rfl dL_law_29 ?_
      refine lv_bipush (v := nI 31) hx hb dL_law_30 (by decide +kernel) ?_
      refine lv_iand hx hb dL_law_32 ?_
      generalize xs i &&& nI 31 = w
      rcases tsw_cases w 0 24 with c_33 | ⟨c_33, d_33⟩
      · exact lv_tableOut (tgt := 923) hx hb dL_law_33 c_33 (by decide) (NEXT H locs hI)
      · obtain ⟨k_, hk_, e_33⟩ := tsw_split w 0 25 (by omega) (by omega)
        match k_, hk_, e_33 with
        | 0, _, e_33 =>
          refine lv_tableIn (tgt := 148) (off := 115) hx hb dL_law_33 (by omega) (by omega) (by rw [e_33]; rfl) (by decide) ?_
          exact L_set CX hE hA hX hbl hbA hi6 hL K BB hcs hl hI NEXT
        | 1, _, e_33 =>
          refine lv_tableIn (tgt := 181) (off := 148) hx hb dL_law_33 (by omega) (by omega) (by rw [e_33]; rfl) (by decide) ?_
          exact L_floor CX hE hA hX hbl hbA hi6 hL K BB hcs hl hI NEXT
        | 2, _, e_33 =>
          refine lv_tableIn (tgt := 224) (off := 191) hx hb dL_law_33 (by omega) (by omega) (by rw [e_33]; rfl) (by decide) ?_
          exact L_read CX hE hA hX hbl hbA hi6 hL K BB hcs hl hI NEXT
        | 3, _, e_33 =>
          refine lv_tableIn (tgt := 237) (off := 204) hx hb dL_law_33 (by omega) (by omega) (by rw [e_33]; rfl) (by decide) ?_
          exact L_clear CX hE hA hX hbl hbA hi6 hL K BB hcs hl hI NEXT
        | 4, _, e_33 =>
          refine lv_tableIn (tgt := 250) (off := 217) hx hb dL_law_33 (by omega) (by omega) (by rw [e_33]; rfl) (by decide) ?_
          exact L_dip CX hE hA hX hbl hbA hi6 hL K BB hcs hl hI NEXT
        | 5, _, e_33 =>
          refine lv_tableIn (tgt := 313) (off := 280) hx hb dL_law_33 (by omega) (by omega) (by rw [e_33]; rfl) (by decide) ?_
          exact L_takeOut CX hE hA hX hbl hbA hi6 hL K BB hcs hl hI NEXT
        | 6, _, e_33 =>
          refine lv_tableIn (tgt := 336) (off := 303) hx hb dL_law_33 (by omega) (by omega) (by rw [e_33]; rfl) (by decide) ?_
          exact L_drop CX hE hA hX hbl hbA hi6 hL K BB hcs hl hI NEXT
        | 7, _, e_33 =>
          refine lv_tableIn (tgt := 379) (off := 346) hx hb dL_law_33 (by omega) (by omega) (by rw [e_33]; rfl) (by decide) ?_
          exact L_probe CX hE hA hX hbl hbA hi6 hL K BB hcs hl hI NEXT
        | 8, _, e_33 =>
          refine lv_tableIn (tgt := 412) (off := 379) hx hb dL_law_33 (by omega) (by omega) (by rw [e_33]; rfl) (by decide) ?_
          exact L_pass CX hE hA hX hbl hbA hi6 hL K BB hcs hl hI NEXT
        | 9, _, e_33 =>
          refine lv_tableIn (tgt := 435) (off := 402) hx hb dL_law_33 (by omega) (by omega) (by rw [e_33]; rfl) (by decide) ?_
          exact L_cell CX hE hA hX hbl hbA hi6 hL K BB hcs hl hI NEXT
        | 10, _, e_33 =>
          refine lv_tableIn (tgt := 478) (off := 445) hx hb dL_law_33 (by omega) (by omega) (by rw [e_33]; rfl) (by decide) ?_
          exact L_dipper CX hE hA hX hbl hbA hi6 hL K BB hcs hl hI NEXT
        | 11, _, e_33 =>
          refine lv_tableIn (tgt := 511) (off := 478) hx hb dL_law_33 (by omega) (by omega) (by rw [e_33]; rfl) (by decide) ?_
          exact L_ofProbe CX hE hA hX hbl hbA hi6 hL K BB hcs hl hI NEXT
        | 12, _, e_33 =>
          refine lv_tableIn (tgt := 544) (off := 511) hx hb dL_law_33 (by omega) (by omega) (by rw [e_33]; rfl) (by decide) ?_
          exact L_seen CX hE hA hX hbl hbA hi6 hL K BB hcs hl hI NEXT
        | 13, _, e_33 =>
          refine lv_tableIn (tgt := 577) (off := 544) hx hb dL_law_33 (by omega) (by omega) (by rw [e_33]; rfl) (by decide) ?_
          exact L_count CX hE hA hX hbl hbA hi6 hL K BB hcs hl hI NEXT
        | 14, _, e_33 =>
          refine lv_tableIn (tgt := 600) (off := 567) hx hb dL_law_33 (by omega) (by omega) (by rw [e_33]; rfl) (by decide) ?_
          exact L_loudest CX hE hA hX hbl hbA hi6 hL K BB hcs hl hI NEXT
        | 15, _, e_33 =>
          refine lv_tableIn (tgt := 623) (off := 590) hx hb dL_law_33 (by omega) (by omega) (by rw [e_33]; rfl) (by decide) ?_
          exact L_crests CX hE hA hX hbl hbA hi6 hL K BB hcs hl hI NEXT
        | 16, _, e_33 =>
          refine lv_tableIn (tgt := 646) (off := 613) hx hb dL_law_33 (by omega) (by omega) (by rw [e_33]; rfl) (by decide) ?_
          exact L_ifPassed CX hE hA hX hbl hbA hi6 hL K BB hcs hl hI NEXT
        | 17, _, e_33 =>
          refine lv_tableIn (tgt := 689) (off := 656) hx hb dL_law_33 (by omega) (by omega) (by rw [e_33]; rfl) (by decide) ?_
          exact L_comes CX hE hA hX hbl hbA hi6 hL K BB hcs hl hI NEXT
        | 18, _, e_33 =>
          refine lv_tableIn (tgt := 722) (off := 689) hx hb dL_law_33 (by omega) (by omega) (by rw [e_33]; rfl) (by decide) ?_
          exact L_hush CX hE hA hX hbl hbA hi6 hL K BB hcs hl hI NEXT
        | 19, _, e_33 =>
          refine lv_tableIn (tgt := 785) (off := 752) hx hb dL_law_33 (by omega) (by omega) (by rw [e_33]; rfl) (by decide) ?_
          exact L_put CX hE hA hX hbl hbA hi6 hL K BB hcs hl hI NEXT
        | 20, _, e_33 =>
          refine lv_tableIn (tgt := 838) (off := 805) hx hb dL_law_33 (by omega) (by omega) (by rw [e_33]; rfl) (by decide) ?_
          exact L_wipe CX hE hA hX hbl hbA hi6 hL K BB hcs hl hI NEXT
        | 21, _, e_33 =>
          refine lv_tableIn (tgt := 851) (off := 818) hx hb dL_law_33 (by omega) (by omega) (by rw [e_33]; rfl) (by decide) ?_
          exact L_fault CX hE hA hX hbl hbA hi6 hL K BB hcs hl hI NEXT
        | 22, _, e_33 =>
          refine lv_tableIn (tgt := 864) (off := 831) hx hb dL_law_33 (by omega) (by omega) (by rw [e_33]; rfl) (by decide) ?_
          exact L_undo CX hE hA hX hbl hbA hi6 hL K BB hcs hl hI NEXT
        | 23, _, e_33 =>
          refine lv_tableIn (tgt := 877) (off := 844) hx hb dL_law_33 (by omega) (by omega) (by rw [e_33]; rfl) (by decide) ?_
          exact L_save CX hE hA hX hbl hbA hi6 hL K BB hcs hl hI NEXT
        | 24, _, e_33 =>
          refine lv_tableIn (tgt := 900) (off := 867) hx hb dL_law_33 (by omega) (by omega) (by rw [e_33]; rfl) (by decide) ?_
          exact L_restore CX hE hA hX hbl hbA hi6 hL K BB hcs hl hI NEXT
        | k + 25, h, _ => exact absurd h (by omega)
theorem lwm_X5 : Cond.instanceMethod yX5_init ∈ wsL_law := by decide +kernel
theorem lwm_X6 : Cond.instanceMethod yX6_init ∈ wsL_law := by decide +kernel
theorem lwl_X5 : Cond.methodLink RL 9 yX5_init ∈ wsL_law := by decide +kernel
theorem lwl_X6 : Cond.methodLink RL 12 yX6_init ∈ wsL_law := by decide +kernel
theorem lwc_X5 : Cond.classLink RL 7 RX5 ∈ wsL_law := by decide +kernel
theorem lwc_X6 : Cond.classLink RL 10 RX6 ∈ wsL_law := by decide +kernel
theorem lwn_X5 : Cond.initialized RX5 ∈ wsL_law := by decide +kernel
theorem lwn_X6 : Cond.initialized RX6 ∈ wsL_law := by decide +kernel
theorem dfsl_X5 : ∀ j, j < 6 → defaultValue (tyX5 j) = vp_V [.null, .null, .null, .null, .null, .null] j
  | 0, _ => rfl
  | 1, _ => rfl
  | 2, _ => rfl
  | 3, _ => rfl
  | 4, _ => rfl
  | 5, _ => rfl
  | j + 6, h => absurd h (by omega)
theorem hdl_X5_init : yX5_init.cls ≠ "java/lang/invoke/MethodHandle" ∧ yX5_init.cls ≠ "java/lang/invoke/VarHandle" ∧ (parseMethodDescriptor yX5_init.desc).map (fun d => d.parameters.length) = some 0 := by decide +kernel
theorem dfsl_X6 : ∀ j, j < 9 → defaultValue (tyX6 j) = vp_V [.null, .null, .null, .null, .int (nI 0), .null, .null, .int (nI 0), .null] j
  | 0, _ => rfl
  | 1, _ => rfl
  | 2, _ => rfl
  | 3, _ => rfl
  | 4, _ => rfl
  | 5, _ => rfl
  | 6, _ => rfl
  | 7, _ => rfl
  | 8, _ => rfl
  | j + 9, h => absurd h (by omega)
theorem hdl_X6_init : yX6_init.cls ≠ "java/lang/invoke/MethodHandle" ∧ yX6_init.cls ≠ "java/lang/invoke/VarHandle" ∧ (parseMethodDescriptor yX6_init.desc).map (fun d => d.parameters.length) = some 0 := by decide +kernel
set_option maxHeartbeats 8000000 in
set_option maxRecDepth 100000 in
theorem whole_start {p : Program} {e : Env} {s : State} {m : MethodId} {below : List Frame} {meth : Method} {c : Code} (l : Launch) (hflags : l.flags = flags0) {b L : Nat} {xs : Nat → Int32} (hL : L ≤ 3072) (C0 : lw_At p s m meth c b L xs) : W p l e room_1 s m #[Value.ref b] below meth c s.heap [] 0 0 (lw_Z below #[Value.ref b] s) (entryFrame m ([Value.ref b] : List Value).toArray 4) := by
  obtain ⟨hx, hb, hr, hml, hown, htn, hX, hbl, hlocks, hgv⟩ := id C0
  have hts : ∀ w ∈ wsL_law, w.before #[Value.ref b] s = true := fun w h => htn w (wsL_law_in w h)
  have CX : CallFix p m c cL_law 4 s #[Value.ref b] wsL_law RL := ⟨hx, hb, hml, hown, hts⟩
  have hA : ∀ q : Nat, s.heap.size ≤ q → (fun q : Nat => s.heap.size ≤ q) q := fun _ h => h
  have hnA : ∀ a : Nat, a < s.heap.size → ¬ (fun q : Nat => s.heap.size ≤ q) a := fun a h => Nat.not_le.mpr h
  obtain ⟨G, cA, hE⟩ := ek_start hts htn
  obtain ⟨tl_, tm_, K⟩ := ks_start htn hgv hnA
  obtain ⟨t_, F⟩ := fs_start htn hgv hnA
  obtain ⟨q_, v_, BB⟩ := bs_start htn hgv hnA
  have hl := lv_entry ([.ref b]) (n := 4) (Nat.le_of_ble_eq_true rfl)
  rw [lg_entry_eq]
  generalize (lg_sl ([.ref b]) ++ List.replicate (4 - (lg_sl ([.ref b])).length) Slot.unset).toArray = ls at hl ⊢
  have hl : lv_has ls 4 [(0, .ref b)] := hl
  have hW : wld G (fun q => s.heap.size ≤ q) [] s.heap s.heap [] := ⟨fun k q h => by simp at h, ⟨fun i j p q h => by simp at h, fun k q h => by simp at h⟩, va_S.rf⟩
  refine rn_new (C := RX5) (T := TX5) (N := 6) (ci := 5) (fs := [.null, .null, .null, .null, .null, .null]) CX hE hW hA inlX5 tyX5 tyX5_ok lwc_X5 lwi_X5 lwn_X5 rfl dfsl_X5 (Nat.le_of_ble_eq_true rfl) (Nat.le_of_ble_eq_true rfl) dL_law_0 (fun q1 H hW => ?_)
  refine lv_dup hx hb dL_law_3 rfl ?_
  refine mkI (ws := []) (rest := [.ref q1]) CX hE hW hA (c_X5_init l G cA t_ q1) (cwI 0 hts gL_law_X5_init rfl rfl rfl (hts _ lwn_X5) (hts _ lwl_X5) (hts _ lwm_X5) rfl hdl_X5_init ⟨Nat.le_of_ble_eq_true rfl, Nat.le_of_ble_eq_true rfl⟩) (FSM_blind t_) (fun U hU hWm hq => F.sub hW.2.2 hU hWm hq) hl.1 rfl (Nat.le_of_ble_eq_true rfl) dL_law_4 ⟨Nat.le_of_ble_eq_true rfl, Nat.le_of_ble_eq_true rfl⟩ (fun u1 H locs hW => ?_)
  refine lv_astore_n (lv' := [(1, .ref q1), (0, .ref b)]) hx hb dL_law_7 rfl hl (by decide) rfl (fun ls hl => ?_)
  refine rn_new (C := RX6) (T := TX6) (N := 9) (ci := 6) (fs := [.null, .null, .null, .null, .int (nI 0), .null, .null, .int (nI 0), .null]) CX hE hW hA inlX6 tyX6 tyX6_ok lwc_X6 lwi_X6 lwn_X6 rfl dfsl_X6 (Nat.le_of_ble_eq_true rfl) (Nat.le_of_ble_eq_true rfl) dL_law_8 (fun q2 H hW => ?_)
  refine lv_dup hx hb dL_law_11 rfl ?_
  refine mkI (rest := [.ref q2]) CX hE hW hA (c_X6_init l G cA q2) (cwI 0 hts gL_law_X6_init rfl rfl rfl (hts _ lwn_X6) (hts _ lwl_X6) (hts _ lwm_X6) rfl hdl_X6_init ⟨Nat.le_of_ble_eq_true rfl, Nat.le_of_ble_eq_true rfl⟩) BM0_blind (fun _ _ _ _ => trivial) hl.1 rfl (Nat.le_of_ble_eq_true rfl) dL_law_12 ⟨Nat.le_of_ble_eq_true rfl, Nat.le_of_ble_eq_true rfl⟩ (fun u2 H locs hW => ?_)
  refine lv_astore_n (lv' := [(2, .ref q2), (1, .ref q1), (0, .ref b)]) hx hb dL_law_15 rfl hl (by decide) rfl (fun ls hl => ?_)
  refine rn_iconst hx hb 0 rfl dL_law_16 ?_
  refine lv_istore_n (lv' := [(3, .int (nI 0)), (2, .ref q2), (1, .ref q1), (0, .ref b)]) hx hb dL_law_17 rfl hl (by decide) rfl (fun ls hl => ?_)
  have hW : wldS G (fun q => s.heap.size ≤ q) ([[(q1, .inr (5, [.ref (prt u1 1 0), .ref (prt u1 2 0), .ref (prt u1 0 2), .ref (prt u1 0 0), .ref (prt u1 0 1), .ref (prt u1 0 4)]))], [(prt u1 0 2, .inr (1, [.ref (prt u1 0 3), .int (nI 0)])), (prt u1 0 3, .inl (cA 3, 6, .inr (.inr (.inr (.inr (stR (fun k => prt u1 (5 + k))))))))], tkW cA (prt u1 5) T0, tkW cA (prt u1 6) T0, tkW cA (prt u1 7) T0, tkW cA (prt u1 8) T0, tkW cA (prt u1 9) T0, tkW cA (prt u1 10) T0, tkW cA (prt u1 1) T0, tkW cA (prt u1 2) T0, [(prt u1 0 0, .inl (cA 3, 2, .inr (.inr (.inr (.inr (sl2 (prt u1 3 0) (prt u1 4 0))))))), (prt u1 0 1, .inl (cA 2, 2, .inl (fun _ => nI 0)))], tkW cA (prt u1 3) T0, tkW cA (prt u1 4) T0, [(prt u1 0 4, .inr (2, [.ref (prt u1 0 5), .int (nI 0)])), (prt u1 0 5, .inl (cA 1, 72, .inl (fun _ => nI 0)))]] ++ [[(q2, .inr (6, [.ref (u2 0), .ref (u2 1), .ref (u2 2), .ref (u2 3), .int (nI 0), .ref (u2 4), .ref (u2 5), .int (nI 0), .ref (u2 6)])), (u2 0, .inl (cA 0, 345, .inl (z0F))), (u2 1, .inl (cA 0, 2070, .inl (fun _ => nI 0))), (u2 2, .inl (cA 0, 690, .inl (fun _ => nI 0))), (u2 3, .inl (cA 2, 2, .inl (fun _ => nI 0))), (u2 4, .inl (cA 0, 345, .inl (fun _ => nI 0))), (u2 5, .inl (cA 1, 72, .inl (fun _ => nI 0))), (u2 6, .inl (cA 0, 60, .inl (fun _ => nI 0)))]]) s.heap H locs := wldS.snoc hW
  have hI : LInv G cA (fun q => s.heap.size ≤ q) (consN q1 (prt u1 0)) (consN q2 u2) s.heap H locs :=
    ⟨prt u1 1, prt u1 2, prt u1 3, prt u1 4, fun k => prt u1 (5 + k), T0, T0, T0, T0, fun _ => T0, 0, 0, fun _ => nI 0, fun _ => nI 0, fun _ => nI 0, fun _ => nI 0, z0F, fun _ => nI 0, fun _ => nI 0, fun _ => nI 0, fun _ => nI 0, hW, st_start, ⟨Nat.zero_le _, fun k hk => absurd hk (Nat.not_lt_zero k)⟩, ⟨rfl, rfl⟩, fun h => absurd rfl h, fun h => absurd rfl h, Nat.zero_le _, fun j hj => absurd hj (Nat.not_lt_zero j)⟩
  exact law_loop hL C0 hE K BB ⟨Nat.le_of_ble_eq_true rfl, Nat.le_of_ble_eq_true rfl⟩ (L + 1) 0 (Nat.zero_le L) (by omega) H locs ls hI hl
