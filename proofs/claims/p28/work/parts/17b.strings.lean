/-! The literal of the floor's signs: what is known of it, and rows on it. -/
abbrev AF : Nat → Prop := fun _ => False
def sgB : List Int32 := [46, 45, 35, 126]
/-- the literal lies at q, its bytes at v -/
def BS (q v : Nat) (U : State) : Prop := va_Z "java/lang/String" "COMPACT_STRINGS" "Z" (.int 1) AF U U.heap ∧ vk_S 1 [4] [sgB] (fun _ => q) (fun _ => v) AF U U.heap ∧ vk_R RX2 29 ".-#~" q U
theorem BS_blind (q v : Nat) : blindB (BS q v) := fun U g mk a h =>
  ⟨va_Z.moved (u := U) (U := U.calling g mk a) (Vm.Alike.refl U.vm) h.1, vk_S.moved (u := U) (U := U.calling g mk a) (Vm.Alike.refl U.vm) h.2.1, vk_R.same (u := U) (U := U.calling g mk a) rfl h.2.2⟩
theorem BS.use {q v : Nat} {s U : State} {H : Heap} (h : BS q v s) (hs : H = s.heap) (hU : U.heap = H) (hW : s.WarmedH U.vm) : BS q v U :=
  ⟨by rw [hU, hs]; exact va_Z.moved hW.alike h.1, by rw [hU, hs]; exact vk_S.moved hW.alike h.2.1, vk_R.warm hW h.2.2⟩
def idxF (c : Int32) : Int32 := if c = nI 46 then nI 0 else if c = nI 45 then nI 1 else if c = nI 35 then nI 2 else if c = nI 126 then nI 3 else -1
theorem idx_flo {c : Int32} (h : ¬ floF c = -6) : idxF c = floF c := by
  unfold idxF
  unfold floF at h ⊢
  by_cases a : c = nI 46
  · rw [if_pos a, if_pos a]
  · rw [if_neg a] at h ⊢
    rw [if_neg a]
    by_cases b : c = nI 45
    · rw [if_pos b, if_pos b]
    · rw [if_neg b] at h ⊢
      rw [if_neg b]
      by_cases d : c = nI 35
      · rw [if_pos d, if_pos d]
      · rw [if_neg d] at h ⊢
        rw [if_neg d]
        by_cases e : c = nI 126
        · rw [if_pos e, if_pos e]
        · rw [if_neg e] at h
          exact absurd rfl h
theorem idx_neg {c : Int32} : idxF c < 0 ↔ floF c = -6 := by
  unfold idxF floF
  by_cases a : c = nI 46
  · rw [if_pos a, if_pos a]; decide +kernel
  · rw [if_neg a, if_neg a]
    by_cases b : c = nI 45
    · rw [if_pos b, if_pos b]; decide +kernel
    · rw [if_neg b, if_neg b]
      by_cases d : c = nI 35
      · rw [if_pos d, if_pos d]; decide +kernel
      · rw [if_neg d, if_neg d]
        by_cases e : c = nI 126
        · rw [if_pos e, if_pos e]; decide +kernel
        · rw [if_neg e, if_neg e]; decide +kernel
theorem by46 : ∀ n, n < 256 → (nI 46 = (nI n).toInt8.toInt32 ↔ n = 46) := by decide +kernel
theorem by45 : ∀ n, n < 256 → (nI 45 = (nI n).toInt8.toInt32 ↔ n = 45) := by decide +kernel
theorem by35 : ∀ n, n < 256 → (nI 35 = (nI n).toInt8.toInt32 ↔ n = 35) := by decide +kernel
theorem by126 : ∀ n, n < 256 → (nI 126 = (nI n).toInt8.toInt32 ↔ n = 126) := by decide +kernel
theorem idx_nat {n : Nat} (hn : n < 256) : idxF (nI n) = if n = 46 then nI 0 else if n = 45 then nI 1 else if n = 35 then nI 2 else if n = 126 then nI 3 else -1 := by
  have e : ∀ k, k < 256 → (nI n = nI k ↔ n = k) := fun k hk => nI_eq (by omega) (by omega)
  unfold idxF
  simp only [e 46 (by decide), e 45 (by decide), e 35 (by decide), e 126 (by decide)]
theorem idx_out {c : Int32} (h : ¬ (0 ≤ c ∧ c ≤ nI 255)) : idxF c = -1 := by
  unfold idxF
  rw [if_neg (fun z => h (by rw [z]; decide +kernel)), if_neg (fun z => h (by rw [z]; decide +kernel)), if_neg (fun z => h (by rw [z]; decide +kernel)), if_neg (fun z => h (by rw [z]; decide +kernel))]
section ROWSQ
variable {p : Program} {l : Launch} {e : Env} {R : Room} {s : State} {m : MethodId} {args : Array Value} {below : List Frame} {meth : Method} {c : Code} {H : Heap} {locs : List Loc} {cells slots : Nat} {Q : State → Prop}
variable {cc : ByteArray} {pc nL : Nat} {ls : Array Slot} {rest : List Value} {G : va_G} {cA : Nat → ClassId} {Ts : List Cond} {own : String} {q v : Nat}
theorem roVq {B : State → Prop} {y : MethodName} {bytes : ByteArray} {maxL n index : Nat} {ret : Option FieldType} {wy : List Cond} {rm : Room} {As rest st0 : List Value} {x : Int32} (CX : CallFix p m c cc nL s args Ts own) (hE : EK G cA s) (hM : RO l y wy rm G cA B [] (.ref q :: As) x) (cw : CallW R s args own "java/lang/String" index y bytes maxL ret wy rm 0 0 n) (hS : BS q v s) (hBb : blindB B) (hB : ∀ U : State, U.heap = s.heap → s.WarmedH U.vm → B U) (hn : As.length = n) (hls : ls.size = nL) (hst : st0 = As.reverse ++ .ref q :: rest) (hroom : (rest.map fun v => v.category).sum ≤ 8) (hdg : decode cc pc = .ok (.invokevirtual index, 3)) (hcs : cells ≤ R.cells ∧ slots ≤ R.slots)
    (kk : W p l e R s m args below meth c s.heap [] cells slots Q (F0 m (pc + 3) ls (.int x :: rest))) : W p l e R s m args below meth c s.heap [] cells slots Q (F0 m pc ls st0) :=
  vp_callSi (va_runV CX hM cw ⟨fun _ U g mk z => ⟨z.1, z.2.1, z.2.2.1.calling, hBb U g mk _ z.2.2.2⟩, vk_recv hS.2.1 (i := 0) (by decide) va_S.rf, fun U hU hW => ⟨rfl, va_P_nil, hE.warm hW, hB U hU hW⟩⟩ rfl hn hls hst (lv_room (ls := ls) hroom) hdg hcs).run (fun r hr => hr ▸ kk)
theorem rq_cs (hx : p.tables.exec = Jvm.exec) (hb : c.code = cc) (hS : BS q v s) {own : String} {index : Nat} (hown : s.vm.findClass own = some m.cls) (hlink : (Cond.fieldLink own index "java/lang/String" "COMPACT_STRINGS" "Z").before args s = true) (hdg : decode cc pc = .ok (.getstatic index, 3)) (kk : W p l e R s m args below meth c s.heap [] cells slots Q (F0 m (pc + 3) ls (.int (nI 1) :: rest))) : W p l e R s m args below meth c s.heap [] cells slots Q (F0 m pc ls rest) :=
  va_gets hx hb hS.1 va_S.rf hown hlink (fun _ h => h) hdg kk
theorem rq_coder (hx : p.tables.exec = Jvm.exec) (hb : c.code = cc) (hS : BS q v s) {own : String} {index : Nat} (hown : s.vm.findClass own = some m.cls) (hlink : (Cond.fieldLink own index "java/lang/String" "coder" "B").before args s = true) (hdg : decode cc pc = .ok (.getfield index, 3)) (kk : W p l e R s m args below meth c s.heap [] cells slots Q (F0 m (pc + 3) ls (.int (nI 0) :: rest))) : W p l e R s m args below meth c s.heap [] cells slots Q (F0 m pc ls (.ref q :: rest)) :=
  vk_getf hx hb (hS.2.1.1 0 (by decide)).2.1 va_S.rf hown hlink (fun _ h => h) hdg kk
theorem rq_value (hx : p.tables.exec = Jvm.exec) (hb : c.code = cc) (hS : BS q v s) {own : String} {index : Nat} (hown : s.vm.findClass own = some m.cls) (hlink : (Cond.fieldLink own index "java/lang/String" "value" "[B").before args s = true) (hdg : decode cc pc = .ok (.getfield index, 3)) (kk : W p l e R s m args below meth c s.heap [] cells slots Q (F0 m (pc + 3) ls (.ref v :: rest))) : W p l e R s m args below meth c s.heap [] cells slots Q (F0 m pc ls (.ref q :: rest)) :=
  vk_getf hx hb (hS.2.1.1 0 (by decide)).2.2.1 va_S.rf hown hlink (fun _ h => h) hdg kk
theorem rq_len (hx : p.tables.exec = Jvm.exec) (hb : c.code = cc) (hS : BS q v s) (hdg : decode cc pc = .ok (.arraylength, 1)) (kk : W p l e R s m args below meth c s.heap [] cells slots Q (F0 m (pc + 1) ls (.int (nI 4) :: rest))) : W p l e R s m args below meth c s.heap [] cells slots Q (F0 m pc ls (.ref v :: rest)) :=
  va_tlen hx hb (hS.2.1.1 0 (by decide)).2.2.2 va_S.rf rfl hdg kk
theorem rq_byte (hx : p.tables.exec = Jvm.exec) (hb : c.code = cc) (hS : BS q v s) {j : Nat} (hj : j < 4) {x : Int32} (hv : sgB.getD j 0 = x) (hdg : decode cc pc = .ok (.baload, 1)) (kk : W p l e R s m args below meth c s.heap [] cells slots Q (F0 m (pc + 1) ls (.int x :: rest))) : W p l e R s m args below meth c s.heap [] cells slots Q (F0 m pc ls (.int (nI j) :: .ref v :: rest)) :=
  va_tb hx hb (hS.2.1.1 0 (by decide)).2.2.2 va_S.rf (vp_in_nI hj (by decide)) (by rw [nI_clamp (by omega)]; exact congrArg Value.int hv) hdg kk
end ROWSQ
