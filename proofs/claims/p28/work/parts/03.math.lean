/-! Words for the numbers, and the rows that speak of them. -/
theorem ltb {a b : Nat} (h : Nat.ble (a + 1) b = true) : a < b := Nat.le_of_ble_eq_true h
def iabs (x : Int32) : Int32 := if 0 ≤ x then x else 0 - x
def imax (x y : Int32) : Int32 := if x < y then y else x
def imin (x y : Int32) : Int32 := if y < x then y else x
def b2i (P : Prop) [Decidable P] : Int32 := if P then nI 1 else nI 0
theorem b2i_t {P : Prop} [Decidable P] (h : P) : nI 1 = b2i P := (if_pos h).symm
theorem b2i_f {P : Prop} [Decidable P] (h : ¬ P) : nI 0 = b2i P := (if_neg h).symm
theorem b2i_1 {P : Prop} [Decidable P] (h : P) : b2i P = nI 1 := if_pos h
theorem b2i_0 {P : Prop} [Decidable P] (h : ¬ P) : b2i P = nI 0 := if_neg h
theorem b2i_nar {P : Prop} [Decidable P] : narrow .boolean (.int (b2i P)) = .int (b2i P) := by
  unfold b2i; split <;> rfl
def sumI : Nat → (Nat → Int32) → Int32
  | 0, _ => nI 0
  | n + 1, f => sumI n f + f n
theorem sumI_congr {n : Nat} {f g : Nat → Int32} (h : ∀ j, j < n → f j = g j) : sumI n f = sumI n g := by
  induction n with
  | zero => rfl
  | succ n ih => simp only [sumI]; rw [ih (fun j hj => h j (Nat.lt_succ_of_lt hj)), h n (Nat.lt_succ_self n)]
abbrev ncl (x : Int32) : Nat := x.toNatClampNeg
abbrev inP (x a b : Int32) : Prop := a ≤ x ∧ x ≤ b
abbrev cellP (x y : Int32) : Prop := inP x (nI 0) (nI 9) ∧ inP y (nI 0) (nI 5)
theorem inP_nat {x : Int32} {n : Nat} (hn : n < 2147483648) (h : inP x (nI 0) (nI n)) : ∃ k, k ≤ n ∧ x = nI k := by
  have h0 : ¬ x < 0 := Int32.not_lt.mpr h.1
  obtain ⟨j, hj, rfl⟩ := nI_of h0
  exact ⟨j, (nI_leI hj hn).mp h.2, rfl⟩
theorem inP_nat1 {x : Int32} {m n : Nat} (hn : n < 2147483648) (h : inP x (nI m) (nI n)) (hm : m < 2147483648) : ∃ k, m ≤ k ∧ k ≤ n ∧ x = nI k := by
  have h0 : nI 0 ≤ x := Int32.le_trans (nI_le (Nat.zero_le m) hm) h.1
  obtain ⟨k, hk, rfl⟩ := inP_nat hn ⟨h0, h.2⟩
  exact ⟨k, (nI_leI hm (by omega)).mp h.1, hk, rfl⟩
theorem cellP_nat {x y : Int32} (h : cellP x y) : ∃ i j, i < 10 ∧ j < 6 ∧ x = nI i ∧ y = nI j := by
  obtain ⟨i, hi, rfl⟩ := inP_nat (by decide) h.1
  obtain ⟨j, hj, rfl⟩ := inP_nat (by decide) h.2
  exact ⟨i, j, by omega, by omega, rfl, rfl⟩
theorem cellP_of {i j : Nat} (hi : i < 10) (hj : j < 6) : cellP (nI i) (nI j) :=
  ⟨⟨nI_le (by omega) (by omega), nI_le (by omega) (by omega)⟩, ⟨nI_le (by omega) (by omega), nI_le (by omega) (by omega)⟩⟩
theorem tsw_cases (x : Int32) (a b : Int) : (x.toInt < a ∨ b < x.toInt) ∨ (¬ x.toInt < a ∧ ¬ b < x.toInt) := by omega
theorem tsw_split (x : Int32) (a : Int) (n : Nat) (h1 : ¬ x.toInt < a) (h2 : x.toInt < a + n) : ∃ k, k < n ∧ (x.toInt - a).toNat = k := ⟨_, by omega, rfl⟩
section ROWSB
variable {p : Program} {l : Launch} {e : Env} {R : Room} {s : State} {m : MethodId} {args : Array Value} {below : List Frame} {meth : Method} {c : Code} {H : Heap} {locs : List Loc} {cells slots : Nat} {Q : State → Prop}
variable {cc : ByteArray} {pc nL : Nat} {ls : Array Slot} {rest : List Value} {G : va_G} {cA : Nat → ClassId} {A : Nat → Prop} {a : Nat} {ws ws' : va_W} {H0 : Heap} {Ts : List Cond} {own : String}
theorem rb_if_eq {P : Prop} [Decidable P] (hx : p.tables.exec = Jvm.exec) (hb : c.code = cc) {off : Int} {tgt : Nat} (hdg : decode cc pc = .ok (.ifCond .eq off, 3)) (ht : (pc : Int) + off = (tgt : Int)) (kt : ¬ P → W p l e R s m args below meth c H locs cells slots Q (F0 m tgt ls rest)) (kf : P → W p l e R s m args below meth c H locs cells slots Q (F0 m (pc + 3) ls rest)) : W p l e R s m args below meth c H locs cells slots Q (F0 m pc ls (.int (b2i P) :: rest)) :=
  lv_if_eq hx hb hdg ht (fun h => kt (fun z => by rw [b2i_1 z] at h; exact absurd h (by decide +kernel))) (fun h => kf (Decidable.not_not.mp fun z => h (by rw [b2i_0 z]; rfl)))
theorem rb_if_ne {P : Prop} [Decidable P] (hx : p.tables.exec = Jvm.exec) (hb : c.code = cc) {off : Int} {tgt : Nat} (hdg : decode cc pc = .ok (.ifCond .ne off, 3)) (ht : (pc : Int) + off = (tgt : Int)) (kt : P → W p l e R s m args below meth c H locs cells slots Q (F0 m tgt ls rest)) (kf : ¬ P → W p l e R s m args below meth c H locs cells slots Q (F0 m (pc + 3) ls rest)) : W p l e R s m args below meth c H locs cells slots Q (F0 m pc ls (.int (b2i P) :: rest)) :=
  lv_if_ne hx hb hdg ht (fun h => kt (Decidable.not_not.mp fun z => h (by rw [b2i_0 z]; rfl))) (fun h => kf (fun z => by rw [b2i_1 z] at h; exact absurd h (by decide +kernel)))
theorem rn_if_eq (hx : p.tables.exec = Jvm.exec) (hb : c.code = cc) {i : Nat} {off : Int} {tgt : Nat} (hi : i < 2147483648) (hdg : decode cc pc = .ok (.ifCond .eq off, 3)) (ht : (pc : Int) + off = (tgt : Int)) (kt : i = 0 → W p l e R s m args below meth c H locs cells slots Q (F0 m tgt ls rest)) (kf : i ≠ 0 → W p l e R s m args below meth c H locs cells slots Q (F0 m (pc + 3) ls rest)) : W p l e R s m args below meth c H locs cells slots Q (F0 m pc ls (.int (nI i) :: rest)) :=
  lv_if_eq hx hb hdg ht (fun h => kt ((nI_eq hi (by decide)).mp h)) (fun h => kf (fun z => h ((nI_eq hi (by decide)).mpr z)))
theorem rn_if_ne (hx : p.tables.exec = Jvm.exec) (hb : c.code = cc) {i : Nat} {off : Int} {tgt : Nat} (hi : i < 2147483648) (hdg : decode cc pc = .ok (.ifCond .ne off, 3)) (ht : (pc : Int) + off = (tgt : Int)) (kt : i ≠ 0 → W p l e R s m args below meth c H locs cells slots Q (F0 m tgt ls rest)) (kf : i = 0 → W p l e R s m args below meth c H locs cells slots Q (F0 m (pc + 3) ls rest)) : W p l e R s m args below meth c H locs cells slots Q (F0 m pc ls (.int (nI i) :: rest)) :=
  lv_if_ne hx hb hdg ht (fun h => kt (fun z => h ((nI_eq hi (by decide)).mpr z))) (fun h => kf ((nI_eq hi (by decide)).mp h))
theorem rn_if_le (hx : p.tables.exec = Jvm.exec) (hb : c.code = cc) {i : Nat} {off : Int} {tgt : Nat} (hi : i < 2147483648) (hdg : decode cc pc = .ok (.ifCond .le off, 3)) (ht : (pc : Int) + off = (tgt : Int)) (kt : i = 0 → W p l e R s m args below meth c H locs cells slots Q (F0 m tgt ls rest)) (kf : 0 < i → W p l e R s m args below meth c H locs cells slots Q (F0 m (pc + 3) ls rest)) : W p l e R s m args below meth c H locs cells slots Q (F0 m pc ls (.int (nI i) :: rest)) :=
  lv_if_le hx hb hdg ht (fun h => kt (Nat.le_zero.mp ((nI_leI hi (by decide)).mp h))) (fun h => kf (Nat.pos_of_ne_zero fun z => h (by rw [z]; exact Int32.le_refl _)))
theorem rn_if_lt (hx : p.tables.exec = Jvm.exec) (hb : c.code = cc) {i : Nat} {off : Int} {tgt : Nat} (hi : i < 2147483648) (hdg : decode cc pc = .ok (.ifCond .lt off, 3)) (ht : (pc : Int) + off = (tgt : Int)) (kt : False → W p l e R s m args below meth c H locs cells slots Q (F0 m tgt ls rest)) (kf : True → W p l e R s m args below meth c H locs cells slots Q (F0 m (pc + 3) ls rest)) : W p l e R s m args below meth c H locs cells slots Q (F0 m pc ls (.int (nI i) :: rest)) :=
  lv_if_lt hx hb hdg ht (fun h => kt (nI_pos hi h)) (fun _ => kf trivial)
theorem rn_copyF (CX : CallFix p m c cc nL s args Ts own) (hE : EK G cA s) (hW : wld G A ws H0 H locs) (hls : ls.size = nL) {index : Nat} (hlink : (Cond.methodLink own index arraycopyName).before args s = true) (hnat : (Cond.native arraycopyName).before args s = true) (hstat : (Cond.static arraycopyName).before args s = true) (hini : (Cond.initialized "java/lang/System").before args s = true)
    (q0 q1 : Nat) {a0 n : Nat} {f g : Nat → Int32} (ha0 : ws[q0]? = some (a0, .inl (cA 0, n, .inl f))) (ha1 : ws[q1]? = some (a, .inl (cA 0, n, .inl g))) (hframes : 1 ≤ R.frames) (hlocals : (rest.map fun v => v.category).sum + (nativeFrameWords "java/lang/System" "arraycopy" 5 + 11) ≤ R.locals) (hn : n < 2147483648) (hws : ws.set q1 (a, .inl (cA 0, n, .inl f)) = ws') (hdg : decode cc pc = .ok (.invokestatic index, 3))
    (kk : ∀ (H1 : Heap) (locs1 : List Loc), wld G A ws' H0 H1 locs1 → W p l e R s m args below meth c H1 locs1 cells slots Q (F0 m (pc + 3) ls rest)) : W p l e R s m args below meth c H locs cells slots Q (F0 m pc ls (.int (nI n) :: .int (nI 0) :: .ref a :: .int (nI 0) :: .ref a0 :: rest)) := by
  have e0 : (nI 0).toNatClampNeg = 0 := rfl
  refine va_copyi CX.1 CX.2.1 (by rw [CX.2.2.1]; exact hls.symm) CX.2.2.2.1 hlink hnat hstat hini hE.1 hW.1 hW.2.1 hW.2.2 q0 q1 0 0 ha0 ha1 rfl rfl rfl (nI_pos (by decide)) (nI_pos (by decide)) (nI_pos hn) (by rw [nI_clamp hn, e0]; omega) (by rw [nI_clamp hn, e0]; omega) (fun _ _ => rfl) hframes hlocals hdg (fun H1 l1 h1 h2 h3 => ?_)
  rw [nI_clamp hn, e0] at h1 h2
  have hl : q1 < ws.length := (List.getElem?_eq_some_iff.mp ha1).1
  have h9 : wld G A (ws.set q1 (a, .inl (cA 0, n, .inl (va_cpy f g 0 0 n)))) H0 H1 l1 := ⟨h1, h2, h3⟩
  exact kk H1 l1 (h9.ext q1 (g := f) (List.getElem?_set_self hl) (fun j hj => by rw [pk_cpy_in (Nat.zero_le _) (by omega)]; simp) (by rw [List.set_set, hws]))
theorem rn_copy (CX : CallFix p m c cc nL s args Ts own) (hE : EK G cA s) (hW : wld G A ws H0 H locs) (hls : ls.size = nL) {index : Nat} (hlink : (Cond.methodLink own index arraycopyName).before args s = true) (hnat : (Cond.native arraycopyName).before args s = true) (hstat : (Cond.static arraycopyName).before args s = true) (hini : (Cond.initialized "java/lang/System").before args s = true)
    (q0 q1 : Nat) {a0 n0 n1 : Nat} {f g : Nat → Int32} (ha0 : ws[q0]? = some (a0, .inl (cA 0, n0, .inl f))) (ha1 : ws[q1]? = some (a, .inl (cA 0, n1, .inl g))) {sp dp n : Nat} (h0 : sp + n ≤ n0) (h1 : dp + n ≤ n1) (h2 : sp < 2147483648 ∧ dp < 2147483648 ∧ n < 2147483648) (hframes : 1 ≤ R.frames) (hlocals : (rest.map fun v => v.category).sum + (nativeFrameWords "java/lang/System" "arraycopy" 5 + 11) ≤ R.locals) (hws : ws.set q1 (a, .inl (cA 0, n1, .inl (va_cpy f g sp dp n))) = ws') (hdg : decode cc pc = .ok (.invokestatic index, 3))
    (kk : ∀ (H1 : Heap) (locs1 : List Loc), wld G A ws' H0 H1 locs1 → W p l e R s m args below meth c H1 locs1 cells slots Q (F0 m (pc + 3) ls rest)) : W p l e R s m args below meth c H locs cells slots Q (F0 m pc ls (.int (nI n) :: .int (nI dp) :: .ref a :: .int (nI sp) :: .ref a0 :: rest)) := by
  refine va_copyi CX.1 CX.2.1 (by rw [CX.2.2.1]; exact hls.symm) CX.2.2.2.1 hlink hnat hstat hini hE.1 hW.1 hW.2.1 hW.2.2 q0 q1 0 0 ha0 ha1 rfl rfl rfl (nI_pos h2.1) (nI_pos h2.2.1) (nI_pos h2.2.2) (by rw [nI_clamp h2.1, nI_clamp h2.2.2]; exact h0) (by rw [nI_clamp h2.2.1, nI_clamp h2.2.2]; exact h1) (fun _ _ => rfl) hframes hlocals hdg (fun H1 l1 z1 z2 z3 => ?_)
  rw [nI_clamp h2.1, nI_clamp h2.2.1, nI_clamp h2.2.2, hws] at z1 z2
  exact kk H1 l1 ⟨z1, z2, z3⟩
theorem rn_aald3 (CX : CallFix p m c cc nL s args Ts own) (hE : EK G cA s) (hP : va_P G vwCl ws H) (q0 : Nat) {n : Nat} {f : Nat → Option Nat} (ha : ws[q0]? = some (a, .inl (cA 3, n, .inr (.inr (.inr (.inr f)))))) {j : Nat} (hj : j < n) (hn : n < 2147483648) {r : Nat} (hr : f j = some r) (hdg : decode cc pc = .ok (.aaload, 1)) (kk : W p l e R s m args below meth c H locs cells slots Q (F0 m (pc + 1) ls (.ref r :: rest))) : W p l e R s m args below meth c H locs cells slots Q (F0 m pc ls (.int (nI j) :: .ref a :: rest)) :=
  va_aldq CX.1 CX.2.1 hE.1 hP q0 3 ha rfl (vp_in_nI hj hn) hdg (by rw [nI_clamp (Nat.lt_trans hj hn), hr]; exact kk)
theorem rn_aald4 (CX : CallFix p m c cc nL s args Ts own) (hE : EK G cA s) (hP : va_P G vwCl ws H) (q0 : Nat) {n : Nat} {f : Nat → Option Nat} (ha : ws[q0]? = some (a, .inl (cA 4, n, .inr (.inr (.inr (.inr f)))))) {j : Nat} (hj : j < n) (hn : n < 2147483648) {r : Nat} (hr : f j = some r) (hdg : decode cc pc = .ok (.aaload, 1)) (kk : W p l e R s m args below meth c H locs cells slots Q (F0 m (pc + 1) ls (.ref r :: rest))) : W p l e R s m args below meth c H locs cells slots Q (F0 m pc ls (.int (nI j) :: .ref a :: rest)) := by
  have hin : vp_in (nI j) n := vp_in_nI hj hn
  have hcl : (nI j).toNatClampNeg = j := nI_clamp (Nat.lt_trans hj hn)
  refine W.aald (v := va_rf (f j)) (ty := .array .int) CX.1 CX.2.1 (hP q0 _ ha) ((hE.1.2 4 _ rfl).1 n (fun j => va_rf (f j))) rfl (fun q => by cases q) (by show ¬ (nI j < 0 ∨ (arrV _ _ _).slots.size ≤ _); rw [arrV_size]; exact hin) (by show (arrV _ _ _).slots[_]? = _; rw [hcl, arrV_read _ _ hj]) rfl rfl hdg ?_
  rw [hr]
  exact kk
end ROWSB
