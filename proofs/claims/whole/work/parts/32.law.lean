/-! The law's loop: its invariant; small lemmas for the cases. -/
def LInv (G : va_G) (cA : Nat → ClassId) (A : Nat → Prop) (x m : Nat → Nat) (H0 H : Heap) (locs : List Loc) : Prop := ∃ (a : Nat → Nat) (b : Nat → Nat) (g : Nat → Nat) (h : Nat → Nat) (ha : Nat → Nat → Nat) (T : TV) (S : TV) (U : TV) (V : TV) (hT : Nat → TV) (hn : Nat) (ty : Nat) (sv : Nat → Int32) (svm : Nat → Int32) (pd : Nat → Int32) (pdm : Nat → Int32) (z : Nat → Int32) (pa : Nat → Int32) (sl : Nat → Int32) (sp : Nat → Int32) (th : Nat → Int32),
  wldS G A [[(x 0, .inr (5, [.ref (a 0), .ref (b 0), .ref (x 3), .ref (x 1), .ref (x 2), .ref (x 5)]))], [(x 3, .inr (1, [.ref (x 4), .int (nI hn)])), (x 4, .inl (cA 3, 6, .inr (.inr (.inr (.inr (stR ha))))))], tkW cA (ha 0) (hT 0), tkW cA (ha 1) (hT 1), tkW cA (ha 2) (hT 2), tkW cA (ha 3) (hT 3), tkW cA (ha 4) (hT 4), tkW cA (ha 5) (hT 5), tkW cA a T, tkW cA b S, [(x 1, .inl (cA 3, 2, .inr (.inr (.inr (.inr (sl2 (g 0) (h 0))))))), (x 2, .inl (cA 2, 2, .inl sv))], tkW cA g U, tkW cA h V, [(x 5, .inr (2, [.ref (x 6), .int (nI ty)])), (x 6, .inl (cA 1, 72, .inl pd))], [(m 0, .inr (6, [.ref (m 1), .ref (m 2), .ref (m 3), .ref (m 4), .int (nI hn), .ref (m 5), .ref (m 6), .int (nI ty), .ref (m 7)])), (m 1, .inl (cA 0, 345, .inl z)), (m 2, .inl (cA 0, 2070, .inl pa)), (m 3, .inl (cA 0, 690, .inl sl)), (m 4, .inl (cA 2, 2, .inl svm)), (m 5, .inl (cA 0, 345, .inl sp)), (m 6, .inl (cA 1, 72, .inl pdm)), (m 7, .inl (cA 0, 60, .inl th))]] H0 H locs ∧ St T z ∧ RelH hn hT pa ∧ (sv 0 = svm 0 ∧ sv 1 = svm 1) ∧ RelL svm 0 U sl ∧ RelL svm 1 V sl ∧ ty ≤ 72 ∧ ∀ j, j < ty → pd j = pdm j
theorem keep_rec {n : Nat} (h : n ≤ 6) : rec1 n + 1 = keepN n := by
  unfold rec1 keepN
  split <;> split <;> omega
theorem ltn_nat {d : Int32} {n : Nat} (hn : n < 2147483648) (h : 0 ≤ d ∧ d < nI n) : ∃ k, k < n ∧ d = nI k := by
  have h1 := Int32.le_iff_toInt_le.mp h.1
  have h2 := Int32.lt_iff_toInt_lt.mp h.2
  rw [nI_toInt (by omega)] at h2
  rw [show (0 : Int32).toInt = 0 from by decide] at h1
  refine ⟨d.toInt.toNat, by omega, ?_⟩
  apply Int32.toInt_inj.mp
  rw [nI_toInt (by omega)]
  omega
theorem inS_nat {g : Int32} {n : Nat} (hn : n ≤ 24) (h : inP g (nI 0) (nI n - nI 1)) : ∃ k, k < n ∧ g = nI k := by
  have h1 := Int32.le_iff_toInt_le.mp h.1
  have h2 := Int32.le_iff_toInt_le.mp h.2
  rw [pk_sub_toInt (by omega) (by decide)] at h2
  rw [nI_toInt (by decide)] at h1
  refine ⟨g.toInt.toNat, by omega, ?_⟩
  apply Int32.toInt_inj.mp
  rw [nI_toInt (by omega)]
  omega
theorem okDip_nat {p s h : Int32} (hk : okDip p s h) : ∃ a b c, 2 ≤ a ∧ a ≤ 40 ∧ 1 ≤ b ∧ b ≤ 900 ∧ c < a ∧ p = nI a ∧ s = nI b ∧ h = nI c := by
  obtain ⟨a, ha, ha2, rfl⟩ := inP_nat1 (by decide) hk.1 (by decide)
  obtain ⟨b, hb, hb2, rfl⟩ := inP_nat1 (by decide) hk.2.1 (by decide)
  have q : inP h (nI 0) (nI (a - 1)) := by
    rw [← pk_sub (show 1 ≤ a by omega)]
    exact hk.2.2
  obtain ⟨c, hc, rfl⟩ := inP_nat (by omega) q
  exact ⟨a, b, c, ha, ha2, hb, hb2, by omega, rfl, rfl, rfl⟩
theorem dipEf_rel {T : TV} {z : Nat → Int32} (h : Rel T z) (x y p s k : Int32) : dipEf (T.1 1) x y p s k = dipE z x y p s k := by
  unfold dipEf dipE
  by_cases a : cellP x y
  · rw [if_neg (c := ¬ cellP x y) (fun q => q a), if_neg (c := ¬ cellP x y) (fun q => q a)]
    obtain ⟨i, j, hi, hj, rfl, rfl⟩ := cellP_nat a
    rw [ncl, ncl, nI_clamp (by omega), nI_clamp (by omega), show shf 5 z (j * 10 + i) = T.1 1 (j * 10 + i) from h.2.1.1 _ (by omega)]
  · rw [if_pos (c := ¬ cellP x y) a, if_pos (c := ¬ cellP x y) a]
theorem readM_congr {z pd pd' : Nat → Int32} (e : ∀ j, j < 65 → pd j = pd' j) : readM z pd' = readM z pd := by
  have q : rgF 5 60 (fun c => floF (pd' (c / 10 * 11 + c % 10))) z = rgF 5 60 (fun c => floF (pd (c / 10 * 11 + c % 10))) z := by
    funext j
    unfold rgF
    by_cases c : 5 ≤ j ∧ j < 5 + 60
    · rw [if_pos c, if_pos c]
      show floF (pd' ((j - 5) / 10 * 11 + (j - 5) % 10)) = floF (pd ((j - 5) / 10 * 11 + (j - 5) % 10))
      rw [e _ (by omega)]
    · rw [if_neg c, if_neg c]
  unfold readM
  rw [q]
theorem inv.pe {T : TV} (hi : inv T) {d : Nat} (hd : d < T.2 4 1) : 2 ≤ T.2 1 d := (hi.2.2.2.1 d hd).1
theorem undZ_at {z sl : Nat → Int32} {k j : Nat} (hj : j < 345) : undZ z sl k j = sl (k * 345 + j) := by
  unfold undZ
  rw [rgF_in (by omega) (by omega), Nat.sub_zero]
section ROWSLAW
variable {p : Program} {l : Launch} {e : Env} {R : Room} {s : State} {m : MethodId} {args : Array Value} {below : List Frame} {meth : Method} {c : Code} {H : Heap} {locs : List Loc} {cells slots : Nat} {Q : State → Prop}
variable {cc : ByteArray} {pc : Nat} {ls : Array Slot} {rest : List Value} {A : Nat → Prop} {H0 : Heap}
theorem rl_ld (hx : p.tables.exec = Jvm.exec) (hb : c.code = cc) {b L j : Nat} {xs : Nat → Int32} (hX : va_X b L xs s H0) (hbl : b < H0.size) (hbA : ¬ A b) (hS : va_S A H0 H locs) (hj : j < L) (hL : L ≤ 3072) {v : Int32} (hv : xs j = v) (hdg : decode cc pc = .ok (.iaload, 1))
    (kk : W p l e R s m args below meth c H locs cells slots Q (F0 m (pc + 1) ls (.int v :: rest))) : W p l e R s m args below meth c H locs cells slots Q (F0 m pc ls (.int (nI j) :: .ref b :: rest)) :=
  va_sld (i := nI j) hx hb hX hbl hbA hS (vp_in_nI hj (by omega)) hdg (by rw [nI_clamp (by omega), hv]; exact kk)
theorem rl_topl {x : Int64} (y : Int64) (h : x = y) (kk : W p l e R s m args below meth c H locs cells slots Q (F0 m pc ls (.long y :: rest))) : W p l e R s m args below meth c H locs cells slots Q (F0 m pc ls (.long x :: rest)) := h ▸ kk
end ROWSLAW
