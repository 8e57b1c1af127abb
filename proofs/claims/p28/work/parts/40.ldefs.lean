/-! The law's own rows as functions of the tank's value; bounds of what it reckons. -/
def wi (N : Nat) (x : Int32) : Prop := -(N : Int) ≤ x.toInt ∧ x.toInt ≤ N
theorem wi_bm {z : Int} {N : Nat} (hN : N < 2147483648) (h : z.natAbs ≤ N) : z.bmod (2 ^ 32) = z := Int.bmod_eq_of_le (by omega) (by omega)
theorem wi_iff {N : Nat} {x : Int32} : wi N x ↔ x.toInt.natAbs ≤ N := by
  unfold wi
  omega
theorem wi_mono {M N : Nat} {x : Int32} (h : wi M x) (hn : M ≤ N) : wi N x := wi_iff.mpr (Nat.le_trans (wi_iff.mp h) hn)
theorem wi_of {N : Nat} {x : Int32} {z : Int} (e : x.toInt = z) (h : z.natAbs ≤ N) : wi N x := wi_iff.mpr (by rw [e]; exact h)
theorem wi_add {x y : Int32} {A B : Nat} (hx : wi A x) (hy : wi B y) (h : A + B < 2147483648) : (x + y).toInt = x.toInt + y.toInt ∧ wi (A + B) (x + y) := by
  have hx := wi_iff.mp hx
  have hy := wi_iff.mp hy
  have b : (x.toInt + y.toInt).natAbs ≤ A + B := by omega
  have e : (x + y).toInt = x.toInt + y.toInt := by rw [Int32.toInt_add]; exact wi_bm h b
  exact ⟨e, wi_of e b⟩
theorem wi_sub {x y : Int32} {A B : Nat} (hx : wi A x) (hy : wi B y) (h : A + B < 2147483648) : (x - y).toInt = x.toInt - y.toInt ∧ wi (A + B) (x - y) := by
  have hx := wi_iff.mp hx
  have hy := wi_iff.mp hy
  have b : (x.toInt - y.toInt).natAbs ≤ A + B := by omega
  have e : (x - y).toInt = x.toInt - y.toInt := by rw [Int32.toInt_sub]; exact wi_bm h b
  exact ⟨e, wi_of e b⟩
theorem wi_neg {x : Int32} {A : Nat} (hx : wi A x) (h : A < 2147483648) : (-x).toInt = -x.toInt ∧ wi A (-x) := by
  have hx := wi_iff.mp hx
  have b : (-x.toInt).natAbs ≤ A := by omega
  have e : (-x).toInt = -x.toInt := by rw [Int32.toInt_neg]; exact wi_bm h b
  exact ⟨e, wi_of e b⟩
theorem wi_mul {x y : Int32} {A B : Nat} (hx : wi A x) (hy : wi B y) (h : A * B < 2147483648) : (x * y).toInt = x.toInt * y.toInt ∧ wi (A * B) (x * y) := by
  have hx := wi_iff.mp hx
  have hy := wi_iff.mp hy
  have b : (x.toInt * y.toInt).natAbs ≤ A * B := by rw [Int.natAbs_mul]; exact Nat.mul_le_mul hx hy
  have e : (x * y).toInt = x.toInt * y.toInt := by rw [Int32.toInt_mul]; exact wi_bm h b
  exact ⟨e, wi_of e b⟩
theorem wi_div {x : Int32} {A k : Nat} (hx : wi A x) (h : A < 2147483648) (hk : k < 2147483648) : (x / nI k).toInt = x.toInt.tdiv k ∧ wi A (x / nI k) := by
  have hx := wi_iff.mp hx
  have b : (x.toInt.tdiv (k : Int)).natAbs ≤ A := by
    rw [Int.natAbs_tdiv]
    exact Nat.le_trans (Nat.div_le_self _ _) hx
  have e : (x / nI k).toInt = x.toInt.tdiv k := by rw [Int32.toInt_div, nI_toInt hk]; exact wi_bm h b
  exact ⟨e, wi_of e b⟩
theorem neg_divF {x : Int32} {A k : Nat} (hx : wi A x) (h : A < 2147483648) (hk : k < 2147483648) : (-x) / nI k = -(x / nI k) := by
  apply Int32.toInt_inj.mp
  rw [(wi_div (wi_neg hx h).2 h hk).1, (wi_neg hx h).1, Int.neg_tdiv, (wi_neg (wi_div hx h hk).2 h).1, (wi_div hx h hk).1]
theorem neg_div2 {x : Int32} {A k : Nat} (hx : wi A x) (h : A < 2147483648) (hk : k < 2147483648) : -((-x) / nI k) = x / nI k := by
  rw [neg_divF hx h hk, Int32.neg_neg]
theorem wi_bnd {x : Int32} (h : bnd x) : wi 9999 x := by
  have h1 := Int32.le_iff_toInt_le.mp h.1
  have h2 := Int32.le_iff_toInt_le.mp h.2
  rw [show (-9999 : Int32).toInt = -9999 by decide +kernel] at h1
  rw [nI_toInt (by decide)] at h2
  exact ⟨by omega, by omega⟩
theorem wi_0 (N : Nat) : wi N (nI 0) := wi_of (z := 0) (by decide +kernel) (by omega)
theorem wi_in {x : Int32} {a b : Nat} (ha : a < 2147483648) (hb : b < 2147483648) (h : inP x (nI a) (nI b)) : wi b x := by
  have h1 := Int32.le_iff_toInt_le.mp h.1
  have h2 := Int32.le_iff_toInt_le.mp h.2
  rw [nI_toInt ha] at h1
  rw [nI_toInt hb] at h2
  exact ⟨by omega, by omega⟩
theorem rise_wi {fl h : Nat → Int32} (hb : ∀ j, j < 60 → bnd (h j)) {i j : Nat} (hi : i < 60) (hj : j < 60) : wi 19998 (riseF fl h i j) := by
  unfold riseF
  split
  · exact wi_0 _
  · exact (wi_sub (wi_bnd (hb j hj)) (wi_bnd (hb i hi)) (by decide)).2
theorem slope_wi {fl h : Nat → Int32} (hb : ∀ j, j < 60 → bnd (h j)) {i : Nat} (hi : i < 60) : wi 79992 (slopeF fl h i) := by
  have a1 : wi 19998 (if 0 < i % 10 then riseF fl h i (i - 1) else nI 0) := by
    split
    · exact rise_wi hb hi (by omega)
    · exact wi_0 _
  have a2 : wi 19998 (if i % 10 < 9 then riseF fl h i (i + 1) else nI 0) := by
    split
    · exact rise_wi hb hi (by omega)
    · exact wi_0 _
  have a3 : wi 19998 (if 0 < i / 10 then riseF fl h i (i - 10) else nI 0) := by
    split
    · exact rise_wi hb hi (by omega)
    · exact wi_0 _
  have a4 : wi 19998 (if i / 10 < 5 then riseF fl h i (i + 10) else nI 0) := by
    split
    · exact rise_wi hb hi (by omega)
    · exact wi_0 _
  unfold slopeF
  split
  · exact wi_0 _
  · exact (wi_add (wi_add (wi_add a1 a2 (by decide)).2 a3 (by decide)).2 a4 (by decide)).2
/-- a cell's neighbour as the law's at has it -/
def atF (fl h : Nat → Int32) (c : Nat) (x y : Int32) : Int32 := if cellP x y ∧ ¬ fl (ncl y * 10 + ncl x) = nI 2 then h (ncl y * 10 + ncl x) else h c
theorem at_in {fl h : Nat → Int32} {c i j : Nat} (hi : i < 10) (hj : j < 6) (hw : ¬ fl (j * 10 + i) = nI 2) : h (j * 10 + i) = atF fl h c (nI i) (nI j) := by
  unfold atF ncl
  rw [nI_clamp (by omega), nI_clamp (by omega), if_pos ⟨cellP_of hi hj, hw⟩]
theorem at_wall {fl h : Nat → Int32} {c i j : Nat} (hi : i < 10) (hj : j < 6) (hw : fl (j * 10 + i) = nI 2) : h c = atF fl h c (nI i) (nI j) := by
  unfold atF ncl
  rw [nI_clamp (by omega), nI_clamp (by omega), if_neg (fun z => z.2 hw)]
theorem at_out {fl h : Nat → Int32} {c : Nat} {x y : Int32} (hw : ¬ cellP x y) : h c = atF fl h c x y := by
  unfold atF
  rw [if_neg (fun z => hw z.1)]
theorem at_from (fl h : Nat → Int32) (c : Nat) (x y : Int32) : atF fl h c x y = fromF fl h c x y + h c := by
  unfold atF fromF
  split
  · rw [Int32.sub_add_cancel]
  · exact (Int32.zero_add _).symm
theorem slopeL_eq {fl h : Nat → Int32} {c : Nat} (hc : c < 60) (hw : ¬ fl c = nI 2) : atF fl h c (nI (c % 10) - nI 1) (nI (c / 10)) + atF fl h c (nI (c % 10 + 1)) (nI (c / 10)) + atF fl h c (nI (c % 10)) (nI (c / 10) - nI 1) + atF fl h c (nI (c % 10)) (nI (c / 10 + 1)) - nI 4 * h c = slopeF fl h c := by
  rw [← slopeM_eq hc hw, at_from, at_from, at_from, at_from, show nI 4 = (4 : Int32) by decide +kernel]
  generalize fromF fl h c (nI (c % 10) - nI 1) (nI (c / 10)) = a1
  generalize fromF fl h c (nI (c % 10 + 1)) (nI (c / 10)) = a2
  generalize fromF fl h c (nI (c % 10)) (nI (c / 10) - nI 1) = a3
  generalize fromF fl h c (nI (c % 10)) (nI (c / 10 + 1)) = a4
  generalize h c = b
  grind
/-- what low answers -/
def lowF (v n : Int32) : Int32 := remI (v &&& nI 2147483647) n
theorem low_nat (v : Int32) {n : Nat} (h0 : 0 < n) (hn : n < 2147483648) : ∃ k, k < n ∧ lowF v (nI n) = nI k := by
  obtain ⟨j, hj, e⟩ := pk_andE v (m := nI 2147483647) 31 (by decide +kernel)
  refine ⟨j % n, Nat.mod_lt _ h0, ?_⟩
  unfold lowF remI
  rw [e, pk_rem hj h0 hn]
/-- a first tick as the law keeps it -/
def gF (v : Int32) : Int32 := if v = -6 then -1 else v
/-- settings, tick and numbers as the law keeps them -/
def tF (T : TV) : Nat → Int32 := fun j => match j with
  | 0 => T.1 0 0
  | 1 => T.1 0 1
  | 2 => T.1 0 2
  | 3 => T.1 0 3
  | 4 => nI (T.2 4 0)
  | 5 => nI (T.2 4 1)
  | _ => nI (T.2 4 2)
/-- dippers as the law keeps them -/
def dF (T : TV) : Nat → Int32 := fun j => if j % 4 = 0 then nI (T.2 0 (j / 4)) else if j % 4 = 1 then nI (T.2 1 (j / 4)) else if j % 4 = 2 then T.1 5 (j / 4) else T.1 6 (j / 4)
theorem dF_0 {T : TV} {k : Nat} : dF T (4 * k) = nI (T.2 0 k) := by
  unfold dF
  rw [if_pos (by omega), show 4 * k / 4 = k by omega]
theorem dF_1 {T : TV} {k : Nat} : dF T (4 * k + 1) = nI (T.2 1 k) := by
  unfold dF
  rw [if_neg (by omega), if_pos (by omega), show (4 * k + 1) / 4 = k by omega]
theorem dF_2 {T : TV} {k : Nat} : dF T (4 * k + 2) = T.1 5 k := by
  unfold dF
  rw [if_neg (by omega), if_neg (by omega), if_pos (by omega), show (4 * k + 2) / 4 = k by omega]
theorem dF_3 {T : TV} {k : Nat} : dF T (4 * k + 3) = T.1 6 k := by
  unfold dF
  rw [if_neg (by omega), if_neg (by omega), if_neg (by omega), show (4 * k + 3) / 4 = k by omega]
/-- the law's rows but the probe's -/
def lawW (cA : Nat → ClassId) (r : Nat → Nat) (T : TV) : va_W :=
  [(r 0, .inl (cA 0, 60, .inl (T.1 1))), (r 1, .inl (cA 0, 60, .inl (T.1 2))), (r 2, .inl (cA 0, 60, .inl (T.1 3))), (r 3, .inl (cA 0, 60, .inl (fun j => gF (T.1 4 j)))), (r 4, .inl (cA 0, 20, .inl (dF T))), (r 6, .inl (cA 0, 7, .inl (tF T)))]
/-- first ticks: none, or one that has been -/
def fiOK (T : TV) : Prop := ∀ j, j < 60 → T.1 4 j = -6 ∨ ∃ n, n ≤ T.2 4 0 ∧ T.1 4 j = nI n
theorem fiOK.step {T : TV} (h : fiOK T) : fiOK (stepT T) := fun j hj => by
  show kfF (T.1 0) (stepH T) (T.1 4) (T.2 4 0) j = -6 ∨ ∃ n, n ≤ T.2 4 0 + 1 ∧ kfF (T.1 0) (stepH T) (T.1 4) (T.2 4 0) j = nI n
  unfold kfF
  split
  · exact Or.inr ⟨_, Nat.le_succ _, rfl⟩
  · rcases h j hj with q | ⟨n, a, b⟩
    · exact Or.inl q
    · exact Or.inr ⟨n, Nat.le_succ_of_le a, b⟩
theorem gF_nn {v : Int32} (h : v = -6 ∨ ∃ n, n < 2147483648 ∧ v = nI n) : (0 ≤ gF v ↔ ¬ v = -6) ∧ (¬ v = -6 → gF v = v) := by
  unfold gF
  rcases h with q | ⟨n, a, b⟩
  · rw [if_pos q]
    exact ⟨⟨fun z => absurd z (by decide +kernel), fun z => absurd q z⟩, fun z => absurd q z⟩
  · have c : ¬ v = -6 := by rw [b]; exact nI_ne6 a
    rw [if_neg c]
    exact ⟨⟨fun _ => c, fun _ => by rw [b]; exact nI_pos' a⟩, fun _ => rfl⟩
/-! What a tick reckons for a cell, step by step. -/
theorem tk_part {T : TV} (hi : inv T) {i : Nat} (hc : i < 60) : wi 639936 (slopeF (T.1 1) (T.1 2) i * (if T.1 1 i = nI 0 then T.1 0 1 else T.1 0 2)) := by
  have s1 : wi 8 (T.1 0 1) := wi_in (a := 1) (by decide) (by decide) (hi.2.1 1 (by decide))
  have s2 : wi 8 (T.1 0 2) := wi_in (a := 1) (by decide) (by decide) (hi.2.1 2 (by decide))
  have s : wi 8 (if T.1 1 i = nI 0 then T.1 0 1 else T.1 0 2) := by
    split
    · exact s1
    · exact s2
  exact (wi_mul (slope_wi (fun j hj => (hi.2.2.1 j hj).1) hc) s (by decide)).2
theorem tk_16 {T : TV} (hi : inv T) {i : Nat} (hc : i < 60) : -((-(slopeF (T.1 1) (T.1 2) i * (if T.1 1 i = nI 0 then T.1 0 1 else T.1 0 2))) / nI 16) = slopeF (T.1 1) (T.1 2) i * (if T.1 1 i = nI 0 then T.1 0 1 else T.1 0 2) / nI 16 := neg_div2 (tk_part hi hc) (by decide) (by decide)
theorem tk_h0 {T : TV} {i : Nat} : T.1 2 i + T.1 2 i - T.1 3 i + slopeF (T.1 1) (T.1 2) i * (if T.1 1 i = nI 0 then T.1 0 1 else T.1 0 2) / nI 16 = nextH0 (T.1 0) (T.1 1) (T.1 2) (T.1 3) i := by
  unfold nextH0
  have e : nI 2 * T.1 2 i = T.1 2 i + T.1 2 i := by
    rw [show nI 2 = (2 : Int32) by decide +kernel]
    grind
  rw [e]
theorem tk_w0 {T : TV} (hi : inv T) {i : Nat} (hc : i < 60) : wi 669933 (nextH0 (T.1 0) (T.1 1) (T.1 2) (T.1 3) i) := by
  rw [← tk_h0]
  have a := wi_bnd (hi.2.2.1 i hc).1
  have b := wi_bnd (hi.2.2.1 i hc).2.1
  exact (wi_add (wi_sub (wi_add a a (by decide)).2 b (by decide)).2 (wi_div (k := 16) (tk_part hi hc) (by decide) (by decide)).2 (by decide)).2
theorem tk_rub {T : TV} (hi : inv T) {i : Nat} (hc : i < 60) : wi 334966500 (nextH0 (T.1 0) (T.1 1) (T.1 2) (T.1 3) i * T.1 0 0) :=
  (wi_mul (tk_w0 hi hc) (wi_in (a := 0) (b := 500) (by decide) (by decide) (hi.2.1 0 (by decide))) (by decide)).2
theorem tk_h1p {T : TV} {i : Nat} (h : 0 ≤ nextH0 (T.1 0) (T.1 1) (T.1 2) (T.1 3) i) : nextH0 (T.1 0) (T.1 1) (T.1 2) (T.1 3) i - iabs (nextH0 (T.1 0) (T.1 1) (T.1 2) (T.1 3) i) * T.1 0 0 / nI 1000 = nextH1 (T.1 0) (T.1 1) (T.1 2) (T.1 3) i := by
  unfold nextH1
  rw [show iabs (nextH0 (T.1 0) (T.1 1) (T.1 2) (T.1 3) i) = nextH0 (T.1 0) (T.1 1) (T.1 2) (T.1 3) i from if_pos h]
theorem tk_h1n {T : TV} (hi : inv T) {i : Nat} (hc : i < 60) (h : ¬ 0 ≤ nextH0 (T.1 0) (T.1 1) (T.1 2) (T.1 3) i) : nextH0 (T.1 0) (T.1 1) (T.1 2) (T.1 3) i + iabs (nextH0 (T.1 0) (T.1 1) (T.1 2) (T.1 3) i) * T.1 0 0 / nI 1000 = nextH1 (T.1 0) (T.1 1) (T.1 2) (T.1 3) i := by
  unfold nextH1
  rw [← size_neg h, Int32.neg_mul, neg_divF (tk_rub hi hc) (by decide) (by decide), ← Int32.sub_eq_add_neg]
theorem tk_w1 {T : TV} (hi : inv T) {i : Nat} (hc : i < 60) : wi 335636433 (nextH1 (T.1 0) (T.1 1) (T.1 2) (T.1 3) i) := by
  unfold nextH1
  exact (wi_sub (tk_w0 hi hc) (wi_div (k := 1000) (tk_rub hi hc) (by decide) (by decide)).2 (by decide)).2
theorem tk_2 {T : TV} (hi : inv T) {i : Nat} (hc : i < 60) : -((-(nextH1 (T.1 0) (T.1 1) (T.1 2) (T.1 3) i)) / nI 2) = nextH1 (T.1 0) (T.1 1) (T.1 2) (T.1 3) i / nI 2 := neg_div2 (tk_w1 hi hc) (by decide) (by decide)
theorem bt_next {dc dp : Nat → Nat} {ds dh h : Nat → Int32} {t k i : Nat} {v : Int32} (hv : v = beatF dc dp ds dh t h k i) : (if dc k = i then (if upP dp dh t k then ds k else -ds k) else v) = beatF dc dp ds dh t h (k + 1) i := by
  rw [beatF]
  by_cases q : dc k = i
  · rw [if_pos q, updE q.symm]
  · rw [if_neg q, updN (fun z => q z.symm), hv]
theorem bt_congr2 {dc dp : Nat → Nat} {ds dh h h' : Nat → Int32} {t i : Nat} (e : h i = h' i) : ∀ n, beatF dc dp ds dh t h n i = beatF dc dp ds dh t h' n i
  | 0 => e
  | n + 1 => by
    rw [beatF, beatF]
    by_cases q : i = dc n
    · rw [updE q, updE q]
    · rw [updN q, updN q]
      exact bt_congr2 e n
theorem tk_wall {T : TV} (hi : inv T) {i : Nat} (hc : i < 60) (h : T.1 1 i = nI 2) : nI 0 = stepH T i := ((step_bnd hi hc).2 h).symm
theorem tk_free {T : TV} {i k : Nat} {v : Int32} (h : ¬ T.1 1 i = nI 2) (hk : k ≤ T.2 4 1) (hk2 : T.2 4 1 ≤ k) (hv : v = beatF (T.2 0) (T.2 1) (T.1 5) (T.1 6) (T.2 4 0) (fun _ => nextF (T.1 0) (T.1 1) (T.1 2) (T.1 3) i) k i) : v = stepH T i := by
  rw [hv, show k = T.2 4 1 by omega]
  unfold stepH
  refine bt_congr2 ?_ _
  unfold nxF
  rw [if_neg h]
theorem gk_keep {T : TV} (hf : fiOK T) (ht : T.2 4 0 ≤ 100000) {i : Nat} (hc : i < 60) (h : 0 ≤ gF (T.1 4 i)) : gF (T.1 4 i) = gF (kfF (T.1 0) (stepH T) (T.1 4) (T.2 4 0) i) := by
  have q : T.1 4 i = -6 ∨ ∃ n, n < 2147483648 ∧ T.1 4 i = nI n := (hf i hc).imp id (fun ⟨n, a, b⟩ => ⟨n, by omega, b⟩)
  unfold kfF
  rw [if_neg (fun z => (gF_nn q).1.mp h z.1)]
theorem gk_keep2 {T : TV} {i : Nat} (h : iabs (stepH T i) ≤ T.1 0 3) : gF (T.1 4 i) = gF (kfF (T.1 0) (stepH T) (T.1 4) (T.2 4 0) i) := by
  unfold kfF
  rw [if_neg (fun z => absurd z.2 (Int32.not_lt.mpr h))]
theorem gk_take {T : TV} (hf : fiOK T) (ht : T.2 4 0 ≤ 100000) {i : Nat} (hc : i < 60) (h : ¬ 0 ≤ gF (T.1 4 i)) (h2 : ¬ iabs (stepH T i) ≤ T.1 0 3) : nI (T.2 4 0) = gF (kfF (T.1 0) (stepH T) (T.1 4) (T.2 4 0) i) := by
  have q : T.1 4 i = -6 ∨ ∃ n, n < 2147483648 ∧ T.1 4 i = nI n := (hf i hc).imp id (fun ⟨n, a, b⟩ => ⟨n, by omega, b⟩)
  have e : T.1 4 i = -6 := Decidable.not_not.mp (fun z => h ((gF_nn q).1.mpr z))
  have k : kfF (T.1 0) (stepH T) (T.1 4) (T.2 4 0) i = nI (T.2 4 0) := if_pos ⟨e, Int32.not_le.mp h2⟩
  rw [k]
  unfold gF
  rw [if_neg (nI_ne6 (by omega))]
/-- a row, up to a place as one function has it, behind it as another -/
def spl (g f : Nat → Int32) (i : Nat) : Nat → Int32 := fun j => if j < i then g j else f j
theorem spl_0 {g f : Nat → Int32} : f = spl g f 0 := by funext j; unfold spl; rw [if_neg (Nat.not_lt_zero _)]
theorem spl_at {g f : Nat → Int32} {i : Nat} : spl g f i i = f i := if_neg (Nat.lt_irrefl i)
theorem spl_next {g f z : Nat → Int32} {i : Nat} {x : Int32} (h : z = spl g f i) (hx : x = g i) : upd z i x = spl g f (i + 1) := by
  subst h
  subst hx
  funext j
  unfold upd spl
  by_cases q : j = i
  · rw [if_pos q, if_pos (by omega), q]
  · rw [if_neg q]
    by_cases r : j < i
    · rw [if_pos r, if_pos (by omega)]
    · rw [if_neg r, if_neg (by omega)]
theorem spl_in {g f : Nat → Int32} {i j : Nat} (h : j < i) : spl g f i j = g j := if_pos h
