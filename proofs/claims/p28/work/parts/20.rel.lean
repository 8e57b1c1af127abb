/-! When the tank's value and the reference's row are the same state. -/
theorem slope_congr {fl fl' h h' : Nat → Int32} (hf : ∀ j, j < 60 → fl j = fl' j) (hh : ∀ j, j < 60 → h j = h' j) {c : Nat} (hc : c < 60) : slopeF fl h c = slopeF fl' h' c := by
  have rise : ∀ j, j < 60 → riseF fl h c j = riseF fl' h' c j := fun j hj => by unfold riseF; rw [hf j hj, hh j hj, hh c hc]
  have a1 : (if 0 < c % 10 then riseF fl h c (c - 1) else nI 0) = if 0 < c % 10 then riseF fl' h' c (c - 1) else nI 0 := by
    split
    · exact rise _ (by omega)
    · rfl
  have a2 : (if c % 10 < 9 then riseF fl h c (c + 1) else nI 0) = if c % 10 < 9 then riseF fl' h' c (c + 1) else nI 0 := by
    split
    · exact rise _ (by omega)
    · rfl
  have a3 : (if 0 < c / 10 then riseF fl h c (c - 10) else nI 0) = if 0 < c / 10 then riseF fl' h' c (c - 10) else nI 0 := by
    split
    · exact rise _ (by omega)
    · rfl
  have a4 : (if c / 10 < 5 then riseF fl h c (c + 10) else nI 0) = if c / 10 < 5 then riseF fl' h' c (c + 10) else nI 0 := by
    split
    · exact rise _ (by omega)
    · rfl
  unfold slopeF
  rw [hf c hc, a1, a2, a3, a4]
/-- settings and tick -/
def RelS (T : TV) (z : Nat → Int32) : Prop := (∀ j, j < 4 → z j = T.1 0 j) ∧ z 4 = nI (T.2 4 0)
/-- the cells -/
def RelC (T : TV) (z : Nat → Int32) : Prop := (∀ j, j < 60 → z (5 + j) = T.1 1 j) ∧ (∀ j, j < 60 → z (65 + j) = T.1 2 j) ∧ (∀ j, j < 60 → z (125 + j) = T.1 3 j) ∧ ∀ j, j < 60 → z (185 + j) = T.1 4 j
/-- the dippers -/
def RelD (T : TV) (z : Nat → Int32) : Prop := z 245 = nI (T.2 4 1) ∧ ∀ d, d < T.2 4 1 → z (246 + 4 * d) = nI (T.2 0 d) ∧ z (246 + 4 * d + 1) = nI (T.2 1 d) ∧ z (246 + 4 * d + 2) = T.1 5 d ∧ z (246 + 4 * d + 3) = T.1 6 d
/-- the probes -/
def RelP (T : TV) (z : Nat → Int32) : Prop := z 266 = nI (T.2 4 2) ∧ ∀ p, p < T.2 4 2 → z (267 + 26 * p) = nI (T.2 2 p) ∧ z (267 + 26 * p + 1) = nI (T.2 3 p) ∧ ∀ k, k < T.2 3 p → z (267 + 26 * p + 2 + k) = T.1 (7 + p) k
def Rel (T : TV) (z : Nat → Int32) : Prop := RelS T z ∧ RelC T z ∧ RelD T z ∧ RelP T z
/-- within the greatest height -/
abbrev bnd (x : Int32) : Prop := -9999 ≤ x ∧ x ≤ nI 9999
theorem bnd_boundF (v : Int32) : bnd (boundF v) := by
  by_cases h : -9999 ≤ v
  · by_cases h2 : v ≤ nI 9999
    · rw [← kept_mid h h2]; exact ⟨h, h2⟩
    · rw [← kept_hi h2]; decide +kernel
  · rw [← kept_lo h]; decide +kernel
theorem bnd_0 : bnd (nI 0) := by decide +kernel
theorem iabs_nn {x : Int32} (h : bnd x) : 0 ≤ iabs x := by
  unfold iabs
  split
  · assumption
  · rename_i q
    have h1 := Int32.le_iff_toInt_le.mp h.1
    have q1 : x.toInt < 0 := Int32.lt_iff_toInt_lt.mp (Int32.not_le.mp q)
    have e1 : (-9999 : Int32).toInt = -9999 := by decide +kernel
    rw [e1] at h1
    apply Int32.le_iff_toInt_le.mpr
    rw [Int32.toInt_sub]
    have e0 : (0 : Int32).toInt = 0 := by decide +kernel
    rw [e0, Int.bmod_eq_of_le (by omega) (by omega)]
    omega
/-- what stays true of a tank -/
def inv (T : TV) : Prop := okT T ∧ (∀ j, j < 4 → inP (T.1 0 j) (leastF (nI j)) (mostF (nI j))) ∧
  (∀ j, j < 60 → bnd (T.1 2 j) ∧ bnd (T.1 3 j) ∧ (T.1 1 j = nI 2 → T.1 2 j = nI 0 ∧ T.1 3 j = nI 0)) ∧
  (∀ d, d < T.2 4 1 → 2 ≤ T.2 1 d ∧ (∃ s, s < T.2 1 d ∧ T.1 6 d = nI s) ∧ (∃ s, 1 ≤ s ∧ s ≤ 900 ∧ T.1 5 d = nI s) ∧ ¬ T.1 1 (T.2 0 d) = nI 2) ∧
  ∀ p, p < T.2 4 2 → ∀ k, k < T.2 3 p → bnd (T.1 (7 + p) k)
theorem din_last {T : TV} {z : Nat → Int32} (h : RelD T z) {c : Nat} (hc : c < 60) (hk : ∀ k, k < T.2 4 1 → T.2 0 k < 60) : ∀ n, n ≤ T.2 4 1 → dinF z c n = lastF (T.2 0) c n
  | 0, _ => rfl
  | n + 1, hn => by
    have hn2 := hk n (by omega)
    rw [dinF, lastF, (h.2 n (by omega)).1, din_last h hc hk n (by omega)]
    by_cases q : T.2 0 n = c
    · rw [if_pos q, if_pos (by rw [q])]
    · rw [if_neg q, if_neg (fun e => q ((nI_eq (by omega) (by omega)).mp e))]
theorem nI_ne6 {n : Nat} (h : n < 2147483648) : ¬ nI n = -6 := fun z => absurd (show nI n < 0 by rw [z]; decide +kernel) (nI_pos h)
theorem beat_at {dc dp : Nat → Nat} {ds dh h : Nat → Int32} {t c : Nat} : ∀ n, n ≤ 5 → beatF dc dp ds dh t h n c = if lastF dc c n = -6 then h c else if upP dp dh t (ncl (lastF dc c n)) then ds (ncl (lastF dc c n)) else -ds (ncl (lastF dc c n))
  | 0, _ => by rw [beatF, lastF, if_pos rfl]
  | n + 1, hn => by
    rw [beatF, lastF]
    by_cases q : dc n = c
    · rw [updE q.symm, if_pos q, if_neg (nI_ne6 (by omega)), ncl, nI_clamp (by omega)]
    · rw [updN (fun e => q e.symm), if_neg q]
      exact beat_at n (by omega)
theorem last_some {dc : Nat → Nat} {c : Nat} : ∀ {n : Nat}, ¬ lastF dc c n = -6 → ∃ d, d < n ∧ lastF dc c n = nI d ∧ dc d = c
  | 0, h => absurd rfl h
  | n + 1, h => by
    unfold lastF at h ⊢
    by_cases q : dc n = c
    · exact ⟨n, Nat.lt_succ_self n, by rw [if_pos q], q⟩
    · rw [if_neg q] at h ⊢
      obtain ⟨d, h1, h2, h3⟩ := last_some h
      exact ⟨d, Nat.lt_succ_of_lt h1, h2, h3⟩
theorem up_rel {T : TV} {z : Nat → Int32} (hS : RelS T z) (hD : RelD T z) {d : Nat} (hd : d < T.2 4 1) (hp : 2 ≤ T.2 1 d) (hp4 : T.2 1 d ≤ 40) : upM z d ↔ upP (T.2 1) (T.1 6) (T.2 4 0) d := by
  obtain ⟨h1, h2, h3, h4⟩ := hD.2 d hd
  have e : nI (T.2 1 d) / nI 2 = nI (T.2 1 d / 2) := pk_div (by omega) (by omega) (by omega)
  show z (246 + 4 * d + 1) / nI 2 ≤ remI (z 4 + z (246 + 4 * d + 3)) (z (246 + 4 * d + 1)) ↔ _
  rw [h2, h4, hS.2, e]
  exact ⟨fun q => ⟨by omega, q⟩, fun q => q.2⟩
/-- the height that a cell has after a tick, on both sides -/
theorem then_rel {T : TV} {z : Nat → Int32} (h : Rel T z) (hi : inv T) {c : Nat} (hc : c < 60) : thenF z (T.2 4 1) c = stepH T c := by
  obtain ⟨hS, hC, hD, hP⟩ := h
  obtain ⟨hok, hs, hw, hd, hp⟩ := hi
  have hdc := hok.1.2
  have e1 : shf 5 z c = T.1 1 c := hC.1 c hc
  unfold stepH
  rw [beat_at _ hok.1.1]
  unfold thenF
  rw [din_last hD hc (fun k hk => (hdc k hk).1) _ (Nat.le_refl _), e1]
  by_cases q : lastF (T.2 0) c (T.2 4 1) = -6
  · rw [if_pos q, if_pos q]
    unfold nxF
    by_cases w : T.1 1 c = nI 2
    · rw [if_pos w, if_pos w]
    · rw [if_neg w, if_neg w]
      have e2 : h0M z c = nextH0 (T.1 0) (T.1 1) (T.1 2) (T.1 3) c := by
        unfold h0M nextH0
        rw [e1, show shf 65 z c = T.1 2 c from hC.2.1 c hc, hC.2.2.1 c hc, hS.1 1 (by decide), hS.1 2 (by decide), slope_congr (fl := shf 5 z) (h := shf 65 z) (fun j hj => hC.1 j hj) (fun j hj => hC.2.1 j hj) hc]
      have e3 : h1M z c = nextH1 (T.1 0) (T.1 1) (T.1 2) (T.1 3) c := by
        unfold h1M nextH1
        rw [e2, hS.1 0 (by decide)]
      unfold nextF
      rw [e3]
  · obtain ⟨d, hd1, hd2, hd3⟩ := last_some q
    have hn5 := hok.1.1
    rw [if_neg q, if_neg q, hd2, ncl, nI_clamp (by omega)]
    have w : ¬ T.1 1 c = nI 2 := by rw [← hd3]; exact (hd d hd1).2.2.2
    rw [if_neg w]
    have u := up_rel hS hD hd1 (hd d hd1).1 (hdc d hd1).2
    by_cases v : upM z d
    · rw [if_pos v, if_pos (u.mp v)]; exact (hD.2 d hd1).2.2.1
    · rw [if_neg v, if_neg (fun z => v (u.mpr z)), (hD.2 d hd1).2.2.1]
theorem tk2_rg {z g : Nat → Int32} {i j : Nat} (hi : i < 60) : tk2 z g 60 (65 + i) = g i ∧ tk2 z g 60 (125 + i) = z (65 + i) ∧ tk2 z g 60 (185 + i) = tk1F z g i := by
  unfold tk2
  refine ⟨?_, ?_, ?_⟩
  · rw [rgF_out (by omega), rgF_in (by omega) (by omega), Nat.add_sub_cancel_left]
  · rw [rgF_out (by omega), rgF_out (by omega), rgF_in (by omega) (by omega), Nat.add_sub_cancel_left]
  · rw [rgF_in (by omega) (by omega), Nat.add_sub_cancel_left]
theorem tick_rg {z : Nat → Int32} {nd np i : Nat} (hi : i < 60) : tickM z nd np (65 + i) = thenF z nd i ∧ tickM z nd np (125 + i) = z (65 + i) ∧ tickM z nd np (185 + i) = tk1F z (thenF z nd) i := by
  have e := tk2_rg (z := z) (g := thenF z nd) (j := 0) hi
  unfold tickM
  rw [updN (by omega), updN (by omega), updN (by omega), seesM_lo (by omega), seesM_lo (by omega), seesM_lo (by omega)]
  exact e
/-- a probe's row after all have looked -/
theorem seesM_row {z : Nat → Int32} {q k : Nat} (hk : k < 24) : ∀ p, q < p → seesM z p (267 + 26 * q + 2 + k) = if k = 0 then seesM z q (65 + pcM z q) else z (267 + 26 * q + 2 + (k - 1))
  | 0, h => absurd h (Nat.not_lt_zero _)
  | p + 1, h => by
    rw [seesM]
    by_cases e : q = p
    · subst e
      by_cases k0 : k = 0
      · rw [if_pos k0, k0, Nat.add_zero, seeM_0]
      · rw [if_neg k0, seeM_row (by omega) hk, seesM_hi q (by omega)]
    · rw [seeM_out (by omega)]
      exact seesM_row hk p (by omega)
theorem okM_of {T : TV} {z : Nat → Int32} (h : Rel T z) (hi : inv T) : okM z (T.2 4 1) (T.2 4 2) := by
  obtain ⟨hS, hC, hD, hP⟩ := h
  obtain ⟨hok, hs, hw, hd, hp⟩ := hi
  have hn5 := hok.1.1
  have hn3 := hok.2.1
  refine ⟨⟨hD.1, hn5, hP.1, hn3⟩, fun d hdd => ?_, fun p hpp => ?_⟩
  · rw [(hD.2 d hdd).2.1]
    have a := (hd d hdd).1
    have b := (hok.1.2 d hdd).2
    exact fun e => absurd ((nI_eq (b := 0) (by omega) (by omega)).mp e) (by omega)
  · obtain ⟨a, b, c⟩ := hP.2 p hpp
    obtain ⟨c1, c2⟩ := hok.2.2 p hpp
    have e : pcM z p = T.2 2 p := by unfold pcM; rw [a]; exact nI_clamp (by omega)
    have f : plM z p = T.2 3 p := by unfold plM; rw [b]; exact nI_clamp (by omega)
    rw [e, f]
    exact ⟨⟨a, c1⟩, b, c2⟩
theorem tick_rel {T : TV} {z : Nat → Int32} (h : Rel T z) (hi : inv T) : Rel (stepT T) (tickM z (T.2 4 1) (T.2 4 2)) := by
  have hth : ∀ c, c < 60 → thenF z (T.2 4 1) c = stepH T c := fun c hc => then_rel h hi hc
  have hOK := okM_of h hi
  obtain ⟨hS, hC, hD, hP⟩ := h
  obtain ⟨hok, hs, hw, hd, hp⟩ := hi
  have hn5 := hok.1.1
  have hn3 := hok.2.1
  refine ⟨⟨fun j hj => ?_, ?_⟩, ⟨fun j hj => ?_, fun j hj => ?_, fun j hj => ?_, fun j hj => ?_⟩, ⟨?_, fun d hdd => ?_⟩, ⟨?_, fun p hpp => ?_⟩⟩
  · rw [tickM_same (by omega)]
    exact hS.1 j hj
  · show upd _ 4 _ 4 = nI (T.2 4 0 + 1)
    rw [updE rfl, hS.2]
    exact (nI_succ _).symm
  · rw [tickM_same (by omega)]; exact hC.1 j hj
  · rw [(tick_rg hj).1, hth j hj]; rfl
  · rw [(tick_rg hj).2.1]; exact hC.2.1 j hj
  · rw [(tick_rg hj).2.2]
    show _ = kfF (T.1 0) (stepH T) (T.1 4) (T.2 4 0) j
    unfold tk1F kfF
    rw [hC.2.2.2 j hj, hS.1 3 (by decide), hS.2, hth j hj]
  · rw [tickM_same (by omega)]; exact hD.1
  · have a := hD.2 d hdd
    have dd : d < T.2 4 1 := hdd
    rw [tickM_same (by omega), tickM_same (by omega), tickM_same (by omega), tickM_same (by omega)]
    exact a
  · rw [tickM_same (by omega)]; exact hP.1
  · have pp : p < T.2 4 2 := hpp
    obtain ⟨a, b, c⟩ := hP.2 p pp
    obtain ⟨c1, c2⟩ := hok.2.2 p pp
    have e : pcM z p = T.2 2 p := by unfold pcM; rw [a]; exact nI_clamp (by omega)
    have f : plM z p = T.2 3 p := by unfold plM; rw [b]; exact nI_clamp (by omega)
    have hL : lookL (T.2 3) (T.2 4 2) p = if T.2 3 p < 24 then T.2 3 p + 1 else 24 := by
      unfold lookL
      rw [if_pos pp]
      split <;> omega
    refine ⟨by rw [tickM_cell]; exact a, ?_, fun k hk => ?_⟩
    · rw [tickM_len pp, f]
      show _ = nI (lookL (T.2 3) (T.2 4 2) p)
      rw [hL]
    · have hk' : k < lookL (T.2 3) (T.2 4 2) p := hk
      rw [hL] at hk'
      have k24 : k < 24 := by split at hk' <;> omega
      have hrow : (stepT T).1 (7 + p) = lookR (T.1 (7 + p)) (stepH T (T.2 2 p)) := by
        rcases (show p = 0 ∨ p = 1 ∨ p = 2 by omega) with q | q | q
        · subst q; show lookRow _ _ _ _ = _; unfold lookRow; rw [if_pos pp]
        · subst q; show lookRow _ _ _ _ = _; unfold lookRow; rw [if_pos pp]
        · subst q; show lookRow _ _ _ _ = _; unfold lookRow; rw [if_pos pp]
      rw [hrow]
      unfold tickM
      rw [updN (by omega), seesM_row k24 _ pp]
      unfold lookR
      by_cases k0 : k = 0
      · rw [if_pos k0, if_pos k0, tk2_pc (Nat.le_refl _), e, seesM_lo (by omega), (tk2_rg (j := 0) c1).1]
        exact hth _ c1
      · rw [if_neg k0, if_neg k0, if_pos k24, tk2_same (by omega) (by omega) (by omega)]
        exact c (k - 1) (by split at hk' <;> omega)
