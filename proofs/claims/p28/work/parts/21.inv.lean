/-! What a tick leaves true, and runs. -/
theorem bnd_size : ∀ s, s < 901 → bnd (nI s) ∧ bnd (-nI s) := by decide +kernel
theorem step_bnd {T : TV} (hi : inv T) {c : Nat} (hc : c < 60) : bnd (stepH T c) ∧ (T.1 1 c = nI 2 → stepH T c = nI 0) := by
  obtain ⟨hok, hs, hw, hd, hp⟩ := hi
  unfold stepH
  rw [beat_at _ hok.1.1]
  have hn5 := hok.1.1
  by_cases q : lastF (T.2 0) c (T.2 4 1) = -6
  · rw [if_pos q]
    unfold nxF
    by_cases w : T.1 1 c = nI 2
    · rw [if_pos w]; exact ⟨bnd_0, fun _ => rfl⟩
    · rw [if_neg w]; exact ⟨bnd_boundF _, fun z => absurd z w⟩
  · obtain ⟨d, hd1, hd2, hd3⟩ := last_some q
    obtain ⟨p2, hsh, ⟨s, s1, s9, hsz⟩, hwl⟩ := hd d hd1
    rw [if_neg q, hd2, ncl, nI_clamp (by omega), hsz]
    have b := bnd_size s (by omega)
    refine ⟨?_, fun w => absurd (by rw [hd3]; exact w) hwl⟩
    split
    · exact b.1
    · exact b.2
theorem inv.step {T : TV} (hi : inv T) : inv (stepT T) := by
  have hb := fun {c : Nat} (hc : c < 60) => step_bnd hi hc
  obtain ⟨hok, hs, hw, hd, hp⟩ := hi
  refine ⟨hok.step, fun j hj => hs j hj, fun j hj => ⟨(hb hj).1, (hw j hj).1, fun w => ⟨(hb hj).2 w, ((hw j hj).2.2 w).1⟩⟩, fun d hdd => hd d hdd, fun p hpp k hk => ?_⟩
  have pp : p < T.2 4 2 := hpp
  have hn3 := hok.2.1
  have hrow : (stepT T).1 (7 + p) = lookR (T.1 (7 + p)) (stepH T (T.2 2 p)) := by
    rcases (show p = 0 ∨ p = 1 ∨ p = 2 by omega) with q | q | q
    · subst q; show lookRow _ _ _ _ = _; unfold lookRow; rw [if_pos pp]
    · subst q; show lookRow _ _ _ _ = _; unfold lookRow; rw [if_pos pp]
    · subst q; show lookRow _ _ _ _ = _; unfold lookRow; rw [if_pos pp]
  have hk' : k < lookL (T.2 3) (T.2 4 2) p := hk
  unfold lookL at hk'
  rw [if_pos pp] at hk'
  have hl := hok.2.2 p pp
  rw [hrow]
  unfold lookR
  by_cases k0 : k = 0
  · rw [if_pos k0]; exact (hb hl.1).1
  · rw [if_neg k0, if_pos (by omega)]
    exact hp p pp (k - 1) (by omega)
theorem stepT_many {T : TV} : (stepT T).2 4 1 = T.2 4 1 ∧ (stepT T).2 4 2 = T.2 4 2 := ⟨rfl, rfl⟩
theorem run_rel {T : TV} {z : Nat → Int32} (h : Rel T z) (hi : inv T) : ∀ n, (Rel (runT T n) (runM z (T.2 4 1) (T.2 4 2) n) ∧ inv (runT T n)) ∧ (runT T n).2 4 1 = T.2 4 1 ∧ (runT T n).2 4 2 = T.2 4 2 ∧ (runT T n).2 4 0 = T.2 4 0 + n
  | 0 => ⟨⟨h, hi⟩, rfl, rfl, rfl⟩
  | n + 1 => by
    obtain ⟨⟨a, b⟩, c, d, e⟩ := run_rel h hi n
    have r := tick_rel a b
    rw [c, d] at r
    refine ⟨⟨r, b.step⟩, c, d, ?_⟩
    show (runT T n).2 4 0 + 1 = _
    rw [e]
    omega
/-! The answers agree. -/
theorem sum_sub {n : Nat} {f g k : Nat → Int32} (h : ∀ j, j < n → f j - g j = k j) : sumI n f - sumI n g = sumI n k := by
  induction n with
  | zero => show nI 0 - nI 0 = nI 0; decide +kernel
  | succ n ih =>
    rw [sumI, sumI, sumI, ← ih (fun j hj => h j (by omega)), ← h n (by omega)]
    simp only [Int32.sub_eq_add_neg, Int32.neg_add]
    ac_rfl
theorem open_rel {T : TV} {z : Nat → Int32} (h : Rel T z) : openF (shf 5 z) = openF (T.1 1) := sumI_congr (fun j hj => by rw [show shf 5 z j = T.1 1 j from h.2.1.1 j hj])
theorem still_rel {T : TV} {z : Nat → Int32} (h : Rel T z) {c : Nat} (hc : c < 60) : stillP z (shf 65 z) (shf 125 z) c ↔ stillP (T.1 0) (T.1 2) (T.1 3) c := by
  show (iabs (z (65 + c)) ≤ z 3 ∧ iabs (z (125 + c)) ≤ z 3) ↔ _
  rw [h.2.1.2.1 c hc, h.2.1.2.2.1 c hc, h.1.1 3 (by decide)]
theorem stills_rel {T : TV} {z : Nat → Int32} (h : Rel T z) : stillsF z = openF (T.1 1) - restF (T.1 0) (T.1 1) (T.1 2) (T.1 3) := by
  refine Eq.symm (sum_sub (fun j hj => ?_))
  rw [show shf 5 z j = T.1 1 j from h.2.1.1 j hj]
  by_cases w : T.1 1 j = nI 2
  · rw [if_pos w, if_pos w, if_neg (fun q => q.1 w)]; decide +kernel
  · rw [if_neg w, if_neg w]
    by_cases s : stillP (T.1 0) (T.1 2) (T.1 3) j
    · rw [if_pos s, if_pos ⟨w, (still_rel h hj).mpr s⟩]; decide +kernel
    · rw [if_neg s, if_neg (fun q => s ((still_rel h hj).mp q.2))]; decide +kernel
theorem rest_rel {T : TV} {z : Nat → Int32} (h : Rel T z) : openF (shf 5 z) - stillsF z = restF (T.1 0) (T.1 1) (T.1 2) (T.1 3) := by
  rw [open_rel h, stills_rel h]
  grind
theorem loud_rel {T : TV} {z : Nat → Int32} (h : Rel T z) : loudF (shf 65 z) = loudF (T.1 2) := sumI_congr (fun j hj => by rw [show shf 65 z j = T.1 2 j from h.2.1.2.1 j hj])
theorem sum_rel {T : TV} {z : Nat → Int32} (h : Rel T z) : sumI 60 (shf 65 z) = sumI 60 (T.1 2) := sumI_congr (fun j hj => h.2.1.2.1 j hj)
theorem reach_rel {T : TV} {z : Nat → Int32} (h : Rel T z) : reachF (shf 185 z) = reachF (T.1 4) := sumI_congr (fun j hj => by rw [show shf 185 z j = T.1 4 j from h.2.1.2.2.2 j hj])
theorem ld_congr {h h' : Nat → Int32} : ∀ n, (∀ j, j < n + 1 → h j = h' j) → ldF h (n + 1) = ldF h' (n + 1)
  | 0, _ => by rw [ldF_1, ldF_1]
  | n + 1, e => by
    have i := ld_congr n (fun j hj => e j (by omega))
    show (if iabs (h (ldF h (n + 1))) < iabs (h (n + 1)) then n + 1 else ldF h (n + 1)) = if iabs (h' (ldF h' (n + 1))) < iabs (h' (n + 1)) then n + 1 else ldF h' (n + 1)
    rw [i, e (n + 1) (by omega), e _ (Nat.lt_succ_of_lt (ldF_lt n))]
theorem gr_rel {T : TV} {z : Nat → Int32} (h : Rel T z) (hi : inv T) : grF (shf 65 z) 60 = iabs (T.1 2 (ldF (T.1 2) 60)) := by
  have e : ∀ j, j < 60 → shf 65 z j = T.1 2 j := fun j hj => h.2.1.2.1 j hj
  have hl : ldF (shf 65 z) 60 = ldF (T.1 2) 60 := ld_congr 59 e
  have g : grF (shf 65 z) 60 = iabs (shf 65 z (ldF (shf 65 z) 60)) := gr_ld 59 (fun j hj => by rw [e j hj]; exact iabs_nn (hi.2.2.1 j hj).1)
  rw [g, hl, e _ (ldF_lt 59)]
theorem lou_rel {T : TV} {z : Nat → Int32} (h : Rel T z) (w : Int32) : louF (shf 65 z) w = louF (T.1 2) w := by
  have e : ∀ j, j < 60 → shf 65 z j = T.1 2 j := fun j hj => h.2.1.2.1 j hj
  have hl : ldF (shf 65 z) 60 = ldF (T.1 2) 60 := ld_congr 59 e
  unfold louF
  rw [hl, e _ (ldF_lt 59)]
theorem hab_rel {T : TV} {z : Nat → Int32} (h : Rel T z) (hi : inv T) : ∀ j, j < 60 → 0 ≤ iabs (shf 65 z j) := fun j hj => by rw [show shf 65 z j = T.1 2 j from h.2.1.2.1 j hj]; exact iabs_nn (hi.2.2.1 j hj).1
