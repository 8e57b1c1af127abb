/-! Dippers and probes come and go. -/
theorem vaE {f : Nat → Nat} {k j x : Nat} (h : j = k) : va_up f k x j = x := if_pos h
theorem vaN {f : Nat → Nat} {k j x : Nat} (h : ¬ j = k) : va_up f k x j = f j := if_neg h
theorem dipo_rel {T : TV} {z : Nat → Int32} (h : Rel T z) (hi : inv T) {c p s sh : Nat} (hc : c < 60) (hp2 : 2 ≤ p) (hp : p ≤ 40) (hs1 : 1 ≤ s) (hs : s ≤ 900) (hsh : sh < p) (hw : ¬ T.1 1 c = nI 2) (hn : T.2 4 1 < 5) :
    Rel (dipT T c p (nI s) (nI sh)) (dipM z (T.2 4 1) c p s sh) ∧ inv (dipT T c p (nI s) (nI sh)) := by
  have e : ∀ j, ¬ j = 245 → (j < 246 + 4 * T.2 4 1 ∨ 246 + 4 * T.2 4 1 + 3 < j) → dipM z (T.2 4 1) c p s sh j = z j := fun j a b => by
    unfold dipM
    rw [updN a, updN (by omega), updN (by omega), updN (by omega), updN (by omega)]
  have e0 : dipM z (T.2 4 1) c p s sh (246 + 4 * T.2 4 1) = nI c := by unfold dipM; rw [updN (by omega), updN (by omega), updN (by omega), updN (by omega), updE rfl]
  have e1 : dipM z (T.2 4 1) c p s sh (246 + 4 * T.2 4 1 + 1) = nI p := by unfold dipM; rw [updN (by omega), updN (by omega), updN (by omega), updE rfl]
  have e2 : dipM z (T.2 4 1) c p s sh (246 + 4 * T.2 4 1 + 2) = nI s := by unfold dipM; rw [updN (by omega), updN (by omega), updE rfl]
  have e3 : dipM z (T.2 4 1) c p s sh (246 + 4 * T.2 4 1 + 3) = nI sh := by unfold dipM; rw [updN (by omega), updE rfl]
  have e4 : dipM z (T.2 4 1) c p s sh 245 = nI (T.2 4 1 + 1) := by unfold dipM; rw [updE rfl]
  have row : ∀ q, (dipT T c p (nI s) (nI sh)).1 (7 + q) = T.1 (7 + q) := fun q => (if_neg (by omega)).trans (if_neg (by omega))
  refine ⟨⟨⟨fun j hj => by rw [e _ (by omega) (by omega)]; exact h.1.1 j hj, by rw [e _ (by omega) (by omega)]; exact h.1.2⟩, ⟨fun j hj => by rw [e _ (by omega) (by omega)]; exact h.2.1.1 j hj, fun j hj => by rw [e _ (by omega) (by omega)]; exact h.2.1.2.1 j hj, fun j hj => by rw [e _ (by omega) (by omega)]; exact h.2.1.2.2.1 j hj, fun j hj => by rw [e _ (by omega) (by omega)]; exact h.2.1.2.2.2 j hj⟩,
    ⟨e4, fun d hd => ?_⟩, ⟨by rw [e _ (by omega) (by omega)]; exact h.2.2.2.1, fun q hq => by
      rw [e _ (by omega) (by omega), e _ (by omega) (by omega)]
      exact ⟨(h.2.2.2.2 q hq).1, (h.2.2.2.2 q hq).2.1, fun r hr => by rw [e _ (by omega) (by omega), row]; exact (h.2.2.2.2 q hq).2.2 r hr⟩⟩⟩,
    ⟨⟨⟨hn, fun d hd => ?_⟩, hi.1.2⟩, hi.2.1, hi.2.2.1, fun d hd => ?_, fun q hq r hr => by rw [row]; exact hi.2.2.2.2 q hq r hr⟩⟩
  · have hd' : d < T.2 4 1 + 1 := hd
    show _ = nI (va_up (T.2 0) (T.2 4 1) c d) ∧ _ = nI (va_up (T.2 1) (T.2 4 1) p d) ∧ _ = upd (T.1 5) (T.2 4 1) (nI s) d ∧ _ = upd (T.1 6) (T.2 4 1) (nI sh) d
    by_cases q : d = T.2 4 1
    · rw [vaE q, vaE q, updE q, updE q, q]
      exact ⟨e0, e1, e2, e3⟩
    · rw [vaN q, vaN q, updN q, updN q, e _ (by omega) (by omega), e _ (by omega) (by omega), e _ (by omega) (by omega), e _ (by omega) (by omega)]
      exact h.2.2.1.2 d (by omega)
  · have hd' : d < T.2 4 1 + 1 := hd
    show va_up (T.2 0) (T.2 4 1) c d < 60 ∧ va_up (T.2 1) (T.2 4 1) p d ≤ 40
    by_cases q : d = T.2 4 1
    · rw [vaE q, vaE q]; exact ⟨hc, hp⟩
    · rw [vaN q, vaN q]; exact hi.1.1.2 d (by omega)
  · have hd' : d < T.2 4 1 + 1 := hd
    show 2 ≤ va_up (T.2 1) (T.2 4 1) p d ∧ (∃ s', s' < va_up (T.2 1) (T.2 4 1) p d ∧ upd (T.1 6) (T.2 4 1) (nI sh) d = nI s') ∧ (∃ s', 1 ≤ s' ∧ s' ≤ 900 ∧ upd (T.1 5) (T.2 4 1) (nI s) d = nI s') ∧ ¬ T.1 1 (va_up (T.2 0) (T.2 4 1) c d) = nI 2
    by_cases q : d = T.2 4 1
    · rw [vaE q, vaE q, updE q, updE q]; exact ⟨hp2, ⟨sh, hsh, rfl⟩, ⟨s, hs1, hs, rfl⟩, hw⟩
    · rw [vaN q, vaN q, updN q, updN q]; exact hi.2.2.2.1 d (by omega)
theorem take_rel {T : TV} {z : Nat → Int32} (h : Rel T z) (hi : inv T) {d : Nat} (hd : d < T.2 4 1) : Rel (takeT T d) (takeM z (T.2 4 1) d) ∧ inv (takeT T d) := by
  have hn5 := hi.1.1.1
  have e : ∀ j, ¬ j = 245 → (j < 246 + 4 * d ∨ 262 ≤ j) → takeM z (T.2 4 1) d j = z j := fun j a b => by
    unfold takeM toM
    rw [updN a, if_neg (by omega)]
  have es : ∀ j, 246 + 4 * d ≤ j → j < 262 → takeM z (T.2 4 1) d j = z (j + 4) := fun j a b => by
    unfold takeM toM
    rw [updN (by omega), if_pos ⟨a, b⟩]
  have e4 : takeM z (T.2 4 1) d 245 = nI (T.2 4 1 - 1) := updE rfl
  have row : ∀ q, (takeT T d).1 (7 + q) = T.1 (7 + q) := fun q => (if_neg (by omega)).trans (if_neg (by omega))
  have rmL : ∀ {α : Type} (f : Nat → α) (k : Nat), k < d → rmF f d (T.2 4 1) k = f k := fun f k hk => if_neg (by omega)
  have rmR : ∀ {α : Type} (f : Nat → α) (k : Nat), d ≤ k → k + 1 < T.2 4 1 → rmF f d (T.2 4 1) k = f (k + 1) := fun f k a b => if_pos ⟨a, b⟩
  refine ⟨⟨⟨fun j hj => by rw [e _ (by omega) (by omega)]; exact h.1.1 j hj, by rw [e _ (by omega) (by omega)]; exact h.1.2⟩, ⟨fun j hj => by rw [e _ (by omega) (by omega)]; exact h.2.1.1 j hj, fun j hj => by rw [e _ (by omega) (by omega)]; exact h.2.1.2.1 j hj, fun j hj => by rw [e _ (by omega) (by omega)]; exact h.2.1.2.2.1 j hj, fun j hj => by rw [e _ (by omega) (by omega)]; exact h.2.1.2.2.2 j hj⟩,
    ⟨e4, fun k hk => ?_⟩, ⟨by rw [e _ (by omega) (by omega)]; exact h.2.2.2.1, fun q hq => by
      rw [e _ (by omega) (by omega), e _ (by omega) (by omega)]
      exact ⟨(h.2.2.2.2 q hq).1, (h.2.2.2.2 q hq).2.1, fun r hr => by rw [e _ (by omega) (by omega), row]; exact (h.2.2.2.2 q hq).2.2 r hr⟩⟩⟩,
    ⟨⟨⟨?_, fun k hk => ?_⟩, hi.1.2⟩, hi.2.1, hi.2.2.1, fun k hk => ?_, fun q hq r hr => by rw [row]; exact hi.2.2.2.2 q hq r hr⟩⟩
  · have hk' : k < T.2 4 1 - 1 := hk
    show _ = nI (rmF (T.2 0) d (T.2 4 1) k) ∧ _ = nI (rmF (T.2 1) d (T.2 4 1) k) ∧ _ = rmF (T.1 5) d (T.2 4 1) k ∧ _ = rmF (T.1 6) d (T.2 4 1) k
    by_cases q : k < d
    · rw [rmL _ k q, rmL _ k q, rmL _ k q, rmL _ k q, e _ (by omega) (by omega), e _ (by omega) (by omega), e _ (by omega) (by omega), e _ (by omega) (by omega)]
      exact h.2.2.1.2 k (by omega)
    · rw [rmR _ k (by omega) (by omega), rmR _ k (by omega) (by omega), rmR _ k (by omega) (by omega), rmR _ k (by omega) (by omega), es _ (by omega) (by omega), es _ (by omega) (by omega), es _ (by omega) (by omega), es _ (by omega) (by omega)]
      have a := h.2.2.1.2 (k + 1) (by omega)
      rw [show 246 + 4 * (k + 1) = 246 + 4 * k + 4 by omega] at a
      exact a
  · show T.2 4 1 - 1 ≤ 5
    omega
  · have hk' : k < T.2 4 1 - 1 := hk
    show rmF (T.2 0) d (T.2 4 1) k < 60 ∧ rmF (T.2 1) d (T.2 4 1) k ≤ 40
    by_cases q : k < d
    · rw [rmL _ k q, rmL _ k q]; exact hi.1.1.2 k (by omega)
    · rw [rmR _ k (by omega) (by omega), rmR _ k (by omega) (by omega)]; exact hi.1.1.2 (k + 1) (by omega)
  · have hk' : k < T.2 4 1 - 1 := hk
    show 2 ≤ rmF (T.2 1) d (T.2 4 1) k ∧ (∃ s', s' < rmF (T.2 1) d (T.2 4 1) k ∧ rmF (T.1 6) d (T.2 4 1) k = nI s') ∧ (∃ s', 1 ≤ s' ∧ s' ≤ 900 ∧ rmF (T.1 5) d (T.2 4 1) k = nI s') ∧ ¬ T.1 1 (rmF (T.2 0) d (T.2 4 1) k) = nI 2
    by_cases q : k < d
    · rw [rmL _ k q, rmL _ k q, rmL _ k q, rmL _ k q]; exact hi.2.2.2.1 k (by omega)
    · rw [rmR _ k (by omega) (by omega), rmR _ k (by omega) (by omega), rmR _ k (by omega) (by omega), rmR _ k (by omega) (by omega)]; exact hi.2.2.2.1 (k + 1) (by omega)
theorem prob_rel {T : TV} {z : Nat → Int32} (h : Rel T z) (hi : inv T) {c : Nat} (hc : c < 60) (hn : T.2 4 2 < 3) : Rel (probT T c) (probM z (T.2 4 2) c) ∧ inv (probT T c) := by
  have e : ∀ j, ¬ j = 266 → (j < 267 + 26 * T.2 4 2 ∨ 267 + 26 * T.2 4 2 + 26 ≤ j) → probM z (T.2 4 2) c j = z j := fun j a b => by
    unfold probM
    rw [updN a, updN (by omega), rgF_out (by omega)]
  have e0 : probM z (T.2 4 2) c (267 + 26 * T.2 4 2) = nI c := by unfold probM; rw [updN (by omega), updE rfl]
  have e1 : probM z (T.2 4 2) c (267 + 26 * T.2 4 2 + 1) = nI 0 := by unfold probM; rw [updN (by omega), updN (by omega), rgF_in (by omega) (by omega)]
  have e4 : probM z (T.2 4 2) c 266 = nI (T.2 4 2 + 1) := updE rfl
  refine ⟨⟨⟨fun j hj => by rw [e _ (by omega) (by omega)]; exact h.1.1 j hj, by rw [e _ (by omega) (by omega)]; exact h.1.2⟩, ⟨fun j hj => by rw [e _ (by omega) (by omega)]; exact h.2.1.1 j hj, fun j hj => by rw [e _ (by omega) (by omega)]; exact h.2.1.2.1 j hj, fun j hj => by rw [e _ (by omega) (by omega)]; exact h.2.1.2.2.1 j hj, fun j hj => by rw [e _ (by omega) (by omega)]; exact h.2.1.2.2.2 j hj⟩,
    ⟨by rw [e _ (by omega) (by omega)]; exact h.2.2.1.1, fun d hd => ?_⟩, ⟨e4, fun p hp => ?_⟩⟩, ⟨⟨hi.1.1, hn, fun p hp => ?_⟩, hi.2.1, hi.2.2.1, hi.2.2.2.1, fun p hp k hk => ?_⟩⟩
  · have hd5 : d < T.2 4 1 := hd
    have n5 := hi.1.1.1
    rw [e _ (by omega) (by omega), e _ (by omega) (by omega), e _ (by omega) (by omega), e _ (by omega) (by omega)]
    exact h.2.2.1.2 d hd
  · have hp' : p < T.2 4 2 + 1 := hp
    show _ = nI (va_up (T.2 2) (T.2 4 2) c p) ∧ _ = nI (va_up (T.2 3) (T.2 4 2) 0 p) ∧ ∀ k, k < va_up (T.2 3) (T.2 4 2) 0 p → _ = T.1 (7 + p) k
    by_cases q : p = T.2 4 2
    · rw [vaE q, vaE q, q]
      exact ⟨e0, e1, fun k hk => absurd hk (Nat.not_lt_zero _)⟩
    · rw [vaN q, vaN q, e _ (by omega) (by omega), e _ (by omega) (by omega)]
      have a := h.2.2.2.2 p (by omega)
      have l := (hi.1.2.2 p (by omega)).2
      exact ⟨a.1, a.2.1, fun k hk => by rw [e _ (by omega) (by omega)]; exact a.2.2 k hk⟩
  · have hp' : p < T.2 4 2 + 1 := hp
    show va_up (T.2 2) (T.2 4 2) c p < 60 ∧ va_up (T.2 3) (T.2 4 2) 0 p ≤ 24
    by_cases q : p = T.2 4 2
    · rw [vaE q, vaE q]; exact ⟨hc, by omega⟩
    · rw [vaN q, vaN q]; exact hi.1.2.2 p (by omega)
  · have hp' : p < T.2 4 2 + 1 := hp
    have hk' : k < va_up (T.2 3) (T.2 4 2) 0 p := hk
    by_cases q : p = T.2 4 2
    · rw [vaE q] at hk'; exact absurd hk' (Nat.not_lt_zero _)
    · rw [vaN q] at hk'; exact hi.2.2.2.2 p (by omega) k hk'
