/-! The changes keep the relation and what stays true. -/
theorem set_rel {T : TV} {z : Nat → Int32} (h : Rel T z) (hi : inv T) {k : Nat} {v : Int32} (hk : k < 4) (hv : inP v (leastF (nI k)) (mostF (nI k))) : Rel (setT T k v) (upd z k v) ∧ inv (setT T k v) := by
  have e : ∀ j, 4 ≤ j → upd z k v j = z j := fun j hj => updN (by omega)
  refine ⟨⟨⟨fun j hj => ?_, by rw [e _ (by omega)]; exact h.1.2⟩, ⟨fun j hj => by rw [e _ (by omega)]; exact h.2.1.1 j hj, fun j hj => by rw [e _ (by omega)]; exact h.2.1.2.1 j hj, fun j hj => by rw [e _ (by omega)]; exact h.2.1.2.2.1 j hj, fun j hj => by rw [e _ (by omega)]; exact h.2.1.2.2.2 j hj⟩,
    ⟨by rw [e _ (by omega)]; exact h.2.2.1.1, fun d hd => by rw [e _ (by omega), e _ (by omega), e _ (by omega), e _ (by omega)]; exact h.2.2.1.2 d hd⟩,
    ⟨by rw [e _ (by omega)]; exact h.2.2.2.1, fun p hp => by
      rw [e _ (by omega), e _ (by omega)]
      exact ⟨(h.2.2.2.2 p hp).1, (h.2.2.2.2 p hp).2.1, fun q hq => by rw [e _ (by omega), show (setT T k v).1 (7 + p) = T.1 (7 + p) from if_neg (by omega)]; exact (h.2.2.2.2 p hp).2.2 q hq⟩⟩⟩,
    ⟨hi.1, fun j hj => ?_, hi.2.2.1, hi.2.2.2.1, fun p hp q hq => by rw [show (setT T k v).1 (7 + p) = T.1 (7 + p) from if_neg (by omega)]; exact hi.2.2.2.2 p hp q hq⟩⟩
  · show upd z k v j = upd (T.1 0) k v j
    by_cases q : j = k
    · rw [updE q, updE q]
    · rw [updN q, updN q]; exact h.1.1 j hj
  · show inP (upd (T.1 0) k v j) _ _
    by_cases q : j = k
    · rw [updE q, q]; exact hv
    · rw [updN q]; exact hi.2.1 j hj
theorem drop_rel {T : TV} {z : Nat → Int32} (h : Rel T z) (hi : inv T) {c : Nat} {v : Int32} (hc : c < 60) (hw : ¬ T.1 1 c = nI 2) : Rel (dropT T c v) (upd z (65 + c) (boundF (shf 65 z c + v))) ∧ inv (dropT T c v) := by
  have e : ∀ j, ¬ j = 65 + c → upd z (65 + c) (boundF (shf 65 z c + v)) j = z j := fun j hj => updN hj
  have hcc : shf 65 z c = T.1 2 c := h.2.1.2.1 c hc
  refine ⟨⟨⟨fun j hj => by rw [e _ (by omega)]; exact h.1.1 j hj, by rw [e _ (by omega)]; exact h.1.2⟩, ⟨fun j hj => by rw [e _ (by omega)]; exact h.2.1.1 j hj, fun j hj => ?_, fun j hj => by rw [e _ (by omega)]; exact h.2.1.2.2.1 j hj, fun j hj => by rw [e _ (by omega)]; exact h.2.1.2.2.2 j hj⟩,
    ⟨by rw [e _ (by omega)]; exact h.2.2.1.1, fun d hd => by rw [e _ (by omega), e _ (by omega), e _ (by omega), e _ (by omega)]; exact h.2.2.1.2 d hd⟩,
    ⟨by rw [e _ (by omega)]; exact h.2.2.2.1, fun p hp => by
      rw [e _ (by omega), e _ (by omega)]
      exact ⟨(h.2.2.2.2 p hp).1, (h.2.2.2.2 p hp).2.1, fun q hq => by rw [e _ (by omega), show (dropT T c v).1 (7 + p) = T.1 (7 + p) from if_neg (by omega)]; exact (h.2.2.2.2 p hp).2.2 q hq⟩⟩⟩,
    ⟨hi.1, hi.2.1, fun j hj => ?_, hi.2.2.2.1, fun p hp q hq => by rw [show (dropT T c v).1 (7 + p) = T.1 (7 + p) from if_neg (by omega)]; exact hi.2.2.2.2 p hp q hq⟩⟩
  · show upd z (65 + c) _ (65 + j) = upd (T.1 2) c _ j
    by_cases q : j = c
    · rw [updE (by omega), updE q, hcc]
    · rw [updN (by omega), updN q]; exact h.2.1.2.1 j hj
  · show bnd (upd (T.1 2) c _ j) ∧ bnd (T.1 3 j) ∧ (T.1 1 j = nI 2 → upd (T.1 2) c _ j = nI 0 ∧ T.1 3 j = nI 0)
    by_cases q : j = c
    · rw [updE q]
      exact ⟨bnd_boundF _, (hi.2.2.1 j hj).2.1, fun w => absurd (by rw [← q]; exact w) hw⟩
    · rw [updN q]; exact hi.2.2.1 j hj
theorem lay_rel {T : TV} {z : Nat → Int32} (h : Rel T z) (hi : inv T) {c : Nat} {f : Int32} (hc : c < 60) (hno : ¬ (f = nI 2 ∧ ¬ lastF (T.2 0) c (T.2 4 1) = -6)) : Rel (layT T c f) (flM z c f) ∧ inv (layT T c f) := by
  have e : ∀ j, ¬ j = 5 + c → ¬ j = 65 + c → ¬ j = 125 + c → flM z c f j = z j := fun j a b d => by
    unfold flM
    split
    · rw [updN d, updN b, updN a]
    · rw [updN a]
  have e5 : flM z c f (5 + c) = f := by
    unfold flM
    split
    · rw [updN (by omega), updN (by omega), updE rfl]
    · rw [updE rfl]
  have e65 : flM z c f (65 + c) = if f = nI 2 then nI 0 else z (65 + c) := by
    unfold flM
    split
    · rw [updN (by omega), updE rfl]
    · rw [updN (by omega)]
  have e125 : flM z c f (125 + c) = if f = nI 2 then nI 0 else z (125 + c) := by
    unfold flM
    split
    · rw [updE rfl]
    · rw [updN (by omega)]
  have nol : f = nI 2 → ∀ d, d < T.2 4 1 → ¬ T.2 0 d = c := fun hf d hd hdc => by
    have l6 : lastF (T.2 0) c (T.2 4 1) = -6 := Decidable.not_not.mp (fun z => hno ⟨hf, z⟩)
    have gen : ∀ n, d < n → n ≤ 5 → ¬ lastF (T.2 0) c n = -6 := by
      intro n
      induction n with
      | zero => intro a; exact absurd a (Nat.not_lt_zero _)
      | succ n ih =>
        intro a b
        rw [lastF]
        by_cases q : T.2 0 n = c
        · rw [if_pos q]; exact nI_ne6 (by omega)
        · rw [if_neg q]
          exact ih (by rcases Nat.lt_or_ge d n with r | r; exact r; exact absurd (by rw [show n = d by omega]; exact hdc) q) (by omega)
    exact gen _ hd hi.1.1.1 l6
  refine ⟨⟨⟨fun j hj => by rw [e _ (by omega) (by omega) (by omega)]; exact h.1.1 j hj, by rw [e _ (by omega) (by omega) (by omega)]; exact h.1.2⟩, ⟨fun j hj => ?_, fun j hj => ?_, fun j hj => ?_, fun j hj => by rw [e _ (by omega) (by omega) (by omega)]; exact h.2.1.2.2.2 j hj⟩,
    ⟨by rw [e _ (by omega) (by omega) (by omega)]; exact h.2.2.1.1, fun d hd => by rw [e _ (by omega) (by omega) (by omega), e _ (by omega) (by omega) (by omega), e _ (by omega) (by omega) (by omega), e _ (by omega) (by omega) (by omega)]; exact h.2.2.1.2 d hd⟩,
    ⟨by rw [e _ (by omega) (by omega) (by omega)]; exact h.2.2.2.1, fun p hp => by
      rw [e _ (by omega) (by omega) (by omega), e _ (by omega) (by omega) (by omega)]
      exact ⟨(h.2.2.2.2 p hp).1, (h.2.2.2.2 p hp).2.1, fun q hq => by rw [e _ (by omega) (by omega) (by omega), show (layT T c f).1 (7 + p) = T.1 (7 + p) from (if_neg (by omega)).trans ((if_neg (by omega)).trans (if_neg (by omega)))]; exact (h.2.2.2.2 p hp).2.2 q hq⟩⟩⟩,
    ⟨hi.1, hi.2.1, fun j hj => ?_, fun d hd => ?_, fun p hp q hq => by rw [show (layT T c f).1 (7 + p) = T.1 (7 + p) from (if_neg (by omega)).trans ((if_neg (by omega)).trans (if_neg (by omega)))]; exact hi.2.2.2.2 p hp q hq⟩⟩
  · show _ = upd (T.1 1) c f j
    by_cases q : j = c
    · rw [q, e5, updE rfl]
    · rw [e _ (by omega) (by omega) (by omega), updN q]; exact h.2.1.1 j hj
  · show _ = (if f = nI 2 then upd (T.1 2) c (nI 0) else T.1 2) j
    by_cases q : j = c
    · rw [q, e65]
      split
      · rw [updE rfl]
      · exact h.2.1.2.1 c hc
    · rw [e _ (by omega) (by omega) (by omega)]
      split
      · rw [updN q]; exact h.2.1.2.1 j hj
      · exact h.2.1.2.1 j hj
  · show _ = (if f = nI 2 then upd (T.1 3) c (nI 0) else T.1 3) j
    by_cases q : j = c
    · rw [q, e125]
      split
      · rw [updE rfl]
      · exact h.2.1.2.2.1 c hc
    · rw [e _ (by omega) (by omega) (by omega)]
      split
      · rw [updN q]; exact h.2.1.2.2.1 j hj
      · exact h.2.1.2.2.1 j hj
  · show bnd ((if f = nI 2 then upd (T.1 2) c (nI 0) else T.1 2) j) ∧ bnd ((if f = nI 2 then upd (T.1 3) c (nI 0) else T.1 3) j) ∧ (upd (T.1 1) c f j = nI 2 → (if f = nI 2 then upd (T.1 2) c (nI 0) else T.1 2) j = nI 0 ∧ (if f = nI 2 then upd (T.1 3) c (nI 0) else T.1 3) j = nI 0)
    have o := hi.2.2.1 j hj
    by_cases w : f = nI 2
    · rw [if_pos w, if_pos w]
      by_cases q : j = c
      · rw [updE q, updE q]; exact ⟨bnd_0, bnd_0, fun _ => ⟨rfl, rfl⟩⟩
      · rw [updN q, updN q, updN q]; exact o
    · rw [if_neg w, if_neg w]
      by_cases q : j = c
      · rw [updE q]; exact ⟨o.1, o.2.1, fun x => absurd x w⟩
      · rw [updN q]; exact o
  · have o := hi.2.2.2.1 d hd
    refine ⟨o.1, o.2.1, o.2.2.1, ?_⟩
    show ¬ upd (T.1 1) c f (T.2 0 d) = nI 2
    by_cases q : T.2 0 d = c
    · rw [updE q]; exact fun w => nol w d hd q
    · rw [updN q]; exact o.2.2.2
