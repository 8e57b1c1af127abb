/-! History, slots, pad. -/
theorem rel_congr {T : TV} {z z' : Nat → Int32} (h : Rel T z) (hi : inv T) (e : ∀ j, j < 345 → z' j = z j) : Rel T z' := by
  have n5 := hi.1.1.1
  have n3 := hi.1.2.1
  refine ⟨⟨fun j hj => by rw [e _ (by omega)]; exact h.1.1 j hj, by rw [e _ (by omega)]; exact h.1.2⟩, ⟨fun j hj => by rw [e _ (by omega)]; exact h.2.1.1 j hj, fun j hj => by rw [e _ (by omega)]; exact h.2.1.2.1 j hj, fun j hj => by rw [e _ (by omega)]; exact h.2.1.2.2.1 j hj, fun j hj => by rw [e _ (by omega)]; exact h.2.1.2.2.2 j hj⟩,
    ⟨by rw [e _ (by omega)]; exact h.2.2.1.1, fun d hd => by rw [e _ (by omega), e _ (by omega), e _ (by omega), e _ (by omega)]; exact h.2.2.1.2 d hd⟩, ⟨by rw [e _ (by omega)]; exact h.2.2.2.1, fun p hp => ?_⟩⟩
  have l := (hi.1.2.2 p hp).2
  rw [e _ (by omega), e _ (by omega)]
  exact ⟨(h.2.2.2.2 p hp).1, (h.2.2.2.2 p hp).2.1, fun k hk => by rw [e _ (by omega)]; exact (h.2.2.2.2 p hp).2.2 k hk⟩
/-- a state on both sides -/
def St (T : TV) (z : Nat → Int32) : Prop := Rel T z ∧ inv T ∧ T.2 4 0 ≤ 100000
theorem St.congr {T : TV} {z z' : Nat → Int32} (h : St T z) (e : ∀ j, j < 345 → z' j = z j) : St T z' := ⟨rel_congr h.1 h.2.1 e, h.2.1, h.2.2⟩
def RelH (hn : Nat) (hT : Nat → TV) (pa : Nat → Int32) : Prop := hn ≤ 6 ∧ ∀ k, k < hn → St (hT k) (fun j => pa (k * 345 + j))
theorem keep_rel {hn : Nat} {hT : Nat → TV} {pa z : Nat → Int32} {T : TV} (h : RelH hn hT pa) (hs : St T z) : RelH (keepN hn) (keepT hT hn T) (recP pa z hn) := by
  have h6 := h.1
  by_cases a : hn < 6
  · have e1 : rec1 hn = hn := if_neg (by omega)
    have e0 : rec0 pa hn = pa := if_neg (by omega)
    unfold keepN keepT recP
    rw [if_pos a, if_pos a, e1, e0]
    refine ⟨by omega, fun k hk => ?_⟩
    by_cases q : k = hn
    · have t : va_up hT hn T k = T := if_pos q
      rw [t]
      exact hs.congr (fun j hj => by show rgF _ _ _ _ (k * 345 + j) = _; rw [rgF_in (by omega) (by omega), q, Nat.add_sub_cancel_left])
    · have t : va_up hT hn T k = hT k := if_neg q
      rw [t]
      exact (h.2 k (by omega)).congr (fun j hj => by show rgF _ _ _ _ (k * 345 + j) = _; rw [rgF_out (by omega)])
  · have e : hn = 6 := by omega
    subst e
    have e1 : rec1 6 = 5 := rfl
    have e0 : rec0 pa 6 = shF pa 1725 := rfl
    unfold keepN keepT recP
    rw [if_neg a, if_neg a, e1, e0]
    refine ⟨by omega, fun k hk => ?_⟩
    by_cases q : k = 5
    · have t : va_up (rot hT) 5 T k = T := if_pos q
      rw [t]
      exact hs.congr (fun j hj => by show rgF _ _ _ _ (k * 345 + j) = _; rw [rgF_in (by omega) (by omega), q, Nat.add_sub_cancel_left])
    · have t : va_up (rot hT) 5 T k = hT (k + 1) := (if_neg q).trans (by unfold rot; rw [if_neg q])
      rw [t]
      refine (h.2 (k + 1) (by omega)).congr (fun j hj => ?_)
      show rgF _ _ _ _ (k * 345 + j) = pa ((k + 1) * 345 + j)
      rw [rgF_out (by omega)]
      unfold shF
      rw [if_pos (by omega), show k * 345 + j + 345 = (k + 1) * 345 + j by omega]
theorem undo_rel {hn : Nat} {hT : Nat → TV} {pa z : Nat → Int32} (h : RelH hn hT pa) (h1 : 1 ≤ hn) : RelH (hn - 1) hT pa ∧ St (hT (hn - 1)) (undZ z pa (hn - 1)) :=
  ⟨⟨by have := h.1; omega, fun k hk => h.2 k (by omega)⟩, (h.2 (hn - 1) (by omega)).congr (fun j hj => by unfold undZ; rw [rgF_in (by omega) (by omega), Nat.sub_zero])⟩
/-- a slot on both sides -/
def RelL (sv : Nat → Int32) (q : Nat) (U : TV) (sl : Nat → Int32) : Prop := ¬ sv q = 0 → St U (fun j => sl (q * 345 + j))
theorem badN_congr {pd pd' : Nat → Int32} : ∀ n, (∀ j, j < n → pd j = pd' j) → badN pd n = badN pd' n
  | 0, _ => rfl
  | n + 1, e => by
    have o : padOk pd n ↔ padOk pd' n := by
      show (n < 65 ∧ ((n % 11 = 10 ∧ pd n = nI 47) ∨ (¬ n % 11 = 10 ∧ ¬ floF (pd n) = -6))) ↔ _
      rw [e n (by omega)]
    rw [badN, badN, badN_congr n (fun j hj => e j (by omega))]
    by_cases p : padOk pd n
    · rw [if_pos p, if_pos (o.mp p)]
    · rw [if_neg p, if_neg (fun q => p (o.mpr q))]
theorem badF_congr {pd pd' : Nat → Int32} {n : Nat} (e : ∀ j, j < n → pd j = pd' j) : badF pd n = badF pd' n := by
  unfold badF
  rw [badN_congr n e]
theorem padF_congr {pd pd' : Nat → Int32} {n ty ct : Nat} (e : ∀ j, j < ty → pd j = pd' j) : ∀ j, j < ty + ct → padF pd n ty ct ct j = padF pd' n ty ct ct j := fun j hj => by
  unfold padF
  by_cases q : ty ≤ j ∧ j < ty + ct
  · rw [if_pos q, if_pos q]
  · rw [if_neg q, if_neg q, e j (by omega)]
theorem chF_le : ∀ f r m, chF f r m ≤ m + f
  | 0, r, m => by rw [chF]; split <;> omega
  | f + 1, r, m => by
    have i := chF_le f (r / 256) (m + 1)
    rw [chF]
    split
    · split <;> omega
    · split
      · omega
      · omega
