/-! Clear and read. -/
theorem calmM_at {z : Nat → Int32} {j : Nat} : calmM z j = if 185 ≤ j ∧ j < 245 then -6 else if j = 4 then nI 0 else if 65 ≤ j ∧ j < 185 then nI 0 else z j := by
  unfold calmM
  by_cases a : 185 ≤ j ∧ j < 245
  · rw [if_pos a, rgF_in a.1 (by omega)]
  · rw [if_neg a, rgF_out (by omega)]
    by_cases b : j = 4
    · rw [if_pos b, updE b]
    · rw [if_neg b, updN b]
      by_cases c : 65 ≤ j ∧ j < 185
      · rw [if_pos c]
        by_cases d : 125 ≤ j
        · rw [rgF_in d (by omega)]
        · rw [rgF_out (by omega), rgF_in c.1 (by omega)]
      · rw [if_neg c, rgF_out (by omega), rgF_out (by omega)]
theorem calm_same {z : Nat → Int32} {j : Nat} (h : j < 4 ∨ (5 ≤ j ∧ j < 65) ∨ 245 ≤ j) : calmM z j = z j := by rw [calmM_at, if_neg (by omega), if_neg (by omega), if_neg (by omega)]
theorem clrsM_cell {z : Nat → Int32} {q : Nat} : ∀ n, clrsM z n (267 + 26 * q) = z (267 + 26 * q)
  | 0 => rfl
  | n + 1 => by rw [clrsM, rgF_out (by omega)]; exact clrsM_cell n
theorem clrsM_len {z : Nat → Int32} {q : Nat} : ∀ n, q < n → clrsM z n (267 + 26 * q + 1) = nI 0
  | 0, h => absurd h (Nat.not_lt_zero _)
  | n + 1, h => by
    rw [clrsM]
    by_cases e : q = n
    · rw [e, rgF_in (by omega) (by omega)]
    · rw [rgF_out (by omega)]; exact clrsM_len n (by omega)
theorem clear_rel {T : TV} {z : Nat → Int32} (h : Rel T z) (hi : inv T) : Rel (calmT T) (clrsM (calmM z) (T.2 4 2)) ∧ inv (calmT T) := by
  have n5 := hi.1.1.1
  refine ⟨⟨⟨fun j hj => by rw [clrsM_lo (by omega), calm_same (by omega)]; exact h.1.1 j hj, by rw [clrsM_lo (by omega), calmM_at, if_neg (by omega), if_pos rfl]; rfl⟩,
    ⟨fun j hj => by rw [clrsM_lo (by omega), calm_same (by omega)]; exact h.2.1.1 j hj, fun j hj => by rw [clrsM_lo (by omega), calmM_at, if_neg (by omega), if_neg (by omega), if_pos (by omega)]; rfl, fun j hj => by rw [clrsM_lo (by omega), calmM_at, if_neg (by omega), if_neg (by omega), if_pos (by omega)]; rfl, fun j hj => by rw [clrsM_lo (by omega), calmM_at, if_pos (by omega)]; rfl⟩,
    ⟨by rw [clrsM_lo (by omega), calm_same (by omega)]; exact h.2.2.1.1, fun d hd => ?_⟩, ⟨by rw [clrsM_lo (by omega), calm_same (by omega)]; exact h.2.2.2.1, fun p hp => ?_⟩⟩,
    ⟨⟨hi.1.1, hi.1.2.1, fun p hp => ⟨(hi.1.2.2 p hp).1, Nat.zero_le _⟩⟩, hi.2.1, fun j hj => ⟨bnd_0, bnd_0, fun _ => ⟨rfl, rfl⟩⟩, hi.2.2.2.1, fun p hp k hk => absurd hk (Nat.not_lt_zero _)⟩⟩
  · have hd' : d < T.2 4 1 := hd
    rw [clrsM_lo (by omega), clrsM_lo (by omega), clrsM_lo (by omega), clrsM_lo (by omega), calm_same (by omega), calm_same (by omega), calm_same (by omega), calm_same (by omega)]
    exact h.2.2.1.2 d hd
  · have hp' : p < T.2 4 2 := hp
    refine ⟨by rw [clrsM_cell, calm_same (by omega)]; exact (h.2.2.2.2 p hp').1, by rw [clrsM_len _ hp']; rfl, fun k hk => absurd hk (Nat.not_lt_zero _)⟩
theorem badN_le {pd : Nat → Int32} : ∀ n, badN pd n ≤ n
  | 0 => Nat.le_refl _
  | n + 1 => by
    have := badN_le (pd := pd) n
    rw [badN]
    split
    · omega
    · split <;> omega
theorem badN_ok {pd : Nat → Int32} : ∀ n, badN pd n = n → ∀ j, j < n → padOk pd j
  | 0, _, j, hj => absurd hj (Nat.not_lt_zero _)
  | n + 1, h, j, hj => by
    have l := badN_le (pd := pd) n
    rw [badN] at h
    by_cases a : badN pd n < n
    · rw [if_pos a] at h; omega
    · rw [if_neg a] at h
      by_cases b : padOk pd n
      · by_cases e : j = n
        · rw [e]; exact b
        · exact badN_ok n (by omega) j (by omega)
      · rw [if_neg b] at h; omega
theorem pad_good {pd : Nat → Int32} {ty : Nat} (hty : ty ≤ 72) (h : badF pd ty = -6) : ty = 65 ∧ ∀ j, j < 65 → padOk pd j := by
  have l := badN_le (pd := pd) ty
  unfold badF at h
  by_cases a : badN pd ty < ty
  · rw [if_pos a] at h; exact absurd h (nI_ne6 (by omega))
  · rw [if_neg a] at h
    by_cases b : ty < 65
    · rw [if_pos b] at h; exact absurd h (nI_ne6 (by omega))
    · have ok := badN_ok (pd := pd) ty (by omega)
      have t65 : ty = 65 := by
        rcases Nat.lt_or_ge 65 ty with q | q
        · exact absurd (ok 65 q).1 (by omega)
        · omega
      exact ⟨t65, fun j hj => ok j (by omega)⟩
theorem read_rel {T : TV} {z pd : Nat → Int32} (h : Rel T z) (hi : inv T) (hok : ∀ j, j < 65 → padOk pd j) : Rel (layAllT T pd) (readM z pd) ∧ inv (layAllT T pd) := by
  have hfl : ∀ j, j < 60 → idxF (pd (j / 10 * 11 + j % 10)) = floF (pd (j / 10 * 11 + j % 10)) := fun j hj => by
    rcases (hok (j / 10 * 11 + j % 10) (by omega)).2 with a | a
    · omega
    · exact idx_flo a.2
  have hi245 : ∀ j, j < 245 → readM z pd j = calmM (rgF 5 60 (fun c => floF (pd (c / 10 * 11 + c % 10))) z) j := fun j hj => rgF_out (by omega)
  have z0 : ∀ j, 245 ≤ j → j < 345 → readM z pd j = nI 0 := fun j a b => rgF_in a (by omega)
  refine ⟨⟨⟨fun j hj => by rw [hi245 _ (by omega), calm_same (by omega), rgF_out (by omega)]; exact h.1.1 j hj, by rw [hi245 _ (by omega), calmM_at, if_neg (by omega), if_pos rfl]; rfl⟩,
    ⟨fun j hj => ?_, fun j hj => by rw [hi245 _ (by omega), calmM_at, if_neg (by omega), if_neg (by omega), if_pos (by omega)]; rfl, fun j hj => by rw [hi245 _ (by omega), calmM_at, if_neg (by omega), if_neg (by omega), if_pos (by omega)]; rfl, fun j hj => by rw [hi245 _ (by omega), calmM_at, if_pos (by omega)]; rfl⟩,
    ⟨by rw [z0 _ (by omega) (by omega)]; rfl, fun d hd => absurd hd (Nat.not_lt_zero _)⟩, ⟨by rw [z0 _ (by omega) (by omega)]; rfl, fun p hp => absurd hp (Nat.not_lt_zero _)⟩⟩,
    ⟨⟨⟨Nat.zero_le _, fun k hk => absurd hk (Nat.not_lt_zero _)⟩, Nat.zero_le _, fun p hp => absurd hp (Nat.not_lt_zero _)⟩, hi.2.1, fun j hj => ⟨bnd_0, bnd_0, fun _ => ⟨rfl, rfl⟩⟩, fun d hd => absurd hd (Nat.not_lt_zero _), fun p hp => absurd hp (Nat.not_lt_zero _)⟩⟩
  · rw [hi245 _ (by omega), calm_same (by omega), rgF_in (by omega) (by omega), Nat.add_sub_cancel_left]
    have el : (layAllT T pd).1 1 = rgF 0 60 (fun c => idxF (pd (c / 10 * 11 + c % 10))) (T.1 1) := rfl
    rw [el, rgF_in (by omega) (by omega), Nat.sub_zero, hfl j hj]
