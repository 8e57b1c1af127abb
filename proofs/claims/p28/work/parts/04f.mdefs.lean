/-! What the reference's record, tick and ticks compute. -/
theorem updE {f : Nat → Int32} {k j : Nat} {x : Int32} (h : j = k) : upd f k x j = x := if_pos h
theorem updN {f : Nat → Int32} {k j : Nat} {x : Int32} (h : ¬ j = k) : upd f k x j = f j := if_neg h
def rec1 (pm : Nat) : Nat := if pm = 6 then 5 else pm
def rec0 (pa : Nat → Int32) (pm : Nat) : Nat → Int32 := if pm = 6 then shF pa 1725 else pa
def recP (pa z : Nat → Int32) (pm : Nat) : Nat → Int32 := rgF (rec1 pm * 345) 345 z (rec0 pa pm)
theorem rec1_in {pm : Nat} (h : pm ≤ 6) : rec1 pm ≤ 5 := by unfold rec1; split <;> omega
/-- a probe's row, moved on by one, k places of it still unmoved -/
def seeS (z : Nat → Int32) (p k : Nat) : Nat → Int32 := fun j => if 267 + 26 * p + 1 + k < j ∧ j ≤ 267 + 26 * p + 25 then z (j - 1) else z j
theorem seeS_0 {z : Nat → Int32} {p : Nat} : z = seeS z p 24 := by funext j; unfold seeS; rw [if_neg (by omega)]
theorem seeS_next {z zz : Nat → Int32} {p k : Nat} (h : zz = seeS z p k) (h2 : 2 ≤ k) (hk : k ≤ 24) : upd zz (267 + 26 * p + 1 + k) (zz (267 + 26 * p + k)) = seeS z p (k - 1) := by
  have e : zz (267 + 26 * p + k) = z (267 + 26 * p + k) := by rw [h]; unfold seeS; rw [if_neg (by omega)]
  rw [e, h]
  funext j
  by_cases q : j = 267 + 26 * p + 1 + k
  · rw [updE q]; unfold seeS; rw [if_pos (by omega), show j - 1 = 267 + 26 * p + k by omega]
  · rw [updN q]
    unfold seeS
    by_cases r : 267 + 26 * p + 1 + k < j ∧ j ≤ 267 + 26 * p + 25
    · rw [if_pos r, if_pos (by omega)]
    · rw [if_neg r, if_neg (by omega)]
def seeM (z : Nat → Int32) (p c n : Nat) : Nat → Int32 := upd (upd (seeS z p 1) (267 + 26 * p + 2) (z (65 + c))) (267 + 26 * p + 1) (nI (if n < 24 then n + 1 else 24))
theorem seeM_out {z : Nat → Int32} {p c n j : Nat} (h : j < 267 + 26 * p + 1 ∨ 267 + 26 * p + 25 < j) : seeM z p c n j = z j := by
  unfold seeM
  rw [updN (by omega), updN (by omega)]
  unfold seeS
  rw [if_neg (by omega)]
theorem seeM_len {z : Nat → Int32} {p c n : Nat} : seeM z p c n (267 + 26 * p + 1) = nI (if n < 24 then n + 1 else 24) := updE rfl
theorem seeM_0 {z : Nat → Int32} {p c n : Nat} : seeM z p c n (267 + 26 * p + 2) = z (65 + c) := by unfold seeM; rw [updN (by omega), updE rfl]
theorem seeM_row {z : Nat → Int32} {p c n k : Nat} (h1 : 1 ≤ k) (h : k < 24) : seeM z p c n (267 + 26 * p + 2 + k) = z (267 + 26 * p + 2 + (k - 1)) := by
  unfold seeM
  rw [updN (by omega), updN (by omega)]
  unfold seeS
  rw [if_pos (by omega), show 267 + 26 * p + 2 + k - 1 = 267 + 26 * p + 2 + (k - 1) by omega]
def pcM (z : Nat → Int32) (p : Nat) : Nat := ncl (z (267 + 26 * p))
def plM (z : Nat → Int32) (p : Nat) : Nat := ncl (z (267 + 26 * p + 1))
def seesM (z : Nat → Int32) : Nat → Nat → Int32
  | 0 => z
  | p + 1 => seeM (seesM z p) p (pcM z p) (plM z p)
theorem seesM_lo {z : Nat → Int32} {j : Nat} (h : j < 268) : ∀ p, seesM z p j = z j
  | 0 => rfl
  | p + 1 => by rw [seesM, seeM_out (by omega)]; exact seesM_lo h p
theorem seesM_hi {z : Nat → Int32} {j : Nat} : ∀ p, 267 + 26 * p ≤ j → seesM z p j = z j
  | 0, _ => rfl
  | p + 1, h => by rw [seesM, seeM_out (by omega)]; exact seesM_hi p (by omega)
theorem seesM_cell {z : Nat → Int32} {q : Nat} : ∀ p, seesM z p (267 + 26 * q) = z (267 + 26 * q)
  | 0 => rfl
  | p + 1 => by rw [seesM, seeM_out (by omega)]; exact seesM_cell p
/-- a tick's writes, i cells of them -/
def tk1F (z g : Nat → Int32) (i : Nat) : Int32 := if z (185 + i) = -6 ∧ z 3 < iabs (g i) then z 4 else z (185 + i)
def tk2 (z g : Nat → Int32) (i : Nat) : Nat → Int32 := rgF 185 i (tk1F z g) (rgF 65 i g (rgF 125 i (fun k => z (65 + k)) z))
theorem tk2_0 {z g : Nat → Int32} : z = tk2 z g 0 := by
  unfold tk2
  rw [← rgF_0, ← rgF_0, ← rgF_0]
theorem tk2_same {z g : Nat → Int32} {i j : Nat} (h : ¬ (65 ≤ j ∧ j < 65 + i)) (h2 : ¬ (125 ≤ j ∧ j < 125 + i)) (h3 : ¬ (185 ≤ j ∧ j < 185 + i)) : tk2 z g i j = z j := by
  unfold tk2
  rw [rgF_out (by omega), rgF_out (by omega), rgF_out (by omega)]
theorem tk2_next {z g zz : Nat → Int32} {i : Nat} (h : zz = tk2 z g i) (hi : i < 60) : upd (upd (upd zz (125 + i) (z (65 + i))) (65 + i) (g i)) (185 + i) (tk1F z g i) = tk2 z g (i + 1) := by
  rw [h]
  unfold tk2
  rw [rgF_upd (lo := 185) (k := 125 + i) (by omega), rgF_upd (lo := 185) (k := 65 + i) (by omega), rgF_upd (lo := 65) (k := 125 + i) (by omega), rgF_next (lo := 125) (i := i) (g := fun k => z (65 + k)) (z := z) rfl rfl rfl, rgF_next (lo := 65) (i := i) (g := g) rfl rfl rfl]
  exact rgF_next rfl rfl rfl
def tickM (z : Nat → Int32) (nd np : Nat) : Nat → Int32 := upd (seesM (tk2 z (thenF z nd) 60) np) 4 (z 4 + nI 1)
/-- what a tick needs of the numbers -/
def okM (z : Nat → Int32) (nd np : Nat) : Prop := (z 245 = nI nd ∧ nd ≤ 5 ∧ z 266 = nI np ∧ np ≤ 3) ∧ (∀ d, d < nd → ¬ z (246 + 4 * d + 1) = 0) ∧
  ∀ p, p < np → (z (267 + 26 * p) = nI (pcM z p) ∧ pcM z p < 60) ∧ z (267 + 26 * p + 1) = nI (plM z p) ∧ plM z p ≤ 24
theorem tickM_same {z : Nat → Int32} {nd np j : Nat} (h : j ≤ 3 ∨ (5 ≤ j ∧ j < 65) ∨ (245 ≤ j ∧ j < 268)) : tickM z nd np j = z j := by
  unfold tickM
  rw [updN (by omega), seesM_lo (by omega), tk2_same (by omega) (by omega) (by omega)]
theorem tickM_cell {z : Nat → Int32} {nd np p : Nat} : tickM z nd np (267 + 26 * p) = z (267 + 26 * p) := by
  unfold tickM
  rw [updN (by omega), seesM_cell, tk2_same (by omega) (by omega) (by omega)]
theorem seesM_len {z : Nat → Int32} {q : Nat} : ∀ p, q < p → seesM z p (267 + 26 * q + 1) = nI (if plM z q < 24 then plM z q + 1 else 24)
  | 0, h => absurd h (Nat.not_lt_zero _)
  | p + 1, h => by
    rw [seesM]
    by_cases e : q = p
    · rw [e]; exact seeM_len
    · rw [seeM_out (by omega)]; exact seesM_len p (by omega)
theorem tk2_pl {z g : Nat → Int32} {i p : Nat} (hi : i ≤ 60) : plM (tk2 z g i) p = plM z p := by unfold plM; rw [tk2_same (by omega) (by omega) (by omega)]
theorem tk2_pc {z g : Nat → Int32} {i p : Nat} (hi : i ≤ 60) : pcM (tk2 z g i) p = pcM z p := by unfold pcM; rw [tk2_same (by omega) (by omega) (by omega)]
theorem tickM_len {z : Nat → Int32} {nd np p : Nat} (h : p < np) : tickM z nd np (267 + 26 * p + 1) = nI (if plM z p < 24 then plM z p + 1 else 24) := by
  unfold tickM
  rw [updN (by omega), seesM_len _ h, tk2_pl (Nat.le_refl _)]
theorem okM.tick {z : Nat → Int32} {nd np : Nat} (h : okM z nd np) : okM (tickM z nd np) nd np := by
  obtain ⟨⟨h1, h2, h3, h4⟩, h5, h6⟩ := h
  refine ⟨⟨by rw [tickM_same (by omega)]; exact h1, h2, by rw [tickM_same (by omega)]; exact h3, h4⟩, fun d hd => by rw [tickM_same (by omega)]; exact h5 d hd, fun p hp => ?_⟩
  obtain ⟨⟨a, b⟩, c, d⟩ := h6 p hp
  have e : pcM (tickM z nd np) p = pcM z p := by unfold pcM; rw [tickM_cell]
  have f : plM (tickM z nd np) p = if plM z p < 24 then plM z p + 1 else 24 := by
    unfold plM
    rw [tickM_len hp]
    exact nI_clamp (by split <;> omega)
  rw [e, f, tickM_cell, tickM_len hp]
  exact ⟨⟨a, b⟩, rfl, by split <;> omega⟩
theorem okM.tk2 {z : Nat → Int32} {nd np : Nat} (h : okM z nd np) {g : Nat → Int32} {p : Nat} (hp : p < np) :
    (seesM (tk2 z g 60) p (267 + 26 * p) = nI (pcM (tk2 z g 60) p) ∧ pcM (tk2 z g 60) p < 60) ∧ seesM (tk2 z g 60) p (267 + 26 * p + 1) = nI (plM (tk2 z g 60) p) ∧ plM (tk2 z g 60) p ≤ 24 := by
  obtain ⟨⟨a, b⟩, c, d⟩ := h.2.2 p hp
  rw [tk2_pc (Nat.le_refl _), tk2_pl (Nat.le_refl _), seesM_cell, seesM_hi p (by omega), tk2_same (by omega) (by omega) (by omega), tk2_same (by omega) (by omega) (by omega)]
  exact ⟨⟨a, b⟩, c, d⟩
def runM (z : Nat → Int32) (nd np : Nat) : Nat → Nat → Int32
  | 0 => z
  | n + 1 => tickM (runM z nd np n) nd np
theorem okM.run {z : Nat → Int32} {nd np : Nat} (h : okM z nd np) : ∀ n, okM (runM z nd np n) nd np
  | 0 => h
  | n + 1 => (h.run n).tick
def thM (z th : Nat → Int32) (nd np : Nat) : Nat → Nat → Int32
  | 0 => th
  | n + 1 => thenF (runM z nd np n) nd
