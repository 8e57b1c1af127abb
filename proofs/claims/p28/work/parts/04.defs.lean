/-! What the tank's methods compute, as functions of what its rows hold. -/
theorem add0 (x : Int32) : x + nI 0 = x := Int32.add_zero x
theorem nI_m1 (k : Nat) : nI (k + 1) - nI 1 = nI k := pk_sub (Nat.le_add_left 1 k)
def boundF (v : Int32) : Int32 := imax (-9999) (imin (nI 9999) v)
def riseF (fl h : Nat → Int32) (i j : Nat) : Int32 := if fl j = nI 2 then nI 0 else h j - h i
def heightAtF (h : Nat → Int32) (x y : Int32) : Int32 := if cellP x y then h (ncl y * 10 + ncl x) else nI 0
theorem heightAtF_in {h : Nat → Int32} {i j : Nat} (hi : i < 10) (hj : j < 6) : heightAtF h (nI i) (nI j) = h (j * 10 + i) := by
  unfold heightAtF ncl
  rw [if_pos (cellP_of hi hj), nI_clamp (by omega), nI_clamp (by omega)]
def slopeF (fl h : Nat → Int32) (i : Nat) : Int32 := if fl i = nI 2 then nI 0 else
  (((if 0 < i % 10 then riseF fl h i (i - 1) else nI 0) + (if i % 10 < 9 then riseF fl h i (i + 1) else nI 0)) + (if 0 < i / 10 then riseF fl h i (i - 10) else nI 0)) + (if i / 10 < 5 then riseF fl h i (i + 10) else nI 0)
def nextH0 (st fl h ah : Nat → Int32) (i : Nat) : Int32 := nI 2 * h i - ah i + slopeF fl h i * (if fl i = nI 0 then st 1 else st 2) / nI 16
def nextH1 (st fl h ah : Nat → Int32) (i : Nat) : Int32 := nextH0 st fl h ah i - nextH0 st fl h ah i * st 0 / nI 1000
def nextF (st fl h ah : Nat → Int32) (i : Nat) : Int32 := boundF (if fl i = nI 3 then nextH1 st fl h ah i / nI 2 else nextH1 st fl h ah i)
abbrev stillP (st h ah : Nat → Int32) (i : Nat) : Prop := iabs (h i) ≤ st 3 ∧ iabs (ah i) ≤ st 3
abbrev crestP (h : Nat → Int32) (x y : Nat) : Prop := 0 < heightAtF h (nI x) (nI y) ∧ heightAtF h (nI x - nI 1) (nI y) < heightAtF h (nI x) (nI y) ∧ heightAtF h (nI (x + 1)) (nI y) < heightAtF h (nI x) (nI y)
def openF (fl : Nat → Int32) : Int32 := sumI 60 (fun j => if fl j = nI 2 then nI 0 else nI 1)
def reachF (fi : Nat → Int32) : Int32 := sumI 60 (fun j => if fi j = -6 then nI 0 else nI 1)
def restF (st fl h ah : Nat → Int32) : Int32 := sumI 60 (fun j => if fl j = nI 2 then nI 0 else if stillP st h ah j then nI 0 else nI 1)
def loudF (h : Nat → Int32) : Int32 := sumI 60 (fun j => iabs (h j))
def ldF (h : Nat → Int32) : Nat → Nat
  | 0 => 0
  | n + 1 => if iabs (h (ldF h n)) < iabs (h n) then n else ldF h n
theorem ldF_1 {h : Nat → Int32} : ldF h 1 = 0 := by
  show (if iabs (h 0) < iabs (h 0) then 0 else 0) = 0
  split <;> rfl
def remI (x y : Int32) : Int32 := x - x / y * y
abbrev upP (dp : Nat → Nat) (dh : Nat → Int32) (t d : Nat) : Prop := 0 < dp d ∧ nI (dp d / 2) ≤ remI (nI t + dh d) (nI (dp d))
def lastF (dc : Nat → Nat) (c : Nat) : Nat → Int32
  | 0 => -6
  | n + 1 => if dc n = c then nI n else lastF dc c n
/-! The reference's side, on its one row z. -/
def shf (k : Nat) (z : Nat → Int32) : Nat → Int32 := fun j => z (k + j)
theorem size_neg {v : Int32} (h : ¬ 0 ≤ v) : -v = iabs v := by
  unfold iabs; rw [if_neg h]; exact (Int32.zero_sub v).symm
theorem i_lt_of {a b : Int32} (h : a.toInt < b.toInt) : a < b := Int32.lt_iff_toInt_lt.mpr h
theorem kept_lo {v : Int32} (h : ¬ -9999 ≤ v) : (-9999 : Int32) = boundF v := by
  have h1 : v < -9999 := Int32.not_le.mp h
  have h2 : v < nI 9999 := Int32.lt_trans h1 (by decide +kernel)
  unfold boundF imin imax
  rw [if_pos h2, if_neg (fun z => Int32.lt_irrefl (Int32.lt_trans z h1))]
theorem kept_mid {v : Int32} (h : -9999 ≤ v) (h2 : v ≤ nI 9999) : v = boundF v := by
  unfold boundF imin imax
  by_cases q : v < nI 9999
  · rw [if_pos q]
    split
    · rfl
    · rename_i r
      exact Int32.le_antisymm (Int32.not_lt.mp r) h
  · have e : v = nI 9999 := Int32.le_antisymm h2 (Int32.not_lt.mp q)
    rw [if_neg q, if_pos (by decide +kernel), e]
theorem kept_hi {v : Int32} (h2 : ¬ v ≤ nI 9999) : nI 9999 = boundF v := by
  unfold boundF imin imax
  rw [if_neg (fun z => h2 (Int32.le_of_lt z)), if_pos (by decide +kernel)]
def leastF (s : Int32) : Int32 := if s = nI 1 ∨ s = nI 2 then nI 1 else nI 0
def mostF (s : Int32) : Int32 := if s = nI 1 ∨ s = nI 2 then nI 8 else nI 500
def grF (h : Nat → Int32) : Nat → Int32
  | 0 => nI 0
  | n + 1 => if grF h n < iabs (h n) then iabs (h n) else grF h n
def stillsF (z : Nat → Int32) : Int32 := sumI 60 (fun j => if ¬ shf 5 z j = nI 2 ∧ stillP z (shf 65 z) (shf 125 z) j then nI 1 else nI 0)
def fromF (fl h : Nat → Int32) (c : Nat) (x y : Int32) : Int32 := if cellP x y ∧ ¬ fl (ncl y * 10 + ncl x) = nI 2 then h (ncl y * 10 + ncl x) - h c else nI 0
theorem fromF_in {fl h : Nat → Int32} {c i j : Nat} (hi : i < 10) (hj : j < 6) (hw : ¬ fl (j * 10 + i) = nI 2) : h (j * 10 + i) - h c = fromF fl h c (nI i) (nI j) := by
  unfold fromF ncl
  rw [nI_clamp (by omega), nI_clamp (by omega), if_pos ⟨cellP_of hi hj, hw⟩]
theorem fromF_wall {fl h : Nat → Int32} {c i j : Nat} (hi : i < 10) (hj : j < 6) (hw : fl (j * 10 + i) = nI 2) : nI 0 = fromF fl h c (nI i) (nI j) := by
  unfold fromF ncl
  rw [nI_clamp (by omega), nI_clamp (by omega), if_neg (fun z => z.2 hw)]
theorem fromF_out {fl h : Nat → Int32} {c : Nat} {x y : Int32} (hw : ¬ cellP x y) : nI 0 = fromF fl h c x y := by
  unfold fromF
  rw [if_neg (fun z => hw z.1)]
theorem nI_neg1 {i : Nat} (hi : i = 0) : ¬ nI 0 ≤ nI i - nI 1 := by subst hi; decide +kernel
theorem from_side {fl h : Nat → Int32} {c i j : Nat} (hi : i < 10) (hj : j < 6) : fromF fl h c (nI i) (nI j) = riseF fl h c (j * 10 + i) := by
  unfold riseF
  split
  · rename_i q; exact (fromF_wall hi hj q).symm
  · rename_i q; exact (fromF_in hi hj q).symm
theorem slopeM_eq {fl h : Nat → Int32} {c : Nat} (hc : c < 60) (hw : ¬ fl c = nI 2) : fromF fl h c (nI (c % 10) - nI 1) (nI (c / 10)) + fromF fl h c (nI (c % 10 + 1)) (nI (c / 10)) + fromF fl h c (nI (c % 10)) (nI (c / 10) - nI 1) + fromF fl h c (nI (c % 10)) (nI (c / 10 + 1)) = slopeF fl h c := by
  unfold slopeF
  rw [if_neg hw]
  have e1 : fromF fl h c (nI (c % 10) - nI 1) (nI (c / 10)) = if 0 < c % 10 then riseF fl h c (c - 1) else nI 0 := by
    split
    · rename_i q
      rw [pk_sub (by omega), from_side (by omega) (by omega), show c / 10 * 10 + (c % 10 - 1) = c - 1 by omega]
    · rename_i q
      exact (fromF_out (fun z => nI_neg1 (by omega) z.1.1)).symm
  have e2 : fromF fl h c (nI (c % 10 + 1)) (nI (c / 10)) = if c % 10 < 9 then riseF fl h c (c + 1) else nI 0 := by
    split
    · rename_i q
      rw [from_side (by omega) (by omega), show c / 10 * 10 + (c % 10 + 1) = c + 1 by omega]
    · rename_i q
      exact (fromF_out (fun z => absurd z.1.2 (nI_ge (by omega) (by omega)))).symm
  have e3 : fromF fl h c (nI (c % 10)) (nI (c / 10) - nI 1) = if 0 < c / 10 then riseF fl h c (c - 10) else nI 0 := by
    split
    · rename_i q
      rw [pk_sub (by omega), from_side (by omega) (by omega), show (c / 10 - 1) * 10 + c % 10 = c - 10 by omega]
    · rename_i q
      exact (fromF_out (fun z => nI_neg1 (by omega) z.2.1)).symm
  have e4 : fromF fl h c (nI (c % 10)) (nI (c / 10 + 1)) = if c / 10 < 5 then riseF fl h c (c + 10) else nI 0 := by
    split
    · rename_i q
      rw [from_side (by omega) (by omega), show (c / 10 + 1) * 10 + c % 10 = c + 10 by omega]
    · rename_i q
      exact (fromF_out (fun z => absurd z.2.2 (nI_ge (by omega) (by omega)))).symm
  rw [e1, e2, e3, e4]
abbrev upM (z : Nat → Int32) (d : Nat) : Prop := z (246 + 4 * d + 1) / nI 2 ≤ remI (z 4 + z (246 + 4 * d + 3)) (z (246 + 4 * d + 1))
def dinF (z : Nat → Int32) (c : Nat) : Nat → Int32
  | 0 => -6
  | n + 1 => if z (246 + 4 * n) = nI c then nI n else dinF z c n
theorem dinF_some {z : Nat → Int32} {c : Nat} : ∀ {n : Nat}, ¬ dinF z c n = -6 → ∃ d, d < n ∧ dinF z c n = nI d ∧ z (246 + 4 * d) = nI c
  | 0, h => absurd rfl h
  | n + 1, h => by
    unfold dinF at h ⊢
    by_cases q : z (246 + 4 * n) = nI c
    · exact ⟨n, Nat.lt_succ_self n, by rw [if_pos q], q⟩
    · rw [if_neg q] at h ⊢
      obtain ⟨d, h1, h2, h3⟩ := dinF_some h
      exact ⟨d, Nat.lt_succ_of_lt h1, h2, h3⟩
