/-! What the tank's methods compute, as functions of what its rows hold. -/
theorem add0 (x : Int32) : x + nI 0 = x := Int32.add_zero x
theorem nI_m1 (k : Nat) : nI (k + 1) - nI 1 = nI k := pk_sub (Nat.le_add_left 1 k)
def boundF (v : Int32) : Int32 := imax (-9999) (imin (nI 9999) v)
def riseF (fl h : Nat → Int32) (i j : Nat) : Int32 := if fl j = nI 2 then nI 0 else h j - h i
def heightAtF (h : Nat → Int32) (x y : Int32) : Int32 := if cellP x y then h (ncl y * 10 + ncl x) else nI 0
theorem heightAtF_in {h : Nat → Int32} {i j : Nat} (hi : i < 10) (hj : j < 6) : heightAtF h (nI i) (nI j) = h (j * 10 + i) := by
  unfold heightAtF ncl
  rw [if_pos (cellP_of hi hj), nI_clamp (by omega), nI_clamp (by omega)]
def slopeF (fl h : Nat → Int32) (i : Nat) : Int32 := if fl i = nI 2 then nI 0 else
  (((if 0 < i % 10 then riseF fl h i (i - 1) else nI 0) + (if i % 10 < 9 then riseF fl h i (i + 1) else nI 0)) + (if 0 < i / 10 then riseF fl h i (i - 10) else nI 0)) + (if i / 10 < 5 then riseF fl h i (i + 10) else nI 0)
def nextH0 (st fl h ah : Nat → Int32) (i : Nat) : Int32 := nI 2 * h i - ah i + slopeF fl h i * (if fl i = nI 0 then st 1 else st 2) / nI 16
def nextH1 (st fl h ah : Nat → Int32) (i : Nat) : Int32 := nextH0 st fl h ah i - nextH0 st fl h ah i * st 0 / nI 1000
def nextF (st fl h ah : Nat → Int32) (i : Nat) : Int32 := boundF (if fl i = nI 3 then nextH1 st fl h ah i / nI 2 else nextH1 st fl h ah i)
abbrev stillP (st h ah : Nat → Int32) (i : Nat) : Prop := iabs (h i) ≤ st 3 ∧ iabs (ah i) ≤ st 3
abbrev crestP (h : Nat → Int32) (x y : Nat) : Prop := 0 < heightAtF h (nI x) (nI y) ∧ heightAtF h (nI x - nI 1) (nI y) < heightAtF h (nI x) (nI y) ∧ heightAtF h (nI (x + 1)) (nI y) < heightAtF h (nI x) (nI y)
def openF (fl : Nat → Int32) : Int32 := sumI 60 (fun j => if fl j = nI 2 then nI 0 else nI 1)
def reachF (fi : Nat → Int32) : Int32 := sumI 60 (fun j => if fi j = -6 then nI 0 else nI 1)
def restF (st fl h ah : Nat → Int32) : Int32 := sumI 60 (fun j => if fl j = nI 2 then nI 0 else if stillP st h ah j then nI 0 else nI 1)
def loudF (h : Nat → Int32) : Int32 := sumI 60 (fun j => iabs (h j))
def ldF (h : Nat → Int32) : Nat → Nat
  | 0 => 0
  | n + 1 => if iabs (h (ldF h n)) < iabs (h n) then n else ldF h n
theorem ldF_1 {h : Nat → Int32} : ldF h 1 = 0 := by
  show (if iabs (h 0) < iabs (h 0) then 0 else 0) = 0
  split <;> rfl
def remI (x y : Int32) : Int32 := x - x / y * y
abbrev upP (dp : Nat → Nat) (dh : Nat → Int32) (t d : Nat) : Prop := 0 < dp d ∧ nI (dp d / 2) ≤ remI (nI t + dh d) (nI (dp d))
def lastF (dc : Nat → Nat) (c : Nat) : Nat → Int32
  | 0 => -6
  | n + 1 => if dc n = c then nI n else lastF dc c n
