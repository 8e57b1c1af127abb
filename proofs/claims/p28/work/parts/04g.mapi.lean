/-! What the reference's operations do. -/
theorem inP_nI {a k b : Nat} (h1 : a ≤ k) (h2 : k ≤ b) (hb : b < 2147483648) : inP (nI k) (nI a) (nI b) := ⟨nI_le h1 (by omega), nI_le h2 hb⟩
abbrev okSet (a v : Int32) : Prop := inP a (nI 0) (nI 3) ∧ inP v (leastF a) (mostF a)
abbrev okDip (p s h : Int32) : Prop := inP p (nI 2) (nI 40) ∧ inP s (nI 1) (nI 900) ∧ inP h (nI 0) (p - nI 1)
def flM (z : Nat → Int32) (c : Nat) (f : Int32) : Nat → Int32 := if f = nI 2 then upd (upd (upd z (5 + c) f) (65 + c) (nI 0)) (125 + c) (nI 0) else upd z (5 + c) f
def flE (x y f : Int32) : Int32 := if ¬ cellP x y then -1 else if ¬ inP f (nI 0) (nI 3) then -2 else -5
theorem flE1 {x y f : Int32} (h : ¬ cellP x y) : -1 = flE x y f := (if_pos h).symm
theorem flE2 {x y f : Int32} (h : cellP x y) (g : ¬ inP f (nI 0) (nI 3)) : -2 = flE x y f := by unfold flE; rw [if_neg (fun q => q h), if_pos g]
theorem flE3 {x y f : Int32} (h : cellP x y) (g : inP f (nI 0) (nI 3)) : -5 = flE x y f := by unfold flE; rw [if_neg (fun q => q h), if_neg (fun q => q g)]
def clrsM (z : Nat → Int32) : Nat → Nat → Int32
  | 0 => z
  | p + 1 => rgF (267 + 26 * p + 1) 25 (fun _ => nI 0) (clrsM z p)
theorem clrsM_lo {z : Nat → Int32} {j : Nat} (h : j < 268) : ∀ p, clrsM z p j = z j
  | 0 => rfl
  | p + 1 => by rw [clrsM, rgF_out (by omega)]; exact clrsM_lo h p
theorem calmM_hi {z : Nat → Int32} {j : Nat} (h : 245 ≤ j) : calmM z j = z j := by
  unfold calmM
  rw [rgF_out (by omega), updN (by omega), rgF_out (by omega), rgF_out (by omega)]
def dipM (z : Nat → Int32) (nd c p s h : Nat) : Nat → Int32 := upd (upd (upd (upd (upd z (246 + 4 * nd) (nI c)) (246 + 4 * nd + 1) (nI p)) (246 + 4 * nd + 2) (nI s)) (246 + 4 * nd + 3) (nI h)) 245 (nI (nd + 1))
def dipE (z : Nat → Int32) (x y p s h : Int32) : Int32 := if ¬ cellP x y then -1 else if ¬ okDip p s h then -2 else if shf 5 z (ncl y * 10 + ncl x) = nI 2 then -5 else -4
def toM (z : Nat → Int32) (d k : Nat) : Nat → Int32 := fun j => if 246 + 4 * d ≤ j ∧ j < k then z (j + 4) else z j
theorem toM_0 {z : Nat → Int32} {d : Nat} : z = toM z d (246 + 4 * d) := by funext j; unfold toM; rw [if_neg (by omega)]
theorem toM_next {z zz : Nat → Int32} {d k : Nat} (h : zz = toM z d k) (hk : 246 + 4 * d ≤ k) : upd zz k (zz (k + 4)) = toM z d (k + 1) := by
  have e : zz (k + 4) = z (k + 4) := by rw [h]; unfold toM; rw [if_neg (by omega)]
  rw [e, h]
  funext j
  by_cases q : j = k
  · rw [updE q, q]; unfold toM; rw [if_pos (by omega)]
  · rw [updN q]
    unfold toM
    by_cases r : 246 + 4 * d ≤ j ∧ j < k
    · rw [if_pos r, if_pos (by omega)]
    · rw [if_neg r, if_neg (by omega)]
def takeM (z : Nat → Int32) (nd d : Nat) : Nat → Int32 := upd (toM z d 262) 245 (nI (nd - 1))
def dropE (x y v : Int32) : Int32 := if ¬ cellP x y then -1 else if ¬ inP v (-999) (nI 999) then -2 else -5
theorem dropE1 {x y f : Int32} (h : ¬ cellP x y) : -1 = dropE x y f := (if_pos h).symm
theorem dropE2 {x y f : Int32} (h : cellP x y) (g : ¬ inP f (-999) (nI 999)) : -2 = dropE x y f := by unfold dropE; rw [if_neg (fun q => q h), if_pos g]
theorem dropE3 {x y f : Int32} (h : cellP x y) (g : inP f (-999) (nI 999)) : -5 = dropE x y f := by unfold dropE; rw [if_neg (fun q => q h), if_neg (fun q => q g)]
def probM (z : Nat → Int32) (np c : Nat) : Nat → Int32 := upd (upd (rgF (267 + 26 * np) 26 (fun _ => nI 0) z) (267 + 26 * np) (nI c)) 266 (nI (np + 1))
/-- which case a switch from 0 to hi takes -/
def tsel (w : Int32) (hi : Int) : Nat := if w.toInt < 0 ∨ hi < w.toInt then (hi + 1).toNat else w.toInt.toNat
theorem tsel_in {w : Int32} {hi : Int} {k : Nat} (c : ¬ w.toInt < 0) (d : ¬ hi < w.toInt) (e : (w.toInt - 0).toNat = k) : tsel w hi = k := by
  unfold tsel
  rw [if_neg (by omega)]
  omega
theorem tsel_out {w : Int32} {hi : Int} (c : w.toInt < 0 ∨ hi < w.toInt) : tsel w hi = (hi + 1).toNat := if_pos c
theorem tsw_eq {w : Int32} {k : Nat} (c : ¬ w.toInt < 0) (e : (w.toInt - 0).toNat = k) : w = nI k := by
  have h0 : ¬ w < 0 := fun h => c (Int32.lt_iff_toInt_lt.mp h)
  obtain ⟨j, hj, rfl⟩ := nI_of h0
  have h : (nI j).toInt = (j : Int) := nI_toInt hj
  rw [h] at e
  rw [show j = k by omega]
theorem dipE1 {z : Nat → Int32} {x y p s h : Int32} (a : ¬ cellP x y) : -1 = dipE z x y p s h := (if_pos a).symm
theorem dipE2 {z : Nat → Int32} {x y p s h : Int32} (a : cellP x y) (b : ¬ okDip p s h) : -2 = dipE z x y p s h := by unfold dipE; rw [if_neg (fun q => q a), if_pos b]
theorem dipE3 {z : Nat → Int32} {i j : Nat} {p s h : Int32} (hi : i < 10) (hj : j < 6) (b : okDip p s h) (c : shf 5 z (j * 10 + i) = nI 2) : -5 = dipE z (nI i) (nI j) p s h := by
  unfold dipE
  rw [if_neg (fun q => q (cellP_of hi hj)), if_neg (fun q => q b), ncl, ncl, nI_clamp (by omega), nI_clamp (by omega), if_pos c]
theorem dipE4 {z : Nat → Int32} {i j : Nat} {p s h : Int32} (hi : i < 10) (hj : j < 6) (b : okDip p s h) (c : ¬ shf 5 z (j * 10 + i) = nI 2) : -4 = dipE z (nI i) (nI j) p s h := by
  unfold dipE
  rw [if_neg (fun q => q (cellP_of hi hj)), if_neg (fun q => q b), ncl, ncl, nI_clamp (by omega), nI_clamp (by omega), if_neg c]
