/-! What the reference's methods compute. -/
def h0M (z : Nat → Int32) (c : Nat) : Int32 := nI 2 * shf 65 z c - z (125 + c) + slopeF (shf 5 z) (shf 65 z) c * (if shf 5 z c = nI 0 then z 1 else z 2) / nI 16
def h1M (z : Nat → Int32) (c : Nat) : Int32 := h0M z c - h0M z c * z 0 / nI 1000
def thenF (z : Nat → Int32) (nd c : Nat) : Int32 := if shf 5 z c = nI 2 then nI 0 else if dinF z c nd = -6 then boundF (if shf 5 z c = nI 3 then h1M z c / nI 2 else h1M z c) else
  if upM z (ncl (dinF z c nd)) then z (246 + 4 * ncl (dinF z c nd) + 2) else -z (246 + 4 * ncl (dinF z c nd) + 2)
theorem thenF_up {z : Nat → Int32} {nd c d : Nat} (hw : ¬ shf 5 z c = nI 2) (hn : ¬ dinF z c nd = -6) (hd : d < 5) (hde : dinF z c nd = nI d) (hu : upM z d) : z (246 + 4 * d + 2) = thenF z nd c := by
  unfold thenF
  rw [if_neg hw, if_neg hn, hde, ncl, nI_clamp (by omega), if_pos hu]
theorem thenF_down {z : Nat → Int32} {nd c d : Nat} (hw : ¬ shf 5 z c = nI 2) (hn : ¬ dinF z c nd = -6) (hd : d < 5) (hde : dinF z c nd = nI d) (hu : ¬ upM z d) : -z (246 + 4 * d + 2) = thenF z nd c := by
  unfold thenF
  rw [if_neg hw, if_neg hn, hde, ncl, nI_clamp (by omega), if_neg hu]
theorem thenF_beach {z : Nat → Int32} {nd c : Nat} (hw : ¬ shf 5 z c = nI 2) (hn : dinF z c nd = -6) (hb : shf 5 z c = nI 3) : boundF (h1M z c / nI 2) = thenF z nd c := by
  unfold thenF
  rw [if_neg hw, if_pos hn, if_pos hb]
theorem thenF_free {z : Nat → Int32} {nd c : Nat} (hw : ¬ shf 5 z c = nI 2) (hn : dinF z c nd = -6) (hb : ¬ shf 5 z c = nI 3) : boundF (h1M z c) = thenF z nd c := by
  unfold thenF
  rw [if_neg hw, if_pos hn, if_neg hb]
def rowM (z : Nat → Int32) (p : Nat) : Nat → Int32 := fun k => z (267 + 26 * p + 2 + k)
def bmF (r : Nat → Int32) (L : Nat) : Int32 × Int32 := if L ≤ 2 then (-6, nI 0) else (nI (btF r (L - 3)).1, (btF r (L - 3)).2)
theorem btF_in {r : Nat → Int32} : ∀ n, (btF r n).1 ≤ n + 2
  | 0 => Nat.le_refl _
  | n + 1 => by
    rw [btF]
    split
    · exact Nat.le_refl _
    · exact Nat.le_succ_of_le (btF_in n)
theorem bmF_next {r : Nat → Int32} {L : Nat} (h2 : 2 ≤ L) (hL : L ≤ 12) : ((if (bmF r L).1 = -6 ∨ diffF r L < (bmF r L).2 then nI L else (bmF r L).1), (if (bmF r L).1 = -6 ∨ diffF r L < (bmF r L).2 then diffF r L else (bmF r L).2)) = bmF r (L + 1) := by
  by_cases h : L = 2
  · subst h
    have e : bmF r 2 = (-6, nI 0) := rfl
    rw [e, if_pos (Or.inl rfl), if_pos (Or.inl rfl)]
    rfl
  · have hk : ∃ k, L = k + 3 := ⟨L - 3, by omega⟩
    obtain ⟨k, rfl⟩ := hk
    have e : bmF r (k + 3) = (nI (btF r k).1, (btF r k).2) := by unfold bmF; rw [if_neg (by omega), show k + 3 - 3 = k by omega]
    have e2 : bmF r (k + 3 + 1) = (nI (btF r (k + 1)).1, (btF r (k + 1)).2) := by unfold bmF; rw [if_neg (by omega), show k + 3 + 1 - 3 = k + 1 by omega]
    have h6 : ¬ nI (btF r k).1 = -6 := fun z => by
      have hb : (btF r k).1 < 2147483648 := Nat.lt_of_le_of_lt (btF_in k) (by omega)
      exact absurd (show nI (btF r k).1 < 0 by rw [z]; decide +kernel) (nI_pos hb)
    rw [e, e2, btF]
    by_cases q : diffF r (k + 3) < (btF r k).2
    · rw [if_pos (Or.inr q), if_pos (Or.inr q), if_pos q]
    · have n : ¬ (nI (btF r k).1 = -6 ∨ diffF r (k + 3) < (btF r k).2) := fun z => z.elim h6 q
      rw [if_neg n, if_neg n, if_neg q]
def gsF (r : Nat → Int32) : Nat → Int32
  | 0 => -6
  | n + 1 => if gsF r n < r n + nI 10000 then r n + nI 10000 else gsF r n
/-- a range of a row, written over -/
def rgF (lo n : Nat) (g z : Nat → Int32) : Nat → Int32 := fun j => if lo ≤ j ∧ j < lo + n then g (j - lo) else z j
theorem rgF_0 {lo : Nat} {g z : Nat → Int32} : z = rgF lo 0 g z := by funext j; unfold rgF; rw [if_neg (by omega)]
theorem rgF_next {lo i k : Nat} {g z zz : Nat → Int32} {x : Int32} (h : zz = rgF lo i g z) (hk : k = lo + i) (hx : x = g i) : upd zz k x = rgF lo (i + 1) g z := by
  subst h
  subst hk
  subst hx
  funext j
  unfold upd rgF
  by_cases q : j = lo + i
  · rw [if_pos q, if_pos (by omega), show j - lo = i by omega]
  · rw [if_neg q]
    by_cases r : lo ≤ j ∧ j < lo + i
    · rw [if_pos r, if_pos (by omega)]
    · rw [if_neg r, if_neg (by omega)]
theorem rgF_out {lo n j : Nat} {g z : Nat → Int32} (h : j < lo ∨ lo + n ≤ j) : rgF lo n g z j = z j := by unfold rgF; rw [if_neg (by omega)]
theorem rgF_in {lo n j : Nat} {g z : Nat → Int32} (h : lo ≤ j) (h2 : j < lo + n) : rgF lo n g z j = g (j - lo) := by unfold rgF; rw [if_pos ⟨h, h2⟩]
def shF (pa : Nat → Int32) (i : Nat) : Nat → Int32 := fun j => if j < i then pa (j + 345) else pa j
theorem shF_0 {pa : Nat → Int32} : pa = shF pa 0 := by funext j; unfold shF; rw [if_neg (Nat.not_lt_zero _)]
theorem shF_next {pa pp : Nat → Int32} {i : Nat} (h : pp = shF pa i) : upd pp i (pp (i + 345)) = shF pa (i + 1) := by
  subst h
  funext j
  unfold upd
  have e : shF pa i (i + 345) = pa (i + 345) := by unfold shF; rw [if_neg (by omega)]
  rw [e]
  unfold shF
  by_cases q : j = i
  · rw [if_pos q, if_pos (by omega), q]
  · rw [if_neg q]
    by_cases r : j < i
    · rw [if_pos r, if_pos (by omega)]
    · rw [if_neg r, if_neg (by omega)]
def calmM (z : Nat → Int32) : Nat → Int32 := rgF 185 60 (fun _ => -6) (upd (rgF 125 60 (fun _ => nI 0) (rgF 65 60 (fun _ => nI 0) z)) 4 (nI 0))
theorem upd_comm {z : Nat → Int32} {a b : Nat} {x y : Int32} (h : a ≠ b) : upd (upd z a x) b y = upd (upd z b y) a x := by
  funext j
  unfold upd
  by_cases p : j = a <;> by_cases q : j = b
  · omega
  · rw [if_neg q, if_pos p, if_pos p]
  · rw [if_pos q, if_neg p, if_pos q]
  · rw [if_neg q, if_neg p, if_neg p, if_neg q]
theorem rgF_upd {lo n k : Nat} {g z : Nat → Int32} {x : Int32} (h : k < lo ∨ lo + n ≤ k) : upd (rgF lo n g z) k x = rgF lo n g (upd z k x) := by
  funext j
  unfold upd rgF
  by_cases q : j = k
  · rw [if_pos q, if_neg (by omega)]; exact (if_pos q).symm
  · rw [if_neg q]
    by_cases r : lo ≤ j ∧ j < lo + n
    · rw [if_pos r, if_pos r]
    · rw [if_neg r, if_neg r]; exact (if_neg q).symm
theorem calmM_next {z zz : Nat → Int32} {i : Nat} (h : zz = rgF 125 i (fun _ => nI 0) (rgF 65 i (fun _ => nI 0) z)) (hi : i < 60) : upd (upd zz (65 + i) (nI 0)) (125 + i) (nI 0) = rgF 125 (i + 1) (fun _ => nI 0) (rgF 65 (i + 1) (fun _ => nI 0) z) := by
  rw [h, rgF_upd (by omega), rgF_next (lo := 65) (i := i) (g := fun _ => nI 0) (z := z) rfl rfl rfl]
  exact rgF_next rfl rfl rfl
