/-! What the reference's questions answer. -/
def cellN (z : Nat → Int32) (nd c : Nat) : Nat → Int32
  | 0 => z (5 + c)
  | 1 => shf 65 z c + nI 10000
  | 2 => z (125 + c) + nI 10000
  | 3 => slopeF (shf 5 z) (shf 65 z) c + nI 100000
  | 4 => b2i (shf 5 z c = nI 2 ∨ stillP z (shf 65 z) (shf 125 z) c)
  | 5 => z (185 + c)
  | 6 => dinF z c nd
  | _ => -2
def dipN (z : Nat → Int32) (d c : Nat) : Nat → Int32
  | 0 => nI (c % 10)
  | 1 => nI (c / 10)
  | 2 => z (246 + 4 * d + 1)
  | 3 => z (246 + 4 * d + 2)
  | 4 => z (246 + 4 * d + 3)
  | 5 => b2i (upM z d)
  | _ => -2
def ofpN (z : Nat → Int32) (p c n : Nat) : Nat → Int32
  | 0 => nI (c % 10)
  | 1 => nI (c / 10)
  | 2 => z (267 + 26 * p + 1)
  | 3 => if z (267 + 26 * p + 1) < nI 24 then -6 else nI (btF (rowM z p) 10).1
  | 4 => gsF (rowM z p) n
  | _ => -2
def cntN (z : Nat → Int32) (pm ty : Nat) : Nat → Int32
  | 0 => z 4
  | 1 => openF (shf 5 z)
  | 2 => stillsF z
  | 3 => sumI 60 (shf 65 z) + nI 1000000
  | 4 => loudF (shf 65 z)
  | 5 => grF (shf 65 z) 60
  | 6 => reachF (shf 185 z)
  | 7 => z 245
  | 8 => z 266
  | 9 => z 0
  | 10 => z 1
  | 11 => z 2
  | 12 => z 3
  | 13 => nI ty
  | 14 => nI pm
  | _ => -2
theorem inD_nat {x : Int32} {n : Nat} (h : 0 ≤ x ∧ x < nI n) (hn : n < 2147483648) : ∃ k, k < n ∧ x = nI k := by
  have h0 : ¬ x < 0 := Int32.not_lt.mpr h.1
  obtain ⟨j, hj, rfl⟩ := nI_of h0
  exact ⟨j, (nI_ltI hj hn).mp h.2, rfl⟩
theorem inD_of {k n : Nat} (h : k < n) (hn : n < 2147483648) : 0 ≤ nI k ∧ nI k < nI n := ⟨nI_le (Nat.zero_le k) (by omega), nI_lt h hn⟩
theorem ldF_lt {h : Nat → Int32} : ∀ n, ldF h (n + 1) < n + 1
  | 0 => by rw [ldF_1]; exact Nat.zero_lt_one
  | n + 1 => by
    rw [ldF]
    split
    · exact Nat.lt_succ_self _
    · exact Nat.lt_succ_of_lt (ldF_lt n)
theorem gr_ld {h : Nat → Int32} : ∀ n, (∀ j, j < n + 1 → 0 ≤ iabs (h j)) → grF h (n + 1) = iabs (h (ldF h (n + 1)))
  | 0, hab => by
    rw [ldF_1]
    show (if nI 0 < iabs (h 0) then iabs (h 0) else nI 0) = _
    split
    · rfl
    · rename_i q
      exact Int32.le_antisymm (hab 0 (by omega)) (Int32.not_lt.mp q)
  | n + 1, hab => by
    have ih := gr_ld n (fun j hj => hab j (by omega))
    rw [grF, ldF, ih]
    split
    · rfl
    · rfl
theorem ld_max {h : Nat → Int32} : ∀ n j, j < n + 1 → iabs (h j) ≤ iabs (h (ldF h (n + 1)))
  | 0, j, hj => by rw [ldF_1, show j = 0 by omega]; exact Int32.le_refl _
  | n + 1, j, hj => by
    rw [ldF]
    split
    · rename_i q
      by_cases e : j = n + 1
      · rw [e]; exact Int32.le_refl _
      · exact Int32.le_trans (ld_max n j (by omega)) (Int32.le_of_lt q)
    · rename_i q
      by_cases e : j = n + 1
      · rw [e]; exact Int32.not_lt.mp q
      · exact ld_max n j (by omega)
theorem ld_first {h : Nat → Int32} : ∀ n j, j < ldF h (n + 1) → iabs (h j) < iabs (h (ldF h (n + 1)))
  | 0, j, hj => by rw [ldF_1] at hj; omega
  | n + 1, j, hj => by
    rw [ldF] at hj ⊢
    split at hj
    · rename_i q
      rw [if_pos q]
      exact Int32.lt_of_le_of_lt (ld_max n j hj) q
    · rename_i q
      rw [if_neg q]
      exact ld_first n j hj
theorem ld_at {h : Nat → Int32} {i : Nat} (hab : ∀ j, j < 60 → 0 ≤ iabs (h j)) (hi : i < 60) (he : iabs (h i) = grF h 60) (hn : ∀ j, j < i → ¬ iabs (h j) = grF h 60) : i = ldF h 60 := by
  have g : grF h 60 = iabs (h (ldF h 60)) := gr_ld 59 hab
  rcases Nat.lt_trichotomy i (ldF h 60) with a | a | a
  · exact absurd (ld_first 59 i a) (by rw [he, g]; exact fun q => Int32.lt_irrefl q)
  · exact a
  · exact absurd g.symm (hn _ a)
def louF (h : Nat → Int32) (w : Int32) : Int32 := if iabs (h (ldF h 60)) = nI 0 then -6 else if w = nI 0 then nI (ldF h 60 % 10) else nI (ldF h 60 / 10)
theorem lou_none {h : Nat → Int32} {w : Int32} (hab : ∀ j, j < 60 → 0 ≤ iabs (h j)) (hg : grF h 60 ≤ 0) : -6 = louF h w := by
  have g : grF h 60 = iabs (h (ldF h 60)) := gr_ld 59 hab
  unfold louF
  rw [if_pos]
  rw [g] at hg
  exact Int32.le_antisymm hg (hab _ (ldF_lt 59))
theorem lou_some {h : Nat → Int32} {w : Int32} {i : Nat} (hab : ∀ j, j < 60 → 0 ≤ iabs (h j)) (hg : ¬ grF h 60 ≤ 0) (hi : i < 60) (he : iabs (h i) = grF h 60) (hn : ∀ j, j < i → ¬ iabs (h j) = grF h 60) :
    (if w = nI 0 then nI (i % 10) else nI (i / 10)) = louF h w := by
  have g : grF h 60 = iabs (h (ldF h 60)) := gr_ld 59 hab
  have e := ld_at hab hi he hn
  have n0 : ¬ iabs (h (ldF h 60)) = nI 0 := fun q => hg (by rw [g, q]; exact Int32.le_refl _)
  unfold louF
  rw [if_neg n0, ← e]
def creM (h : Nat → Int32) (y : Nat) : Nat → Int32
  | 0 => nI 0
  | x + 1 => creM h y x + b2i (crestP h x y)
/-- the tick at which a cell is no longer still, after n of them -/
def comR (z : Nat → Int32) (nd np c : Nat) : Nat → Int32
  | 0 => -6
  | n + 1 => if comR z nd np c n = -6 then (if stillP (runM z nd np (n + 1)) (shf 65 (runM z nd np (n + 1))) (shf 125 (runM z nd np (n + 1))) c then -6 else nI (n + 1)) else comR z nd np c n
def comK (z : Nat → Int32) (nd np c : Nat) : Nat → Nat
  | 0 => 0
  | n + 1 => if comR z nd np c n = -6 then n + 1 else comK z nd np c n
theorem comR_stays {z : Nat → Int32} {nd np c n : Nat} (h : ¬ comR z nd np c n = -6) : ∀ m, comR z nd np c (n + m) = comR z nd np c n
  | 0 => rfl
  | m + 1 => by
    have e := comR_stays h m
    show comR z nd np c (n + m + 1) = _
    rw [comR, e, if_neg h]
theorem comK_stays {z : Nat → Int32} {nd np c n : Nat} (h : ¬ comR z nd np c n = -6) : ∀ m, comK z nd np c (n + m) = comK z nd np c n
  | 0 => rfl
  | m + 1 => by
    have e := comK_stays h m
    show comK z nd np c (n + m + 1) = _
    rw [comK, comR_stays h m, if_neg h, e]
def hushZ (z : Nat → Int32) (d s : Nat) : Nat → Int32 := upd z (246 + 4 * d + 3) (nI s)
def hushI (z : Nat → Int32) (nd np d c n s : Nat) : Int32 := iabs (shf 65 (runM (hushZ z d s) nd np n) c)
def hushR (z : Nat → Int32) (nd np d c n : Nat) : Nat → Int32 × Int32
  | 0 => (-6, nI 0)
  | s + 1 => (if (hushR z nd np d c n s).1 = -6 ∨ hushI z nd np d c n s < (hushR z nd np d c n s).2 then nI s else (hushR z nd np d c n s).1,
      if (hushR z nd np d c n s).1 = -6 ∨ hushI z nd np d c n s < (hushR z nd np d c n s).2 then hushI z nd np d c n s else (hushR z nd np d c n s).2)
def hushT (z th : Nat → Int32) (nd np d n : Nat) : Nat → Nat → Int32
  | 0 => th
  | s + 1 => thM (hushZ z d s) (hushT z th nd np d n s) nd np n
theorem hush_ok {z : Nat → Int32} {nd np d s : Nat} (h : okM z nd np) (hd : d < 5) : okM (hushZ z d s) nd np := by
  obtain ⟨⟨h1, h2, h3, h4⟩, h5, h6⟩ := h
  have e : ∀ j, (j < 246 ∨ 266 ≤ j) → hushZ z d s j = z j := fun j hj => updN (by omega)
  refine ⟨⟨by rw [e _ (by omega)]; exact h1, h2, by rw [e _ (by omega)]; exact h3, h4⟩, fun k hk => ?_, fun p hp => ?_⟩
  · rw [show hushZ z d s (246 + 4 * k + 1) = z (246 + 4 * k + 1) from updN (by omega)]; exact h5 k hk
  · have f : pcM (hushZ z d s) p = pcM z p := by unfold pcM; rw [e _ (by omega)]
    have g : plM (hushZ z d s) p = plM z p := by unfold plM; rw [e _ (by omega)]
    rw [f, g, e _ (by omega), e _ (by omega)]
    exact h6 p hp
def undZ (z pa : Nat → Int32) (n : Nat) : Nat → Int32 := rgF 0 345 (fun j => pa (n * 345 + j)) z
