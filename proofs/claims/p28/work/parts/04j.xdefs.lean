/-! What the class's operations answer and do, on a tank's value. -/
theorem b2i_iff {P Q : Prop} [Decidable P] [Decidable Q] (h : P ↔ Q) : b2i P = b2i Q := by
  by_cases q : Q
  · rw [b2i_1 (h.mpr q), b2i_1 q]
  · rw [b2i_0 (fun z => q (h.mp z)), b2i_0 q]
theorem inM1 {x : Int32} {n : Nat} (hn : n < 2147483648) : inP x (nI 0) (nI n - nI 1) ↔ 0 ≤ x ∧ x < nI n := by
  cases n with
  | zero =>
    constructor
    · intro h
      exact absurd (Int32.le_trans h.1 h.2) (by decide +kernel)
    · intro h
      exact absurd h.2 (Int32.not_lt.mpr h.1)
  | succ k =>
    rw [nI_m1]
    constructor
    · intro h
      refine ⟨h.1, ?_⟩
      obtain ⟨j, hj, rfl⟩ := inP_nat (by omega) h
      exact nI_lt (by omega) hn
    · intro h
      obtain ⟨j, hj, rfl⟩ := inD_nat h hn
      exact ⟨h.1, nI_le (by omega) (by omega)⟩
def celT (T : TV) (c : Nat) : Nat → Int32
  | 0 => T.1 1 c
  | 1 => T.1 2 c + nI 10000
  | 2 => T.1 3 c + nI 10000
  | 3 => slopeF (T.1 1) (T.1 2) c + nI 100000
  | 4 => b2i (stillP (T.1 0) (T.1 2) (T.1 3) c)
  | 5 => T.1 4 c
  | 6 => lastF (T.2 0) c (T.2 4 1)
  | _ => -2
def dipQ (T : TV) (d : Nat) : Nat → Int32
  | 0 => nI (T.2 0 d % 10)
  | 1 => nI (T.2 0 d / 10)
  | 2 => nI (T.2 1 d)
  | 3 => T.1 5 d
  | 4 => T.1 6 d
  | 5 => b2i (upP (T.2 1) (T.1 6) (T.2 4 0) d)
  | _ => -2
def prbQ (T : TV) (p : Nat) : Nat → Int32
  | 0 => nI (T.2 2 p % 10)
  | 1 => nI (T.2 2 p / 10)
  | 2 => nI (T.2 3 p)
  | 3 => if T.2 3 p < 24 then -6 else nI (btF (T.1 (7 + p)) 10).1
  | 4 => if T.2 3 p = 0 then -6 else mxF (T.1 (7 + p)) (T.2 3 p) + nI 10000
  | _ => -2
def cntT (T : TV) (hn ty : Nat) : Nat → Int32
  | 0 => nI (T.2 4 0)
  | 1 => openF (T.1 1)
  | 2 => openF (T.1 1) - restF (T.1 0) (T.1 1) (T.1 2) (T.1 3)
  | 3 => sumI 60 (T.1 2) + nI 1000000
  | 4 => loudF (T.1 2)
  | 5 => iabs (T.1 2 (ldF (T.1 2) 60))
  | 6 => reachF (T.1 4)
  | 7 => nI (T.2 4 1)
  | 8 => nI (T.2 4 2)
  | 9 => T.1 0 0
  | 10 => T.1 0 1
  | 11 => T.1 0 2
  | 12 => T.1 0 3
  | 13 => nI ty
  | 14 => nI hn
  | _ => -2
def comRT (T : TV) (c : Nat) : Nat → Int32
  | 0 => -6
  | n + 1 => if comRT T c n = -6 then (if stillP ((runT T (n + 1)).1 0) ((runT T (n + 1)).1 2) ((runT T (n + 1)).1 3) c then -6 else nI (n + 1)) else comRT T c n
def comKT (T : TV) (c : Nat) : Nat → Nat
  | 0 => 0
  | n + 1 => if comRT T c n = -6 then n + 1 else comKT T c n
theorem comRT_stays {T : TV} {c n : Nat} (h : ¬ comRT T c n = -6) : ∀ m, comRT T c (n + m) = comRT T c n
  | 0 => rfl
  | m + 1 => by
    have e := comRT_stays h m
    show comRT T c (n + m + 1) = _
    rw [comRT, e, if_neg h]
theorem comKT_stays {T : TV} {c n : Nat} (h : ¬ comRT T c n = -6) : ∀ m, comKT T c (n + m) = comKT T c n
  | 0 => rfl
  | m + 1 => by
    have e := comKT_stays h m
    show comKT T c (n + m + 1) = _
    rw [comKT, comRT_stays h m, if_neg h, e]
def setT (T : TV) (k : Nat) (v : Int32) : TV := (fun i => if i = 0 then upd (T.1 0) k v else T.1 i, T.2)
def layT (T : TV) (c : Nat) (f : Int32) : TV := (fun i => if i = 1 then upd (T.1 1) c f else if i = 2 then (if f = nI 2 then upd (T.1 2) c (nI 0) else T.1 2) else if i = 3 then (if f = nI 2 then upd (T.1 3) c (nI 0) else T.1 3) else T.1 i, T.2)
def calmT (T : TV) : TV := (fun i => if i = 2 then (fun _ => nI 0) else if i = 3 then (fun _ => nI 0) else if i = 4 then (fun _ => -6) else T.1 i, fun i => if i = 3 then (fun _ => 0) else if i = 4 then (fun j => if j = 0 then 0 else T.2 4 j) else T.2 i)
def dipT (T : TV) (c p : Nat) (s h : Int32) : TV := (fun i => if i = 5 then upd (T.1 5) (T.2 4 1) s else if i = 6 then upd (T.1 6) (T.2 4 1) h else T.1 i,
  fun i => if i = 0 then va_up (T.2 0) (T.2 4 1) c else if i = 1 then va_up (T.2 1) (T.2 4 1) p else if i = 4 then (fun j => if j = 1 then T.2 4 1 + 1 else T.2 4 j) else T.2 i)
def takeT (T : TV) (d : Nat) : TV := (fun i => if i = 5 then rmF (T.1 5) d (T.2 4 1) else if i = 6 then rmF (T.1 6) d (T.2 4 1) else T.1 i,
  fun i => if i = 0 then rmF (T.2 0) d (T.2 4 1) else if i = 1 then rmF (T.2 1) d (T.2 4 1) else if i = 4 then (fun j => if j = 1 then T.2 4 1 - 1 else T.2 4 j) else T.2 i)
def dropT (T : TV) (c : Nat) (v : Int32) : TV := (fun i => if i = 2 then upd (T.1 2) c (boundF (T.1 2 c + v)) else T.1 i, T.2)
def probT (T : TV) (c : Nat) : TV := (T.1, fun i => if i = 2 then va_up (T.2 2) (T.2 4 2) c else if i = 3 then va_up (T.2 3) (T.2 4 2) 0 else if i = 4 then (fun j => if j = 2 then T.2 4 2 + 1 else T.2 4 j) else T.2 i)
def shT (T : TV) (d s : Nat) : TV := (fun i => if i = 6 then upd (T.1 6) d (nI s) else T.1 i, T.2)
theorem okT.sh {T : TV} (h : okT T) (d s : Nat) : okT (shT T d s) := h
def hushL (T : TV) (d c n s : Nat) : Int32 := iabs ((runT (shT T d s) n).1 2 c)
def hushQ (T : TV) (d c n : Nat) : Nat → Int32 × Int32
  | 0 => (nI 0, hushL T d c n 0)
  | s + 1 => if hushL T d c n (s + 1) < (hushQ T d c n s).2 then (nI (s + 1), hushL T d c n (s + 1)) else hushQ T d c n s
def hushA (b : Nat → Nat) (n : Nat) : Nat → Nat → Nat
  | 0 => runA b n
  | s + 1 => runA (hushA b n s) n
def sl2 (u v : Nat) : Nat → Option Nat := fun k => if k = 0 then some u else some v
def dipEf (fl : Nat → Int32) (x y p s h : Int32) : Int32 := if ¬ cellP x y then -1 else if ¬ okDip p s h then -2 else if fl (ncl y * 10 + ncl x) = nI 2 then -5 else -4
theorem dipEf1 {fl : Nat → Int32} {x y p s h : Int32} (a : ¬ cellP x y) : -1 = dipEf fl x y p s h := (if_pos a).symm
theorem dipEf2 {fl : Nat → Int32} {x y p s h : Int32} (a : cellP x y) (b : ¬ okDip p s h) : -2 = dipEf fl x y p s h := by unfold dipEf; rw [if_neg (fun q => q a), if_pos b]
theorem dipEf3 {fl : Nat → Int32} {i j : Nat} {p s h : Int32} (hi : i < 10) (hj : j < 6) (b : okDip p s h) (c : fl (j * 10 + i) = nI 2) : -5 = dipEf fl (nI i) (nI j) p s h := by
  unfold dipEf
  rw [if_neg (fun q => q (cellP_of hi hj)), if_neg (fun q => q b), ncl, ncl, nI_clamp (by omega), nI_clamp (by omega), if_pos c]
theorem dipEf4 {fl : Nat → Int32} {i j : Nat} {p s h : Int32} (hi : i < 10) (hj : j < 6) (b : okDip p s h) (c : ¬ fl (j * 10 + i) = nI 2) : -4 = dipEf fl (nI i) (nI j) p s h := by
  unfold dipEf
  rw [if_neg (fun q => q (cellP_of hi hj)), if_neg (fun q => q b), ncl, ncl, nI_clamp (by omega), nI_clamp (by omega), if_neg c]
theorem comRT_step {T S : TV} {c k : Nat} (h1 : 1 ≤ k) (hS : S = runT T (k - 1)) (h : comRT T c (k - 1) = -6) : comRT T c k = if stillP ((stepT S).1 0) ((stepT S).1 2) ((stepT S).1 3) c then -6 else nI k := by
  obtain ⟨j, rfl⟩ : ∃ j, k = j + 1 := ⟨k - 1, by omega⟩
  rw [Nat.add_sub_cancel] at hS h
  rw [comRT, if_pos h, hS]
  rfl
theorem comKT_step {T : TV} {c k : Nat} (h1 : 1 ≤ k) (h : comRT T c (k - 1) = -6) : comKT T c k = k := by
  obtain ⟨j, rfl⟩ : ∃ j, k = j + 1 := ⟨k - 1, by omega⟩
  rw [Nat.add_sub_cancel] at h
  rw [comKT, if_pos h]
theorem comT_here {T : TV} {c k : Nat} (hk : k ≤ 80) (h1 : 1 ≤ k) (h : comRT T c k = nI k) (hK : comKT T c k = k) : nI k = comRT T c 80 ∧ comKT T c 80 = k := by
  have hs : ¬ comRT T c k = -6 := fun z => by
    rw [h] at z
    exact absurd (show nI k < 0 by rw [z]; decide +kernel) (nI_pos (by omega))
  have e : 80 = k + (80 - k) := by omega
  rw [e, comRT_stays hs, comKT_stays hs]
  exact ⟨h.symm, hK⟩
theorem hushQ_keep {T : TV} {d c n s : Nat} (h1 : 1 ≤ s) (h : (hushQ T d c n (s - 1)).2 ≤ hushL T d c n s) : hushQ T d c n (s - 1) = hushQ T d c n s := by
  obtain ⟨j, rfl⟩ : ∃ j, s = j + 1 := ⟨s - 1, by omega⟩
  rw [Nat.add_sub_cancel] at h ⊢
  rw [hushQ, if_neg (Int32.not_lt.mpr h)]
theorem hushQ_take {T : TV} {d c n s : Nat} (h1 : 1 ≤ s) (h : hushL T d c n s < (hushQ T d c n (s - 1)).2) : (nI s, hushL T d c n s) = hushQ T d c n s := by
  obtain ⟨j, rfl⟩ : ∃ j, s = j + 1 := ⟨s - 1, by omega⟩
  rw [Nat.add_sub_cancel] at h
  rw [hushQ, if_pos h]
theorem hushA_next {b : Nat → Nat} {n s : Nat} (h1 : 1 ≤ s) : runA (hushA b n (s - 1)) n = hushA b n s := by
  obtain ⟨j, rfl⟩ : ∃ j, s = j + 1 := ⟨s - 1, by omega⟩
  rfl
