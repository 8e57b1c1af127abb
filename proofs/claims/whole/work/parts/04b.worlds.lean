/-! What a tank is in the heap: T.1 its rows of ints (0 settings, 1 floors, 2 heights, 3 ahead, 4 firsts, 5 sizes, 6 shifts, 7..9 what probes saw), T.2 its naturals (0 dippers' cells, 1 periods, 2 probes' cells, 3 lengths, 4: tick, dippers, probes). -/
abbrev TV : Type := (Nat → Nat → Int32) × (Nat → Nat → Nat)
def tkW (cA : Nat → ClassId) (a : Nat → Nat) (T : TV) : va_W :=
  [(a 0, .inr (4, [.ref (a 1), .ref (a 2), .ref (a 3), .ref (a 4), .ref (a 5), .ref (a 6), .ref (a 11), .int (nI (T.2 4 0))])),
   (a 1, .inl (cA 0, 4, .inl (T.1 0))), (a 2, .inl (cA 0, 60, .inl (T.1 1))), (a 3, .inl (cA 0, 60, .inl (T.1 2))), (a 4, .inl (cA 0, 60, .inl (T.1 3))), (a 5, .inl (cA 0, 60, .inl (T.1 4))),
   (a 6, .inr (0, [.ref (a 7), .ref (a 8), .ref (a 9), .ref (a 10), .int (nI (T.2 4 1))])),
   (a 7, .inl (cA 0, 5, .inl (fun k => nI (T.2 0 k)))), (a 8, .inl (cA 0, 5, .inl (fun k => nI (T.2 1 k)))), (a 9, .inl (cA 0, 5, .inl (T.1 5))), (a 10, .inl (cA 0, 5, .inl (T.1 6))),
   (a 11, .inr (3, [.ref (a 12), .ref (a 13), .ref (a 14), .int (nI (T.2 4 2))])),
   (a 12, .inl (cA 0, 3, .inl (fun k => nI (T.2 2 k)))), (a 13, .inl (cA 0, 3, .inl (fun k => nI (T.2 3 k)))), (a 14, .inl (cA 4, 3, .inr (.inr (.inr (.inr (fun k => some (a (15 + k)))))))),
   (a 15, .inl (cA 0, 24, .inl (T.1 7))), (a 16, .inl (cA 0, 24, .inl (T.1 8))), (a 17, .inl (cA 0, 24, .inl (T.1 9)))]
theorem updN_eq {g : Nat → Nat} {i x j : Nat} : upd (fun k => nI (g k)) i (nI x) j = nI (va_up g i x j) := by
  unfold upd va_up
  split <;> rfl
theorem wld.sub {G : va_G} {A : Nat → Prop} {ws wc : va_W} {H0 H : Heap} {locs : List Loc} (hW : wld G A ws H0 H locs) (pl : List Nat) (hn : va_nd pl = true) (hC : pl.map (fun i => ws[i]?) = wc.map some) : wld G A wc H0 H locs :=
  ⟨(wld_sub hW pl hn hC).1, (wld_sub hW pl hn hC).2, hW.2.2⟩
theorem fill_next {g f : Nat → Int32} {v : Int32} {i n : Nat} (h : ∀ j, j < n → g j = if j < i then v else f j) : ∀ j, j < n → upd g i v j = if j < i + 1 then v else f j := by
  intro j hj
  unfold upd
  by_cases q : j = i
  · rw [if_pos q, if_pos (by omega)]
  · rw [if_neg q, h j hj]
    by_cases r : j < i
    · rw [if_pos r, if_pos (by omega)]
    · rw [if_neg r, if_neg (by omega)]
def rmF {α : Type} (f : Nat → α) (d i : Nat) : Nat → α := fun j => if d ≤ j ∧ j + 1 < i then f (j + 1) else f j
theorem rmF_0 {α : Type} {f : Nat → α} {d : Nat} : f = rmF f d (d + 1) := by
  funext j
  unfold rmF
  rw [if_neg (by omega)]
theorem rmF_next {α : Type} {f g : Nat → α} {d i : Nat} (h : g = rmF f d i) (hi : d + 1 ≤ i) : va_up g (i - 1) (g i) = rmF f d (i + 1) := by
  subst h
  funext j
  have e : rmF f d i i = f i := if_neg (by omega)
  unfold va_up
  rw [e]
  unfold rmF
  by_cases q : j = i - 1
  · rw [if_pos q, if_pos (by omega), show j + 1 = i by omega]
  · rw [if_neg q]
    by_cases r : d ≤ j ∧ j + 1 < i
    · rw [if_pos r, if_pos (by omega)]
    · rw [if_neg r, if_neg (by omega)]
theorem rmF_nextI {f g : Nat → Int32} {d i : Nat} (h : g = rmF f d i) (hi : d + 1 ≤ i) : upd g (i - 1) (g i) = rmF f d (i + 1) := rmF_next h hi
def beatF (dc dp : Nat → Nat) (ds dh : Nat → Int32) (t : Nat) (h : Nat → Int32) : Nat → Nat → Int32
  | 0 => h
  | n + 1 => upd (beatF dc dp ds dh t h n) (dc n) (if upP dp dh t n then ds n else -ds n)
def kfF (st h fi : Nat → Int32) (tk : Nat) : Nat → Int32 := fun j => if fi j = -6 ∧ st 3 < iabs (h j) then nI tk else fi j
theorem kf_keep {st h fi g : Nat → Int32} {tk i : Nat} (hg : ∀ j, g j = if j < i then kfF st h fi tk j else fi j) (hc : ¬ (fi i = -6 ∧ st 3 < iabs (h i))) : ∀ j, g j = if j < i + 1 then kfF st h fi tk j else fi j := by
  intro j
  rw [hg j]
  by_cases q : j < i
  · rw [if_pos q, if_pos (by omega)]
  · rw [if_neg q]
    by_cases r : j = i
    · subst r; rw [if_pos (by omega)]; unfold kfF; rw [if_neg hc]
    · rw [if_neg (by omega)]
theorem kf_put {st h fi g : Nat → Int32} {tk i : Nat} (hg : ∀ j, g j = if j < i then kfF st h fi tk j else fi j) (hc : fi i = -6 ∧ st 3 < iabs (h i)) : ∀ j, upd g i (nI tk) j = if j < i + 1 then kfF st h fi tk j else fi j := by
  intro j
  unfold upd
  by_cases r : j = i
  · subst r; rw [if_pos rfl, if_pos (by omega)]; unfold kfF; rw [if_pos hc]
  · rw [if_neg r, hg j]
    by_cases q : j < i
    · rw [if_pos q, if_pos (by omega)]
    · rw [if_neg q, if_neg (by omega)]
def swp (a : Nat → Nat) : Nat → Nat := fun k => if k = 3 then a 4 else if k = 4 then a 3 else a k
def nxF (st fl h ah : Nat → Int32) : Nat → Int32 := fun j => if fl j = nI 2 then nI 0 else nextF st fl h ah j
theorem nextF_congr {st fl h ah g : Nat → Int32} {i : Nat} (e : g i = ah i) : nextF st fl h g i = nextF st fl h ah i := by
  unfold nextF nextH1 nextH0; rw [e]
theorem nx_next {st fl h ah g : Nat → Int32} {i : Nat} (hg : ∀ j, g j = if j < i then nxF st fl h ah j else ah j) : ∀ j, upd g i (if fl i = nI 2 then nI 0 else nextF st fl h g i) j = if j < i + 1 then nxF st fl h ah j else ah j := by
  intro j
  have e : g i = ah i := by rw [hg i, if_neg (Nat.lt_irrefl i)]
  rw [nextF_congr e]
  unfold upd
  by_cases r : j = i
  · subst r; rw [if_pos (show j = j from rfl), if_pos (show j < j + 1 by omega)]; rfl
  · rw [if_neg r, hg j]
    by_cases q : j < i
    · rw [if_pos q, if_pos (by omega)]
    · rw [if_neg q, if_neg (by omega)]
