/-! What a tank is in the heap: T.1 its rows of ints (0 settings, 1 floors, 2 heights, 3 ahead, 4 firsts, 5 sizes, 6 shifts, 7..9 what probes saw), T.2 its naturals (0 dippers' cells, 1 periods, 2 probes' cells, 3 lengths, 4: tick, dippers, probes). -/
abbrev TV : Type := (Nat → Nat → Int32) × (Nat → Nat → Nat)
def row3 (x y z : Nat) : Nat → Option Nat := fun k => match k with
  | 0 => some x
  | 1 => some y
  | _ => some z
def tkW (cA : Nat → ClassId) (a : Nat → Nat) (T : TV) : va_W :=
  [(a 0, .inr (4, [.ref (a 1), .ref (a 2), .ref (a 3), .ref (a 4), .ref (a 5), .ref (a 6), .ref (a 11), .int (nI (T.2 4 0))])),
   (a 1, .inl (cA 0, 4, .inl (T.1 0))), (a 2, .inl (cA 0, 60, .inl (T.1 1))), (a 3, .inl (cA 0, 60, .inl (T.1 2))), (a 4, .inl (cA 0, 60, .inl (T.1 3))), (a 5, .inl (cA 0, 60, .inl (T.1 4))),
   (a 6, .inr (0, [.ref (a 7), .ref (a 8), .ref (a 9), .ref (a 10), .int (nI (T.2 4 1))])),
   (a 7, .inl (cA 0, 5, .inl (fun k => nI (T.2 0 k)))), (a 8, .inl (cA 0, 5, .inl (fun k => nI (T.2 1 k)))), (a 9, .inl (cA 0, 5, .inl (T.1 5))), (a 10, .inl (cA 0, 5, .inl (T.1 6))),
   (a 11, .inr (3, [.ref (a 12), .ref (a 13), .ref (a 14), .int (nI (T.2 4 2))])),
   (a 12, .inl (cA 0, 3, .inl (fun k => nI (T.2 2 k)))), (a 13, .inl (cA 0, 3, .inl (fun k => nI (T.2 3 k)))), (a 14, .inl (cA 4, 3, .inr (.inr (.inr (.inr (row3 (a 15) (a 16) (a 17))))))),
   (a 15, .inl (cA 0, 24, .inl (T.1 7))), (a 16, .inl (cA 0, 24, .inl (T.1 8))), (a 17, .inl (cA 0, 24, .inl (T.1 9)))]
theorem updN_eq {g : Nat → Nat} {i x j : Nat} : upd (fun k => nI (g k)) i (nI x) j = nI (va_up g i x j) := by
  unfold upd va_up
  split <;> rfl
theorem wld.sub {G : va_G} {A : Nat → Prop} {ws wc : va_W} {H0 H : Heap} {locs : List Loc} (hW : wld G A ws H0 H locs) (pl : List Nat) (hn : va_nd pl = true) (hC : pl.map (fun i => ws[i]?) = wc.map some) : wld G A wc H0 H locs :=
  ⟨(wld_sub hW pl hn hC).1, (wld_sub hW pl hn hC).2, hW.2.2⟩
theorem fill_next {g f : Nat → Int32} {v : Int32} {i n : Nat} (h : ∀ j, j < n → g j = if j < i then v else f j) : ∀ j, j < n → upd g i v j = if j < i + 1 then v else f j := by
  intro j hj
  unfold upd
  by_cases q : j = i
  · rw [if_pos q, if_pos (by omega)]
  · rw [if_neg q, h j hj]
    by_cases r : j < i
    · rw [if_pos r, if_pos (by omega)]
    · rw [if_neg r, if_neg (by omega)]
def rmF {α : Type} (f : Nat → α) (d i : Nat) : Nat → α := fun j => if d ≤ j ∧ j + 1 < i then f (j + 1) else f j
theorem rmF_0 {α : Type} {f : Nat → α} {d : Nat} : f = rmF f d (d + 1) := by
  funext j
  unfold rmF
  rw [if_neg (by omega)]
theorem rmF_next {α : Type} {f g : Nat → α} {d i : Nat} (h : g = rmF f d i) (hi : d + 1 ≤ i) : va_up g (i - 1) (g i) = rmF f d (i + 1) := by
  subst h
  funext j
  have e : rmF f d i i = f i := if_neg (by omega)
  unfold va_up
  rw [e]
  unfold rmF
  by_cases q : j = i - 1
  · rw [if_pos q, if_pos (by omega), show j + 1 = i by omega]
  · rw [if_neg q]
    by_cases r : d ≤ j ∧ j + 1 < i
    · rw [if_pos r, if_pos (by omega)]
    · rw [if_neg r, if_neg (by omega)]
theorem rmF_nextI {f g : Nat → Int32} {d i : Nat} (h : g = rmF f d i) (hi : d + 1 ≤ i) : upd g (i - 1) (g i) = rmF f d (i + 1) := rmF_next h hi
def beatF (dc dp : Nat → Nat) (ds dh : Nat → Int32) (t : Nat) (h : Nat → Int32) : Nat → Nat → Int32
  | 0 => h
  | n + 1 => upd (beatF dc dp ds dh t h n) (dc n) (if upP dp dh t n then ds n else -ds n)
def kfF (st h fi : Nat → Int32) (tk : Nat) : Nat → Int32 := fun j => if fi j = -6 ∧ st 3 < iabs (h j) then nI tk else fi j
theorem kf_keep {st h fi g : Nat → Int32} {tk i : Nat} (hg : ∀ j, g j = if j < i then kfF st h fi tk j else fi j) (hc : ¬ (fi i = -6 ∧ st 3 < iabs (h i))) : ∀ j, g j = if j < i + 1 then kfF st h fi tk j else fi j := by
  intro j
  rw [hg j]
  by_cases q : j < i
  · rw [if_pos q, if_pos (by omega)]
  · rw [if_neg q]
    by_cases r : j = i
    · subst r; rw [if_pos (by omega)]; unfold kfF; rw [if_neg hc]
    · rw [if_neg (by omega)]
theorem kf_put {st h fi g : Nat → Int32} {tk i : Nat} (hg : ∀ j, g j = if j < i then kfF st h fi tk j else fi j) (hc : fi i = -6 ∧ st 3 < iabs (h i)) : ∀ j, upd g i (nI tk) j = if j < i + 1 then kfF st h fi tk j else fi j := by
  intro j
  unfold upd
  by_cases r : j = i
  · subst r; rw [if_pos rfl, if_pos (by omega)]; unfold kfF; rw [if_pos hc]
  · rw [if_neg r, hg j]
    by_cases q : j < i
    · rw [if_pos q, if_pos (by omega)]
    · rw [if_neg q, if_neg (by omega)]
def swp (a : Nat → Nat) : Nat → Nat := fun k => if k = 3 then a 4 else if k = 4 then a 3 else a k
def nxF (st fl h ah : Nat → Int32) : Nat → Int32 := fun j => if fl j = nI 2 then nI 0 else nextF st fl h ah j
theorem nextF_congr {st fl h ah g : Nat → Int32} {i : Nat} (e : g i = ah i) : nextF st fl h g i = nextF st fl h ah i := by
  unfold nextF nextH1 nextH0; rw [e]
theorem nx_next {st fl h ah g : Nat → Int32} {i : Nat} (hg : ∀ j, g j = if j < i then nxF st fl h ah j else ah j) : ∀ j, upd g i (if fl i = nI 2 then nI 0 else nextF st fl h g i) j = if j < i + 1 then nxF st fl h ah j else ah j := by
  intro j
  have e : g i = ah i := by rw [hg i, if_neg (Nat.lt_irrefl i)]
  rw [nextF_congr e]
  unfold upd
  by_cases r : j = i
  · subst r; rw [if_pos (show j = j from rfl), if_pos (show j < j + 1 by omega)]; rfl
  · rw [if_neg r, hg j]
    by_cases q : j < i
    · rw [if_pos q, if_pos (by omega)]
    · rw [if_neg q, if_neg (by omega)]
def lookR (r : Nat → Int32) (x : Int32) : Nat → Int32 := fun k => if k = 0 then x else if k < 24 then r (k - 1) else r k
theorem look_eq {r : Nat → Int32} {x : Int32} : upd (va_cpy r r 0 1 23) 0 x = lookR r x := by
  funext k
  unfold upd lookR va_cpy
  by_cases h : k = 0
  · rw [if_pos h, if_pos h]
  · rw [if_neg h, if_neg h]
    by_cases q : k < 24
    · rw [if_pos q, if_pos (by omega)]; congr 1; omega
    · rw [if_neg q, if_neg (by omega)]
def lookL (pl : Nat → Nat) (n : Nat) : Nat → Nat := fun p => if p < n then min (pl p + 1) 24 else pl p
theorem lookL_0 {pl : Nat → Nat} : pl = lookL pl 0 := by funext p; unfold lookL; rw [if_neg (Nat.not_lt_zero _)]
theorem lookL_next {pl g : Nat → Nat} {i : Nat} (h : g = lookL pl i) : va_up g i (min (g i + 1) 24) = lookL pl (i + 1) := by
  subst h
  funext p
  have e : lookL pl i i = pl i := if_neg (Nat.lt_irrefl i)
  unfold va_up
  rw [e]
  unfold lookL
  by_cases q : p = i
  · subst q; rw [if_pos rfl, if_pos (by omega)]
  · rw [if_neg q]
    by_cases r : p < i
    · rw [if_pos r, if_pos (by omega)]
    · rw [if_neg r, if_neg (by omega)]
def lookRow (n q : Nat) (r : Nat → Int32) (x : Int32) : Nat → Int32 := if q < n then lookR r x else r
theorem imin_nat {a b : Nat} (ha : a < 2147483648) (hb : b < 2147483648) : imin (nI a) (nI b) = nI (min a b) := by
  unfold imin
  by_cases h : b < a
  · rw [if_pos (nI_lt h ha), Nat.min_eq_right (by omega)]
  · rw [if_neg (nI_nlt (by omega) hb), Nat.min_eq_left (by omega)]
def diffF (r : Nat → Int32) (lag : Nat) : Int32 := sumI 12 (fun k => iabs (r k - r (k + lag)))
def mxF (r : Nat → Int32) : Nat → Int32
  | 0 => r 0
  | n + 1 => if n = 0 then r 0 else imax (mxF r n) (r n)
theorem mxF_next {r : Nat → Int32} {n : Nat} (h : 1 ≤ n) : imax (mxF r n) (r n) = mxF r (n + 1) := by
  rw [mxF, if_neg (by omega)]
def btF (r : Nat → Int32) : Nat → Nat × Int32
  | 0 => (2, diffF r 2)
  | n + 1 => if diffF r (n + 3) < (btF r n).2 then (n + 3, diffF r (n + 3)) else btF r n
theorem btF_keep {r : Nat → Int32} {L : Nat} (h : 3 ≤ L) (hc : (btF r (L - 3)).2 ≤ diffF r L) : btF r (L - 3) = btF r (L + 1 - 3) := by
  obtain ⟨k, rfl⟩ : ∃ k, L = k + 3 := ⟨L - 3, by omega⟩
  rw [show k + 3 + 1 - 3 = k + 1 by omega, show k + 3 - 3 = k by omega] at *
  rw [btF, if_neg (Int32.not_lt.mpr hc)]
theorem btF_take {r : Nat → Int32} {L : Nat} (h : 3 ≤ L) (hc : diffF r L < (btF r (L - 3)).2) : (L, diffF r L) = btF r (L + 1 - 3) := by
  obtain ⟨k, rfl⟩ : ∃ k, L = k + 3 := ⟨L - 3, by omega⟩
  rw [show k + 3 + 1 - 3 = k + 1 by omega, show k + 3 - 3 = k by omega] at *
  rw [btF, if_pos hc]
def stepH (T : TV) : Nat → Int32 := beatF (T.2 0) (T.2 1) (T.1 5) (T.1 6) (T.2 4 0) (nxF (T.1 0) (T.1 1) (T.1 2) (T.1 3)) (T.2 4 1)
def stepT (T : TV) : TV := (fun k => if k = 2 then stepH T else if k = 3 then T.1 2 else if k = 4 then kfF (T.1 0) (stepH T) (T.1 4) (T.2 4 0) else if k = 7 then lookRow (T.2 4 2) 0 (T.1 7) (stepH T (T.2 2 0)) else if k = 8 then lookRow (T.2 4 2) 1 (T.1 8) (stepH T (T.2 2 1)) else if k = 9 then lookRow (T.2 4 2) 2 (T.1 9) (stepH T (T.2 2 2)) else T.1 k,
  fun k => if k = 3 then lookL (T.2 3) (T.2 4 2) else if k = 4 then (fun j => if j = 0 then T.2 4 0 + 1 else T.2 4 j) else T.2 k)
def okT (T : TV) : Prop := (T.2 4 1 ≤ 5 ∧ ∀ k, k < T.2 4 1 → T.2 0 k < 60 ∧ T.2 1 k ≤ 40) ∧ T.2 4 2 ≤ 3 ∧ ∀ p, p < T.2 4 2 → T.2 2 p < 60 ∧ T.2 3 p ≤ 24
theorem okT.step {T : TV} (h : okT T) : okT (stepT T) := by
  refine ⟨h.1, h.2.1, fun p hp => ⟨(h.2.2 p hp).1, ?_⟩⟩
  show lookL (T.2 3) (T.2 4 2) p ≤ 24
  unfold lookL
  have hp' : p < T.2 4 2 := hp
  rw [if_pos hp']
  omega
def runA (a : Nat → Nat) (n : Nat) : Nat → Nat := fun k => if k = 3 then (if n % 2 = 0 then a 3 else a 4) else if k = 4 then (if n % 2 = 0 then a 4 else a 3) else a k
theorem runA_0 {a : Nat → Nat} : a = runA a 0 := by
  funext k
  unfold runA
  by_cases h3 : k = 3
  · subst h3; rfl
  · rw [if_neg h3]
    by_cases h4 : k = 4
    · subst h4; rfl
    · rw [if_neg h4]
theorem runA_next {a : Nat → Nat} {n : Nat} : swp (runA a n) = runA a (n + 1) := by
  funext k
  unfold swp
  by_cases h3 : k = 3
  · subst h3
    show (if n % 2 = 0 then a 4 else a 3) = (if (n + 1) % 2 = 0 then a 3 else a 4)
    by_cases q : n % 2 = 0
    · rw [if_pos q, if_neg (by omega)]
    · rw [if_neg q, if_pos (by omega)]
  · rw [if_neg h3]
    by_cases h4 : k = 4
    · subst h4
      show (if n % 2 = 0 then a 3 else a 4) = (if (n + 1) % 2 = 0 then a 4 else a 3)
      by_cases q : n % 2 = 0
      · rw [if_pos q, if_neg (by omega)]
      · rw [if_neg q, if_pos (by omega)]
    · rw [if_neg h4]
      unfold runA
      rw [if_neg h3, if_neg h4, if_neg h3, if_neg h4]
def runT (T : TV) : Nat → TV
  | 0 => T
  | n + 1 => stepT (runT T n)
theorem okT.run {T : TV} (h : okT T) : ∀ n, okT (runT T n)
  | 0 => h
  | n + 1 => (okT.run h n).step
/-! The history's rows. -/
theorem va_cell_extq {c : ClassId} {n : Nat} {f g : Nat → Option Nat} (h : ∀ j, j < n → f j = g j) : vp_cell c (n, .inr (.inr (.inr (.inr f)))) = vp_cell c (n, .inr (.inr (.inr (.inr g)))) := by
  rw [vp_cell_q, vp_cell_q]
  unfold arrV
  congr 1
  apply Array.ext
  · simp
  · intro i h1 h2
    simp at h1
    simp [h i h1]
theorem wld.extq {G : va_G} {A : Nat → Prop} {ws : va_W} {H0 H : Heap} {locs : List Loc} (hW : wld G A ws H0 H locs) (q0 : Nat) {a n : Nat} {c : ClassId} {f g : Nat → Option Nat} (ha : ws[q0]? = some (a, .inl (c, n, .inr (.inr (.inr (.inr f)))))) (h : ∀ j, j < n → f j = g j) {ws' : va_W} (hws : ws.set q0 (a, .inl (c, n, .inr (.inr (.inr (.inr g))))) = ws') : wld G A ws' H0 H locs := by
  subst hws
  obtain ⟨hP, hD, hS⟩ := hW
  refine ⟨hP.set hD ha ?_ (fun _ _ => rfl), hD.set ha, hS⟩
  show H[a]? = some (vp_cell _ _)
  rw [← va_cell_extq h]
  exact hP q0 _ ha
def rot {α : Type} (f : Nat → α) : Nat → α := fun k => if k = 5 then f 0 else f (k + 1)
def keepA (ha : Nat → Nat → Nat) (n : Nat) : Nat → Nat → Nat := if n < 6 then ha else rot ha
def keepT (hT : Nat → TV) (n : Nat) (T : TV) : Nat → TV := if n < 6 then va_up hT n T else va_up (rot hT) 5 T
def keepN (n : Nat) : Nat := if n < 6 then n + 1 else 6
def stR (ha : Nat → Nat → Nat) : Nat → Option Nat := fun k => some (ha k 0)
theorem six {P : Nat → Prop} (h0 : P 0) (h1 : P 1) (h2 : P 2) (h3 : P 3) (h4 : P 4) (h5 : P 5) : ∀ j, j < 6 → P j := fun j hj => match j, hj with
  | 0, _ => h0
  | 1, _ => h1
  | 2, _ => h2
  | 3, _ => h3
  | 4, _ => h4
  | 5, _ => h5
  | k + 6, h => absurd h (by omega)
section ROWSQ
variable {p : Program} {l : Launch} {e : Env} {R : Room} {s : State} {m : MethodId} {args : Array Value} {below : List Frame} {meth : Method} {c : Code} {H : Heap} {locs : List Loc} {cells slots : Nat} {Q : State → Prop}
variable {cc : ByteArray} {pc nL : Nat} {ls : Array Slot} {rest : List Value} {G : va_G} {cA : Nat → ClassId} {A : Nat → Prop} {a : Nat} {ws ws' : va_W} {H0 : Heap} {Ts : List Cond} {own : String}
theorem rn_aast3 (CX : CallFix p m c cc nL s args Ts own) (hE : EK G cA s) (hW : wld G A ws H0 H locs) (q0 qk : Nat) {n v : Nat} {vs : List Value} {f : Nat → Option Nat} (ha : ws[q0]? = some (a, .inl (cA 3, n, .inr (.inr (.inr (.inr f)))))) (hv : ws[qk]? = some (v, .inr (4, vs))) {j : Nat} (hj : j < n) (hn : n < 2147483648) (hws : ws.set q0 (a, .inl (cA 3, n, .inr (.inr (.inr (.inr (va_up f j (some v))))))) = ws') (hdg : decode cc pc = .ok (.aastore, 1)) (kk : ∀ (H1 : Heap) (locs1 : List Loc), wld G A ws' H0 H1 locs1 → W p l e R s m args below meth c H1 locs1 cells slots Q (F0 m (pc + 1) ls rest)) : W p l e R s m args below meth c H locs cells slots Q (F0 m pc ls (.ref v :: .int (nI j) :: .ref a :: rest)) :=
  va_astq (r := (RX4, TX4, 8)) CX.1 CX.2.1 hE.1 hW.1 hW.2.1 hW.2.2 q0 3 qk 4 ha rfl hv rfl (vp_in_nI hj hn) hdg (by rw [nI_clamp (Nat.lt_trans hj hn), hws]; exact fun H1 l1 h1 h2 h3 => kk H1 l1 ⟨h1, h2, h3⟩)
end ROWSQ
