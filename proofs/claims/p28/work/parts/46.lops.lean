/-! The changes keep what stays true; the law's rows behind each. -/
/-- a reference's row for any tank: only to take over what was shown of both -/
def zOf (T : TV) : Nat → Int32 := fun j => if j < 4 then T.1 0 j else if j = 4 then nI (T.2 4 0) else if j < 65 then T.1 1 (j - 5) else if j < 125 then T.1 2 (j - 65) else if j < 185 then T.1 3 (j - 125) else if j < 245 then T.1 4 (j - 185) else if j = 245 then nI (T.2 4 1) else if j < 266 then dF T (j - 246) else if j = 266 then nI (T.2 4 2) else
  if (j - 267) % 26 = 0 then nI (T.2 2 ((j - 267) / 26)) else if (j - 267) % 26 = 1 then nI (T.2 3 ((j - 267) / 26)) else T.1 (7 + (j - 267) / 26) ((j - 267) % 26 - 2)
theorem rel_z {T : TV} (hok : okT T) : Rel T (zOf T) := by
  have n5 := hok.1.1
  have n3 := hok.2.1
  refine ⟨⟨fun j hj => if_pos hj, rfl⟩, ⟨fun j hj => ?_, fun j hj => ?_, fun j hj => ?_, fun j hj => ?_⟩, ⟨rfl, fun d hd => ?_⟩, ⟨rfl, fun p hp => ?_⟩⟩
  · unfold zOf
    rw [if_neg (by omega), if_neg (by omega), if_pos (by omega), show 5 + j - 5 = j by omega]
  · unfold zOf
    rw [if_neg (by omega), if_neg (by omega), if_neg (by omega), if_pos (by omega), show 65 + j - 65 = j by omega]
  · unfold zOf
    rw [if_neg (by omega), if_neg (by omega), if_neg (by omega), if_neg (by omega), if_pos (by omega), show 125 + j - 125 = j by omega]
  · unfold zOf
    rw [if_neg (by omega), if_neg (by omega), if_neg (by omega), if_neg (by omega), if_neg (by omega), if_pos (by omega), show 185 + j - 185 = j by omega]
  · have dip : ∀ i, i < 20 → zOf T (246 + i) = dF T i := fun i hi => by
      unfold zOf
      rw [if_neg (by omega), if_neg (by omega), if_neg (by omega), if_neg (by omega), if_neg (by omega), if_neg (by omega), if_neg (by omega), if_pos (by omega), show 246 + i - 246 = i by omega]
    have e0 := dip (4 * d) (by omega)
    have e1 := dip (4 * d + 1) (by omega)
    have e2 := dip (4 * d + 2) (by omega)
    have e3 := dip (4 * d + 3) (by omega)
    rw [dF_0] at e0
    rw [dF_1] at e1
    rw [dF_2] at e2
    rw [dF_3] at e3
    exact ⟨e0, e1, e2, e3⟩
  · have l := (hok.2.2 p hp).2
    have pr : ∀ i, i < 26 → zOf T (267 + 26 * p + i) = if i = 0 then nI (T.2 2 p) else if i = 1 then nI (T.2 3 p) else T.1 (7 + p) (i - 2) := fun i hi => by
      unfold zOf
      rw [if_neg (by omega), if_neg (by omega), if_neg (by omega), if_neg (by omega), if_neg (by omega), if_neg (by omega), if_neg (by omega), if_neg (by omega), if_neg (by omega), show (267 + 26 * p + i - 267) % 26 = i by omega, show (267 + 26 * p + i - 267) / 26 = p by omega]
    refine ⟨pr 0 (by omega), pr 1 (by omega), fun k hk => ?_⟩
    have e := pr (2 + k) (by omega)
    rw [if_neg (by omega), if_neg (by omega), show 2 + k - 2 = k by omega, ← Nat.add_assoc] at e
    exact e
theorem inv_set {T : TV} (hi : inv T) {k : Nat} {v : Int32} (hk : k < 4) (hv : inP v (leastF (nI k)) (mostF (nI k))) : inv (setT T k v) := (set_rel (rel_z hi.1) hi hk hv).2
theorem inv_lay {T : TV} (hi : inv T) {c : Nat} {f : Int32} (hc : c < 60) (hno : ¬ (f = nI 2 ∧ ¬ lastF (T.2 0) c (T.2 4 1) = -6)) : inv (layT T c f) := (lay_rel (rel_z hi.1) hi hc hno).2
theorem inv_drop {T : TV} (hi : inv T) {c : Nat} {v : Int32} (hc : c < 60) (hw : ¬ T.1 1 c = nI 2) : inv (dropT T c v) := (drop_rel (rel_z hi.1) hi hc hw).2
theorem inv_dip {T : TV} (hi : inv T) {c p s sh : Nat} (hc : c < 60) (hp2 : 2 ≤ p) (hp : p ≤ 40) (hs1 : 1 ≤ s) (hs : s ≤ 900) (hsh : sh < p) (hw : ¬ T.1 1 c = nI 2) (hn : T.2 4 1 < 5) : inv (dipT T c p (nI s) (nI sh)) := (dipo_rel (rel_z hi.1) hi hc hp2 hp hs1 hs hsh hw hn).2
theorem inv_take {T : TV} (hi : inv T) {d : Nat} (hd : d < T.2 4 1) : inv (takeT T d) := (take_rel (rel_z hi.1) hi hd).2
theorem inv_prob {T : TV} (hi : inv T) {c : Nat} (hc : c < 60) (hn : T.2 4 2 < 3) : inv (probT T c) := (prob_rel (rel_z hi.1) hi hc hn).2
theorem run_all {T : TV} (hi : inv T) (hf : fiOK T) : ∀ n, inv (runT T n) ∧ fiOK (runT T n) ∧ (runT T n).2 4 0 = T.2 4 0 + n ∧ (runT T n).2 4 1 = T.2 4 1 ∧ (runT T n).2 4 2 = T.2 4 2 ∧ (runT T n).2 2 = T.2 2
  | 0 => ⟨hi, hf, rfl, rfl, rfl, rfl⟩
  | n + 1 => by
    obtain ⟨a, b, c, d, e, f⟩ := run_all hi hf n
    refine ⟨a.step, b.step, ?_, d, e, f⟩
    show (runT T n).2 4 0 + 1 = _
    rw [c]
    omega
/-! floor -/
theorem las1 {dc : Nat → Nat} {c k : Nat} (hk : k < 2147483648) (h : ¬ lastF dc c k = -6) : ¬ lastF dc c (k + 1) = -6 := by
  rw [lastF]
  split
  · exact nI_ne6 hk
  · exact h
theorem las2 {dc : Nat → Nat} {c k : Nat} (hk : k < 2147483648) (h : dc k = c) : ¬ lastF dc c (k + 1) = -6 := by
  rw [lastF, if_pos h]
  exact nI_ne6 hk
theorem las3 {dc : Nat → Nat} {c k : Nat} (h : ¬ ¬ lastF dc c k = -6) (h2 : ¬ dc k = c) : lastF dc c (k + 1) = -6 := by
  rw [lastF, if_neg h2]
  exact Decidable.not_not.mp h
theorem lay_2w {T : TV} {c : Nat} {f : Int32} (h : f = nI 2) : nI 0 = (layT T c f).1 2 c := by
  show nI 0 = (if f = nI 2 then upd (T.1 2) c (nI 0) else T.1 2) c
  rw [if_pos h, updE rfl]
theorem lay_2 {T : TV} {c : Nat} {f : Int32} (h : ¬ f = nI 2) : T.1 2 c = (layT T c f).1 2 c := by
  show T.1 2 c = (if f = nI 2 then upd (T.1 2) c (nI 0) else T.1 2) c
  rw [if_neg h]
theorem lay_3w {T : TV} {c : Nat} {f : Int32} (h : f = nI 2) : nI 0 = (layT T c f).1 3 c := by
  show nI 0 = (if f = nI 2 then upd (T.1 3) c (nI 0) else T.1 3) c
  rw [if_pos h, updE rfl]
theorem lay_3 {T : TV} {c : Nat} {f : Int32} (h : ¬ f = nI 2) : T.1 3 c = (layT T c f).1 3 c := by
  show T.1 3 c = (if f = nI 2 then upd (T.1 3) c (nI 0) else T.1 3) c
  rw [if_neg h]
theorem lay_x2 {T : TV} {c : Nat} {f : Int32} : ∀ j, j < 60 → upd (T.1 2) c ((layT T c f).1 2 c) j = (layT T c f).1 2 j := fun j _ => by
  by_cases q : j = c
  · rw [updE q, q]
  · rw [updN q]
    show T.1 2 j = (if f = nI 2 then upd (T.1 2) c (nI 0) else T.1 2) j
    split
    · rw [updN q]
    · rfl
theorem lay_x3 {T : TV} {c : Nat} {f : Int32} : ∀ j, j < 60 → upd (T.1 3) c ((layT T c f).1 3 c) j = (layT T c f).1 3 j := fun j _ => by
  by_cases q : j = c
  · rw [updE q, q]
  · rw [updN q]
    show T.1 3 j = (if f = nI 2 then upd (T.1 3) c (nI 0) else T.1 3) j
    split
    · rw [updN q]
    · rfl
theorem upd_self {f : Nat → Int32} {c n : Nat} {x : Int32} (h : x = f c) : ∀ j, j < n → upd f c x j = f j := fun j _ => by
  by_cases q : j = c
  · rw [updE q, h, q]
  · rw [updN q]
/-! dip, takeOut -/
theorem okD_nat {p s h : Nat} (a1 : 2 ≤ p) (a2 : p ≤ 40) (b1 : 1 ≤ s) (b2 : s ≤ 900) (c1 : h < p) : okDip (nI p) (nI s) (nI h) :=
  ⟨inP_nI a1 a2 (by decide), inP_nI b1 b2 (by decide), by rw [pk_sub (by omega)]; exact inP_nI (Nat.zero_le _) (by omega) (by omega)⟩
theorem vaE2 {f : Nat → Nat} {k j x : Nat} (h : j = k) : va_up f k x j = x := if_pos h
theorem dF_dip {T : TV} {c p : Nat} {s h : Int32} : ∀ j, j < 20 → upd (upd (upd (upd (dF T) (4 * T.2 4 1) (nI c)) (4 * T.2 4 1 + 1) (nI p)) (4 * T.2 4 1 + 2) s) (4 * T.2 4 1 + 3) h j = dF (dipT T c p s h) j := by
  intro j _
  show _ = if j % 4 = 0 then nI (va_up (T.2 0) (T.2 4 1) c (j / 4)) else if j % 4 = 1 then nI (va_up (T.2 1) (T.2 4 1) p (j / 4)) else if j % 4 = 2 then upd (T.1 5) (T.2 4 1) s (j / 4) else upd (T.1 6) (T.2 4 1) h (j / 4)
  by_cases q : j / 4 = T.2 4 1
  · rw [vaE q, vaE q, updE q, updE q]
    rcases (show j = 4 * T.2 4 1 ∨ j = 4 * T.2 4 1 + 1 ∨ j = 4 * T.2 4 1 + 2 ∨ j = 4 * T.2 4 1 + 3 by omega) with r | r | r | r
    · rw [updN (by omega), updN (by omega), updN (by omega), updE r, if_pos (by omega)]
    · rw [updN (by omega), updN (by omega), updE r, if_neg (by omega), if_pos (by omega)]
    · rw [updN (by omega), updE r, if_neg (by omega), if_neg (by omega), if_pos (by omega)]
    · rw [updE r, if_neg (by omega), if_neg (by omega), if_neg (by omega)]
  · rw [vaN q, vaN q, updN q, updN q, updN (by omega), updN (by omega), updN (by omega), updN (by omega)]
    rfl
theorem tF_5 {T S : TV} {n : Nat} (h0 : ∀ k, k < 4 → T.1 0 k = S.1 0 k) (h4 : T.2 4 0 = S.2 4 0) (h6 : T.2 4 2 = S.2 4 2) (hn : n = S.2 4 1) : ∀ j, j < 7 → upd (tF T) 5 (nI n) j = tF S j
  | 0, _ => h0 0 (by decide)
  | 1, _ => h0 1 (by decide)
  | 2, _ => h0 2 (by decide)
  | 3, _ => h0 3 (by decide)
  | 4, _ => congrArg nI h4
  | 5, _ => congrArg nI hn
  | 6, _ => congrArg nI h6
  | j + 7, h => absurd h (by omega)
theorem tF_6 {T S : TV} {n : Nat} (h0 : ∀ k, k < 4 → T.1 0 k = S.1 0 k) (h4 : T.2 4 0 = S.2 4 0) (h5 : T.2 4 1 = S.2 4 1) (hn : n = S.2 4 2) : ∀ j, j < 7 → upd (tF T) 6 (nI n) j = tF S j
  | 0, _ => h0 0 (by decide)
  | 1, _ => h0 1 (by decide)
  | 2, _ => h0 2 (by decide)
  | 3, _ => h0 3 (by decide)
  | 4, _ => congrArg nI h4
  | 5, _ => congrArg nI h5
  | 6, _ => congrArg nI hn
  | j + 7, h => absurd h (by omega)
/-- a row's part from lo on, moved up by four as far as k -/
def shD (f : Nat → Int32) (lo k : Nat) : Nat → Int32 := fun j => if lo ≤ j ∧ j < k then f (j + 4) else f j
theorem shD_0 {f : Nat → Int32} {lo : Nat} : f = shD f lo lo := by
  funext j
  unfold shD
  rw [if_neg (by omega)]
theorem shD_next {f g : Nat → Int32} {lo k : Nat} (h : g = shD f lo k) (hk : lo ≤ k) : upd g k (g (k + 4)) = shD f lo (k + 1) := by
  subst h
  funext j
  have e : shD f lo k (k + 4) = f (k + 4) := if_neg (by omega)
  rw [e]
  unfold upd shD
  by_cases q : j = k
  · rw [if_pos q, if_pos (by omega), q]
  · rw [if_neg q]
    by_cases r : lo ≤ j ∧ j < k
    · rw [if_pos r, if_pos (by omega)]
    · rw [if_neg r, if_neg (by omega)]
theorem dF_take {T : TV} {d k : Nat} {g : Nat → Int32} (hd : d < T.2 4 1) (hk : k = 4 * T.2 4 1 - 4) (hg : g = shD (dF T) (4 * d) k) : ∀ j, j < 20 → g j = dF (takeT T d) j := by
  intro j _
  rw [hg]
  show shD (dF T) (4 * d) k j = if j % 4 = 0 then nI (rmF (T.2 0) d (T.2 4 1) (j / 4)) else if j % 4 = 1 then nI (rmF (T.2 1) d (T.2 4 1) (j / 4)) else if j % 4 = 2 then rmF (T.1 5) d (T.2 4 1) (j / 4) else rmF (T.1 6) d (T.2 4 1) (j / 4)
  unfold shD
  by_cases q : 4 * d ≤ j ∧ j < k
  · have rm : ∀ {α : Type} (f : Nat → α), rmF f d (T.2 4 1) (j / 4) = f (j / 4 + 1) := fun f => if_pos (by omega)
    rw [if_pos q, rm, rm, rm, rm]
    show (if (j + 4) % 4 = 0 then nI (T.2 0 ((j + 4) / 4)) else if (j + 4) % 4 = 1 then nI (T.2 1 ((j + 4) / 4)) else if (j + 4) % 4 = 2 then T.1 5 ((j + 4) / 4) else T.1 6 ((j + 4) / 4)) = _
    rw [show (j + 4) % 4 = j % 4 by omega, show (j + 4) / 4 = j / 4 + 1 by omega]
  · have rm : ∀ {α : Type} (f : Nat → α), rmF f d (T.2 4 1) (j / 4) = f (j / 4) := fun f => if_neg (by omega)
    rw [if_neg q, rm, rm, rm, rm]
    rfl
/-! drop, probe -/
theorem drop_in {u : Nat} (h : u < 1999) : inP (nI u - nI 999) (-999) (nI 999) := by
  constructor
  · apply Int32.le_iff_toInt_le.mpr
    rw [pk_sub_toInt (by omega) (by decide), show (-999 : Int32).toInt = -999 by decide +kernel]
    omega
  · apply Int32.le_iff_toInt_le.mpr
    rw [pk_sub_toInt (by omega) (by decide), nI_toInt (by decide)]
    omega
/-- how much the first probe has seen; where it lies -/
def seF (T : TV) : Int32 := if T.2 4 2 = 0 then -1 else nI (T.2 3 0)
def whF (T : TV) : Int32 := if T.2 4 2 = 0 then nI 0 else nI (T.2 2 0)
theorem se_at {T : TV} (h : 0 < T.2 4 2) : seF T = nI (T.2 3 0) := if_neg (by omega)
theorem wh_at {T : TV} (h : 0 < T.2 4 2) : whF T = nI (T.2 2 0) := if_neg (by omega)
theorem se_no {T : TV} (h : T.2 4 2 = 0) : seF T = -1 := if_pos h
theorem se_pos {T : TV} (h : ¬ seF T < 0) : 0 < T.2 4 2 := by
  rcases Nat.eq_zero_or_pos (T.2 4 2) with q | q
  · rw [se_no q] at h
    exact absurd (by decide +kernel) h
  · exact q
theorem wh_p0 {T : TV} {c : Nat} (h : T.2 4 2 = 0) : nI c = whF (probT T c) := by
  show nI c = if T.2 4 2 + 1 = 0 then nI 0 else nI (va_up (T.2 2) (T.2 4 2) c 0)
  rw [if_neg (by omega), vaE h.symm]
theorem wh_p1 {T : TV} {c : Nat} (h : ¬ T.2 4 2 = 0) : whF T = whF (probT T c) := by
  show _ = if T.2 4 2 + 1 = 0 then nI 0 else nI (va_up (T.2 2) (T.2 4 2) c 0)
  rw [if_neg (by omega), vaN (fun z => h z.symm), wh_at (by omega)]
theorem se_p0 {T : TV} {c : Nat} (h : T.2 4 2 = 0) : nI 0 = seF (probT T c) := by
  show nI 0 = if T.2 4 2 + 1 = 0 then -1 else nI (va_up (T.2 3) (T.2 4 2) 0 0)
  rw [if_neg (by omega), vaE h.symm]
theorem se_p1 {T : TV} {c : Nat} (h : ¬ T.2 4 2 = 0) : seF T = seF (probT T c) := by
  show _ = if T.2 4 2 + 1 = 0 then -1 else nI (va_up (T.2 3) (T.2 4 2) 0 0)
  rw [if_neg (by omega), vaN (fun z => h z.symm), se_at (by omega)]
theorem prob_x {T : TV} {i j : Nat} {w : Int32} (hi : i < 10) (hw : tsel w 4 = 0) : prbQ (probT T (j * 10 + i)) (T.2 4 2) (tsel w 4) = nI i := by
  rw [hw]
  show nI (va_up (T.2 2) (T.2 4 2) (j * 10 + i) (T.2 4 2) % 10) = nI i
  rw [vaE rfl, show (j * 10 + i) % 10 = i by omega]
theorem prob_y {T : TV} {i j : Nat} {w : Int32} (hi : i < 10) (hw : tsel w 4 = 1) : prbQ (probT T (j * 10 + i)) (T.2 4 2) (tsel w 4) = nI j := by
  rw [hw]
  show nI (va_up (T.2 2) (T.2 4 2) (j * 10 + i) (T.2 4 2) / 10) = nI j
  rw [vaE rfl, show (j * 10 + i) / 10 = j by omega]
theorem prob_no {T : TV} {c : Nat} (hn : T.2 4 2 < 3) : ∀ i, i < (probT T c).2 4 2 → nI (T.2 4 2) = nI i → ¬ inP (nI 0) (nI 0) (nI ((probT T c).2 3 i) - nI 1) := by
  intro i hi e z
  have hi2 : i < T.2 4 2 + 1 := hi
  have e0 : T.2 4 2 = i := (nI_eq (by omega) (by omega)).mp e
  have z2 : nI 0 ≤ nI (va_up (T.2 3) (T.2 4 2) 0 i) - nI 1 := z.2
  rw [vaE e0.symm] at z2
  exact absurd z2 (by decide +kernel)
/-! pass -/
/-- a row from i on moved down by one -/
def shQ (f : Nat → Int32) (i : Nat) : Nat → Int32 := fun j => if i < j ∧ j < 24 then f (j - 1) else f j
theorem shQ_0 {f : Nat → Int32} : f = shQ f 23 := by
  funext j
  unfold shQ
  rw [if_neg (by omega)]
theorem shQ_next {f g : Nat → Int32} {i : Nat} (h : g = shQ f i) (h1 : 1 ≤ i) (h2 : i ≤ 23) : upd g i (g (i - 1)) = shQ f (i - 1) := by
  subst h
  funext j
  have e : shQ f i (i - 1) = f (i - 1) := if_neg (by omega)
  rw [e]
  unfold upd shQ
  by_cases q : j = i
  · rw [if_pos q, if_pos (by omega), q]
  · rw [if_neg q]
    by_cases r : i < j ∧ j < 24
    · rw [if_pos r, if_pos (by omega)]
    · rw [if_neg r, if_neg (by omega)]
theorem q_run {S : TV} {g : Nat → Int32} {i : Nat} {x : Int32} (hp : 0 < S.2 4 2) (hi : i = 0) (hg : g = shQ (S.1 7) i) (hx : x = stepH S (S.2 2 0)) : ∀ j, j < 24 → upd g 0 x j = (stepT S).1 7 j := by
  intro j hj
  show _ = lookRow (S.2 4 2) 0 (S.1 7) (stepH S (S.2 2 0)) j
  unfold lookRow lookR
  rw [if_pos hp, hg, hi, hx]
  by_cases q : j = 0
  · rw [updE q, if_pos q]
  · rw [updN q, if_neg q, if_pos hj]
    exact if_pos ⟨by omega, hj⟩
theorem q_no {S : TV} {x : Int32} (hp : S.2 4 2 = 0) (hx : x = S.1 7 0) : ∀ j, j < 24 → upd (S.1 7) 0 x j = (stepT S).1 7 j := by
  intro j hj
  show _ = lookRow (S.2 4 2) 0 (S.1 7) (stepH S (S.2 2 0)) j
  unfold lookRow
  rw [if_neg (by omega)]
  exact upd_self hx j hj
theorem se_step0 {S : TV} (hp : S.2 4 2 = 0) : (-1 : Int32) = seF (stepT S) := (se_no (T := stepT S) hp).symm
theorem se_step {S : TV} (hp : 0 < S.2 4 2) : nI (min (S.2 3 0 + 1) 24) = seF (stepT S) := by
  rw [se_at (T := stepT S) hp]
  show _ = nI (lookL (S.2 3) (S.2 4 2) 0)
  unfold lookL
  rw [if_pos hp]
theorem wh_run {T : TV} (hi : inv T) (hf : fiOK T) (n : Nat) : whF (runT T n) = whF T := by
  obtain ⟨a, b, c, d, e, f⟩ := run_all hi hf n
  unfold whF
  rw [e, f]
theorem rest_sum {T : TV} (hi : inv T) {i : Nat} {w : Int32} (h60 : i = 60) (hw : w = sumI i (fun j => if stillP (T.1 0) (T.1 2) (T.1 3) j then nI 0 else nI 1)) : restF (T.1 0) (T.1 1) (T.1 2) (T.1 3) = w := by
  rw [hw, h60, rest_cnt hi]
