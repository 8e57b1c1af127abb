/-! The questions' answers agree. -/
theorem still_wall {T : TV} (hi : inv T) {c : Nat} (hc : c < 60) (w : T.1 1 c = nI 2) : stillP (T.1 0) (T.1 2) (T.1 3) c := by
  obtain ⟨hok, hs, hw, hd, hp⟩ := hi
  obtain ⟨a, b⟩ := (hw c hc).2.2 w
  have h3 : nI 0 ≤ T.1 0 3 := (hs 3 (by decide)).1
  show iabs (T.1 2 c) ≤ T.1 0 3 ∧ iabs (T.1 3 c) ≤ T.1 0 3
  rw [a, b]
  exact ⟨h3, h3⟩
theorem cell_relD {T : TV} {z : Nat → Int32} {c : Nat} (n : Nat) : cellN z (T.2 4 1) c (n + 7) = celT T c (n + 7) :=
  (show cellN z (T.2 4 1) c (n + 7) = -2 from rfl).trans (show -2 = celT T c (n + 7) from rfl)
theorem cell_rel1 {T : TV} {z : Nat → Int32} (h : Rel T z) {c : Nat} (hc : c < 60) : cellN z (T.2 4 1) c 1 = celT T c 1 := by
  have e : z (65 + c) = T.1 2 c := h.2.1.2.1 c hc
  show z (65 + c) + nI 10000 = T.1 2 c + nI 10000
  rw [e]
theorem cell_rel2 {T : TV} {z : Nat → Int32} (h : Rel T z) {c : Nat} (hc : c < 60) : cellN z (T.2 4 1) c 2 = celT T c 2 := by
  have e : z (125 + c) = T.1 3 c := h.2.1.2.2.1 c hc
  show z (125 + c) + nI 10000 = T.1 3 c + nI 10000
  rw [e]
theorem cell_rel3 {T : TV} {z : Nat → Int32} (h : Rel T z) {c : Nat} (hc : c < 60) : cellN z (T.2 4 1) c 3 = celT T c 3 := by
  have e := slope_congr (fl := shf 5 z) (h := shf 65 z) (fun j hj => h.2.1.1 j hj) (fun j hj => h.2.1.2.1 j hj) hc
  show slopeF (shf 5 z) (shf 65 z) c + nI 100000 = slopeF (T.1 1) (T.1 2) c + nI 100000
  rw [e]
theorem cell_rel {T : TV} {z : Nat → Int32} (h : Rel T z) (hi : inv T) {c : Nat} (hc : c < 60) : ∀ i, cellN z (T.2 4 1) c i = celT T c i
  | 0 => h.2.1.1 c hc
  | 1 => cell_rel1 h hc
  | 2 => cell_rel2 h hc
  | 3 => cell_rel3 h hc
  | 4 => b2i_iff (by
      rw [show shf 5 z c = T.1 1 c from h.2.1.1 c hc]
      exact ⟨fun q => q.elim (still_wall hi hc) (still_rel h hc).mp, fun q => Or.inr ((still_rel h hc).mpr q)⟩)
  | 5 => h.2.1.2.2.2 c hc
  | 6 => din_last h.2.2.1 hc (fun k hk => (hi.1.1.2 k hk).1) _ (Nat.le_refl _)
  | n + 7 => cell_relD n
theorem dip_rel {T : TV} {z : Nat → Int32} (h : Rel T z) (hi : inv T) {d : Nat} (hd : d < T.2 4 1) : ∀ i, dipN z d (T.2 0 d) i = dipQ T d i
  | 0 => rfl
  | 1 => rfl
  | 2 => (h.2.2.1.2 d hd).2.1
  | 3 => (h.2.2.1.2 d hd).2.2.1
  | 4 => (h.2.2.1.2 d hd).2.2.2
  | 5 => b2i_iff (up_rel h.1 h.2.2.1 hd (hi.2.2.2.1 d hd).1 (hi.1.1.2 d hd).2)
  | _ + 6 => rfl
theorem add_lt {a b : Int32} (ha : bnd a) (hb : bnd b) : a + nI 10000 < b + nI 10000 ↔ a < b := by
  have e : ∀ x : Int32, bnd x → (x + nI 10000).toInt = x.toInt + 10000 := fun x h => by
    have h1 := Int32.le_iff_toInt_le.mp h.1
    have h2 := Int32.le_iff_toInt_le.mp h.2
    rw [show (-9999 : Int32).toInt = -9999 by decide +kernel] at h1
    rw [show (nI 9999).toInt = 9999 by decide +kernel] at h2
    rw [Int32.toInt_add, show (nI 10000).toInt = 10000 by decide +kernel, Int.bmod_eq_of_le (by omega) (by omega)]
  rw [Int32.lt_iff_toInt_lt, Int32.lt_iff_toInt_lt, e a ha, e b hb]
  omega
theorem mx_bnd {r : Nat → Int32} : ∀ n, (∀ k, k < n + 1 → bnd (r k)) → bnd (mxF r (n + 1))
  | 0, h => h 0 (by omega)
  | n + 1, h => by
    have i := mx_bnd n (fun k hk => h k (by omega))
    rw [← mxF_next (by omega)]
    unfold imax
    split
    · exact h _ (by omega)
    · exact i
theorem gs_mx {r : Nat → Int32} : ∀ n, (∀ k, k < n + 1 → bnd (r k)) → gsF r (n + 1) = mxF r (n + 1) + nI 10000
  | 0, h => by
    show (if (-6 : Int32) < r 0 + nI 10000 then r 0 + nI 10000 else -6) = r 0 + nI 10000
    have b := h 0 (by omega)
    have h1 := Int32.le_iff_toInt_le.mp b.1
    have h2 := Int32.le_iff_toInt_le.mp b.2
    rw [show (-9999 : Int32).toInt = -9999 by decide +kernel] at h1
    rw [show (nI 9999).toInt = 9999 by decide +kernel] at h2
    rw [if_pos]
    rw [Int32.lt_iff_toInt_lt, Int32.toInt_add, show (nI 10000).toInt = 10000 by decide +kernel, Int.bmod_eq_of_le (by omega) (by omega), show (-6 : Int32).toInt = -6 by decide +kernel]
    omega
  | n + 1, h => by
    have i := gs_mx n (fun k hk => h k (by omega))
    have mb := mx_bnd n (fun k hk => h k (by omega))
    rw [gsF, ← mxF_next (by omega), i]
    unfold imax
    by_cases q : mxF r (n + 1) < r (n + 1)
    · rw [if_pos q, if_pos ((add_lt mb (h _ (by omega))).mpr q)]
    · rw [if_neg q, if_neg (fun e => q ((add_lt mb (h _ (by omega))).mp e))]
theorem gs_congr {r r' : Nat → Int32} : ∀ n, (∀ k, k < n → r k = r' k) → gsF r n = gsF r' n
  | 0, _ => rfl
  | n + 1, h => by rw [gsF, gsF, gs_congr n (fun k hk => h k (by omega)), h n (by omega)]
theorem diff_congr {r r' : Nat → Int32} (h : ∀ k, k < 24 → r k = r' k) {L : Nat} (hL : L ≤ 12) : diffF r L = diffF r' L := sumI_congr (fun k hk => by rw [h k (by omega), h (k + L) (by omega)])
theorem bt_congr {r r' : Nat → Int32} (h : ∀ k, k < 24 → r k = r' k) : ∀ n, n ≤ 9 + 1 → n + 2 ≤ 12 → btF r n = btF r' n
  | 0, _, _ => by rw [btF, btF, diff_congr h (by omega)]
  | n + 1, a, b => by rw [btF, btF, bt_congr h n (by omega) (by omega), diff_congr h (by omega)]
theorem prb_relD {T : TV} {z : Nat → Int32} {p c l : Nat} (n : Nat) : ofpN z p c l (n + 5) = prbQ T p (n + 5) :=
  (show ofpN z p c l (n + 5) = -2 from rfl).trans (show -2 = prbQ T p (n + 5) from rfl)
theorem prb_rel {T : TV} {z : Nat → Int32} (h : Rel T z) (hi : inv T) {p : Nat} (hp : p < T.2 4 2) : ∀ i, ofpN z p (T.2 2 p) (T.2 3 p) i = prbQ T p i
  | 0 => (show ofpN z p (T.2 2 p) (T.2 3 p) 0 = nI (T.2 2 p % 10) from rfl).trans (show nI (T.2 2 p % 10) = prbQ T p 0 from rfl)
  | 1 => (show ofpN z p (T.2 2 p) (T.2 3 p) 1 = nI (T.2 2 p / 10) from rfl).trans (show nI (T.2 2 p / 10) = prbQ T p 1 from rfl)
  | 2 => (h.2.2.2.2 p hp).2.1
  | 3 => by
    have l24 := (hi.1.2.2 p hp).2
    rw [ofpN, prbQ]
    rw [(h.2.2.2.2 p hp).2.1]
    by_cases q : T.2 3 p < 24
    · rw [if_pos q, if_pos ((nI_ltI (by omega) (by omega)).mpr q)]
    · rw [if_neg q, if_neg (fun e => q ((nI_ltI (by omega) (by omega)).mp e)), bt_congr (r := rowM z p) (r' := T.1 (7 + p)) (fun k hk => (h.2.2.2.2 p hp).2.2 k (by omega)) 10 (by omega) (by omega)]
  | 4 => by
    rw [ofpN, prbQ]
    rw [gs_congr (r := rowM z p) (r' := T.1 (7 + p)) _ (fun k hk => (h.2.2.2.2 p hp).2.2 k hk)]
    by_cases q : T.2 3 p = 0
    · rw [if_pos q, q]; rfl
    · rw [if_neg q]
      obtain ⟨n, hn⟩ : ∃ n, T.2 3 p = n + 1 := ⟨T.2 3 p - 1, by omega⟩
      rw [hn]
      exact gs_mx n (fun k hk => hi.2.2.2.2 p hp k (by omega))
  | n + 5 => prb_relD n
theorem cnt_relD {T : TV} {z : Nat → Int32} {hn ty : Nat} (n : Nat) : cntN z hn ty (n + 15) = cntT T hn ty (n + 15) :=
  (show cntN z hn ty (n + 15) = -2 from rfl).trans (show -2 = cntT T hn ty (n + 15) from rfl)
theorem cnt_rel {T : TV} {z : Nat → Int32} (h : Rel T z) (hi : inv T) (hn ty : Nat) : ∀ i, cntN z hn ty i = cntT T hn ty i
  | 0 => h.1.2
  | 1 => open_rel h
  | 2 => stills_rel h
  | 3 => by
    rw [cntN, cntT, sum_rel h]
  | 4 => loud_rel h
  | 5 => gr_rel h hi
  | 6 => reach_rel h
  | 7 => h.2.2.1.1
  | 8 => h.2.2.2.1
  | 9 => h.1.1 0 (by decide)
  | 10 => h.1.1 1 (by decide)
  | 11 => h.1.1 2 (by decide)
  | 12 => h.1.1 3 (by decide)
  | 13 => (show cntN z hn ty 13 = nI ty from rfl).trans (show nI ty = cntT T hn ty 13 from rfl)
  | 14 => (show cntN z hn ty 14 = nI hn from rfl).trans (show nI hn = cntT T hn ty 14 from rfl)
  | n + 15 => cnt_relD n
theorem hat_congr {h h' : Nat → Int32} (e : ∀ j, j < 60 → h j = h' j) (x y : Int32) : heightAtF h x y = heightAtF h' x y := by
  unfold heightAtF
  by_cases q : cellP x y
  · rw [if_pos q, if_pos q]
    obtain ⟨i, j, hi, hj, rfl, rfl⟩ := cellP_nat q
    exact e _ (by rw [ncl, ncl, nI_clamp (by omega), nI_clamp (by omega)]; omega)
  · rw [if_neg q, if_neg q]
theorem cre_rel {T : TV} {z : Nat → Int32} (h : Rel T z) (y : Nat) : ∀ n, creM (shf 65 z) y n = creM (T.1 2) y n
  | 0 => rfl
  | n + 1 => by
    have e := hat_congr (h := shf 65 z) (h' := T.1 2) (fun j hj => h.2.1.2.1 j hj)
    rw [creM, creM, cre_rel h y n]
    refine congrArg (_ + ·) (b2i_iff ?_)
    show (0 < heightAtF _ _ _ ∧ heightAtF _ _ _ < heightAtF _ _ _ ∧ heightAtF _ _ _ < heightAtF _ _ _) ↔ _
    rw [e, e, e]
theorem com_rel {T : TV} {z : Nat → Int32} (h : Rel T z) (hi : inv T) {c : Nat} (hc : c < 60) : ∀ n, comR z (T.2 4 1) (T.2 4 2) c n = comRT T c n
  | 0 => rfl
  | n + 1 => by
    have s := still_rel (run_rel h hi (n + 1)).1.1 hc
    rw [comR, comRT, com_rel h hi hc n]
    by_cases q : comRT T c n = -6
    · rw [if_pos q, if_pos q]
      by_cases v : stillP ((runT T (n + 1)).1 0) ((runT T (n + 1)).1 2) ((runT T (n + 1)).1 3) c
      · rw [if_pos v, if_pos (s.mpr v)]
      · rw [if_neg v, if_neg (fun u => v (s.mp u))]
    · rw [if_neg q, if_neg q]
theorem sh_rel {T : TV} {z : Nat → Int32} (h : Rel T z) (hi : inv T) {d s : Nat} (hd : d < T.2 4 1) (hs : s < T.2 1 d) : Rel (shT T d s) (hushZ z d s) ∧ inv (shT T d s) := by
  have hn5 := hi.1.1.1
  have e : ∀ j, ¬ j = 246 + 4 * d + 3 → hushZ z d s j = z j := fun j hj => updN hj
  refine ⟨⟨⟨fun j hj => by rw [e _ (by omega)]; exact h.1.1 j hj, by rw [e _ (by omega)]; exact h.1.2⟩, ⟨fun j hj => by rw [e _ (by omega)]; exact h.2.1.1 j hj, fun j hj => by rw [e _ (by omega)]; exact h.2.1.2.1 j hj, fun j hj => by rw [e _ (by omega)]; exact h.2.1.2.2.1 j hj, fun j hj => by rw [e _ (by omega)]; exact h.2.1.2.2.2 j hj⟩,
    ⟨by rw [e _ (by omega)]; exact h.2.2.1.1, fun k hk => ?_⟩, ⟨by rw [e _ (by omega)]; exact h.2.2.2.1, fun p hp => ?_⟩⟩, ⟨hi.1, hi.2.1, hi.2.2.1, fun k hk => ?_, fun p hp k hk => by rw [show (shT T d s).1 (7 + p) = T.1 (7 + p) from if_neg (by omega)]; exact hi.2.2.2.2 p hp k hk⟩⟩
  · have a := h.2.2.1.2 k hk
    rw [e _ (by omega), e _ (by omega), e _ (by omega)]
    refine ⟨a.1, a.2.1, a.2.2.1, ?_⟩
    show upd z (246 + 4 * d + 3) (nI s) (246 + 4 * k + 3) = upd (T.1 6) d (nI s) k
    by_cases q : k = d
    · rw [updE (by omega), updE q]
    · rw [updN (by omega), updN q]; exact a.2.2.2
  · have a := h.2.2.2.2 p hp
    rw [e _ (by omega), e _ (by omega)]
    exact ⟨a.1, a.2.1, fun k hk => by rw [e _ (by omega), show (shT T d s).1 (7 + p) = T.1 (7 + p) from if_neg (by omega)]; exact a.2.2 k hk⟩
  · have a := hi.2.2.2.1 k hk
    refine ⟨a.1, ?_, a.2.2.1, a.2.2.2⟩
    show ∃ s', s' < T.2 1 k ∧ upd (T.1 6) d (nI s) k = nI s'
    by_cases q : k = d
    · exact ⟨s, by rw [q]; exact hs, updE q⟩
    · rw [updN q]; exact a.2.1
theorem hushI_rel {T : TV} {z : Nat → Int32} (h : Rel T z) (hi : inv T) {d s c : Nat} (n : Nat) (hd : d < T.2 4 1) (hs : s < T.2 1 d) (hc : c < 60) : hushI z (T.2 4 1) (T.2 4 2) d c n s = hushL T d c n s := by
  obtain ⟨a, b⟩ := sh_rel h hi hd hs
  have r := (run_rel a b n).1.1
  unfold hushI hushL
  exact congrArg iabs (r.2.1.2.1 c hc)
theorem hushQ_fst {T : TV} {d c n : Nat} : ∀ s, ∃ k, k ≤ s ∧ (hushQ T d c n s).1 = nI k
  | 0 => ⟨0, Nat.le_refl _, rfl⟩
  | s + 1 => by
    obtain ⟨k, hk, e⟩ := hushQ_fst (T := T) (d := d) (c := c) (n := n) s
    rw [hushQ]
    split
    · exact ⟨s + 1, Nat.le_refl _, rfl⟩
    · exact ⟨k, by omega, e⟩
theorem hush_rel {T : TV} {z : Nat → Int32} (h : Rel T z) (hi : inv T) {d c : Nat} (n : Nat) (hd : d < T.2 4 1) (hc : c < 60) : ∀ s, s < T.2 1 d → hushR z (T.2 4 1) (T.2 4 2) d c n (s + 1) = hushQ T d c n s
  | 0, hs => by
    rw [hushR, hushQ, hushI_rel h hi n hd hs hc]
    have h0 : (hushR z (T.2 4 1) (T.2 4 2) d c n 0).1 = -6 := rfl
    rw [if_pos (Or.inl h0), if_pos (Or.inl h0)]
  | s + 1, hs => by
    have ih := hush_rel h hi n hd hc s (by omega)
    rw [hushR, hushQ, ih, hushI_rel h hi n hd hs hc]
    have h6 : ¬ (hushQ T d c n s).1 = -6 := by
      obtain ⟨k, hk, e⟩ := hushQ_fst (T := T) (d := d) (c := c) (n := n) s
      have p40 := (hi.1.1.2 d hd).2
      rw [e]
      exact nI_ne6 (by omega)
    by_cases q : hushL T d c n (s + 1) < (hushQ T d c n s).2
    · rw [if_pos (Or.inr q), if_pos (Or.inr q), if_pos q]
    · rw [if_neg (fun z => z.elim h6 q), if_neg (fun z => z.elim h6 q), if_neg q]
