/-! Worlds in segments: a list of worlds, each apart from the others; a call takes whole segments, or a part of one. -/
theorem va_P_mem {D : va_G} {cl : List vw_C} {ws : va_W} {H : Heap} : va_P D cl ws H ↔ ∀ q ∈ ws, va_at D cl q H :=
  ⟨fun h q hq => by obtain ⟨k, hk⟩ := List.getElem?_of_mem hq; exact h k q hk, fun h k q hk => h q (List.mem_of_getElem? hk)⟩
theorem va_D_pw {A : Nat → Prop} {ws : va_W} : va_D A ws ↔ ws.Pairwise (fun p q => p.1 ≠ q.1) ∧ ∀ q ∈ ws, A q.1 := by
  constructor
  · intro h
    refine ⟨List.pairwise_iff_getElem.mpr (fun i j hi hj hij he => ?_), fun q hq => ?_⟩
    · have := h.1 i j _ _ (List.getElem?_eq_getElem hi) (List.getElem?_eq_getElem hj) he
      omega
    · obtain ⟨k, hk⟩ := List.getElem?_of_mem hq
      exact h.2 k q hk
  · intro h
    refine ⟨fun i j p q hi hj he => ?_, fun k q hk => h.2 q (List.mem_of_getElem? hk)⟩
    obtain ⟨hi1, hi2⟩ := List.getElem?_eq_some_iff.mp hi
    obtain ⟨hj1, hj2⟩ := List.getElem?_eq_some_iff.mp hj
    rcases Nat.lt_trichotomy i j with q1 | q1 | q1
    · exact absurd (by rw [hi2, hj2]; exact he) (List.pairwise_iff_getElem.mp h.1 i j hi1 hj1 q1)
    · exact q1
    · exact absurd (by rw [hi2, hj2]; exact he.symm) (List.pairwise_iff_getElem.mp h.1 j i hj1 hi1 q1)
def apartS (v w : va_W) : Prop := ∀ x ∈ v, ∀ y ∈ w, x.1 ≠ y.1
theorem va_D_flat {A : Nat → Prop} {segs : List va_W} (h1 : ∀ w ∈ segs, va_D A w) (h2 : segs.Pairwise apartS) : va_D A segs.flatten := by
  refine va_D_pw.mpr ⟨List.pairwise_flatten.mpr ⟨fun w hw => (va_D_pw.mp (h1 w hw)).1, h2⟩, fun q hq => ?_⟩
  obtain ⟨w, hw, hq⟩ := List.mem_flatten.mp hq
  exact (va_D_pw.mp (h1 w hw)).2 q hq
theorem va_D_unflat {A : Nat → Prop} {segs : List va_W} (h : va_D A segs.flatten) : (∀ w ∈ segs, va_D A w) ∧ segs.Pairwise apartS := by
  obtain ⟨h1, h2⟩ := va_D_pw.mp h
  obtain ⟨h3, h4⟩ := List.pairwise_flatten.mp h1
  exact ⟨fun w hw => va_D_pw.mpr ⟨h3 w hw, fun q hq => h2 q (List.mem_flatten.mpr ⟨w, hw, hq⟩)⟩, h4⟩
theorem va_A_mem {ws : va_W} {sz q : Nat} : va_A ws sz q ↔ (∃ e : va_E, (q, e) ∈ ws) ∨ sz ≤ q := by
  constructor
  · rintro (⟨k, e, h⟩ | h)
    · exact Or.inl ⟨e, List.mem_of_getElem? h⟩
    · exact Or.inr h
  · rintro (⟨e, h⟩ | h)
    · obtain ⟨k, hk⟩ := List.getElem?_of_mem h
      exact Or.inl ⟨k, e, hk⟩
    · exact Or.inr h
def wldS (G : va_G) (A : Nat → Prop) (segs : List va_W) (H0 H : Heap) (locs : List Loc) : Prop :=
  (∀ (k : Nat) (w : va_W), segs[k]? = some w → va_P G vwCl w H ∧ va_D A w) ∧ (∀ (i j : Nat) (v w : va_W), segs[i]? = some v → segs[j]? = some w → i ≠ j → apartS v w) ∧ va_S A H0 H locs
theorem wldS.at {G : va_G} {A : Nat → Prop} {segs : List va_W} {H0 H : Heap} {locs : List Loc} (h : wldS G A segs H0 H locs) (k : Nat) {w : va_W} (hk : segs[k]? = some w) : wld G A w H0 H locs := ⟨(h.1 k w hk).1, (h.1 k w hk).2, h.2.2⟩
theorem wldS.hP {G : va_G} {A : Nat → Prop} {segs : List va_W} {H0 H : Heap} {locs : List Loc} (h : wldS G A segs H0 H locs) (k : Nat) {w : va_W} (hk : segs[k]? = some w) : va_P G vwCl w H := (h.1 k w hk).1
theorem apartS.symm {v w : va_W} (h : apartS v w) : apartS w v := fun x hx y hy e => h y hy x hx e.symm
theorem wldS.of {G : va_G} {A : Nat → Prop} {segs : List va_W} {H0 H : Heap} {locs : List Loc} (h : wld G A segs.flatten H0 H locs) : wldS G A segs H0 H locs := by
  obtain ⟨hP, hD, hS⟩ := h
  obtain ⟨h1, h2⟩ := va_D_unflat hD
  refine ⟨fun k w hk => ⟨va_P_mem.mpr fun q hq => va_P_mem.mp hP q (List.mem_flatten.mpr ⟨w, List.mem_of_getElem? hk, hq⟩), h1 w (List.mem_of_getElem? hk)⟩, fun i j v w hi hj hij => ?_, hS⟩
  obtain ⟨hi1, hi2⟩ := List.getElem?_eq_some_iff.mp hi
  obtain ⟨hj1, hj2⟩ := List.getElem?_eq_some_iff.mp hj
  subst hi2
  subst hj2
  rcases Nat.lt_or_gt_of_ne hij with q | q
  · exact List.pairwise_iff_getElem.mp h2 i j hi1 hj1 q
  · exact (List.pairwise_iff_getElem.mp h2 j i hj1 hi1 q).symm
theorem wldS.flat {G : va_G} {A : Nat → Prop} {segs : List va_W} {H0 H : Heap} {locs : List Loc} (h : wldS G A segs H0 H locs) : wld G A segs.flatten H0 H locs := by
  refine ⟨va_P_mem.mpr fun q hq => ?_, va_D_flat (fun w hw => ?_) (List.pairwise_iff_getElem.mpr fun i j hi hj hij => ?_), h.2.2⟩
  · obtain ⟨w, hw, hq⟩ := List.mem_flatten.mp hq
    obtain ⟨k, hk⟩ := List.getElem?_of_mem hw
    exact va_P_mem.mp (h.1 k w hk).1 q hq
  · obtain ⟨k, hk⟩ := List.getElem?_of_mem hw
    exact (h.1 k w hk).2
  · exact h.2.1 i j _ _ (List.getElem?_eq_getElem hi) (List.getElem?_eq_getElem hj) (by omega)
/-- segments taken out by their places -/
theorem wldS.sub {G : va_G} {A : Nat → Prop} {segs wc : List va_W} {H0 H : Heap} {locs : List Loc} (h : wldS G A segs H0 H locs) (pl : List Nat) (hn : va_nd pl = true) (hC : pl.map (fun i => segs[i]?) = wc.map some) : wldS G A wc H0 H locs := by
  have key : ∀ (k : Nat) (w : va_W), wc[k]? = some w → ∃ i, pl[k]? = some i ∧ segs[i]? = some w := by
    intro k w hk
    have h1 : (pl.map (fun i => segs[i]?))[k]? = some (some w) := by rw [hC, List.getElem?_map, hk]; rfl
    rw [List.getElem?_map] at h1
    cases hi : pl[k]? with
    | none => rw [hi] at h1; cases h1
    | some i => rw [hi] at h1; exact ⟨i, rfl, Option.some.inj h1⟩
  refine ⟨fun k w hk => ?_, fun i j v w hi hj hij => ?_, h.2.2⟩
  · obtain ⟨i, -, h2⟩ := key k w hk
    exact h.1 i w h2
  · obtain ⟨a, a1, a2⟩ := key i v hi
    obtain ⟨b, b1, b2⟩ := key j w hj
    exact h.2.1 a b v w a2 b2 (fun z => hij (va_nd_inj pl hn i j a a1 (by rw [b1, z])))
/-- places of a list, written over -/
def putL {α : Type} : List α → List Nat → List α → List α
  | ws, i :: is, e :: es => putL (ws.set i e) is es
  | ws, _, _ => ws
theorem putL_key {α : Type} : ∀ (pl : List Nat) (w1 ws : List α), pl.length = w1.length → ∀ (k : Nat) (q : α), (putL ws pl w1)[k]? = some q → (∃ j : Nat, pl[j]? = some k ∧ w1[j]? = some q) ∨ (k ∉ pl ∧ ws[k]? = some q)
  | [], w1, ws, hlen, k, q, h => Or.inr ⟨List.not_mem_nil, by cases w1 <;> exact h⟩
  | i :: is, [], ws, hlen, k, q, h => by cases hlen
  | i :: is, e :: es, ws, hlen, k, q, h => by
    rcases putL_key is es (ws.set i e) (Nat.succ.inj hlen) k q h with ⟨j, h1, h2⟩ | ⟨h1, h2⟩
    · exact Or.inl ⟨j + 1, h1, h2⟩
    · by_cases hk : k = i
      · subst hk
        have hl := (List.getElem?_eq_some_iff.mp h2).1
        rw [List.length_set] at hl
        rw [List.getElem?_set_self hl] at h2
        exact Or.inl ⟨0, rfl, h2⟩
      · rw [List.getElem?_set_ne (Ne.symm hk)] at h2
        refine Or.inr ⟨fun hm => ?_, h2⟩
        rcases List.mem_cons.mp hm with z | z
        · exact hk z
        · exact h1 z
theorem wldS_join {G : va_G} {A0 : Nat → Prop} {segs wc w1 segs' : List va_W} {H0 H H1 : Heap} {locs locs1 : List Loc} (hW : wldS G A0 segs H0 H locs) (pl : List Nat) (hC : pl.map (fun i => segs[i]?) = wc.map some) (hlen : pl.length = w1.length) (hput : putL segs pl w1 = segs')
    (hk : ∀ q : Nat, q < H.size → ¬ va_A wc.flatten H.size q → H1[q]? = H[q]?) (hF : ∀ q, va_A wc.flatten H.size q → A0 q) (hP1 : va_P G vwCl w1.flatten H1) (hD1 : va_D (va_A wc.flatten H.size) w1.flatten) (hS : va_S A0 H0 H1 locs1) : wldS G A0 segs' H0 H1 locs1 := by
  subst hput
  obtain ⟨hD2, hD3⟩ := va_D_unflat hD1
  have inC : ∀ (k : Nat) (w : va_W), wc[k]? = some w → ∃ i, pl[k]? = some i ∧ segs[i]? = some w := by
    intro k w hk
    have h1 : (pl.map (fun i => segs[i]?))[k]? = some (some w) := by rw [hC, List.getElem?_map, hk]; rfl
    rw [List.getElem?_map] at h1
    cases hi : pl[k]? with
    | none => rw [hi] at h1; cases h1
    | some i => rw [hi] at h1; exact ⟨i, rfl, Option.some.inj h1⟩
  have apart : ∀ (k : Nat) (w : va_W), k ∉ pl → segs[k]? = some w → ∀ x ∈ w, x.1 < H.size ∧ ¬ va_A wc.flatten H.size x.1 := by
    intro k w hkp hw x hx
    obtain ⟨kx, hkx⟩ := List.getElem?_of_mem hx
    have hl := ((hW.1 k w hw).1 kx x hkx).lt
    refine ⟨hl, fun h => ?_⟩
    rcases va_A_mem.mp h with ⟨e, h⟩ | h
    · obtain ⟨v, hv, hx2⟩ := List.mem_flatten.mp h
      obtain ⟨j, hj⟩ := List.getElem?_of_mem hv
      obtain ⟨i, h1, h2⟩ := inC j v hj
      exact hW.2.1 k i w v hw h2 (fun z => hkp (z ▸ List.mem_of_getElem? h1)) x hx _ hx2 rfl
    · omega
  refine ⟨fun k w hw => ?_, fun i j v w hi hj hij => ?_, hS⟩
  · rcases putL_key pl w1 segs hlen k w hw with ⟨j, -, h2⟩ | ⟨h1, h2⟩
    · have hm := List.mem_of_getElem? h2
      exact ⟨va_P_mem.mpr fun q hq => va_P_mem.mp hP1 q (List.mem_flatten.mpr ⟨w, hm, hq⟩), (hD2 w hm).weaken (fun _ q _ h => hF q.1 h)⟩
    · refine ⟨(hW.1 k w h2).1.kept (fun n q hq => ?_), (hW.1 k w h2).2⟩
      obtain ⟨g1, g2⟩ := apart k w h1 h2 q (List.mem_of_getElem? hq)
      exact hk q.1 g1 g2
  · have new : ∀ (n : Nat) (u : va_W), w1[n]? = some u → ∀ y ∈ u, va_A wc.flatten H.size y.1 := by
      intro n u hu y hy
      obtain ⟨ky, hky⟩ := List.getElem?_of_mem hy
      exact (hD2 u (List.mem_of_getElem? hu)).2 ky y hky
    rcases putL_key pl w1 segs hlen i v hi with ⟨a, a1, a2⟩ | ⟨a1, a2⟩ <;> rcases putL_key pl w1 segs hlen j w hj with ⟨b, b1, b2⟩ | ⟨b1, b2⟩
    · have hab : a ≠ b := fun z => hij (by subst z; exact Option.some.inj (a1.symm.trans b1))
      obtain ⟨ha1, ha2⟩ := List.getElem?_eq_some_iff.mp a2
      obtain ⟨hb1, hb2⟩ := List.getElem?_eq_some_iff.mp b2
      subst ha2
      subst hb2
      rcases Nat.lt_or_gt_of_ne hab with q | q
      · exact List.pairwise_iff_getElem.mp hD3 a b ha1 hb1 q
      · exact (List.pairwise_iff_getElem.mp hD3 b a hb1 ha1 q).symm
    · intro x hx y hy e
      exact (apart j w b1 b2 y hy).2 (e ▸ new a v a2 x hx)
    · intro x hx y hy e
      exact (apart i v a1 a2 x hx).2 (e ▸ new b w b2 y hy)
    · exact hW.2.1 i j v w a2 b2 hij
/-- a call that takes a part of one segment -/
theorem wldS_part {G : va_G} {A0 : Nat → Prop} {segs segs' : List va_W} {w wc w1 w' : va_W} {H0 H H1 : Heap} {locs locs1 : List Loc} (hW : wldS G A0 segs H0 H locs) (k0 : Nat) (hk0 : segs[k0]? = some w) (pl : List Nat) (hC : pl.map (fun i => w[i]?) = wc.map some) (hlen : pl.length = w1.length) (hput : putW w pl w1 = w') (hset : segs.set k0 w' = segs')
    (hk : ∀ q : Nat, q < H.size → ¬ va_A wc H.size q → H1[q]? = H[q]?) (hF : ∀ q, va_A wc H.size q → A0 q) (hP1 : va_P G vwCl w1 H1) (hD1 : va_D (va_A wc H.size) w1) (hS : va_S A0 H0 H1 locs1) : wldS G A0 segs' H0 H1 locs1 := by
  have h1 : wld G A0 w' H0 H1 locs1 := wld_join (hW.at k0 hk0) pl hC hlen hput hk hF hP1 hD1 hS
  have inC : ∀ (q : Nat) (e : va_E), (q, e) ∈ wc → ∃ e' : va_E, (q, e') ∈ w := by
    intro q e h
    obtain ⟨k, hk⟩ := List.getElem?_of_mem h
    have h1 : (pl.map (fun i => w[i]?))[k]? = some (some (q, e)) := by rw [hC, List.getElem?_map, hk]; rfl
    rw [List.getElem?_map] at h1
    cases hi : pl[k]? with
    | none => rw [hi] at h1; cases h1
    | some i => rw [hi] at h1; exact ⟨e, List.mem_of_getElem? (Option.some.inj h1)⟩
  have hin : ∀ x ∈ w', (∃ e : va_E, (x.1, e) ∈ w) ∨ H.size ≤ x.1 := by
    intro x hx
    subst hput
    obtain ⟨k, hk⟩ := List.getElem?_of_mem hx
    rcases putW_key pl w1 w hlen k x hk with ⟨j, -, h2⟩ | ⟨-, h2⟩
    · rcases va_A_mem.mp (hD1.2 j x h2) with ⟨e, h3⟩ | h3
      · exact Or.inl (inC _ e h3)
      · exact Or.inr h3
    · exact Or.inl ⟨x.2, List.mem_of_getElem? h2⟩
  have hlt : ∀ (k : Nat) (v : va_W), segs[k]? = some v → ∀ x ∈ v, x.1 < H.size := by
    intro k v hv x hx
    obtain ⟨kx, hkx⟩ := List.getElem?_of_mem hx
    exact ((hW.1 k v hv).1 kx x hkx).lt
  have ap : ∀ (k : Nat) (v : va_W), k ≠ k0 → segs[k]? = some v → apartS w' v := by
    intro k v hne hv x hx y hy e
    rcases hin x hx with ⟨e1, h3⟩ | h3
    · exact hW.2.1 k0 k w v hk0 hv (Ne.symm hne) _ h3 y hy e
    · have := hlt k v hv y hy
      omega
  have hl0 : k0 < segs.length := (List.getElem?_eq_some_iff.mp hk0).1
  subst hset
  refine ⟨fun k v hv => ?_, fun i j u v hi hj hij => ?_, hS⟩
  · by_cases h : k = k0
    · subst h
      rw [List.getElem?_set_self hl0] at hv
      cases hv
      exact ⟨h1.1, h1.2.1⟩
    · rw [List.getElem?_set_ne (Ne.symm h)] at hv
      refine ⟨(hW.1 k v hv).1.kept (fun n q hq => hk q.1 (hlt k v hv q (List.mem_of_getElem? hq)) (fun z => ?_)), (hW.1 k v hv).2⟩
      rcases va_A_mem.mp z with ⟨e, h3⟩ | h3
      · obtain ⟨e', h4⟩ := inC _ e h3
        exact hW.2.1 k0 k w v hk0 hv (Ne.symm h) _ h4 q (List.mem_of_getElem? hq) rfl
      · have := hlt k v hv q (List.mem_of_getElem? hq)
        omega
  · by_cases h1 : i = k0 <;> by_cases h2 : j = k0
    · exact absurd (h1.trans h2.symm) hij
    · subst h1
      rw [List.getElem?_set_self hl0] at hi
      cases hi
      rw [List.getElem?_set_ne (Ne.symm h2)] at hj
      exact ap j v h2 hj
    · subst h2
      rw [List.getElem?_set_self hl0] at hj
      cases hj
      rw [List.getElem?_set_ne (Ne.symm h1)] at hi
      exact (ap i u h1 hi).symm
    · rw [List.getElem?_set_ne (Ne.symm h1)] at hi
      rw [List.getElem?_set_ne (Ne.symm h2)] at hj
      exact hW.2.1 i j u v hi hj hij
/-- one cell of one segment is written over -/
theorem wldS_cell {G : va_G} {A0 : Nat → Prop} {segs segs' : List va_W} {w w' : va_W} {H0 H H1 : Heap} {locs locs1 : List Loc} {a : Nat} {c c' : va_E} (hW : wldS G A0 segs H0 H locs) (k0 : Nat) (hk0 : segs[k0]? = some w) (q0 : Nat) (hq : w[q0]? = some (a, c)) (hs : w.set q0 (a, c') = w') (hset : segs.set k0 w' = segs') (hP1 : va_P G vwCl w' H1) (hk : ∀ q : Nat, q ≠ a → H1[q]? = H[q]?) (hz : H.size ≤ H1.size) (hS : va_S A0 H0 H1 locs1) : wldS G A0 segs' H0 H1 locs1 := by
  subst hs
  have hA : ∀ q, va_A [(a, c)] H.size q → A0 q ∨ H.size ≤ q := by
    intro q h
    rcases va_A_mem.mp h with ⟨e, h⟩ | h
    · rw [List.mem_singleton] at h
      cases h
      exact Or.inl ((hW.1 k0 w hk0).2.2 q0 _ hq)
    · exact Or.inr h
  have hl : q0 < w.length := (List.getElem?_eq_some_iff.mp hq).1
  have hlt : ∀ (k : Nat) (v : va_W), segs[k]? = some v → ∀ x ∈ v, x.1 < H.size := by
    intro k v hv x hx
    obtain ⟨kx, hkx⟩ := List.getElem?_of_mem hx
    exact ((hW.1 k v hv).1 kx x hkx).lt
  have hin : ∀ x ∈ w.set q0 (a, c'), ∃ e : va_E, (x.1, e) ∈ w := by
    intro x hx
    obtain ⟨k, hk⟩ := List.getElem?_of_mem hx
    by_cases h : k = q0
    · subst h
      rw [List.getElem?_set_self hl] at hk
      cases hk
      exact ⟨c, List.mem_of_getElem? hq⟩
    · rw [List.getElem?_set_ne (Ne.symm h)] at hk
      exact ⟨x.2, List.mem_of_getElem? hk⟩
  have hl0 : k0 < segs.length := (List.getElem?_eq_some_iff.mp hk0).1
  have ap : ∀ (k : Nat) (v : va_W), k ≠ k0 → segs[k]? = some v → apartS (w.set q0 (a, c')) v := by
    intro k v hne hv x hx y hy e
    obtain ⟨e1, h3⟩ := hin x hx
    exact hW.2.1 k0 k w v hk0 hv (Ne.symm hne) _ h3 y hy e
  subst hset
  refine ⟨fun k v hv => ?_, fun i j u v hi hj hij => ?_, hS⟩
  · by_cases h : k = k0
    · subst h
      rw [List.getElem?_set_self hl0] at hv
      cases hv
      exact ⟨hP1, (hW.1 k w hk0).2.set hq⟩
    · rw [List.getElem?_set_ne (Ne.symm h)] at hv
      refine ⟨(hW.1 k v hv).1.kept (fun n q hq2 => hk q.1 (fun z => ?_)), (hW.1 k v hv).2⟩
      exact hW.2.1 k0 k w v hk0 hv (Ne.symm h) _ (List.mem_of_getElem? hq) q (List.mem_of_getElem? hq2) z.symm
  · by_cases h1 : i = k0 <;> by_cases h2 : j = k0
    · exact absurd (h1.trans h2.symm) hij
    · subst h1
      rw [List.getElem?_set_self hl0] at hi
      cases hi
      rw [List.getElem?_set_ne (Ne.symm h2)] at hj
      exact ap j v h2 hj
    · subst h2
      rw [List.getElem?_set_self hl0] at hj
      cases hj
      rw [List.getElem?_set_ne (Ne.symm h1)] at hi
      exact (ap i u h1 hi).symm
    · rw [List.getElem?_set_ne (Ne.symm h1)] at hi
      rw [List.getElem?_set_ne (Ne.symm h2)] at hj
      exact hW.2.1 i j u v hi hj hij
