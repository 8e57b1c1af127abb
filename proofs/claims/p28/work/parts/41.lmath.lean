/-! The script, static calls with a world, and what the law's checks compare. -/
def SX (b L : Nat) (xs : Nat → Int32) (U : State) : Prop := va_X b L xs U U.heap ∧ b < U.heap.size
theorem SX_blind (b L : Nat) (xs : Nat → Int32) : blindB (SX b L xs) := fun U g mk a h => ⟨va_X.moved (u := U) (U := U.calling g mk a) (Vm.Alike.refl U.vm) h.1, h.2⟩
theorem SX.use {b L : Nat} {xs : Nat → Int32} {A : Nat → Prop} {s U : State} {H : Heap} {locs : List Loc} (hX : va_X b L xs s s.heap) (hbl : b < s.heap.size) (hbA : ¬ A b) (hS : va_S A s.heap H locs) (hU : U.heap = H) (hW : s.WarmedH U.vm) : SX b L xs U :=
  ⟨by rw [hU]; exact va_X.moved hW.alike (hX.kept (hS.2.1 b hbl hbA)), by rw [hU]; exact Nat.lt_of_lt_of_le hbl hS.1⟩
def cellF (xs : Nat → Int32) (L k : Nat) : Int32 := if k < L then xs k else nI (32452867 * k + 15485863)
section ROWSG
variable {p : Program} {l : Launch} {e : Env} {R : Room} {s : State} {m : MethodId} {args : Array Value} {below : List Frame} {meth : Method} {c : Code} {H : Heap} {locs : List Loc} {cells slots : Nat} {Q : State → Prop}
variable {cc : ByteArray} {pc nL : Nat} {ls : Array Slot} {rest : List Value} {G : va_G} {cA : Nat → ClassId} {A : Nat → Prop} {H0 : Heap} {Ts : List Cond} {own : String}
/-- a static call that reads, the callee's world given -/
theorem roSg {B : State → Prop} {y : MethodName} {bytes : ByteArray} {maxL n index : Nat} {ret : Option FieldType} {wy : List Cond} {rm : Room} {As rest st0 : List Value} {wc : va_W} {v : Int32} (CX : CallFix p m c cc nL s args Ts own) (hE : EK G cA s) (hPc : va_P G vwCl wc H) (hM : RO l y wy rm G cA B wc As v) (cw : CallB R s args own index y bytes maxL ret wy rm 0 0 n ∧ (Cond.static y).before args s = true) (hBb : blindB B) (hB : ∀ U : State, U.heap = H → s.WarmedH U.vm → B U) (hn : As.length = n) (hls : ls.size = nL) (hst : st0 = As.reverse ++ rest) (hroom : (rest.map fun v => v.category).sum ≤ 8) (hdg : decode cc pc = .ok (.invokestatic index, 3)) (hcs : cells ≤ R.cells ∧ slots ≤ R.slots)
    (kk : W p l e R s m args below meth c H locs cells slots Q (F0 m (pc + 3) ls (.int v :: rest))) : W p l e R s m args below meth c H locs cells slots Q (F0 m pc ls st0) :=
  vp_callSi (va_runS CX hM cw ⟨fun _ U g mk q => ⟨q.1, q.2.1, q.2.2.1.calling, hBb U g mk _ q.2.2.2⟩, fun U hU hW => ⟨rfl, by rw [hU]; exact hPc, hE.warm hW, hB U hU hW⟩⟩ rfl hn hls hst (lv_room (ls := ls) hroom) hdg hcs).run (fun r hr => hr ▸ kk)
/-- a static call that writes one whole segment and makes cells that nobody keeps -/
theorem mgSP {y : MethodName} {bytes : ByteArray} {maxL n index mc ms : Nat} {ret : Option FieldType} {wy : List Cond} {rm : Room} {As rest st0 : List Value} {w w1 : va_W} {segs segs' : List va_W} (CX : CallFix p m c cc nL s args Ts own) (hE : EK G cA s) (hW : wldS G A segs H0 H locs) (hA : ∀ q, H0.size ≤ q → A q) (hM : MK l y wy rm G cA BM0 w As (fun _ => w1) mc ms) (cw : CallB R s args own index y bytes maxL ret wy rm mc ms n ∧ (Cond.static y).before args s = true) (k0 : Nat) (hk0 : segs[k0]? = some w) (hlen : w.length = w1.length) (hput : putW w (List.range w.length) w1 = w1) (hset : segs.set k0 w1 = segs') (hn : As.length = n) (hls : ls.size = nL) (hst : st0 = As.reverse ++ rest) (hroom : (rest.map fun v => v.category).sum ≤ 8) (hdg : decode cc pc = .ok (.invokestatic index, 3)) (hcs : cells + mc ≤ R.cells ∧ slots + ms ≤ R.slots)
    (kk : ∀ (H1 : Heap) (locs1 : List Loc), wldS G A segs' H0 H1 locs1 → W p l e R s m args below meth c H1 locs1 (cells + mc) (slots + ms) Q (F0 m (pc + 3) ls rest)) : W p l e R s m args below meth c H locs cells slots Q (F0 m pc ls st0) := by
  have hC : (List.range w.length).map (fun i => w[i]?) = w.map some := by
    have h := range_map w ([] : va_W)
    rw [List.append_nil] at h
    exact h
  have hF := wld_free (hW.at k0 hk0) hA (List.range w.length) hC
  refine va_callv (va_runS CX (hM H.size) cw ⟨fun _ U g mk q => ⟨q.1, q.2.1, q.2.2.1, q.2.2.2.1, q.2.2.2.2.1.calling, trivial⟩, fun U hU hWm => ⟨rfl, by rw [hU], by rw [hU]; exact hW.hP k0 hk0, (hW.at k0 hk0).2.1.weaken (fun _ _ _ _ => trivial), hE.warm hWm, trivial⟩⟩ rfl hn hls hst (lv_room (ls := ls) hroom) hdg hcs) hW.2.2 (fun q _ h => hF q h) hF (fun u t H1 locs1 ht hvm hw hB hz1 hk1 hS => ?_)
  obtain ⟨hP1, hD1⟩ := hB
  rw [ht] at hP1
  exact kk H1 locs1 (wldS_part hW k0 hk0 (List.range w.length) hC (by rw [List.length_range]; exact hlen) hput hset hk1 hF hP1 hD1 hS)
end ROWSG
theorem cel_at {T : TV} {i k : Nat} {w : Int32} (hw : tsel w 6 = k) : celT T (i / 10 * 10 + i % 10) (tsel w 6) = celT T i k := by
  rw [hw, show i / 10 * 10 + i % 10 = i by omega]
theorem cnt_at {T : TV} {hn ty k : Nat} {w : Int32} (hw : tsel w 14 = k) : cntT T hn ty (tsel w 14) = cntT T hn ty k := by rw [hw]
theorem prb_at {T : TV} {p k : Nat} {w : Int32} (hw : tsel w 4 = k) : prbQ T p (tsel w 4) = prbQ T p k := by rw [hw]
theorem iabs_0 : iabs (nI 0) = nI 0 := by decide +kernel
theorem stl_wall {T : TV} (hi : inv T) {i : Nat} (hc : i < 60) : (T.1 1 i = nI 2 ∨ stillP (tF T) (T.1 2) (T.1 3) i) ↔ stillP (T.1 0) (T.1 2) (T.1 3) i := by
  constructor
  · rintro (h | h)
    · obtain ⟨a, b⟩ := (hi.2.2.1 i hc).2.2 h
      have s : nI 0 ≤ T.1 0 3 := (hi.2.1 3 (by decide)).1
      show iabs (T.1 2 i) ≤ T.1 0 3 ∧ iabs (T.1 3 i) ≤ T.1 0 3
      rw [a, b, iabs_0]
      exact ⟨s, s⟩
    · exact h
  · exact Or.inr
theorem st_cnt {T : TV} : sumI 60 (fun j => if ¬ T.1 1 j = nI 2 ∧ stillP (T.1 0) (T.1 2) (T.1 3) j then nI 1 else nI 0) = openF (T.1 1) - restF (T.1 0) (T.1 1) (T.1 2) (T.1 3) := by
  refine Eq.symm (sum_sub (fun j hj => ?_))
  by_cases w : T.1 1 j = nI 2
  · rw [if_pos w, if_pos w, if_neg (fun q => q.1 w)]; decide +kernel
  · rw [if_neg w, if_neg w]
    by_cases s : stillP (T.1 0) (T.1 2) (T.1 3) j
    · rw [if_pos s, if_pos ⟨w, s⟩]; decide +kernel
    · rw [if_neg s, if_neg (fun q => s q.2)]; decide +kernel
/-- the law's own count of restless cells -/
theorem rest_cnt {T : TV} (hi : inv T) : sumI 60 (fun j => if stillP (T.1 0) (T.1 2) (T.1 3) j then nI 0 else nI 1) = restF (T.1 0) (T.1 1) (T.1 2) (T.1 3) := by
  unfold restF
  refine sumI_congr (fun j hj => ?_)
  by_cases w : T.1 1 j = nI 2
  · rw [if_pos w, if_pos ((stl_wall hi hj).mp (Or.inl w))]
  · rw [if_neg w]
/-- the loudest cell as the law finds it -/
def loI (h : Nat → Int32) : Nat → Int32
  | 0 => -1
  | n + 1 => if grF h n < iabs (h n) then nI n else loI h n
theorem lo_ld {h : Nat → Int32} : ∀ n, (∀ j, j < n + 1 → 0 ≤ iabs (h j)) → loI h (n + 1) = if iabs (h (ldF h (n + 1))) = nI 0 then -1 else nI (ldF h (n + 1))
  | 0, hab => by
    have h0 := hab 0 (by omega)
    rw [ldF_1]
    show (if (nI 0 : Int32) < iabs (h 0) then nI 0 else -1) = _
    by_cases q : iabs (h 0) = nI 0
    · rw [if_pos q, if_neg (by rw [q]; exact Int32.lt_irrefl)]
    · rw [if_neg q, if_pos (show nI 0 < iabs (h 0) from Int32.lt_of_le_of_ne h0 (fun z => q z.symm))]
  | n + 1, hab => by
    have ih := lo_ld n (fun j hj => hab j (by omega))
    have g := gr_ld n (fun j hj => hab j (by omega))
    rw [loI, g, ih]
    show _ = if iabs (h (if iabs (h (ldF h (n + 1))) < iabs (h (n + 1)) then n + 1 else ldF h (n + 1))) = nI 0 then -1 else nI (if iabs (h (ldF h (n + 1))) < iabs (h (n + 1)) then n + 1 else ldF h (n + 1))
    by_cases q : iabs (h (ldF h (n + 1))) < iabs (h (n + 1))
    · rw [if_pos q, if_pos q, if_neg (fun z => by
        rw [z] at q
        exact absurd (hab _ (Nat.lt_succ_of_lt (ldF_lt n))) (Int32.not_le.mpr q))]
    · rw [if_neg q, if_neg q]
theorem lo_no {h : Nat → Int32} {w u : Int32} (hw : w = if iabs (h (ldF h 60)) = nI 0 then -1 else nI (ldF h 60)) (c : ¬ 0 ≤ w) : -6 = louF h u := by
  have l : ldF h 60 < 60 := ldF_lt 59
  unfold louF
  by_cases q : iabs (h (ldF h 60)) = nI 0
  · rw [if_pos q]
  · rw [if_neg q] at hw
    exact absurd (by rw [hw]; exact nI_pos' (by omega)) c
theorem lo_r0 {h : Nat → Int32} {w : Int32} (hw : w = if iabs (h (ldF h 60)) = nI 0 then -1 else nI (ldF h 60)) (c : 0 ≤ w) : w - w / nI 10 * nI 10 = louF h (nI 0) := by
  have l : ldF h 60 < 60 := ldF_lt 59
  unfold louF
  by_cases q : iabs (h (ldF h 60)) = nI 0
  · rw [if_pos q] at hw
    rw [hw] at c
    exact absurd c (by decide +kernel)
  · rw [if_neg q] at hw
    rw [if_neg q, if_pos rfl, hw, pk_rem (by omega) (by omega) (by omega)]
theorem lo_r1 {h : Nat → Int32} {w : Int32} (hw : w = if iabs (h (ldF h 60)) = nI 0 then -1 else nI (ldF h 60)) (c : 0 ≤ w) : w / nI 10 = louF h (nI 1) := by
  have l : ldF h 60 < 60 := ldF_lt 59
  unfold louF
  by_cases q : iabs (h (ldF h 60)) = nI 0
  · rw [if_pos q] at hw
    rw [hw] at c
    exact absurd c (by decide +kernel)
  · rw [if_neg q] at hw
    rw [if_neg q, if_neg (by decide +kernel), hw, pk_div (by omega) (by omega) (by omega)]
theorem crest_iff {h : Nat → Int32} {x y : Nat} (hx : x < 10) (hy : y < 6) : crestP h x y ↔ 0 < heightAtF h (nI x) (nI y) ∧ (x = 0 ∨ h (10 * y + x - 1) < heightAtF h (nI x) (nI y)) ∧ (x = 9 ∨ h (10 * y + x + 1) < heightAtF h (nI x) (nI y)) := by
  have e1 : ¬ x = 0 → heightAtF h (nI x - nI 1) (nI y) = h (10 * y + x - 1) := fun q => by
    rw [pk_sub (by omega), heightAtF_in (by omega) hy, show y * 10 + (x - 1) = 10 * y + x - 1 by omega]
  have e2 : ¬ x = 9 → heightAtF h (nI (x + 1)) (nI y) = h (10 * y + x + 1) := fun q => by
    rw [heightAtF_in (by omega) hy, show y * 10 + (x + 1) = 10 * y + x + 1 by omega]
  have o1 : x = 0 → heightAtF h (nI x - nI 1) (nI y) = nI 0 := fun q => if_neg (fun z => nI_neg1 q z.1.1)
  have o2 : x = 9 → heightAtF h (nI (x + 1)) (nI y) = nI 0 := fun q => if_neg (fun z => absurd z.1.2 (nI_ge (by omega) (by omega)))
  constructor
  · rintro ⟨a, b, c⟩
    refine ⟨a, ?_, ?_⟩
    · by_cases q : x = 0
      · exact Or.inl q
      · exact Or.inr (by rw [← e1 q]; exact b)
    · by_cases q : x = 9
      · exact Or.inl q
      · exact Or.inr (by rw [← e2 q]; exact c)
  · rintro ⟨a, b, c⟩
    refine ⟨a, ?_, ?_⟩
    · by_cases q : x = 0
      · rw [o1 q]; exact a
      · rw [e1 q]; exact b.resolve_left q
    · by_cases q : x = 9
      · rw [o2 q]; exact a
      · rw [e2 q]; exact c.resolve_left q
theorem hAt {h : Nat → Int32} {x y : Nat} (hx : x < 10) (hy : y < 6) : h (10 * y + x) = heightAtF h (nI x) (nI y) := by
  rw [heightAtF_in hx hy, Nat.mul_comm]
theorem seen_no {T : TV} (hok : okT T) : ∀ i, i < T.2 4 2 → nI 0 = nI i → ¬ inP (nI (T.2 3 0)) (nI 0) (nI (T.2 3 i) - nI 1) := by
  intro i hi e z
  have n3 := hok.2.1
  have e0 : 0 = i := (nI_eq (by decide) (by omega)).mp e
  subst e0
  have l := (hok.2.2 0 hi).2
  have h := Int32.le_iff_toInt_le.mp z.2
  rw [pk_sub_toInt (by omega) (by decide), nI_toInt (by omega)] at h
  omega
theorem gs_all {r : Nat → Int32} {n : Nat} (h : ∀ k, k < n → bnd (r k)) : gsF r n = if n = 0 then -6 else mxF r n + nI 10000 := by
  cases n with
  | zero => rfl
  | succ n => rw [if_neg (by omega)]; exact gs_mx n h
theorem bm_neg {r : Nat → Int32} {L : Nat} {b : Int32} (hL : L ≤ 13) (hb : b = (bmF r L).1) : b < 0 ↔ b = -6 := by
  constructor
  · intro h
    rw [hb] at h ⊢
    unfold bmF at h ⊢
    split
    · rfl
    · rename_i q
      rw [if_neg q] at h
      have l := btF_in (r := r) (L - 3)
      exact absurd h (nI_pos (by omega))
  · intro h
    rw [h]
    decide +kernel
theorem bm_ne {r : Nat → Int32} {L : Nat} {b : Int32} (hL : L ≤ 13) (hb : b = (bmF r L).1) : ¬ b = nI L := by
  intro h
  rw [hb] at h
  unfold bmF at h
  split at h
  · exact nI_ne6 (by omega) h.symm
  · rename_i q
    have l := btF_in (r := r) (L - 3)
    have e := (nI_eq (a := (btF r (L - 3)).1) (b := L) (by omega) (by omega)).mp h
    omega
theorem bm_if {r : Nat → Int32} {L : Nat} {b : Int32} {P : Prop} [Decidable P] (hL : L ≤ 13) (hb : b = (bmF r L).1) : (if P then nI L else b) = nI L ↔ P := by
  constructor
  · intro h
    by_cases q : P
    · exact q
    · rw [if_neg q] at h
      exact absurd h (bm_ne hL hb)
  · intro q
    exact if_pos q
theorem tF_step {T : TV} : ∀ j, j < 7 → upd (tF T) 4 (nI (T.2 4 0 + 1)) j = tF (stepT T) j
  | 0, _ => rfl
  | 1, _ => rfl
  | 2, _ => rfl
  | 3, _ => rfl
  | 4, _ => rfl
  | 5, _ => rfl
  | 6, _ => rfl
  | j + 7, h => absurd h (by omega)
