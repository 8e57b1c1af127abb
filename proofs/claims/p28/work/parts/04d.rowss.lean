/-! Rows over worlds in segments. -/
def offS : List va_W → Nat → Nat
  | _, 0 => 0
  | [], _ + 1 => 0
  | w :: r, k + 1 => w.length + offS r k
theorem flat_get : ∀ {segs : List va_W} {k : Nat} {w : va_W} {q : Nat} {x : Nat × va_E}, segs[k]? = some w → w[q]? = some x → segs.flatten[offS segs k + q]? = some x
  | [], k, w, q, x, hk, hq => by simp at hk
  | v :: r, 0, w, q, x, hk, hq => by
    simp at hk
    subst hk
    rw [List.flatten_cons, offS, Nat.zero_add, List.getElem?_append_left (List.getElem?_eq_some_iff.mp hq).1]
    exact hq
  | v :: r, k + 1, w, q, x, hk, hq => by
    rw [List.getElem?_cons_succ] at hk
    rw [List.flatten_cons, offS, List.getElem?_append_right (by omega), show v.length + offS r k + q - v.length = offS r k + q by omega]
    exact flat_get hk hq
theorem flat_set : ∀ {segs : List va_W} {k : Nat} {w : va_W} {q : Nat} {x : Nat × va_E}, segs[k]? = some w → q < w.length → segs.flatten.set (offS segs k + q) x = (segs.set k (w.set q x)).flatten
  | [], k, w, q, x, hk, hq => by simp at hk
  | v :: r, 0, w, q, x, hk, hq => by
    simp at hk
    subst hk
    rw [List.flatten_cons, offS, Nat.zero_add, List.set_append_left _ _ hq, List.set_cons_zero, List.flatten_cons]
  | v :: r, k + 1, w, q, x, hk, hq => by
    rw [List.getElem?_cons_succ] at hk
    rw [List.flatten_cons, offS, List.set_append_right _ _ (by omega), show v.length + offS r k + q - v.length = offS r k + q by omega, flat_set hk hq, List.set_cons_succ, List.flatten_cons]
theorem wldS.reset {G : va_G} {A : Nat → Prop} {segs segs' : List va_W} {w w' : va_W} {H0 H : Heap} {locs : List Loc} {k q : Nat} {x y : Nat × va_E} (hk : segs[k]? = some w) (hq : w[q]? = some x) (hs : w.set q y = w') (hset : segs.set k w' = segs') (h : wld G A (segs.flatten.set (offS segs k + q) y) H0 H locs) : wldS G A segs' H0 H locs := by
  rw [flat_set hk (List.getElem?_eq_some_iff.mp hq).1, hs, hset] at h
  exact wldS.of h
theorem va_P_seg {G : va_G} {cl : List vw_C} {segs : List va_W} {H : Heap} (h : va_P G cl segs.flatten H) : ∀ (k : Nat) (w : va_W), segs[k]? = some w → va_P G cl w H := fun _ w hk => va_P_mem.mpr fun q hq => va_P_mem.mp h q (List.mem_flatten.mpr ⟨w, List.mem_of_getElem? hk, hq⟩)
theorem va_P_segs {G : va_G} {cl : List vw_C} {segs wc : List va_W} {H : Heap} (h : ∀ (k : Nat) (w : va_W), segs[k]? = some w → va_P G cl w H) (pl : List Nat) (hC : pl.map (fun i => segs[i]?) = wc.map some) : va_P G cl wc.flatten H := by
  refine va_P_mem.mpr fun q hq => ?_
  obtain ⟨w, hw, hq⟩ := List.mem_flatten.mp hq
  obtain ⟨k, hk⟩ := List.getElem?_of_mem hw
  have h1 : (pl.map (fun i => segs[i]?))[k]? = some (some w) := by rw [hC, List.getElem?_map, hk]; rfl
  rw [List.getElem?_map] at h1
  cases hi : pl[k]? with
  | none => rw [hi] at h1; cases h1
  | some i => rw [hi] at h1; exact va_P_mem.mp (h i w (Option.some.inj h1)) q hq
theorem va_P_nil {G : va_G} {cl : List vw_C} {H : Heap} : va_P G cl [] H := fun k q h => by simp at h
section ROWSS
variable {p : Program} {l : Launch} {e : Env} {R : Room} {s : State} {m : MethodId} {args : Array Value} {below : List Frame} {meth : Method} {c : Code} {H : Heap} {locs : List Loc} {cells slots : Nat} {Q : State → Prop}
variable {cc : ByteArray} {pc nL : Nat} {ls : Array Slot} {rest : List Value} {G : va_G} {cA : Nat → ClassId} {A : Nat → Prop} {a : Nat} {w w' : va_W} {segs segs' : List va_W} {H0 : Heap} {Ts : List Cond} {own : String}
theorem rn_iastS (CX : CallFix p m c cc nL s args Ts own) (hE : EK G cA s) (hW : wldS G A segs H0 H locs) (k0 : Nat) (hk0 : segs[k0]? = some w) (q0 : Nat) {n : Nat} {f : Nat → Int32} (ha : w[q0]? = some (a, .inl (cA 0, n, .inl f))) {j : Nat} {x : Int32} (hj : j < n) (hn : n < 2147483648) (hs : w.set q0 (a, .inl (cA 0, n, .inl (upd f j x))) = w') (hset : segs.set k0 w' = segs') (hdg : decode cc pc = .ok (.iastore, 1)) (kk : ∀ (H1 : Heap) (locs1 : List Loc), wldS G A segs' H0 H1 locs1 → W p l e R s m args below meth c H1 locs1 cells slots Q (F0 m (pc + 1) ls rest)) : W p l e R s m args below meth c H locs cells slots Q (F0 m pc ls (.int x :: .int (nI j) :: .ref a :: rest)) :=
  rn_iast CX hE hW.flat (offS segs k0 + q0) (flat_get hk0 ha) hj hn rfl hdg (fun H1 l1 h => kk H1 l1 (wldS.reset hk0 ha hs hset h))
theorem rn_castS (CX : CallFix p m c cc nL s args Ts own) (hE : EK G cA s) (hW : wldS G A segs H0 H locs) (k0 : Nat) (hk0 : segs[k0]? = some w) (q0 : Nat) {n : Nat} {f : Nat → Int32} (ha : w[q0]? = some (a, .inl (cA 1, n, .inl f))) {j : Nat} {x : Int32} (hj : j < n) (hn : n < 2147483648) (hs : w.set q0 (a, .inl (cA 1, n, .inl (upd f j (vp_nar .char x)))) = w') (hset : segs.set k0 w' = segs') (hdg : decode cc pc = .ok (.castore, 1)) (kk : ∀ (H1 : Heap) (locs1 : List Loc), wldS G A segs' H0 H1 locs1 → W p l e R s m args below meth c H1 locs1 cells slots Q (F0 m (pc + 1) ls rest)) : W p l e R s m args below meth c H locs cells slots Q (F0 m pc ls (.int x :: .int (nI j) :: .ref a :: rest)) :=
  rn_cast CX hE hW.flat (offS segs k0 + q0) (flat_get hk0 ha) hj hn rfl hdg (fun H1 l1 h => kk H1 l1 (wldS.reset hk0 ha hs hset h))
theorem rn_zastS (CX : CallFix p m c cc nL s args Ts own) (hE : EK G cA s) (hW : wldS G A segs H0 H locs) (k0 : Nat) (hk0 : segs[k0]? = some w) (q0 : Nat) {n : Nat} {f : Nat → Int32} (ha : w[q0]? = some (a, .inl (cA 2, n, .inl f))) {j : Nat} {x : Int32} (hj : j < n) (hn : n < 2147483648) (hs : w.set q0 (a, .inl (cA 2, n, .inl (upd f j (vp_nar .boolean x)))) = w') (hset : segs.set k0 w' = segs') (hdg : decode cc pc = .ok (.bastore, 1)) (kk : ∀ (H1 : Heap) (locs1 : List Loc), wldS G A segs' H0 H1 locs1 → W p l e R s m args below meth c H1 locs1 cells slots Q (F0 m (pc + 1) ls rest)) : W p l e R s m args below meth c H locs cells slots Q (F0 m pc ls (.int x :: .int (nI j) :: .ref a :: rest)) :=
  rn_zast CX hE hW.flat (offS segs k0 + q0) (flat_get hk0 ha) hj hn rfl hdg (fun H1 l1 h => kk H1 l1 (wldS.reset hk0 ha hs hset h))
theorem rn_aast3S (CX : CallFix p m c cc nL s args Ts own) (hE : EK G cA s) (hW : wldS G A segs H0 H locs) (k0 : Nat) (hk0 : segs[k0]? = some w) (q0 : Nat) {n v : Nat} {vs : List Value} {f : Nat → Option Nat} (ha : w[q0]? = some (a, .inl (cA 3, n, .inr (.inr (.inr (.inr f)))))) (k1 : Nat) {u : va_W} (hk1 : segs[k1]? = some u) (q1 : Nat) (hv : u[q1]? = some (v, .inr (4, vs))) {j : Nat} (hj : j < n) (hn : n < 2147483648) (hs : w.set q0 (a, .inl (cA 3, n, .inr (.inr (.inr (.inr (va_up f j (some v))))))) = w') (hset : segs.set k0 w' = segs') (hdg : decode cc pc = .ok (.aastore, 1)) (kk : ∀ (H1 : Heap) (locs1 : List Loc), wldS G A segs' H0 H1 locs1 → W p l e R s m args below meth c H1 locs1 cells slots Q (F0 m (pc + 1) ls rest)) : W p l e R s m args below meth c H locs cells slots Q (F0 m pc ls (.ref v :: .int (nI j) :: .ref a :: rest)) :=
  rn_aast3 CX hE hW.flat (offS segs k0 + q0) (offS segs k1 + q1) (flat_get hk0 ha) (flat_get hk1 hv) hj hn rfl hdg (fun H1 l1 h => kk H1 l1 (wldS.reset hk0 ha hs hset h))
theorem rpS {C : String} {T : u_T} {N ci : Nat} (CX : CallFix p m c cc nL s args Ts own) (hE : EK G cA s) (hW : wldS G A segs H0 H locs) (k0 : Nat) (hk0 : segs[k0]? = some w) (hin : ∀ w ∈ u_ws C T N, w ∈ Ts) (ty0 : Nat → FieldType) (hty : ∀ k, k < N → parseFieldDescriptor (T k).2.2.1 = some (ty0 k)) (hnm : ∀ a, a < N → ∀ b, b < N → a ≠ b → (T a).2.1 ≠ (T b).2.1) (q0 : Nat) {fs : List Value} (he : w[q0]? = some (a, .inr (ci, fs))) (hc : vwCl[ci]? = some (C, T, N)) (k : Nat) (hk : k < N) {index : Nat} (hlink : Cond.fieldLink own index C (T k).2.1 (T k).2.2.1 ∈ Ts) (hTk : (T k).1 = C) (hfin : (T k).2.2.2 = false) {v : Value} (hn : narrow (ty0 k) v = v) (hfit : fits (ty0 k) v = true) (hl : k < fs.length) (hs : w.set q0 (a, .inr (ci, fs.set k v)) = w') (hset : segs.set k0 w' = segs')
    (hdg : decode cc pc = .ok (.putfield index, 3)) (kk : ∀ (H1 : Heap) (locs1 : List Loc), wldS G A segs' H0 H1 locs1 → W p l e R s m args below meth c H1 locs1 cells slots Q (F0 m (pc + 3) ls rest)) : W p l e R s m args below meth c H locs cells slots Q (F0 m pc ls (v :: .ref a :: rest)) :=
  rp CX hE hW.flat hin ty0 hty hnm (offS segs k0 + q0) (flat_get hk0 he) hc k hk hlink hTk hfin hn hfit hl rfl hdg (fun H1 l1 h => kk H1 l1 (wldS.reset hk0 he hs hset h))
/-- reading calls, the callee's world given -/
theorem roVg {B : State → Prop} {y : MethodName} {bytes : ByteArray} {maxL n index : Nat} {ret : Option FieldType} {wy : List Cond} {rm : Room} {C : String} {b : Nat} {As rest st0 : List Value} {wc wr : va_W} {v : Int32} (CX : CallFix p m c cc nL s args Ts own) (hE : EK G cA s) (hPc : va_P G vwCl wc H) (hM : RO l y wy rm G cA B wc (.ref b :: As) v) (cw : CallW R s args own C index y bytes maxL ret wy rm 0 0 n) (hPr : va_P G vwCl wr H) (q0 : Nat) {ci : Nat} {fs : List Value} (he : wr[q0]? = some (b, .inr (ci, fs))) {qc : vw_C} (hc : vwCl[ci]? = some qc) (hqc : qc.1 = C) (hBb : blindB B) (hB : ∀ U : State, U.heap = H → s.WarmedH U.vm → B U) (hn : As.length = n) (hls : ls.size = nL) (hst : st0 = As.reverse ++ .ref b :: rest) (hroom : (rest.map fun v => v.category).sum ≤ 8) (hdg : decode cc pc = .ok (.invokevirtual index, 3)) (hcs : cells ≤ R.cells ∧ slots ≤ R.slots)
    (kk : W p l e R s m args below meth c H locs cells slots Q (F0 m (pc + 3) ls (.int v :: rest))) : W p l e R s m args below meth c H locs cells slots Q (F0 m pc ls st0) :=
  vp_callSi (va_runV CX hM cw ⟨fun _ U g mk q => ⟨q.1, q.2.1, q.2.2.1.calling, hBb U g mk _ q.2.2.2⟩, hqc ▸ va_recv hE.1 hPr hc he, fun U hU hW => ⟨rfl, by rw [hU]; exact hPc, hE.warm hW, hB U hU hW⟩⟩ rfl hn hls hst (lv_room (ls := ls) hroom) hdg hcs).run (fun r hr => hr ▸ kk)
/-- writing calls: whole segments -/
theorem muvS0 {wc w1 : List va_W} {ar : Array Value} {st0 : List Value} (hW : wldS G A segs H0 H locs) (hA : ∀ q, H0.size ≤ q → A q) (pl : List Nat) (hnd : va_nd pl = true) (hC : pl.map (fun i => segs[i]?) = wc.map some) (hlen : pl.length = w1.length) (hput : putL segs pl w1 = segs')
    (hr : va_Run p l e R s m args below meth c H locs cells slots 0 0 (F0 m pc ls st0) rest (va_Qv (fun _ : Unit => True) (fun _ t => va_P G vwCl w1.flatten t.heap ∧ va_D (va_A wc.flatten H.size) w1.flatten) (va_A wc.flatten H.size) ar) (va_A wc.flatten H.size))
    (kk : ∀ (H1 : Heap) (locs1 : List Loc), wldS G A segs' H0 H1 locs1 → W p l e R s m args below meth c H1 locs1 cells slots Q (F0 m (pc + 3) ls rest)) : W p l e R s m args below meth c H locs cells slots Q (F0 m pc ls st0) := by
  have hS0 := hW.2.2
  have hF : ∀ q, va_A wc.flatten H.size q → A q := fun q h => by
    rcases h with ⟨k, e, h⟩ | h
    · exact (hW.sub pl hnd hC).flat.2.1.2 k _ h
    · exact hA q (Nat.le_trans hS0.1 h)
  refine va_callv hr hS0 (fun q _ h => hF q h) hF (fun u t H1 locs1 ht hvm hw hB hz1 hk1 hS => ?_)
  obtain ⟨hP1, hD1⟩ := hB
  rw [ht] at hP1
  exact kk H1 locs1 (wldS_join hW pl hC hlen hput hk1 hF hP1 hD1 hS)
theorem muiS0 {wc w1 : List va_W} {ar : Array Value} {st0 : List Value} {v : Int32} (hW : wldS G A segs H0 H locs) (hA : ∀ q, H0.size ≤ q → A q) (pl : List Nat) (hnd : va_nd pl = true) (hC : pl.map (fun i => segs[i]?) = wc.map some) (hlen : pl.length = w1.length) (hput : putL segs pl w1 = segs')
    (hr : va_Run p l e R s m args below meth c H locs cells slots 0 0 (F0 m pc ls st0) rest (va_Qi (fun r (_ : Unit) => r = v) (fun _ t => va_P G vwCl w1.flatten t.heap ∧ va_D (va_A wc.flatten H.size) w1.flatten) (va_A wc.flatten H.size) ar) (va_A wc.flatten H.size))
    (kk : ∀ (H1 : Heap) (locs1 : List Loc), wldS G A segs' H0 H1 locs1 → W p l e R s m args below meth c H1 locs1 cells slots Q (F0 m (pc + 3) ls (.int v :: rest))) : W p l e R s m args below meth c H locs cells slots Q (F0 m pc ls st0) := by
  have hS0 := hW.2.2
  have hF : ∀ q, va_A wc.flatten H.size q → A q := fun q h => by
    rcases h with ⟨k, e, h⟩ | h
    · exact (hW.sub pl hnd hC).flat.2.1.2 k _ h
    · exact hA q (Nat.le_trans hS0.1 h)
  refine va_calli hr hS0 (fun q _ h => hF q h) hF (fun r u t H1 locs1 ht hvm hw hB hz1 hk1 hS => ?_)
  obtain ⟨hP1, hD1⟩ := hB
  rw [ht] at hP1
  subst hw
  exact kk H1 locs1 (wldS_join hW pl hC hlen hput hk1 hF hP1 hD1 hS)
/-- writing calls: a part of a segment -/
theorem muvP0 {wc w1 : va_W} {ar : Array Value} {st0 : List Value} (hW : wldS G A segs H0 H locs) (hA : ∀ q, H0.size ≤ q → A q) (k0 : Nat) (hk0 : segs[k0]? = some w) (pl : List Nat) (hC : pl.map (fun i => w[i]?) = wc.map some) (hlen : pl.length = w1.length) (hput : putW w pl w1 = w') (hset : segs.set k0 w' = segs')
    (hr : va_Run p l e R s m args below meth c H locs cells slots 0 0 (F0 m pc ls st0) rest (va_Qv (fun _ : Unit => True) (fun _ t => va_P G vwCl w1 t.heap ∧ va_D (va_A wc H.size) w1) (va_A wc H.size) ar) (va_A wc H.size))
    (kk : ∀ (H1 : Heap) (locs1 : List Loc), wldS G A segs' H0 H1 locs1 → W p l e R s m args below meth c H1 locs1 cells slots Q (F0 m (pc + 3) ls rest)) : W p l e R s m args below meth c H locs cells slots Q (F0 m pc ls st0) := by
  have hF := wld_free (hW.at k0 hk0) hA pl hC
  refine va_callv hr hW.2.2 (fun q _ h => hF q h) hF (fun u t H1 locs1 ht hvm hw hB hz1 hk1 hS => ?_)
  obtain ⟨hP1, hD1⟩ := hB
  rw [ht] at hP1
  exact kk H1 locs1 (wldS_part hW k0 hk0 pl hC hlen hput hset hk1 hF hP1 hD1 hS)
theorem muiP0 {wc w1 : va_W} {ar : Array Value} {st0 : List Value} {v : Int32} (hW : wldS G A segs H0 H locs) (hA : ∀ q, H0.size ≤ q → A q) (k0 : Nat) (hk0 : segs[k0]? = some w) (pl : List Nat) (hC : pl.map (fun i => w[i]?) = wc.map some) (hlen : pl.length = w1.length) (hput : putW w pl w1 = w') (hset : segs.set k0 w' = segs')
    (hr : va_Run p l e R s m args below meth c H locs cells slots 0 0 (F0 m pc ls st0) rest (va_Qi (fun r (_ : Unit) => r = v) (fun _ t => va_P G vwCl w1 t.heap ∧ va_D (va_A wc H.size) w1) (va_A wc H.size) ar) (va_A wc H.size))
    (kk : ∀ (H1 : Heap) (locs1 : List Loc), wldS G A segs' H0 H1 locs1 → W p l e R s m args below meth c H1 locs1 cells slots Q (F0 m (pc + 3) ls (.int v :: rest))) : W p l e R s m args below meth c H locs cells slots Q (F0 m pc ls st0) := by
  have hF := wld_free (hW.at k0 hk0) hA pl hC
  refine va_calli hr hW.2.2 (fun q _ h => hF q h) hF (fun r u t H1 locs1 ht hvm hw hB hz1 hk1 hS => ?_)
  obtain ⟨hP1, hD1⟩ := hB
  rw [ht] at hP1
  subst hw
  exact kk H1 locs1 (wldS_part hW k0 hk0 pl hC hlen hput hset hk1 hF hP1 hD1 hS)
theorem muvVS {B : (Nat → Prop) → State → Prop} {y : MethodName} {bytes : ByteArray} {maxL n index : Nat} {ret : Option FieldType} {wy : List Cond} {rm : Room} {C : String} {b : Nat} {As rest st0 : List Value} {wc w1 : List va_W} {wr : va_W} (CX : CallFix p m c cc nL s args Ts own) (hE : EK G cA s) (hW : wldS G A segs H0 H locs) (hA : ∀ q, H0.size ≤ q → A q) (hM : MUv l y wy rm G cA B wc.flatten (.ref b :: As) w1.flatten) (cw : CallW R s args own C index y bytes maxL ret wy rm 0 0 n) (pl : List Nat) (hnd : va_nd pl = true) (hC : pl.map (fun i => segs[i]?) = wc.map some) (hlen : pl.length = w1.length) (hput : putL segs pl w1 = segs') (hPr : va_P G vwCl wr H) (q0 : Nat) {ci : Nat} {fs : List Value} (he : wr[q0]? = some (b, .inr (ci, fs))) {qc : vw_C} (hc : vwCl[ci]? = some qc) (hqc : qc.1 = C) (hBb : blindM B) (hB : ∀ U : State, U.heap = H → s.WarmedH U.vm → (∀ q, va_A wc.flatten H.size q → A q) → B (va_A wc.flatten H.size) U) (hn : As.length = n) (hls : ls.size = nL) (hst : st0 = As.reverse ++ .ref b :: rest) (hroom : (rest.map fun v => v.category).sum ≤ 8) (hdg : decode cc pc = .ok (.invokevirtual index, 3)) (hcs : cells ≤ R.cells ∧ slots ≤ R.slots)
    (kk : ∀ (H1 : Heap) (locs1 : List Loc), wldS G A segs' H0 H1 locs1 → W p l e R s m args below meth c H1 locs1 cells slots Q (F0 m (pc + 3) ls rest)) : W p l e R s m args below meth c H locs cells slots Q (F0 m pc ls st0) :=
  muvS0 hW hA pl hnd hC hlen hput (va_runV CX (hM H.size) cw ⟨fun _ U g mk q => ⟨q.1, q.2.1, q.2.2.1, q.2.2.2.1, q.2.2.2.2.1.calling, hBb _ U g mk _ q.2.2.2.2.2⟩, hqc ▸ va_recv hE.1 hPr hc he, fun U hU hWm => ⟨rfl, by rw [hU], by rw [hU]; exact (hW.sub pl hnd hC).flat.1, (hW.sub pl hnd hC).flat.2.1.weaken (fun _ _ _ _ => trivial), hE.warm hWm, hB U hU hWm (fun q h => by
    rcases h with ⟨k, e, h⟩ | h
    · exact (hW.sub pl hnd hC).flat.2.1.2 k _ h
    · exact hA q (Nat.le_trans hW.2.2.1 h))⟩⟩ rfl hn hls hst (lv_room (ls := ls) hroom) hdg hcs) kk
theorem muiVS {B : (Nat → Prop) → State → Prop} {y : MethodName} {bytes : ByteArray} {maxL n index : Nat} {ret : Option FieldType} {wy : List Cond} {rm : Room} {C : String} {b : Nat} {As rest st0 : List Value} {wc w1 : List va_W} {wr : va_W} {v : Int32} (CX : CallFix p m c cc nL s args Ts own) (hE : EK G cA s) (hW : wldS G A segs H0 H locs) (hA : ∀ q, H0.size ≤ q → A q) (hM : MUi l y wy rm G cA B wc.flatten (.ref b :: As) w1.flatten v) (cw : CallW R s args own C index y bytes maxL ret wy rm 0 0 n) (pl : List Nat) (hnd : va_nd pl = true) (hC : pl.map (fun i => segs[i]?) = wc.map some) (hlen : pl.length = w1.length) (hput : putL segs pl w1 = segs') (hPr : va_P G vwCl wr H) (q0 : Nat) {ci : Nat} {fs : List Value} (he : wr[q0]? = some (b, .inr (ci, fs))) {qc : vw_C} (hc : vwCl[ci]? = some qc) (hqc : qc.1 = C) (hBb : blindM B) (hB : ∀ U : State, U.heap = H → s.WarmedH U.vm → (∀ q, va_A wc.flatten H.size q → A q) → B (va_A wc.flatten H.size) U) (hn : As.length = n) (hls : ls.size = nL) (hst : st0 = As.reverse ++ .ref b :: rest) (hroom : (rest.map fun v => v.category).sum ≤ 8) (hdg : decode cc pc = .ok (.invokevirtual index, 3)) (hcs : cells ≤ R.cells ∧ slots ≤ R.slots)
    (kk : ∀ (H1 : Heap) (locs1 : List Loc), wldS G A segs' H0 H1 locs1 → W p l e R s m args below meth c H1 locs1 cells slots Q (F0 m (pc + 3) ls (.int v :: rest))) : W p l e R s m args below meth c H locs cells slots Q (F0 m pc ls st0) :=
  muiS0 hW hA pl hnd hC hlen hput (va_runV CX (hM H.size) cw ⟨fun _ U g mk q => ⟨q.1, q.2.1, q.2.2.1, q.2.2.2.1, q.2.2.2.2.1.calling, hBb _ U g mk _ q.2.2.2.2.2⟩, hqc ▸ va_recv hE.1 hPr hc he, fun U hU hWm => ⟨rfl, by rw [hU], by rw [hU]; exact (hW.sub pl hnd hC).flat.1, (hW.sub pl hnd hC).flat.2.1.weaken (fun _ _ _ _ => trivial), hE.warm hWm, hB U hU hWm (fun q h => by
    rcases h with ⟨k, e, h⟩ | h
    · exact (hW.sub pl hnd hC).flat.2.1.2 k _ h
    · exact hA q (Nat.le_trans hW.2.2.1 h))⟩⟩ rfl hn hls hst (lv_room (ls := ls) hroom) hdg hcs) kk
theorem muvVP {B : (Nat → Prop) → State → Prop} {y : MethodName} {bytes : ByteArray} {maxL n index : Nat} {ret : Option FieldType} {wy : List Cond} {rm : Room} {C : String} {b : Nat} {As rest st0 : List Value} {wc w1 : va_W} (CX : CallFix p m c cc nL s args Ts own) (hE : EK G cA s) (hW : wldS G A segs H0 H locs) (hA : ∀ q, H0.size ≤ q → A q) (hM : MUv l y wy rm G cA B wc (.ref b :: As) w1) (cw : CallW R s args own C index y bytes maxL ret wy rm 0 0 n) (k0 : Nat) (hk0 : segs[k0]? = some w) (pl : List Nat) (hnd : va_nd pl = true) (hC : pl.map (fun i => w[i]?) = wc.map some) (hlen : pl.length = w1.length) (hput : putW w pl w1 = w') (hset : segs.set k0 w' = segs') (q0 : Nat) {ci : Nat} {fs : List Value} (he : w[q0]? = some (b, .inr (ci, fs))) {qc : vw_C} (hc : vwCl[ci]? = some qc) (hqc : qc.1 = C) (hBb : blindM B) (hB : ∀ U : State, U.heap = H → s.WarmedH U.vm → (∀ q, va_A wc H.size q → A q) → B (va_A wc H.size) U) (hn : As.length = n) (hls : ls.size = nL) (hst : st0 = As.reverse ++ .ref b :: rest) (hroom : (rest.map fun v => v.category).sum ≤ 8) (hdg : decode cc pc = .ok (.invokevirtual index, 3)) (hcs : cells ≤ R.cells ∧ slots ≤ R.slots)
    (kk : ∀ (H1 : Heap) (locs1 : List Loc), wldS G A segs' H0 H1 locs1 → W p l e R s m args below meth c H1 locs1 cells slots Q (F0 m (pc + 3) ls rest)) : W p l e R s m args below meth c H locs cells slots Q (F0 m pc ls st0) :=
  muvP0 hW hA k0 hk0 pl hC hlen hput hset (va_runV CX (hM H.size) cw ⟨fun _ U g mk q => ⟨q.1, q.2.1, q.2.2.1, q.2.2.2.1, q.2.2.2.2.1.calling, hBb _ U g mk _ q.2.2.2.2.2⟩, hqc ▸ va_recv hE.1 (hW.hP k0 hk0) hc he, fun U hU hWm => ⟨rfl, by rw [hU], by rw [hU]; exact (wld_sub (hW.at k0 hk0) pl hnd hC).1, (wld_sub (hW.at k0 hk0) pl hnd hC).2.weaken (fun _ _ _ _ => trivial), hE.warm hWm, hB U hU hWm (wld_free (hW.at k0 hk0) hA pl hC)⟩⟩ rfl hn hls hst (lv_room (ls := ls) hroom) hdg hcs) kk
theorem muiVP {B : (Nat → Prop) → State → Prop} {y : MethodName} {bytes : ByteArray} {maxL n index : Nat} {ret : Option FieldType} {wy : List Cond} {rm : Room} {C : String} {b : Nat} {As rest st0 : List Value} {wc w1 : va_W} {v : Int32} (CX : CallFix p m c cc nL s args Ts own) (hE : EK G cA s) (hW : wldS G A segs H0 H locs) (hA : ∀ q, H0.size ≤ q → A q) (hM : MUi l y wy rm G cA B wc (.ref b :: As) w1 v) (cw : CallW R s args own C index y bytes maxL ret wy rm 0 0 n) (k0 : Nat) (hk0 : segs[k0]? = some w) (pl : List Nat) (hnd : va_nd pl = true) (hC : pl.map (fun i => w[i]?) = wc.map some) (hlen : pl.length = w1.length) (hput : putW w pl w1 = w') (hset : segs.set k0 w' = segs') (q0 : Nat) {ci : Nat} {fs : List Value} (he : w[q0]? = some (b, .inr (ci, fs))) {qc : vw_C} (hc : vwCl[ci]? = some qc) (hqc : qc.1 = C) (hBb : blindM B) (hB : ∀ U : State, U.heap = H → s.WarmedH U.vm → (∀ q, va_A wc H.size q → A q) → B (va_A wc H.size) U) (hn : As.length = n) (hls : ls.size = nL) (hst : st0 = As.reverse ++ .ref b :: rest) (hroom : (rest.map fun v => v.category).sum ≤ 8) (hdg : decode cc pc = .ok (.invokevirtual index, 3)) (hcs : cells ≤ R.cells ∧ slots ≤ R.slots)
    (kk : ∀ (H1 : Heap) (locs1 : List Loc), wldS G A segs' H0 H1 locs1 → W p l e R s m args below meth c H1 locs1 cells slots Q (F0 m (pc + 3) ls (.int v :: rest))) : W p l e R s m args below meth c H locs cells slots Q (F0 m pc ls st0) :=
  muiP0 hW hA k0 hk0 pl hC hlen hput hset (va_runV CX (hM H.size) cw ⟨fun _ U g mk q => ⟨q.1, q.2.1, q.2.2.1, q.2.2.2.1, q.2.2.2.2.1.calling, hBb _ U g mk _ q.2.2.2.2.2⟩, hqc ▸ va_recv hE.1 (hW.hP k0 hk0) hc he, fun U hU hWm => ⟨rfl, by rw [hU], by rw [hU]; exact (wld_sub (hW.at k0 hk0) pl hnd hC).1, (wld_sub (hW.at k0 hk0) pl hnd hC).2.weaken (fun _ _ _ _ => trivial), hE.warm hWm, hB U hU hWm (wld_free (hW.at k0 hk0) hA pl hC)⟩⟩ rfl hn hls hst (lv_room (ls := ls) hroom) hdg hcs) kk
end ROWSS
theorem wldS.ext {G : va_G} {A : Nat → Prop} {segs segs' : List va_W} {w w' : va_W} {H0 H : Heap} {locs : List Loc} (hW : wldS G A segs H0 H locs) (k0 : Nat) (hk0 : segs[k0]? = some w) (q0 : Nat) {a n : Nat} {c : ClassId} {f g : Nat → Int32} (ha : w[q0]? = some (a, .inl (c, n, .inl f))) (h : ∀ j, j < n → f j = g j) (hs : w.set q0 (a, .inl (c, n, .inl g)) = w') (hset : segs.set k0 w' = segs') : wldS G A segs' H0 H locs :=
  wldS.reset hk0 ha hs hset (hW.flat.ext (offS segs k0 + q0) (flat_get hk0 ha) h rfl)
theorem wldS.extq {G : va_G} {A : Nat → Prop} {segs segs' : List va_W} {w w' : va_W} {H0 H : Heap} {locs : List Loc} (hW : wldS G A segs H0 H locs) (k0 : Nat) (hk0 : segs[k0]? = some w) (q0 : Nat) {a n : Nat} {c : ClassId} {f g : Nat → Option Nat} (ha : w[q0]? = some (a, .inl (c, n, .inr (.inr (.inr (.inr f)))))) (h : ∀ j, j < n → f j = g j) (hs : w.set q0 (a, .inl (c, n, .inr (.inr (.inr (.inr g))))) = w') (hset : segs.set k0 w' = segs') : wldS G A segs' H0 H locs :=
  wldS.reset hk0 ha hs hset (hW.flat.extq (offS segs k0 + q0) (flat_get hk0 ha) h rfl)
theorem MUv.seg2 {l : Launch} {y : MethodName} {wy : List Cond} {rm : Room} {G : va_G} {cA : Nat → ClassId} {B : (Nat → Prop) → State → Prop} {u v u' v' : va_W} {av : List Value} (h : MUv l y wy rm G cA B (u ++ v) av (u' ++ v')) : MUv l y wy rm G cA B ([u, v] : List va_W).flatten av ([u', v'] : List va_W).flatten := by
  simpa only [List.flatten_cons, List.flatten_nil, List.append_nil] using h
