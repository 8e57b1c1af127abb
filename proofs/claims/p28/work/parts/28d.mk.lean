/-! Rows for constructors: what they need of the machine, their calls, arrays of references, the clone of the first settings. -/
def firstF (j : Nat) : Int32 := if j = 0 then nI 10 else if j = 1 then nI 8 else if j = 2 then nI 3 else nI 5
/-- the first settings lie at t; arrays of tanks and of rows can be made, rows of ints can be cloned -/
def FSM (t : Nat) (A : Nat → Prop) (U : State) : Prop :=
  va_Z "DippedWaves" "FIRST_SETTINGS" "[I" (.ref t) A U U.heap ∧ (∃ cell : Cell, U.heap[t]? = some cell ∧ (∀ k, cell.vm ≠ .statics k) ∧ cell.vm ≠ .unknown ∧ U.vm.findClass "[I" = some cell.cls ∧ cell.slots = (arrV 0 4 (fun j => .int (firstF j))).slots ∧ ¬ A t) ∧ va_AO "DippedWaves$Tank" U ∧ va_AOA .int U ∧ va_Nw (.castable "[I" "java/lang/Cloneable") U
theorem FSM_blind (t : Nat) : blindM (FSM t) := fun A U g mk a h =>
  ⟨va_Z.moved (u := U) (U := U.calling g mk a) (Vm.Alike.refl U.vm) h.1, h.2.1, va_AO.moved (u := U) (U := U.calling g mk a) (Vm.Alike.refl U.vm) h.2.2.1, va_AOA.moved (u := U) (U := U.calling g mk a) (Vm.Alike.refl U.vm) h.2.2.2.1, va_Nw.same (u := U) (U := U.calling g mk a) rfl rfl h.2.2.2.2⟩
theorem FSM.sub {t : Nat} {A A' : Nat → Prop} {s U : State} {H : Heap} {locs : List Loc} (h : FSM t A s) (hS : va_S A s.heap H locs) (hU : U.heap = H) (hW : s.WarmedH U.vm) (hA : ∀ a, A' a → A a) : FSM t A' U := by
  refine ⟨by rw [hU]; exact (va_Z.moved hW.alike (h.1.kept hS.2.1)).narrow hA, ?_, va_AO.moved hW.alike h.2.2.1, va_AOA.moved hW.alike h.2.2.2.1, va_Nw.warmC hW h.2.2.2.2⟩
  obtain ⟨cell, h1, h2, h3, h4, h5, h6⟩ := h.2.1
  exact ⟨cell, by rw [hU, hS.2.1 t (Array.getElem?_eq_some_iff.mp h1).1 h6]; exact h1, h2, h3, by rw [hW.alike.findClass]; exact h4, h5, fun z => h6 (hA t z)⟩
theorem sameQ {G : va_G} {cA : Nat → ClassId} {s : State} {c : ClassId} (h : va_K G vwCl (tys0 cA ++ [(c, .object "DippedWaves$Tank")]) s) : c = cA 3 := by
  obtain ⟨k1, c1, -, -, -, h1⟩ := (h.2 5 (c, .object "DippedWaves$Tank") rfl).2
  obtain ⟨k2, c2, -, -, -, h2⟩ := (h.2 3 (cA 3, .object "DippedWaves$Tank") rfl).2
  exact Option.some.inj (h1.symm.trans h2)
theorem sameA {G : va_G} {cA : Nat → ClassId} {s : State} {c : ClassId} (h : va_K G vwCl (tys0 cA ++ [(c, .array .int)]) s) : c = cA 4 :=
  Option.some.inj ((h.2 5 (c, .array .int) rfl).2.symm.trans (h.2 4 (cA 4, .array .int) rfl).2)
theorem nm_I : "[" ++ FieldType.int.toString = "[I" := by decide +kernel
theorem nmA : "[" ++ (FieldType.array .int).toString = "[[I" := by decide +kernel
theorem nmA2 : (FieldType.array .int).toString = "[I" := by decide +kernel
theorem EK.nmI {G : va_G} {cA : Nat → ClassId} {s : State} (h : EK G cA s) : s.vm.findClass "[I" = some (cA 0) := by
  have q : s.vm.findClass ("[" ++ FieldType.int.toString) = some (cA 0) := (h.1.2 0 (cA 0, .int) rfl).2
  rw [nm_I] at q
  exact q
theorem wld.re {G : va_G} {A : Nat → Prop} {ws : va_W} {H0 H : Heap} {locs : List Loc} (hW : wld G A ws H0 H locs) (q0 : Nat) {a : Nat} {c : ClassId} {x y : vp_A} (ha : ws[q0]? = some (a, .inl (c, x))) (h : vp_cell c x = vp_cell c y) {ws' : va_W} (hws : ws.set q0 (a, .inl (c, y)) = ws') : wld G A ws' H0 H locs := by
  subst hws
  obtain ⟨hP, hD, hS⟩ := hW
  refine ⟨hP.set hD ha ?_ (fun _ _ => rfl), hD.set ha, hS⟩
  show H[a]? = some (vp_cell _ _)
  rw [← h]
  exact hP q0 _ ha
theorem wldS.re {G : va_G} {A : Nat → Prop} {segs segs' : List va_W} {w w' : va_W} {H0 H : Heap} {locs : List Loc} (hW : wldS G A segs H0 H locs) (k0 : Nat) (hk0 : segs[k0]? = some w) (q0 : Nat) {a : Nat} {c : ClassId} {x y : vp_A} (ha : w[q0]? = some (a, .inl (c, x))) (h : vp_cell c x = vp_cell c y) (hs : w.set q0 (a, .inl (c, y)) = w') (hset : segs.set k0 w' = segs') : wldS G A segs' H0 H locs :=
  wldS.reset hk0 ha hs hset (hW.flat.re (offS segs k0 + q0) (flat_get hk0 ha) h rfl)
theorem wldS.fl {G : va_G} {A : Nat → Prop} {segs segs' : List va_W} {H0 H : Heap} {locs : List Loc} (hW : wldS G A segs H0 H locs) (h : segs.flatten = segs'.flatten) : wldS G A segs' H0 H locs := wldS.of (h ▸ hW.flat)
theorem wldS.app {G : va_G} {A : Nat → Prop} {segs more : List va_W} {H0 H : Heap} {locs : List Loc} (hW : wld G A (segs.flatten ++ more.flatten) H0 H locs) : wldS G A (segs ++ more) H0 H locs := wldS.of (by rw [List.flatten_append]; exact hW)
theorem row3_of (r : Nat → Nat) : ∀ j, j < 3 → (if j < 3 then some (r j) else none) = row3 (r 0) (r 1) (r 2) j
  | 0, _ => rfl
  | 1, _ => rfl
  | 2, _ => rfl
  | j + 3, h => absurd h (by omega)
theorem inner0 : ∀ c : ClassId, Jvm.Free.Multi.innerC c 24 (defaultValue .int) = vp_cell c (24, .inl (fun _ => nI 0)) := fun c => by
  rw [vp_cell_i]
  exact arrV_new _ _ _
/-- several families of addresses in one -/
def encU (f : Nat → Nat → Nat) : Nat → Nat := fun n => f (n % 16) (n / 16)
def prt (u : Nat → Nat) (i : Nat) : Nat → Nat := fun j => u (16 * j + i)
theorem prt_enc (f : Nat → Nat → Nat) (i : Nat) (hi : i < 16) : prt (encU f) i = f i := by
  funext j
  show f ((16 * j + i) % 16) ((16 * j + i) / 16) = f i j
  rw [show (16 * j + i) % 16 = i by omega, show (16 * j + i) / 16 = j by omega]
def consN (o : Nat) (x : Nat → Nat) : Nat → Nat := fun k => match k with
  | 0 => o
  | k + 1 => x k
section ROWSM
variable {p : Program} {l : Launch} {e : Env} {R : Room} {s : State} {m : MethodId} {args : Array Value} {below : List Frame} {meth : Method} {c : Code} {H : Heap} {locs : List Loc} {cells slots : Nat} {Q : State → Prop}
variable {cc : ByteArray} {pc nL : Nat} {ls : Array Slot} {rest : List Value} {G : va_G} {cA : Nat → ClassId} {A : Nat → Prop} {ws ws' : va_W} {H0 : Heap} {own : String} {Ts : List Cond}
theorem mkI {B : (Nat → Prop) → State → Prop} {y : MethodName} {bytes : ByteArray} {maxL index mc ms b : Nat} {eb : va_E} {wy : List Cond} {rm : Room} {w1 : (Nat → Nat) → va_W} {st0 : List Value} (CX : CallFix p m c cc nL s args Ts own) (hE : EK G cA s) (hW : wld G A (ws ++ [(b, eb)]) H0 H locs) (hA : ∀ q, H0.size ≤ q → A q) (hM : MK l y wy rm G cA B [(b, eb)] [.ref b] w1 mc ms) (cw : CallB R s args own index y bytes maxL none wy rm mc ms 0 ∧ y.name = "<init>" ∧ (Cond.instanceMethod y).before args s = true) (hBb : blindM B) (hB : ∀ U : State, U.heap = H → s.WarmedH U.vm → (∀ q, va_A [(b, eb)] H.size q → A q) → B (va_A [(b, eb)] H.size) U) (hls : ls.size = nL) (hst : st0 = .ref b :: rest) (hroom : (rest.map fun v => v.category).sum ≤ 8) (hdg : decode cc pc = .ok (.invokespecial index, 3)) (hcs : cells + mc ≤ R.cells ∧ slots + ms ≤ R.slots)
    (kk : ∀ (u : Nat → Nat) (H1 : Heap) (locs1 : List Loc), wld G A (ws ++ w1 u) H0 H1 locs1 → W p l e R s m args below meth c H1 locs1 (cells + mc) (slots + ms) Q (F0 m (pc + 3) ls rest)) : W p l e R s m args below meth c H locs cells slots Q (F0 m pc ls st0) := by
  have hC : [ws.length].map (fun i => (ws ++ [(b, eb)])[i]?) = [(b, eb)].map some := by simp
  exact mk_last hW hA (va_runI (As := []) CX (hM H.size) cw ⟨fun _ U g mk q => ⟨q.1, q.2.1, q.2.2.1, q.2.2.2.1, q.2.2.2.2.1.calling, hBb _ U g mk _ q.2.2.2.2.2⟩, fun U hU hWm => ⟨rfl, by rw [hU], by rw [hU]; exact (wld_sub hW [ws.length] (by simp [va_nd]) hC).1, (wld_sub hW [ws.length] (by simp [va_nd]) hC).2.weaken (fun _ _ _ _ => trivial), hE.warm hWm, hB U hU hWm (wld_free hW hA [ws.length] hC)⟩⟩ rfl rfl hls hst (lv_room (ls := ls) hroom) hdg hcs) kk
theorem mkIN {B : (Nat → Prop) → State → Prop} {y : MethodName} {bytes : ByteArray} {maxL index mc ms b : Nat} {eb : va_E} {wy : List Cond} {rm : Room} {host : String} {w1 : (Nat → Nat) → va_W} {st0 : List Value} (CX : CallFix p m c cc nL s args Ts own) (hE : EK G cA s) (hW : wld G A (ws ++ [(b, eb)]) H0 H locs) (hA : ∀ q, H0.size ≤ q → A q) (hM : MK l y wy rm G cA B [(b, eb)] [.ref b] w1 mc ms) (cw : va_CN R s args own index y host bytes maxL none wy rm mc ms 0 ∧ y.name = "<init>" ∧ (Cond.instanceMethod y).before args s = true) (hBb : blindM B) (hB : ∀ U : State, U.heap = H → s.WarmedH U.vm → (∀ q, va_A [(b, eb)] H.size q → A q) → B (va_A [(b, eb)] H.size) U) (hls : ls.size = nL) (hst : st0 = .ref b :: rest) (hroom : (rest.map fun v => v.category).sum ≤ 8) (hdg : decode cc pc = .ok (.invokespecial index, 3)) (hcs : cells + mc ≤ R.cells ∧ slots + ms ≤ R.slots)
    (kk : ∀ (u : Nat → Nat) (H1 : Heap) (locs1 : List Loc), wld G A (ws ++ w1 u) H0 H1 locs1 → W p l e R s m args below meth c H1 locs1 (cells + mc) (slots + ms) Q (F0 m (pc + 3) ls rest)) : W p l e R s m args below meth c H locs cells slots Q (F0 m pc ls st0) := by
  have hC : [ws.length].map (fun i => (ws ++ [(b, eb)])[i]?) = [(b, eb)].map some := by simp
  exact mk_last hW hA (va_runIN (As := []) CX (hM H.size) cw ⟨fun _ U g mk q => ⟨q.1, q.2.1, q.2.2.1, q.2.2.2.1, q.2.2.2.2.1.calling, hBb _ U g mk _ q.2.2.2.2.2⟩, fun U hU hWm => ⟨rfl, by rw [hU], by rw [hU]; exact (wld_sub hW [ws.length] (by simp [va_nd]) hC).1, (wld_sub hW [ws.length] (by simp [va_nd]) hC).2.weaken (fun _ _ _ _ => trivial), hE.warm hWm, hB U hU hWm (wld_free hW hA [ws.length] hC)⟩⟩ rfl rfl hls hst (lv_room (ls := ls) hroom) hdg hcs) kk
theorem rn_newQ (CX : CallFix p m c cc nL s args Ts own) (hE : EK G cA s) (hW : wld G A ws H0 H locs) (hA : ∀ q, H0.size ≤ q → A q) {index n : Nat} (hcl : Cond.classLink own index "DippedWaves$Tank" ∈ Ts) (hover : va_AO "DippedWaves$Tank" s) (hn : n < 134217728) (hcells : cells + 1 ≤ R.cells) (hslots : slots + n ≤ R.slots) (hdg : decode cc pc = .ok (.anewarray index, 3))
    (kk : ∀ (q : Nat) (H1 : Heap), wld G A (ws ++ [(q, .inl (cA 3, n, .inr (.inr (.inr (.inr (fun _ => none))))))]) H0 H1 locs → W p l e R s m args below meth c H1 locs (cells + 1) (slots + n) Q (F0 m (pc + 3) ls (.ref q :: rest))) : W p l e R s m args below meth c H locs cells slots Q (F0 m pc ls (.int (nI n) :: rest)) :=
  va_newq (N' := n) CX.1 CX.2.1 CX.2.2.2.1 (CX.2.2.2.2 _ hcl) hover hE.1 hW.1 hW.2.1 hW.2.2 hA (nI_pos (by omega)) (nI_clamp (by omega)) (by omega) hcells hslots hdg
    (fun q c' H1 k1 k2 k3 k4 => by have e := sameQ k1; subst e; exact kk q H1 ⟨k2, k3, k4⟩)
theorem rn_mna (CX : CallFix p m c cc nL s args Ts own) (hE : EK G cA s) (hW : wld G A ws H0 H locs) (hA : ∀ q, H0.size ≤ q → A q) {index : Nat} (hcl : Cond.classLink own index "[[I" ∈ Ts) (harr : Cond.arrayClass .int ∈ Ts) (hover : va_AOA .int s) (hcells : cells + 4 ≤ R.cells) (hslots : slots + 75 ≤ R.slots) (hdg : decode cc pc = .ok (.multianewarray index 2, 4))
    (kk : ∀ (q : Nat) (r : Nat → Nat) (H1 : Heap), wld G A (ws ++ [(q, .inl (cA 4, 3, .inr (.inr (.inr (.inr (fun i => if i < 3 then some (r i) else none)))))), (r 0, .inl (cA 0, 24, .inl (fun _ => nI 0))), (r 1, .inl (cA 0, 24, .inl (fun _ => nI 0))), (r 2, .inl (cA 0, 24, .inl (fun _ => nI 0)))]) H0 H1 locs → W p l e R s m args below meth c H1 locs (cells + 4) (slots + 75) Q (F0 m (pc + 4) ls (.ref q :: rest))) : W p l e R s m args below meth c H locs cells slots Q (F0 m pc ls (.int (nI 24) :: .int (nI 3) :: rest)) := by
  have w0 : ws = ws ++ va_pl [] (fun _ => (.inl (cA 0, 24, .inl (fun _ => nI 0)) : va_E)) := (List.append_nil ws).symm
  refine va_mna (X := ws) (L := []) (f := fun _ => (.inl (cA 0, 24, .inl (fun _ => nI 0)) : va_E)) (ty := .int) (cy := cA 0) (N' := 3) (K' := 24) (z := (24, .inl (fun _ => nI 0))) CX.1 CX.2.1 CX.2.2.2.1 (by rw [nmA]; exact CX.2.2.2.2 _ hcl) hover (CX.2.2.2.2 _ harr) (by rw [nmA2]; exact hE.nmI) hE.1 (w0 ▸ hW.1) (w0 ▸ hW.2.1) hW.2.2 hA (nI_pos (by decide)) (nI_pos (by decide)) (nI_clamp (by decide)) (nI_clamp (by decide)) (by decide) (by decide) (by decide) rfl rfl hcells hslots inner0 hdg (fun q r c' H1 _ _ k1 k2 k3 k4 => ?_)
  have e := sameA k1
  subst e
  have hf : ∀ l : List Nat, vr_up (fun _ => (.inl (cA 0, 24, .inl (fun _ => nI 0)) : va_E)) l (.inl (cA 0, (24, .inl (fun _ => nI 0)))) = fun _ => .inl (cA 0, 24, .inl (fun _ => nI 0)) := fun l => by
    funext x
    unfold vr_up
    split <;> rfl
  rw [hf, List.append_assoc] at k2 k3
  exact kk q r H1 ⟨k2, k3, k4⟩
theorem rn_cloneF {index t : Nat} (CX : CallFix p m c cc nL s args Ts own) (hE : EK G cA s) (hW : wld G A ws s.heap H locs) (hA : ∀ q, s.heap.size ≤ q → A q) (hF : FSM t A s) (hls : ls.size = nL)
    (hlink : Cond.methodLink own index ⟨"[I", "clone", "()Ljava/lang/Object;"⟩ ∈ Ts) (hsame : Cond.sameMethod "[I" "java/lang/Object" "clone" "()Ljava/lang/Object;" ∈ Ts) (hnat : Cond.native ⟨"java/lang/Object", "clone", "()Ljava/lang/Object;"⟩ ∈ Ts) (hinst : Cond.instanceMethod ⟨"java/lang/Object", "clone", "()Ljava/lang/Object;"⟩ ∈ Ts) (hsel : Cond.selects "[I" ⟨"[I", "clone", "()Ljava/lang/Object;"⟩ ⟨"java/lang/Object", "clone", "()Ljava/lang/Object;"⟩ ∈ Ts)
    (hframes : 1 ≤ R.frames) (hlocals : (rest.map fun v => v.category).sum + 14 ≤ R.locals) (hcells : cells + 1 ≤ R.cells) (hslots : slots + 4 ≤ R.slots) (hdg : decode cc pc = .ok (.invokevirtual index, 3))
    (kk : ∀ (q : Nat) (H1 : Heap), wld G A (ws ++ [(q, .inl (cA 0, 4, .inl firstF))]) s.heap H1 locs → W p l e R s m args below meth c H1 locs (cells + 1) (slots + 4) Q (F0 m (pc + 3) ls (.ref q :: rest))) : W p l e R s m args below meth c H locs cells slots Q (F0 m pc ls (.ref t :: rest)) := by
  obtain ⟨hx, hb, hml, hown, hts⟩ := CX
  obtain ⟨cell, hc, hst, hkn, hnm, hsl, hnA⟩ := hF.2.1
  obtain ⟨hP, hD, hS⟩ := hW
  have hcc := hE.nmI
  obtain ⟨c0, t0, f1, f2, f3⟩ := Cond.castable_spec (va_Nw.use (A := args) rfl hF.2.2.2.2)
  have ec : cell.cls = cA 0 := Option.some.inj (hnm.symm.trans hcc)
  have e0 : c0 = cA 0 := Option.some.inj (f1.symm.trans hcc)
  subst e0
  have hcE : ({ cls := cell.cls, slots := cell.slots } : Cell) = vp_cell (cA 0) (4, .inl firstF) := by
    rw [ec, hsl, vp_cell_i]
    rfl
  have hsz : cell.slots.size = 4 := by rw [hsl]; exact arrV_size _ _ _
  have hfit : ∀ (i : Nat) (v : Value), cell.slots[i]? = some v → fits .int v = true := fun i v hv => va_fit (cA := 0) (n := 4) (F := fun j => .int (firstF j)) (ty := .int) (fun _ _ => rfl) i v (by rw [← hsl]; exact hv)
  intro T hT X
  have hcellT : T.heap[t]? = some cell := by
    rw [hT, hS.2.1 t (Array.getElem?_eq_some_iff.mp hc).1 hnA]
    exact hc
  obtain ⟨-, kA, hkA, comp, hkind⟩ := State.isArrayOf_alike X.warmed.alike ((hE.1.2 0 _ rfl).1 0 (fun _ => .null))
  obtain ⟨-, kS, hkS, compS, hkindS⟩ := (hE.1.2 0 _ rfl).1 0 (fun _ => .null)
  obtain ⟨vm', X', st⟩ := X.cloneArray hx hown (hts _ hlink) (hts _ hsame) (hts _ hnat) (hts _ hinst) (hts _ hsel) (a := t) (cell := cell) hcellT hst hkn hnm f2 (by rw [ec]; exact f3)
    (fun i v hv => by
      rw [ec]
      have hk' : T.vm.classes[cA 0]? = some kA := hkA
      simpa [State.fitsSlot, State.slotType?, hk', hkind] using hfit i v hv)
    (g := F0 m pc ls (.ref t :: rest)) rfl (by rw [hml]; exact hls) rfl (by rw [hb]; exact hdg) hframes (by show 2 * 0 + _ + 14 ≤ _; omega) hcells (by rw [hsz]; exact hslots) (hloader := by rw [ec]; exact Vm.clonesLoader_of_array hkS hkindS)
  rw [hcE, hsz] at X'
  generalize hH1 : H.push (vp_cell (cA 0) (4, .inl firstF)) = H1
  have z1 : H1.size = H.size + 1 := by rw [← hH1, Array.size_push]
  have e1 : H1[H.size]? = some (vp_cell (cA 0) (4, .inl firstF)) := by rw [← hH1, Array.getElem?_push_size]
  have o1 : ∀ q : Nat, q < H.size → H1[q]? = H[q]? := fun q hq => by rw [← hH1, Array.getElem?_push, if_neg (Nat.ne_of_lt hq)]
  have hk : ∀ (k : Nat) (y : Nat × va_E), ws[k]? = some y → H1[y.1]? = H[y.1]? := fun k y hy => o1 y.1 ((hP k y hy).lt)
  obtain ⟨t9, b1, b2⟩ := kk H.size H1 ⟨(hP.kept hk).app (fun k y hy => by
      have hz : k < 1 := (List.getElem?_eq_some_iff.mp hy).1
      rw [show k = 0 by omega] at hy
      cases hy
      exact e1), hD.push hP rfl (hA _ hS.1), ⟨Nat.le_trans hS.1 (by omega), fun y h1 h2 => (o1 y (Nat.lt_of_lt_of_le h1 hS.1)).trans (hS.2.1 y h1 h2), hS.2.2⟩⟩
    ((T.setVm vm').pushCell (vp_cell (cA 0) (4, .inl firstF))) (by rw [← hH1, ← hT]; rfl) X'
  refine ⟨t9, st t9 ?_, b2⟩
  rw [hcE, hT]
  exact b1
theorem rpF {C : String} {T : u_T} {N ci : Nat} (CX : CallFix p m c cc nL s args Ts own) (hE : EK G cA s) (hin2 : meth.name = "<init>") (hW : wld G A ws H0 H locs) (hin : ∀ w ∈ u_ws C T N, w ∈ Ts) (ty0 : Nat → FieldType) (hty : ∀ k, k < N → parseFieldDescriptor (T k).2.2.1 = some (ty0 k)) (hnm : ∀ a, a < N → ∀ b, b < N → a ≠ b → (T a).2.1 ≠ (T b).2.1) (q0 : Nat) {a : Nat} {fs : List Value} (he : ws[q0]? = some (a, .inr (ci, fs))) (hc : vwCl[ci]? = some (C, T, N)) (k : Nat) (hk : k < N) {index : Nat} (hlink : Cond.fieldLink own index C (T k).2.1 (T k).2.2.1 ∈ Ts) (hTk : (T k).1 = C) (hdecl : (T k).1 = own) (hfin : (T k).2.2.2 = true) {v : Value} (hn : narrow (ty0 k) v = v) (hfit : fits (ty0 k) v = true) (hl : k < fs.length) (hws : ws.set q0 (a, .inr (ci, fs.set k v)) = ws')
    (hdg : decode cc pc = .ok (.putfield index, 3)) (kk : ∀ (H1 : Heap) (locs1 : List Loc), wld G A ws' H0 H1 locs1 → W p l e R s m args below meth c H1 locs1 cells slots Q (F0 m (pc + 3) ls rest)) : W p l e R s m args below meth c H locs cells slots Q (F0 m pc ls (v :: .ref a :: rest)) :=
  va_putF CX.1 CX.2.1 CX.2.2.2.2 hin ty0 hty hnm CX.2.2.2.1 hE.1 hW.1 hW.2.1 hW.2.2 q0 he hc k hk (CX.2.2.2.2 _ hlink) (fun x h => by rw [hTk] at h; exact h) hfin hin2 hdecl (hty k hk) hn hfit hl hdg (by rw [hws]; exact fun H1 l1 h1 h2 h3 => kk H1 l1 ⟨h1, h2, h3⟩)
variable {segs segs' : List va_W} {w w' : va_W}
theorem rpFS {C : String} {T : u_T} {N ci : Nat} (CX : CallFix p m c cc nL s args Ts own) (hE : EK G cA s) (hin2 : meth.name = "<init>") (hW : wldS G A segs H0 H locs) (k0 : Nat) (hk0 : segs[k0]? = some w) (hin : ∀ w ∈ u_ws C T N, w ∈ Ts) (ty0 : Nat → FieldType) (hty : ∀ k, k < N → parseFieldDescriptor (T k).2.2.1 = some (ty0 k)) (hnm : ∀ a, a < N → ∀ b, b < N → a ≠ b → (T a).2.1 ≠ (T b).2.1) (q0 : Nat) {a : Nat} {fs : List Value} (he : w[q0]? = some (a, .inr (ci, fs))) (hc : vwCl[ci]? = some (C, T, N)) (k : Nat) (hk : k < N) {index : Nat} (hlink : Cond.fieldLink own index C (T k).2.1 (T k).2.2.1 ∈ Ts) (hTk : (T k).1 = C) (hdecl : (T k).1 = own) (hfin : (T k).2.2.2 = true) {v : Value} (hn : narrow (ty0 k) v = v) (hfit : fits (ty0 k) v = true) (hl : k < fs.length) (hs : w.set q0 (a, .inr (ci, fs.set k v)) = w') (hset : segs.set k0 w' = segs')
    (hdg : decode cc pc = .ok (.putfield index, 3)) (kk : ∀ (H1 : Heap) (locs1 : List Loc), wldS G A segs' H0 H1 locs1 → W p l e R s m args below meth c H1 locs1 cells slots Q (F0 m (pc + 3) ls rest)) : W p l e R s m args below meth c H locs cells slots Q (F0 m pc ls (v :: .ref a :: rest)) :=
  rpF CX hE hin2 hW.flat hin ty0 hty hnm (offS segs k0 + q0) (flat_get hk0 he) hc k hk hlink hTk hdecl hfin hn hfit hl rfl hdg (fun H1 l1 h => kk H1 l1 (wldS.reset hk0 he hs hset h))
end ROWSM
theorem wldS.snoc {G : va_G} {A : Nat → Prop} {segs : List va_W} {w : va_W} {H0 H : Heap} {locs : List Loc} (hW : wld G A (segs.flatten ++ w) H0 H locs) : wldS G A (segs ++ [w]) H0 H locs := wldS.of (by rw [List.flatten_append]; simpa using hW)
