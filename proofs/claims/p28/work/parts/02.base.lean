/-! The base: two forms of contract (RO: reads only, MU: writes), and rows of one line an instruction or a call. -/
abbrev tys0 (cA : Nat → ClassId) : List (ClassId × FieldType) := [(cA 0, .int), (cA 1, .char), (cA 2, .boolean), (cA 3, .object "DippedWaves$Tank"), (cA 4, .array .int)]
def nestW : List Cond := [.fieldLinkNest RX4 9 RX5 "FIRST_SETTINGS" "[I" RX5, .methodLinkNest RX4 37 yX0_init RX5, .methodLinkNest RX4 44 yX3_init RX5, .methodLinkNest RX5 36 yX2_init RX5, .methodLinkNest RX4 107 yX5_bounded RX5, .methodLinkNest RX4 117 yX5_isCell RX5, .methodLinkNest RX4 121 yX5_placeOf RX5]
/-- what stays known of the machine: the classes, the array classes, the nest mates' links -/
def EK (G : va_G) (cA : Nat → ClassId) (U : State) : Prop := va_K G vwCl (tys0 cA) U ∧ ∀ w ∈ nestW, va_Nw w U
theorem EK.warm {G : va_G} {cA : Nat → ClassId} {s U : State} (hW : s.WarmedH U.vm) (h : EK G cA s) : EK G cA U := by
  refine ⟨va_K.moved hW.alike h.1, fun w hw => ?_⟩
  have h2 := h.2 w hw
  simp only [nestW, List.mem_cons, List.not_mem_nil, or_false] at hw
  rcases hw with rfl | rfl | rfl | rfl | rfl | rfl | rfl
  · exact va_Nw.warmF hW h2
  all_goals exact va_Nw.warmM hW h2
theorem EK.calling {G : va_G} {cA : Nat → ClassId} {U : State} {g : JFrame} {mk : MethodId} {a : Array Value} (h : EK G cA U) : EK G cA (U.calling g mk a) := by
  refine ⟨va_K.moved (u := U) (U := U.calling g mk a) (Vm.Alike.refl U.vm) h.1, fun w hw => ?_⟩
  have h2 := h.2 w hw
  simp only [nestW, List.mem_cons, List.not_mem_nil, or_false] at hw
  rcases hw with rfl | rfl | rfl | rfl | rfl | rfl | rfl <;> exact va_Nw.same rfl (rfl : U.vm = (U.calling g mk a).vm) h2
def blindB (B : State → Prop) : Prop := ∀ (U : State) (g : JFrame) (mk : MethodId) (a : Array Value), B U → B (U.calling g mk a)
abbrev B0 : State → Prop := fun _ => True
theorem B0_blind : blindB B0 := fun _ _ _ _ _ => trivial
/-- a method that reads only: its world is w, its arguments av, its answer v -/
def RO (l : Launch) (y : MethodName) (wy : List Cond) (rm : Room) (G : va_G) (cA : Nat → ClassId) (B : State → Prop) (w : va_W) (av : List Value) (v : Int32) : Prop :=
  Met l y wy rm (va_Pc av (fun U => va_P G vwCl w U.heap ∧ EK G cA U ∧ B U)) (vp_Si (fun r => r = v)) 0 0 (fun _ => False)
theorem RO.mk {l : Launch} {y : MethodName} {wy ws' : List Cond} {rm : Room} {G : va_G} {cA : Nat → ClassId} {B : State → Prop} {w : va_W} {av : List Value} {v : Int32} {cc : ByteArray} {maxL : Nat} {rt : Option FieldType} {own : String} (hy : plainName y.cls = true) (hown : y.cls = own) (hw : wy = Cond.code y cc maxL rt :: ws') (hn : (lg_sl av).length ≤ maxL)
    (body : ∀ (p : Program) (e : Env) (s : State) (m : MethodId) (below : List Frame) (meth : Method) (c : Code) (ls : Array Slot), CallFix p m c cc maxL s av.toArray wy own → meth.sig.returnType = rt → meth.locks = false → va_P G vwCl w s.heap → EK G cA s → B s → lv_has ls maxL (lv_args 0 av) →
      W p l e rm s m av.toArray below meth c s.heap [] 0 0 (MQ below (vp_Si (fun r => r = v)) av.toArray s 0 0 (fun _ => False)) (F0 m 0 ls [])) : RO l y wy rm G cA B w av v := by
  refine Met.ofW (cc := cc) (maxL := maxL) (ret := rt) hy hw ?_
  intro p e s m args below meth c s₁ Bd hml hv
  obtain ⟨rfl, hP, hE, hB⟩ := hv
  have hts := atoms_spec (ws := wy) Bd.pre
  have hl := lv_entry av (n := maxL) hn
  rw [lg_entry_eq]
  generalize (lg_sl av ++ List.replicate (maxL - (lg_sl av).length) Slot.unset).toArray = ls at hl ⊢
  exact body p e s m below meth c ls ⟨Bd.exec, Bd.bytes, hml, hown ▸ findClass_of_methodNamed Bd.named, hts⟩ Bd.returns Bd.notSynchronized hP hE hB hl
/-- the world so far: held, apart, and nothing else written -/
def wld (G : va_G) (A : Nat → Prop) (ws : va_W) (H0 H : Heap) (locs : List Loc) : Prop := va_P G vwCl ws H ∧ va_D A ws ∧ va_S A H0 H locs
/-- a method that writes and makes nothing: world w before, w' after -/
def MUv (l : Launch) (y : MethodName) (wy : List Cond) (rm : Room) (G : va_G) (cA : Nat → ClassId) (B : (Nat → Prop) → State → Prop) (w : va_W) (av : List Value) (w' : va_W) : Prop := ∀ sz : Nat,
  Met l y wy rm (va_Pc av (fun U => U.heap.size = sz ∧ va_P G vwCl w U.heap ∧ va_D (fun _ => True) w ∧ EK G cA U ∧ B (va_A w sz) U)) (va_Qv (fun _ : Unit => True) (fun _ t => va_P G vwCl w' t.heap ∧ va_D (va_A w sz) w') (va_A w sz)) 0 0 (va_A w sz)
def MUi (l : Launch) (y : MethodName) (wy : List Cond) (rm : Room) (G : va_G) (cA : Nat → ClassId) (B : (Nat → Prop) → State → Prop) (w : va_W) (av : List Value) (w' : va_W) (v : Int32) : Prop := ∀ sz : Nat,
  Met l y wy rm (va_Pc av (fun U => U.heap.size = sz ∧ va_P G vwCl w U.heap ∧ va_D (fun _ => True) w ∧ EK G cA U ∧ B (va_A w sz) U)) (va_Qi (fun r (_ : Unit) => r = v) (fun _ t => va_P G vwCl w' t.heap ∧ va_D (va_A w sz) w') (va_A w sz)) 0 0 (va_A w sz)
theorem MUv.mk {l : Launch} {y : MethodName} {wy ws' : List Cond} {rm : Room} {G : va_G} {cA : Nat → ClassId} {B : (Nat → Prop) → State → Prop} {w w' : va_W} {av : List Value} {cc : ByteArray} {maxL : Nat} {rt : Option FieldType} {own : String} (hy : plainName y.cls = true) (hown : y.cls = own) (hw : wy = Cond.code y cc maxL rt :: ws') (hn : (lg_sl av).length ≤ maxL)
    (body : ∀ (p : Program) (e : Env) (s : State) (m : MethodId) (below : List Frame) (meth : Method) (c : Code) (ls : Array Slot) (A : Nat → Prop), CallFix p m c cc maxL s av.toArray wy own → meth.sig.returnType = rt → meth.locks = false → wld G A w s.heap s.heap [] → (∀ q, s.heap.size ≤ q → A q) → EK G cA s → B A s → lv_has ls maxL (lv_args 0 av) →
      W p l e rm s m av.toArray below meth c s.heap [] 0 0 (MQ below (va_Qv (fun _ : Unit => True) (fun _ t => va_P G vwCl w' t.heap ∧ va_D A w') A) av.toArray s 0 0 A) (F0 m 0 ls [])) : MUv l y wy rm G cA B w av w' := by
  intro sz
  refine Met.ofW (cc := cc) (maxL := maxL) (ret := rt) hy hw ?_
  intro p e s m args below meth c s₁ Bd hml hv
  obtain ⟨rfl, hsz, hP, hD0, hE, hB⟩ := hv
  subst hsz
  have hts := atoms_spec (ws := wy) Bd.pre
  have hl := lv_entry av (n := maxL) hn
  have hD := hD0.self (sz := s.heap.size)
  generalize hAe : va_A w s.heap.size = A at hD hB ⊢
  have hA : ∀ q : Nat, s.heap.size ≤ q → A q := fun q h => by rw [← hAe]; exact Or.inr h
  rw [lg_entry_eq]
  generalize (lg_sl av ++ List.replicate (maxL - (lg_sl av).length) Slot.unset).toArray = ls at hl ⊢
  exact body p e s m below meth c ls A ⟨Bd.exec, Bd.bytes, hml, hown ▸ findClass_of_methodNamed Bd.named, hts⟩ Bd.returns Bd.notSynchronized ⟨hP, hD, va_S.rf⟩ hA hE hB hl
theorem MUi.mk {l : Launch} {y : MethodName} {wy ws' : List Cond} {rm : Room} {G : va_G} {cA : Nat → ClassId} {B : (Nat → Prop) → State → Prop} {w w' : va_W} {av : List Value} {v : Int32} {cc : ByteArray} {maxL : Nat} {rt : Option FieldType} {own : String} (hy : plainName y.cls = true) (hown : y.cls = own) (hw : wy = Cond.code y cc maxL rt :: ws') (hn : (lg_sl av).length ≤ maxL)
    (body : ∀ (p : Program) (e : Env) (s : State) (m : MethodId) (below : List Frame) (meth : Method) (c : Code) (ls : Array Slot) (A : Nat → Prop), CallFix p m c cc maxL s av.toArray wy own → meth.sig.returnType = rt → meth.locks = false → wld G A w s.heap s.heap [] → (∀ q, s.heap.size ≤ q → A q) → EK G cA s → B A s → lv_has ls maxL (lv_args 0 av) →
      W p l e rm s m av.toArray below meth c s.heap [] 0 0 (MQ below (va_Qi (fun r (_ : Unit) => r = v) (fun _ t => va_P G vwCl w' t.heap ∧ va_D A w') A) av.toArray s 0 0 A) (F0 m 0 ls [])) : MUi l y wy rm G cA B w av w' v := by
  intro sz
  refine Met.ofW (cc := cc) (maxL := maxL) (ret := rt) hy hw ?_
  intro p e s m args below meth c s₁ Bd hml hv
  obtain ⟨rfl, hsz, hP, hD0, hE, hB⟩ := hv
  subst hsz
  have hts := atoms_spec (ws := wy) Bd.pre
  have hl := lv_entry av (n := maxL) hn
  have hD := hD0.self (sz := s.heap.size)
  generalize hAe : va_A w s.heap.size = A at hD hB ⊢
  have hA : ∀ q : Nat, s.heap.size ≤ q → A q := fun q h => by rw [← hAe]; exact Or.inr h
  rw [lg_entry_eq]
  generalize (lg_sl av ++ List.replicate (maxL - (lg_sl av).length) Slot.unset).toArray = ls at hl ⊢
  exact body p e s m below meth c ls A ⟨Bd.exec, Bd.bytes, hml, hown ▸ findClass_of_methodNamed Bd.named, hts⟩ Bd.returns Bd.notSynchronized ⟨hP, hD, va_S.rf⟩ hA hE hB hl
/-- places of a world, written over -/
def putW : va_W → List Nat → va_W → va_W
  | ws, i :: is, e :: es => putW (ws.set i e) is es
  | ws, _, _ => ws
theorem putW_key : ∀ (pl : List Nat) (w1 ws : va_W), pl.length = w1.length → ∀ (k : Nat) (q : Nat × va_E), (putW ws pl w1)[k]? = some q → (∃ j : Nat, pl[j]? = some k ∧ w1[j]? = some q) ∨ (k ∉ pl ∧ ws[k]? = some q)
  | [], w1, ws, hlen, k, q, h => Or.inr ⟨List.not_mem_nil, by cases w1 <;> exact h⟩
  | i :: is, [], ws, hlen, k, q, h => by cases hlen
  | i :: is, e :: es, ws, hlen, k, q, h => by
    rcases putW_key is es (ws.set i e) (Nat.succ.inj hlen) k q h with ⟨j, h1, h2⟩ | ⟨h1, h2⟩
    · exact Or.inl ⟨j + 1, h1, h2⟩
    · by_cases hk : k = i
      · subst hk
        have hl := (List.getElem?_eq_some_iff.mp h2).1
        rw [List.length_set] at hl
        rw [List.getElem?_set_self hl] at h2
        exact Or.inl ⟨0, rfl, h2⟩
      · rw [List.getElem?_set_ne (Ne.symm hk)] at h2
        refine Or.inr ⟨fun hm => ?_, h2⟩
        rcases List.mem_cons.mp hm with z | z
        · exact hk z
        · exact h1 z
theorem wld_join {G : va_G} {A0 : Nat → Prop} {ws wc w1 ws' : va_W} {H0 H H1 : Heap} {locs locs1 : List Loc} (hW : wld G A0 ws H0 H locs) (pl : List Nat) (hC : pl.map (fun i => ws[i]?) = wc.map some) (hlen : pl.length = w1.length) (hput : putW ws pl w1 = ws')
    (hk : ∀ q : Nat, q < H.size → ¬ va_A wc H.size q → H1[q]? = H[q]?) (hF : ∀ q, va_A wc H.size q → A0 q) (hP1 : va_P G vwCl w1 H1) (hD1 : va_D (va_A wc H.size) w1) (hS : va_S A0 H0 H1 locs1) : wld G A0 ws' H0 H1 locs1 := by
  subst hput
  obtain ⟨hP, hD, -⟩ := hW
  have apart : ∀ (k : Nat) (q : Nat × va_E), k ∉ pl → ws[k]? = some q → q.1 < H.size ∧ ¬ va_A wc H.size q.1 := by
    intro k q hkp hq
    have hl := (hP k q hq).lt
    refine ⟨hl, fun h => ?_⟩
    rcases h with ⟨k2, e, h⟩ | h
    · have h1 : (pl.map (fun i => ws[i]?))[k2]? = some (some (q.1, e)) := by rw [hC, List.getElem?_map, h]; rfl
      rw [List.getElem?_map] at h1
      cases hi : pl[k2]? with
      | none => rw [hi] at h1; cases h1
      | some i =>
        rw [hi] at h1
        have h3 : ws[i]? = some (q.1, e) := Option.some.inj h1
        have hij := hD.1 k i q (q.1, e) hq h3 rfl
        subst hij
        exact hkp (List.mem_of_getElem? hi)
    · omega
  refine ⟨fun k q hq => ?_, ⟨fun i j p q hi hj hpq => ?_, fun k q hq => ?_⟩, hS⟩
  · rcases putW_key pl w1 ws hlen k q hq with ⟨j, -, h2⟩ | ⟨h1, h2⟩
    · exact hP1 j q h2
    · obtain ⟨g1, g2⟩ := apart k q h1 h2
      exact (hP k q h2).kept (hk q.1 g1 g2)
  · rcases putW_key pl w1 ws hlen i p hi with ⟨a, a1, a2⟩ | ⟨a1, a2⟩ <;> rcases putW_key pl w1 ws hlen j q hj with ⟨b, b1, b2⟩ | ⟨b1, b2⟩
    · have hab := hD1.1 a b p q a2 b2 hpq
      subst hab
      exact Option.some.inj (a1.symm.trans b1)
    · exact absurd (hpq ▸ hD1.2 a p a2) (apart j q b1 b2).2
    · exact absurd (hpq ▸ hD1.2 b q b2) (apart i p a1 a2).2
    · exact hD.1 i j p q a2 b2 hpq
  · rcases putW_key pl w1 ws hlen k q hq with ⟨j, -, h2⟩ | ⟨h1, h2⟩
    · exact hF _ (hD1.2 j q h2)
    · exact hD.2 k q h2
/-- an array's contents, as far as it goes -/
theorem va_cell_ext {c : ClassId} {n : Nat} {f g : Nat → Int32} (h : ∀ j, j < n → f j = g j) : vp_cell c (n, .inl f) = vp_cell c (n, .inl g) := by
  rw [vp_cell_i, vp_cell_i]
  unfold arrV
  congr 1
  apply Array.ext
  · simp
  · intro i h1 h2
    simp at h1
    simp [h i h1]
theorem wld.ext {G : va_G} {A : Nat → Prop} {ws : va_W} {H0 H : Heap} {locs : List Loc} (hW : wld G A ws H0 H locs) (q0 : Nat) {a n : Nat} {c : ClassId} {f g : Nat → Int32} (ha : ws[q0]? = some (a, .inl (c, n, .inl f))) (h : ∀ j, j < n → f j = g j) {ws' : va_W} (hws : ws.set q0 (a, .inl (c, n, .inl g)) = ws') : wld G A ws' H0 H locs := by
  subst hws
  obtain ⟨hP, hD, hS⟩ := hW
  refine ⟨hP.set hD ha ?_ (fun _ _ => rfl), hD.set ha, hS⟩
  show H[a]? = some (vp_cell _ _)
  rw [← va_cell_ext h]
  exact hP q0 _ ha
section ROWS
variable {p : Program} {l : Launch} {e : Env} {R : Room} {s : State} {m : MethodId} {args : Array Value} {below : List Frame} {meth : Method} {c : Code} {H : Heap} {locs : List Loc} {cells slots : Nat} {Q : State → Prop}
variable {cc : ByteArray} {pc nL : Nat} {ls : Array Slot} {rest : List Value} {G : va_G} {cA : Nat → ClassId} {A : Nat → Prop} {a : Nat} {ws ws' : va_W} {H0 : Heap} {Ts : List Cond} {own : String}
/-- the end of a method that reads only -/
theorem ro_ret {rt : FieldType} (CX : CallFix p m c cc nL s args Ts own) (hr : meth.sig.returnType = some rt) (hlk : meth.locks = false) {r v : Int32} (hv : r = v) (hn : narrow rt (.int r) = .int r) (hdg : decode cc pc = .ok (.ireturn, 1)) : W p l e R s m args below meth c s.heap [] 0 0 (MQ below (vp_Si (fun r => r = v)) args s 0 0 (fun _ => False)) (F0 m pc ls [.int r]) :=
  W.zret CX.1 CX.2.1 hr hn (fun t ht _ => ⟨r, rfl, hv, ht⟩) (fun q h => by cases h) hdg hlk
theorem mu_retv (CX : CallFix p m c cc nL s args Ts own) (hr : meth.sig.returnType = none) (hlk : meth.locks = false) (hW : wld G A ws s.heap H locs) (hdg : decode cc pc = .ok (.return_, 1)) : W p l e R s m args below meth c H locs cells slots (MQ below (va_Qv (fun _ : Unit => True) (fun _ t => va_P G vwCl ws t.heap ∧ va_D A ws) A) args s cells slots A) (F0 m pc ls []) :=
  W.vret CX.1 CX.2.1 hr (fun t ht _ => ⟨⟨(), rfl, trivial, by rw [ht]; exact hW.1, hW.2.1⟩, hW.2.2.F ht⟩) hW.2.2.2.2 hdg hlk
theorem mu_reti {rt : FieldType} (CX : CallFix p m c cc nL s args Ts own) (hr : meth.sig.returnType = some rt) (hlk : meth.locks = false) {r v : Int32} (hv : r = v) (hn : narrow rt (.int r) = .int r) (hW : wld G A ws s.heap H locs) (hdg : decode cc pc = .ok (.ireturn, 1)) : W p l e R s m args below meth c H locs cells slots (MQ below (va_Qi (fun r (_ : Unit) => r = v) (fun _ t => va_P G vwCl ws t.heap ∧ va_D A ws) A) args s cells slots A) (F0 m pc ls [.int r]) :=
  W.zret CX.1 CX.2.1 hr hn (fun t ht _ => ⟨⟨r, (), rfl, hv, by rw [ht]; exact hW.1, hW.2.1⟩, hW.2.2.F ht⟩) hW.2.2.2.2 hdg hlk
/-- numbers that are naturals -/
theorem rn_iconst (hx : p.tables.exec = Jvm.exec) (hb : c.code = cc) (k : Nat) {z : Int} (hz : z = (k : Int)) (hdg : decode cc pc = .ok (.iconst z, 1)) (kk : W p l e R s m args below meth c H locs cells slots Q (F0 m (pc + 1) ls (.int (nI k) :: rest))) : W p l e R s m args below meth c H locs cells slots Q (F0 m pc ls rest) :=
  lv_iconst hx hb hdg (by subst hz; exact Int32.ofInt_eq_ofNat) kk
theorem rn_top {x : Int32} (y : Int32) (h : x = y) (kk : W p l e R s m args below meth c H locs cells slots Q (F0 m pc ls (.int y :: rest))) : W p l e R s m args below meth c H locs cells slots Q (F0 m pc ls (.int x :: rest)) := h ▸ kk
theorem rn_iadd (hx : p.tables.exec = Jvm.exec) (hb : c.code = cc) {i j : Nat} (hdg : decode cc pc = .ok (.iadd, 1)) (kk : W p l e R s m args below meth c H locs cells slots Q (F0 m (pc + 1) ls (.int (nI (i + j)) :: rest))) : W p l e R s m args below meth c H locs cells slots Q (F0 m pc ls (.int (nI j) :: .int (nI i) :: rest)) :=
  lv_iadd hx hb hdg (by rw [nI_add]; exact kk)
theorem rn_isub (hx : p.tables.exec = Jvm.exec) (hb : c.code = cc) {i j : Nat} (h : j ≤ i) (hdg : decode cc pc = .ok (.isub, 1)) (kk : W p l e R s m args below meth c H locs cells slots Q (F0 m (pc + 1) ls (.int (nI (i - j)) :: rest))) : W p l e R s m args below meth c H locs cells slots Q (F0 m pc ls (.int (nI j) :: .int (nI i) :: rest)) :=
  lv_isub hx hb hdg (by rw [pk_sub h]; exact kk)
theorem rn_imul (hx : p.tables.exec = Jvm.exec) (hb : c.code = cc) {i j : Nat} (hdg : decode cc pc = .ok (.imul, 1)) (kk : W p l e R s m args below meth c H locs cells slots Q (F0 m (pc + 1) ls (.int (nI (i * j)) :: rest))) : W p l e R s m args below meth c H locs cells slots Q (F0 m pc ls (.int (nI j) :: .int (nI i) :: rest)) :=
  lv_imul hx hb hdg (by rw [pk_mul]; exact kk)
theorem rn_idiv (hx : p.tables.exec = Jvm.exec) (hb : c.code = cc) {i j : Nat} (hi : i < 2147483648) (hj : 0 < j) (hj2 : j < 2147483648) (hdg : decode cc pc = .ok (.idiv, 1)) (kk : W p l e R s m args below meth c H locs cells slots Q (F0 m (pc + 1) ls (.int (nI (i / j)) :: rest))) : W p l e R s m args below meth c H locs cells slots Q (F0 m pc ls (.int (nI j) :: .int (nI i) :: rest)) :=
  lv_idiv hx hb hdg (nI_ne0 hj hj2) (by rw [pk_div hi hj hj2]; exact kk)
theorem rn_irem (hx : p.tables.exec = Jvm.exec) (hb : c.code = cc) {i j : Nat} (hi : i < 2147483648) (hj : 0 < j) (hj2 : j < 2147483648) (hdg : decode cc pc = .ok (.irem, 1)) (kk : W p l e R s m args below meth c H locs cells slots Q (F0 m (pc + 1) ls (.int (nI (i % j)) :: rest))) : W p l e R s m args below meth c H locs cells slots Q (F0 m pc ls (.int (nI j) :: .int (nI i) :: rest)) :=
  lv_irem hx hb hdg (nI_ne0 hj hj2) (by rw [pk_rem hi hj hj2]; exact kk)
theorem rn_iinc (hx : p.tables.exec = Jvm.exec) (hb : c.code = cc) {i k j n : Nat} {lv lv' : List (Nat × Value)} {z : Int} (hz : z = (n : Int)) (hdg : decode cc pc = .ok (.iinc i z, 3)) (h : lv_has ls nL lv) (hk : lv[k]? = some (i, .int (nI j))) (hn : i < nL) (hl : (i, Value.int (nI (j + n))) :: lv.filter (fun q => !(q.1 == i) && !(q.1 + 1 == i && q.2.category == 2)) = lv')
    (kk : ∀ ls' : Array Slot, lv_has ls' nL lv' → W p l e R s m args below meth c H locs cells slots Q (F0 m (pc + 3) ls' rest)) : W p l e R s m args below meth c H locs cells slots Q (F0 m pc ls rest) :=
  lv_iinc (v := nI (j + n)) hx hb hdg h hk (by rw [← nI_add]; subst hz; rw [Int32.ofInt_eq_ofNat]; rfl) hn hl kk
theorem rn_iincm (hx : p.tables.exec = Jvm.exec) (hb : c.code = cc) {i k j n : Nat} (hjn : n ≤ j) {lv lv' : List (Nat × Value)} {z : Int} (hz : z = -(n : Int)) (hdg : decode cc pc = .ok (.iinc i z, 3)) (h : lv_has ls nL lv) (hk : lv[k]? = some (i, .int (nI j))) (hn : i < nL) (hl : (i, Value.int (nI (j - n))) :: lv.filter (fun q => !(q.1 == i) && !(q.1 + 1 == i && q.2.category == 2)) = lv')
    (kk : ∀ ls' : Array Slot, lv_has ls' nL lv' → W p l e R s m args below meth c H locs cells slots Q (F0 m (pc + 3) ls' rest)) : W p l e R s m args below meth c H locs cells slots Q (F0 m pc ls rest) :=
  lv_iinc (v := nI (j - n)) hx hb hdg h hk (by rw [← pk_sub hjn]; subst hz; rw [Int32.ofInt_neg, Int32.ofInt_eq_ofNat, Int32.sub_eq_add_neg]; rfl) hn hl kk
theorem rn_icmp_ge (hx : p.tables.exec = Jvm.exec) (hb : c.code = cc) {i j : Nat} {off : Int} {tgt : Nat} (hi : i < 2147483648) (hj : j < 2147483648) (hdg : decode cc pc = .ok (.if_icmp .ge off, 3)) (ht : (pc : Int) + off = (tgt : Int)) (kt : j ≤ i → W p l e R s m args below meth c H locs cells slots Q (F0 m tgt ls rest)) (kf : i < j → W p l e R s m args below meth c H locs cells slots Q (F0 m (pc + 3) ls rest)) : W p l e R s m args below meth c H locs cells slots Q (F0 m pc ls (.int (nI j) :: .int (nI i) :: rest)) :=
  lv_icmp_ge hx hb hdg ht (fun h => kt ((nI_leI hj hi).mp h)) (fun h => kf (Nat.not_le.mp fun z => h ((nI_leI hj hi).mpr z)))
theorem rn_icmp_gt (hx : p.tables.exec = Jvm.exec) (hb : c.code = cc) {i j : Nat} {off : Int} {tgt : Nat} (hi : i < 2147483648) (hj : j < 2147483648) (hdg : decode cc pc = .ok (.if_icmp .gt off, 3)) (ht : (pc : Int) + off = (tgt : Int)) (kt : j < i → W p l e R s m args below meth c H locs cells slots Q (F0 m tgt ls rest)) (kf : i ≤ j → W p l e R s m args below meth c H locs cells slots Q (F0 m (pc + 3) ls rest)) : W p l e R s m args below meth c H locs cells slots Q (F0 m pc ls (.int (nI j) :: .int (nI i) :: rest)) :=
  lv_icmp_gt hx hb hdg ht (fun h => kt ((nI_ltI hj hi).mp h)) (fun h => kf (Nat.not_lt.mp fun z => h ((nI_ltI hj hi).mpr z)))
theorem rn_icmp_le (hx : p.tables.exec = Jvm.exec) (hb : c.code = cc) {i j : Nat} {off : Int} {tgt : Nat} (hi : i < 2147483648) (hj : j < 2147483648) (hdg : decode cc pc = .ok (.if_icmp .le off, 3)) (ht : (pc : Int) + off = (tgt : Int)) (kt : i ≤ j → W p l e R s m args below meth c H locs cells slots Q (F0 m tgt ls rest)) (kf : j < i → W p l e R s m args below meth c H locs cells slots Q (F0 m (pc + 3) ls rest)) : W p l e R s m args below meth c H locs cells slots Q (F0 m pc ls (.int (nI j) :: .int (nI i) :: rest)) :=
  lv_icmp_le hx hb hdg ht (fun h => kt ((nI_leI hi hj).mp h)) (fun h => kf (Nat.not_le.mp fun z => h ((nI_leI hi hj).mpr z)))
theorem rn_icmp_lt (hx : p.tables.exec = Jvm.exec) (hb : c.code = cc) {i j : Nat} {off : Int} {tgt : Nat} (hi : i < 2147483648) (hj : j < 2147483648) (hdg : decode cc pc = .ok (.if_icmp .lt off, 3)) (ht : (pc : Int) + off = (tgt : Int)) (kt : i < j → W p l e R s m args below meth c H locs cells slots Q (F0 m tgt ls rest)) (kf : j ≤ i → W p l e R s m args below meth c H locs cells slots Q (F0 m (pc + 3) ls rest)) : W p l e R s m args below meth c H locs cells slots Q (F0 m pc ls (.int (nI j) :: .int (nI i) :: rest)) :=
  lv_icmp_lt hx hb hdg ht (fun h => kt ((nI_ltI hi hj).mp h)) (fun h => kf (Nat.not_lt.mp fun z => h ((nI_ltI hi hj).mpr z)))
theorem rn_icmp_eq (hx : p.tables.exec = Jvm.exec) (hb : c.code = cc) {i j : Nat} {off : Int} {tgt : Nat} (hi : i < 2147483648) (hj : j < 2147483648) (hdg : decode cc pc = .ok (.if_icmp .eq off, 3)) (ht : (pc : Int) + off = (tgt : Int)) (kt : i = j → W p l e R s m args below meth c H locs cells slots Q (F0 m tgt ls rest)) (kf : i ≠ j → W p l e R s m args below meth c H locs cells slots Q (F0 m (pc + 3) ls rest)) : W p l e R s m args below meth c H locs cells slots Q (F0 m pc ls (.int (nI j) :: .int (nI i) :: rest)) :=
  lv_icmp_eq hx hb hdg ht (fun h => kt ((nI_eq hi hj).mp h)) (fun h => kf (fun z => h ((nI_eq hi hj).mpr z)))
theorem rn_icmp_ne (hx : p.tables.exec = Jvm.exec) (hb : c.code = cc) {i j : Nat} {off : Int} {tgt : Nat} (hi : i < 2147483648) (hj : j < 2147483648) (hdg : decode cc pc = .ok (.if_icmp .ne off, 3)) (ht : (pc : Int) + off = (tgt : Int)) (kt : i ≠ j → W p l e R s m args below meth c H locs cells slots Q (F0 m tgt ls rest)) (kf : i = j → W p l e R s m args below meth c H locs cells slots Q (F0 m (pc + 3) ls rest)) : W p l e R s m args below meth c H locs cells slots Q (F0 m pc ls (.int (nI j) :: .int (nI i) :: rest)) :=
  lv_icmp_ne hx hb hdg ht (fun h => kt (fun z => h ((nI_eq hi hj).mpr z))) (fun h => kf ((nI_eq hi hj).mp h))
/-- arrays, by a natural index -/
theorem rn_iald (CX : CallFix p m c cc nL s args Ts own) (hE : EK G cA s) (hP : va_P G vwCl ws H) (q0 : Nat) {n : Nat} {f : Nat → Int32} (ha : ws[q0]? = some (a, .inl (cA 0, n, .inl f))) {j : Nat} (hj : j < n) (hn : n < 2147483648) (hdg : decode cc pc = .ok (.iaload, 1)) (kk : W p l e R s m args below meth c H locs cells slots Q (F0 m (pc + 1) ls (.int (f j) :: rest))) : W p l e R s m args below meth c H locs cells slots Q (F0 m pc ls (.int (nI j) :: .ref a :: rest)) :=
  va_iald CX.1 CX.2.1 hE.1 hP q0 0 ha rfl (vp_in_nI hj hn) hdg (by rw [nI_clamp (Nat.lt_trans hj hn)]; exact kk)
theorem rn_cald (CX : CallFix p m c cc nL s args Ts own) (hE : EK G cA s) (hP : va_P G vwCl ws H) (q0 : Nat) {n : Nat} {f : Nat → Int32} (ha : ws[q0]? = some (a, .inl (cA 1, n, .inl f))) {j : Nat} (hj : j < n) (hn : n < 2147483648) (hdg : decode cc pc = .ok (.caload, 1)) (kk : W p l e R s m args below meth c H locs cells slots Q (F0 m (pc + 1) ls (.int (f j) :: rest))) : W p l e R s m args below meth c H locs cells slots Q (F0 m pc ls (.int (nI j) :: .ref a :: rest)) :=
  va_cald CX.1 CX.2.1 hE.1 hP q0 1 ha rfl (vp_in_nI hj hn) hdg (by rw [nI_clamp (Nat.lt_trans hj hn)]; exact kk)
theorem rn_zald (CX : CallFix p m c cc nL s args Ts own) (hE : EK G cA s) (hP : va_P G vwCl ws H) (q0 : Nat) {n : Nat} {f : Nat → Int32} (ha : ws[q0]? = some (a, .inl (cA 2, n, .inl f))) {j : Nat} (hj : j < n) (hn : n < 2147483648) (hdg : decode cc pc = .ok (.baload, 1)) (kk : W p l e R s m args below meth c H locs cells slots Q (F0 m (pc + 1) ls (.int (f j) :: rest))) : W p l e R s m args below meth c H locs cells slots Q (F0 m pc ls (.int (nI j) :: .ref a :: rest)) :=
  va_zald CX.1 CX.2.1 hE.1 hP q0 2 ha rfl (vp_in_nI hj hn) hdg (by rw [nI_clamp (Nat.lt_trans hj hn)]; exact kk)
theorem rn_iast (CX : CallFix p m c cc nL s args Ts own) (hE : EK G cA s) (hW : wld G A ws H0 H locs) (q0 : Nat) {n : Nat} {f : Nat → Int32} (ha : ws[q0]? = some (a, .inl (cA 0, n, .inl f))) {j : Nat} {x : Int32} (hj : j < n) (hn : n < 2147483648) (hws : ws.set q0 (a, .inl (cA 0, n, .inl (upd f j x))) = ws') (hdg : decode cc pc = .ok (.iastore, 1)) (kk : ∀ (H1 : Heap) (locs1 : List Loc), wld G A ws' H0 H1 locs1 → W p l e R s m args below meth c H1 locs1 cells slots Q (F0 m (pc + 1) ls rest)) : W p l e R s m args below meth c H locs cells slots Q (F0 m pc ls (.int x :: .int (nI j) :: .ref a :: rest)) :=
  va_iast CX.1 CX.2.1 hE.1 hW.1 hW.2.1 hW.2.2 q0 0 ha rfl (vp_in_nI hj hn) hdg (by rw [nI_clamp (Nat.lt_trans hj hn), hws]; exact fun H1 l1 h1 h2 h3 => kk H1 l1 ⟨h1, h2, h3⟩)
theorem rn_cast (CX : CallFix p m c cc nL s args Ts own) (hE : EK G cA s) (hW : wld G A ws H0 H locs) (q0 : Nat) {n : Nat} {f : Nat → Int32} (ha : ws[q0]? = some (a, .inl (cA 1, n, .inl f))) {j : Nat} {x : Int32} (hj : j < n) (hn : n < 2147483648) (hws : ws.set q0 (a, .inl (cA 1, n, .inl (upd f j (vp_nar .char x)))) = ws') (hdg : decode cc pc = .ok (.castore, 1)) (kk : ∀ (H1 : Heap) (locs1 : List Loc), wld G A ws' H0 H1 locs1 → W p l e R s m args below meth c H1 locs1 cells slots Q (F0 m (pc + 1) ls rest)) : W p l e R s m args below meth c H locs cells slots Q (F0 m pc ls (.int x :: .int (nI j) :: .ref a :: rest)) :=
  va_cast CX.1 CX.2.1 hE.1 hW.1 hW.2.1 hW.2.2 q0 1 ha rfl (vp_in_nI hj hn) hdg (by rw [nI_clamp (Nat.lt_trans hj hn), hws]; exact fun H1 l1 h1 h2 h3 => kk H1 l1 ⟨h1, h2, h3⟩)
theorem rn_zast (CX : CallFix p m c cc nL s args Ts own) (hE : EK G cA s) (hW : wld G A ws H0 H locs) (q0 : Nat) {n : Nat} {f : Nat → Int32} (ha : ws[q0]? = some (a, .inl (cA 2, n, .inl f))) {j : Nat} {x : Int32} (hj : j < n) (hn : n < 2147483648) (hws : ws.set q0 (a, .inl (cA 2, n, .inl (upd f j (vp_nar .boolean x)))) = ws') (hdg : decode cc pc = .ok (.bastore, 1)) (kk : ∀ (H1 : Heap) (locs1 : List Loc), wld G A ws' H0 H1 locs1 → W p l e R s m args below meth c H1 locs1 cells slots Q (F0 m (pc + 1) ls rest)) : W p l e R s m args below meth c H locs cells slots Q (F0 m pc ls (.int x :: .int (nI j) :: .ref a :: rest)) :=
  va_zast CX.1 CX.2.1 hE.1 hW.1 hW.2.1 hW.2.2 q0 2 ha rfl (vp_in_nI hj hn) hdg (by rw [nI_clamp (Nat.lt_trans hj hn), hws]; exact fun H1 l1 h1 h2 h3 => kk H1 l1 ⟨h1, h2, h3⟩)
/-- fields -/
theorem rg {C : String} {T : u_T} {N ci : Nat} (CX : CallFix p m c cc nL s args Ts own) (hE : EK G cA s) (hP : va_P G vwCl ws H) (hin : ∀ w ∈ u_ws C T N, w ∈ Ts) (q0 : Nat) {fs : List Value} (he : ws[q0]? = some (a, .inr (ci, fs))) (hc : vwCl[ci]? = some (C, T, N)) (k : Nat) (hk : k < N) {index : Nat} (hlink : Cond.fieldLink own index C (T k).2.1 (T k).2.2.1 ∈ Ts) (hTk : (T k).1 = C) {v : Value} (hv : fs[k]? = some v) (hdg : decode cc pc = .ok (.getfield index, 3))
    (kk : W p l e R s m args below meth c H locs cells slots Q (F0 m (pc + 3) ls (v :: rest))) : W p l e R s m args below meth c H locs cells slots Q (F0 m pc ls (.ref a :: rest)) :=
  va_get CX.1 CX.2.1 CX.2.2.2.2 hin CX.2.2.2.1 hE.1 hP q0 he hc k hk (CX.2.2.2.2 _ hlink) (fun x h => by rw [hTk] at h; exact h) hv hdg kk
theorem rp {C : String} {T : u_T} {N ci : Nat} (CX : CallFix p m c cc nL s args Ts own) (hE : EK G cA s) (hW : wld G A ws H0 H locs) (hin : ∀ w ∈ u_ws C T N, w ∈ Ts) (ty0 : Nat → FieldType) (hty : ∀ k, k < N → parseFieldDescriptor (T k).2.2.1 = some (ty0 k)) (hnm : ∀ a, a < N → ∀ b, b < N → a ≠ b → (T a).2.1 ≠ (T b).2.1) (q0 : Nat) {fs : List Value} (he : ws[q0]? = some (a, .inr (ci, fs))) (hc : vwCl[ci]? = some (C, T, N)) (k : Nat) (hk : k < N) {index : Nat} (hlink : Cond.fieldLink own index C (T k).2.1 (T k).2.2.1 ∈ Ts) (hTk : (T k).1 = C) (hfin : (T k).2.2.2 = false) {v : Value} (hn : narrow (ty0 k) v = v) (hfit : fits (ty0 k) v = true) (hl : k < fs.length) (hws : ws.set q0 (a, .inr (ci, fs.set k v)) = ws')
    (hdg : decode cc pc = .ok (.putfield index, 3)) (kk : ∀ (H1 : Heap) (locs1 : List Loc), wld G A ws' H0 H1 locs1 → W p l e R s m args below meth c H1 locs1 cells slots Q (F0 m (pc + 3) ls rest)) : W p l e R s m args below meth c H locs cells slots Q (F0 m pc ls (v :: .ref a :: rest)) :=
  va_put CX.1 CX.2.1 CX.2.2.2.2 hin ty0 hty hnm CX.2.2.2.1 hE.1 hW.1 hW.2.1 hW.2.2 q0 he hc k hk (CX.2.2.2.2 _ hlink) (fun x h => by rw [hTk] at h; exact h) hfin (hty k hk) hn hfit hl hdg (by rw [hws]; exact fun H1 l1 h1 h2 h3 => kk H1 l1 ⟨h1, h2, h3⟩)
/-- calls of methods that read only -/
theorem roV {B : State → Prop} {y : MethodName} {bytes : ByteArray} {maxL n index : Nat} {ret : Option FieldType} {wy : List Cond} {rm : Room} {C : String} {b : Nat} {As rest st0 : List Value} {wc : va_W} {v : Int32} (CX : CallFix p m c cc nL s args Ts own) (hE : EK G cA s) (hP : va_P G vwCl ws H) (hM : RO l y wy rm G cA B wc (.ref b :: As) v) (cw : CallW R s args own C index y bytes maxL ret wy rm 0 0 n) (pl : List Nat) (hC : pl.filterMap (fun i => ws[i]?) = wc) (q0 : Nat) {ci : Nat} {fs : List Value} (he : ws[q0]? = some (b, .inr (ci, fs))) {qc : vw_C} (hc : vwCl[ci]? = some qc) (hqc : qc.1 = C) (hBb : blindB B) (hB : ∀ U : State, U.heap = H → s.WarmedH U.vm → B U) (hn : As.length = n) (hls : ls.size = nL) (hst : st0 = As.reverse ++ .ref b :: rest) (hroom : (rest.map fun v => v.category).sum ≤ 8) (hdg : decode cc pc = .ok (.invokevirtual index, 3)) (hcs : cells ≤ R.cells ∧ slots ≤ R.slots)
    (kk : W p l e R s m args below meth c H locs cells slots Q (F0 m (pc + 3) ls (.int v :: rest))) : W p l e R s m args below meth c H locs cells slots Q (F0 m pc ls st0) :=
  vp_callSi (va_runV CX hM cw ⟨fun _ U g mk q => ⟨q.1, q.2.1, q.2.2.1.calling, hBb U g mk _ q.2.2.2⟩, hqc ▸ va_recv hE.1 hP hc he, fun U hU hW => ⟨rfl, by rw [hU]; exact hP.sub pl hC, hE.warm hW, hB U hU hW⟩⟩ rfl hn hls hst (lv_room (ls := ls) hroom) hdg hcs).run (fun r hr => hr ▸ kk)
theorem roS {B : State → Prop} {y : MethodName} {bytes : ByteArray} {maxL n index : Nat} {ret : Option FieldType} {wy : List Cond} {rm : Room} {As rest st0 : List Value} {wc : va_W} {v : Int32} (CX : CallFix p m c cc nL s args Ts own) (hE : EK G cA s) (hP : va_P G vwCl ws H) (hM : RO l y wy rm G cA B wc As v) (cw : CallB R s args own index y bytes maxL ret wy rm 0 0 n ∧ (Cond.static y).before args s = true) (pl : List Nat) (hC : pl.filterMap (fun i => ws[i]?) = wc) (hBb : blindB B) (hB : ∀ U : State, U.heap = H → s.WarmedH U.vm → B U) (hn : As.length = n) (hls : ls.size = nL) (hst : st0 = As.reverse ++ rest) (hroom : (rest.map fun v => v.category).sum ≤ 8) (hdg : decode cc pc = .ok (.invokestatic index, 3)) (hcs : cells ≤ R.cells ∧ slots ≤ R.slots)
    (kk : W p l e R s m args below meth c H locs cells slots Q (F0 m (pc + 3) ls (.int v :: rest))) : W p l e R s m args below meth c H locs cells slots Q (F0 m pc ls st0) :=
  vp_callSi (va_runS CX hM cw ⟨fun _ U g mk q => ⟨q.1, q.2.1, q.2.2.1.calling, hBb U g mk _ q.2.2.2⟩, fun U hU hW => ⟨rfl, by rw [hU]; exact hP.sub pl hC, hE.warm hW, hB U hU hW⟩⟩ rfl hn hls hst (lv_room (ls := ls) hroom) hdg hcs).run (fun r hr => hr ▸ kk)
theorem roSN {B : State → Prop} {y : MethodName} {bytes : ByteArray} {maxL n index : Nat} {ret : Option FieldType} {wy : List Cond} {rm : Room} {host : String} {As rest st0 : List Value} {wc : va_W} {v : Int32} (CX : CallFix p m c cc nL s args Ts own) (hE : EK G cA s) (hP : va_P G vwCl ws H) (hM : RO l y wy rm G cA B wc As v) (cw : va_CN R s args own index y host bytes maxL ret wy rm 0 0 n ∧ (Cond.static y).before args s = true ∧ True) (pl : List Nat) (hC : pl.filterMap (fun i => ws[i]?) = wc) (hBb : blindB B) (hB : ∀ U : State, U.heap = H → s.WarmedH U.vm → B U) (hn : As.length = n) (hls : ls.size = nL) (hst : st0 = As.reverse ++ rest) (hroom : (rest.map fun v => v.category).sum ≤ 8) (hdg : decode cc pc = .ok (.invokestatic index, 3)) (hcs : cells ≤ R.cells ∧ slots ≤ R.slots)
    (kk : W p l e R s m args below meth c H locs cells slots Q (F0 m (pc + 3) ls (.int v :: rest))) : W p l e R s m args below meth c H locs cells slots Q (F0 m pc ls st0) :=
  vp_callSi (va_runSN CX hM cw ⟨fun _ U g mk q => ⟨q.1, q.2.1, q.2.2.1.calling, hBb U g mk _ q.2.2.2⟩, fun U hU hW => ⟨rfl, by rw [hU]; exact hP.sub pl hC, hE.warm hW, hB U hU hW⟩⟩ rfl hn hls hst (lv_room (ls := ls) hroom) hdg hcs).run (fun r hr => hr ▸ kk)
/-- calls of methods that write -/
theorem wld_free {wc : va_W} (hW : wld G A ws H0 H locs) (hA : ∀ q, H0.size ≤ q → A q) (pl : List Nat) (hC : pl.map (fun i => ws[i]?) = wc.map some) : ∀ q, va_A wc H.size q → A q := va_free hW.2.1 hW.2.2 hA pl hC
theorem wld_sub {wc : va_W} (hW : wld G A ws H0 H locs) (pl : List Nat) (hn : va_nd pl = true) (hC : pl.map (fun i => ws[i]?) = wc.map some) : va_P G vwCl wc H ∧ va_D A wc := by
  refine ⟨fun k q hq => ?_, hW.2.1.sub pl hn hC⟩
  have h1 : (pl.map (fun i => ws[i]?))[k]? = some (some q) := by rw [hC, List.getElem?_map, hq]; rfl
  rw [List.getElem?_map] at h1
  cases hi : pl[k]? with
  | none => rw [hi] at h1; cases h1
  | some i => rw [hi] at h1; exact hW.1 i q (Option.some.inj h1)
theorem muv {wc w1 : va_W} {ar : Array Value} {st0 : List Value} (hW : wld G A ws H0 H locs) (hA : ∀ q, H0.size ≤ q → A q) (pl : List Nat) (hC : pl.map (fun i => ws[i]?) = wc.map some) (hlen : pl.length = w1.length) (hput : putW ws pl w1 = ws')
    (hr : va_Run p l e R s m args below meth c H locs cells slots 0 0 (F0 m pc ls st0) rest (va_Qv (fun _ : Unit => True) (fun _ t => va_P G vwCl w1 t.heap ∧ va_D (va_A wc H.size) w1) (va_A wc H.size) ar) (va_A wc H.size))
    (kk : ∀ (H1 : Heap) (locs1 : List Loc), wld G A ws' H0 H1 locs1 → W p l e R s m args below meth c H1 locs1 cells slots Q (F0 m (pc + 3) ls rest)) : W p l e R s m args below meth c H locs cells slots Q (F0 m pc ls st0) := by
  have hF := wld_free hW hA pl hC
  refine va_callv hr hW.2.2 (fun q _ h => hF q h) hF (fun u t H1 locs1 ht hvm hw hB hz1 hk1 hS => ?_)
  obtain ⟨hP1, hD1⟩ := hB
  rw [ht] at hP1
  exact kk H1 locs1 (wld_join hW pl hC hlen hput hk1 hF hP1 hD1 hS)
theorem mui {wc w1 : va_W} {ar : Array Value} {st0 : List Value} {v : Int32} (hW : wld G A ws H0 H locs) (hA : ∀ q, H0.size ≤ q → A q) (pl : List Nat) (hC : pl.map (fun i => ws[i]?) = wc.map some) (hlen : pl.length = w1.length) (hput : putW ws pl w1 = ws')
    (hr : va_Run p l e R s m args below meth c H locs cells slots 0 0 (F0 m pc ls st0) rest (va_Qi (fun r (_ : Unit) => r = v) (fun _ t => va_P G vwCl w1 t.heap ∧ va_D (va_A wc H.size) w1) (va_A wc H.size) ar) (va_A wc H.size))
    (kk : ∀ (H1 : Heap) (locs1 : List Loc), wld G A ws' H0 H1 locs1 → W p l e R s m args below meth c H1 locs1 cells slots Q (F0 m (pc + 3) ls (.int v :: rest))) : W p l e R s m args below meth c H locs cells slots Q (F0 m pc ls st0) := by
  have hF := wld_free hW hA pl hC
  refine va_calli hr hW.2.2 (fun q _ h => hF q h) hF (fun r u t H1 locs1 ht hvm hw hB hz1 hk1 hS => ?_)
  obtain ⟨hP1, hD1⟩ := hB
  rw [ht] at hP1
  subst hw
  exact kk H1 locs1 (wld_join hW pl hC hlen hput hk1 hF hP1 hD1 hS)
def blindM (B : (Nat → Prop) → State → Prop) : Prop := ∀ A' : Nat → Prop, blindB (B A')
abbrev BM0 : (Nat → Prop) → State → Prop := fun _ _ => True
theorem BM0_blind : blindM BM0 := fun _ _ _ _ _ _ => trivial
theorem muvV {B : (Nat → Prop) → State → Prop} {y : MethodName} {bytes : ByteArray} {maxL n index : Nat} {ret : Option FieldType} {wy : List Cond} {rm : Room} {C : String} {b : Nat} {As rest st0 : List Value} {wc w1 : va_W} (CX : CallFix p m c cc nL s args Ts own) (hE : EK G cA s) (hW : wld G A ws H0 H locs) (hA : ∀ q, H0.size ≤ q → A q) (hM : MUv l y wy rm G cA B wc (.ref b :: As) w1) (cw : CallW R s args own C index y bytes maxL ret wy rm 0 0 n) (pl : List Nat) (hnd : va_nd pl = true) (hC : pl.map (fun i => ws[i]?) = wc.map some) (hlen : pl.length = w1.length) (hput : putW ws pl w1 = ws') (q0 : Nat) {ci : Nat} {fs : List Value} (he : ws[q0]? = some (b, .inr (ci, fs))) {qc : vw_C} (hc : vwCl[ci]? = some qc) (hqc : qc.1 = C) (hBb : blindM B) (hB : ∀ U : State, U.heap = H → s.WarmedH U.vm → (∀ q, va_A wc H.size q → A q) → B (va_A wc H.size) U) (hn : As.length = n) (hls : ls.size = nL) (hst : st0 = As.reverse ++ .ref b :: rest) (hroom : (rest.map fun v => v.category).sum ≤ 8) (hdg : decode cc pc = .ok (.invokevirtual index, 3)) (hcs : cells ≤ R.cells ∧ slots ≤ R.slots)
    (kk : ∀ (H1 : Heap) (locs1 : List Loc), wld G A ws' H0 H1 locs1 → W p l e R s m args below meth c H1 locs1 cells slots Q (F0 m (pc + 3) ls rest)) : W p l e R s m args below meth c H locs cells slots Q (F0 m pc ls st0) :=
  muv hW hA pl hC hlen hput (va_runV CX (hM H.size) cw ⟨fun _ U g mk q => ⟨q.1, q.2.1, q.2.2.1, q.2.2.2.1, q.2.2.2.2.1.calling, hBb _ U g mk _ q.2.2.2.2.2⟩, hqc ▸ va_recv hE.1 hW.1 hc he, fun U hU hWm => ⟨rfl, by rw [hU], by rw [hU]; exact (wld_sub hW pl hnd hC).1, (wld_sub hW pl hnd hC).2.weaken (fun _ _ _ _ => trivial), hE.warm hWm, hB U hU hWm (wld_free hW hA pl hC)⟩⟩ rfl hn hls hst (lv_room (ls := ls) hroom) hdg hcs) kk
theorem muiV {B : (Nat → Prop) → State → Prop} {y : MethodName} {bytes : ByteArray} {maxL n index : Nat} {ret : Option FieldType} {wy : List Cond} {rm : Room} {C : String} {b : Nat} {As rest st0 : List Value} {wc w1 : va_W} {v : Int32} (CX : CallFix p m c cc nL s args Ts own) (hE : EK G cA s) (hW : wld G A ws H0 H locs) (hA : ∀ q, H0.size ≤ q → A q) (hM : MUi l y wy rm G cA B wc (.ref b :: As) w1 v) (cw : CallW R s args own C index y bytes maxL ret wy rm 0 0 n) (pl : List Nat) (hnd : va_nd pl = true) (hC : pl.map (fun i => ws[i]?) = wc.map some) (hlen : pl.length = w1.length) (hput : putW ws pl w1 = ws') (q0 : Nat) {ci : Nat} {fs : List Value} (he : ws[q0]? = some (b, .inr (ci, fs))) {qc : vw_C} (hc : vwCl[ci]? = some qc) (hqc : qc.1 = C) (hBb : blindM B) (hB : ∀ U : State, U.heap = H → s.WarmedH U.vm → (∀ q, va_A wc H.size q → A q) → B (va_A wc H.size) U) (hn : As.length = n) (hls : ls.size = nL) (hst : st0 = As.reverse ++ .ref b :: rest) (hroom : (rest.map fun v => v.category).sum ≤ 8) (hdg : decode cc pc = .ok (.invokevirtual index, 3)) (hcs : cells ≤ R.cells ∧ slots ≤ R.slots)
    (kk : ∀ (H1 : Heap) (locs1 : List Loc), wld G A ws' H0 H1 locs1 → W p l e R s m args below meth c H1 locs1 cells slots Q (F0 m (pc + 3) ls (.int v :: rest))) : W p l e R s m args below meth c H locs cells slots Q (F0 m pc ls st0) :=
  mui hW hA pl hC hlen hput (va_runV CX (hM H.size) cw ⟨fun _ U g mk q => ⟨q.1, q.2.1, q.2.2.1, q.2.2.2.1, q.2.2.2.2.1.calling, hBb _ U g mk _ q.2.2.2.2.2⟩, hqc ▸ va_recv hE.1 hW.1 hc he, fun U hU hWm => ⟨rfl, by rw [hU], by rw [hU]; exact (wld_sub hW pl hnd hC).1, (wld_sub hW pl hnd hC).2.weaken (fun _ _ _ _ => trivial), hE.warm hWm, hB U hU hWm (wld_free hW hA pl hC)⟩⟩ rfl hn hls hst (lv_room (ls := ls) hroom) hdg hcs) kk
theorem muvS {B : (Nat → Prop) → State → Prop} {y : MethodName} {bytes : ByteArray} {maxL n index : Nat} {ret : Option FieldType} {wy : List Cond} {rm : Room} {As rest st0 : List Value} {wc w1 : va_W} (CX : CallFix p m c cc nL s args Ts own) (hE : EK G cA s) (hW : wld G A ws H0 H locs) (hA : ∀ q, H0.size ≤ q → A q) (hM : MUv l y wy rm G cA B wc As w1) (cw : CallB R s args own index y bytes maxL ret wy rm 0 0 n ∧ (Cond.static y).before args s = true) (pl : List Nat) (hnd : va_nd pl = true) (hC : pl.map (fun i => ws[i]?) = wc.map some) (hlen : pl.length = w1.length) (hput : putW ws pl w1 = ws') (hBb : blindM B) (hB : ∀ U : State, U.heap = H → s.WarmedH U.vm → (∀ q, va_A wc H.size q → A q) → B (va_A wc H.size) U) (hn : As.length = n) (hls : ls.size = nL) (hst : st0 = As.reverse ++ rest) (hroom : (rest.map fun v => v.category).sum ≤ 8) (hdg : decode cc pc = .ok (.invokestatic index, 3)) (hcs : cells ≤ R.cells ∧ slots ≤ R.slots)
    (kk : ∀ (H1 : Heap) (locs1 : List Loc), wld G A ws' H0 H1 locs1 → W p l e R s m args below meth c H1 locs1 cells slots Q (F0 m (pc + 3) ls rest)) : W p l e R s m args below meth c H locs cells slots Q (F0 m pc ls st0) :=
  muv hW hA pl hC hlen hput (va_runS CX (hM H.size) cw ⟨fun _ U g mk q => ⟨q.1, q.2.1, q.2.2.1, q.2.2.2.1, q.2.2.2.2.1.calling, hBb _ U g mk _ q.2.2.2.2.2⟩, fun U hU hWm => ⟨rfl, by rw [hU], by rw [hU]; exact (wld_sub hW pl hnd hC).1, (wld_sub hW pl hnd hC).2.weaken (fun _ _ _ _ => trivial), hE.warm hWm, hB U hU hWm (wld_free hW hA pl hC)⟩⟩ rfl hn hls hst (lv_room (ls := ls) hroom) hdg hcs) kk
end ROWS
