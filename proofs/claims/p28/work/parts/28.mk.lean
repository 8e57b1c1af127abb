/-! A third form of contract: a method that makes cells. Their addresses come with the world it leaves. -/
def MK (l : Launch) (y : MethodName) (wy : List Cond) (rm : Room) (G : va_G) (cA : Nat → ClassId) (B : (Nat → Prop) → State → Prop) (w : va_W) (av : List Value) (w' : (Nat → Nat) → va_W) (mc ms : Nat) : Prop := ∀ sz : Nat,
  Met l y wy rm (va_Pc av (fun U => U.heap.size = sz ∧ va_P G vwCl w U.heap ∧ va_D (fun _ => True) w ∧ EK G cA U ∧ B (va_A w sz) U)) (va_Qv (fun _ : Nat → Nat => True) (fun u t => va_P G vwCl (w' u) t.heap ∧ va_D (va_A w sz) (w' u)) (va_A w sz)) mc ms (va_A w sz)
theorem MK.mk {l : Launch} {y : MethodName} {wy ws' : List Cond} {rm : Room} {G : va_G} {cA : Nat → ClassId} {B : (Nat → Prop) → State → Prop} {w : va_W} {w' : (Nat → Nat) → va_W} {mc ms : Nat} {av : List Value} {cc : ByteArray} {maxL : Nat} {rt : Option FieldType} {own : String} (hy : plainName y.cls = true) (hown : y.cls = own) (hw : wy = Cond.code y cc maxL rt :: ws') (hn : (lg_sl av).length ≤ maxL)
    (body : ∀ (p : Program) (e : Env) (s : State) (m : MethodId) (below : List Frame) (meth : Method) (c : Code) (ls : Array Slot) (A : Nat → Prop), CallFix p m c cc maxL s av.toArray wy own → meth.sig.returnType = rt → meth.locks = false → meth.name = y.name → wld G A w s.heap s.heap [] → (∀ q, s.heap.size ≤ q → A q) → EK G cA s → B A s → lv_has ls maxL (lv_args 0 av) →
      W p l e rm s m av.toArray below meth c s.heap [] 0 0 (MQ below (va_Qv (fun _ : Nat → Nat => True) (fun u t => va_P G vwCl (w' u) t.heap ∧ va_D A (w' u)) A) av.toArray s mc ms A) (F0 m 0 ls [])) : MK l y wy rm G cA B w av w' mc ms := by
  intro sz
  refine Met.ofW (cc := cc) (maxL := maxL) (ret := rt) hy hw ?_
  intro p e s m args below meth c s₁ Bd hml hv
  obtain ⟨rfl, hsz, hP, hD0, hE, hB⟩ := hv
  subst hsz
  have hts := atoms_spec (ws := wy) Bd.pre
  have hl := lv_entry av (n := maxL) hn
  have hD := hD0.self (sz := s.heap.size)
  generalize hAe : va_A w s.heap.size = A at hD hB ⊢
  have hA : ∀ q : Nat, s.heap.size ≤ q → A q := fun q h => by rw [← hAe]; exact Or.inr h
  rw [lg_entry_eq]
  generalize (lg_sl av ++ List.replicate (maxL - (lg_sl av).length) Slot.unset).toArray = ls at hl ⊢
  exact body p e s m below meth c ls A ⟨Bd.exec, Bd.bytes, hml, hown ▸ findClass_of_methodNamed Bd.named, hts⟩ Bd.returns Bd.notSynchronized (name_of_methodNamed Bd.named Bd.method).1 ⟨hP, hD, va_S.rf⟩ hA hE hB hl
section ROWSK
variable {p : Program} {l : Launch} {e : Env} {R : Room} {s : State} {m : MethodId} {args : Array Value} {below : List Frame} {meth : Method} {c : Code} {H : Heap} {locs : List Loc} {cells slots : Nat} {Q : State → Prop}
variable {cc : ByteArray} {pc nL : Nat} {ls : Array Slot} {rest : List Value} {G : va_G} {cA : Nat → ClassId} {A : Nat → Prop} {ws ws' : va_W} {H0 : Heap} {own : String} {Ts : List Cond}
theorem mk_ret {w' : (Nat → Nat) → va_W} (CX : CallFix p m c cc nL s args Ts own) (hr : meth.sig.returnType = none) (hlk : meth.locks = false) (u : Nat → Nat) (hW : wld G A (w' u) s.heap H locs) (hdg : decode cc pc = .ok (.return_, 1)) : W p l e R s m args below meth c H locs cells slots (MQ below (va_Qv (fun _ : Nat → Nat => True) (fun u t => va_P G vwCl (w' u) t.heap ∧ va_D A (w' u)) A) args s cells slots A) (F0 m pc ls []) :=
  W.vret CX.1 CX.2.1 hr (fun t ht _ => ⟨⟨u, rfl, trivial, by rw [ht]; exact hW.1, hW.2.1⟩, hW.2.2.F ht⟩) hW.2.2.2.2 hdg hlk
theorem mk_call {wc wr : va_W} {w1 : (Nat → Nat) → va_W} {ar : Array Value} {st0 : List Value} {mc ms : Nat} (hW : wld G A ws H0 H locs) (hA : ∀ q, H0.size ≤ q → A q) (isC isR : List Nat) (hC : isC.map (fun i => ws[i]?) = wc.map some) (hR : isR.map (fun i => ws[i]?) = wr.map some) (hn : va_nd isR = true) (hdis : ∀ i ∈ isR, i ∉ isC)
    (hr : va_Run p l e R s m args below meth c H locs cells slots mc ms (F0 m pc ls st0) rest (va_Qv (fun _ : Nat → Nat => True) (fun u t => va_P G vwCl (w1 u) t.heap ∧ va_D (va_A wc H.size) (w1 u)) (va_A wc H.size) ar) (va_A wc H.size))
    (kk : ∀ (u : Nat → Nat) (H1 : Heap) (locs1 : List Loc), wld G A (wr ++ w1 u) H0 H1 locs1 → W p l e R s m args below meth c H1 locs1 (cells + mc) (slots + ms) Q (F0 m (pc + 3) ls rest)) : W p l e R s m args below meth c H locs cells slots Q (F0 m pc ls st0) := by
  have hF := wld_free hW hA isC hC
  refine va_callv hr hW.2.2 (fun q _ h => hF q h) hF (fun u t H1 locs1 ht hvm hw hB hz1 hk1 hS => ?_)
  obtain ⟨hP1, hD1⟩ := hB
  rw [ht] at hP1
  have j := va_join hW.1 hW.2.1 isC isR hC hR hn hdis hk1 hF hP1 hD1
  exact kk u H1 locs1 ⟨j.1, j.2, hS⟩
end ROWSK
