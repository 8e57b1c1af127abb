/-! The literal and the static rows while a method writes; what read lays. -/
def BSM (q v : Nat) (A : Nat → Prop) (U : State) : Prop := va_Z "java/lang/String" "COMPACT_STRINGS" "Z" (.int 1) A U U.heap ∧ vk_S 1 [4] [sgB] (fun _ => q) (fun _ => v) A U U.heap ∧ vk_R RX2 29 ".-#~" q U
theorem BSM_blind (q v : Nat) : blindM (BSM q v) := fun A U g mk a h =>
  ⟨va_Z.moved (u := U) (U := U.calling g mk a) (Vm.Alike.refl U.vm) h.1, vk_S.moved (u := U) (U := U.calling g mk a) (Vm.Alike.refl U.vm) h.2.1, vk_R.same (u := U) (U := U.calling g mk a) rfl h.2.2⟩
theorem BSM.sub {q v : Nat} {A A' : Nat → Prop} {s U : State} {H : Heap} {locs : List Loc} (h : BSM q v A s) (hS : va_S A s.heap H locs) (hU : U.heap = H) (hW : s.WarmedH U.vm) (hA : ∀ a, A' a → A a) : BSM q v A' U :=
  ⟨by rw [hU]; exact (va_Z.moved hW.alike (h.1.kept hS.2.1)).narrow hA, by rw [hU]; exact (vk_S.moved hW.alike (h.2.1.kept hS.2.1)).narrow hA, vk_R.warm hW h.2.2⟩
theorem BSM.use {q v : Nat} {A : Nat → Prop} {s U : State} {H : Heap} {locs : List Loc} (h : BSM q v A s) (hS : va_S A s.heap H locs) (hU : U.heap = H) (hW : s.WarmedH U.vm) : BS q v U :=
  h.sub (A' := AF) hS hU hW (fun _ z => z.elim)
/-- the bounds of the settings -/
def KSM (tl tm : Nat) (A : Nat → Prop) (U : State) : Prop := va_Z "DippedWaves" "LEAST_SETTINGS" "[I" (.ref tl) A U U.heap ∧ va_T .int tl 4 (fun j => .int (leastF (nI j))) A U U.heap ∧ va_Z "DippedWaves" "MOST_SETTINGS" "[I" (.ref tm) A U U.heap ∧ va_T .int tm 4 (fun j => .int (mostF (nI j))) A U U.heap
abbrev KS (tl tm : Nat) : State → Prop := KSM tl tm AF
theorem KSM_blind (tl tm : Nat) : blindM (KSM tl tm) := fun A U g mk a h =>
  ⟨va_Z.moved (u := U) (U := U.calling g mk a) (Vm.Alike.refl U.vm) h.1, va_T.moved (u := U) (U := U.calling g mk a) (Vm.Alike.refl U.vm) h.2.1, va_Z.moved (u := U) (U := U.calling g mk a) (Vm.Alike.refl U.vm) h.2.2.1, va_T.moved (u := U) (U := U.calling g mk a) (Vm.Alike.refl U.vm) h.2.2.2⟩
theorem KSM.sub {q v : Nat} {A A' : Nat → Prop} {s U : State} {H : Heap} {locs : List Loc} (h : KSM q v A s) (hS : va_S A s.heap H locs) (hU : U.heap = H) (hW : s.WarmedH U.vm) (hA : ∀ a, A' a → A a) : KSM q v A' U :=
  ⟨by rw [hU]; exact (va_Z.moved hW.alike (h.1.kept hS.2.1)).narrow hA, by rw [hU]; exact (va_T.moved hW.alike (h.2.1.kept hS.2.1)).narrow hA, by rw [hU]; exact (va_Z.moved hW.alike (h.2.2.1.kept hS.2.1)).narrow hA, by rw [hU]; exact (va_T.moved hW.alike (h.2.2.2.kept hS.2.1)).narrow hA⟩
section ROWST
variable {p : Program} {l : Launch} {e : Env} {R : Room} {s : State} {m : MethodId} {args : Array Value} {below : List Frame} {meth : Method} {c : Code} {H : Heap} {locs : List Loc} {cells slots : Nat} {Q : State → Prop}
variable {cc : ByteArray} {pc nL : Nat} {ls : Array Slot} {rest : List Value} {A : Nat → Prop}
theorem rs_static (hx : p.tables.exec = Jvm.exec) (hb : c.code = cc) {C n d own : String} {index t : Nat} (hZ : va_Z C n d (.ref t) A s s.heap) (hS : va_S A s.heap H locs) (hown : s.vm.findClass own = some m.cls) (hlink : (Cond.fieldLink own index C n d).before args s = true) (hdg : decode cc pc = .ok (.getstatic index, 3))
    (kk : W p l e R s m args below meth c H locs cells slots Q (F0 m (pc + 3) ls (.ref t :: rest))) : W p l e R s m args below meth c H locs cells slots Q (F0 m pc ls rest) :=
  va_gets hx hb hZ hS hown hlink (fun _ h => h) hdg kk
theorem rs_elem (hx : p.tables.exec = Jvm.exec) (hb : c.code = cc) {t N j : Nat} {f : Nat → Int32} (hT : va_T .int t N (fun k => .int (f k)) A s s.heap) (hS : va_S A s.heap H locs) (hj : j < N) (hN : N < 2147483648) (hdg : decode cc pc = .ok (.iaload, 1))
    (kk : W p l e R s m args below meth c H locs cells slots Q (F0 m (pc + 1) ls (.int (f j) :: rest))) : W p l e R s m args below meth c H locs cells slots Q (F0 m pc ls (.int (nI j) :: .ref t :: rest)) :=
  va_ti hx hb hT hS (vp_in_nI hj hN) (by rw [nI_clamp (by omega)]) hdg kk
end ROWST
def layAllT (T : TV) (pd : Nat → Int32) : TV := (fun i => if i = 1 then rgF 0 60 (fun c => idxF (pd (c / 10 * 11 + c % 10))) (T.1 1) else if i = 2 then (fun _ => nI 0) else if i = 3 then (fun _ => nI 0) else if i = 4 then (fun _ => -6) else T.1 i,
  fun i => if i = 3 then (fun _ => 0) else if i = 4 then (fun j => if j < 3 then 0 else T.2 4 j) else T.2 i)
