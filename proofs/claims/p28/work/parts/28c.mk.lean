/-! Rows for new, and for Object's own constructor. -/
section ROWSL3
variable {p : Program} {l : Launch} {e : Env} {R : Room} {s : State} {m : MethodId} {args : Array Value} {below : List Frame} {meth : Method} {c : Code} {H : Heap} {locs : List Loc} {cells slots : Nat} {Q : State → Prop}
variable {cc : ByteArray} {pc nL : Nat} {ls : Array Slot} {rest : List Value} {G : va_G} {cA : Nat → ClassId} {A : Nat → Prop} {ws ws' : va_W} {H0 : Heap} {own : String} {Ts : List Cond}
theorem rn_new {C : String} {T : u_T} {N ci index : Nat} {fs : List Value} (CX : CallFix p m c cc nL s args Ts own) (hE : EK G cA s) (hW : wld G A ws H0 H locs) (hA : ∀ q, H0.size ≤ q → A q) (hin : ∀ w ∈ u_ws C T N, w ∈ Ts) (ty : Nat → FieldType) (hty : ∀ k, k < N → parseFieldDescriptor (T k).2.2.1 = some (ty k))
    (hcl : Cond.classLink own index C ∈ Ts) (hinst : Cond.instantiable C N ∈ Ts) (hini : Cond.initialized C ∈ Ts) (hc : vwCl[ci]? = some (C, T, N)) (hfs : ∀ j, j < N → defaultValue (ty j) = vp_V fs j) (hcells : cells + 1 ≤ R.cells) (hslots : slots + N ≤ R.slots) (hdg : decode cc pc = .ok (.new index, 3))
    (kk : ∀ (q : Nat) (H1 : Heap), wld G A (ws ++ [(q, .inr (ci, fs))]) H0 H1 locs → W p l e R s m args below meth c H1 locs (cells + 1) (slots + N) Q (F0 m (pc + 3) ls (.ref q :: rest))) : W p l e R s m args below meth c H locs cells slots Q (F0 m pc ls rest) :=
  va_new CX.1 CX.2.1 CX.2.2.2.2 hin ty hty CX.2.2.2.1 (CX.2.2.2.2 _ hcl) (CX.2.2.2.2 _ hinst) (CX.2.2.2.2 _ hini) hE.1 hW.1 hW.2.1 hW.2.2 hA hc hfs hcells hslots hdg (fun q H1 k1 k2 k3 => kk q H1 ⟨k1, k2, k3⟩)
end ROWSL3
