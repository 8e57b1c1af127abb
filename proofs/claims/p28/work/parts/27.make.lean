/-! Rows that make arrays: a new cell stands behind the world's others. -/
theorem sameI {G : va_G} {cA : Nat → ClassId} {s : State} {c : ClassId} (h : va_K G vwCl (tys0 cA ++ [(c, .int)]) s) : c = cA 0 :=
  Option.some.inj ((h.2 5 (c, .int) rfl).2.symm.trans (h.2 0 (cA 0, .int) rfl).2)
theorem sameC {G : va_G} {cA : Nat → ClassId} {s : State} {c : ClassId} (h : va_K G vwCl (tys0 cA ++ [(c, .char)]) s) : c = cA 1 :=
  Option.some.inj ((h.2 5 (c, .char) rfl).2.symm.trans (h.2 1 (cA 1, .char) rfl).2)
theorem sameZ {G : va_G} {cA : Nat → ClassId} {s : State} {c : ClassId} (h : va_K G vwCl (tys0 cA ++ [(c, .boolean)]) s) : c = cA 2 :=
  Option.some.inj ((h.2 5 (c, .boolean) rfl).2.symm.trans (h.2 2 (cA 2, .boolean) rfl).2)
theorem dvI (n : Nat) : ∀ c : ClassId, vp_cell c (n, .inl (fun _ => nI 0)) = arrV c n (fun _ => defaultValue .int) := fun c => vp_cell_i c n (fun _ => nI 0)
theorem dvC (n : Nat) : ∀ c : ClassId, vp_cell c (n, .inl (fun _ => nI 0)) = arrV c n (fun _ => defaultValue .char) := fun c => vp_cell_i c n (fun _ => nI 0)
theorem dvZ (n : Nat) : ∀ c : ClassId, vp_cell c (n, .inl (fun _ => nI 0)) = arrV c n (fun _ => defaultValue .boolean) := fun c => vp_cell_i c n (fun _ => nI 0)
section ROWSN
variable {p : Program} {l : Launch} {e : Env} {R : Room} {s : State} {m : MethodId} {args : Array Value} {below : List Frame} {meth : Method} {c : Code} {H : Heap} {locs : List Loc} {cells slots : Nat} {Q : State → Prop}
variable {cc : ByteArray} {pc nL : Nat} {ls : Array Slot} {rest : List Value} {G : va_G} {cA : Nat → ClassId} {A : Nat → Prop} {ws : va_W} {H0 : Heap} {own : String}
theorem rn_newI (hx : p.tables.exec = Jvm.exec) (hb : c.code = cc) (harr : (Cond.arrayClass .int).before args s = true) (hE : EK G cA s) (hW : wld G A ws H0 H locs) (hA : ∀ q, H0.size ≤ q → A q) {n : Nat} (hn : n < 134217728) (hcells : cells + 1 ≤ R.cells) (hslots : slots + n ≤ R.slots) (hdg : decode cc pc = .ok (.newarray .int, 2))
    (kk : ∀ (q : Nat) (H1 : Heap), wld G A (ws ++ [(q, .inl (cA 0, n, .inl (fun _ => nI 0)))]) H0 H1 locs → W p l e R s m args below meth c H1 locs (cells + 1) (slots + n) Q (F0 m (pc + 2) ls (.ref q :: rest))) : W p l e R s m args below meth c H locs cells slots Q (F0 m pc ls (.int (nI n) :: rest)) :=
  va_newa (atype := .int) (ty := .int) (N' := n) (a0 := (n, .inl (fun _ => nI 0))) hx hb harr rfl hE.1 hW.1 hW.2.1 hW.2.2 hA (dvI n) (nI_pos (by omega)) (nI_clamp (by omega)) (Nat.le_trans (Nat.mul_le_mul_right 4 (Nat.le_of_lt hn)) (by decide)) hcells hslots hdg
    (fun q c' H1 k1 k2 k3 k4 => by have e := sameI k1; subst e; exact kk q H1 ⟨k2, k3, k4⟩)
theorem rn_newC (hx : p.tables.exec = Jvm.exec) (hb : c.code = cc) (harr : (Cond.arrayClass .char).before args s = true) (hE : EK G cA s) (hW : wld G A ws H0 H locs) (hA : ∀ q, H0.size ≤ q → A q) {n : Nat} (hn : n < 134217728) (hcells : cells + 1 ≤ R.cells) (hslots : slots + n ≤ R.slots) (hdg : decode cc pc = .ok (.newarray .char, 2))
    (kk : ∀ (q : Nat) (H1 : Heap), wld G A (ws ++ [(q, .inl (cA 1, n, .inl (fun _ => nI 0)))]) H0 H1 locs → W p l e R s m args below meth c H1 locs (cells + 1) (slots + n) Q (F0 m (pc + 2) ls (.ref q :: rest))) : W p l e R s m args below meth c H locs cells slots Q (F0 m pc ls (.int (nI n) :: rest)) :=
  va_newa (atype := .char) (ty := .char) (N' := n) (a0 := (n, .inl (fun _ => nI 0))) hx hb harr rfl hE.1 hW.1 hW.2.1 hW.2.2 hA (dvC n) (nI_pos (by omega)) (nI_clamp (by omega)) (Nat.le_trans (Nat.mul_le_mul_right 2 (Nat.le_of_lt hn)) (by decide)) hcells hslots hdg
    (fun q c' H1 k1 k2 k3 k4 => by have e := sameC k1; subst e; exact kk q H1 ⟨k2, k3, k4⟩)
theorem rn_newZ (hx : p.tables.exec = Jvm.exec) (hb : c.code = cc) (harr : (Cond.arrayClass .boolean).before args s = true) (hE : EK G cA s) (hW : wld G A ws H0 H locs) (hA : ∀ q, H0.size ≤ q → A q) {n : Nat} (hn : n < 134217728) (hcells : cells + 1 ≤ R.cells) (hslots : slots + n ≤ R.slots) (hdg : decode cc pc = .ok (.newarray .boolean, 2))
    (kk : ∀ (q : Nat) (H1 : Heap), wld G A (ws ++ [(q, .inl (cA 2, n, .inl (fun _ => nI 0)))]) H0 H1 locs → W p l e R s m args below meth c H1 locs (cells + 1) (slots + n) Q (F0 m (pc + 2) ls (.ref q :: rest))) : W p l e R s m args below meth c H locs cells slots Q (F0 m pc ls (.int (nI n) :: rest)) :=
  va_newa (atype := .boolean) (ty := .boolean) (N' := n) (a0 := (n, .inl (fun _ => nI 0))) hx hb harr rfl hE.1 hW.1 hW.2.1 hW.2.2 hA (dvZ n) (nI_pos (by omega)) (nI_clamp (by omega)) (Nat.le_trans (Nat.mul_le_mul_right 1 (Nat.le_of_lt hn)) (by decide)) hcells hslots hdg
    (fun q c' H1 k1 k2 k3 k4 => by have e := sameZ k1; subst e; exact kk q H1 ⟨k2, k3, k4⟩)
end ROWSN
