theorem fl_X3_append_9 : Cond.fieldLink RX3 9 RX3 (TX3 0).2.1 (TX3 0).2.2.1 ∈ wsX3_append := by decide +kernel
theorem in_X3_append_X3 : ∀ w ∈ wsX30, w ∈ wsX3_append := by decide +kernel
theorem fl_X3_append_23 : Cond.fieldLink RX3 23 RX3 (TX3 3).2.1 (TX3 3).2.2.1 ∈ wsX3_append := by decide +kernel
theorem fl_X3_append_15 : Cond.fieldLink RX3 15 RX3 (TX3 1).2.1 (TX3 1).2.2.1 ∈ wsX3_append := by decide +kernel
set_option maxHeartbeats 4000000 in
set_option maxRecDepth 100000 in
theorem c_X3_append (l : Launch) (G : va_G) (cA : Nat → ClassId) (a : Nat → Nat) (np : Nat) (pc : Nat → Nat) (pl : Nat → Nat) (c : Nat) (hnp : np < 3) : MUi l yX3_append wsX3_append ({ frames := 0, cells := 0, slots := 0, locals := 0 }) G cA BM0 [(a 11, .inr (3, [.ref (a 12), .ref (a 13), .ref (a 14), .int (nI np)])), (a 12, .inl (cA 0, 3, .inl (fun k => nI (pc k)))), (a 13, .inl (cA 0, 3, .inl (fun k => nI (pl k))))] [.ref (a 11), .int (nI c)] [(a 11, .inr (3, [.ref (a 12), .ref (a 13), .ref (a 14), .int (nI (np + 1))])), (a 12, .inl (cA 0, 3, .inl (fun k => nI ((va_up pc np c) k)))), (a 13, .inl (cA 0, 3, .inl (fun k => nI ((va_up pl np 0) k))))] (nI np) := by
  refine MUi.mk (own := RX3) (by decide) rfl rfl (Nat.le_of_ble_eq_true rfl) (fun p_ e_ s_ m_ below meth c_ ls A_ CX hr hlk hW hA hE hB hl => ?_)
  obtain ⟨hx, hb, hml, hown, hts⟩ := id CX
  have hl : lv_has ls 2 [(0, .ref (a 11)), (1, .int (nI c))] := hl
  have hW : wld G A_ [(a 11, .inr (3, [.ref (a 12), .ref (a 13), .ref (a 14), .int (nI np)])), (a 12, .inl (cA 0, 3, .inl (fun k => nI (pc k)))), (a 13, .inl (cA 0, 3, .inl (fun k => nI (pl k))))] s_.heap s_.heap [] := hW
  refine lv_aload_n hx hb dX3_append_0 rfl (lv_at hl 0 rfl) ?_
  refine rg (T := TX3) (N := 4) CX hE hW.1 in_X3_append_X3 0 rfl rfl 0 (by decide) fl_X3_append_9 rfl rfl dX3_append_1 ?_
  refine lv_aload_n hx hb dX3_append_4 rfl (lv_at hl 0 rfl) ?_
  refine rg (T := TX3) (N := 4) CX hE hW.1 in_X3_append_X3 0 rfl rfl 3 (by decide) fl_X3_append_23 rfl rfl dX3_append_5 ?_
  refine lv_iload_n hx hb dX3_append_8 rfl (lv_at hl 1 rfl) ?_
  refine rn_iast (ws' := [(a 11, .inr (3, [.ref (a 12), .ref (a 13), .ref (a 14), .int (nI np)])), (a 12, .inl (cA 0, 3, .inl (upd (fun k => nI (pc k)) np (nI c)))), (a 13, .inl (cA 0, 3, .inl (fun k => nI (pl k))))]) CX hE hW 1 rfl (j := np) (by omega) (ltb rfl) rfl dX3_append_9 (fun H locs hW => ?_)
  have hW := hW.ext (ws' := [(a 11, .inr (3, [.ref (a 12), .ref (a 13), .ref (a 14), .int (nI np)])), (a 12, .inl (cA 0, 3, .inl (fun k => nI ((va_up pc np c) k)))), (a 13, .inl (cA 0, 3, .inl (fun k => nI (pl k))))]) 1 (g := (fun k => nI ((va_up pc np c) k))) rfl (fun _ _ => updN_eq) rfl
  refine lv_aload_n hx hb dX3_append_10 rfl (lv_at hl 0 rfl) ?_
  refine rg (T := TX3) (N := 4) CX hE hW.1 in_X3_append_X3 0 rfl rfl 1 (by decide) fl_X3_append_15 rfl rfl dX3_append_11 ?_
  refine lv_aload_n hx hb dX3_append_14 rfl (lv_at hl 0 rfl) ?_
  refine rg (T := TX3) (N := 4) CX hE hW.1 in_X3_append_X3 0 rfl rfl 3 (by decide) fl_X3_append_23 rfl rfl dX3_append_15 ?_
  refine rn_iconst hx hb 0 rfl dX3_append_18 ?_
  refine rn_iast (ws' := [(a 11, .inr (3, [.ref (a 12), .ref (a 13), .ref (a 14), .int (nI np)])), (a 12, .inl (cA 0, 3, .inl (fun k => nI ((va_up pc np c) k)))), (a 13, .inl (cA 0, 3, .inl (upd (fun k => nI (pl k)) np (nI 0))))]) CX hE hW 2 rfl (j := np) (by omega) (ltb rfl) rfl dX3_append_19 (fun H locs hW => ?_)
  have hW := hW.ext (ws' := [(a 11, .inr (3, [.ref (a 12), .ref (a 13), .ref (a 14), .int (nI np)])), (a 12, .inl (cA 0, 3, .inl (fun k => nI ((va_up pc np c) k)))), (a 13, .inl (cA 0, 3, .inl (fun k => nI ((va_up pl np 0) k))))]) 2 (g := (fun k => nI ((va_up pl np 0) k))) rfl (fun _ _ => updN_eq) rfl
  refine lv_aload_n hx hb dX3_append_20 rfl (lv_at hl 0 rfl) ?_
  refine lv_dup hx hb dX3_append_21 rfl ?_
  refine rg (T := TX3) (N := 4) CX hE hW.1 in_X3_append_X3 0 rfl rfl 3 (by decide) fl_X3_append_23 rfl rfl dX3_append_22 ?_
  refine rn_iconst hx hb 1 rfl dX3_append_25 ?_
  refine rn_iadd hx hb dX3_append_26 ?_
  refine rp (T := TX3) (N := 4) (ws' := [(a 11, .inr (3, [.ref (a 12), .ref (a 13), .ref (a 14), .int (nI (np + 1))])), (a 12, .inl (cA 0, 3, .inl (fun k => nI ((va_up pc np c) k)))), (a 13, .inl (cA 0, 3, .inl (fun k => nI ((va_up pl np 0) k))))]) CX hE hW in_X3_append_X3 tyX3 tyX3_ok nmX3 0 rfl rfl 3 (by decide) fl_X3_append_23 rfl rfl rfl rfl (Nat.le_of_ble_eq_true rfl) rfl dX3_append_27 (fun H locs hW => ?_)
  refine lv_aload_n hx hb dX3_append_30 rfl (lv_at hl 0 rfl) ?_
  refine rg (T := TX3) (N := 4) CX hE hW.1 in_X3_append_X3 0 rfl rfl 3 (by decide) fl_X3_append_23 rfl rfl dX3_append_31 ?_
  refine rn_iconst hx hb 1 rfl dX3_append_34 ?_
  refine rn_isub hx hb (by omega) dX3_append_35 ?_
  exact mu_reti CX hr hlk rfl rfl hW dX3_append_36
theorem fl_X3_look_23 : Cond.fieldLink RX3 23 RX3 (TX3 3).2.1 (TX3 3).2.2.1 ∈ wsX3_look := by decide +kernel
theorem in_X3_look_X3 : ∀ w ∈ wsX30, w ∈ wsX3_look := by decide +kernel
theorem fl_X3_look_20 : Cond.fieldLink RX3 20 RX3 (TX3 2).2.1 (TX3 2).2.2.1 ∈ wsX3_look := by decide +kernel
theorem kb_23 : (Int8.ofInt (23)).toInt32 = (nI 23) := by decide +kernel
theorem w_X3_look_acl27 : Cond.methodLink RX3 27 arraycopyName ∈ wsX3_look := by decide +kernel
theorem w_X3_look_acn : Cond.native arraycopyName ∈ wsX3_look := by decide +kernel
theorem w_X3_look_acs : Cond.static arraycopyName ∈ wsX3_look := by decide +kernel
theorem w_X3_look_aci : Cond.initialized "java/lang/System" ∈ wsX3_look := by decide +kernel
theorem fl_X3_look_9 : Cond.fieldLink RX3 9 RX3 (TX3 0).2.1 (TX3 0).2.2.1 ∈ wsX3_look := by decide +kernel
theorem fl_X3_look_15 : Cond.fieldLink RX3 15 RX3 (TX3 1).2.1 (TX3 1).2.2.1 ∈ wsX3_look := by decide +kernel
theorem kb_24 : (Int8.ofInt (24)).toInt32 = (nI 24) := by decide +kernel
theorem w_X3_look_mminl : Cond.methodLink RX3 39 Lib.Math.min.name ∈ wsX3_look := by decide +kernel
theorem w_X3_look_mmins : Cond.static Lib.Math.min.name ∈ wsX3_look := by decide +kernel
theorem w_X3_look_mini : Cond.initialized "java/lang/Math" ∈ wsX3_look := by decide +kernel
theorem w_X3_look_mminc : Cond.code Lib.Math.min.name Lib.Math.min.code 2 (some .int) ∈ wsX3_look := by decide +kernel
set_option maxHeartbeats 4000000 in
set_option maxRecDepth 100000 in
theorem c_X3_look (l : Launch) (G : va_G) (cA : Nat → ClassId) (a : Nat → Nat) (np : Nat) (pc : Nat → Nat) (pl : Nat → Nat) (r0 : Nat → Int32) (r1 : Nat → Int32) (r2 : Nat → Int32) (hh : Nat) (h : Nat → Int32) (hnp : np ≤ 3) (hpc : ∀ p, p < np → pc p < 60 ∧ pl p ≤ 24) : MUv l yX3_look wsX3_look ({ frames := 1, cells := 0, slots := 0, locals := 64 }) G cA BM0 [(a 11, .inr (3, [.ref (a 12), .ref (a 13), .ref (a 14), .int (nI np)])), (a 12, .inl (cA 0, 3, .inl (fun k => nI (pc k)))), (a 13, .inl (cA 0, 3, .inl (fun k => nI (pl k)))), (a 14, .inl (cA 4, 3, .inr (.inr (.inr (.inr (row3 (a 15) (a 16) (a 17))))))), (a 15, .inl (cA 0, 24, .inl r0)), (a 16, .inl (cA 0, 24, .inl r1)), (a 17, .inl (cA 0, 24, .inl r2)), (hh, .inl (cA 0, 60, .inl h))] [.ref (a 11), .ref hh] [(a 11, .inr (3, [.ref (a 12), .ref (a 13), .ref (a 14), .int (nI np)])), (a 12, .inl (cA 0, 3, .inl (fun k => nI (pc k)))), (a 13, .inl (cA 0, 3, .inl (fun k => nI ((lookL pl np) k)))), (a 14, .inl (cA 4, 3, .inr (.inr (.inr (.inr (row3 (a 15) (a 16) (a 17))))))), (a 15, .inl (cA 0, 24, .inl (lookRow np 0 r0 (h (pc 0))))), (a 16, .inl (cA 0, 24, .inl (lookRow np 1 r1 (h (pc 1))))), (a 17, .inl (cA 0, 24, .inl (lookRow np 2 r2 (h (pc 2))))), (hh, .inl (cA 0, 60, .inl h))] := by
  refine MUv.mk (own := RX3) (by decide) rfl rfl (Nat.le_of_ble_eq_true rfl) (fun p_ e_ s_ m_ below meth c_ ls A_ CX hr hlk hW hA hE hB hl => ?_)
  obtain ⟨hx, hb, hml, hown, hts⟩ := id CX
  have hl : lv_has ls 3 [(0, .ref (a 11)), (1, .ref hh)] := hl
  have hW : wld G A_ [(a 11, .inr (3, [.ref (a 12), .ref (a 13), .ref (a 14), .int (nI np)])), (a 12, .inl (cA 0, 3, .inl (fun k => nI (pc k)))), (a 13, .inl (cA 0, 3, .inl (fun k => nI (pl k)))), (a 14, .inl (cA 4, 3, .inr (.inr (.inr (.inr (row3 (a 15) (a 16) (a 17))))))), (a 15, .inl (cA 0, 24, .inl r0)), (a 16, .inl (cA 0, 24, .inl r1)), (a 17, .inl (cA 0, 24, .inl r2)), (hh, .inl (cA 0, 60, .inl h))] s_.heap s_.heap [] := hW
  refine rn_iconst hx hb 0 rfl dX3_look_0 ?_
  refine lv_istore_n (lv' := [(2, .int (nI 0)), (0, .ref (a 11)), (1, .ref hh)]) hx hb dX3_look_1 rfl hl (by decide) rfl (fun ls hl => ?_)
  have LP_2 : ∀ (nn_ : Nat) (i : Nat) (gl : Nat → Nat) (g0 : Nat → Int32) (g1 : Nat → Int32) (g2 : Nat → Int32), (np - i) < nn_ → (i ≤ np) → (gl = lookL pl i) → (g0 = if 0 < i then lookR r0 (h (pc 0)) else r0) → (g1 = if 1 < i then lookR r1 (h (pc 1)) else r1) → (g2 = if 2 < i then lookR r2 (h (pc 2)) else r2) → ∀ (H : Heap) (locs : List Loc) (ls : Array Slot), wld G A_ [(a 11, .inr (3, [.ref (a 12), .ref (a 13), .ref (a 14), .int (nI np)])), (a 12, .inl (cA 0, 3, .inl (fun k => nI (pc k)))), (a 13, .inl (cA 0, 3, .inl (fun k => nI (gl k)))), (a 14, .inl (cA 4, 3, .inr (.inr (.inr (.inr (row3 (a 15) (a 16) (a 17))))))), (a 15, .inl (cA 0, 24, .inl g0)), (a 16, .inl (cA 0, 24, .inl g1)), (a 17, .inl (cA 0, 24, .inl g2)), (hh, .inl (cA 0, 60, .inl h))] s_.heap H locs → lv_has ls 3 [(0, .ref (a 11)), (1, .ref hh), (2, .int (nI i))] → W p_ l e_ ({ frames := 1, cells := 0, slots := 0, locals := 64 } : Room) s_ m_ ([.ref (a 11), .ref hh] : List Value).toArray below meth c_ H locs 0 0 (MQ below (va_Qv (fun _ : Unit => True) (fun _ t_ => va_P G vwCl [(a 11, .inr (3, [.ref (a 12), .ref (a 13), .ref (a 14), .int (nI np)])), (a 12, .inl (cA 0, 3, .inl (fun k => nI (pc k)))), (a 13, .inl (cA 0, 3, .inl (fun k => nI ((lookL pl np) k)))), (a 14, .inl (cA 4, 3, .inr (.inr (.inr (.inr (row3 (a 15) (a 16) (a 17))))))), (a 15, .inl (cA 0, 24, .inl (lookRow np 0 r0 (h (pc 0))))), (a 16, .inl (cA 0, 24, .inl (lookRow np 1 r1 (h (pc 1))))), (a 17, .inl (cA 0, 24, .inl (lookRow np 2 r2 (h (pc 2))))), (hh, .inl (cA 0, 60, .inl h))] t_.heap ∧ va_D A_ [(a 11, .inr (3, [.ref (a 12), .ref (a 13), .ref (a 14), .int (nI np)])), (a 12, .inl (cA 0, 3, .inl (fun k => nI (pc k)))), (a 13, .inl (cA 0, 3, .inl (fun k => nI ((lookL pl np) k)))), (a 14, .inl (cA 4, 3, .inr (.inr (.inr (.inr (row3 (a 15) (a 16) (a 17))))))), (a 15, .inl (cA 0, 24, .inl (lookRow np 0 r0 (h (pc 0))))), (a 16, .inl (cA 0, 24, .inl (lookRow np 1 r1 (h (pc 1))))), (a 17, .inl (cA 0, 24, .inl (lookRow np 2 r2 (h (pc 2))))), (hh, .inl (cA 0, 60, .inl h))]) A_) ([.ref (a 11), .ref hh] : List Value).toArray s_ 0 0 A_) (F0 m_ 2 ls []) := by
    intro nn_
    induction nn_ with
    | zero => intro i gl g0 g1 g2 hmu; exact absurd hmu (Nat.not_lt_zero _)
    | succ nn_ ih =>
      have ih_2 := ih
      clear ih
      intro i gl g0 g1 g2 hmu_2 hi hgl hg0 hg1 hg2 H locs ls hW hl
      refine lv_iload_n hx hb dX3_look_2 rfl (lv_at hl 2 rfl) ?_
      refine lv_aload_n hx hb dX3_look_3 rfl (lv_at hl 0 rfl) ?_
      refine rg (T := TX3) (N := 4) CX hE hW.1 in_X3_look_X3 0 rfl rfl 3 (by decide) fl_X3_look_23 rfl rfl dX3_look_4 ?_
      refine rn_icmp_ge hx hb (by omega) (by omega) dX3_look_7 (by decide) (tgt := 70) (fun c_7 => ?_) (fun c_7 => ?_)
      · have hW := hW.ext (ws' := [(a 11, .inr (3, [.ref (a 12), .ref (a 13), .ref (a 14), .int (nI np)])), (a 12, .inl (cA 0, 3, .inl (fun k => nI (pc k)))), (a 13, .inl (cA 0, 3, .inl (fun k => nI ((lookL pl np) k)))), (a 14, .inl (cA 4, 3, .inr (.inr (.inr (.inr (row3 (a 15) (a 16) (a 17))))))), (a 15, .inl (cA 0, 24, .inl g0)), (a 16, .inl (cA 0, 24, .inl g1)), (a 17, .inl (cA 0, 24, .inl g2)), (hh, .inl (cA 0, 60, .inl h))]) 2 (g := (fun k => nI ((lookL pl np) k))) rfl (fun j _ => by show nI (gl j) = _; rw [hgl, show i = np by omega]) rfl
        have hW := hW.ext (ws' := [(a 11, .inr (3, [.ref (a 12), .ref (a 13), .ref (a 14), .int (nI np)])), (a 12, .inl (cA 0, 3, .inl (fun k => nI (pc k)))), (a 13, .inl (cA 0, 3, .inl (fun k => nI ((lookL pl np) k)))), (a 14, .inl (cA 4, 3, .inr (.inr (.inr (.inr (row3 (a 15) (a 16) (a 17))))))), (a 15, .inl (cA 0, 24, .inl (lookRow np 0 r0 (h (pc 0))))), (a 16, .inl (cA 0, 24, .inl g1)), (a 17, .inl (cA 0, 24, .inl g2)), (hh, .inl (cA 0, 60, .inl h))]) 4 (g := (lookRow np 0 r0 (h (pc 0)))) rfl (fun j _ => by rw [hg0, show i = np by omega]; rfl) rfl
        have hW := hW.ext (ws' := [(a 11, .inr (3, [.ref (a 12), .ref (a 13), .ref (a 14), .int (nI np)])), (a 12, .inl (cA 0, 3, .inl (fun k => nI (pc k)))), (a 13, .inl (cA 0, 3, .inl (fun k => nI ((lookL pl np) k)))), (a 14, .inl (cA 4, 3, .inr (.inr (.inr (.inr (row3 (a 15) (a 16) (a 17))))))), (a 15, .inl (cA 0, 24, .inl (lookRow np 0 r0 (h (pc 0))))), (a 16, .inl (cA 0, 24, .inl (lookRow np 1 r1 (h (pc 1))))), (a 17, .inl (cA 0, 24, .inl g2)), (hh, .inl (cA 0, 60, .inl h))]) 5 (g := (lookRow np 1 r1 (h (pc 1)))) rfl (fun j _ => by rw [hg1, show i = np by omega]; rfl) rfl
        have hW := hW.ext (ws' := [(a 11, .inr (3, [.ref (a 12), .ref (a 13), .ref (a 14), .int (nI np)])), (a 12, .inl (cA 0, 3, .inl (fun k => nI (pc k)))), (a 13, .inl (cA 0, 3, .inl (fun k => nI ((lookL pl np) k)))), (a 14, .inl (cA 4, 3, .inr (.inr (.inr (.inr (row3 (a 15) (a 16) (a 17))))))), (a 15, .inl (cA 0, 24, .inl (lookRow np 0 r0 (h (pc 0))))), (a 16, .inl (cA 0, 24, .inl (lookRow np 1 r1 (h (pc 1))))), (a 17, .inl (cA 0, 24, .inl (lookRow np 2 r2 (h (pc 2))))), (hh, .inl (cA 0, 60, .inl h))]) 6 (g := (lookRow np 2 r2 (h (pc 2)))) rfl (fun j _ => by rw [hg2, show i = np by omega]; rfl) rfl
        exact mu_retv CX hr hlk hW dX3_look_70
      · have hpi := hpc i (by omega)
        have hli : gl i = pl i := by rw [hgl]; exact if_neg (Nat.lt_irrefl i)
        rcases (show i = 0 ∨ i = 1 ∨ i = 2 by omega) with rfl | rfl | rfl
        · refine lv_aload_n hx hb dX3_look_10 rfl (lv_at hl 0 rfl) ?_
          refine rg (T := TX3) (N := 4) CX hE hW.1 in_X3_look_X3 0 rfl rfl 2 (by decide) fl_X3_look_20 rfl rfl dX3_look_11 ?_
          refine lv_iload_n hx hb dX3_look_14 rfl (lv_at hl 2 rfl) ?_
          refine rn_aald4 CX hE hW.1 3 rfl (j := 0) (by omega) (ltb rfl) (r := (a 15)) rfl dX3_look_15 ?_
          refine rn_iconst hx hb 0 rfl dX3_look_16 ?_
          refine lv_aload_n hx hb dX3_look_17 rfl (lv_at hl 0 rfl) ?_
          refine rg (T := TX3) (N := 4) CX hE hW.1 in_X3_look_X3 0 rfl rfl 2 (by decide) fl_X3_look_20 rfl rfl dX3_look_18 ?_
          refine lv_iload_n hx hb dX3_look_21 rfl (lv_at hl 2 rfl) ?_
          refine rn_aald4 CX hE hW.1 3 rfl (j := 0) (by omega) (ltb rfl) (r := (a 15)) rfl dX3_look_22 ?_
          refine rn_iconst hx hb 1 rfl dX3_look_23 ?_
          refine lv_bipush (v := (nI 23)) hx hb dX3_look_24 kb_23 ?_
          refine rn_copy (ws' := [(a 11, .inr (3, [.ref (a 12), .ref (a 13), .ref (a 14), .int (nI np)])), (a 12, .inl (cA 0, 3, .inl (fun k => nI (pc k)))), (a 13, .inl (cA 0, 3, .inl (fun k => nI (gl k)))), (a 14, .inl (cA 4, 3, .inr (.inr (.inr (.inr (row3 (a 15) (a 16) (a 17))))))), (a 15, .inl (cA 0, 24, .inl (va_cpy g0 g0 0 1 23))), (a 16, .inl (cA 0, 24, .inl g1)), (a 17, .inl (cA 0, 24, .inl g2)), (hh, .inl (cA 0, 60, .inl h))]) CX hE hW hl.1 (hts _ w_X3_look_acl27) (hts _ w_X3_look_acn) (hts _ w_X3_look_acs) (hts _ w_X3_look_aci) 4 4 rfl rfl (sp := 0) (dp := 1) (n := 23) (by omega) (by omega) (by omega) (Nat.le_of_ble_eq_true rfl) (by decide +kernel) rfl dX3_look_26 (fun H locs hW => ?_)
          refine lv_aload_n hx hb dX3_look_29 rfl (lv_at hl 0 rfl) ?_
          refine rg (T := TX3) (N := 4) CX hE hW.1 in_X3_look_X3 0 rfl rfl 2 (by decide) fl_X3_look_20 rfl rfl dX3_look_30 ?_
          refine lv_iload_n hx hb dX3_look_33 rfl (lv_at hl 2 rfl) ?_
          refine rn_aald4 CX hE hW.1 3 rfl (j := 0) (by omega) (ltb rfl) (r := (a 15)) rfl dX3_look_34 ?_
          refine rn_iconst hx hb 0 rfl dX3_look_35 ?_
          refine lv_aload_n hx hb dX3_look_36 rfl (lv_at hl 1 rfl) ?_
          refine lv_aload_n hx hb dX3_look_37 rfl (lv_at hl 0 rfl) ?_
          refine rg (T := TX3) (N := 4) CX hE hW.1 in_X3_look_X3 0 rfl rfl 0 (by decide) fl_X3_look_9 rfl rfl dX3_look_38 ?_
          refine lv_iload_n hx hb dX3_look_41 rfl (lv_at hl 2 rfl) ?_
          refine rn_iald CX hE hW.1 1 rfl (j := 0) (by omega) (ltb rfl) dX3_look_42 ?_
          refine rn_iald CX hE hW.1 7 rfl (j := (pc 0)) (by omega) (ltb rfl) dX3_look_43 ?_
          refine rn_iast (ws' := [(a 11, .inr (3, [.ref (a 12), .ref (a 13), .ref (a 14), .int (nI np)])), (a 12, .inl (cA 0, 3, .inl (fun k => nI (pc k)))), (a 13, .inl (cA 0, 3, .inl (fun k => nI (gl k)))), (a 14, .inl (cA 4, 3, .inr (.inr (.inr (.inr (row3 (a 15) (a 16) (a 17))))))), (a 15, .inl (cA 0, 24, .inl (upd (va_cpy g0 g0 0 1 23) 0 (h (pc 0))))), (a 16, .inl (cA 0, 24, .inl g1)), (a 17, .inl (cA 0, 24, .inl g2)), (hh, .inl (cA 0, 60, .inl h))]) CX hE hW 4 rfl (j := 0) (by omega) (ltb rfl) rfl dX3_look_44 (fun H locs hW => ?_)
          refine lv_aload_n hx hb dX3_look_45 rfl (lv_at hl 0 rfl) ?_
          refine rg (T := TX3) (N := 4) CX hE hW.1 in_X3_look_X3 0 rfl rfl 1 (by decide) fl_X3_look_15 rfl rfl dX3_look_46 ?_
          refine lv_iload_n hx hb dX3_look_49 rfl (lv_at hl 2 rfl) ?_
          refine lv_aload_n hx hb dX3_look_50 rfl (lv_at hl 0 rfl) ?_
          refine rg (T := TX3) (N := 4) CX hE hW.1 in_X3_look_X3 0 rfl rfl 1 (by decide) fl_X3_look_15 rfl rfl dX3_look_51 ?_
          refine lv_iload_n hx hb dX3_look_54 rfl (lv_at hl 2 rfl) ?_
          refine rn_iald CX hE hW.1 2 rfl (j := 0) (by omega) (ltb rfl) dX3_look_55 ?_
          refine rn_iconst hx hb 1 rfl dX3_look_56 ?_
          refine rn_iadd hx hb dX3_look_57 ?_
          refine lv_bipush (v := (nI 24)) hx hb dX3_look_58 kb_24 ?_
          refine va_mmin hx hb (by rw [hml]; exact hl.1.symm) hown (hts _ w_X3_look_mminl) (hts _ w_X3_look_mmins) (hts _ w_X3_look_mini) (hts _ w_X3_look_mminc) (Nat.le_of_ble_eq_true rfl) (Nat.le_of_ble_eq_true rfl) (Nat.zero_le _) (Nat.zero_le _) dX3_look_60 ?_
          refine rn_top (imin (nI (gl 0 + 1)) (nI 24)) rfl ?_
          refine rn_top (nI (min (gl 0 + 1) 24)) (imin_nat (by omega) (by omega)) ?_
          refine rn_iast (ws' := [(a 11, .inr (3, [.ref (a 12), .ref (a 13), .ref (a 14), .int (nI np)])), (a 12, .inl (cA 0, 3, .inl (fun k => nI (pc k)))), (a 13, .inl (cA 0, 3, .inl (upd (fun k => nI (gl k)) 0 (nI (min (gl 0 + 1) 24))))), (a 14, .inl (cA 4, 3, .inr (.inr (.inr (.inr (row3 (a 15) (a 16) (a 17))))))), (a 15, .inl (cA 0, 24, .inl (upd (va_cpy g0 g0 0 1 23) 0 (h (pc 0))))), (a 16, .inl (cA 0, 24, .inl g1)), (a 17, .inl (cA 0, 24, .inl g2)), (hh, .inl (cA 0, 60, .inl h))]) CX hE hW 2 rfl (j := 0) (by omega) (ltb rfl) rfl dX3_look_63 (fun H locs hW => ?_)
          have hW := hW.ext (ws' := [(a 11, .inr (3, [.ref (a 12), .ref (a 13), .ref (a 14), .int (nI np)])), (a 12, .inl (cA 0, 3, .inl (fun k => nI (pc k)))), (a 13, .inl (cA 0, 3, .inl (fun k => nI ((va_up gl 0 (min (gl 0 + 1) 24)) k)))), (a 14, .inl (cA 4, 3, .inr (.inr (.inr (.inr (row3 (a 15) (a 16) (a 17))))))), (a 15, .inl (cA 0, 24, .inl (upd (va_cpy g0 g0 0 1 23) 0 (h (pc 0))))), (a 16, .inl (cA 0, 24, .inl g1)), (a 17, .inl (cA 0, 24, .inl g2)), (hh, .inl (cA 0, 60, .inl h))]) 2 (g := (fun k => nI ((va_up gl 0 (min (gl 0 + 1) 24)) k))) rfl (fun _ _ => updN_eq) rfl
          refine rn_iinc hx hb (n := 1) (lv' := [(2, .int (nI 1)), (0, .ref (a 11)), (1, .ref hh)]) rfl dX3_look_64 hl (k := 2) rfl (by decide) rfl (fun ls hl => ?_)
          refine lv_goto (tgt := 2) hx hb dX3_look_67 (by decide) ?_
          exact ih_2 1 (va_up gl 0 (min (gl 0 + 1) 24)) (upd (va_cpy g0 g0 0 1 23) 0 (h (pc 0))) g1 g2 (by omega) (by omega) (lookL_next hgl) (by first | (rw [hg0]; rfl) | (rw [look_eq, hg0]; rfl)) (by first | (rw [hg1]; rfl) | (rw [look_eq, hg1]; rfl)) (by first | (rw [hg2]; rfl) | (rw [look_eq, hg2]; rfl)) _ _ ls hW (lv_sub hl [1, 2, 0] rfl)
        · refine lv_aload_n hx hb dX3_look_10 rfl (lv_at hl 0 rfl) ?_
          refine rg (T := TX3) (N := 4) CX hE hW.1 in_X3_look_X3 0 rfl rfl 2 (by decide) fl_X3_look_20 rfl rfl dX3_look_11 ?_
          refine lv_iload_n hx hb dX3_look_14 rfl (lv_at hl 2 rfl) ?_
          refine rn_aald4 CX hE hW.1 3 rfl (j := 1) (by omega) (ltb rfl) (r := (a 16)) rfl dX3_look_15 ?_
          refine rn_iconst hx hb 0 rfl dX3_look_16 ?_
          refine lv_aload_n hx hb dX3_look_17 rfl (lv_at hl 0 rfl) ?_
          refine rg (T := TX3) (N := 4) CX hE hW.1 in_X3_look_X3 0 rfl rfl 2 (by decide) fl_X3_look_20 rfl rfl dX3_look_18 ?_
          refine lv_iload_n hx hb dX3_look_21 rfl (lv_at hl 2 rfl) ?_
          refine rn_aald4 CX hE hW.1 3 rfl (j := 1) (by omega) (ltb rfl) (r := (a 16)) rfl dX3_look_22 ?_
          refine rn_iconst hx hb 1 rfl dX3_look_23 ?_
          refine lv_bipush (v := (nI 23)) hx hb dX3_look_24 kb_23 ?_
          refine rn_copy (ws' := [(a 11, .inr (3, [.ref (a 12), .ref (a 13), .ref (a 14), .int (nI np)])), (a 12, .inl (cA 0, 3, .inl (fun k => nI (pc k)))), (a 13, .inl (cA 0, 3, .inl (fun k => nI (gl k)))), (a 14, .inl (cA 4, 3, .inr (.inr (.inr (.inr (row3 (a 15) (a 16) (a 17))))))), (a 15, .inl (cA 0, 24, .inl g0)), (a 16, .inl (cA 0, 24, .inl (va_cpy g1 g1 0 1 23))), (a 17, .inl (cA 0, 24, .inl g2)), (hh, .inl (cA 0, 60, .inl h))]) CX hE hW hl.1 (hts _ w_X3_look_acl27) (hts _ w_X3_look_acn) (hts _ w_X3_look_acs) (hts _ w_X3_look_aci) 5 5 rfl rfl (sp := 0) (dp := 1) (n := 23) (by omega) (by omega) (by omega) (Nat.le_of_ble_eq_true rfl) (by decide +kernel) rfl dX3_look_26 (fun H locs hW => ?_)
          refine lv_aload_n hx hb dX3_look_29 rfl (lv_at hl 0 rfl) ?_
          refine rg (T := TX3) (N := 4) CX hE hW.1 in_X3_look_X3 0 rfl rfl 2 (by decide) fl_X3_look_20 rfl rfl dX3_look_30 ?_
          refine lv_iload_n hx hb dX3_look_33 rfl (lv_at hl 2 rfl) ?_
          refine rn_aald4 CX hE hW.1 3 rfl (j := 1) (by omega) (ltb rfl) (r := (a 16)) rfl dX3_look_34 ?_
          refine rn_iconst hx hb 0 rfl dX3_look_35 ?_
          refine lv_aload_n hx hb dX3_look_36 rfl (lv_at hl 1 rfl) ?_
          refine lv_aload_n hx hb dX3_look_37 rfl (lv_at hl 0 rfl) ?_
          refine rg (T := TX3) (N := 4) CX hE hW.1 in_X3_look_X3 0 rfl rfl 0 (by decide) fl_X3_look_9 rfl rfl dX3_look_38 ?_
          refine lv_iload_n hx hb dX3_look_41 rfl (lv_at hl 2 rfl) ?_
          refine rn_iald CX hE hW.1 1 rfl (j := 1) (by omega) (ltb rfl) dX3_look_42 ?_
          refine rn_iald CX hE hW.1 7 rfl (j := (pc 1)) (by omega) (ltb rfl) dX3_look_43 ?_
          refine rn_iast (ws' := [(a 11, .inr (3, [.ref (a 12), .ref (a 13), .ref (a 14), .int (nI np)])), (a 12, .inl (cA 0, 3, .inl (fun k => nI (pc k)))), (a 13, .inl (cA 0, 3, .inl (fun k => nI (gl k)))), (a 14, .inl (cA 4, 3, .inr (.inr (.inr (.inr (row3 (a 15) (a 16) (a 17))))))), (a 15, .inl (cA 0, 24, .inl g0)), (a 16, .inl (cA 0, 24, .inl (upd (va_cpy g1 g1 0 1 23) 0 (h (pc 1))))), (a 17, .inl (cA 0, 24, .inl g2)), (hh, .inl (cA 0, 60, .inl h))]) CX hE hW 5 rfl (j := 0) (by omega) (ltb rfl) rfl dX3_look_44 (fun H locs hW => ?_)
          refine lv_aload_n hx hb dX3_look_45 rfl (lv_at hl 0 rfl) ?_
          refine rg (T := TX3) (N := 4) CX hE hW.1 in_X3_look_X3 0 rfl rfl 1 (by decide) fl_X3_look_15 rfl rfl dX3_look_46 ?_
          refine lv_iload_n hx hb dX3_look_49 rfl (lv_at hl 2 rfl) ?_
          refine lv_aload_n hx hb dX3_look_50 rfl (lv_at hl 0 rfl) ?_
          refine rg (T := TX3) (N := 4) CX hE hW.1 in_X3_look_X3 0 rfl rfl 1 (by decide) fl_X3_look_15 rfl rfl dX3_look_51 ?_
          refine lv_iload_n hx hb dX3_look_54 rfl (lv_at hl 2 rfl) ?_
          refine rn_iald CX hE hW.1 2 rfl (j := 1) (by omega) (ltb rfl) dX3_look_55 ?_
          refine rn_iconst hx hb 1 rfl dX3_look_56 ?_
          refine rn_iadd hx hb dX3_look_57 ?_
          refine lv_bipush (v := (nI 24)) hx hb dX3_look_58 kb_24 ?_
          refine va_mmin hx hb (by rw [hml]; exact hl.1.symm) hown (hts _ w_X3_look_mminl) (hts _ w_X3_look_mmins) (hts _ w_X3_look_mini) (hts _ w_X3_look_mminc) (Nat.le_of_ble_eq_true rfl) (Nat.le_of_ble_eq_true rfl) (Nat.zero_le _) (Nat.zero_le _) dX3_look_60 ?_
          refine rn_top (imin (nI (gl 1 + 1)) (nI 24)) rfl ?_
          refine rn_top (nI (min (gl 1 + 1) 24)) (imin_nat (by omega) (by omega)) ?_
          refine rn_iast (ws' := [(a 11, .inr (3, [.ref (a 12), .ref (a 13), .ref (a 14), .int (nI np)])), (a 12, .inl (cA 0, 3, .inl (fun k => nI (pc k)))), (a 13, .inl (cA 0, 3, .inl (upd (fun k => nI (gl k)) 1 (nI (min (gl 1 + 1) 24))))), (a 14, .inl (cA 4, 3, .inr (.inr (.inr (.inr (row3 (a 15) (a 16) (a 17))))))), (a 15, .inl (cA 0, 24, .inl g0)), (a 16, .inl (cA 0, 24, .inl (upd (va_cpy g1 g1 0 1 23) 0 (h (pc 1))))), (a 17, .inl (cA 0, 24, .inl g2)), (hh, .inl (cA 0, 60, .inl h))]) CX hE hW 2 rfl (j := 1) (by omega) (ltb rfl) rfl dX3_look_63 (fun H locs hW => ?_)
          have hW := hW.ext (ws' := [(a 11, .inr (3, [.ref (a 12), .ref (a 13), .ref (a 14), .int (nI np)])), (a 12, .inl (cA 0, 3, .inl (fun k => nI (pc k)))), (a 13, .inl (cA 0, 3, .inl (fun k => nI ((va_up gl 1 (min (gl 1 + 1) 24)) k)))), (a 14, .inl (cA 4, 3, .inr (.inr (.inr (.inr (row3 (a 15) (a 16) (a 17))))))), (a 15, .inl (cA 0, 24, .inl g0)), (a 16, .inl (cA 0, 24, .inl (upd (va_cpy g1 g1 0 1 23) 0 (h (pc 1))))), (a 17, .inl (cA 0, 24, .inl g2)), (hh, .inl (cA 0, 60, .inl h))]) 2 (g := (fun k => nI ((va_up gl 1 (min (gl 1 + 1) 24)) k))) rfl (fun _ _ => updN_eq) rfl
          refine rn_iinc hx hb (n := 1) (lv' := [(2, .int (nI 2)), (0, .ref (a 11)), (1, .ref hh)]) rfl dX3_look_64 hl (k := 2) rfl (by decide) rfl (fun ls hl => ?_)
          refine lv_goto (tgt := 2) hx hb dX3_look_67 (by decide) ?_
          exact ih_2 2 (va_up gl 1 (min (gl 1 + 1) 24)) g0 (upd (va_cpy g1 g1 0 1 23) 0 (h (pc 1))) g2 (by omega) (by omega) (lookL_next hgl) (by first | (rw [hg0]; rfl) | (rw [look_eq, hg0]; rfl)) (by first | (rw [hg1]; rfl) | (rw [look_eq, hg1]; rfl)) (by first | (rw [hg2]; rfl) | (rw [look_eq, hg2]; rfl)) _ _ ls hW (lv_sub hl [1, 2, 0] rfl)
        · refine lv_aload_n hx hb dX3_look_10 rfl (lv_at hl 0 rfl) ?_
          refine rg (T := TX3) (N := 4) CX hE hW.1 in_X3_look_X3 0 rfl rfl 2 (by decide) fl_X3_look_20 rfl rfl dX3_look_11 ?_
          refine lv_iload_n hx hb dX3_look_14 rfl (lv_at hl 2 rfl) ?_
          refine rn_aald4 CX hE hW.1 3 rfl (j := 2) (by omega) (ltb rfl) (r := (a 17)) rfl dX3_look_15 ?_
          refine rn_iconst hx hb 0 rfl dX3_look_16 ?_
          refine lv_aload_n hx hb dX3_look_17 rfl (lv_at hl 0 rfl) ?_
          refine rg (T := TX3) (N := 4) CX hE hW.1 in_X3_look_X3 0 rfl rfl 2 (by decide) fl_X3_look_20 rfl rfl dX3_look_18 ?_
          refine lv_iload_n hx hb dX3_look_21 rfl (lv_at hl 2 rfl) ?_
          refine rn_aald4 CX hE hW.1 3 rfl (j := 2) (by omega) (ltb rfl) (r := (a 17)) rfl dX3_look_22 ?_
          refine rn_iconst hx hb 1 rfl dX3_look_23 ?_
          refine lv_bipush (v := (nI 23)) hx hb dX3_look_24 kb_23 ?_
          refine rn_copy (ws' := [(a 11, .inr (3, [.ref (a 12), .ref (a 13), .ref (a 14), .int (nI np)])), (a 12, .inl (cA 0, 3, .inl (fun k => nI (pc k)))), (a 13, .inl (cA 0, 3, .inl (fun k => nI (gl k)))), (a 14, .inl (cA 4, 3, .inr (.inr (.inr (.inr (row3 (a 15) (a 16) (a 17))))))), (a 15, .inl (cA 0, 24, .inl g0)), (a 16, .inl (cA 0, 24, .inl g1)), (a 17, .inl (cA 0, 24, .inl (va_cpy g2 g2 0 1 23))), (hh, .inl (cA 0, 60, .inl h))]) CX hE hW hl.1 (hts _ w_X3_look_acl27) (hts _ w_X3_look_acn) (hts _ w_X3_look_acs) (hts _ w_X3_look_aci) 6 6 rfl rfl (sp := 0) (dp := 1) (n := 23) (by omega) (by omega) (by omega) (Nat.le_of_ble_eq_true rfl) (by decide +kernel) rfl dX3_look_26 (fun H locs hW => ?_)
          refine lv_aload_n hx hb dX3_look_29 rfl (lv_at hl 0 rfl) ?_
          refine rg (T := TX3) (N := 4) CX hE hW.1 in_X3_look_X3 0 rfl rfl 2 (by decide) fl_X3_look_20 rfl rfl dX3_look_30 ?_
          refine lv_iload_n hx hb dX3_look_33 rfl (lv_at hl 2 rfl) ?_
          refine rn_aald4 CX hE hW.1 3 rfl (j := 2) (by omega) (ltb rfl) (r := (a 17)) rfl dX3_look_34 ?_
          refine rn_iconst hx hb 0 rfl dX3_look_35 ?_
          refine lv_aload_n hx hb dX3_look_36 rfl (lv_at hl 1 rfl) ?_
          refine lv_aload_n hx hb dX3_look_37 rfl (lv_at hl 0 rfl) ?_
          refine rg (T := TX3) (N := 4) CX hE hW.1 in_X3_look_X3 0 rfl rfl 0 (by decide) fl_X3_look_9 rfl rfl dX3_look_38 ?_
          refine lv_iload_n hx hb dX3_look_41 rfl (lv_at hl 2 rfl) ?_
          refine rn_iald CX hE hW.1 1 rfl (j := 2) (by omega) (ltb rfl) dX3_look_42 ?_
          refine rn_iald CX hE hW.1 7 rfl (j := (pc 2)) (by omega) (ltb rfl) dX3_look_43 ?_
          refine rn_iast (ws' := [(a 11, .inr (3, [.ref (a 12), .ref (a 13), .ref (a 14), .int (nI np)])), (a 12, .inl (cA 0, 3, .inl (fun k => nI (pc k)))), (a 13, .inl (cA 0, 3, .inl (fun k => nI (gl k)))), (a 14, .inl (cA 4, 3, .inr (.inr (.inr (.inr (row3 (a 15) (a 16) (a 17))))))), (a 15, .inl (cA 0, 24, .inl g0)), (a 16, .inl (cA 0, 24, .inl g1)), (a 17, .inl (cA 0, 24, .inl (upd (va_cpy g2 g2 0 1 23) 0 (h (pc 2))))), (hh, .inl (cA 0, 60, .inl h))]) CX hE hW 6 rfl (j := 0) (by omega) (ltb rfl) rfl dX3_look_44 (fun H locs hW => ?_)
          refine lv_aload_n hx hb dX3_look_45 rfl (lv_at hl 0 rfl) ?_
          refine rg (T := TX3) (N := 4) CX hE hW.1 in_X3_look_X3 0 rfl rfl 1 (by decide) fl_X3_look_15 rfl rfl dX3_look_46 ?_
          refine lv_iload_n hx hb dX3_look_49 rfl (lv_at hl 2 rfl) ?_
          refine lv_aload_n hx hb dX3_look_50 rfl (lv_at hl 0 rfl) ?_
          refine rg (T := TX3) (N := 4) CX hE hW.1 in_X3_look_X3 0 rfl rfl 1 (by decide) fl_X3_look_15 rfl rfl dX3_look_51 ?_
          refine lv_iload_n hx hb dX3_look_54 rfl (lv_at hl 2 rfl) ?_
          refine rn_iald CX hE hW.1 2 rfl (j := 2) (by omega) (ltb rfl) dX3_look_55 ?_
          refine rn_iconst hx hb 1 rfl dX3_look_56 ?_
          refine rn_iadd hx hb dX3_look_57 ?_
          refine lv_bipush (v := (nI 24)) hx hb dX3_look_58 kb_24 ?_
          refine va_mmin hx hb (by rw [hml]; exact hl.1.symm) hown (hts _ w_X3_look_mminl) (hts _ w_X3_look_mmins) (hts _ w_X3_look_mini) (hts _ w_X3_look_mminc) (Nat.le_of_ble_eq_true rfl) (Nat.le_of_ble_eq_true rfl) (Nat.zero_le _) (Nat.zero_le _) dX3_look_60 ?_
          refine rn_top (imin (nI (gl 2 + 1)) (nI 24)) rfl ?_
          refine rn_top (nI (min (gl 2 + 1) 24)) (imin_nat (by omega) (by omega)) ?_
          refine rn_iast (ws' := [(a 11, .inr (3, [.ref (a 12), .ref (a 13), .ref (a 14), .int (nI np)])), (a 12, .inl (cA 0, 3, .inl (fun k => nI (pc k)))), (a 13, .inl (cA 0, 3, .inl (upd (fun k => nI (gl k)) 2 (nI (min (gl 2 + 1) 24))))), (a 14, .inl (cA 4, 3, .inr (.inr (.inr (.inr (row3 (a 15) (a 16) (a 17))))))), (a 15, .inl (cA 0, 24, .inl g0)), (a 16, .inl (cA 0, 24, .inl g1)), (a 17, .inl (cA 0, 24, .inl (upd (va_cpy g2 g2 0 1 23) 0 (h (pc 2))))), (hh, .inl (cA 0, 60, .inl h))]) CX hE hW 2 rfl (j := 2) (by omega) (ltb rfl) rfl dX3_look_63 (fun H locs hW => ?_)
          have hW := hW.ext (ws' := [(a 11, .inr (3, [.ref (a 12), .ref (a 13), .ref (a 14), .int (nI np)])), (a 12, .inl (cA 0, 3, .inl (fun k => nI (pc k)))), (a 13, .inl (cA 0, 3, .inl (fun k => nI ((va_up gl 2 (min (gl 2 + 1) 24)) k)))), (a 14, .inl (cA 4, 3, .inr (.inr (.inr (.inr (row3 (a 15) (a 16) (a 17))))))), (a 15, .inl (cA 0, 24, .inl g0)), (a 16, .inl (cA 0, 24, .inl g1)), (a 17, .inl (cA 0, 24, .inl (upd (va_cpy g2 g2 0 1 23) 0 (h (pc 2))))), (hh, .inl (cA 0, 60, .inl h))]) 2 (g := (fun k => nI ((va_up gl 2 (min (gl 2 + 1) 24)) k))) rfl (fun _ _ => updN_eq) rfl
          refine rn_iinc hx hb (n := 1) (lv' := [(2, .int (nI 3)), (0, .ref (a 11)), (1, .ref hh)]) rfl dX3_look_64 hl (k := 2) rfl (by decide) rfl (fun ls hl => ?_)
          refine lv_goto (tgt := 2) hx hb dX3_look_67 (by decide) ?_
          exact ih_2 3 (va_up gl 2 (min (gl 2 + 1) 24)) g0 g1 (upd (va_cpy g2 g2 0 1 23) 0 (h (pc 2))) (by omega) (by omega) (lookL_next hgl) (by first | (rw [hg0]; rfl) | (rw [look_eq, hg0]; rfl)) (by first | (rw [hg1]; rfl) | (rw [look_eq, hg1]; rfl)) (by first | (rw [hg2]; rfl) | (rw [look_eq, hg2]; rfl)) _ _ ls hW (lv_sub hl [1, 2, 0] rfl)
  exact LP_2 _ 0 pl r0 r1 r2 (Nat.lt_succ_self _) (Nat.zero_le _) lookL_0 rfl rfl rfl _ _ ls hW (lv_sub hl [1, 2, 0] rfl)
theorem fl_X3_become_9 : Cond.fieldLink RX3 9 RX3 (TX3 0).2.1 (TX3 0).2.2.1 ∈ wsX3_become := by decide +kernel
theorem in_X3_become_X3 : ∀ w ∈ wsX30, w ∈ wsX3_become := by decide +kernel
theorem w_X3_become_acl27 : Cond.methodLink RX3 27 arraycopyName ∈ wsX3_become := by decide +kernel
theorem w_X3_become_acn : Cond.native arraycopyName ∈ wsX3_become := by decide +kernel
theorem w_X3_become_acs : Cond.static arraycopyName ∈ wsX3_become := by decide +kernel
theorem w_X3_become_aci : Cond.initialized "java/lang/System" ∈ wsX3_become := by decide +kernel
theorem fl_X3_become_15 : Cond.fieldLink RX3 15 RX3 (TX3 1).2.1 (TX3 1).2.2.1 ∈ wsX3_become := by decide +kernel
theorem fl_X3_become_20 : Cond.fieldLink RX3 20 RX3 (TX3 2).2.1 (TX3 2).2.2.1 ∈ wsX3_become := by decide +kernel
theorem fl_X3_become_23 : Cond.fieldLink RX3 23 RX3 (TX3 3).2.1 (TX3 3).2.2.1 ∈ wsX3_become := by decide +kernel
set_option maxHeartbeats 4000000 in
set_option maxRecDepth 100000 in
theorem c_X3_become (l : Launch) (G : va_G) (cA : Nat → ClassId) (a : Nat → Nat) (b : Nat → Nat) (np : Nat) (pc : Nat → Nat) (pl : Nat → Nat) (r0 : Nat → Int32) (r1 : Nat → Int32) (r2 : Nat → Int32) (nq : Nat) (ec : Nat → Nat) (el : Nat → Nat) (e0 : Nat → Int32) (e1 : Nat → Int32) (e2 : Nat → Int32)  : MUv l yX3_become wsX3_become ({ frames := 1, cells := 0, slots := 0, locals := 64 }) G cA BM0 [(a 11, .inr (3, [.ref (a 12), .ref (a 13), .ref (a 14), .int (nI np)])), (a 12, .inl (cA 0, 3, .inl (fun k => nI (pc k)))), (a 13, .inl (cA 0, 3, .inl (fun k => nI (pl k)))), (a 14, .inl (cA 4, 3, .inr (.inr (.inr (.inr (row3 (a 15) (a 16) (a 17))))))), (a 15, .inl (cA 0, 24, .inl r0)), (a 16, .inl (cA 0, 24, .inl r1)), (a 17, .inl (cA 0, 24, .inl r2)), (b 11, .inr (3, [.ref (b 12), .ref (b 13), .ref (b 14), .int (nI nq)])), (b 12, .inl (cA 0, 3, .inl (fun k => nI (ec k)))), (b 13, .inl (cA 0, 3, .inl (fun k => nI (el k)))), (b 14, .inl (cA 4, 3, .inr (.inr (.inr (.inr (row3 (b 15) (b 16) (b 17))))))), (b 15, .inl (cA 0, 24, .inl e0)), (b 16, .inl (cA 0, 24, .inl e1)), (b 17, .inl (cA 0, 24, .inl e2))] [.ref (a 11), .ref (b 11)] [(a 11, .inr (3, [.ref (a 12), .ref (a 13), .ref (a 14), .int (nI nq)])), (a 12, .inl (cA 0, 3, .inl (fun k => nI (ec k)))), (a 13, .inl (cA 0, 3, .inl (fun k => nI (el k)))), (a 14, .inl (cA 4, 3, .inr (.inr (.inr (.inr (row3 (a 15) (a 16) (a 17))))))), (a 15, .inl (cA 0, 24, .inl e0)), (a 16, .inl (cA 0, 24, .inl e1)), (a 17, .inl (cA 0, 24, .inl e2)), (b 11, .inr (3, [.ref (b 12), .ref (b 13), .ref (b 14), .int (nI nq)])), (b 12, .inl (cA 0, 3, .inl (fun k => nI (ec k)))), (b 13, .inl (cA 0, 3, .inl (fun k => nI (el k)))), (b 14, .inl (cA 4, 3, .inr (.inr (.inr (.inr (row3 (b 15) (b 16) (b 17))))))), (b 15, .inl (cA 0, 24, .inl e0)), (b 16, .inl (cA 0, 24, .inl e1)), (b 17, .inl (cA 0, 24, .inl e2))] := by
  refine MUv.mk (own := RX3) (by decide) rfl rfl (Nat.le_of_ble_eq_true rfl) (fun p_ e_ s_ m_ below meth c_ ls A_ CX hr hlk hW hA hE hB hl => ?_)
  obtain ⟨hx, hb, hml, hown, hts⟩ := id CX
  have hl : lv_has ls 3 [(0, .ref (a 11)), (1, .ref (b 11))] := hl
  have hW : wld G A_ [(a 11, .inr (3, [.ref (a 12), .ref (a 13), .ref (a 14), .int (nI np)])), (a 12, .inl (cA 0, 3, .inl (fun k => nI (pc k)))), (a 13, .inl (cA 0, 3, .inl (fun k => nI (pl k)))), (a 14, .inl (cA 4, 3, .inr (.inr (.inr (.inr (row3 (a 15) (a 16) (a 17))))))), (a 15, .inl (cA 0, 24, .inl r0)), (a 16, .inl (cA 0, 24, .inl r1)), (a 17, .inl (cA 0, 24, .inl r2)), (b 11, .inr (3, [.ref (b 12), .ref (b 13), .ref (b 14), .int (nI nq)])), (b 12, .inl (cA 0, 3, .inl (fun k => nI (ec k)))), (b 13, .inl (cA 0, 3, .inl (fun k => nI (el k)))), (b 14, .inl (cA 4, 3, .inr (.inr (.inr (.inr (row3 (b 15) (b 16) (b 17))))))), (b 15, .inl (cA 0, 24, .inl e0)), (b 16, .inl (cA 0, 24, .inl e1)), (b 17, .inl (cA 0, 24, .inl e2))] s_.heap s_.heap [] := hW
  refine lv_aload_n hx hb dX3_become_0 rfl (lv_at hl 1 rfl) ?_
  refine rg (T := TX3) (N := 4) CX hE hW.1 in_X3_become_X3 7 rfl rfl 0 (by decide) fl_X3_become_9 rfl rfl dX3_become_1 ?_
  refine rn_iconst hx hb 0 rfl dX3_become_4 ?_
  refine lv_aload_n hx hb dX3_become_5 rfl (lv_at hl 0 rfl) ?_
  refine rg (T := TX3) (N := 4) CX hE hW.1 in_X3_become_X3 0 rfl rfl 0 (by decide) fl_X3_become_9 rfl rfl dX3_become_6 ?_
  refine rn_iconst hx hb 0 rfl dX3_become_9 ?_
  refine rn_iconst hx hb 3 rfl dX3_become_10 ?_
  refine rn_copyF (ws' := [(a 11, .inr (3, [.ref (a 12), .ref (a 13), .ref (a 14), .int (nI np)])), (a 12, .inl (cA 0, 3, .inl (fun k => nI (ec k)))), (a 13, .inl (cA 0, 3, .inl (fun k => nI (pl k)))), (a 14, .inl (cA 4, 3, .inr (.inr (.inr (.inr (row3 (a 15) (a 16) (a 17))))))), (a 15, .inl (cA 0, 24, .inl r0)), (a 16, .inl (cA 0, 24, .inl r1)), (a 17, .inl (cA 0, 24, .inl r2)), (b 11, .inr (3, [.ref (b 12), .ref (b 13), .ref (b 14), .int (nI nq)])), (b 12, .inl (cA 0, 3, .inl (fun k => nI (ec k)))), (b 13, .inl (cA 0, 3, .inl (fun k => nI (el k)))), (b 14, .inl (cA 4, 3, .inr (.inr (.inr (.inr (row3 (b 15) (b 16) (b 17))))))), (b 15, .inl (cA 0, 24, .inl e0)), (b 16, .inl (cA 0, 24, .inl e1)), (b 17, .inl (cA 0, 24, .inl e2))]) CX hE hW hl.1 (hts _ w_X3_become_acl27) (hts _ w_X3_become_acn) (hts _ w_X3_become_acs) (hts _ w_X3_become_aci) 8 1 rfl rfl (Nat.le_of_ble_eq_true rfl) (by decide +kernel) (ltb rfl) rfl dX3_become_11 (fun H locs hW => ?_)
  refine lv_aload_n hx hb dX3_become_14 rfl (lv_at hl 1 rfl) ?_
  refine rg (T := TX3) (N := 4) CX hE hW.1 in_X3_become_X3 7 rfl rfl 1 (by decide) fl_X3_become_15 rfl rfl dX3_become_15 ?_
  refine rn_iconst hx hb 0 rfl dX3_become_18 ?_
  refine lv_aload_n hx hb dX3_become_19 rfl (lv_at hl 0 rfl) ?_
  refine rg (T := TX3) (N := 4) CX hE hW.1 in_X3_become_X3 0 rfl rfl 1 (by decide) fl_X3_become_15 rfl rfl dX3_become_20 ?_
  refine rn_iconst hx hb 0 rfl dX3_become_23 ?_
  refine rn_iconst hx hb 3 rfl dX3_become_24 ?_
  refine rn_copyF (ws' := [(a 11, .inr (3, [.ref (a 12), .ref (a 13), .ref (a 14), .int (nI np)])), (a 12, .inl (cA 0, 3, .inl (fun k => nI (ec k)))), (a 13, .inl (cA 0, 3, .inl (fun k => nI (el k)))), (a 14, .inl (cA 4, 3, .inr (.inr (.inr (.inr (row3 (a 15) (a 16) (a 17))))))), (a 15, .inl (cA 0, 24, .inl r0)), (a 16, .inl (cA 0, 24, .inl r1)), (a 17, .inl (cA 0, 24, .inl r2)), (b 11, .inr (3, [.ref (b 12), .ref (b 13), .ref (b 14), .int (nI nq)])), (b 12, .inl (cA 0, 3, .inl (fun k => nI (ec k)))), (b 13, .inl (cA 0, 3, .inl (fun k => nI (el k)))), (b 14, .inl (cA 4, 3, .inr (.inr (.inr (.inr (row3 (b 15) (b 16) (b 17))))))), (b 15, .inl (cA 0, 24, .inl e0)), (b 16, .inl (cA 0, 24, .inl e1)), (b 17, .inl (cA 0, 24, .inl e2))]) CX hE hW hl.1 (hts _ w_X3_become_acl27) (hts _ w_X3_become_acn) (hts _ w_X3_become_acs) (hts _ w_X3_become_aci) 9 2 rfl rfl (Nat.le_of_ble_eq_true rfl) (by decide +kernel) (ltb rfl) rfl dX3_become_25 (fun H locs hW => ?_)
  refine rn_iconst hx hb 0 rfl dX3_become_28 ?_
  refine lv_istore_n (lv' := [(2, .int (nI 0)), (0, .ref (a 11)), (1, .ref (b 11))]) hx hb dX3_become_29 rfl hl (by decide) rfl (fun ls hl => ?_)
  refine lv_iload_n hx hb dX3_become_30 rfl (lv_at hl 0 rfl) ?_
  refine rn_iconst hx hb 3 rfl dX3_become_31 ?_
  refine rn_icmp_ge hx hb (by omega) (by omega) dX3_become_32 (by decide) (tgt := 60) (fun c_32 => ?_) (fun c_32 => ?_)
  · exact absurd c_32 (by omega)
  · refine lv_aload_n hx hb dX3_become_35 rfl (lv_at hl 2 rfl) ?_
    refine rg (T := TX3) (N := 4) CX hE hW.1 in_X3_become_X3 7 rfl rfl 2 (by decide) fl_X3_become_20 rfl rfl dX3_become_36 ?_
    refine lv_iload_n hx hb dX3_become_39 rfl (lv_at hl 0 rfl) ?_
    refine rn_aald4 CX hE hW.1 10 rfl (j := 0) (by omega) (ltb rfl) (r := (b 15)) rfl dX3_become_40 ?_
    refine rn_iconst hx hb 0 rfl dX3_become_41 ?_
    refine lv_aload_n hx hb dX3_become_42 rfl (lv_at hl 1 rfl) ?_
    refine rg (T := TX3) (N := 4) CX hE hW.1 in_X3_become_X3 0 rfl rfl 2 (by decide) fl_X3_become_20 rfl rfl dX3_become_43 ?_
    refine lv_iload_n hx hb dX3_become_46 rfl (lv_at hl 0 rfl) ?_
    refine rn_aald4 CX hE hW.1 3 rfl (j := 0) (by omega) (ltb rfl) (r := (a 15)) rfl dX3_become_47 ?_
    refine rn_iconst hx hb 0 rfl dX3_become_48 ?_
    refine lv_bipush (v := (nI 24)) hx hb dX3_become_49 kb_24 ?_
    refine rn_copyF (ws' := [(a 11, .inr (3, [.ref (a 12), .ref (a 13), .ref (a 14), .int (nI np)])), (a 12, .inl (cA 0, 3, .inl (fun k => nI (ec k)))), (a 13, .inl (cA 0, 3, .inl (fun k => nI (el k)))), (a 14, .inl (cA 4, 3, .inr (.inr (.inr (.inr (row3 (a 15) (a 16) (a 17))))))), (a 15, .inl (cA 0, 24, .inl e0)), (a 16, .inl (cA 0, 24, .inl r1)), (a 17, .inl (cA 0, 24, .inl r2)), (b 11, .inr (3, [.ref (b 12), .ref (b 13), .ref (b 14), .int (nI nq)])), (b 12, .inl (cA 0, 3, .inl (fun k => nI (ec k)))), (b 13, .inl (cA 0, 3, .inl (fun k => nI (el k)))), (b 14, .inl (cA 4, 3, .inr (.inr (.inr (.inr (row3 (b 15) (b 16) (b 17))))))), (b 15, .inl (cA 0, 24, .inl e0)), (b 16, .inl (cA 0, 24, .inl e1)), (b 17, .inl (cA 0, 24, .inl e2))]) CX hE hW hl.1 (hts _ w_X3_become_acl27) (hts _ w_X3_become_acn) (hts _ w_X3_become_acs) (hts _ w_X3_become_aci) 11 4 rfl rfl (Nat.le_of_ble_eq_true rfl) (by decide +kernel) (ltb rfl) rfl dX3_become_51 (fun H locs hW => ?_)
    refine rn_iinc hx hb (n := 1) (lv' := [(2, .int (nI 1)), (0, .ref (a 11)), (1, .ref (b 11))]) rfl dX3_become_54 hl (k := 0) rfl (by decide) rfl (fun ls hl => ?_)
    refine lv_goto (tgt := 30) hx hb dX3_become_57 (by decide) ?_
    refine lv_iload_n hx hb dX3_become_30 rfl (lv_at hl 0 rfl) ?_
    refine rn_iconst hx hb 3 rfl dX3_become_31 ?_
    refine rn_icmp_ge hx hb (by omega) (by omega) dX3_become_32 (by decide) (tgt := 60) (fun c_32 => ?_) (fun c_32 => ?_)
    · exact absurd c_32 (by omega)
    · refine lv_aload_n hx hb dX3_become_35 rfl (lv_at hl 2 rfl) ?_
      refine rg (T := TX3) (N := 4) CX hE hW.1 in_X3_become_X3 7 rfl rfl 2 (by decide) fl_X3_become_20 rfl rfl dX3_become_36 ?_
      refine lv_iload_n hx hb dX3_become_39 rfl (lv_at hl 0 rfl) ?_
      refine rn_aald4 CX hE hW.1 10 rfl (j := 1) (by omega) (ltb rfl) (r := (b 16)) rfl dX3_become_40 ?_
      refine rn_iconst hx hb 0 rfl dX3_become_41 ?_
      refine lv_aload_n hx hb dX3_become_42 rfl (lv_at hl 1 rfl) ?_
      refine rg (T := TX3) (N := 4) CX hE hW.1 in_X3_become_X3 0 rfl rfl 2 (by decide) fl_X3_become_20 rfl rfl dX3_become_43 ?_
      refine lv_iload_n hx hb dX3_become_46 rfl (lv_at hl 0 rfl) ?_
      refine rn_aald4 CX hE hW.1 3 rfl (j := 1) (by omega) (ltb rfl) (r := (a 16)) rfl dX3_become_47 ?_
      refine rn_iconst hx hb 0 rfl dX3_become_48 ?_
      refine lv_bipush (v := (nI 24)) hx hb dX3_become_49 kb_24 ?_
      refine rn_copyF (ws' := [(a 11, .inr (3, [.ref (a 12), .ref (a 13), .ref (a 14), .int (nI np)])), (a 12, .inl (cA 0, 3, .inl (fun k => nI (ec k)))), (a 13, .inl (cA 0, 3, .inl (fun k => nI (el k)))), (a 14, .inl (cA 4, 3, .inr (.inr (.inr (.inr (row3 (a 15) (a 16) (a 17))))))), (a 15, .inl (cA 0, 24, .inl e0)), (a 16, .inl (cA 0, 24, .inl e1)), (a 17, .inl (cA 0, 24, .inl r2)), (b 11, .inr (3, [.ref (b 12), .ref (b 13), .ref (b 14), .int (nI nq)])), (b 12, .inl (cA 0, 3, .inl (fun k => nI (ec k)))), (b 13, .inl (cA 0, 3, .inl (fun k => nI (el k)))), (b 14, .inl (cA 4, 3, .inr (.inr (.inr (.inr (row3 (b 15) (b 16) (b 17))))))), (b 15, .inl (cA 0, 24, .inl e0)), (b 16, .inl (cA 0, 24, .inl e1)), (b 17, .inl (cA 0, 24, .inl e2))]) CX hE hW hl.1 (hts _ w_X3_become_acl27) (hts _ w_X3_become_acn) (hts _ w_X3_become_acs) (hts _ w_X3_become_aci) 12 5 rfl rfl (Nat.le_of_ble_eq_true rfl) (by decide +kernel) (ltb rfl) rfl dX3_become_51 (fun H locs hW => ?_)
      refine rn_iinc hx hb (n := 1) (lv' := [(2, .int (nI 2)), (0, .ref (a 11)), (1, .ref (b 11))]) rfl dX3_become_54 hl (k := 0) rfl (by decide) rfl (fun ls hl => ?_)
      refine lv_goto (tgt := 30) hx hb dX3_become_57 (by decide) ?_
      refine lv_iload_n hx hb dX3_become_30 rfl (lv_at hl 0 rfl) ?_
      refine rn_iconst hx hb 3 rfl dX3_become_31 ?_
      refine rn_icmp_ge hx hb (by omega) (by omega) dX3_become_32 (by decide) (tgt := 60) (fun c_32 => ?_) (fun c_32 => ?_)
      · exact absurd c_32 (by omega)
      · refine lv_aload_n hx hb dX3_become_35 rfl (lv_at hl 2 rfl) ?_
        refine rg (T := TX3) (N := 4) CX hE hW.1 in_X3_become_X3 7 rfl rfl 2 (by decide) fl_X3_become_20 rfl rfl dX3_become_36 ?_
        refine lv_iload_n hx hb dX3_become_39 rfl (lv_at hl 0 rfl) ?_
        refine rn_aald4 CX hE hW.1 10 rfl (j := 2) (by omega) (ltb rfl) (r := (b 17)) rfl dX3_become_40 ?_
        refine rn_iconst hx hb 0 rfl dX3_become_41 ?_
        refine lv_aload_n hx hb dX3_become_42 rfl (lv_at hl 1 rfl) ?_
        refine rg (T := TX3) (N := 4) CX hE hW.1 in_X3_become_X3 0 rfl rfl 2 (by decide) fl_X3_become_20 rfl rfl dX3_become_43 ?_
        refine lv_iload_n hx hb dX3_become_46 rfl (lv_at hl 0 rfl) ?_
        refine rn_aald4 CX hE hW.1 3 rfl (j := 2) (by omega) (ltb rfl) (r := (a 17)) rfl dX3_become_47 ?_
        refine rn_iconst hx hb 0 rfl dX3_become_48 ?_
        refine lv_bipush (v := (nI 24)) hx hb dX3_become_49 kb_24 ?_
        refine rn_copyF (ws' := [(a 11, .inr (3, [.ref (a 12), .ref (a 13), .ref (a 14), .int (nI np)])), (a 12, .inl (cA 0, 3, .inl (fun k => nI (ec k)))), (a 13, .inl (cA 0, 3, .inl (fun k => nI (el k)))), (a 14, .inl (cA 4, 3, .inr (.inr (.inr (.inr (row3 (a 15) (a 16) (a 17))))))), (a 15, .inl (cA 0, 24, .inl e0)), (a 16, .inl (cA 0, 24, .inl e1)), (a 17, .inl (cA 0, 24, .inl e2)), (b 11, .inr (3, [.ref (b 12), .ref (b 13), .ref (b 14), .int (nI nq)])), (b 12, .inl (cA 0, 3, .inl (fun k => nI (ec k)))), (b 13, .inl (cA 0, 3, .inl (fun k => nI (el k)))), (b 14, .inl (cA 4, 3, .inr (.inr (.inr (.inr (row3 (b 15) (b 16) (b 17))))))), (b 15, .inl (cA 0, 24, .inl e0)), (b 16, .inl (cA 0, 24, .inl e1)), (b 17, .inl (cA 0, 24, .inl e2))]) CX hE hW hl.1 (hts _ w_X3_become_acl27) (hts _ w_X3_become_acn) (hts _ w_X3_become_acs) (hts _ w_X3_become_aci) 13 6 rfl rfl (Nat.le_of_ble_eq_true rfl) (by decide +kernel) (ltb rfl) rfl dX3_become_51 (fun H locs hW => ?_)
        refine rn_iinc hx hb (n := 1) (lv' := [(2, .int (nI 3)), (0, .ref (a 11)), (1, .ref (b 11))]) rfl dX3_become_54 hl (k := 0) rfl (by decide) rfl (fun ls hl => ?_)
        refine lv_goto (tgt := 30) hx hb dX3_become_57 (by decide) ?_
        refine lv_iload_n hx hb dX3_become_30 rfl (lv_at hl 0 rfl) ?_
        refine rn_iconst hx hb 3 rfl dX3_become_31 ?_
        refine rn_icmp_ge hx hb (by omega) (by omega) dX3_become_32 (by decide) (tgt := 60) (fun c_32 => ?_) (fun c_32 => ?_)
        · refine lv_aload_n hx hb dX3_become_60 rfl (lv_at hl 1 rfl) ?_
          refine lv_aload_n hx hb dX3_become_61 rfl (lv_at hl 2 rfl) ?_
          refine rg (T := TX3) (N := 4) CX hE hW.1 in_X3_become_X3 7 rfl rfl 3 (by decide) fl_X3_become_23 rfl rfl dX3_become_62 ?_
          refine rp (T := TX3) (N := 4) (ws' := [(a 11, .inr (3, [.ref (a 12), .ref (a 13), .ref (a 14), .int (nI nq)])), (a 12, .inl (cA 0, 3, .inl (fun k => nI (ec k)))), (a 13, .inl (cA 0, 3, .inl (fun k => nI (el k)))), (a 14, .inl (cA 4, 3, .inr (.inr (.inr (.inr (row3 (a 15) (a 16) (a 17))))))), (a 15, .inl (cA 0, 24, .inl e0)), (a 16, .inl (cA 0, 24, .inl e1)), (a 17, .inl (cA 0, 24, .inl e2)), (b 11, .inr (3, [.ref (b 12), .ref (b 13), .ref (b 14), .int (nI nq)])), (b 12, .inl (cA 0, 3, .inl (fun k => nI (ec k)))), (b 13, .inl (cA 0, 3, .inl (fun k => nI (el k)))), (b 14, .inl (cA 4, 3, .inr (.inr (.inr (.inr (row3 (b 15) (b 16) (b 17))))))), (b 15, .inl (cA 0, 24, .inl e0)), (b 16, .inl (cA 0, 24, .inl e1)), (b 17, .inl (cA 0, 24, .inl e2))]) CX hE hW in_X3_become_X3 tyX3 tyX3_ok nmX3 0 rfl rfl 3 (by decide) fl_X3_become_23 rfl rfl rfl rfl (Nat.le_of_ble_eq_true rfl) rfl dX3_become_65 (fun H locs hW => ?_)
          exact mu_retv CX hr hlk hW dX3_become_68
        · exact absurd c_32 (by omega)
theorem kb_12 : (Int8.ofInt (12)).toInt32 = (nI 12) := by decide +kernel
theorem fl_X3_differences_20 : Cond.fieldLink RX3 20 RX3 (TX3 2).2.1 (TX3 2).2.2.1 ∈ wsX3_differences := by decide +kernel
theorem in_X3_differences_X3 : ∀ w ∈ wsX30, w ∈ wsX3_differences := by decide +kernel
theorem w_X3_differences_mabsl : Cond.methodLink RX3 51 Lib.Math.abs.name ∈ wsX3_differences := by decide +kernel
theorem w_X3_differences_mabss : Cond.static Lib.Math.abs.name ∈ wsX3_differences := by decide +kernel
theorem w_X3_differences_mini : Cond.initialized "java/lang/Math" ∈ wsX3_differences := by decide +kernel
theorem w_X3_differences_mabsc : Cond.code Lib.Math.abs.name Lib.Math.abs.code 1 (some .int) ∈ wsX3_differences := by decide +kernel
set_option maxHeartbeats 4000000 in
set_option maxRecDepth 100000 in
theorem c_X3_differences_0 (l : Launch) (G : va_G) (cA : Nat → ClassId) (a : Nat → Nat) (np : Nat) (r : Nat → Int32) (lag : Nat) (hlag : lag ≤ 12) : RO l yX3_differences wsX3_differences ({ frames := 1, cells := 0, slots := 0, locals := 24 }) G cA B0 [(a 11, .inr (3, [.ref (a 12), .ref (a 13), .ref (a 14), .int (nI np)])), (a 14, .inl (cA 4, 3, .inr (.inr (.inr (.inr (row3 (a 15) (a 16) (a 17))))))), (a 15, .inl (cA 0, 24, .inl r))] [.ref (a 11), .int (nI 0), .int (nI lag)] (diffF r lag) := by
  refine RO.mk (own := RX3) (by decide) rfl rfl (Nat.le_of_ble_eq_true rfl) (fun p_ e_ s_ m_ below meth c_ ls CX hr hlk hP hE hB hl => ?_)
  obtain ⟨hx, hb, hml, hown, hts⟩ := id CX
  have hl : lv_has ls 5 [(0, .ref (a 11)), (1, .int (nI 0)), (2, .int (nI lag))] := hl
  refine rn_iconst hx hb 0 rfl dX3_differences_0 ?_
  refine lv_istore_n (lv' := [(3, .int (nI 0)), (0, .ref (a 11)), (1, .int (nI 0)), (2, .int (nI lag))]) hx hb dX3_differences_1 rfl hl (by decide) rfl (fun ls hl => ?_)
  refine rn_iconst hx hb 0 rfl dX3_differences_2 ?_
  refine lv_istore (lv' := [(4, .int (nI 0)), (3, .int (nI 0)), (0, .ref (a 11)), (1, .int (nI 0)), (2, .int (nI lag))]) hx hb dX3_differences_3 hl (by decide) rfl (fun ls hl => ?_)
  have LP_5 : ∀ (nn_ : Nat) (i : Nat) (mm : Int32), (12 - i) < nn_ → (i ≤ 12) → (mm = sumI i (fun k => iabs (r k - r (k + lag)))) → ∀ ls : Array Slot, lv_has ls 5 [(0, .ref (a 11)), (1, .int (nI 0)), (2, .int (nI lag)), (3, .int mm), (4, .int (nI i))] → W p_ l e_ ({ frames := 1, cells := 0, slots := 0, locals := 24 } : Room) s_ m_ ([.ref (a 11), .int (nI 0), .int (nI lag)] : List Value).toArray below meth c_ s_.heap [] 0 0 (MQ below (vp_Si (fun r_ => r_ = (diffF r lag))) ([.ref (a 11), .int (nI 0), .int (nI lag)] : List Value).toArray s_ 0 0 (fun _ => False)) (F0 m_ 5 ls []) := by
    intro nn_
    induction nn_ with
    | zero => intro i mm hmu; exact absurd hmu (Nat.not_lt_zero _)
    | succ nn_ ih =>
      have ih_5 := ih
      clear ih
      intro i mm hmu_5 hi hm ls hl
      refine lv_iload hx hb dX3_differences_5 (lv_at hl 4 rfl) ?_
      refine lv_bipush (v := (nI 12)) hx hb dX3_differences_7 kb_12 ?_
      refine rn_icmp_ge hx hb (by omega) (by omega) dX3_differences_9 (by decide) (tgt := 45) (fun c_9 => ?_) (fun c_9 => ?_)
      · refine lv_iload_n hx hb dX3_differences_45 rfl (lv_at hl 3 rfl) ?_
        exact ro_ret CX hr hlk (by rw [hm, show i = 12 by omega]; rfl) rfl dX3_differences_46
      · refine lv_iload_n hx hb dX3_differences_12 rfl (lv_at hl 3 rfl) ?_
        refine lv_aload_n hx hb dX3_differences_13 rfl (lv_at hl 0 rfl) ?_
        refine rg (T := TX3) (N := 4) CX hE hP in_X3_differences_X3 0 rfl rfl 2 (by decide) fl_X3_differences_20 rfl rfl dX3_differences_14 ?_
        refine lv_iload_n hx hb dX3_differences_17 rfl (lv_at hl 1 rfl) ?_
        refine rn_aald4 CX hE hP 1 rfl (j := 0) (by omega) (ltb rfl) (r := (a 15)) rfl dX3_differences_18 ?_
        refine lv_iload hx hb dX3_differences_19 (lv_at hl 4 rfl) ?_
        refine rn_iald CX hE hP 2 rfl (j := i) (by omega) (ltb rfl) dX3_differences_21 ?_
        refine lv_aload_n hx hb dX3_differences_22 rfl (lv_at hl 0 rfl) ?_
        refine rg (T := TX3) (N := 4) CX hE hP in_X3_differences_X3 0 rfl rfl 2 (by decide) fl_X3_differences_20 rfl rfl dX3_differences_23 ?_
        refine lv_iload_n hx hb dX3_differences_26 rfl (lv_at hl 1 rfl) ?_
        refine rn_aald4 CX hE hP 1 rfl (j := 0) (by omega) (ltb rfl) (r := (a 15)) rfl dX3_differences_27 ?_
        refine lv_iload hx hb dX3_differences_28 (lv_at hl 4 rfl) ?_
        refine lv_iload_n hx hb dX3_differences_30 rfl (lv_at hl 2 rfl) ?_
        refine rn_iadd hx hb dX3_differences_31 ?_
        refine rn_iald CX hE hP 2 rfl (j := (i + lag)) (by omega) (ltb rfl) dX3_differences_32 ?_
        refine lv_isub hx hb dX3_differences_33 ?_
        refine va_mabs hx hb (by rw [hml]; exact hl.1.symm) hown (hts _ w_X3_differences_mabsl) (hts _ w_X3_differences_mabss) (hts _ w_X3_differences_mini) (hts _ w_X3_differences_mabsc) (Nat.le_of_ble_eq_true rfl) (Nat.le_of_ble_eq_true rfl) (Nat.zero_le _) (Nat.zero_le _) dX3_differences_34 ?_
        refine rn_top (iabs ((r i) - (r (i + lag)))) rfl ?_
        refine lv_iadd hx hb dX3_differences_37 ?_
        refine lv_istore_n (lv' := [(3, .int (mm + (iabs ((r i) - (r (i + lag)))))), (0, .ref (a 11)), (1, .int (nI 0)), (2, .int (nI lag)), (4, .int (nI i))]) hx hb dX3_differences_38 rfl hl (by decide) rfl (fun ls hl => ?_)
        refine rn_iinc hx hb (n := 1) (lv' := [(4, .int (nI (i + 1))), (3, .int (mm + (iabs ((r i) - (r (i + lag)))))), (0, .ref (a 11)), (1, .int (nI 0)), (2, .int (nI lag))]) rfl dX3_differences_39 hl (k := 4) rfl (by decide) rfl (fun ls hl => ?_)
        refine lv_goto (tgt := 5) hx hb dX3_differences_42 (by decide) ?_
        exact ih_5 (i + 1) (mm + (iabs ((r i) - (r (i + lag))))) (by omega) (by omega) (by rw [hm]; rfl) ls (lv_sub hl [2, 3, 4, 1, 0] rfl)
  exact LP_5 _ 0 (nI 0) (Nat.lt_succ_self _) (by omega) rfl ls (lv_sub hl [2, 3, 4, 1, 0] rfl)
theorem fl_X3_greatestOf_20 : Cond.fieldLink RX3 20 RX3 (TX3 2).2.1 (TX3 2).2.2.1 ∈ wsX3_greatestOf := by decide +kernel
theorem in_X3_greatestOf_X3 : ∀ w ∈ wsX30, w ∈ wsX3_greatestOf := by decide +kernel
theorem fl_X3_greatestOf_15 : Cond.fieldLink RX3 15 RX3 (TX3 1).2.1 (TX3 1).2.2.1 ∈ wsX3_greatestOf := by decide +kernel
theorem w_X3_greatestOf_mmaxl : Cond.methodLink RX3 45 Lib.Math.max.name ∈ wsX3_greatestOf := by decide +kernel
theorem w_X3_greatestOf_mmaxs : Cond.static Lib.Math.max.name ∈ wsX3_greatestOf := by decide +kernel
theorem w_X3_greatestOf_mini : Cond.initialized "java/lang/Math" ∈ wsX3_greatestOf := by decide +kernel
theorem w_X3_greatestOf_mmaxc : Cond.code Lib.Math.max.name Lib.Math.max.code 2 (some .int) ∈ wsX3_greatestOf := by decide +kernel
set_option maxHeartbeats 4000000 in
set_option maxRecDepth 100000 in
theorem c_X3_greatestOf_0 (l : Launch) (G : va_G) (cA : Nat → ClassId) (a : Nat → Nat) (np : Nat) (pl : Nat → Nat) (r : Nat → Int32) (hl1 : 1 ≤ pl 0) (hl2 : pl 0 ≤ 24) : RO l yX3_greatestOf wsX3_greatestOf ({ frames := 1, cells := 0, slots := 0, locals := 24 }) G cA B0 [(a 11, .inr (3, [.ref (a 12), .ref (a 13), .ref (a 14), .int (nI np)])), (a 13, .inl (cA 0, 3, .inl (fun k => nI (pl k)))), (a 14, .inl (cA 4, 3, .inr (.inr (.inr (.inr (row3 (a 15) (a 16) (a 17))))))), (a 15, .inl (cA 0, 24, .inl r))] [.ref (a 11), .int (nI 0)] (mxF r (pl 0)) := by
  refine RO.mk (own := RX3) (by decide) rfl rfl (Nat.le_of_ble_eq_true rfl) (fun p_ e_ s_ m_ below meth c_ ls CX hr hlk hP hE hB hl => ?_)
  obtain ⟨hx, hb, hml, hown, hts⟩ := id CX
  have hl : lv_has ls 4 [(0, .ref (a 11)), (1, .int (nI 0))] := hl
  refine lv_aload_n hx hb dX3_greatestOf_0 rfl (lv_at hl 0 rfl) ?_
  refine rg (T := TX3) (N := 4) CX hE hP in_X3_greatestOf_X3 0 rfl rfl 2 (by decide) fl_X3_greatestOf_20 rfl rfl dX3_greatestOf_1 ?_
  refine lv_iload_n hx hb dX3_greatestOf_4 rfl (lv_at hl 1 rfl) ?_
  refine rn_aald4 CX hE hP 2 rfl (j := 0) (by omega) (ltb rfl) (r := (a 15)) rfl dX3_greatestOf_5 ?_
  refine rn_iconst hx hb 0 rfl dX3_greatestOf_6 ?_
  refine rn_iald CX hE hP 3 rfl (j := 0) (by omega) (ltb rfl) dX3_greatestOf_7 ?_
  refine lv_istore_n (lv' := [(2, .int (r 0)), (0, .ref (a 11)), (1, .int (nI 0))]) hx hb dX3_greatestOf_8 rfl hl (by decide) rfl (fun ls hl => ?_)
  refine rn_iconst hx hb 1 rfl dX3_greatestOf_9 ?_
  refine lv_istore_n (lv' := [(3, .int (nI 1)), (2, .int (r 0)), (0, .ref (a 11)), (1, .int (nI 0))]) hx hb dX3_greatestOf_10 rfl hl (by decide) rfl (fun ls hl => ?_)
  have LP_11 : ∀ (nn_ : Nat) (i : Nat) (mm : Int32), (24 - i) < nn_ → (1 ≤ i) → (i ≤ pl 0) → (mm = mxF r i) → ∀ ls : Array Slot, lv_has ls 4 [(0, .ref (a 11)), (1, .int (nI 0)), (2, .int mm), (3, .int (nI i))] → W p_ l e_ ({ frames := 1, cells := 0, slots := 0, locals := 24 } : Room) s_ m_ ([.ref (a 11), .int (nI 0)] : List Value).toArray below meth c_ s_.heap [] 0 0 (MQ below (vp_Si (fun r_ => r_ = (mxF r (pl 0)))) ([.ref (a 11), .int (nI 0)] : List Value).toArray s_ 0 0 (fun _ => False)) (F0 m_ 11 ls []) := by
    intro nn_
    induction nn_ with
    | zero => intro i mm hmu; exact absurd hmu (Nat.not_lt_zero _)
    | succ nn_ ih =>
      have ih_11 := ih
      clear ih
      intro i mm hmu_11 hi1 hi hm ls hl
      refine lv_iload_n hx hb dX3_greatestOf_11 rfl (lv_at hl 3 rfl) ?_
      refine lv_aload_n hx hb dX3_greatestOf_12 rfl (lv_at hl 0 rfl) ?_
      refine rg (T := TX3) (N := 4) CX hE hP in_X3_greatestOf_X3 0 rfl rfl 1 (by decide) fl_X3_greatestOf_15 rfl rfl dX3_greatestOf_13 ?_
      refine lv_iload_n hx hb dX3_greatestOf_16 rfl (lv_at hl 1 rfl) ?_
      refine rn_iald CX hE hP 1 rfl (j := 0) (by omega) (ltb rfl) dX3_greatestOf_17 ?_
      refine rn_icmp_ge hx hb (by omega) (by omega) dX3_greatestOf_18 (by decide) (tgt := 40) (fun c_18 => ?_) (fun c_18 => ?_)
      · refine lv_iload_n hx hb dX3_greatestOf_40 rfl (lv_at hl 2 rfl) ?_
        exact ro_ret CX hr hlk (by rw [hm, show i = pl 0 by omega]) rfl dX3_greatestOf_41
      · refine lv_iload_n hx hb dX3_greatestOf_21 rfl (lv_at hl 2 rfl) ?_
        refine lv_aload_n hx hb dX3_greatestOf_22 rfl (lv_at hl 0 rfl) ?_
        refine rg (T := TX3) (N := 4) CX hE hP in_X3_greatestOf_X3 0 rfl rfl 2 (by decide) fl_X3_greatestOf_20 rfl rfl dX3_greatestOf_23 ?_
        refine lv_iload_n hx hb dX3_greatestOf_26 rfl (lv_at hl 1 rfl) ?_
        refine rn_aald4 CX hE hP 2 rfl (j := 0) (by omega) (ltb rfl) (r := (a 15)) rfl dX3_greatestOf_27 ?_
        refine lv_iload_n hx hb dX3_greatestOf_28 rfl (lv_at hl 3 rfl) ?_
        refine rn_iald CX hE hP 3 rfl (j := i) (by omega) (ltb rfl) dX3_greatestOf_29 ?_
        refine va_mmax hx hb (by rw [hml]; exact hl.1.symm) hown (hts _ w_X3_greatestOf_mmaxl) (hts _ w_X3_greatestOf_mmaxs) (hts _ w_X3_greatestOf_mini) (hts _ w_X3_greatestOf_mmaxc) (Nat.le_of_ble_eq_true rfl) (Nat.le_of_ble_eq_true rfl) (Nat.zero_le _) (Nat.zero_le _) dX3_greatestOf_30 ?_
        refine rn_top (imax mm (r i)) rfl ?_
        refine lv_istore_n (lv' := [(2, .int (imax mm (r i))), (0, .ref (a 11)), (1, .int (nI 0)), (3, .int (nI i))]) hx hb dX3_greatestOf_33 rfl hl (by decide) rfl (fun ls hl => ?_)
        refine rn_iinc hx hb (n := 1) (lv' := [(3, .int (nI (i + 1))), (2, .int (imax mm (r i))), (0, .ref (a 11)), (1, .int (nI 0))]) rfl dX3_greatestOf_34 hl (k := 3) rfl (by decide) rfl (fun ls hl => ?_)
        refine lv_goto (tgt := 11) hx hb dX3_greatestOf_37 (by decide) ?_
        exact ih_11 (i + 1) (imax mm (r i)) (by omega) (by omega) (by omega) (by rw [hm]; exact mxF_next hi1) ls (lv_sub hl [2, 3, 1, 0] rfl)
  exact LP_11 _ 1 (r 0) (Nat.lt_succ_self _) (by omega) (by omega) rfl ls (lv_sub hl [2, 3, 1, 0] rfl)
theorem fl_X3_beatOf_15 : Cond.fieldLink RX3 15 RX3 (TX3 1).2.1 (TX3 1).2.2.1 ∈ wsX3_beatOf := by decide +kernel
theorem in_X3_beatOf_X3 : ∀ w ∈ wsX30, w ∈ wsX3_beatOf := by decide +kernel
theorem hdv_X3_differences : yX3_differences.cls = RX3 ∧ yX3_differences.cls ≠ "java/lang/invoke/MethodHandle" ∧ yX3_differences.cls ≠ "java/lang/invoke/VarHandle" ∧ (parseMethodDescriptor yX3_differences.desc).map (fun d => d.parameters.length) = some 2 := by decide +kernel
set_option maxHeartbeats 4000000 in
set_option maxRecDepth 100000 in
theorem c_X3_beatOf_0 (l : Launch) (G : va_G) (cA : Nat → ClassId) (a : Nat → Nat) (np : Nat) (pl : Nat → Nat) (r : Nat → Int32) (hl2 : pl 0 ≤ 24) : RO l yX3_beatOf wsX3_beatOf ({ frames := 2, cells := 0, slots := 0, locals := 48 }) G cA B0 [(a 11, .inr (3, [.ref (a 12), .ref (a 13), .ref (a 14), .int (nI np)])), (a 13, .inl (cA 0, 3, .inl (fun k => nI (pl k)))), (a 14, .inl (cA 4, 3, .inr (.inr (.inr (.inr (row3 (a 15) (a 16) (a 17))))))), (a 15, .inl (cA 0, 24, .inl r))] [.ref (a 11), .int (nI 0)] (if pl 0 < 24 then -6 else nI (btF r 10).1) := by
  refine RO.mk (own := RX3) (by decide) rfl rfl (Nat.le_of_ble_eq_true rfl) (fun p_ e_ s_ m_ below meth c_ ls CX hr hlk hP hE hB hl => ?_)
  obtain ⟨hx, hb, hml, hown, hts⟩ := id CX
  have hl : lv_has ls 6 [(0, .ref (a 11)), (1, .int (nI 0))] := hl
  refine lv_aload_n hx hb dX3_beatOf_0 rfl (lv_at hl 0 rfl) ?_
  refine rg (T := TX3) (N := 4) CX hE hP in_X3_beatOf_X3 0 rfl rfl 1 (by decide) fl_X3_beatOf_15 rfl rfl dX3_beatOf_1 ?_
  refine lv_iload_n hx hb dX3_beatOf_4 rfl (lv_at hl 1 rfl) ?_
  refine rn_iald CX hE hP 1 rfl (j := 0) (by omega) (ltb rfl) dX3_beatOf_5 ?_
  refine lv_bipush (v := (nI 24)) hx hb dX3_beatOf_6 kb_24 ?_
  refine rn_icmp_ge hx hb (by omega) (by omega) dX3_beatOf_8 (by decide) (tgt := 14) (fun c_8 => ?_) (fun c_8 => ?_)
  · refine rn_iconst hx hb 2 rfl dX3_beatOf_14 ?_
    refine lv_istore_n (lv' := [(2, .int (nI 2)), (0, .ref (a 11)), (1, .int (nI 0))]) hx hb dX3_beatOf_15 rfl hl (by decide) rfl (fun ls hl => ?_)
    refine lv_aload_n hx hb dX3_beatOf_16 rfl (lv_at hl 1 rfl) ?_
    refine lv_iload_n hx hb dX3_beatOf_17 rfl (lv_at hl 2 rfl) ?_
    refine rn_iconst hx hb 2 rfl dX3_beatOf_18 ?_
    refine roV CX hE hP (c_X3_differences_0 l G cA a np r 2 (by omega)) (cwV 2 hts gX3_beatOf_X3_differences rfl rfl rfl hdv_X3_differences ⟨Nat.le_of_ble_eq_true rfl, Nat.le_of_ble_eq_true rfl⟩) [0, 2, 3] rfl 0 rfl rfl rfl B0_blind (fun _ _ _ => trivial) rfl hl.1 (rest := []) rfl (Nat.le_of_ble_eq_true rfl) dX3_beatOf_19 ⟨Nat.zero_le _, Nat.zero_le _⟩ ?_
    refine lv_istore_n (lv' := [(3, .int (diffF r 2)), (2, .int (nI 2)), (0, .ref (a 11)), (1, .int (nI 0))]) hx hb dX3_beatOf_22 rfl hl (by decide) rfl (fun ls hl => ?_)
    refine rn_iconst hx hb 3 rfl dX3_beatOf_23 ?_
    refine lv_istore (lv' := [(4, .int (nI 3)), (3, .int (diffF r 2)), (2, .int (nI 2)), (0, .ref (a 11)), (1, .int (nI 0))]) hx hb dX3_beatOf_24 hl (by decide) rfl (fun ls hl => ?_)
    have LP_26 : ∀ (nn_ : Nat) (L : Nat) (bst : Nat) (lst : Int32), (13 - L) < nn_ → (3 ≤ L) → (L ≤ 13) → ((bst, lst) = btF r (L - 3)) → ∀ ls : Array Slot, lv_has ls 6 [(0, .ref (a 11)), (1, .int (nI 0)), (2, .int (nI bst)), (3, .int lst), (4, .int (nI L))] → W p_ l e_ ({ frames := 2, cells := 0, slots := 0, locals := 48 } : Room) s_ m_ ([.ref (a 11), .int (nI 0)] : List Value).toArray below meth c_ s_.heap [] 0 0 (MQ below (vp_Si (fun r_ => r_ = (if pl 0 < 24 then -6 else nI (btF r 10).1))) ([.ref (a 11), .int (nI 0)] : List Value).toArray s_ 0 0 (fun _ => False)) (F0 m_ 26 ls []) := by
      intro nn_
      induction nn_ with
      | zero => intro L bst lst hmu; exact absurd hmu (Nat.not_lt_zero _)
      | succ nn_ ih =>
        have ih_26 := ih
        clear ih
        intro L bst lst hmu_26 hL3 hL hbl ls hl
        refine lv_iload hx hb dX3_beatOf_26 (lv_at hl 4 rfl) ?_
        refine lv_bipush (v := (nI 12)) hx hb dX3_beatOf_28 kb_12 ?_
        refine rn_icmp_gt hx hb (by omega) (by omega) dX3_beatOf_30 (by decide) (tgt := 60) (fun c_30 => ?_) (fun c_30 => ?_)
        · refine lv_iload_n hx hb dX3_beatOf_60 rfl (lv_at hl 2 rfl) ?_
          exact ro_ret CX hr hlk (by rw [if_neg (by omega)]; rw [show 10 = L - 3 by omega, ← hbl]) rfl dX3_beatOf_61
        · refine lv_aload_n hx hb dX3_beatOf_33 rfl (lv_at hl 0 rfl) ?_
          refine lv_iload_n hx hb dX3_beatOf_34 rfl (lv_at hl 1 rfl) ?_
          refine lv_iload hx hb dX3_beatOf_35 (lv_at hl 4 rfl) ?_
          refine roV CX hE hP (c_X3_differences_0 l G cA a np r L (by omega)) (cwV 2 hts gX3_beatOf_X3_differences rfl rfl rfl hdv_X3_differences ⟨Nat.le_of_ble_eq_true rfl, Nat.le_of_ble_eq_true rfl⟩) [0, 2, 3] rfl 0 rfl rfl rfl B0_blind (fun _ _ _ => trivial) rfl hl.1 (rest := []) rfl (Nat.le_of_ble_eq_true rfl) dX3_beatOf_37 ⟨Nat.zero_le _, Nat.zero_le _⟩ ?_
          refine lv_istore (lv' := [(5, .int (diffF r L)), (0, .ref (a 11)), (1, .int (nI 0)), (2, .int (nI bst)), (3, .int lst), (4, .int (nI L))]) hx hb dX3_beatOf_40 hl (by decide) rfl (fun ls hl => ?_)
          refine lv_iload hx hb dX3_beatOf_42 (lv_at hl 0 rfl) ?_
          refine lv_iload_n hx hb dX3_beatOf_44 rfl (lv_at hl 4 rfl) ?_
          refine lv_icmp_ge hx hb dX3_beatOf_45 (by decide) (tgt := 54) (fun c_45 => ?_) (fun c_45 => ?_)
          · refine rn_iinc hx hb (n := 1) (lv' := [(4, .int (nI (L + 1))), (5, .int (diffF r L)), (0, .ref (a 11)), (1, .int (nI 0)), (2, .int (nI bst)), (3, .int lst)]) rfl dX3_beatOf_54 hl (k := 5) rfl (by decide) rfl (fun ls hl => ?_)
            refine lv_goto (tgt := 26) hx hb dX3_beatOf_57 (by decide) ?_
            exact ih_26 (L + 1) bst lst (by omega) (by omega) (by omega) (by first | (rw [hbl]; exact btF_keep hL3 (by rw [← hbl]; exact c_45)) | exact btF_take hL3 (by rw [← hbl]; exact Int32.not_le.mp c_45)) ls (lv_sub hl [2, 3, 4, 5, 0] rfl)
          · refine lv_iload hx hb dX3_beatOf_48 (lv_at hl 5 rfl) ?_
            refine lv_istore_n (lv' := [(2, .int (nI L)), (5, .int (diffF r L)), (0, .ref (a 11)), (1, .int (nI 0)), (3, .int lst), (4, .int (nI L))]) hx hb dX3_beatOf_50 rfl hl (by decide) rfl (fun ls hl => ?_)
            refine lv_iload hx hb dX3_beatOf_51 (lv_at hl 1 rfl) ?_
            refine lv_istore_n (lv' := [(3, .int (diffF r L)), (2, .int (nI L)), (5, .int (diffF r L)), (0, .ref (a 11)), (1, .int (nI 0)), (4, .int (nI L))]) hx hb dX3_beatOf_53 rfl hl (by decide) rfl (fun ls hl => ?_)
            refine rn_iinc hx hb (n := 1) (lv' := [(4, .int (nI (L + 1))), (3, .int (diffF r L)), (2, .int (nI L)), (5, .int (diffF r L)), (0, .ref (a 11)), (1, .int (nI 0))]) rfl dX3_beatOf_54 hl (k := 5) rfl (by decide) rfl (fun ls hl => ?_)
            refine lv_goto (tgt := 26) hx hb dX3_beatOf_57 (by decide) ?_
            exact ih_26 (L + 1) L (diffF r L) (by omega) (by omega) (by omega) (by first | (rw [hbl]; exact btF_keep hL3 (by rw [← hbl]; exact c_45)) | exact btF_take hL3 (by rw [← hbl]; exact Int32.not_le.mp c_45)) ls (lv_sub hl [4, 5, 2, 1, 0] rfl)
    exact LP_26 _ 3 2 (diffF r 2) (Nat.lt_succ_self _) (by omega) (by omega) rfl ls (lv_sub hl [3, 4, 2, 1, 0] rfl)
  · refine lv_bipush (v := (-6)) hx hb dX3_beatOf_11 kb_m6 ?_
    exact ro_ret CX hr hlk ((if_pos c_8).symm) rfl dX3_beatOf_13
set_option maxHeartbeats 4000000 in
set_option maxRecDepth 100000 in
theorem c_X3_differences_1 (l : Launch) (G : va_G) (cA : Nat → ClassId) (a : Nat → Nat) (np : Nat) (r : Nat → Int32) (lag : Nat) (hlag : lag ≤ 12) : RO l yX3_differences wsX3_differences ({ frames := 1, cells := 0, slots := 0, locals := 24 }) G cA B0 [(a 11, .inr (3, [.ref (a 12), .ref (a 13), .ref (a 14), .int (nI np)])), (a 14, .inl (cA 4, 3, .inr (.inr (.inr (.inr (row3 (a 15) (a 16) (a 17))))))), (a 16, .inl (cA 0, 24, .inl r))] [.ref (a 11), .int (nI 1), .int (nI lag)] (diffF r lag) := by
  refine RO.mk (own := RX3) (by decide) rfl rfl (Nat.le_of_ble_eq_true rfl) (fun p_ e_ s_ m_ below meth c_ ls CX hr hlk hP hE hB hl => ?_)
  obtain ⟨hx, hb, hml, hown, hts⟩ := id CX
  have hl : lv_has ls 5 [(0, .ref (a 11)), (1, .int (nI 1)), (2, .int (nI lag))] := hl
  refine rn_iconst hx hb 0 rfl dX3_differences_0 ?_
  refine lv_istore_n (lv' := [(3, .int (nI 0)), (0, .ref (a 11)), (1, .int (nI 1)), (2, .int (nI lag))]) hx hb dX3_differences_1 rfl hl (by decide) rfl (fun ls hl => ?_)
  refine rn_iconst hx hb 0 rfl dX3_differences_2 ?_
  refine lv_istore (lv' := [(4, .int (nI 0)), (3, .int (nI 0)), (0, .ref (a 11)), (1, .int (nI 1)), (2, .int (nI lag))]) hx hb dX3_differences_3 hl (by decide) rfl (fun ls hl => ?_)
  have LP_5 : ∀ (nn_ : Nat) (i : Nat) (mm : Int32), (12 - i) < nn_ → (i ≤ 12) → (mm = sumI i (fun k => iabs (r k - r (k + lag)))) → ∀ ls : Array Slot, lv_has ls 5 [(0, .ref (a 11)), (1, .int (nI 1)), (2, .int (nI lag)), (3, .int mm), (4, .int (nI i))] → W p_ l e_ ({ frames := 1, cells := 0, slots := 0, locals := 24 } : Room) s_ m_ ([.ref (a 11), .int (nI 1), .int (nI lag)] : List Value).toArray below meth c_ s_.heap [] 0 0 (MQ below (vp_Si (fun r_ => r_ = (diffF r lag))) ([.ref (a 11), .int (nI 1), .int (nI lag)] : List Value).toArray s_ 0 0 (fun _ => False)) (F0 m_ 5 ls []) := by
    intro nn_
    induction nn_ with
    | zero => intro i mm hmu; exact absurd hmu (Nat.not_lt_zero _)
    | succ nn_ ih =>
      have ih_5 := ih
      clear ih
      intro i mm hmu_5 hi hm ls hl
      refine lv_iload hx hb dX3_differences_5 (lv_at hl 4 rfl) ?_
      refine lv_bipush (v := (nI 12)) hx hb dX3_differences_7 kb_12 ?_
      refine rn_icmp_ge hx hb (by omega) (by omega) dX3_differences_9 (by decide) (tgt := 45) (fun c_9 => ?_) (fun c_9 => ?_)
      · refine lv_iload_n hx hb dX3_differences_45 rfl (lv_at hl 3 rfl) ?_
        exact ro_ret CX hr hlk (by rw [hm, show i = 12 by omega]; rfl) rfl dX3_differences_46
      · refine lv_iload_n hx hb dX3_differences_12 rfl (lv_at hl 3 rfl) ?_
        refine lv_aload_n hx hb dX3_differences_13 rfl (lv_at hl 0 rfl) ?_
        refine rg (T := TX3) (N := 4) CX hE hP in_X3_differences_X3 0 rfl rfl 2 (by decide) fl_X3_differences_20 rfl rfl dX3_differences_14 ?_
        refine lv_iload_n hx hb dX3_differences_17 rfl (lv_at hl 1 rfl) ?_
        refine rn_aald4 CX hE hP 1 rfl (j := 1) (by omega) (ltb rfl) (r := (a 16)) rfl dX3_differences_18 ?_
        refine lv_iload hx hb dX3_differences_19 (lv_at hl 4 rfl) ?_
        refine rn_iald CX hE hP 2 rfl (j := i) (by omega) (ltb rfl) dX3_differences_21 ?_
        refine lv_aload_n hx hb dX3_differences_22 rfl (lv_at hl 0 rfl) ?_
        refine rg (T := TX3) (N := 4) CX hE hP in_X3_differences_X3 0 rfl rfl 2 (by decide) fl_X3_differences_20 rfl rfl dX3_differences_23 ?_
        refine lv_iload_n hx hb dX3_differences_26 rfl (lv_at hl 1 rfl) ?_
        refine rn_aald4 CX hE hP 1 rfl (j := 1) (by omega) (ltb rfl) (r := (a 16)) rfl dX3_differences_27 ?_
        refine lv_iload hx hb dX3_differences_28 (lv_at hl 4 rfl) ?_
        refine lv_iload_n hx hb dX3_differences_30 rfl (lv_at hl 2 rfl) ?_
        refine rn_iadd hx hb dX3_differences_31 ?_
        refine rn_iald CX hE hP 2 rfl (j := (i + lag)) (by omega) (ltb rfl) dX3_differences_32 ?_
        refine lv_isub hx hb dX3_differences_33 ?_
        refine va_mabs hx hb (by rw [hml]; exact hl.1.symm) hown (hts _ w_X3_differences_mabsl) (hts _ w_X3_differences_mabss) (hts _ w_X3_differences_mini) (hts _ w_X3_differences_mabsc) (Nat.le_of_ble_eq_true rfl) (Nat.le_of_ble_eq_true rfl) (Nat.zero_le _) (Nat.zero_le _) dX3_differences_34 ?_
        refine rn_top (iabs ((r i) - (r (i + lag)))) rfl ?_
        refine lv_iadd hx hb dX3_differences_37 ?_
        refine lv_istore_n (lv' := [(3, .int (mm + (iabs ((r i) - (r (i + lag)))))), (0, .ref (a 11)), (1, .int (nI 1)), (2, .int (nI lag)), (4, .int (nI i))]) hx hb dX3_differences_38 rfl hl (by decide) rfl (fun ls hl => ?_)
        refine rn_iinc hx hb (n := 1) (lv' := [(4, .int (nI (i + 1))), (3, .int (mm + (iabs ((r i) - (r (i + lag)))))), (0, .ref (a 11)), (1, .int (nI 1)), (2, .int (nI lag))]) rfl dX3_differences_39 hl (k := 4) rfl (by decide) rfl (fun ls hl => ?_)
        refine lv_goto (tgt := 5) hx hb dX3_differences_42 (by decide) ?_
        exact ih_5 (i + 1) (mm + (iabs ((r i) - (r (i + lag))))) (by omega) (by omega) (by rw [hm]; rfl) ls (lv_sub hl [2, 3, 4, 1, 0] rfl)
  exact LP_5 _ 0 (nI 0) (Nat.lt_succ_self _) (by omega) rfl ls (lv_sub hl [2, 3, 4, 1, 0] rfl)
set_option maxHeartbeats 4000000 in
set_option maxRecDepth 100000 in
theorem c_X3_greatestOf_1 (l : Launch) (G : va_G) (cA : Nat → ClassId) (a : Nat → Nat) (np : Nat) (pl : Nat → Nat) (r : Nat → Int32) (hl1 : 1 ≤ pl 1) (hl2 : pl 1 ≤ 24) : RO l yX3_greatestOf wsX3_greatestOf ({ frames := 1, cells := 0, slots := 0, locals := 24 }) G cA B0 [(a 11, .inr (3, [.ref (a 12), .ref (a 13), .ref (a 14), .int (nI np)])), (a 13, .inl (cA 0, 3, .inl (fun k => nI (pl k)))), (a 14, .inl (cA 4, 3, .inr (.inr (.inr (.inr (row3 (a 15) (a 16) (a 17))))))), (a 16, .inl (cA 0, 24, .inl r))] [.ref (a 11), .int (nI 1)] (mxF r (pl 1)) := by
  refine RO.mk (own := RX3) (by decide) rfl rfl (Nat.le_of_ble_eq_true rfl) (fun p_ e_ s_ m_ below meth c_ ls CX hr hlk hP hE hB hl => ?_)
  obtain ⟨hx, hb, hml, hown, hts⟩ := id CX
  have hl : lv_has ls 4 [(0, .ref (a 11)), (1, .int (nI 1))] := hl
  refine lv_aload_n hx hb dX3_greatestOf_0 rfl (lv_at hl 0 rfl) ?_
  refine rg (T := TX3) (N := 4) CX hE hP in_X3_greatestOf_X3 0 rfl rfl 2 (by decide) fl_X3_greatestOf_20 rfl rfl dX3_greatestOf_1 ?_
  refine lv_iload_n hx hb dX3_greatestOf_4 rfl (lv_at hl 1 rfl) ?_
  refine rn_aald4 CX hE hP 2 rfl (j := 1) (by omega) (ltb rfl) (r := (a 16)) rfl dX3_greatestOf_5 ?_
  refine rn_iconst hx hb 0 rfl dX3_greatestOf_6 ?_
  refine rn_iald CX hE hP 3 rfl (j := 0) (by omega) (ltb rfl) dX3_greatestOf_7 ?_
  refine lv_istore_n (lv' := [(2, .int (r 0)), (0, .ref (a 11)), (1, .int (nI 1))]) hx hb dX3_greatestOf_8 rfl hl (by decide) rfl (fun ls hl => ?_)
  refine rn_iconst hx hb 1 rfl dX3_greatestOf_9 ?_
  refine lv_istore_n (lv' := [(3, .int (nI 1)), (2, .int (r 0)), (0, .ref (a 11)), (1, .int (nI 1))]) hx hb dX3_greatestOf_10 rfl hl (by decide) rfl (fun ls hl => ?_)
  have LP_11 : ∀ (nn_ : Nat) (i : Nat) (mm : Int32), (24 - i) < nn_ → (1 ≤ i) → (i ≤ pl 1) → (mm = mxF r i) → ∀ ls : Array Slot, lv_has ls 4 [(0, .ref (a 11)), (1, .int (nI 1)), (2, .int mm), (3, .int (nI i))] → W p_ l e_ ({ frames := 1, cells := 0, slots := 0, locals := 24 } : Room) s_ m_ ([.ref (a 11), .int (nI 1)] : List Value).toArray below meth c_ s_.heap [] 0 0 (MQ below (vp_Si (fun r_ => r_ = (mxF r (pl 1)))) ([.ref (a 11), .int (nI 1)] : List Value).toArray s_ 0 0 (fun _ => False)) (F0 m_ 11 ls []) := by
    intro nn_
    induction nn_ with
    | zero => intro i mm hmu; exact absurd hmu (Nat.not_lt_zero _)
    | succ nn_ ih =>
      have ih_11 := ih
      clear ih
      intro i mm hmu_11 hi1 hi hm ls hl
      refine lv_iload_n hx hb dX3_greatestOf_11 rfl (lv_at hl 3 rfl) ?_
      refine lv_aload_n hx hb dX3_greatestOf_12 rfl (lv_at hl 0 rfl) ?_
      refine rg (T := TX3) (N := 4) CX hE hP in_X3_greatestOf_X3 0 rfl rfl 1 (by decide) fl_X3_greatestOf_15 rfl rfl dX3_greatestOf_13 ?_
      refine lv_iload_n hx hb dX3_greatestOf_16 rfl (lv_at hl 1 rfl) ?_
      refine rn_iald CX hE hP 1 rfl (j := 1) (by omega) (ltb rfl) dX3_greatestOf_17 ?_
      refine rn_icmp_ge hx hb (by omega) (by omega) dX3_greatestOf_18 (by decide) (tgt := 40) (fun c_18 => ?_) (fun c_18 => ?_)
      · refine lv_iload_n hx hb dX3_greatestOf_40 rfl (lv_at hl 2 rfl) ?_
        exact ro_ret CX hr hlk (by rw [hm, show i = pl 1 by omega]) rfl dX3_greatestOf_41
      · refine lv_iload_n hx hb dX3_greatestOf_21 rfl (lv_at hl 2 rfl) ?_
        refine lv_aload_n hx hb dX3_greatestOf_22 rfl (lv_at hl 0 rfl) ?_
        refine rg (T := TX3) (N := 4) CX hE hP in_X3_greatestOf_X3 0 rfl rfl 2 (by decide) fl_X3_greatestOf_20 rfl rfl dX3_greatestOf_23 ?_
        refine lv_iload_n hx hb dX3_greatestOf_26 rfl (lv_at hl 1 rfl) ?_
        refine rn_aald4 CX hE hP 2 rfl (j := 1) (by omega) (ltb rfl) (r := (a 16)) rfl dX3_greatestOf_27 ?_
        refine lv_iload_n hx hb dX3_greatestOf_28 rfl (lv_at hl 3 rfl) ?_
        refine rn_iald CX hE hP 3 rfl (j := i) (by omega) (ltb rfl) dX3_greatestOf_29 ?_
        refine va_mmax hx hb (by rw [hml]; exact hl.1.symm) hown (hts _ w_X3_greatestOf_mmaxl) (hts _ w_X3_greatestOf_mmaxs) (hts _ w_X3_greatestOf_mini) (hts _ w_X3_greatestOf_mmaxc) (Nat.le_of_ble_eq_true rfl) (Nat.le_of_ble_eq_true rfl) (Nat.zero_le _) (Nat.zero_le _) dX3_greatestOf_30 ?_
        refine rn_top (imax mm (r i)) rfl ?_
        refine lv_istore_n (lv' := [(2, .int (imax mm (r i))), (0, .ref (a 11)), (1, .int (nI 1)), (3, .int (nI i))]) hx hb dX3_greatestOf_33 rfl hl (by decide) rfl (fun ls hl => ?_)
        refine rn_iinc hx hb (n := 1) (lv' := [(3, .int (nI (i + 1))), (2, .int (imax mm (r i))), (0, .ref (a 11)), (1, .int (nI 1))]) rfl dX3_greatestOf_34 hl (k := 3) rfl (by decide) rfl (fun ls hl => ?_)
        refine lv_goto (tgt := 11) hx hb dX3_greatestOf_37 (by decide) ?_
        exact ih_11 (i + 1) (imax mm (r i)) (by omega) (by omega) (by omega) (by rw [hm]; exact mxF_next hi1) ls (lv_sub hl [2, 3, 1, 0] rfl)
  exact LP_11 _ 1 (r 0) (Nat.lt_succ_self _) (by omega) (by omega) rfl ls (lv_sub hl [2, 3, 1, 0] rfl)
set_option maxHeartbeats 4000000 in
set_option maxRecDepth 100000 in
theorem c_X3_beatOf_1 (l : Launch) (G : va_G) (cA : Nat → ClassId) (a : Nat → Nat) (np : Nat) (pl : Nat → Nat) (r : Nat → Int32) (hl2 : pl 1 ≤ 24) : RO l yX3_beatOf wsX3_beatOf ({ frames := 2, cells := 0, slots := 0, locals := 48 }) G cA B0 [(a 11, .inr (3, [.ref (a 12), .ref (a 13), .ref (a 14), .int (nI np)])), (a 13, .inl (cA 0, 3, .inl (fun k => nI (pl k)))), (a 14, .inl (cA 4, 3, .inr (.inr (.inr (.inr (row3 (a 15) (a 16) (a 17))))))), (a 16, .inl (cA 0, 24, .inl r))] [.ref (a 11), .int (nI 1)] (if pl 1 < 24 then -6 else nI (btF r 10).1) := by
  refine RO.mk (own := RX3) (by decide) rfl rfl (Nat.le_of_ble_eq_true rfl) (fun p_ e_ s_ m_ below meth c_ ls CX hr hlk hP hE hB hl => ?_)
  obtain ⟨hx, hb, hml, hown, hts⟩ := id CX
  have hl : lv_has ls 6 [(0, .ref (a 11)), (1, .int (nI 1))] := hl
  refine lv_aload_n hx hb dX3_beatOf_0 rfl (lv_at hl 0 rfl) ?_
  refine rg (T := TX3) (N := 4) CX hE hP in_X3_beatOf_X3 0 rfl rfl 1 (by decide) fl_X3_beatOf_15 rfl rfl dX3_beatOf_1 ?_
  refine lv_iload_n hx hb dX3_beatOf_4 rfl (lv_at hl 1 rfl) ?_
  refine rn_iald CX hE hP 1 rfl (j := 1) (by omega) (ltb rfl) dX3_beatOf_5 ?_
  refine lv_bipush (v := (nI 24)) hx hb dX3_beatOf_6 kb_24 ?_
  refine rn_icmp_ge hx hb (by omega) (by omega) dX3_beatOf_8 (by decide) (tgt := 14) (fun c_8 => ?_) (fun c_8 => ?_)
  · refine rn_iconst hx hb 2 rfl dX3_beatOf_14 ?_
    refine lv_istore_n (lv' := [(2, .int (nI 2)), (0, .ref (a 11)), (1, .int (nI 1))]) hx hb dX3_beatOf_15 rfl hl (by decide) rfl (fun ls hl => ?_)
    refine lv_aload_n hx hb dX3_beatOf_16 rfl (lv_at hl 1 rfl) ?_
    refine lv_iload_n hx hb dX3_beatOf_17 rfl (lv_at hl 2 rfl) ?_
    refine rn_iconst hx hb 2 rfl dX3_beatOf_18 ?_
    refine roV CX hE hP (c_X3_differences_1 l G cA a np r 2 (by omega)) (cwV 2 hts gX3_beatOf_X3_differences rfl rfl rfl hdv_X3_differences ⟨Nat.le_of_ble_eq_true rfl, Nat.le_of_ble_eq_true rfl⟩) [0, 2, 3] rfl 0 rfl rfl rfl B0_blind (fun _ _ _ => trivial) rfl hl.1 (rest := []) rfl (Nat.le_of_ble_eq_true rfl) dX3_beatOf_19 ⟨Nat.zero_le _, Nat.zero_le _⟩ ?_
    refine lv_istore_n (lv' := [(3, .int (diffF r 2)), (2, .int (nI 2)), (0, .ref (a 11)), (1, .int (nI 1))]) hx hb dX3_beatOf_22 rfl hl (by decide) rfl (fun ls hl => ?_)
    refine rn_iconst hx hb 3 rfl dX3_beatOf_23 ?_
    refine lv_istore (lv' := [(4, .int (nI 3)), (3, .int (diffF r 2)), (2, .int (nI 2)), (0, .ref (a 11)), (1, .int (nI 1))]) hx hb dX3_beatOf_24 hl (by decide) rfl (fun ls hl => ?_)
    have LP_26 : ∀ (nn_ : Nat) (L : Nat) (bst : Nat) (lst : Int32), (13 - L) < nn_ → (3 ≤ L) → (L ≤ 13) → ((bst, lst) = btF r (L - 3)) → ∀ ls : Array Slot, lv_has ls 6 [(0, .ref (a 11)), (1, .int (nI 1)), (2, .int (nI bst)), (3, .int lst), (4, .int (nI L))] → W p_ l e_ ({ frames := 2, cells := 0, slots := 0, locals := 48 } : Room) s_ m_ ([.ref (a 11), .int (nI 1)] : List Value).toArray below meth c_ s_.heap [] 0 0 (MQ below (vp_Si (fun r_ => r_ = (if pl 1 < 24 then -6 else nI (btF r 10).1))) ([.ref (a 11), .int (nI 1)] : List Value).toArray s_ 0 0 (fun _ => False)) (F0 m_ 26 ls []) := by
      intro nn_
      induction nn_ with
      | zero => intro L bst lst hmu; exact absurd hmu (Nat.not_lt_zero _)
      | succ nn_ ih =>
        have ih_26 := ih
        clear ih
        intro L bst lst hmu_26 hL3 hL hbl ls hl
        refine lv_iload hx hb dX3_beatOf_26 (lv_at hl 4 rfl) ?_
        refine lv_bipush (v := (nI 12)) hx hb dX3_beatOf_28 kb_12 ?_
        refine rn_icmp_gt hx hb (by omega) (by omega) dX3_beatOf_30 (by decide) (tgt := 60) (fun c_30 => ?_) (fun c_30 => ?_)
        · refine lv_iload_n hx hb dX3_beatOf_60 rfl (lv_at hl 2 rfl) ?_
          exact ro_ret CX hr hlk (by rw [if_neg (by omega)]; rw [show 10 = L - 3 by omega, ← hbl]) rfl dX3_beatOf_61
        · refine lv_aload_n hx hb dX3_beatOf_33 rfl (lv_at hl 0 rfl) ?_
          refine lv_iload_n hx hb dX3_beatOf_34 rfl (lv_at hl 1 rfl) ?_
          refine lv_iload hx hb dX3_beatOf_35 (lv_at hl 4 rfl) ?_
          refine roV CX hE hP (c_X3_differences_1 l G cA a np r L (by omega)) (cwV 2 hts gX3_beatOf_X3_differences rfl rfl rfl hdv_X3_differences ⟨Nat.le_of_ble_eq_true rfl, Nat.le_of_ble_eq_true rfl⟩) [0, 2, 3] rfl 0 rfl rfl rfl B0_blind (fun _ _ _ => trivial) rfl hl.1 (rest := []) rfl (Nat.le_of_ble_eq_true rfl) dX3_beatOf_37 ⟨Nat.zero_le _, Nat.zero_le _⟩ ?_
          refine lv_istore (lv' := [(5, .int (diffF r L)), (0, .ref (a 11)), (1, .int (nI 1)), (2, .int (nI bst)), (3, .int lst), (4, .int (nI L))]) hx hb dX3_beatOf_40 hl (by decide) rfl (fun ls hl => ?_)
          refine lv_iload hx hb dX3_beatOf_42 (lv_at hl 0 rfl) ?_
          refine lv_iload_n hx hb dX3_beatOf_44 rfl (lv_at hl 4 rfl) ?_
          refine lv_icmp_ge hx hb dX3_beatOf_45 (by decide) (tgt := 54) (fun c_45 => ?_) (fun c_45 => ?_)
          · refine rn_iinc hx hb (n := 1) (lv' := [(4, .int (nI (L + 1))), (5, .int (diffF r L)), (0, .ref (a 11)), (1, .int (nI 1)), (2, .int (nI bst)), (3, .int lst)]) rfl dX3_beatOf_54 hl (k := 5) rfl (by decide) rfl (fun ls hl => ?_)
            refine lv_goto (tgt := 26) hx hb dX3_beatOf_57 (by decide) ?_
            exact ih_26 (L + 1) bst lst (by omega) (by omega) (by omega) (by first | (rw [hbl]; exact btF_keep hL3 (by rw [← hbl]; exact c_45)) | exact btF_take hL3 (by rw [← hbl]; exact Int32.not_le.mp c_45)) ls (lv_sub hl [2, 3, 4, 5, 0] rfl)
          · refine lv_iload hx hb dX3_beatOf_48 (lv_at hl 5 rfl) ?_
            refine lv_istore_n (lv' := [(2, .int (nI L)), (5, .int (diffF r L)), (0, .ref (a 11)), (1, .int (nI 1)), (3, .int lst), (4, .int (nI L))]) hx hb dX3_beatOf_50 rfl hl (by decide) rfl (fun ls hl => ?_)
            refine lv_iload hx hb dX3_beatOf_51 (lv_at hl 1 rfl) ?_
            refine lv_istore_n (lv' := [(3, .int (diffF r L)), (2, .int (nI L)), (5, .int (diffF r L)), (0, .ref (a 11)), (1, .int (nI 1)), (4, .int (nI L))]) hx hb dX3_beatOf_53 rfl hl (by decide) rfl (fun ls hl => ?_)
            refine rn_iinc hx hb (n := 1) (lv' := [(4, .int (nI (L + 1))), (3, .int (diffF r L)), (2, .int (nI L)), (5, .int (diffF r L)), (0, .ref (a 11)), (1, .int (nI 1))]) rfl dX3_beatOf_54 hl (k := 5) rfl (by decide) rfl (fun ls hl => ?_)
            refine lv_goto (tgt := 26) hx hb dX3_beatOf_57 (by decide) ?_
            exact ih_26 (L + 1) L (diffF r L) (by omega) (by omega) (by omega) (by first | (rw [hbl]; exact btF_keep hL3 (by rw [← hbl]; exact c_45)) | exact btF_take hL3 (by rw [← hbl]; exact Int32.not_le.mp c_45)) ls (lv_sub hl [4, 5, 2, 1, 0] rfl)
    exact LP_26 _ 3 2 (diffF r 2) (Nat.lt_succ_self _) (by omega) (by omega) rfl ls (lv_sub hl [3, 4, 2, 1, 0] rfl)
  · refine lv_bipush (v := (-6)) hx hb dX3_beatOf_11 kb_m6 ?_
    exact ro_ret CX hr hlk ((if_pos c_8).symm) rfl dX3_beatOf_13
set_option maxHeartbeats 4000000 in
set_option maxRecDepth 100000 in
theorem c_X3_differences_2 (l : Launch) (G : va_G) (cA : Nat → ClassId) (a : Nat → Nat) (np : Nat) (r : Nat → Int32) (lag : Nat) (hlag : lag ≤ 12) : RO l yX3_differences wsX3_differences ({ frames := 1, cells := 0, slots := 0, locals := 24 }) G cA B0 [(a 11, .inr (3, [.ref (a 12), .ref (a 13), .ref (a 14), .int (nI np)])), (a 14, .inl (cA 4, 3, .inr (.inr (.inr (.inr (row3 (a 15) (a 16) (a 17))))))), (a 17, .inl (cA 0, 24, .inl r))] [.ref (a 11), .int (nI 2), .int (nI lag)] (diffF r lag) := by
  refine RO.mk (own := RX3) (by decide) rfl rfl (Nat.le_of_ble_eq_true rfl) (fun p_ e_ s_ m_ below meth c_ ls CX hr hlk hP hE hB hl => ?_)
  obtain ⟨hx, hb, hml, hown, hts⟩ := id CX
  have hl : lv_has ls 5 [(0, .ref (a 11)), (1, .int (nI 2)), (2, .int (nI lag))] := hl
  refine rn_iconst hx hb 0 rfl dX3_differences_0 ?_
  refine lv_istore_n (lv' := [(3, .int (nI 0)), (0, .ref (a 11)), (1, .int (nI 2)), (2, .int (nI lag))]) hx hb dX3_differences_1 rfl hl (by decide) rfl (fun ls hl => ?_)
  refine rn_iconst hx hb 0 rfl dX3_differences_2 ?_
  refine lv_istore (lv' := [(4, .int (nI 0)), (3, .int (nI 0)), (0, .ref (a 11)), (1, .int (nI 2)), (2, .int (nI lag))]) hx hb dX3_differences_3 hl (by decide) rfl (fun ls hl => ?_)
  have LP_5 : ∀ (nn_ : Nat) (i : Nat) (mm : Int32), (12 - i) < nn_ → (i ≤ 12) → (mm = sumI i (fun k => iabs (r k - r (k + lag)))) → ∀ ls : Array Slot, lv_has ls 5 [(0, .ref (a 11)), (1, .int (nI 2)), (2, .int (nI lag)), (3, .int mm), (4, .int (nI i))] → W p_ l e_ ({ frames := 1, cells := 0, slots := 0, locals := 24 } : Room) s_ m_ ([.ref (a 11), .int (nI 2), .int (nI lag)] : List Value).toArray below meth c_ s_.heap [] 0 0 (MQ below (vp_Si (fun r_ => r_ = (diffF r lag))) ([.ref (a 11), .int (nI 2), .int (nI lag)] : List Value).toArray s_ 0 0 (fun _ => False)) (F0 m_ 5 ls []) := by
    intro nn_
    induction nn_ with
    | zero => intro i mm hmu; exact absurd hmu (Nat.not_lt_zero _)
    | succ nn_ ih =>
      have ih_5 := ih
      clear ih
      intro i mm hmu_5 hi hm ls hl
      refine lv_iload hx hb dX3_differences_5 (lv_at hl 4 rfl) ?_
      refine lv_bipush (v := (nI 12)) hx hb dX3_differences_7 kb_12 ?_
      refine rn_icmp_ge hx hb (by omega) (by omega) dX3_differences_9 (by decide) (tgt := 45) (fun c_9 => ?_) (fun c_9 => ?_)
      · refine lv_iload_n hx hb dX3_differences_45 rfl (lv_at hl 3 rfl) ?_
        exact ro_ret CX hr hlk (by rw [hm, show i = 12 by omega]; rfl) rfl dX3_differences_46
      · refine lv_iload_n hx hb dX3_differences_12 rfl (lv_at hl 3 rfl) ?_
        refine lv_aload_n hx hb dX3_differences_13 rfl (lv_at hl 0 rfl) ?_
        refine rg (T := TX3) (N := 4) CX hE hP in_X3_differences_X3 0 rfl rfl 2 (by decide) fl_X3_differences_20 rfl rfl dX3_differences_14 ?_
        refine lv_iload_n hx hb dX3_differences_17 rfl (lv_at hl 1 rfl) ?_
        refine rn_aald4 CX hE hP 1 rfl (j := 2) (by omega) (ltb rfl) (r := (a 17)) rfl dX3_differences_18 ?_
        refine lv_iload hx hb dX3_differences_19 (lv_at hl 4 rfl) ?_
        refine rn_iald CX hE hP 2 rfl (j := i) (by omega) (ltb rfl) dX3_differences_21 ?_
        refine lv_aload_n hx hb dX3_differences_22 rfl (lv_at hl 0 rfl) ?_
        refine rg (T := TX3) (N := 4) CX hE hP in_X3_differences_X3 0 rfl rfl 2 (by decide) fl_X3_differences_20 rfl rfl dX3_differences_23 ?_
        refine lv_iload_n hx hb dX3_differences_26 rfl (lv_at hl 1 rfl) ?_
        refine rn_aald4 CX hE hP 1 rfl (j := 2) (by omega) (ltb rfl) (r := (a 17)) rfl dX3_differences_27 ?_
        refine lv_iload hx hb dX3_differences_28 (lv_at hl 4 rfl) ?_
        refine lv_iload_n hx hb dX3_differences_30 rfl (lv_at hl 2 rfl) ?_
        refine rn_iadd hx hb dX3_differences_31 ?_
        refine rn_iald CX hE hP 2 rfl (j := (i + lag)) (by omega) (ltb rfl) dX3_differences_32 ?_
        refine lv_isub hx hb dX3_differences_33 ?_
        refine va_mabs hx hb (by rw [hml]; exact hl.1.symm) hown (hts _ w_X3_differences_mabsl) (hts _ w_X3_differences_mabss) (hts _ w_X3_differences_mini) (hts _ w_X3_differences_mabsc) (Nat.le_of_ble_eq_true rfl) (Nat.le_of_ble_eq_true rfl) (Nat.zero_le _) (Nat.zero_le _) dX3_differences_34 ?_
        refine rn_top (iabs ((r i) - (r (i + lag)))) rfl ?_
        refine lv_iadd hx hb dX3_differences_37 ?_
        refine lv_istore_n (lv' := [(3, .int (mm + (iabs ((r i) - (r (i + lag)))))), (0, .ref (a 11)), (1, .int (nI 2)), (2, .int (nI lag)), (4, .int (nI i))]) hx hb dX3_differences_38 rfl hl (by decide) rfl (fun ls hl => ?_)
        refine rn_iinc hx hb (n := 1) (lv' := [(4, .int (nI (i + 1))), (3, .int (mm + (iabs ((r i) - (r (i + lag)))))), (0, .ref (a 11)), (1, .int (nI 2)), (2, .int (nI lag))]) rfl dX3_differences_39 hl (k := 4) rfl (by decide) rfl (fun ls hl => ?_)
        refine lv_goto (tgt := 5) hx hb dX3_differences_42 (by decide) ?_
        exact ih_5 (i + 1) (mm + (iabs ((r i) - (r (i + lag))))) (by omega) (by omega) (by rw [hm]; rfl) ls (lv_sub hl [2, 3, 4, 1, 0] rfl)
  exact LP_5 _ 0 (nI 0) (Nat.lt_succ_self _) (by omega) rfl ls (lv_sub hl [2, 3, 4, 1, 0] rfl)
set_option maxHeartbeats 4000000 in
set_option maxRecDepth 100000 in
theorem c_X3_greatestOf_2 (l : Launch) (G : va_G) (cA : Nat → ClassId) (a : Nat → Nat) (np : Nat) (pl : Nat → Nat) (r : Nat → Int32) (hl1 : 1 ≤ pl 2) (hl2 : pl 2 ≤ 24) : RO l yX3_greatestOf wsX3_greatestOf ({ frames := 1, cells := 0, slots := 0, locals := 24 }) G cA B0 [(a 11, .inr (3, [.ref (a 12), .ref (a 13), .ref (a 14), .int (nI np)])), (a 13, .inl (cA 0, 3, .inl (fun k => nI (pl k)))), (a 14, .inl (cA 4, 3, .inr (.inr (.inr (.inr (row3 (a 15) (a 16) (a 17))))))), (a 17, .inl (cA 0, 24, .inl r))] [.ref (a 11), .int (nI 2)] (mxF r (pl 2)) := by
  refine RO.mk (own := RX3) (by decide) rfl rfl (Nat.le_of_ble_eq_true rfl) (fun p_ e_ s_ m_ below meth c_ ls CX hr hlk hP hE hB hl => ?_)
  obtain ⟨hx, hb, hml, hown, hts⟩ := id CX
  have hl : lv_has ls 4 [(0, .ref (a 11)), (1, .int (nI 2))] := hl
  refine lv_aload_n hx hb dX3_greatestOf_0 rfl (lv_at hl 0 rfl) ?_
  refine rg (T := TX3) (N := 4) CX hE hP in_X3_greatestOf_X3 0 rfl rfl 2 (by decide) fl_X3_greatestOf_20 rfl rfl dX3_greatestOf_1 ?_
  refine lv_iload_n hx hb dX3_greatestOf_4 rfl (lv_at hl 1 rfl) ?_
  refine rn_aald4 CX hE hP 2 rfl (j := 2) (by omega) (ltb rfl) (r := (a 17)) rfl dX3_greatestOf_5 ?_
  refine rn_iconst hx hb 0 rfl dX3_greatestOf_6 ?_
  refine rn_iald CX hE hP 3 rfl (j := 0) (by omega) (ltb rfl) dX3_greatestOf_7 ?_
  refine lv_istore_n (lv' := [(2, .int (r 0)), (0, .ref (a 11)), (1, .int (nI 2))]) hx hb dX3_greatestOf_8 rfl hl (by decide) rfl (fun ls hl => ?_)
  refine rn_iconst hx hb 1 rfl dX3_greatestOf_9 ?_
  refine lv_istore_n (lv' := [(3, .int (nI 1)), (2, .int (r 0)), (0, .ref (a 11)), (1, .int (nI 2))]) hx hb dX3_greatestOf_10 rfl hl (by decide) rfl (fun ls hl => ?_)
  have LP_11 : ∀ (nn_ : Nat) (i : Nat) (mm : Int32), (24 - i) < nn_ → (1 ≤ i) → (i ≤ pl 2) → (mm = mxF r i) → ∀ ls : Array Slot, lv_has ls 4 [(0, .ref (a 11)), (1, .int (nI 2)), (2, .int mm), (3, .int (nI i))] → W p_ l e_ ({ frames := 1, cells := 0, slots := 0, locals := 24 } : Room) s_ m_ ([.ref (a 11), .int (nI 2)] : List Value).toArray below meth c_ s_.heap [] 0 0 (MQ below (vp_Si (fun r_ => r_ = (mxF r (pl 2)))) ([.ref (a 11), .int (nI 2)] : List Value).toArray s_ 0 0 (fun _ => False)) (F0 m_ 11 ls []) := by
    intro nn_
    induction nn_ with
    | zero => intro i mm hmu; exact absurd hmu (Nat.not_lt_zero _)
    | succ nn_ ih =>
      have ih_11 := ih
      clear ih
      intro i mm hmu_11 hi1 hi hm ls hl
      refine lv_iload_n hx hb dX3_greatestOf_11 rfl (lv_at hl 3 rfl) ?_
      refine lv_aload_n hx hb dX3_greatestOf_12 rfl (lv_at hl 0 rfl) ?_
      refine rg (T := TX3) (N := 4) CX hE hP in_X3_greatestOf_X3 0 rfl rfl 1 (by decide) fl_X3_greatestOf_15 rfl rfl dX3_greatestOf_13 ?_
      refine lv_iload_n hx hb dX3_greatestOf_16 rfl (lv_at hl 1 rfl) ?_
      refine rn_iald CX hE hP 1 rfl (j := 2) (by omega) (ltb rfl) dX3_greatestOf_17 ?_
      refine rn_icmp_ge hx hb (by omega) (by omega) dX3_greatestOf_18 (by decide) (tgt := 40) (fun c_18 => ?_) (fun c_18 => ?_)
      · refine lv_iload_n hx hb dX3_greatestOf_40 rfl (lv_at hl 2 rfl) ?_
        exact ro_ret CX hr hlk (by rw [hm, show i = pl 2 by omega]) rfl dX3_greatestOf_41
      · refine lv_iload_n hx hb dX3_greatestOf_21 rfl (lv_at hl 2 rfl) ?_
        refine lv_aload_n hx hb dX3_greatestOf_22 rfl (lv_at hl 0 rfl) ?_
        refine rg (T := TX3) (N := 4) CX hE hP in_X3_greatestOf_X3 0 rfl rfl 2 (by decide) fl_X3_greatestOf_20 rfl rfl dX3_greatestOf_23 ?_
        refine lv_iload_n hx hb dX3_greatestOf_26 rfl (lv_at hl 1 rfl) ?_
        refine rn_aald4 CX hE hP 2 rfl (j := 2) (by omega) (ltb rfl) (r := (a 17)) rfl dX3_greatestOf_27 ?_
        refine lv_iload_n hx hb dX3_greatestOf_28 rfl (lv_at hl 3 rfl) ?_
        refine rn_iald CX hE hP 3 rfl (j := i) (by omega) (ltb rfl) dX3_greatestOf_29 ?_
        refine va_mmax hx hb (by rw [hml]; exact hl.1.symm) hown (hts _ w_X3_greatestOf_mmaxl) (hts _ w_X3_greatestOf_mmaxs) (hts _ w_X3_greatestOf_mini) (hts _ w_X3_greatestOf_mmaxc) (Nat.le_of_ble_eq_true rfl) (Nat.le_of_ble_eq_true rfl) (Nat.zero_le _) (Nat.zero_le _) dX3_greatestOf_30 ?_
        refine rn_top (imax mm (r i)) rfl ?_
        refine lv_istore_n (lv' := [(2, .int (imax mm (r i))), (0, .ref (a 11)), (1, .int (nI 2)), (3, .int (nI i))]) hx hb dX3_greatestOf_33 rfl hl (by decide) rfl (fun ls hl => ?_)
        refine rn_iinc hx hb (n := 1) (lv' := [(3, .int (nI (i + 1))), (2, .int (imax mm (r i))), (0, .ref (a 11)), (1, .int (nI 2))]) rfl dX3_greatestOf_34 hl (k := 3) rfl (by decide) rfl (fun ls hl => ?_)
        refine lv_goto (tgt := 11) hx hb dX3_greatestOf_37 (by decide) ?_
        exact ih_11 (i + 1) (imax mm (r i)) (by omega) (by omega) (by omega) (by rw [hm]; exact mxF_next hi1) ls (lv_sub hl [2, 3, 1, 0] rfl)
  exact LP_11 _ 1 (r 0) (Nat.lt_succ_self _) (by omega) (by omega) rfl ls (lv_sub hl [2, 3, 1, 0] rfl)
set_option maxHeartbeats 4000000 in
set_option maxRecDepth 100000 in
theorem c_X3_beatOf_2 (l : Launch) (G : va_G) (cA : Nat → ClassId) (a : Nat → Nat) (np : Nat) (pl : Nat → Nat) (r : Nat → Int32) (hl2 : pl 2 ≤ 24) : RO l yX3_beatOf wsX3_beatOf ({ frames := 2, cells := 0, slots := 0, locals := 48 }) G cA B0 [(a 11, .inr (3, [.ref (a 12), .ref (a 13), .ref (a 14), .int (nI np)])), (a 13, .inl (cA 0, 3, .inl (fun k => nI (pl k)))), (a 14, .inl (cA 4, 3, .inr (.inr (.inr (.inr (row3 (a 15) (a 16) (a 17))))))), (a 17, .inl (cA 0, 24, .inl r))] [.ref (a 11), .int (nI 2)] (if pl 2 < 24 then -6 else nI (btF r 10).1) := by
  refine RO.mk (own := RX3) (by decide) rfl rfl (Nat.le_of_ble_eq_true rfl) (fun p_ e_ s_ m_ below meth c_ ls CX hr hlk hP hE hB hl => ?_)
  obtain ⟨hx, hb, hml, hown, hts⟩ := id CX
  have hl : lv_has ls 6 [(0, .ref (a 11)), (1, .int (nI 2))] := hl
  refine lv_aload_n hx hb dX3_beatOf_0 rfl (lv_at hl 0 rfl) ?_
  refine rg (T := TX3) (N := 4) CX hE hP in_X3_beatOf_X3 0 rfl rfl 1 (by decide) fl_X3_beatOf_15 rfl rfl dX3_beatOf_1 ?_
  refine lv_iload_n hx hb dX3_beatOf_4 rfl (lv_at hl 1 rfl) ?_
  refine rn_iald CX hE hP 1 rfl (j := 2) (by omega) (ltb rfl) dX3_beatOf_5 ?_
  refine lv_bipush (v := (nI 24)) hx hb dX3_beatOf_6 kb_24 ?_
  refine rn_icmp_ge hx hb (by omega) (by omega) dX3_beatOf_8 (by decide) (tgt := 14) (fun c_8 => ?_) (fun c_8 => ?_)
  · refine rn_iconst hx hb 2 rfl dX3_beatOf_14 ?_
    refine lv_istore_n (lv' := [(2, .int (nI 2)), (0, .ref (a 11)), (1, .int (nI 2))]) hx hb dX3_beatOf_15 rfl hl (by decide) rfl (fun ls hl => ?_)
    refine lv_aload_n hx hb dX3_beatOf_16 rfl (lv_at hl 1 rfl) ?_
    refine lv_iload_n hx hb dX3_beatOf_17 rfl (lv_at hl 2 rfl) ?_
    refine rn_iconst hx hb 2 rfl dX3_beatOf_18 ?_
    refine roV CX hE hP (c_X3_differences_2 l G cA a np r 2 (by omega)) (cwV 2 hts gX3_beatOf_X3_differences rfl rfl rfl hdv_X3_differences ⟨Nat.le_of_ble_eq_true rfl, Nat.le_of_ble_eq_true rfl⟩) [0, 2, 3] rfl 0 rfl rfl rfl B0_blind (fun _ _ _ => trivial) rfl hl.1 (rest := []) rfl (Nat.le_of_ble_eq_true rfl) dX3_beatOf_19 ⟨Nat.zero_le _, Nat.zero_le _⟩ ?_
    refine lv_istore_n (lv' := [(3, .int (diffF r 2)), (2, .int (nI 2)), (0, .ref (a 11)), (1, .int (nI 2))]) hx hb dX3_beatOf_22 rfl hl (by decide) rfl (fun ls hl => ?_)
    refine rn_iconst hx hb 3 rfl dX3_beatOf_23 ?_
    refine lv_istore (lv' := [(4, .int (nI 3)), (3, .int (diffF r 2)), (2, .int (nI 2)), (0, .ref (a 11)), (1, .int (nI 2))]) hx hb dX3_beatOf_24 hl (by decide) rfl (fun ls hl => ?_)
    have LP_26 : ∀ (nn_ : Nat) (L : Nat) (bst : Nat) (lst : Int32), (13 - L) < nn_ → (3 ≤ L) → (L ≤ 13) → ((bst, lst) = btF r (L - 3)) → ∀ ls : Array Slot, lv_has ls 6 [(0, .ref (a 11)), (1, .int (nI 2)), (2, .int (nI bst)), (3, .int lst), (4, .int (nI L))] → W p_ l e_ ({ frames := 2, cells := 0, slots := 0, locals := 48 } : Room) s_ m_ ([.ref (a 11), .int (nI 2)] : List Value).toArray below meth c_ s_.heap [] 0 0 (MQ below (vp_Si (fun r_ => r_ = (if pl 2 < 24 then -6 else nI (btF r 10).1))) ([.ref (a 11), .int (nI 2)] : List Value).toArray s_ 0 0 (fun _ => False)) (F0 m_ 26 ls []) := by
      intro nn_
      induction nn_ with
      | zero => intro L bst lst hmu; exact absurd hmu (Nat.not_lt_zero _)
      | succ nn_ ih =>
        have ih_26 := ih
        clear ih
        intro L bst lst hmu_26 hL3 hL hbl ls hl
        refine lv_iload hx hb dX3_beatOf_26 (lv_at hl 4 rfl) ?_
        refine lv_bipush (v := (nI 12)) hx hb dX3_beatOf_28 kb_12 ?_
        refine rn_icmp_gt hx hb (by omega) (by omega) dX3_beatOf_30 (by decide) (tgt := 60) (fun c_30 => ?_) (fun c_30 => ?_)
        · refine lv_iload_n hx hb dX3_beatOf_60 rfl (lv_at hl 2 rfl) ?_
          exact ro_ret CX hr hlk (by rw [if_neg (by omega)]; rw [show 10 = L - 3 by omega, ← hbl]) rfl dX3_beatOf_61
        · refine lv_aload_n hx hb dX3_beatOf_33 rfl (lv_at hl 0 rfl) ?_
          refine lv_iload_n hx hb dX3_beatOf_34 rfl (lv_at hl 1 rfl) ?_
          refine lv_iload hx hb dX3_beatOf_35 (lv_at hl 4 rfl) ?_
          refine roV CX hE hP (c_X3_differences_2 l G cA a np r L (by omega)) (cwV 2 hts gX3_beatOf_X3_differences rfl rfl rfl hdv_X3_differences ⟨Nat.le_of_ble_eq_true rfl, Nat.le_of_ble_eq_true rfl⟩) [0, 2, 3] rfl 0 rfl rfl rfl B0_blind (fun _ _ _ => trivial) rfl hl.1 (rest := []) rfl (Nat.le_of_ble_eq_true rfl) dX3_beatOf_37 ⟨Nat.zero_le _, Nat.zero_le _⟩ ?_
          refine lv_istore (lv' := [(5, .int (diffF r L)), (0, .ref (a 11)), (1, .int (nI 2)), (2, .int (nI bst)), (3, .int lst), (4, .int (nI L))]) hx hb dX3_beatOf_40 hl (by decide) rfl (fun ls hl => ?_)
          refine lv_iload hx hb dX3_beatOf_42 (lv_at hl 0 rfl) ?_
          refine lv_iload_n hx hb dX3_beatOf_44 rfl (lv_at hl 4 rfl) ?_
          refine lv_icmp_ge hx hb dX3_beatOf_45 (by decide) (tgt := 54) (fun c_45 => ?_) (fun c_45 => ?_)
          · refine rn_iinc hx hb (n := 1) (lv' := [(4, .int (nI (L + 1))), (5, .int (diffF r L)), (0, .ref (a 11)), (1, .int (nI 2)), (2, .int (nI bst)), (3, .int lst)]) rfl dX3_beatOf_54 hl (k := 5) rfl (by decide) rfl (fun ls hl => ?_)
            refine lv_goto (tgt := 26) hx hb dX3_beatOf_57 (by decide) ?_
            exact ih_26 (L + 1) bst lst (by omega) (by omega) (by omega) (by first | (rw [hbl]; exact btF_keep hL3 (by rw [← hbl]; exact c_45)) | exact btF_take hL3 (by rw [← hbl]; exact Int32.not_le.mp c_45)) ls (lv_sub hl [2, 3, 4, 5, 0] rfl)
          · refine lv_iload hx hb dX3_beatOf_48 (lv_at hl 5 rfl) ?_
            refine lv_istore_n (lv' := [(2, .int (nI L)), (5, .int (diffF r L)), (0, .ref (a 11)), (1, .int (nI 2)), (3, .int lst), (4, .int (nI L))]) hx hb dX3_beatOf_50 rfl hl (by decide) rfl (fun ls hl => ?_)
            refine lv_iload hx hb dX3_beatOf_51 (lv_at hl 1 rfl) ?_
            refine lv_istore_n (lv' := [(3, .int (diffF r L)), (2, .int (nI L)), (5, .int (diffF r L)), (0, .ref (a 11)), (1, .int (nI 2)), (4, .int (nI L))]) hx hb dX3_beatOf_53 rfl hl (by decide) rfl (fun ls hl => ?_)
            refine rn_iinc hx hb (n := 1) (lv' := [(4, .int (nI (L + 1))), (3, .int (diffF r L)), (2, .int (nI L)), (5, .int (diffF r L)), (0, .ref (a 11)), (1, .int (nI 2))]) rfl dX3_beatOf_54 hl (k := 5) rfl (by decide) rfl (fun ls hl => ?_)
            refine lv_goto (tgt := 26) hx hb dX3_beatOf_57 (by decide) ?_
            exact ih_26 (L + 1) L (diffF r L) (by omega) (by omega) (by omega) (by first | (rw [hbl]; exact btF_keep hL3 (by rw [← hbl]; exact c_45)) | exact btF_take hL3 (by rw [← hbl]; exact Int32.not_le.mp c_45)) ls (lv_sub hl [4, 5, 2, 1, 0] rfl)
    exact LP_26 _ 3 2 (diffF r 2) (Nat.lt_succ_self _) (by omega) (by omega) rfl ls (lv_sub hl [3, 4, 2, 1, 0] rfl)
  · refine lv_bipush (v := (-6)) hx hb dX3_beatOf_11 kb_m6 ?_
    exact ro_ret CX hr hlk ((if_pos c_8).symm) rfl dX3_beatOf_13
theorem fl_X4_step_29 : Cond.fieldLink RX4 29 RX4 (TX4 3).2.1 (TX4 3).2.2.1 ∈ wsX4_step := by decide +kernel
theorem in_X4_step_X4 : ∀ w ∈ wsX40, w ∈ wsX4_step := by decide +kernel
theorem fl_X4_step_38 : Cond.fieldLink RX4 38 RX4 (TX4 5).2.1 (TX4 5).2.2.1 ∈ wsX4_step := by decide +kernel
theorem fl_X4_step_49 : Cond.fieldLink RX4 49 RX4 (TX4 7).2.1 (TX4 7).2.2.1 ∈ wsX4_step := by decide +kernel
theorem hdv_X0_beat : yX0_beat.cls = RX0 ∧ yX0_beat.cls ≠ "java/lang/invoke/MethodHandle" ∧ yX0_beat.cls ≠ "java/lang/invoke/VarHandle" ∧ (parseMethodDescriptor yX0_beat.desc).map (fun d => d.parameters.length) = some 2 := by decide +kernel
theorem fl_X4_step_26 : Cond.fieldLink RX4 26 RX4 (TX4 2).2.1 (TX4 2).2.2.1 ∈ wsX4_step := by decide +kernel
theorem hdv_X4_keepFirsts : yX4_keepFirsts.cls = RX4 ∧ yX4_keepFirsts.cls ≠ "java/lang/invoke/MethodHandle" ∧ yX4_keepFirsts.cls ≠ "java/lang/invoke/VarHandle" ∧ (parseMethodDescriptor yX4_keepFirsts.desc).map (fun d => d.parameters.length) = some 0 := by decide +kernel
theorem fl_X4_step_45 : Cond.fieldLink RX4 45 RX4 (TX4 6).2.1 (TX4 6).2.2.1 ∈ wsX4_step := by decide +kernel
theorem hdv_X3_look : yX3_look.cls = RX3 ∧ yX3_look.cls ≠ "java/lang/invoke/MethodHandle" ∧ yX3_look.cls ≠ "java/lang/invoke/VarHandle" ∧ (parseMethodDescriptor yX3_look.desc).map (fun d => d.parameters.length) = some 1 := by decide +kernel
theorem fl_X4_step_23 : Cond.fieldLink RX4 23 RX4 (TX4 1).2.1 (TX4 1).2.2.1 ∈ wsX4_step := by decide +kernel
theorem hdv_X4_nextHeight : yX4_nextHeight.cls = RX4 ∧ yX4_nextHeight.cls ≠ "java/lang/invoke/MethodHandle" ∧ yX4_nextHeight.cls ≠ "java/lang/invoke/VarHandle" ∧ (parseMethodDescriptor yX4_nextHeight.desc).map (fun d => d.parameters.length) = some 1 := by decide +kernel
set_option maxHeartbeats 4000000 in
set_option maxRecDepth 100000 in
theorem c_X4_step (l : Launch) (G : va_G) (cA : Nat → ClassId) (a : Nat → Nat) (T : TV) (hok : okT T) : MUv l yX4_step wsX4_step ({ frames := 3, cells := 0, slots := 0, locals := 86 }) G cA BM0 (tkW cA a T) [.ref (a 0)] (tkW cA (swp a) (stepT T)) := by
  refine MUv.mk (own := RX4) (by decide) rfl rfl (Nat.le_of_ble_eq_true rfl) (fun p_ e_ s_ m_ below meth c_ ls A_ CX hr hlk hW hA hE hB hl => ?_)
  obtain ⟨hx, hb, hml, hown, hts⟩ := id CX
  have hl : lv_has ls 3 [(0, .ref (a 0))] := hl
  have hW : wld G A_ (tkW cA a T) s_.heap s_.heap [] := hW
  have hdc := hok.1.2
  have hnd := hok.1.1
  have hnp := hok.2.1
  have hpc := hok.2.2
  refine lv_aload_n hx hb dX4_step_0 rfl (lv_at hl 0 rfl) ?_
  refine rg (T := TX4) (N := 8) CX hE hW.1 in_X4_step_X4 0 rfl rfl 3 (by decide) fl_X4_step_29 rfl rfl dX4_step_1 ?_
  refine lv_astore_n (lv' := [(1, .ref (a 4)), (0, .ref (a 0))]) hx hb dX4_step_4 rfl hl (by decide) rfl (fun ls hl => ?_)
  refine rn_iconst hx hb 0 rfl dX4_step_5 ?_
  refine lv_istore_n (lv' := [(2, .int (nI 0)), (1, .ref (a 4)), (0, .ref (a 0))]) hx hb dX4_step_6 rfl hl (by decide) rfl (fun ls hl => ?_)
  have LP_7 : ∀ (nn_ : Nat) (i : Nat) (g : Nat → Int32), (60 - i) < nn_ → (i ≤ 60) → (∀ j, g j = if j < i then nxF (T.1 0) (T.1 1) (T.1 2) (T.1 3) j else T.1 3 j) → ∀ (H : Heap) (locs : List Loc) (ls : Array Slot), wld G A_ [(a 0, .inr (4, [.ref (a 1), .ref (a 2), .ref (a 3), .ref (a 4), .ref (a 5), .ref (a 6), .ref (a 11), .int (nI (T.2 4 0))])), (a 1, .inl (cA 0, 4, .inl (T.1 0))), (a 2, .inl (cA 0, 60, .inl (T.1 1))), (a 3, .inl (cA 0, 60, .inl (T.1 2))), (a 4, .inl (cA 0, 60, .inl g)), (a 5, .inl (cA 0, 60, .inl (T.1 4))), (a 6, .inr (0, [.ref (a 7), .ref (a 8), .ref (a 9), .ref (a 10), .int (nI (T.2 4 1))])), (a 7, .inl (cA 0, 5, .inl (fun k => nI ((T.2 0) k)))), (a 8, .inl (cA 0, 5, .inl (fun k => nI ((T.2 1) k)))), (a 9, .inl (cA 0, 5, .inl (T.1 5))), (a 10, .inl (cA 0, 5, .inl (T.1 6))), (a 11, .inr (3, [.ref (a 12), .ref (a 13), .ref (a 14), .int (nI (T.2 4 2))])), (a 12, .inl (cA 0, 3, .inl (fun k => nI ((T.2 2) k)))), (a 13, .inl (cA 0, 3, .inl (fun k => nI ((T.2 3) k)))), (a 14, .inl (cA 4, 3, .inr (.inr (.inr (.inr (row3 (a 15) (a 16) (a 17))))))), (a 15, .inl (cA 0, 24, .inl (T.1 7))), (a 16, .inl (cA 0, 24, .inl (T.1 8))), (a 17, .inl (cA 0, 24, .inl (T.1 9)))] s_.heap H locs → lv_has ls 3 [(0, .ref (a 0)), (1, .ref (a 4)), (2, .int (nI i))] → W p_ l e_ ({ frames := 3, cells := 0, slots := 0, locals := 86 } : Room) s_ m_ ([.ref (a 0)] : List Value).toArray below meth c_ H locs 0 0 (MQ below (va_Qv (fun _ : Unit => True) (fun _ t_ => va_P G vwCl (tkW cA (swp a) (stepT T)) t_.heap ∧ va_D A_ (tkW cA (swp a) (stepT T))) A_) ([.ref (a 0)] : List Value).toArray s_ 0 0 A_) (F0 m_ 7 ls []) := by
    intro nn_
    induction nn_ with
    | zero => intro i g hmu; exact absurd hmu (Nat.not_lt_zero _)
    | succ nn_ ih =>
      have ih_7 := ih
      clear ih
      intro i g hmu_7 hi hg H locs ls hW hl
      refine lv_iload_n hx hb dX4_step_7 rfl (lv_at hl 2 rfl) ?_
      refine lv_bipush (v := (nI 60)) hx hb dX4_step_8 kb_60 ?_
      refine rn_icmp_ge hx hb (by omega) (by omega) dX4_step_10 (by decide) (tgt := 41) (fun c_10 => ?_) (fun c_10 => ?_)
      · -- ext
        have hW : wld G A_ [(a 0, .inr (4, [.ref (a 1), .ref (a 2), .ref (a 3), .ref (a 4), .ref (a 5), .ref (a 6), .ref (a 11), .int (nI (T.2 4 0))])), (a 1, .inl (cA 0, 4, .inl (T.1 0))), (a 2, .inl (cA 0, 60, .inl (T.1 1))), (a 3, .inl (cA 0, 60, .inl (T.1 2))), (a 4, .inl (cA 0, 60, .inl (nxF (T.1 0) (T.1 1) (T.1 2) (T.1 3)))), (a 5, .inl (cA 0, 60, .inl (T.1 4))), (a 6, .inr (0, [.ref (a 7), .ref (a 8), .ref (a 9), .ref (a 10), .int (nI (T.2 4 1))])), (a 7, .inl (cA 0, 5, .inl (fun k => nI ((T.2 0) k)))), (a 8, .inl (cA 0, 5, .inl (fun k => nI ((T.2 1) k)))), (a 9, .inl (cA 0, 5, .inl (T.1 5))), (a 10, .inl (cA 0, 5, .inl (T.1 6))), (a 11, .inr (3, [.ref (a 12), .ref (a 13), .ref (a 14), .int (nI (T.2 4 2))])), (a 12, .inl (cA 0, 3, .inl (fun k => nI ((T.2 2) k)))), (a 13, .inl (cA 0, 3, .inl (fun k => nI ((T.2 3) k)))), (a 14, .inl (cA 4, 3, .inr (.inr (.inr (.inr (row3 (a 15) (a 16) (a 17))))))), (a 15, .inl (cA 0, 24, .inl (T.1 7))), (a 16, .inl (cA 0, 24, .inl (T.1 8))), (a 17, .inl (cA 0, 24, .inl (T.1 9)))] s_.heap _ _ := hW.ext 4 (g := (nxF (T.1 0) (T.1 1) (T.1 2) (T.1 3))) rfl (fun j hj => by rw [hg j, if_pos (by omega)]) rfl
        refine lv_aload_n hx hb dX4_step_41 rfl (lv_at hl 0 rfl) ?_
        refine rg (T := TX4) (N := 8) CX hE hW.1 in_X4_step_X4 0 rfl rfl 5 (by decide) fl_X4_step_38 rfl rfl dX4_step_42 ?_
        refine lv_aload_n hx hb dX4_step_45 rfl (lv_at hl 1 rfl) ?_
        refine lv_aload_n hx hb dX4_step_46 rfl (lv_at hl 0 rfl) ?_
        refine rg (T := TX4) (N := 8) CX hE hW.1 in_X4_step_X4 0 rfl rfl 7 (by decide) fl_X4_step_49 rfl rfl dX4_step_47 ?_
        refine muvV (ws' := [(a 0, .inr (4, [.ref (a 1), .ref (a 2), .ref (a 3), .ref (a 4), .ref (a 5), .ref (a 6), .ref (a 11), .int (nI (T.2 4 0))])), (a 1, .inl (cA 0, 4, .inl (T.1 0))), (a 2, .inl (cA 0, 60, .inl (T.1 1))), (a 3, .inl (cA 0, 60, .inl (T.1 2))), (a 4, .inl (cA 0, 60, .inl (beatF (T.2 0) (T.2 1) (T.1 5) (T.1 6) (T.2 4 0) (nxF (T.1 0) (T.1 1) (T.1 2) (T.1 3)) (T.2 4 1)))), (a 5, .inl (cA 0, 60, .inl (T.1 4))), (a 6, .inr (0, [.ref (a 7), .ref (a 8), .ref (a 9), .ref (a 10), .int (nI ((T.2 4 1)))])), (a 7, .inl (cA 0, 5, .inl (fun k => nI ((T.2 0) k)))), (a 8, .inl (cA 0, 5, .inl (fun k => nI ((T.2 1) k)))), (a 9, .inl (cA 0, 5, .inl (T.1 5))), (a 10, .inl (cA 0, 5, .inl (T.1 6))), (a 11, .inr (3, [.ref (a 12), .ref (a 13), .ref (a 14), .int (nI (T.2 4 2))])), (a 12, .inl (cA 0, 3, .inl (fun k => nI ((T.2 2) k)))), (a 13, .inl (cA 0, 3, .inl (fun k => nI ((T.2 3) k)))), (a 14, .inl (cA 4, 3, .inr (.inr (.inr (.inr (row3 (a 15) (a 16) (a 17))))))), (a 15, .inl (cA 0, 24, .inl (T.1 7))), (a 16, .inl (cA 0, 24, .inl (T.1 8))), (a 17, .inl (cA 0, 24, .inl (T.1 9)))]) CX hE hW hA (c_X0_beat l G cA a (T.2 4 1) (T.2 0) (T.2 1) (T.1 5) (T.1 6) (a 4) (nxF (T.1 0) (T.1 1) (T.1 2) (T.1 3)) (T.2 4 0) hnd hdc) (cwV 2 hts gX4_step_X0_beat rfl rfl rfl hdv_X0_beat ⟨Nat.le_of_ble_eq_true rfl, Nat.le_of_ble_eq_true rfl⟩) [6, 7, 8, 9, 10, 4] (by decide) rfl rfl rfl 6 rfl rfl rfl BM0_blind (fun _ _ _ _ => trivial) rfl hl.1 (rest := []) rfl (Nat.le_of_ble_eq_true rfl) dX4_step_50 ⟨Nat.zero_le _, Nat.zero_le _⟩ (fun H locs hW => ?_)
        refine lv_aload_n hx hb dX4_step_53 rfl (lv_at hl 0 rfl) ?_
        refine lv_aload_n hx hb dX4_step_54 rfl (lv_at hl 0 rfl) ?_
        refine rg (T := TX4) (N := 8) CX hE hW.1 in_X4_step_X4 0 rfl rfl 2 (by decide) fl_X4_step_26 rfl rfl dX4_step_55 ?_
        refine rp (T := TX4) (N := 8) (ws' := [(a 0, .inr (4, [.ref (a 1), .ref (a 2), .ref (a 3), .ref (a 3), .ref (a 5), .ref (a 6), .ref (a 11), .int (nI (T.2 4 0))])), (a 1, .inl (cA 0, 4, .inl (T.1 0))), (a 2, .inl (cA 0, 60, .inl (T.1 1))), (a 3, .inl (cA 0, 60, .inl (T.1 2))), (a 4, .inl (cA 0, 60, .inl (beatF (T.2 0) (T.2 1) (T.1 5) (T.1 6) (T.2 4 0) (nxF (T.1 0) (T.1 1) (T.1 2) (T.1 3)) (T.2 4 1)))), (a 5, .inl (cA 0, 60, .inl (T.1 4))), (a 6, .inr (0, [.ref (a 7), .ref (a 8), .ref (a 9), .ref (a 10), .int (nI ((T.2 4 1)))])), (a 7, .inl (cA 0, 5, .inl (fun k => nI ((T.2 0) k)))), (a 8, .inl (cA 0, 5, .inl (fun k => nI ((T.2 1) k)))), (a 9, .inl (cA 0, 5, .inl (T.1 5))), (a 10, .inl (cA 0, 5, .inl (T.1 6))), (a 11, .inr (3, [.ref (a 12), .ref (a 13), .ref (a 14), .int (nI (T.2 4 2))])), (a 12, .inl (cA 0, 3, .inl (fun k => nI ((T.2 2) k)))), (a 13, .inl (cA 0, 3, .inl (fun k => nI ((T.2 3) k)))), (a 14, .inl (cA 4, 3, .inr (.inr (.inr (.inr (row3 (a 15) (a 16) (a 17))))))), (a 15, .inl (cA 0, 24, .inl (T.1 7))), (a 16, .inl (cA 0, 24, .inl (T.1 8))), (a 17, .inl (cA 0, 24, .inl (T.1 9)))]) CX hE hW in_X4_step_X4 tyX4 tyX4_ok nmX4 0 rfl rfl 3 (by decide) fl_X4_step_29 rfl rfl rfl rfl (Nat.le_of_ble_eq_true rfl) rfl dX4_step_58 (fun H locs hW => ?_)
        refine lv_aload_n hx hb dX4_step_61 rfl (lv_at hl 0 rfl) ?_
        refine lv_aload_n hx hb dX4_step_62 rfl (lv_at hl 1 rfl) ?_
        refine rp (T := TX4) (N := 8) (ws' := [(a 0, .inr (4, [.ref (a 1), .ref (a 2), .ref (a 4), .ref (a 3), .ref (a 5), .ref (a 6), .ref (a 11), .int (nI (T.2 4 0))])), (a 1, .inl (cA 0, 4, .inl (T.1 0))), (a 2, .inl (cA 0, 60, .inl (T.1 1))), (a 3, .inl (cA 0, 60, .inl (T.1 2))), (a 4, .inl (cA 0, 60, .inl (beatF (T.2 0) (T.2 1) (T.1 5) (T.1 6) (T.2 4 0) (nxF (T.1 0) (T.1 1) (T.1 2) (T.1 3)) (T.2 4 1)))), (a 5, .inl (cA 0, 60, .inl (T.1 4))), (a 6, .inr (0, [.ref (a 7), .ref (a 8), .ref (a 9), .ref (a 10), .int (nI ((T.2 4 1)))])), (a 7, .inl (cA 0, 5, .inl (fun k => nI ((T.2 0) k)))), (a 8, .inl (cA 0, 5, .inl (fun k => nI ((T.2 1) k)))), (a 9, .inl (cA 0, 5, .inl (T.1 5))), (a 10, .inl (cA 0, 5, .inl (T.1 6))), (a 11, .inr (3, [.ref (a 12), .ref (a 13), .ref (a 14), .int (nI (T.2 4 2))])), (a 12, .inl (cA 0, 3, .inl (fun k => nI ((T.2 2) k)))), (a 13, .inl (cA 0, 3, .inl (fun k => nI ((T.2 3) k)))), (a 14, .inl (cA 4, 3, .inr (.inr (.inr (.inr (row3 (a 15) (a 16) (a 17))))))), (a 15, .inl (cA 0, 24, .inl (T.1 7))), (a 16, .inl (cA 0, 24, .inl (T.1 8))), (a 17, .inl (cA 0, 24, .inl (T.1 9)))]) CX hE hW in_X4_step_X4 tyX4 tyX4_ok nmX4 0 rfl rfl 2 (by decide) fl_X4_step_26 rfl rfl rfl rfl (Nat.le_of_ble_eq_true rfl) rfl dX4_step_63 (fun H locs hW => ?_)
        have hW : wld G A_ [((swp a) 0, .inr (4, [.ref ((swp a) 1), .ref ((swp a) 2), .ref ((swp a) 3), .ref ((swp a) 4), .ref ((swp a) 5), .ref ((swp a) 6), .ref ((swp a) 11), .int (nI (T.2 4 0))])), ((swp a) 1, .inl (cA 0, 4, .inl (T.1 0))), ((swp a) 2, .inl (cA 0, 60, .inl (T.1 1))), ((swp a) 4, .inl (cA 0, 60, .inl (T.1 2))), ((swp a) 3, .inl (cA 0, 60, .inl (beatF (T.2 0) (T.2 1) (T.1 5) (T.1 6) (T.2 4 0) (nxF (T.1 0) (T.1 1) (T.1 2) (T.1 3)) (T.2 4 1)))), ((swp a) 5, .inl (cA 0, 60, .inl (T.1 4))), ((swp a) 6, .inr (0, [.ref ((swp a) 7), .ref ((swp a) 8), .ref ((swp a) 9), .ref ((swp a) 10), .int (nI ((T.2 4 1)))])), ((swp a) 7, .inl (cA 0, 5, .inl (fun k => nI ((T.2 0) k)))), ((swp a) 8, .inl (cA 0, 5, .inl (fun k => nI ((T.2 1) k)))), ((swp a) 9, .inl (cA 0, 5, .inl (T.1 5))), ((swp a) 10, .inl (cA 0, 5, .inl (T.1 6))), ((swp a) 11, .inr (3, [.ref ((swp a) 12), .ref ((swp a) 13), .ref ((swp a) 14), .int (nI (T.2 4 2))])), ((swp a) 12, .inl (cA 0, 3, .inl (fun k => nI ((T.2 2) k)))), ((swp a) 13, .inl (cA 0, 3, .inl (fun k => nI ((T.2 3) k)))), ((swp a) 14, .inl (cA 4, 3, .inr (.inr (.inr (.inr (row3 ((swp a) 15) ((swp a) 16) ((swp a) 17))))))), ((swp a) 15, .inl (cA 0, 24, .inl (T.1 7))), ((swp a) 16, .inl (cA 0, 24, .inl (T.1 8))), ((swp a) 17, .inl (cA 0, 24, .inl (T.1 9)))] s_.heap H locs := hW
        have hl : lv_has ls 3 [(0, .ref ((swp a) 0)), (1, .ref ((swp a) 3)), (2, .int (nI i))] := hl
        refine lv_aload_n hx hb dX4_step_66 rfl (lv_at hl 0 rfl) ?_
        refine muvV (ws' := [((swp a) 0, .inr (4, [.ref ((swp a) 1), .ref ((swp a) 2), .ref ((swp a) 3), .ref ((swp a) 4), .ref ((swp a) 5), .ref ((swp a) 6), .ref ((swp a) 11), .int (nI ((T.2 4 0)))])), ((swp a) 1, .inl (cA 0, 4, .inl (T.1 0))), ((swp a) 2, .inl (cA 0, 60, .inl (T.1 1))), ((swp a) 4, .inl (cA 0, 60, .inl (T.1 2))), ((swp a) 3, .inl (cA 0, 60, .inl (beatF (T.2 0) (T.2 1) (T.1 5) (T.1 6) (T.2 4 0) (nxF (T.1 0) (T.1 1) (T.1 2) (T.1 3)) (T.2 4 1)))), ((swp a) 5, .inl (cA 0, 60, .inl (kfF (T.1 0) (beatF (T.2 0) (T.2 1) (T.1 5) (T.1 6) (T.2 4 0) (nxF (T.1 0) (T.1 1) (T.1 2) (T.1 3)) (T.2 4 1)) (T.1 4) (T.2 4 0)))), ((swp a) 6, .inr (0, [.ref ((swp a) 7), .ref ((swp a) 8), .ref ((swp a) 9), .ref ((swp a) 10), .int (nI ((T.2 4 1)))])), ((swp a) 7, .inl (cA 0, 5, .inl (fun k => nI ((T.2 0) k)))), ((swp a) 8, .inl (cA 0, 5, .inl (fun k => nI ((T.2 1) k)))), ((swp a) 9, .inl (cA 0, 5, .inl (T.1 5))), ((swp a) 10, .inl (cA 0, 5, .inl (T.1 6))), ((swp a) 11, .inr (3, [.ref ((swp a) 12), .ref ((swp a) 13), .ref ((swp a) 14), .int (nI (T.2 4 2))])), ((swp a) 12, .inl (cA 0, 3, .inl (fun k => nI ((T.2 2) k)))), ((swp a) 13, .inl (cA 0, 3, .inl (fun k => nI ((T.2 3) k)))), ((swp a) 14, .inl (cA 4, 3, .inr (.inr (.inr (.inr (row3 ((swp a) 15) ((swp a) 16) ((swp a) 17))))))), ((swp a) 15, .inl (cA 0, 24, .inl (T.1 7))), ((swp a) 16, .inl (cA 0, 24, .inl (T.1 8))), ((swp a) 17, .inl (cA 0, 24, .inl (T.1 9)))]) CX hE hW hA (c_X4_keepFirsts l G cA (swp a) (T.2 4 0) (T.1 0) (beatF (T.2 0) (T.2 1) (T.1 5) (T.1 6) (T.2 4 0) (nxF (T.1 0) (T.1 1) (T.1 2) (T.1 3)) (T.2 4 1)) (T.1 4) ) (cwV 0 hts gX4_step_X4_keepFirsts rfl rfl rfl hdv_X4_keepFirsts ⟨Nat.le_of_ble_eq_true rfl, Nat.le_of_ble_eq_true rfl⟩) [0, 1, 4, 5] (by decide) rfl rfl rfl 0 rfl rfl rfl BM0_blind (fun _ _ _ _ => trivial) rfl hl.1 (rest := []) rfl (Nat.le_of_ble_eq_true rfl) dX4_step_67 ⟨Nat.zero_le _, Nat.zero_le _⟩ (fun H locs hW => ?_)
        refine lv_aload_n hx hb dX4_step_70 rfl (lv_at hl 0 rfl) ?_
        refine rg (T := TX4) (N := 8) CX hE hW.1 in_X4_step_X4 0 rfl rfl 6 (by decide) fl_X4_step_45 rfl rfl dX4_step_71 ?_
        refine lv_aload_n hx hb dX4_step_74 rfl (lv_at hl 0 rfl) ?_
        refine rg (T := TX4) (N := 8) CX hE hW.1 in_X4_step_X4 0 rfl rfl 2 (by decide) fl_X4_step_26 rfl rfl dX4_step_75 ?_
        refine muvV (ws' := [((swp a) 0, .inr (4, [.ref ((swp a) 1), .ref ((swp a) 2), .ref ((swp a) 3), .ref ((swp a) 4), .ref ((swp a) 5), .ref ((swp a) 6), .ref ((swp a) 11), .int (nI ((T.2 4 0)))])), ((swp a) 1, .inl (cA 0, 4, .inl (T.1 0))), ((swp a) 2, .inl (cA 0, 60, .inl (T.1 1))), ((swp a) 4, .inl (cA 0, 60, .inl (T.1 2))), ((swp a) 3, .inl (cA 0, 60, .inl (beatF (T.2 0) (T.2 1) (T.1 5) (T.1 6) (T.2 4 0) (nxF (T.1 0) (T.1 1) (T.1 2) (T.1 3)) (T.2 4 1)))), ((swp a) 5, .inl (cA 0, 60, .inl (kfF (T.1 0) (beatF (T.2 0) (T.2 1) (T.1 5) (T.1 6) (T.2 4 0) (nxF (T.1 0) (T.1 1) (T.1 2) (T.1 3)) (T.2 4 1)) (T.1 4) (T.2 4 0)))), ((swp a) 6, .inr (0, [.ref ((swp a) 7), .ref ((swp a) 8), .ref ((swp a) 9), .ref ((swp a) 10), .int (nI ((T.2 4 1)))])), ((swp a) 7, .inl (cA 0, 5, .inl (fun k => nI ((T.2 0) k)))), ((swp a) 8, .inl (cA 0, 5, .inl (fun k => nI ((T.2 1) k)))), ((swp a) 9, .inl (cA 0, 5, .inl (T.1 5))), ((swp a) 10, .inl (cA 0, 5, .inl (T.1 6))), ((swp a) 11, .inr (3, [.ref ((swp a) 12), .ref ((swp a) 13), .ref ((swp a) 14), .int (nI ((T.2 4 2)))])), ((swp a) 12, .inl (cA 0, 3, .inl (fun k => nI ((T.2 2) k)))), ((swp a) 13, .inl (cA 0, 3, .inl (fun k => nI ((lookL (T.2 3) (T.2 4 2)) k)))), ((swp a) 14, .inl (cA 4, 3, .inr (.inr (.inr (.inr (row3 ((swp a) 15) ((swp a) 16) ((swp a) 17))))))), ((swp a) 15, .inl (cA 0, 24, .inl (lookRow (T.2 4 2) 0 (T.1 7) ((beatF (T.2 0) (T.2 1) (T.1 5) (T.1 6) (T.2 4 0) (nxF (T.1 0) (T.1 1) (T.1 2) (T.1 3)) (T.2 4 1)) ((T.2 2) 0))))), ((swp a) 16, .inl (cA 0, 24, .inl (lookRow (T.2 4 2) 1 (T.1 8) ((beatF (T.2 0) (T.2 1) (T.1 5) (T.1 6) (T.2 4 0) (nxF (T.1 0) (T.1 1) (T.1 2) (T.1 3)) (T.2 4 1)) ((T.2 2) 1))))), ((swp a) 17, .inl (cA 0, 24, .inl (lookRow (T.2 4 2) 2 (T.1 9) ((beatF (T.2 0) (T.2 1) (T.1 5) (T.1 6) (T.2 4 0) (nxF (T.1 0) (T.1 1) (T.1 2) (T.1 3)) (T.2 4 1)) ((T.2 2) 2)))))]) CX hE hW hA (c_X3_look l G cA (swp a) (T.2 4 2) (T.2 2) (T.2 3) (T.1 7) (T.1 8) (T.1 9) ((swp a) 3) (beatF (T.2 0) (T.2 1) (T.1 5) (T.1 6) (T.2 4 0) (nxF (T.1 0) (T.1 1) (T.1 2) (T.1 3)) (T.2 4 1)) hnp hpc) (cwV 1 hts gX4_step_X3_look rfl rfl rfl hdv_X3_look ⟨Nat.le_of_ble_eq_true rfl, Nat.le_of_ble_eq_true rfl⟩) [11, 12, 13, 14, 15, 16, 17, 4] (by decide) rfl rfl rfl 11 rfl rfl rfl BM0_blind (fun _ _ _ _ => trivial) rfl hl.1 (rest := []) rfl (Nat.le_of_ble_eq_true rfl) dX4_step_78 ⟨Nat.zero_le _, Nat.zero_le _⟩ (fun H locs hW => ?_)
        refine lv_aload_n hx hb dX4_step_81 rfl (lv_at hl 0 rfl) ?_
        refine lv_dup hx hb dX4_step_82 rfl ?_
        refine rg (T := TX4) (N := 8) CX hE hW.1 in_X4_step_X4 0 rfl rfl 7 (by decide) fl_X4_step_49 rfl rfl dX4_step_83 ?_
        refine rn_iconst hx hb 1 rfl dX4_step_86 ?_
        refine rn_iadd hx hb dX4_step_87 ?_
        refine rp (T := TX4) (N := 8) (ws' := [((swp a) 0, .inr (4, [.ref ((swp a) 1), .ref ((swp a) 2), .ref ((swp a) 3), .ref ((swp a) 4), .ref ((swp a) 5), .ref ((swp a) 6), .ref ((swp a) 11), .int (nI ((T.2 4 0) + 1))])), ((swp a) 1, .inl (cA 0, 4, .inl (T.1 0))), ((swp a) 2, .inl (cA 0, 60, .inl (T.1 1))), ((swp a) 4, .inl (cA 0, 60, .inl (T.1 2))), ((swp a) 3, .inl (cA 0, 60, .inl (beatF (T.2 0) (T.2 1) (T.1 5) (T.1 6) (T.2 4 0) (nxF (T.1 0) (T.1 1) (T.1 2) (T.1 3)) (T.2 4 1)))), ((swp a) 5, .inl (cA 0, 60, .inl (kfF (T.1 0) (beatF (T.2 0) (T.2 1) (T.1 5) (T.1 6) (T.2 4 0) (nxF (T.1 0) (T.1 1) (T.1 2) (T.1 3)) (T.2 4 1)) (T.1 4) (T.2 4 0)))), ((swp a) 6, .inr (0, [.ref ((swp a) 7), .ref ((swp a) 8), .ref ((swp a) 9), .ref ((swp a) 10), .int (nI ((T.2 4 1)))])), ((swp a) 7, .inl (cA 0, 5, .inl (fun k => nI ((T.2 0) k)))), ((swp a) 8, .inl (cA 0, 5, .inl (fun k => nI ((T.2 1) k)))), ((swp a) 9, .inl (cA 0, 5, .inl (T.1 5))), ((swp a) 10, .inl (cA 0, 5, .inl (T.1 6))), ((swp a) 11, .inr (3, [.ref ((swp a) 12), .ref ((swp a) 13), .ref ((swp a) 14), .int (nI ((T.2 4 2)))])), ((swp a) 12, .inl (cA 0, 3, .inl (fun k => nI ((T.2 2) k)))), ((swp a) 13, .inl (cA 0, 3, .inl (fun k => nI ((lookL (T.2 3) (T.2 4 2)) k)))), ((swp a) 14, .inl (cA 4, 3, .inr (.inr (.inr (.inr (row3 ((swp a) 15) ((swp a) 16) ((swp a) 17))))))), ((swp a) 15, .inl (cA 0, 24, .inl (lookRow (T.2 4 2) 0 (T.1 7) ((beatF (T.2 0) (T.2 1) (T.1 5) (T.1 6) (T.2 4 0) (nxF (T.1 0) (T.1 1) (T.1 2) (T.1 3)) (T.2 4 1)) ((T.2 2) 0))))), ((swp a) 16, .inl (cA 0, 24, .inl (lookRow (T.2 4 2) 1 (T.1 8) ((beatF (T.2 0) (T.2 1) (T.1 5) (T.1 6) (T.2 4 0) (nxF (T.1 0) (T.1 1) (T.1 2) (T.1 3)) (T.2 4 1)) ((T.2 2) 1))))), ((swp a) 17, .inl (cA 0, 24, .inl (lookRow (T.2 4 2) 2 (T.1 9) ((beatF (T.2 0) (T.2 1) (T.1 5) (T.1 6) (T.2 4 0) (nxF (T.1 0) (T.1 1) (T.1 2) (T.1 3)) (T.2 4 1)) ((T.2 2) 2)))))]) CX hE hW in_X4_step_X4 tyX4 tyX4_ok nmX4 0 rfl rfl 7 (by decide) fl_X4_step_49 rfl rfl rfl rfl (Nat.le_of_ble_eq_true rfl) rfl dX4_step_88 (fun H locs hW => ?_)
        have hW := hW.sub (wc := [((swp a) 0, .inr (4, [.ref ((swp a) 1), .ref ((swp a) 2), .ref ((swp a) 3), .ref ((swp a) 4), .ref ((swp a) 5), .ref ((swp a) 6), .ref ((swp a) 11), .int (nI ((T.2 4 0) + 1))])), ((swp a) 1, .inl (cA 0, 4, .inl (T.1 0))), ((swp a) 2, .inl (cA 0, 60, .inl (T.1 1))), ((swp a) 3, .inl (cA 0, 60, .inl (beatF (T.2 0) (T.2 1) (T.1 5) (T.1 6) (T.2 4 0) (nxF (T.1 0) (T.1 1) (T.1 2) (T.1 3)) (T.2 4 1)))), ((swp a) 4, .inl (cA 0, 60, .inl (T.1 2))), ((swp a) 5, .inl (cA 0, 60, .inl (kfF (T.1 0) (beatF (T.2 0) (T.2 1) (T.1 5) (T.1 6) (T.2 4 0) (nxF (T.1 0) (T.1 1) (T.1 2) (T.1 3)) (T.2 4 1)) (T.1 4) (T.2 4 0)))), ((swp a) 6, .inr (0, [.ref ((swp a) 7), .ref ((swp a) 8), .ref ((swp a) 9), .ref ((swp a) 10), .int (nI ((T.2 4 1)))])), ((swp a) 7, .inl (cA 0, 5, .inl (fun k => nI ((T.2 0) k)))), ((swp a) 8, .inl (cA 0, 5, .inl (fun k => nI ((T.2 1) k)))), ((swp a) 9, .inl (cA 0, 5, .inl (T.1 5))), ((swp a) 10, .inl (cA 0, 5, .inl (T.1 6))), ((swp a) 11, .inr (3, [.ref ((swp a) 12), .ref ((swp a) 13), .ref ((swp a) 14), .int (nI ((T.2 4 2)))])), ((swp a) 12, .inl (cA 0, 3, .inl (fun k => nI ((T.2 2) k)))), ((swp a) 13, .inl (cA 0, 3, .inl (fun k => nI ((lookL (T.2 3) (T.2 4 2)) k)))), ((swp a) 14, .inl (cA 4, 3, .inr (.inr (.inr (.inr (row3 ((swp a) 15) ((swp a) 16) ((swp a) 17))))))), ((swp a) 15, .inl (cA 0, 24, .inl (lookRow (T.2 4 2) 0 (T.1 7) ((beatF (T.2 0) (T.2 1) (T.1 5) (T.1 6) (T.2 4 0) (nxF (T.1 0) (T.1 1) (T.1 2) (T.1 3)) (T.2 4 1)) ((T.2 2) 0))))), ((swp a) 16, .inl (cA 0, 24, .inl (lookRow (T.2 4 2) 1 (T.1 8) ((beatF (T.2 0) (T.2 1) (T.1 5) (T.1 6) (T.2 4 0) (nxF (T.1 0) (T.1 1) (T.1 2) (T.1 3)) (T.2 4 1)) ((T.2 2) 1))))), ((swp a) 17, .inl (cA 0, 24, .inl (lookRow (T.2 4 2) 2 (T.1 9) ((beatF (T.2 0) (T.2 1) (T.1 5) (T.1 6) (T.2 4 0) (nxF (T.1 0) (T.1 1) (T.1 2) (T.1 3)) (T.2 4 1)) ((T.2 2) 2)))))]) [0, 1, 2, 4, 3, 5, 6, 7, 8, 9, 10, 11, 12, 13, 14, 15, 16, 17] (by decide) rfl
        exact mu_retv CX hr hlk hW dX4_step_91
      · refine lv_aload_n hx hb dX4_step_13 rfl (lv_at hl 1 rfl) ?_
        refine lv_iload_n hx hb dX4_step_14 rfl (lv_at hl 2 rfl) ?_
        refine lv_aload_n hx hb dX4_step_15 rfl (lv_at hl 0 rfl) ?_
        refine rg (T := TX4) (N := 8) CX hE hW.1 in_X4_step_X4 0 rfl rfl 1 (by decide) fl_X4_step_23 rfl rfl dX4_step_16 ?_
        refine lv_iload_n hx hb dX4_step_19 rfl (lv_at hl 2 rfl) ?_
        refine rn_iald CX hE hW.1 2 rfl (j := i) (by omega) (ltb rfl) dX4_step_20 ?_
        refine rn_iconst hx hb 2 rfl dX4_step_21 ?_
        have J_34 : ∀ v : Int32, v = (if T.1 1 i = nI 2 then nI 0 else nextF (T.1 0) (T.1 1) (T.1 2) g i) → W p_ l e_ ({ frames := 3, cells := 0, slots := 0, locals := 86 } : Room) s_ m_ ([.ref (a 0)] : List Value).toArray below meth c_ H locs 0 0 (MQ below (va_Qv (fun _ : Unit => True) (fun _ t_ => va_P G vwCl (tkW cA (swp a) (stepT T)) t_.heap ∧ va_D A_ (tkW cA (swp a) (stepT T))) A_) ([.ref (a 0)] : List Value).toArray s_ 0 0 A_) (F0 m_ 34 ls [.int v, .int (nI i), .ref (a 4)]) := by
          intro v hv
          subst hv
          refine rn_iast (ws' := [(a 0, .inr (4, [.ref (a 1), .ref (a 2), .ref (a 3), .ref (a 4), .ref (a 5), .ref (a 6), .ref (a 11), .int (nI (T.2 4 0))])), (a 1, .inl (cA 0, 4, .inl (T.1 0))), (a 2, .inl (cA 0, 60, .inl (T.1 1))), (a 3, .inl (cA 0, 60, .inl (T.1 2))), (a 4, .inl (cA 0, 60, .inl (upd g i (if T.1 1 i = nI 2 then nI 0 else nextF (T.1 0) (T.1 1) (T.1 2) g i)))), (a 5, .inl (cA 0, 60, .inl (T.1 4))), (a 6, .inr (0, [.ref (a 7), .ref (a 8), .ref (a 9), .ref (a 10), .int (nI (T.2 4 1))])), (a 7, .inl (cA 0, 5, .inl (fun k => nI ((T.2 0) k)))), (a 8, .inl (cA 0, 5, .inl (fun k => nI ((T.2 1) k)))), (a 9, .inl (cA 0, 5, .inl (T.1 5))), (a 10, .inl (cA 0, 5, .inl (T.1 6))), (a 11, .inr (3, [.ref (a 12), .ref (a 13), .ref (a 14), .int (nI (T.2 4 2))])), (a 12, .inl (cA 0, 3, .inl (fun k => nI ((T.2 2) k)))), (a 13, .inl (cA 0, 3, .inl (fun k => nI ((T.2 3) k)))), (a 14, .inl (cA 4, 3, .inr (.inr (.inr (.inr (row3 (a 15) (a 16) (a 17))))))), (a 15, .inl (cA 0, 24, .inl (T.1 7))), (a 16, .inl (cA 0, 24, .inl (T.1 8))), (a 17, .inl (cA 0, 24, .inl (T.1 9)))]) CX hE hW 4 rfl (j := i) (by omega) (ltb rfl) rfl dX4_step_34 (fun H locs hW => ?_)
          refine rn_iinc hx hb (n := 1) (lv' := [(2, .int (nI (i + 1))), (0, .ref (a 0)), (1, .ref (a 4))]) rfl dX4_step_35 hl (k := 2) rfl (by decide) rfl (fun ls hl => ?_)
          refine lv_goto (tgt := 7) hx hb dX4_step_38 (by decide) ?_
          exact ih_7 (i + 1) (upd g i (if T.1 1 i = nI 2 then nI 0 else nextF (T.1 0) (T.1 1) (T.1 2) g i)) (by omega) (by omega) (nx_next hg) _ _ ls hW (lv_sub hl [1, 2, 0] rfl)
        refine lv_icmp_ne hx hb dX4_step_22 (by decide) (tgt := 29) (fun c_22 => ?_) (fun c_22 => ?_)
        · refine lv_aload_n hx hb dX4_step_29 rfl (lv_at hl 0 rfl) ?_
          refine lv_iload_n hx hb dX4_step_30 rfl (lv_at hl 2 rfl) ?_
          refine roV CX hE hW.1 (c_X4_nextHeight l G cA a (T.2 4 0) (T.1 0) (T.1 1) (T.1 2) g i (by omega)) (cwV 1 hts gX4_step_X4_nextHeight rfl rfl rfl hdv_X4_nextHeight ⟨Nat.le_of_ble_eq_true rfl, Nat.le_of_ble_eq_true rfl⟩) [0, 1, 2, 3, 4] rfl 0 rfl rfl rfl B0_blind (fun _ _ _ => trivial) rfl hl.1 (rest := [.int (nI i), .ref (a 4)]) rfl (Nat.le_of_ble_eq_true rfl) dX4_step_31 ⟨Nat.zero_le _, Nat.zero_le _⟩ ?_
          exact J_34 _ (by first | exact (if_pos (Decidable.not_not.mp c_22)).symm | exact (if_neg c_22).symm | first | exact (if_pos c_22).symm | exact (if_neg c_22).symm)
        · refine rn_iconst hx hb 0 rfl dX4_step_25 ?_
          refine lv_goto (tgt := 34) hx hb dX4_step_26 (by decide) ?_
          exact J_34 _ (by first | exact (if_pos (Decidable.not_not.mp c_22)).symm | exact (if_neg c_22).symm | first | exact (if_pos c_22).symm | exact (if_neg c_22).symm)
  exact LP_7 _ 0 (T.1 3) (Nat.lt_succ_self _) (by omega) (fun j => (if_neg (Nat.not_lt_zero _)).symm) _ _ ls hW (lv_sub hl [2, 1, 0] rfl)
theorem hdv_X4_step : yX4_step.cls = RX4 ∧ yX4_step.cls ≠ "java/lang/invoke/MethodHandle" ∧ yX4_step.cls ≠ "java/lang/invoke/VarHandle" ∧ (parseMethodDescriptor yX4_step.desc).map (fun d => d.parameters.length) = some 0 := by decide +kernel
set_option maxHeartbeats 4000000 in
set_option maxRecDepth 100000 in
theorem c_X4_run (l : Launch) (G : va_G) (cA : Nat → ClassId) (a : Nat → Nat) (T : TV) (n : Nat) (hok : okT T) (hn : n < 2147483648) : MUv l yX4_run wsX4_run ({ frames := 4, cells := 0, slots := 0, locals := 108 }) G cA BM0 (tkW cA a T) [.ref (a 0), .int (nI n)] (tkW cA (runA a n) (runT T n)) := by
  refine MUv.mk (own := RX4) (by decide) rfl rfl (Nat.le_of_ble_eq_true rfl) (fun p_ e_ s_ m_ below meth c_ ls A_ CX hr hlk hW hA hE hB hl => ?_)
  obtain ⟨hx, hb, hml, hown, hts⟩ := id CX
  have hl : lv_has ls 3 [(0, .ref (a 0)), (1, .int (nI n))] := hl
  have hW : wld G A_ (tkW cA a T) s_.heap s_.heap [] := hW
  refine rn_iconst hx hb 0 rfl dX4_run_0 ?_
  refine lv_istore_n (lv' := [(2, .int (nI 0)), (0, .ref (a 0)), (1, .int (nI n))]) hx hb dX4_run_1 rfl hl (by decide) rfl (fun ls hl => ?_)
  have LP_2 : ∀ (nn_ : Nat) (i : Nat) (b : Nat → Nat) (S : TV), (n - i) < nn_ → (i ≤ n) → (b = runA a i) → (S = runT T i) → ∀ (H : Heap) (locs : List Loc) (ls : Array Slot), wld G A_ (tkW cA b S) s_.heap H locs → lv_has ls 3 [(0, .ref (b 0)), (1, .int (nI n)), (2, .int (nI i))] → W p_ l e_ ({ frames := 4, cells := 0, slots := 0, locals := 108 } : Room) s_ m_ ([.ref (a 0), .int (nI n)] : List Value).toArray below meth c_ H locs 0 0 (MQ below (va_Qv (fun _ : Unit => True) (fun _ t_ => va_P G vwCl (tkW cA (runA a n) (runT T n)) t_.heap ∧ va_D A_ (tkW cA (runA a n) (runT T n))) A_) ([.ref (a 0), .int (nI n)] : List Value).toArray s_ 0 0 A_) (F0 m_ 2 ls []) := by
    intro nn_
    induction nn_ with
    | zero => intro i b S hmu; exact absurd hmu (Nat.not_lt_zero _)
    | succ nn_ ih =>
      have ih_2 := ih
      clear ih
      intro i b S hmu_2 hi hb_ hS_ H locs ls hW hl
      refine lv_iload_n hx hb dX4_run_2 rfl (lv_at hl 2 rfl) ?_
      refine lv_iload_n hx hb dX4_run_3 rfl (lv_at hl 1 rfl) ?_
      refine rn_icmp_ge hx hb (by omega) (by omega) dX4_run_4 (by decide) (tgt := 17) (fun c_4 => ?_) (fun c_4 => ?_)
      · have hW : wld G A_ (tkW cA (runA a n) (runT T n)) s_.heap H locs := by rw [show n = i by omega, ← hb_, ← hS_]; exact hW
        exact mu_retv CX hr hlk hW dX4_run_17
      · refine lv_aload_n hx hb dX4_run_7 rfl (lv_at hl 0 rfl) ?_
        refine muvV (ws' := tkW cA (swp b) (stepT S)) CX hE hW hA (c_X4_step l G cA b S (by rw [hS_]; exact hok.run i)) (cwV 0 hts gX4_run_X4_step rfl rfl rfl hdv_X4_step ⟨Nat.le_of_ble_eq_true rfl, Nat.le_of_ble_eq_true rfl⟩) [0, 1, 2, 3, 4, 5, 6, 7, 8, 9, 10, 11, 12, 13, 14, 15, 16, 17] (by decide) rfl rfl rfl 0 rfl rfl rfl BM0_blind (fun _ _ _ _ => trivial) rfl hl.1 (rest := []) rfl (Nat.le_of_ble_eq_true rfl) dX4_run_8 ⟨Nat.zero_le _, Nat.zero_le _⟩ (fun H locs hW => ?_)
        have hW : wld G A_ (tkW cA (swp b) (stepT S)) s_.heap H locs := hW
        have hl : lv_has ls 3 [(0, .ref ((swp b) 0)), (1, .int (nI n)), (2, .int (nI i))] := hl
        refine rn_iinc hx hb (n := 1) (lv' := [(2, .int (nI (i + 1))), (0, .ref ((swp b) 0)), (1, .int (nI n))]) rfl dX4_run_11 hl (k := 2) rfl (by decide) rfl (fun ls hl => ?_)
        refine lv_goto (tgt := 2) hx hb dX4_run_14 (by decide) ?_
        exact ih_2 (i + 1) (swp b) (stepT S) (by omega) (by omega) (by rw [hb_]; exact runA_next) (by rw [hS_]; rfl) _ _ ls hW (lv_sub hl [1, 2, 0] rfl)
  exact LP_2 _ 0 a T (Nat.lt_succ_self _) (Nat.zero_le _) runA_0 rfl _ _ ls hW (lv_sub hl [1, 2, 0] rfl)
theorem fl_X4_become_18 : Cond.fieldLink RX4 18 RX4 (TX4 0).2.1 (TX4 0).2.2.1 ∈ wsX4_become := by decide +kernel
theorem in_X4_become_X4 : ∀ w ∈ wsX40, w ∈ wsX4_become := by decide +kernel
theorem w_X4_become_acl59 : Cond.methodLink RX4 59 arraycopyName ∈ wsX4_become := by decide +kernel
theorem w_X4_become_acn : Cond.native arraycopyName ∈ wsX4_become := by decide +kernel
theorem w_X4_become_acs : Cond.static arraycopyName ∈ wsX4_become := by decide +kernel
theorem w_X4_become_aci : Cond.initialized "java/lang/System" ∈ wsX4_become := by decide +kernel
theorem fl_X4_become_23 : Cond.fieldLink RX4 23 RX4 (TX4 1).2.1 (TX4 1).2.2.1 ∈ wsX4_become := by decide +kernel
theorem fl_X4_become_26 : Cond.fieldLink RX4 26 RX4 (TX4 2).2.1 (TX4 2).2.2.1 ∈ wsX4_become := by decide +kernel
theorem fl_X4_become_29 : Cond.fieldLink RX4 29 RX4 (TX4 3).2.1 (TX4 3).2.2.1 ∈ wsX4_become := by decide +kernel
theorem fl_X4_become_32 : Cond.fieldLink RX4 32 RX4 (TX4 4).2.1 (TX4 4).2.2.1 ∈ wsX4_become := by decide +kernel
theorem fl_X4_become_38 : Cond.fieldLink RX4 38 RX4 (TX4 5).2.1 (TX4 5).2.2.1 ∈ wsX4_become := by decide +kernel
theorem hdv_X0_become : yX0_become.cls = RX0 ∧ yX0_become.cls ≠ "java/lang/invoke/MethodHandle" ∧ yX0_become.cls ≠ "java/lang/invoke/VarHandle" ∧ (parseMethodDescriptor yX0_become.desc).map (fun d => d.parameters.length) = some 1 := by decide +kernel
theorem fl_X4_become_45 : Cond.fieldLink RX4 45 RX4 (TX4 6).2.1 (TX4 6).2.2.1 ∈ wsX4_become := by decide +kernel
theorem hdv_X3_become : yX3_become.cls = RX3 ∧ yX3_become.cls ≠ "java/lang/invoke/MethodHandle" ∧ yX3_become.cls ≠ "java/lang/invoke/VarHandle" ∧ (parseMethodDescriptor yX3_become.desc).map (fun d => d.parameters.length) = some 1 := by decide +kernel
theorem fl_X4_become_49 : Cond.fieldLink RX4 49 RX4 (TX4 7).2.1 (TX4 7).2.2.1 ∈ wsX4_become := by decide +kernel
set_option maxHeartbeats 4000000 in
set_option maxRecDepth 100000 in
theorem c_X4_become (l : Launch) (G : va_G) (cA : Nat → ClassId) (a : Nat → Nat) (T : TV) (b : Nat → Nat) (S : TV)  : MUv l yX4_become wsX4_become ({ frames := 2, cells := 0, slots := 0, locals := 86 }) G cA BM0 (tkW cA a T ++ tkW cA b S) [.ref (a 0), .ref (b 0)] (tkW cA a S ++ tkW cA b S) := by
  refine MUv.mk (own := RX4) (by decide) rfl rfl (Nat.le_of_ble_eq_true rfl) (fun p_ e_ s_ m_ below meth c_ ls A_ CX hr hlk hW hA hE hB hl => ?_)
  obtain ⟨hx, hb, hml, hown, hts⟩ := id CX
  have hl : lv_has ls 2 [(0, .ref (a 0)), (1, .ref (b 0))] := hl
  have hW : wld G A_ (tkW cA a T ++ tkW cA b S) s_.heap s_.heap [] := hW
  refine lv_aload_n hx hb dX4_become_0 rfl (lv_at hl 1 rfl) ?_
  refine rg (T := TX4) (N := 8) CX hE hW.1 in_X4_become_X4 18 rfl rfl 0 (by decide) fl_X4_become_18 rfl rfl dX4_become_1 ?_
  refine rn_iconst hx hb 0 rfl dX4_become_4 ?_
  refine lv_aload_n hx hb dX4_become_5 rfl (lv_at hl 0 rfl) ?_
  refine rg (T := TX4) (N := 8) CX hE hW.1 in_X4_become_X4 0 rfl rfl 0 (by decide) fl_X4_become_18 rfl rfl dX4_become_6 ?_
  refine rn_iconst hx hb 0 rfl dX4_become_9 ?_
  refine rn_iconst hx hb 4 rfl dX4_become_10 ?_
  refine rn_copyF (ws' := ([(a 0, .inr (4, [.ref (a 1), .ref (a 2), .ref (a 3), .ref (a 4), .ref (a 5), .ref (a 6), .ref (a 11), .int (nI (T.2 4 0))])), (a 1, .inl (cA 0, 4, .inl (S.1 0))), (a 2, .inl (cA 0, 60, .inl (T.1 1))), (a 3, .inl (cA 0, 60, .inl (T.1 2))), (a 4, .inl (cA 0, 60, .inl (T.1 3))), (a 5, .inl (cA 0, 60, .inl (T.1 4))), (a 6, .inr (0, [.ref (a 7), .ref (a 8), .ref (a 9), .ref (a 10), .int (nI (T.2 4 1))])), (a 7, .inl (cA 0, 5, .inl (fun k => nI ((T.2 0) k)))), (a 8, .inl (cA 0, 5, .inl (fun k => nI ((T.2 1) k)))), (a 9, .inl (cA 0, 5, .inl (T.1 5))), (a 10, .inl (cA 0, 5, .inl (T.1 6))), (a 11, .inr (3, [.ref (a 12), .ref (a 13), .ref (a 14), .int (nI (T.2 4 2))])), (a 12, .inl (cA 0, 3, .inl (fun k => nI ((T.2 2) k)))), (a 13, .inl (cA 0, 3, .inl (fun k => nI ((T.2 3) k)))), (a 14, .inl (cA 4, 3, .inr (.inr (.inr (.inr (row3 (a 15) (a 16) (a 17))))))), (a 15, .inl (cA 0, 24, .inl (T.1 7))), (a 16, .inl (cA 0, 24, .inl (T.1 8))), (a 17, .inl (cA 0, 24, .inl (T.1 9)))] ++ tkW cA b S)) CX hE hW hl.1 (hts _ w_X4_become_acl59) (hts _ w_X4_become_acn) (hts _ w_X4_become_acs) (hts _ w_X4_become_aci) 19 1 rfl rfl (Nat.le_of_ble_eq_true rfl) (by decide +kernel) (ltb rfl) rfl dX4_become_11 (fun H locs hW => ?_)
  refine lv_aload_n hx hb dX4_become_14 rfl (lv_at hl 1 rfl) ?_
  refine rg (T := TX4) (N := 8) CX hE hW.1 in_X4_become_X4 18 rfl rfl 1 (by decide) fl_X4_become_23 rfl rfl dX4_become_15 ?_
  refine rn_iconst hx hb 0 rfl dX4_become_18 ?_
  refine lv_aload_n hx hb dX4_become_19 rfl (lv_at hl 0 rfl) ?_
  refine rg (T := TX4) (N := 8) CX hE hW.1 in_X4_become_X4 0 rfl rfl 1 (by decide) fl_X4_become_23 rfl rfl dX4_become_20 ?_
  refine rn_iconst hx hb 0 rfl dX4_become_23 ?_
  refine lv_bipush (v := (nI 60)) hx hb dX4_become_24 kb_60 ?_
  refine rn_copyF (ws' := ([(a 0, .inr (4, [.ref (a 1), .ref (a 2), .ref (a 3), .ref (a 4), .ref (a 5), .ref (a 6), .ref (a 11), .int (nI (T.2 4 0))])), (a 1, .inl (cA 0, 4, .inl (S.1 0))), (a 2, .inl (cA 0, 60, .inl (S.1 1))), (a 3, .inl (cA 0, 60, .inl (T.1 2))), (a 4, .inl (cA 0, 60, .inl (T.1 3))), (a 5, .inl (cA 0, 60, .inl (T.1 4))), (a 6, .inr (0, [.ref (a 7), .ref (a 8), .ref (a 9), .ref (a 10), .int (nI (T.2 4 1))])), (a 7, .inl (cA 0, 5, .inl (fun k => nI ((T.2 0) k)))), (a 8, .inl (cA 0, 5, .inl (fun k => nI ((T.2 1) k)))), (a 9, .inl (cA 0, 5, .inl (T.1 5))), (a 10, .inl (cA 0, 5, .inl (T.1 6))), (a 11, .inr (3, [.ref (a 12), .ref (a 13), .ref (a 14), .int (nI (T.2 4 2))])), (a 12, .inl (cA 0, 3, .inl (fun k => nI ((T.2 2) k)))), (a 13, .inl (cA 0, 3, .inl (fun k => nI ((T.2 3) k)))), (a 14, .inl (cA 4, 3, .inr (.inr (.inr (.inr (row3 (a 15) (a 16) (a 17))))))), (a 15, .inl (cA 0, 24, .inl (T.1 7))), (a 16, .inl (cA 0, 24, .inl (T.1 8))), (a 17, .inl (cA 0, 24, .inl (T.1 9)))] ++ tkW cA b S)) CX hE hW hl.1 (hts _ w_X4_become_acl59) (hts _ w_X4_become_acn) (hts _ w_X4_become_acs) (hts _ w_X4_become_aci) 20 2 rfl rfl (Nat.le_of_ble_eq_true rfl) (by decide +kernel) (ltb rfl) rfl dX4_become_26 (fun H locs hW => ?_)
  refine lv_aload_n hx hb dX4_become_29 rfl (lv_at hl 1 rfl) ?_
  refine rg (T := TX4) (N := 8) CX hE hW.1 in_X4_become_X4 18 rfl rfl 2 (by decide) fl_X4_become_26 rfl rfl dX4_become_30 ?_
  refine rn_iconst hx hb 0 rfl dX4_become_33 ?_
  refine lv_aload_n hx hb dX4_become_34 rfl (lv_at hl 0 rfl) ?_
  refine rg (T := TX4) (N := 8) CX hE hW.1 in_X4_become_X4 0 rfl rfl 2 (by decide) fl_X4_become_26 rfl rfl dX4_become_35 ?_
  refine rn_iconst hx hb 0 rfl dX4_become_38 ?_
  refine lv_bipush (v := (nI 60)) hx hb dX4_become_39 kb_60 ?_
  refine rn_copyF (ws' := ([(a 0, .inr (4, [.ref (a 1), .ref (a 2), .ref (a 3), .ref (a 4), .ref (a 5), .ref (a 6), .ref (a 11), .int (nI (T.2 4 0))])), (a 1, .inl (cA 0, 4, .inl (S.1 0))), (a 2, .inl (cA 0, 60, .inl (S.1 1))), (a 3, .inl (cA 0, 60, .inl (S.1 2))), (a 4, .inl (cA 0, 60, .inl (T.1 3))), (a 5, .inl (cA 0, 60, .inl (T.1 4))), (a 6, .inr (0, [.ref (a 7), .ref (a 8), .ref (a 9), .ref (a 10), .int (nI (T.2 4 1))])), (a 7, .inl (cA 0, 5, .inl (fun k => nI ((T.2 0) k)))), (a 8, .inl (cA 0, 5, .inl (fun k => nI ((T.2 1) k)))), (a 9, .inl (cA 0, 5, .inl (T.1 5))), (a 10, .inl (cA 0, 5, .inl (T.1 6))), (a 11, .inr (3, [.ref (a 12), .ref (a 13), .ref (a 14), .int (nI (T.2 4 2))])), (a 12, .inl (cA 0, 3, .inl (fun k => nI ((T.2 2) k)))), (a 13, .inl (cA 0, 3, .inl (fun k => nI ((T.2 3) k)))), (a 14, .inl (cA 4, 3, .inr (.inr (.inr (.inr (row3 (a 15) (a 16) (a 17))))))), (a 15, .inl (cA 0, 24, .inl (T.1 7))), (a 16, .inl (cA 0, 24, .inl (T.1 8))), (a 17, .inl (cA 0, 24, .inl (T.1 9)))] ++ tkW cA b S)) CX hE hW hl.1 (hts _ w_X4_become_acl59) (hts _ w_X4_become_acn) (hts _ w_X4_become_acs) (hts _ w_X4_become_aci) 21 3 rfl rfl (Nat.le_of_ble_eq_true rfl) (by decide +kernel) (ltb rfl) rfl dX4_become_41 (fun H locs hW => ?_)
  refine lv_aload_n hx hb dX4_become_44 rfl (lv_at hl 1 rfl) ?_
  refine rg (T := TX4) (N := 8) CX hE hW.1 in_X4_become_X4 18 rfl rfl 3 (by decide) fl_X4_become_29 rfl rfl dX4_become_45 ?_
  refine rn_iconst hx hb 0 rfl dX4_become_48 ?_
  refine lv_aload_n hx hb dX4_become_49 rfl (lv_at hl 0 rfl) ?_
  refine rg (T := TX4) (N := 8) CX hE hW.1 in_X4_become_X4 0 rfl rfl 3 (by decide) fl_X4_become_29 rfl rfl dX4_become_50 ?_
  refine rn_iconst hx hb 0 rfl dX4_become_53 ?_
  refine lv_bipush (v := (nI 60)) hx hb dX4_become_54 kb_60 ?_
  refine rn_copyF (ws' := ([(a 0, .inr (4, [.ref (a 1), .ref (a 2), .ref (a 3), .ref (a 4), .ref (a 5), .ref (a 6), .ref (a 11), .int (nI (T.2 4 0))])), (a 1, .inl (cA 0, 4, .inl (S.1 0))), (a 2, .inl (cA 0, 60, .inl (S.1 1))), (a 3, .inl (cA 0, 60, .inl (S.1 2))), (a 4, .inl (cA 0, 60, .inl (S.1 3))), (a 5, .inl (cA 0, 60, .inl (T.1 4))), (a 6, .inr (0, [.ref (a 7), .ref (a 8), .ref (a 9), .ref (a 10), .int (nI (T.2 4 1))])), (a 7, .inl (cA 0, 5, .inl (fun k => nI ((T.2 0) k)))), (a 8, .inl (cA 0, 5, .inl (fun k => nI ((T.2 1) k)))), (a 9, .inl (cA 0, 5, .inl (T.1 5))), (a 10, .inl (cA 0, 5, .inl (T.1 6))), (a 11, .inr (3, [.ref (a 12), .ref (a 13), .ref (a 14), .int (nI (T.2 4 2))])), (a 12, .inl (cA 0, 3, .inl (fun k => nI ((T.2 2) k)))), (a 13, .inl (cA 0, 3, .inl (fun k => nI ((T.2 3) k)))), (a 14, .inl (cA 4, 3, .inr (.inr (.inr (.inr (row3 (a 15) (a 16) (a 17))))))), (a 15, .inl (cA 0, 24, .inl (T.1 7))), (a 16, .inl (cA 0, 24, .inl (T.1 8))), (a 17, .inl (cA 0, 24, .inl (T.1 9)))] ++ tkW cA b S)) CX hE hW hl.1 (hts _ w_X4_become_acl59) (hts _ w_X4_become_acn) (hts _ w_X4_become_acs) (hts _ w_X4_become_aci) 22 4 rfl rfl (Nat.le_of_ble_eq_true rfl) (by decide +kernel) (ltb rfl) rfl dX4_become_56 (fun H locs hW => ?_)
  refine lv_aload_n hx hb dX4_become_59 rfl (lv_at hl 1 rfl) ?_
  refine rg (T := TX4) (N := 8) CX hE hW.1 in_X4_become_X4 18 rfl rfl 4 (by decide) fl_X4_become_32 rfl rfl dX4_become_60 ?_
  refine rn_iconst hx hb 0 rfl dX4_become_63 ?_
  refine lv_aload_n hx hb dX4_become_64 rfl (lv_at hl 0 rfl) ?_
  refine rg (T := TX4) (N := 8) CX hE hW.1 in_X4_become_X4 0 rfl rfl 4 (by decide) fl_X4_become_32 rfl rfl dX4_become_65 ?_
  refine rn_iconst hx hb 0 rfl dX4_become_68 ?_
  refine lv_bipush (v := (nI 60)) hx hb dX4_become_69 kb_60 ?_
  refine rn_copyF (ws' := ([(a 0, .inr (4, [.ref (a 1), .ref (a 2), .ref (a 3), .ref (a 4), .ref (a 5), .ref (a 6), .ref (a 11), .int (nI (T.2 4 0))])), (a 1, .inl (cA 0, 4, .inl (S.1 0))), (a 2, .inl (cA 0, 60, .inl (S.1 1))), (a 3, .inl (cA 0, 60, .inl (S.1 2))), (a 4, .inl (cA 0, 60, .inl (S.1 3))), (a 5, .inl (cA 0, 60, .inl (S.1 4))), (a 6, .inr (0, [.ref (a 7), .ref (a 8), .ref (a 9), .ref (a 10), .int (nI (T.2 4 1))])), (a 7, .inl (cA 0, 5, .inl (fun k => nI ((T.2 0) k)))), (a 8, .inl (cA 0, 5, .inl (fun k => nI ((T.2 1) k)))), (a 9, .inl (cA 0, 5, .inl (T.1 5))), (a 10, .inl (cA 0, 5, .inl (T.1 6))), (a 11, .inr (3, [.ref (a 12), .ref (a 13), .ref (a 14), .int (nI (T.2 4 2))])), (a 12, .inl (cA 0, 3, .inl (fun k => nI ((T.2 2) k)))), (a 13, .inl (cA 0, 3, .inl (fun k => nI ((T.2 3) k)))), (a 14, .inl (cA 4, 3, .inr (.inr (.inr (.inr (row3 (a 15) (a 16) (a 17))))))), (a 15, .inl (cA 0, 24, .inl (T.1 7))), (a 16, .inl (cA 0, 24, .inl (T.1 8))), (a 17, .inl (cA 0, 24, .inl (T.1 9)))] ++ tkW cA b S)) CX hE hW hl.1 (hts _ w_X4_become_acl59) (hts _ w_X4_become_acn) (hts _ w_X4_become_acs) (hts _ w_X4_become_aci) 23 5 rfl rfl (Nat.le_of_ble_eq_true rfl) (by decide +kernel) (ltb rfl) rfl dX4_become_71 (fun H locs hW => ?_)
  refine lv_aload_n hx hb dX4_become_74 rfl (lv_at hl 0 rfl) ?_
  refine rg (T := TX4) (N := 8) CX hE hW.1 in_X4_become_X4 0 rfl rfl 5 (by decide) fl_X4_become_38 rfl rfl dX4_become_75 ?_
  refine lv_aload_n hx hb dX4_become_78 rfl (lv_at hl 1 rfl) ?_
  refine rg (T := TX4) (N := 8) CX hE hW.1 in_X4_become_X4 18 rfl rfl 5 (by decide) fl_X4_become_38 rfl rfl dX4_become_79 ?_
  refine muvV (ws' := [(a 0, .inr (4, [.ref (a 1), .ref (a 2), .ref (a 3), .ref (a 4), .ref (a 5), .ref (a 6), .ref (a 11), .int (nI (T.2 4 0))])), (a 1, .inl (cA 0, 4, .inl (S.1 0))), (a 2, .inl (cA 0, 60, .inl (S.1 1))), (a 3, .inl (cA 0, 60, .inl (S.1 2))), (a 4, .inl (cA 0, 60, .inl (S.1 3))), (a 5, .inl (cA 0, 60, .inl (S.1 4))), (a 6, .inr (0, [.ref (a 7), .ref (a 8), .ref (a 9), .ref (a 10), .int (nI ((S.2 4 1)))])), (a 7, .inl (cA 0, 5, .inl (fun k => nI ((S.2 0) k)))), (a 8, .inl (cA 0, 5, .inl (fun k => nI ((S.2 1) k)))), (a 9, .inl (cA 0, 5, .inl (S.1 5))), (a 10, .inl (cA 0, 5, .inl (S.1 6))), (a 11, .inr (3, [.ref (a 12), .ref (a 13), .ref (a 14), .int (nI (T.2 4 2))])), (a 12, .inl (cA 0, 3, .inl (fun k => nI ((T.2 2) k)))), (a 13, .inl (cA 0, 3, .inl (fun k => nI ((T.2 3) k)))), (a 14, .inl (cA 4, 3, .inr (.inr (.inr (.inr (row3 (a 15) (a 16) (a 17))))))), (a 15, .inl (cA 0, 24, .inl (T.1 7))), (a 16, .inl (cA 0, 24, .inl (T.1 8))), (a 17, .inl (cA 0, 24, .inl (T.1 9))), (b 0, .inr (4, [.ref (b 1), .ref (b 2), .ref (b 3), .ref (b 4), .ref (b 5), .ref (b 6), .ref (b 11), .int (nI (S.2 4 0))])), (b 1, .inl (cA 0, 4, .inl (S.1 0))), (b 2, .inl (cA 0, 60, .inl (S.1 1))), (b 3, .inl (cA 0, 60, .inl (S.1 2))), (b 4, .inl (cA 0, 60, .inl (S.1 3))), (b 5, .inl (cA 0, 60, .inl (S.1 4))), (b 6, .inr (0, [.ref (b 7), .ref (b 8), .ref (b 9), .ref (b 10), .int (nI ((S.2 4 1)))])), (b 7, .inl (cA 0, 5, .inl (fun k => nI ((S.2 0) k)))), (b 8, .inl (cA 0, 5, .inl (fun k => nI ((S.2 1) k)))), (b 9, .inl (cA 0, 5, .inl (S.1 5))), (b 10, .inl (cA 0, 5, .inl (S.1 6))), (b 11, .inr (3, [.ref (b 12), .ref (b 13), .ref (b 14), .int (nI (S.2 4 2))])), (b 12, .inl (cA 0, 3, .inl (fun k => nI ((S.2 2) k)))), (b 13, .inl (cA 0, 3, .inl (fun k => nI ((S.2 3) k)))), (b 14, .inl (cA 4, 3, .inr (.inr (.inr (.inr (row3 (b 15) (b 16) (b 17))))))), (b 15, .inl (cA 0, 24, .inl (S.1 7))), (b 16, .inl (cA 0, 24, .inl (S.1 8))), (b 17, .inl (cA 0, 24, .inl (S.1 9)))]) CX hE hW hA (c_X0_become l G cA a b (T.2 4 1) (T.2 0) (T.2 1) (T.1 5) (T.1 6) (S.2 4 1) (S.2 0) (S.2 1) (S.1 5) (S.1 6) ) (cwV 1 hts gX4_become_X0_become rfl rfl rfl hdv_X0_become ⟨Nat.le_of_ble_eq_true rfl, Nat.le_of_ble_eq_true rfl⟩) [6, 7, 8, 9, 10, 24, 25, 26, 27, 28] (by decide) rfl rfl rfl 6 rfl rfl rfl BM0_blind (fun _ _ _ _ => trivial) rfl hl.1 (rest := []) rfl (Nat.le_of_ble_eq_true rfl) dX4_become_82 ⟨Nat.zero_le _, Nat.zero_le _⟩ (fun H locs hW => ?_)
  refine lv_aload_n hx hb dX4_become_85 rfl (lv_at hl 0 rfl) ?_
  refine rg (T := TX4) (N := 8) CX hE hW.1 in_X4_become_X4 0 rfl rfl 6 (by decide) fl_X4_become_45 rfl rfl dX4_become_86 ?_
  refine lv_aload_n hx hb dX4_become_89 rfl (lv_at hl 1 rfl) ?_
  refine rg (T := TX4) (N := 8) CX hE hW.1 in_X4_become_X4 18 rfl rfl 6 (by decide) fl_X4_become_45 rfl rfl dX4_become_90 ?_
  refine muvV (ws' := [(a 0, .inr (4, [.ref (a 1), .ref (a 2), .ref (a 3), .ref (a 4), .ref (a 5), .ref (a 6), .ref (a 11), .int (nI (T.2 4 0))])), (a 1, .inl (cA 0, 4, .inl (S.1 0))), (a 2, .inl (cA 0, 60, .inl (S.1 1))), (a 3, .inl (cA 0, 60, .inl (S.1 2))), (a 4, .inl (cA 0, 60, .inl (S.1 3))), (a 5, .inl (cA 0, 60, .inl (S.1 4))), (a 6, .inr (0, [.ref (a 7), .ref (a 8), .ref (a 9), .ref (a 10), .int (nI ((S.2 4 1)))])), (a 7, .inl (cA 0, 5, .inl (fun k => nI ((S.2 0) k)))), (a 8, .inl (cA 0, 5, .inl (fun k => nI ((S.2 1) k)))), (a 9, .inl (cA 0, 5, .inl (S.1 5))), (a 10, .inl (cA 0, 5, .inl (S.1 6))), (a 11, .inr (3, [.ref (a 12), .ref (a 13), .ref (a 14), .int (nI ((S.2 4 2)))])), (a 12, .inl (cA 0, 3, .inl (fun k => nI ((S.2 2) k)))), (a 13, .inl (cA 0, 3, .inl (fun k => nI ((S.2 3) k)))), (a 14, .inl (cA 4, 3, .inr (.inr (.inr (.inr (row3 (a 15) (a 16) (a 17))))))), (a 15, .inl (cA 0, 24, .inl (S.1 7))), (a 16, .inl (cA 0, 24, .inl (S.1 8))), (a 17, .inl (cA 0, 24, .inl (S.1 9))), (b 0, .inr (4, [.ref (b 1), .ref (b 2), .ref (b 3), .ref (b 4), .ref (b 5), .ref (b 6), .ref (b 11), .int (nI (S.2 4 0))])), (b 1, .inl (cA 0, 4, .inl (S.1 0))), (b 2, .inl (cA 0, 60, .inl (S.1 1))), (b 3, .inl (cA 0, 60, .inl (S.1 2))), (b 4, .inl (cA 0, 60, .inl (S.1 3))), (b 5, .inl (cA 0, 60, .inl (S.1 4))), (b 6, .inr (0, [.ref (b 7), .ref (b 8), .ref (b 9), .ref (b 10), .int (nI ((S.2 4 1)))])), (b 7, .inl (cA 0, 5, .inl (fun k => nI ((S.2 0) k)))), (b 8, .inl (cA 0, 5, .inl (fun k => nI ((S.2 1) k)))), (b 9, .inl (cA 0, 5, .inl (S.1 5))), (b 10, .inl (cA 0, 5, .inl (S.1 6))), (b 11, .inr (3, [.ref (b 12), .ref (b 13), .ref (b 14), .int (nI ((S.2 4 2)))])), (b 12, .inl (cA 0, 3, .inl (fun k => nI ((S.2 2) k)))), (b 13, .inl (cA 0, 3, .inl (fun k => nI ((S.2 3) k)))), (b 14, .inl (cA 4, 3, .inr (.inr (.inr (.inr (row3 (b 15) (b 16) (b 17))))))), (b 15, .inl (cA 0, 24, .inl (S.1 7))), (b 16, .inl (cA 0, 24, .inl (S.1 8))), (b 17, .inl (cA 0, 24, .inl (S.1 9)))]) CX hE hW hA (c_X3_become l G cA a b (T.2 4 2) (T.2 2) (T.2 3) (T.1 7) (T.1 8) (T.1 9) (S.2 4 2) (S.2 2) (S.2 3) (S.1 7) (S.1 8) (S.1 9) ) (cwV 1 hts gX4_become_X3_become rfl rfl rfl hdv_X3_become ⟨Nat.le_of_ble_eq_true rfl, Nat.le_of_ble_eq_true rfl⟩) [11, 12, 13, 14, 15, 16, 17, 29, 30, 31, 32, 33, 34, 35] (by decide) rfl rfl rfl 11 rfl rfl rfl BM0_blind (fun _ _ _ _ => trivial) rfl hl.1 (rest := []) rfl (Nat.le_of_ble_eq_true rfl) dX4_become_93 ⟨Nat.zero_le _, Nat.zero_le _⟩ (fun H locs hW => ?_)
  refine lv_aload_n hx hb dX4_become_96 rfl (lv_at hl 0 rfl) ?_
  refine lv_aload_n hx hb dX4_become_97 rfl (lv_at hl 1 rfl) ?_
  refine rg (T := TX4) (N := 8) CX hE hW.1 in_X4_become_X4 18 rfl rfl 7 (by decide) fl_X4_become_49 rfl rfl dX4_become_98 ?_
  refine rp (T := TX4) (N := 8) (ws' := [(a 0, .inr (4, [.ref (a 1), .ref (a 2), .ref (a 3), .ref (a 4), .ref (a 5), .ref (a 6), .ref (a 11), .int (nI (S.2 4 0))])), (a 1, .inl (cA 0, 4, .inl (S.1 0))), (a 2, .inl (cA 0, 60, .inl (S.1 1))), (a 3, .inl (cA 0, 60, .inl (S.1 2))), (a 4, .inl (cA 0, 60, .inl (S.1 3))), (a 5, .inl (cA 0, 60, .inl (S.1 4))), (a 6, .inr (0, [.ref (a 7), .ref (a 8), .ref (a 9), .ref (a 10), .int (nI ((S.2 4 1)))])), (a 7, .inl (cA 0, 5, .inl (fun k => nI ((S.2 0) k)))), (a 8, .inl (cA 0, 5, .inl (fun k => nI ((S.2 1) k)))), (a 9, .inl (cA 0, 5, .inl (S.1 5))), (a 10, .inl (cA 0, 5, .inl (S.1 6))), (a 11, .inr (3, [.ref (a 12), .ref (a 13), .ref (a 14), .int (nI ((S.2 4 2)))])), (a 12, .inl (cA 0, 3, .inl (fun k => nI ((S.2 2) k)))), (a 13, .inl (cA 0, 3, .inl (fun k => nI ((S.2 3) k)))), (a 14, .inl (cA 4, 3, .inr (.inr (.inr (.inr (row3 (a 15) (a 16) (a 17))))))), (a 15, .inl (cA 0, 24, .inl (S.1 7))), (a 16, .inl (cA 0, 24, .inl (S.1 8))), (a 17, .inl (cA 0, 24, .inl (S.1 9))), (b 0, .inr (4, [.ref (b 1), .ref (b 2), .ref (b 3), .ref (b 4), .ref (b 5), .ref (b 6), .ref (b 11), .int (nI (S.2 4 0))])), (b 1, .inl (cA 0, 4, .inl (S.1 0))), (b 2, .inl (cA 0, 60, .inl (S.1 1))), (b 3, .inl (cA 0, 60, .inl (S.1 2))), (b 4, .inl (cA 0, 60, .inl (S.1 3))), (b 5, .inl (cA 0, 60, .inl (S.1 4))), (b 6, .inr (0, [.ref (b 7), .ref (b 8), .ref (b 9), .ref (b 10), .int (nI ((S.2 4 1)))])), (b 7, .inl (cA 0, 5, .inl (fun k => nI ((S.2 0) k)))), (b 8, .inl (cA 0, 5, .inl (fun k => nI ((S.2 1) k)))), (b 9, .inl (cA 0, 5, .inl (S.1 5))), (b 10, .inl (cA 0, 5, .inl (S.1 6))), (b 11, .inr (3, [.ref (b 12), .ref (b 13), .ref (b 14), .int (nI ((S.2 4 2)))])), (b 12, .inl (cA 0, 3, .inl (fun k => nI ((S.2 2) k)))), (b 13, .inl (cA 0, 3, .inl (fun k => nI ((S.2 3) k)))), (b 14, .inl (cA 4, 3, .inr (.inr (.inr (.inr (row3 (b 15) (b 16) (b 17))))))), (b 15, .inl (cA 0, 24, .inl (S.1 7))), (b 16, .inl (cA 0, 24, .inl (S.1 8))), (b 17, .inl (cA 0, 24, .inl (S.1 9)))]) CX hE hW in_X4_become_X4 tyX4 tyX4_ok nmX4 0 rfl rfl 7 (by decide) fl_X4_become_49 rfl rfl rfl rfl (Nat.le_of_ble_eq_true rfl) rfl dX4_become_101 (fun H locs hW => ?_)
  exact mu_retv CX hr hlk hW dX4_become_104
