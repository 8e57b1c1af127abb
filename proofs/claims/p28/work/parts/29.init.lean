/-! Constructors of the class's parts. -/
/-- a tank as it is made -/
def T0 : TV := (fun k => if k = 0 then firstF else if k = 4 then (fun _ => -6) else (fun _ => nI 0), fun _ _ => 0)
theorem w_X0_init_oi0 : Cond.methodLink RX0 3 objectInit ∈ wsX0_init := by decide +kernel
theorem w_X0_init_oi1 : Cond.instanceMethod objectInit ∈ wsX0_init := by decide +kernel
theorem w_X0_init_oi2 : Cond.code objectInit ⟨#[0xb1]⟩ 1 none ∈ wsX0_init := by decide +kernel
theorem w_X0_init_acI : Cond.arrayClass .int ∈ wsX0_init := by decide +kernel
theorem fl_X0_init_9 : Cond.fieldLink RX0 9 RX0 (TX0 0).2.1 (TX0 0).2.2.1 ∈ wsX0_init := by decide +kernel
theorem in_X0_init_X0 : ∀ w ∈ wsX00, w ∈ wsX0_init := by decide +kernel
theorem fl_X0_init_15 : Cond.fieldLink RX0 15 RX0 (TX0 1).2.1 (TX0 1).2.2.1 ∈ wsX0_init := by decide +kernel
theorem fl_X0_init_18 : Cond.fieldLink RX0 18 RX0 (TX0 2).2.1 (TX0 2).2.2.1 ∈ wsX0_init := by decide +kernel
theorem fl_X0_init_21 : Cond.fieldLink RX0 21 RX0 (TX0 3).2.1 (TX0 3).2.2.1 ∈ wsX0_init := by decide +kernel
theorem fl_X0_init_24 : Cond.fieldLink RX0 24 RX0 (TX0 4).2.1 (TX0 4).2.2.1 ∈ wsX0_init := by decide +kernel
set_option maxHeartbeats 8000000 in
set_option maxRecDepth 100000 in
theorem c_X0_init (l : Launch) (G : va_G) (cA : Nat → ClassId) (o : Nat) : MK l yX0_init wsX0_init ({ frames := 1, cells := 4, slots := 20, locals := 12 }) G cA BM0 [(o, .inr (0, [.null, .null, .null, .null, .int (nI 0)]))] [.ref o] (fun u => [(o, .inr (0, [.ref (u 0), .ref (u 1), .ref (u 2), .ref (u 3), .int (nI 0)])), (u 0, .inl (cA 0, 5, .inl (fun _ => nI 0))), (u 1, .inl (cA 0, 5, .inl (fun _ => nI 0))), (u 2, .inl (cA 0, 5, .inl (fun _ => nI 0))), (u 3, .inl (cA 0, 5, .inl (fun _ => nI 0)))]) 4 20 := by
  refine MK.mk (own := RX0) (by decide) rfl rfl (Nat.le_of_ble_eq_true rfl) (fun p_ e_ s_ m_ below meth c_ ls A_ CX hrr hlk hin hW hA hE hB hl => ?_)
  obtain ⟨hx, hb, hml, hown, hts⟩ := id CX
  have hl : lv_has ls 1 [(0, .ref o)] := hl
  have hW : wld G A_ [(o, .inr (0, [.null, .null, .null, .null, .int (nI 0)]))] s_.heap s_.heap [] := hW
  refine lv_aload_n hx hb dX0_init_0 rfl (lv_at hl 0 rfl) ?_
  refine W.objInit hx hb hown (hts _ w_X0_init_oi0) (hts _ w_X0_init_oi1) (hts _ w_X0_init_oi2) rfl (by rw [hml]; exact hl.1) rfl dX0_init_1 (Nat.le_of_ble_eq_true rfl) (Nat.le_of_ble_eq_true rfl) ?_
  refine W.eq (g2 := F0 m_ 4 ls []) rfl ?_
  refine lv_aload_n hx hb dX0_init_4 rfl (lv_at hl 0 rfl) ?_
  refine rn_iconst hx hb 5 rfl dX0_init_5 ?_
  refine rn_newI (n := 5) hx hb (hts _ w_X0_init_acI) hE hW hA (by decide) (Nat.le_of_ble_eq_true rfl) (Nat.le_of_ble_eq_true rfl) dX0_init_6 (fun q1 H hW => ?_)
  have hW : wld G A_ [(o, .inr (0, [.null, .null, .null, .null, .int (nI 0)])), (q1, .inl (cA 0, 5, .inl (fun _ => nI 0)))] s_.heap _ _ := hW
  refine rpF (T := TX0) (N := 5) (ws' := [(o, .inr (0, [.ref q1, .null, .null, .null, .int (nI 0)])), (q1, .inl (cA 0, 5, .inl (fun _ => nI 0)))]) CX hE hin hW in_X0_init_X0 tyX0 tyX0_ok nmX0 0 rfl rfl 0 (by decide) fl_X0_init_9 rfl rfl rfl rfl rfl (Nat.le_of_ble_eq_true rfl) rfl dX0_init_8 (fun H locs hW => ?_)
  refine lv_aload_n hx hb dX0_init_11 rfl (lv_at hl 0 rfl) ?_
  refine rn_iconst hx hb 5 rfl dX0_init_12 ?_
  refine rn_newI (n := 5) hx hb (hts _ w_X0_init_acI) hE hW hA (by decide) (Nat.le_of_ble_eq_true rfl) (Nat.le_of_ble_eq_true rfl) dX0_init_13 (fun q2 H hW => ?_)
  have hW : wld G A_ [(o, .inr (0, [.ref q1, .null, .null, .null, .int (nI 0)])), (q1, .inl (cA 0, 5, .inl (fun _ => nI 0))), (q2, .inl (cA 0, 5, .inl (fun _ => nI 0)))] s_.heap _ _ := hW
  refine rpF (T := TX0) (N := 5) (ws' := [(o, .inr (0, [.ref q1, .ref q2, .null, .null, .int (nI 0)])), (q1, .inl (cA 0, 5, .inl (fun _ => nI 0))), (q2, .inl (cA 0, 5, .inl (fun _ => nI 0)))]) CX hE hin hW in_X0_init_X0 tyX0 tyX0_ok nmX0 0 rfl rfl 1 (by decide) fl_X0_init_15 rfl rfl rfl rfl rfl (Nat.le_of_ble_eq_true rfl) rfl dX0_init_15 (fun H locs hW => ?_)
  refine lv_aload_n hx hb dX0_init_18 rfl (lv_at hl 0 rfl) ?_
  refine rn_iconst hx hb 5 rfl dX0_init_19 ?_
  refine rn_newI (n := 5) hx hb (hts _ w_X0_init_acI) hE hW hA (by decide) (Nat.le_of_ble_eq_true rfl) (Nat.le_of_ble_eq_true rfl) dX0_init_20 (fun q3 H hW => ?_)
  have hW : wld G A_ [(o, .inr (0, [.ref q1, .ref q2, .null, .null, .int (nI 0)])), (q1, .inl (cA 0, 5, .inl (fun _ => nI 0))), (q2, .inl (cA 0, 5, .inl (fun _ => nI 0))), (q3, .inl (cA 0, 5, .inl (fun _ => nI 0)))] s_.heap _ _ := hW
  refine rpF (T := TX0) (N := 5) (ws' := [(o, .inr (0, [.ref q1, .ref q2, .ref q3, .null, .int (nI 0)])), (q1, .inl (cA 0, 5, .inl (fun _ => nI 0))), (q2, .inl (cA 0, 5, .inl (fun _ => nI 0))), (q3, .inl (cA 0, 5, .inl (fun _ => nI 0)))]) CX hE hin hW in_X0_init_X0 tyX0 tyX0_ok nmX0 0 rfl rfl 2 (by decide) fl_X0_init_18 rfl rfl rfl rfl rfl (Nat.le_of_ble_eq_true rfl) rfl dX0_init_22 (fun H locs hW => ?_)
  refine lv_aload_n hx hb dX0_init_25 rfl (lv_at hl 0 rfl) ?_
  refine rn_iconst hx hb 5 rfl dX0_init_26 ?_
  refine rn_newI (n := 5) hx hb (hts _ w_X0_init_acI) hE hW hA (by decide) (Nat.le_of_ble_eq_true rfl) (Nat.le_of_ble_eq_true rfl) dX0_init_27 (fun q4 H hW => ?_)
  have hW : wld G A_ [(o, .inr (0, [.ref q1, .ref q2, .ref q3, .null, .int (nI 0)])), (q1, .inl (cA 0, 5, .inl (fun _ => nI 0))), (q2, .inl (cA 0, 5, .inl (fun _ => nI 0))), (q3, .inl (cA 0, 5, .inl (fun _ => nI 0))), (q4, .inl (cA 0, 5, .inl (fun _ => nI 0)))] s_.heap _ _ := hW
  refine rpF (T := TX0) (N := 5) (ws' := [(o, .inr (0, [.ref q1, .ref q2, .ref q3, .ref q4, .int (nI 0)])), (q1, .inl (cA 0, 5, .inl (fun _ => nI 0))), (q2, .inl (cA 0, 5, .inl (fun _ => nI 0))), (q3, .inl (cA 0, 5, .inl (fun _ => nI 0))), (q4, .inl (cA 0, 5, .inl (fun _ => nI 0)))]) CX hE hin hW in_X0_init_X0 tyX0 tyX0_ok nmX0 0 rfl rfl 3 (by decide) fl_X0_init_21 rfl rfl rfl rfl rfl (Nat.le_of_ble_eq_true rfl) rfl dX0_init_29 (fun H locs hW => ?_)
  refine lv_aload_n hx hb dX0_init_32 rfl (lv_at hl 0 rfl) ?_
  refine rn_iconst hx hb 0 rfl dX0_init_33 ?_
  refine rp (T := TX0) (N := 5) (ws' := [(o, .inr (0, [.ref q1, .ref q2, .ref q3, .ref q4, .int (nI 0)])), (q1, .inl (cA 0, 5, .inl (fun _ => nI 0))), (q2, .inl (cA 0, 5, .inl (fun _ => nI 0))), (q3, .inl (cA 0, 5, .inl (fun _ => nI 0))), (q4, .inl (cA 0, 5, .inl (fun _ => nI 0)))]) CX hE hW in_X0_init_X0 tyX0 tyX0_ok nmX0 0 rfl rfl 4 (by decide) fl_X0_init_24 rfl rfl rfl rfl (Nat.le_of_ble_eq_true rfl) rfl dX0_init_34 (fun H locs hW => ?_)
  exact mk_ret CX hrr hlk (fun k_ => match k_ with | 0 => q1 | 1 => q2 | 2 => q3 | _ => q4) hW dX0_init_37
theorem w_X2_init_oi0 : Cond.methodLink RX2 3 objectInit ∈ wsX2_init := by decide +kernel
theorem w_X2_init_oi1 : Cond.instanceMethod objectInit ∈ wsX2_init := by decide +kernel
theorem w_X2_init_oi2 : Cond.code objectInit ⟨#[0xb1]⟩ 1 none ∈ wsX2_init := by decide +kernel
theorem kb_72 : (Int8.ofInt (72)).toInt32 = (nI 72) := by decide +kernel
theorem w_X2_init_acC : Cond.arrayClass .char ∈ wsX2_init := by decide +kernel
theorem fl_X2_init_9 : Cond.fieldLink RX2 9 RX2 (TX2 0).2.1 (TX2 0).2.2.1 ∈ wsX2_init := by decide +kernel
theorem in_X2_init_X2 : ∀ w ∈ wsX20, w ∈ wsX2_init := by decide +kernel
theorem fl_X2_init_15 : Cond.fieldLink RX2 15 RX2 (TX2 1).2.1 (TX2 1).2.2.1 ∈ wsX2_init := by decide +kernel
set_option maxHeartbeats 8000000 in
set_option maxRecDepth 100000 in
theorem c_X2_init (l : Launch) (G : va_G) (cA : Nat → ClassId) (o : Nat) : MK l yX2_init wsX2_init ({ frames := 1, cells := 1, slots := 72, locals := 12 }) G cA BM0 [(o, .inr (2, [.null, .int (nI 0)]))] [.ref o] (fun u => [(o, .inr (2, [.ref (u 0), .int (nI 0)])), (u 0, .inl (cA 1, 72, .inl (fun _ => nI 0)))]) 1 72 := by
  refine MK.mk (own := RX2) (by decide) rfl rfl (Nat.le_of_ble_eq_true rfl) (fun p_ e_ s_ m_ below meth c_ ls A_ CX hrr hlk hin hW hA hE hB hl => ?_)
  obtain ⟨hx, hb, hml, hown, hts⟩ := id CX
  have hl : lv_has ls 1 [(0, .ref o)] := hl
  have hW : wld G A_ [(o, .inr (2, [.null, .int (nI 0)]))] s_.heap s_.heap [] := hW
  refine lv_aload_n hx hb dX2_init_0 rfl (lv_at hl 0 rfl) ?_
  refine W.objInit hx hb hown (hts _ w_X2_init_oi0) (hts _ w_X2_init_oi1) (hts _ w_X2_init_oi2) rfl (by rw [hml]; exact hl.1) rfl dX2_init_1 (Nat.le_of_ble_eq_true rfl) (Nat.le_of_ble_eq_true rfl) ?_
  refine W.eq (g2 := F0 m_ 4 ls []) rfl ?_
  refine lv_aload_n hx hb dX2_init_4 rfl (lv_at hl 0 rfl) ?_
  refine lv_bipush (v := (nI 72)) hx hb dX2_init_5 kb_72 ?_
  refine rn_newC (n := 72) hx hb (hts _ w_X2_init_acC) hE hW hA (by decide) (Nat.le_of_ble_eq_true rfl) (Nat.le_of_ble_eq_true rfl) dX2_init_7 (fun q1 H hW => ?_)
  have hW : wld G A_ [(o, .inr (2, [.null, .int (nI 0)])), (q1, .inl (cA 1, 72, .inl (fun _ => nI 0)))] s_.heap _ _ := hW
  refine rpF (T := TX2) (N := 2) (ws' := [(o, .inr (2, [.ref q1, .int (nI 0)])), (q1, .inl (cA 1, 72, .inl (fun _ => nI 0)))]) CX hE hin hW in_X2_init_X2 tyX2 tyX2_ok nmX2 0 rfl rfl 0 (by decide) fl_X2_init_9 rfl rfl rfl rfl rfl (Nat.le_of_ble_eq_true rfl) rfl dX2_init_9 (fun H locs hW => ?_)
  refine lv_aload_n hx hb dX2_init_12 rfl (lv_at hl 0 rfl) ?_
  refine rn_iconst hx hb 0 rfl dX2_init_13 ?_
  refine rp (T := TX2) (N := 2) (ws' := [(o, .inr (2, [.ref q1, .int (nI 0)])), (q1, .inl (cA 1, 72, .inl (fun _ => nI 0)))]) CX hE hW in_X2_init_X2 tyX2 tyX2_ok nmX2 0 rfl rfl 1 (by decide) fl_X2_init_15 rfl rfl rfl rfl (Nat.le_of_ble_eq_true rfl) rfl dX2_init_14 (fun H locs hW => ?_)
  exact mk_ret CX hrr hlk (fun _ => q1) hW dX2_init_17
theorem w_X3_init_oi0 : Cond.methodLink RX3 3 objectInit ∈ wsX3_init := by decide +kernel
theorem w_X3_init_oi1 : Cond.instanceMethod objectInit ∈ wsX3_init := by decide +kernel
theorem w_X3_init_oi2 : Cond.code objectInit ⟨#[0xb1]⟩ 1 none ∈ wsX3_init := by decide +kernel
theorem w_X3_init_acI : Cond.arrayClass .int ∈ wsX3_init := by decide +kernel
theorem fl_X3_init_9 : Cond.fieldLink RX3 9 RX3 (TX3 0).2.1 (TX3 0).2.2.1 ∈ wsX3_init := by decide +kernel
theorem in_X3_init_X3 : ∀ w ∈ wsX30, w ∈ wsX3_init := by decide +kernel
theorem fl_X3_init_15 : Cond.fieldLink RX3 15 RX3 (TX3 1).2.1 (TX3 1).2.2.1 ∈ wsX3_init := by decide +kernel
theorem w_X3_init_cl18 : Cond.classLink RX3 18 "[[I" ∈ wsX3_init := by decide +kernel
theorem fl_X3_init_20 : Cond.fieldLink RX3 20 RX3 (TX3 2).2.1 (TX3 2).2.2.1 ∈ wsX3_init := by decide +kernel
theorem fl_X3_init_23 : Cond.fieldLink RX3 23 RX3 (TX3 3).2.1 (TX3 3).2.2.1 ∈ wsX3_init := by decide +kernel
set_option maxHeartbeats 8000000 in
set_option maxRecDepth 100000 in
theorem c_X3_init (l : Launch) (G : va_G) (cA : Nat → ClassId) (t_ : Nat) (o : Nat) : MK l yX3_init wsX3_init ({ frames := 1, cells := 6, slots := 81, locals := 12 }) G cA (FSM t_) [(o, .inr (3, [.null, .null, .null, .int (nI 0)]))] [.ref o] (fun u => [(o, .inr (3, [.ref (u 0), .ref (u 1), .ref (u 2), .int (nI 0)])), (u 0, .inl (cA 0, 3, .inl (fun _ => nI 0))), (u 1, .inl (cA 0, 3, .inl (fun _ => nI 0))), (u 2, .inl (cA 4, 3, .inr (.inr (.inr (.inr (row3 (u 3) (u 4) (u 5))))))), (u 3, .inl (cA 0, 24, .inl (fun _ => nI 0))), (u 4, .inl (cA 0, 24, .inl (fun _ => nI 0))), (u 5, .inl (cA 0, 24, .inl (fun _ => nI 0)))]) 6 81 := by
  refine MK.mk (own := RX3) (by decide) rfl rfl (Nat.le_of_ble_eq_true rfl) (fun p_ e_ s_ m_ below meth c_ ls A_ CX hrr hlk hin hW hA hE hB hl => ?_)
  obtain ⟨hx, hb, hml, hown, hts⟩ := id CX
  have hl : lv_has ls 1 [(0, .ref o)] := hl
  have hW : wld G A_ [(o, .inr (3, [.null, .null, .null, .int (nI 0)]))] s_.heap s_.heap [] := hW
  refine lv_aload_n hx hb dX3_init_0 rfl (lv_at hl 0 rfl) ?_
  refine W.objInit hx hb hown (hts _ w_X3_init_oi0) (hts _ w_X3_init_oi1) (hts _ w_X3_init_oi2) rfl (by rw [hml]; exact hl.1) rfl dX3_init_1 (Nat.le_of_ble_eq_true rfl) (Nat.le_of_ble_eq_true rfl) ?_
  refine W.eq (g2 := F0 m_ 4 ls []) rfl ?_
  refine lv_aload_n hx hb dX3_init_4 rfl (lv_at hl 0 rfl) ?_
  refine rn_iconst hx hb 3 rfl dX3_init_5 ?_
  refine rn_newI (n := 3) hx hb (hts _ w_X3_init_acI) hE hW hA (by decide) (Nat.le_of_ble_eq_true rfl) (Nat.le_of_ble_eq_true rfl) dX3_init_6 (fun q1 H hW => ?_)
  have hW : wld G A_ [(o, .inr (3, [.null, .null, .null, .int (nI 0)])), (q1, .inl (cA 0, 3, .inl (fun _ => nI 0)))] s_.heap _ _ := hW
  refine rpF (T := TX3) (N := 4) (ws' := [(o, .inr (3, [.ref q1, .null, .null, .int (nI 0)])), (q1, .inl (cA 0, 3, .inl (fun _ => nI 0)))]) CX hE hin hW in_X3_init_X3 tyX3 tyX3_ok nmX3 0 rfl rfl 0 (by decide) fl_X3_init_9 rfl rfl rfl rfl rfl (Nat.le_of_ble_eq_true rfl) rfl dX3_init_8 (fun H locs hW => ?_)
  refine lv_aload_n hx hb dX3_init_11 rfl (lv_at hl 0 rfl) ?_
  refine rn_iconst hx hb 3 rfl dX3_init_12 ?_
  refine rn_newI (n := 3) hx hb (hts _ w_X3_init_acI) hE hW hA (by decide) (Nat.le_of_ble_eq_true rfl) (Nat.le_of_ble_eq_true rfl) dX3_init_13 (fun q2 H hW => ?_)
  have hW : wld G A_ [(o, .inr (3, [.ref q1, .null, .null, .int (nI 0)])), (q1, .inl (cA 0, 3, .inl (fun _ => nI 0))), (q2, .inl (cA 0, 3, .inl (fun _ => nI 0)))] s_.heap _ _ := hW
  refine rpF (T := TX3) (N := 4) (ws' := [(o, .inr (3, [.ref q1, .ref q2, .null, .int (nI 0)])), (q1, .inl (cA 0, 3, .inl (fun _ => nI 0))), (q2, .inl (cA 0, 3, .inl (fun _ => nI 0)))]) CX hE hin hW in_X3_init_X3 tyX3 tyX3_ok nmX3 0 rfl rfl 1 (by decide) fl_X3_init_15 rfl rfl rfl rfl rfl (Nat.le_of_ble_eq_true rfl) rfl dX3_init_15 (fun H locs hW => ?_)
  refine lv_aload_n hx hb dX3_init_18 rfl (lv_at hl 0 rfl) ?_
  refine rn_iconst hx hb 3 rfl dX3_init_19 ?_
  refine lv_bipush (v := (nI 24)) hx hb dX3_init_20 kb_24 ?_
  refine rn_mna CX hE hW hA w_X3_init_cl18 w_X3_init_acI hB.2.2.2.1 (Nat.le_of_ble_eq_true rfl) (Nat.le_of_ble_eq_true rfl) dX3_init_22 (fun q3 r_ H hW => ?_)
  have hW : wld G A_ [(o, .inr (3, [.ref q1, .ref q2, .null, .int (nI 0)])), (q1, .inl (cA 0, 3, .inl (fun _ => nI 0))), (q2, .inl (cA 0, 3, .inl (fun _ => nI 0))), (q3, .inl (cA 4, 3, .inr (.inr (.inr (.inr (row3 (r_ 0) (r_ 1) (r_ 2))))))), ((r_ 0), .inl (cA 0, 24, .inl (fun _ => nI 0))), ((r_ 1), .inl (cA 0, 24, .inl (fun _ => nI 0))), ((r_ 2), .inl (cA 0, 24, .inl (fun _ => nI 0)))] s_.heap _ _ := hW.re 3 rfl (va_cell_extq (row3_of r_)) rfl
  refine rpF (T := TX3) (N := 4) (ws' := [(o, .inr (3, [.ref q1, .ref q2, .ref q3, .int (nI 0)])), (q1, .inl (cA 0, 3, .inl (fun _ => nI 0))), (q2, .inl (cA 0, 3, .inl (fun _ => nI 0))), (q3, .inl (cA 4, 3, .inr (.inr (.inr (.inr (row3 (r_ 0) (r_ 1) (r_ 2))))))), ((r_ 0), .inl (cA 0, 24, .inl (fun _ => nI 0))), ((r_ 1), .inl (cA 0, 24, .inl (fun _ => nI 0))), ((r_ 2), .inl (cA 0, 24, .inl (fun _ => nI 0)))]) CX hE hin hW in_X3_init_X3 tyX3 tyX3_ok nmX3 0 rfl rfl 2 (by decide) fl_X3_init_20 rfl rfl rfl rfl rfl (Nat.le_of_ble_eq_true rfl) rfl dX3_init_26 (fun H locs hW => ?_)
  refine lv_aload_n hx hb dX3_init_29 rfl (lv_at hl 0 rfl) ?_
  refine rn_iconst hx hb 0 rfl dX3_init_30 ?_
  refine rp (T := TX3) (N := 4) (ws' := [(o, .inr (3, [.ref q1, .ref q2, .ref q3, .int (nI 0)])), (q1, .inl (cA 0, 3, .inl (fun _ => nI 0))), (q2, .inl (cA 0, 3, .inl (fun _ => nI 0))), (q3, .inl (cA 4, 3, .inr (.inr (.inr (.inr (row3 (r_ 0) (r_ 1) (r_ 2))))))), ((r_ 0), .inl (cA 0, 24, .inl (fun _ => nI 0))), ((r_ 1), .inl (cA 0, 24, .inl (fun _ => nI 0))), ((r_ 2), .inl (cA 0, 24, .inl (fun _ => nI 0)))]) CX hE hW in_X3_init_X3 tyX3 tyX3_ok nmX3 0 rfl rfl 3 (by decide) fl_X3_init_23 rfl rfl rfl rfl (Nat.le_of_ble_eq_true rfl) rfl dX3_init_31 (fun H locs hW => ?_)
  exact mk_ret CX hrr hlk (fun k_ => match k_ with | 0 => q1 | 1 => q2 | 2 => q3 | 3 => r_ 0 | 4 => r_ 1 | _ => r_ 2) hW dX3_init_34
theorem w_X4_init_oi0 : Cond.methodLink RX4 3 objectInit ∈ wsX4_init := by decide +kernel
theorem w_X4_init_oi1 : Cond.instanceMethod objectInit ∈ wsX4_init := by decide +kernel
theorem w_X4_init_oi2 : Cond.code objectInit ⟨#[0xb1]⟩ 1 none ∈ wsX4_init := by decide +kernel
theorem nst_X4_9 : Cond.fieldLinkNest RX4 9 RX5 "FIRST_SETTINGS" "[I" RX5 ∈ nestW := by decide +kernel
theorem w_X4_init_cn0 : Cond.methodLink RX4 13 ⟨"[I", "clone", "()Ljava/lang/Object;"⟩ ∈ wsX4_init := by decide +kernel
theorem w_X4_init_cn1 : Cond.sameMethod "[I" "java/lang/Object" "clone" "()Ljava/lang/Object;" ∈ wsX4_init := by decide +kernel
theorem w_X4_init_cn2 : Cond.native ⟨"java/lang/Object", "clone", "()Ljava/lang/Object;"⟩ ∈ wsX4_init := by decide +kernel
theorem w_X4_init_cn3 : Cond.instanceMethod ⟨"java/lang/Object", "clone", "()Ljava/lang/Object;"⟩ ∈ wsX4_init := by decide +kernel
theorem w_X4_init_cn4 : Cond.selects "[I" ⟨"[I", "clone", "()Ljava/lang/Object;"⟩ ⟨"java/lang/Object", "clone", "()Ljava/lang/Object;"⟩ ∈ wsX4_init := by decide +kernel
theorem w_X4_init_ncl14 : Cond.classLink RX4 14 "[I" ∈ wsX4_init := by decide +kernel
theorem fl_X4_init_18 : Cond.fieldLink RX4 18 RX4 (TX4 0).2.1 (TX4 0).2.2.1 ∈ wsX4_init := by decide +kernel
theorem in_X4_init_X4 : ∀ w ∈ wsX40, w ∈ wsX4_init := by decide +kernel
theorem w_X4_init_acI : Cond.arrayClass .int ∈ wsX4_init := by decide +kernel
theorem fl_X4_init_23 : Cond.fieldLink RX4 23 RX4 (TX4 1).2.1 (TX4 1).2.2.1 ∈ wsX4_init := by decide +kernel
theorem fl_X4_init_26 : Cond.fieldLink RX4 26 RX4 (TX4 2).2.1 (TX4 2).2.2.1 ∈ wsX4_init := by decide +kernel
theorem fl_X4_init_29 : Cond.fieldLink RX4 29 RX4 (TX4 3).2.1 (TX4 3).2.2.1 ∈ wsX4_init := by decide +kernel
theorem fl_X4_init_32 : Cond.fieldLink RX4 32 RX4 (TX4 4).2.1 (TX4 4).2.2.1 ∈ wsX4_init := by decide +kernel
theorem dfs_X0 : ∀ j, j < 5 → defaultValue (tyX0 j) = vp_V [.null, .null, .null, .null, .int (nI 0)] j
  | 0, _ => rfl
  | 1, _ => rfl
  | 2, _ => rfl
  | 3, _ => rfl
  | 4, _ => rfl
  | j + 5, h => absurd h (by omega)
theorem in_X4_init_X0 : ∀ w ∈ wsX00, w ∈ wsX4_init := by decide +kernel
theorem w_X4_init_ncl35 : Cond.classLink RX4 35 RX0 ∈ wsX4_init := by decide +kernel
theorem w_X4_init_ninX0 : Cond.instantiable RX0 5 ∈ wsX4_init := by decide +kernel
theorem w_X4_init_ini_X0 : Cond.initialized RX0 ∈ wsX4_init := by decide +kernel
theorem hdi_X0_init : yX0_init.cls ≠ "java/lang/invoke/MethodHandle" ∧ yX0_init.cls ≠ "java/lang/invoke/VarHandle" ∧ (parseMethodDescriptor yX0_init.desc).map (fun d => d.parameters.length) = some 0 := by decide +kernel
theorem w_X4_init_im_X0_init : Cond.instanceMethod yX0_init ∈ wsX4_init := by decide +kernel
theorem nst_X4_37 : Cond.methodLinkNest RX4 37 yX0_init RX5 ∈ nestW := by decide +kernel
theorem fl_X4_init_38 : Cond.fieldLink RX4 38 RX4 (TX4 5).2.1 (TX4 5).2.2.1 ∈ wsX4_init := by decide +kernel
theorem dfs_X3 : ∀ j, j < 4 → defaultValue (tyX3 j) = vp_V [.null, .null, .null, .int (nI 0)] j
  | 0, _ => rfl
  | 1, _ => rfl
  | 2, _ => rfl
  | 3, _ => rfl
  | j + 4, h => absurd h (by omega)
theorem in_X4_init_X3 : ∀ w ∈ wsX30, w ∈ wsX4_init := by decide +kernel
theorem w_X4_init_ncl42 : Cond.classLink RX4 42 RX3 ∈ wsX4_init := by decide +kernel
theorem w_X4_init_ninX3 : Cond.instantiable RX3 4 ∈ wsX4_init := by decide +kernel
theorem w_X4_init_ini_X3 : Cond.initialized RX3 ∈ wsX4_init := by decide +kernel
theorem hdi_X3_init : yX3_init.cls ≠ "java/lang/invoke/MethodHandle" ∧ yX3_init.cls ≠ "java/lang/invoke/VarHandle" ∧ (parseMethodDescriptor yX3_init.desc).map (fun d => d.parameters.length) = some 0 := by decide +kernel
theorem w_X4_init_im_X3_init : Cond.instanceMethod yX3_init ∈ wsX4_init := by decide +kernel
theorem nst_X4_44 : Cond.methodLinkNest RX4 44 yX3_init RX5 ∈ nestW := by decide +kernel
theorem fl_X4_init_45 : Cond.fieldLink RX4 45 RX4 (TX4 6).2.1 (TX4 6).2.2.1 ∈ wsX4_init := by decide +kernel
theorem fl_X4_init_49 : Cond.fieldLink RX4 49 RX4 (TX4 7).2.1 (TX4 7).2.2.1 ∈ wsX4_init := by decide +kernel
theorem hdn_J7_fill_53178 : yJ7_fill_53178.cls ≠ "java/lang/invoke/MethodHandle" ∧ yJ7_fill_53178.cls ≠ "java/lang/invoke/VarHandle" ∧ (parseMethodDescriptor yJ7_fill_53178.desc).map (fun d => d.parameters.length) = some 2 := by decide +kernel
set_option maxHeartbeats 8000000 in
set_option maxRecDepth 100000 in
theorem c_X4_init (l : Launch) (G : va_G) (cA : Nat → ClassId) (t_ : Nat) (o : Nat) : MK l yX4_init wsX4_init ({ frames := 2, cells := 17, slots := 354, locals := 32 }) G cA (FSM t_) [(o, .inr (4, [.null, .null, .null, .null, .null, .null, .null, .int (nI 0)]))] [.ref o] (fun u => tkW cA (consN o u) T0) 17 354 := by
  refine MK.mk (own := RX4) (by decide) rfl rfl (Nat.le_of_ble_eq_true rfl) (fun p_ e_ s_ m_ below meth c_ ls A_ CX hrr hlk hin hW hA hE hB hl => ?_)
  obtain ⟨hx, hb, hml, hown, hts⟩ := id CX
  have hl : lv_has ls 1 [(0, .ref o)] := hl
  have hW : wld G A_ [(o, .inr (4, [.null, .null, .null, .null, .null, .null, .null, .int (nI 0)]))] s_.heap s_.heap [] := hW
  refine lv_aload_n hx hb dX4_init_0 rfl (lv_at hl 0 rfl) ?_
  refine W.objInit hx hb hown (hts _ w_X4_init_oi0) (hts _ w_X4_init_oi1) (hts _ w_X4_init_oi2) rfl (by rw [hml]; exact hl.1) rfl dX4_init_1 (Nat.le_of_ble_eq_true rfl) (Nat.le_of_ble_eq_true rfl) ?_
  refine W.eq (g2 := F0 m_ 4 ls []) rfl ?_
  refine lv_aload_n hx hb dX4_init_4 rfl (lv_at hl 0 rfl) ?_
  refine va_getsN hx hb hB.1 hW.2.2 hown (va_Nw.use rfl (hE.2 _ nst_X4_9)) (fun _ h => h) dX4_init_5 ?_
  refine rn_cloneF CX hE hW hA hB hl.1 w_X4_init_cn0 w_X4_init_cn1 w_X4_init_cn2 w_X4_init_cn3 w_X4_init_cn4 (Nat.le_of_ble_eq_true rfl) (Nat.le_of_ble_eq_true rfl) (Nat.le_of_ble_eq_true rfl) (Nat.le_of_ble_eq_true rfl) dX4_init_8 (fun q1 H hW => ?_)
  have hW : wld G A_ [(o, .inr (4, [.null, .null, .null, .null, .null, .null, .null, .int (nI 0)])), (q1, .inl (cA 0, 4, .inl firstF))] s_.heap _ _ := hW
  refine va_castA hx hb hown (hts _ w_X4_init_ncl14) hW.1 1 rfl hE.nmI dX4_init_11 ?_
  refine rpF (T := TX4) (N := 8) (ws' := [(o, .inr (4, [.ref q1, .null, .null, .null, .null, .null, .null, .int (nI 0)])), (q1, .inl (cA 0, 4, .inl firstF))]) CX hE hin hW in_X4_init_X4 tyX4 tyX4_ok nmX4 0 rfl rfl 0 (by decide) fl_X4_init_18 rfl rfl rfl rfl rfl (Nat.le_of_ble_eq_true rfl) rfl dX4_init_14 (fun H locs hW => ?_)
  refine lv_aload_n hx hb dX4_init_17 rfl (lv_at hl 0 rfl) ?_
  refine lv_bipush (v := (nI 60)) hx hb dX4_init_18 kb_60 ?_
  refine rn_newI (n := 60) hx hb (hts _ w_X4_init_acI) hE hW hA (by decide) (Nat.le_of_ble_eq_true rfl) (Nat.le_of_ble_eq_true rfl) dX4_init_20 (fun q2 H hW => ?_)
  have hW : wld G A_ [(o, .inr (4, [.ref q1, .null, .null, .null, .null, .null, .null, .int (nI 0)])), (q1, .inl (cA 0, 4, .inl firstF)), (q2, .inl (cA 0, 60, .inl (fun _ => nI 0)))] s_.heap _ _ := hW
  refine rpF (T := TX4) (N := 8) (ws' := [(o, .inr (4, [.ref q1, .ref q2, .null, .null, .null, .null, .null, .int (nI 0)])), (q1, .inl (cA 0, 4, .inl firstF)), (q2, .inl (cA 0, 60, .inl (fun _ => nI 0)))]) CX hE hin hW in_X4_init_X4 tyX4 tyX4_ok nmX4 0 rfl rfl 1 (by decide) fl_X4_init_23 rfl rfl rfl rfl rfl (Nat.le_of_ble_eq_true rfl) rfl dX4_init_22 (fun H locs hW => ?_)
  refine lv_aload_n hx hb dX4_init_25 rfl (lv_at hl 0 rfl) ?_
  refine lv_bipush (v := (nI 60)) hx hb dX4_init_26 kb_60 ?_
  refine rn_newI (n := 60) hx hb (hts _ w_X4_init_acI) hE hW hA (by decide) (Nat.le_of_ble_eq_true rfl) (Nat.le_of_ble_eq_true rfl) dX4_init_28 (fun q3 H hW => ?_)
  have hW : wld G A_ [(o, .inr (4, [.ref q1, .ref q2, .null, .null, .null, .null, .null, .int (nI 0)])), (q1, .inl (cA 0, 4, .inl firstF)), (q2, .inl (cA 0, 60, .inl (fun _ => nI 0))), (q3, .inl (cA 0, 60, .inl (fun _ => nI 0)))] s_.heap _ _ := hW
  refine rp (T := TX4) (N := 8) (ws' := [(o, .inr (4, [.ref q1, .ref q2, .ref q3, .null, .null, .null, .null, .int (nI 0)])), (q1, .inl (cA 0, 4, .inl firstF)), (q2, .inl (cA 0, 60, .inl (fun _ => nI 0))), (q3, .inl (cA 0, 60, .inl (fun _ => nI 0)))]) CX hE hW in_X4_init_X4 tyX4 tyX4_ok nmX4 0 rfl rfl 2 (by decide) fl_X4_init_26 rfl rfl rfl rfl (Nat.le_of_ble_eq_true rfl) rfl dX4_init_30 (fun H locs hW => ?_)
  refine lv_aload_n hx hb dX4_init_33 rfl (lv_at hl 0 rfl) ?_
  refine lv_bipush (v := (nI 60)) hx hb dX4_init_34 kb_60 ?_
  refine rn_newI (n := 60) hx hb (hts _ w_X4_init_acI) hE hW hA (by decide) (Nat.le_of_ble_eq_true rfl) (Nat.le_of_ble_eq_true rfl) dX4_init_36 (fun q4 H hW => ?_)
  have hW : wld G A_ [(o, .inr (4, [.ref q1, .ref q2, .ref q3, .null, .null, .null, .null, .int (nI 0)])), (q1, .inl (cA 0, 4, .inl firstF)), (q2, .inl (cA 0, 60, .inl (fun _ => nI 0))), (q3, .inl (cA 0, 60, .inl (fun _ => nI 0))), (q4, .inl (cA 0, 60, .inl (fun _ => nI 0)))] s_.heap _ _ := hW
  refine rp (T := TX4) (N := 8) (ws' := [(o, .inr (4, [.ref q1, .ref q2, .ref q3, .ref q4, .null, .null, .null, .int (nI 0)])), (q1, .inl (cA 0, 4, .inl firstF)), (q2, .inl (cA 0, 60, .inl (fun _ => nI 0))), (q3, .inl (cA 0, 60, .inl (fun _ => nI 0))), (q4, .inl (cA 0, 60, .inl (fun _ => nI 0)))]) CX hE hW in_X4_init_X4 tyX4 tyX4_ok nmX4 0 rfl rfl 3 (by decide) fl_X4_init_29 rfl rfl rfl rfl (Nat.le_of_ble_eq_true rfl) rfl dX4_init_38 (fun H locs hW => ?_)
  refine lv_aload_n hx hb dX4_init_41 rfl (lv_at hl 0 rfl) ?_
  refine lv_bipush (v := (nI 60)) hx hb dX4_init_42 kb_60 ?_
  refine rn_newI (n := 60) hx hb (hts _ w_X4_init_acI) hE hW hA (by decide) (Nat.le_of_ble_eq_true rfl) (Nat.le_of_ble_eq_true rfl) dX4_init_44 (fun q5 H hW => ?_)
  have hW : wld G A_ [(o, .inr (4, [.ref q1, .ref q2, .ref q3, .ref q4, .null, .null, .null, .int (nI 0)])), (q1, .inl (cA 0, 4, .inl firstF)), (q2, .inl (cA 0, 60, .inl (fun _ => nI 0))), (q3, .inl (cA 0, 60, .inl (fun _ => nI 0))), (q4, .inl (cA 0, 60, .inl (fun _ => nI 0))), (q5, .inl (cA 0, 60, .inl (fun _ => nI 0)))] s_.heap _ _ := hW
  refine rpF (T := TX4) (N := 8) (ws' := [(o, .inr (4, [.ref q1, .ref q2, .ref q3, .ref q4, .ref q5, .null, .null, .int (nI 0)])), (q1, .inl (cA 0, 4, .inl firstF)), (q2, .inl (cA 0, 60, .inl (fun _ => nI 0))), (q3, .inl (cA 0, 60, .inl (fun _ => nI 0))), (q4, .inl (cA 0, 60, .inl (fun _ => nI 0))), (q5, .inl (cA 0, 60, .inl (fun _ => nI 0)))]) CX hE hin hW in_X4_init_X4 tyX4 tyX4_ok nmX4 0 rfl rfl 4 (by decide) fl_X4_init_32 rfl rfl rfl rfl rfl (Nat.le_of_ble_eq_true rfl) rfl dX4_init_46 (fun H locs hW => ?_)
  refine lv_aload_n hx hb dX4_init_49 rfl (lv_at hl 0 rfl) ?_
  refine rn_new (C := RX0) (T := TX0) (N := 5) (ci := 0) (fs := [.null, .null, .null, .null, .int (nI 0)]) CX hE hW hA in_X4_init_X0 tyX0 tyX0_ok w_X4_init_ncl35 w_X4_init_ninX0 w_X4_init_ini_X0 rfl dfs_X0 (Nat.le_of_ble_eq_true rfl) (Nat.le_of_ble_eq_true rfl) dX4_init_50 (fun q6 H hW => ?_)
  refine lv_dup hx hb dX4_init_53 rfl ?_
  refine mkIN (rest := [.ref q6, .ref o]) CX hE hW hA (c_X0_init l G cA q6) ⟨va_cnB 0 hts gX4_init_X0_init_n37 rfl rfl rfl (hE.2 _ nst_X4_37) (hts _ w_X4_init_ini_X0) hdi_X0_init ⟨Nat.le_of_ble_eq_true rfl, Nat.le_of_ble_eq_true rfl⟩, rfl, hts _ w_X4_init_im_X0_init⟩ BM0_blind (fun _ _ _ _ => trivial) hl.1 rfl (Nat.le_of_ble_eq_true rfl) dX4_init_54 ⟨Nat.le_of_ble_eq_true rfl, Nat.le_of_ble_eq_true rfl⟩ (fun u1 H locs hW => ?_)
  have hW : wld G A_ [(o, .inr (4, [.ref q1, .ref q2, .ref q3, .ref q4, .ref q5, .null, .null, .int (nI 0)])), (q1, .inl (cA 0, 4, .inl firstF)), (q2, .inl (cA 0, 60, .inl (fun _ => nI 0))), (q3, .inl (cA 0, 60, .inl (fun _ => nI 0))), (q4, .inl (cA 0, 60, .inl (fun _ => nI 0))), (q5, .inl (cA 0, 60, .inl (fun _ => nI 0))), (q6, .inr (0, [.ref (u1 0), .ref (u1 1), .ref (u1 2), .ref (u1 3), .int (nI 0)])), ((u1 0), .inl (cA 0, 5, .inl (fun _ => nI 0))), ((u1 1), .inl (cA 0, 5, .inl (fun _ => nI 0))), ((u1 2), .inl (cA 0, 5, .inl (fun _ => nI 0))), ((u1 3), .inl (cA 0, 5, .inl (fun _ => nI 0)))] s_.heap _ _ := hW
  refine rpF (T := TX4) (N := 8) (ws' := [(o, .inr (4, [.ref q1, .ref q2, .ref q3, .ref q4, .ref q5, .ref q6, .null, .int (nI 0)])), (q1, .inl (cA 0, 4, .inl firstF)), (q2, .inl (cA 0, 60, .inl (fun _ => nI 0))), (q3, .inl (cA 0, 60, .inl (fun _ => nI 0))), (q4, .inl (cA 0, 60, .inl (fun _ => nI 0))), (q5, .inl (cA 0, 60, .inl (fun _ => nI 0))), (q6, .inr (0, [.ref (u1 0), .ref (u1 1), .ref (u1 2), .ref (u1 3), .int (nI 0)])), ((u1 0), .inl (cA 0, 5, .inl (fun _ => nI 0))), ((u1 1), .inl (cA 0, 5, .inl (fun _ => nI 0))), ((u1 2), .inl (cA 0, 5, .inl (fun _ => nI 0))), ((u1 3), .inl (cA 0, 5, .inl (fun _ => nI 0)))]) CX hE hin hW in_X4_init_X4 tyX4 tyX4_ok nmX4 0 rfl rfl 5 (by decide) fl_X4_init_38 rfl rfl rfl rfl rfl (Nat.le_of_ble_eq_true rfl) rfl dX4_init_57 (fun H locs hW => ?_)
  refine lv_aload_n hx hb dX4_init_60 rfl (lv_at hl 0 rfl) ?_
  refine rn_new (C := RX3) (T := TX3) (N := 4) (ci := 3) (fs := [.null, .null, .null, .int (nI 0)]) CX hE hW hA in_X4_init_X3 tyX3 tyX3_ok w_X4_init_ncl42 w_X4_init_ninX3 w_X4_init_ini_X3 rfl dfs_X3 (Nat.le_of_ble_eq_true rfl) (Nat.le_of_ble_eq_true rfl) dX4_init_61 (fun q7 H hW => ?_)
  refine lv_dup hx hb dX4_init_64 rfl ?_
  refine mkIN (rest := [.ref q7, .ref o]) CX hE hW hA (c_X3_init l G cA t_ q7) ⟨va_cnB 0 hts gX4_init_X3_init_n44 rfl rfl rfl (hE.2 _ nst_X4_44) (hts _ w_X4_init_ini_X3) hdi_X3_init ⟨Nat.le_of_ble_eq_true rfl, Nat.le_of_ble_eq_true rfl⟩, rfl, hts _ w_X4_init_im_X3_init⟩ (FSM_blind t_) (fun U hU hWm hq => hB.sub hW.2.2 hU hWm hq) hl.1 rfl (Nat.le_of_ble_eq_true rfl) dX4_init_65 ⟨Nat.le_of_ble_eq_true rfl, Nat.le_of_ble_eq_true rfl⟩ (fun u2 H locs hW => ?_)
  have hW : wld G A_ [(o, .inr (4, [.ref q1, .ref q2, .ref q3, .ref q4, .ref q5, .ref q6, .null, .int (nI 0)])), (q1, .inl (cA 0, 4, .inl firstF)), (q2, .inl (cA 0, 60, .inl (fun _ => nI 0))), (q3, .inl (cA 0, 60, .inl (fun _ => nI 0))), (q4, .inl (cA 0, 60, .inl (fun _ => nI 0))), (q5, .inl (cA 0, 60, .inl (fun _ => nI 0))), (q6, .inr (0, [.ref (u1 0), .ref (u1 1), .ref (u1 2), .ref (u1 3), .int (nI 0)])), ((u1 0), .inl (cA 0, 5, .inl (fun _ => nI 0))), ((u1 1), .inl (cA 0, 5, .inl (fun _ => nI 0))), ((u1 2), .inl (cA 0, 5, .inl (fun _ => nI 0))), ((u1 3), .inl (cA 0, 5, .inl (fun _ => nI 0))), (q7, .inr (3, [.ref (u2 0), .ref (u2 1), .ref (u2 2), .int (nI 0)])), ((u2 0), .inl (cA 0, 3, .inl (fun _ => nI 0))), ((u2 1), .inl (cA 0, 3, .inl (fun _ => nI 0))), ((u2 2), .inl (cA 4, 3, .inr (.inr (.inr (.inr (row3 (u2 3) (u2 4) (u2 5))))))), ((u2 3), .inl (cA 0, 24, .inl (fun _ => nI 0))), ((u2 4), .inl (cA 0, 24, .inl (fun _ => nI 0))), ((u2 5), .inl (cA 0, 24, .inl (fun _ => nI 0)))] s_.heap _ _ := hW
  refine rpF (T := TX4) (N := 8) (ws' := [(o, .inr (4, [.ref q1, .ref q2, .ref q3, .ref q4, .ref q5, .ref q6, .ref q7, .int (nI 0)])), (q1, .inl (cA 0, 4, .inl firstF)), (q2, .inl (cA 0, 60, .inl (fun _ => nI 0))), (q3, .inl (cA 0, 60, .inl (fun _ => nI 0))), (q4, .inl (cA 0, 60, .inl (fun _ => nI 0))), (q5, .inl (cA 0, 60, .inl (fun _ => nI 0))), (q6, .inr (0, [.ref (u1 0), .ref (u1 1), .ref (u1 2), .ref (u1 3), .int (nI 0)])), ((u1 0), .inl (cA 0, 5, .inl (fun _ => nI 0))), ((u1 1), .inl (cA 0, 5, .inl (fun _ => nI 0))), ((u1 2), .inl (cA 0, 5, .inl (fun _ => nI 0))), ((u1 3), .inl (cA 0, 5, .inl (fun _ => nI 0))), (q7, .inr (3, [.ref (u2 0), .ref (u2 1), .ref (u2 2), .int (nI 0)])), ((u2 0), .inl (cA 0, 3, .inl (fun _ => nI 0))), ((u2 1), .inl (cA 0, 3, .inl (fun _ => nI 0))), ((u2 2), .inl (cA 4, 3, .inr (.inr (.inr (.inr (row3 (u2 3) (u2 4) (u2 5))))))), ((u2 3), .inl (cA 0, 24, .inl (fun _ => nI 0))), ((u2 4), .inl (cA 0, 24, .inl (fun _ => nI 0))), ((u2 5), .inl (cA 0, 24, .inl (fun _ => nI 0)))]) CX hE hin hW in_X4_init_X4 tyX4 tyX4_ok nmX4 0 rfl rfl 6 (by decide) fl_X4_init_45 rfl rfl rfl rfl rfl (Nat.le_of_ble_eq_true rfl) rfl dX4_init_68 (fun H locs hW => ?_)
  refine lv_aload_n hx hb dX4_init_71 rfl (lv_at hl 0 rfl) ?_
  refine rn_iconst hx hb 0 rfl dX4_init_72 ?_
  refine rp (T := TX4) (N := 8) (ws' := [(o, .inr (4, [.ref q1, .ref q2, .ref q3, .ref q4, .ref q5, .ref q6, .ref q7, .int (nI 0)])), (q1, .inl (cA 0, 4, .inl firstF)), (q2, .inl (cA 0, 60, .inl (fun _ => nI 0))), (q3, .inl (cA 0, 60, .inl (fun _ => nI 0))), (q4, .inl (cA 0, 60, .inl (fun _ => nI 0))), (q5, .inl (cA 0, 60, .inl (fun _ => nI 0))), (q6, .inr (0, [.ref (u1 0), .ref (u1 1), .ref (u1 2), .ref (u1 3), .int (nI 0)])), ((u1 0), .inl (cA 0, 5, .inl (fun _ => nI 0))), ((u1 1), .inl (cA 0, 5, .inl (fun _ => nI 0))), ((u1 2), .inl (cA 0, 5, .inl (fun _ => nI 0))), ((u1 3), .inl (cA 0, 5, .inl (fun _ => nI 0))), (q7, .inr (3, [.ref (u2 0), .ref (u2 1), .ref (u2 2), .int (nI 0)])), ((u2 0), .inl (cA 0, 3, .inl (fun _ => nI 0))), ((u2 1), .inl (cA 0, 3, .inl (fun _ => nI 0))), ((u2 2), .inl (cA 4, 3, .inr (.inr (.inr (.inr (row3 (u2 3) (u2 4) (u2 5))))))), ((u2 3), .inl (cA 0, 24, .inl (fun _ => nI 0))), ((u2 4), .inl (cA 0, 24, .inl (fun _ => nI 0))), ((u2 5), .inl (cA 0, 24, .inl (fun _ => nI 0)))]) CX hE hW in_X4_init_X4 tyX4 tyX4_ok nmX4 0 rfl rfl 7 (by decide) fl_X4_init_49 rfl rfl rfl rfl (Nat.le_of_ble_eq_true rfl) rfl dX4_init_73 (fun H locs hW => ?_)
  refine lv_aload_n hx hb dX4_init_76 rfl (lv_at hl 0 rfl) ?_
  refine rg (T := TX4) (N := 8) CX hE hW.1 in_X4_init_X4 0 rfl rfl 4 (by decide) fl_X4_init_32 rfl rfl dX4_init_77 ?_
  refine lv_bipush (v := (-6)) hx hb dX4_init_80 kb_m6 ?_
  refine muvS (ws' := [(o, .inr (4, [.ref q1, .ref q2, .ref q3, .ref q4, .ref q5, .ref q6, .ref q7, .int (nI 0)])), (q1, .inl (cA 0, 4, .inl firstF)), (q2, .inl (cA 0, 60, .inl (fun _ => nI 0))), (q3, .inl (cA 0, 60, .inl (fun _ => nI 0))), (q4, .inl (cA 0, 60, .inl (fun _ => nI 0))), (q5, .inl (cA 0, 60, .inl (fun _ => (-6)))), (q6, .inr (0, [.ref (u1 0), .ref (u1 1), .ref (u1 2), .ref (u1 3), .int (nI 0)])), ((u1 0), .inl (cA 0, 5, .inl (fun _ => nI 0))), ((u1 1), .inl (cA 0, 5, .inl (fun _ => nI 0))), ((u1 2), .inl (cA 0, 5, .inl (fun _ => nI 0))), ((u1 3), .inl (cA 0, 5, .inl (fun _ => nI 0))), (q7, .inr (3, [.ref (u2 0), .ref (u2 1), .ref (u2 2), .int (nI 0)])), ((u2 0), .inl (cA 0, 3, .inl (fun _ => nI 0))), ((u2 1), .inl (cA 0, 3, .inl (fun _ => nI 0))), ((u2 2), .inl (cA 4, 3, .inr (.inr (.inr (.inr (row3 (u2 3) (u2 4) (u2 5))))))), ((u2 3), .inl (cA 0, 24, .inl (fun _ => nI 0))), ((u2 4), .inl (cA 0, 24, .inl (fun _ => nI 0))), ((u2 5), .inl (cA 0, 24, .inl (fun _ => nI 0)))]) CX hE hW hA (c_J7_fill_53178 l G cA q5 60 (fun _ => nI 0) (-6) (by decide)) (va_cwS 2 hts gX4_init_J7_fill_53178 rfl rfl rfl hdn_J7_fill_53178 ⟨Nat.le_of_ble_eq_true rfl, Nat.le_of_ble_eq_true rfl⟩) [5] (by decide) rfl rfl rfl BM0_blind (fun _ _ _ _ => trivial) rfl hl.1 (rest := []) rfl (Nat.le_of_ble_eq_true rfl) dX4_init_82 ⟨Nat.le_of_ble_eq_true rfl, Nat.le_of_ble_eq_true rfl⟩ (fun H locs hW => ?_)
  exact mk_ret CX hrr hlk (fun k_ => match k_ with | 0 => q1 | 1 => q2 | 2 => q3 | 3 => q4 | 4 => q5 | 5 => q6 | 6 => u1 0 | 7 => u1 1 | 8 => u1 2 | 9 => u1 3 | 10 => q7 | 11 => u2 0 | 12 => u2 1 | 13 => u2 2 | 14 => u2 3 | 15 => u2 4 | _ => u2 5) hW dX4_init_85
