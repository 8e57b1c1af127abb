/-! Constructors that make tanks. -/
theorem w_X1_init_oi0 : Cond.methodLink RX1 3 objectInit ∈ wsX1_init := by decide +kernel
theorem w_X1_init_oi1 : Cond.instanceMethod objectInit ∈ wsX1_init := by decide +kernel
theorem w_X1_init_oi2 : Cond.code objectInit ⟨#[0xb1]⟩ 1 none ∈ wsX1_init := by decide +kernel
theorem w_X1_init_cl9 : Cond.classLink RX1 9 "DippedWaves$Tank" ∈ wsX1_init := by decide +kernel
theorem fl_X1_init_11 : Cond.fieldLink RX1 11 RX1 (TX1 0).2.1 (TX1 0).2.2.1 ∈ wsX1_init := by decide +kernel
theorem in_X1_init_X1 : ∀ w ∈ wsX10, w ∈ wsX1_init := by decide +kernel
theorem fl_X1_init_17 : Cond.fieldLink RX1 17 RX1 (TX1 1).2.1 (TX1 1).2.2.1 ∈ wsX1_init := by decide +kernel
theorem dfs_X4 : ∀ j, j < 8 → defaultValue (tyX4 j) = vp_V [.null, .null, .null, .null, .null, .null, .null, .int (nI 0)] j
  | 0, _ => rfl
  | 1, _ => rfl
  | 2, _ => rfl
  | 3, _ => rfl
  | 4, _ => rfl
  | 5, _ => rfl
  | 6, _ => rfl
  | 7, _ => rfl
  | j + 8, h => absurd h (by omega)
theorem in_X1_init_X4 : ∀ w ∈ wsX40, w ∈ wsX1_init := by decide +kernel
theorem w_X1_init_ncl9 : Cond.classLink RX1 9 RX4 ∈ wsX1_init := by decide +kernel
theorem w_X1_init_ninX4 : Cond.instantiable RX4 8 ∈ wsX1_init := by decide +kernel
theorem w_X1_init_ini_X4 : Cond.initialized RX4 ∈ wsX1_init := by decide +kernel
theorem hdi_X4_init : yX4_init.cls ≠ "java/lang/invoke/MethodHandle" ∧ yX4_init.cls ≠ "java/lang/invoke/VarHandle" ∧ (parseMethodDescriptor yX4_init.desc).map (fun d => d.parameters.length) = some 0 := by decide +kernel
theorem w_X1_init_im_X4_init : Cond.instanceMethod yX4_init ∈ wsX1_init := by decide +kernel
theorem w_X1_init_ml21 : Cond.methodLink RX1 21 yX4_init ∈ wsX1_init := by decide +kernel
set_option maxHeartbeats 8000000 in
set_option maxRecDepth 100000 in
theorem c_X1_init (l : Launch) (G : va_G) (cA : Nat → ClassId) (t_ : Nat) (o : Nat) : MK l yX1_init wsX1_init ({ frames := 3, cells := 109, slots := 2178, locals := 52 }) G cA (FSM t_) [(o, .inr (1, [.null, .int (nI 0)]))] [.ref o] (fun u => ([[(o, .inr (1, [.ref (prt u 0 0), .int (nI 0)])), (prt u 0 0, .inl (cA 3, 6, .inr (.inr (.inr (.inr (stR (fun k => prt u (1 + k))))))))], tkW cA (prt u 1) T0, tkW cA (prt u 2) T0, tkW cA (prt u 3) T0, tkW cA (prt u 4) T0, tkW cA (prt u 5) T0, tkW cA (prt u 6) T0] : List va_W).flatten) 109 2178 := by
  refine MK.mk (own := RX1) (by decide) rfl rfl (Nat.le_of_ble_eq_true rfl) (fun p_ e_ s_ m_ below meth c_ ls A_ CX hrr hlk hin hW hA hE hB hl => ?_)
  obtain ⟨hx, hb, hml, hown, hts⟩ := id CX
  have hl : lv_has ls 2 [(0, .ref o)] := hl
  have hW : wldS G A_ [[(o, .inr (1, [.null, .int (nI 0)]))]] s_.heap s_.heap [] := wldS.of hW
  refine lv_aload_n hx hb dX1_init_0 rfl (lv_at hl 0 rfl) ?_
  refine W.objInit hx hb hown (hts _ w_X1_init_oi0) (hts _ w_X1_init_oi1) (hts _ w_X1_init_oi2) rfl (by rw [hml]; exact hl.1) rfl dX1_init_1 (Nat.le_of_ble_eq_true rfl) (Nat.le_of_ble_eq_true rfl) ?_
  refine W.eq (g2 := F0 m_ 4 ls []) rfl ?_
  refine lv_aload_n hx hb dX1_init_4 rfl (lv_at hl 0 rfl) ?_
  refine lv_bipush (v := (nI 6)) hx hb dX1_init_5 kb_6 ?_
  refine rn_newQ (n := 6) CX hE hW.flat hA w_X1_init_cl9 hB.2.2.1 (by decide) (Nat.le_of_ble_eq_true rfl) (Nat.le_of_ble_eq_true rfl) dX1_init_7 (fun q1 H hW => ?_)
  have hW : wldS G A_ [[(o, .inr (1, [.null, .int (nI 0)]))], [(q1, .inl (cA 3, 6, .inr (.inr (.inr (.inr (fun _ => none))))))]] s_.heap _ _ := wldS.snoc hW
  refine rpFS (T := TX1) (N := 2) (w' := [(o, .inr (1, [.ref q1, .int (nI 0)]))]) (segs' := [[(o, .inr (1, [.ref q1, .int (nI 0)]))], [(q1, .inl (cA 3, 6, .inr (.inr (.inr (.inr (fun _ => none))))))]]) CX hE hin hW 0 rfl in_X1_init_X1 tyX1 tyX1_ok nmX1 0 rfl rfl 0 (by decide) fl_X1_init_11 rfl rfl rfl rfl rfl (Nat.le_of_ble_eq_true rfl) rfl rfl dX1_init_10 (fun H locs hW => ?_)
  refine lv_aload_n hx hb dX1_init_13 rfl (lv_at hl 0 rfl) ?_
  refine rn_iconst hx hb 0 rfl dX1_init_14 ?_
  refine rpS (T := TX1) (N := 2) (w' := [(o, .inr (1, [.ref q1, .int (nI 0)]))]) (segs' := [[(o, .inr (1, [.ref q1, .int (nI 0)]))], [(q1, .inl (cA 3, 6, .inr (.inr (.inr (.inr (fun _ => none))))))]]) CX hE hW 0 rfl in_X1_init_X1 tyX1 tyX1_ok nmX1 0 rfl rfl 1 (by decide) fl_X1_init_17 rfl rfl rfl rfl (Nat.le_of_ble_eq_true rfl) rfl rfl dX1_init_15 (fun H locs hW => ?_)
  refine rn_iconst hx hb 0 rfl dX1_init_18 ?_
  refine lv_istore_n (lv' := [(1, .int (nI 0)), (0, .ref o)]) hx hb dX1_init_19 rfl hl (by decide) rfl (fun ls hl => ?_)
  refine lv_iload_n hx hb dX1_init_20 rfl (lv_at hl 0 rfl) ?_
  refine lv_bipush (v := (nI 6)) hx hb dX1_init_21 kb_6 ?_
  refine rn_icmp_ge hx hb (by omega) (by omega) dX1_init_23 (by decide) (tgt := 45) (fun c_23 => ?_) (fun c_23 => ?_)
  · exact absurd c_23 (by omega)
  · refine lv_aload_n hx hb dX1_init_26 rfl (lv_at hl 1 rfl) ?_
    refine rg (T := TX1) (N := 2) CX hE (hW.hP 0 rfl) in_X1_init_X1 0 rfl rfl 0 (by decide) fl_X1_init_11 rfl rfl dX1_init_27 ?_
    refine lv_iload_n hx hb dX1_init_30 rfl (lv_at hl 0 rfl) ?_
    refine rn_new (C := RX4) (T := TX4) (N := 8) (ci := 4) (fs := [.null, .null, .null, .null, .null, .null, .null, .int (nI 0)]) CX hE hW.flat hA in_X1_init_X4 tyX4 tyX4_ok w_X1_init_ncl9 w_X1_init_ninX4 w_X1_init_ini_X4 rfl dfs_X4 (Nat.le_of_ble_eq_true rfl) (Nat.le_of_ble_eq_true rfl) dX1_init_31 (fun q2 H hW => ?_)
    refine lv_dup hx hb dX1_init_34 rfl ?_
    refine mkI (rest := [.ref q2, .int (nI 0), .ref q1]) CX hE hW hA (c_X4_init l G cA t_ q2) (cwI 0 hts gX1_init_X4_init rfl rfl rfl (hts _ w_X1_init_ini_X4) (hts _ w_X1_init_ml21) (hts _ w_X1_init_im_X4_init) rfl hdi_X4_init ⟨Nat.le_of_ble_eq_true rfl, Nat.le_of_ble_eq_true rfl⟩) (FSM_blind t_) (fun U hU hWm hq => hB.sub hW.2.2 hU hWm hq) hl.1 rfl (Nat.le_of_ble_eq_true rfl) dX1_init_35 ⟨Nat.le_of_ble_eq_true rfl, Nat.le_of_ble_eq_true rfl⟩ (fun u1 H locs hW => ?_)
    have hW : wldS G A_ [[(o, .inr (1, [.ref q1, .int (nI 0)]))], [(q1, .inl (cA 3, 6, .inr (.inr (.inr (.inr (fun _ => none))))))], tkW cA (consN q2 u1) T0] s_.heap _ _ := wldS.snoc hW
    refine rn_aast3S (w' := [(q1, .inl (cA 3, 6, .inr (.inr (.inr (.inr (va_up (fun _ => none) 0 (some q2)))))))]) (segs' := [[(o, .inr (1, [.ref q1, .int (nI 0)]))], [(q1, .inl (cA 3, 6, .inr (.inr (.inr (.inr (va_up (fun _ => none) 0 (some q2)))))))], tkW cA (consN q2 u1) T0]) CX hE hW 1 rfl 0 rfl 2 rfl 0 rfl (j := 0) (by omega) (ltb rfl) rfl rfl dX1_init_38 (fun H locs hW => ?_)
    refine rn_iinc hx hb (n := 1) (lv' := [(1, .int (nI 1)), (0, .ref o)]) rfl dX1_init_39 hl (k := 0) rfl (by decide) rfl (fun ls hl => ?_)
    refine lv_goto (tgt := 20) hx hb dX1_init_42 (by decide) ?_
    refine lv_iload_n hx hb dX1_init_20 rfl (lv_at hl 0 rfl) ?_
    refine lv_bipush (v := (nI 6)) hx hb dX1_init_21 kb_6 ?_
    refine rn_icmp_ge hx hb (by omega) (by omega) dX1_init_23 (by decide) (tgt := 45) (fun c_23 => ?_) (fun c_23 => ?_)
    · exact absurd c_23 (by omega)
    · refine lv_aload_n hx hb dX1_init_26 rfl (lv_at hl 1 rfl) ?_
      refine rg (T := TX1) (N := 2) CX hE (hW.hP 0 rfl) in_X1_init_X1 0 rfl rfl 0 (by decide) fl_X1_init_11 rfl rfl dX1_init_27 ?_
      refine lv_iload_n hx hb dX1_init_30 rfl (lv_at hl 0 rfl) ?_
      refine rn_new (C := RX4) (T := TX4) (N := 8) (ci := 4) (fs := [.null, .null, .null, .null, .null, .null, .null, .int (nI 0)]) CX hE hW.flat hA in_X1_init_X4 tyX4 tyX4_ok w_X1_init_ncl9 w_X1_init_ninX4 w_X1_init_ini_X4 rfl dfs_X4 (Nat.le_of_ble_eq_true rfl) (Nat.le_of_ble_eq_true rfl) dX1_init_31 (fun q3 H hW => ?_)
      refine lv_dup hx hb dX1_init_34 rfl ?_
      refine mkI (rest := [.ref q3, .int (nI 1), .ref q1]) CX hE hW hA (c_X4_init l G cA t_ q3) (cwI 0 hts gX1_init_X4_init rfl rfl rfl (hts _ w_X1_init_ini_X4) (hts _ w_X1_init_ml21) (hts _ w_X1_init_im_X4_init) rfl hdi_X4_init ⟨Nat.le_of_ble_eq_true rfl, Nat.le_of_ble_eq_true rfl⟩) (FSM_blind t_) (fun U hU hWm hq => hB.sub hW.2.2 hU hWm hq) hl.1 rfl (Nat.le_of_ble_eq_true rfl) dX1_init_35 ⟨Nat.le_of_ble_eq_true rfl, Nat.le_of_ble_eq_true rfl⟩ (fun u2 H locs hW => ?_)
      have hW : wldS G A_ [[(o, .inr (1, [.ref q1, .int (nI 0)]))], [(q1, .inl (cA 3, 6, .inr (.inr (.inr (.inr (va_up (fun _ => none) 0 (some q2)))))))], tkW cA (consN q2 u1) T0, tkW cA (consN q3 u2) T0] s_.heap _ _ := wldS.snoc hW
      refine rn_aast3S (w' := [(q1, .inl (cA 3, 6, .inr (.inr (.inr (.inr (va_up (va_up (fun _ => none) 0 (some q2)) 1 (some q3)))))))]) (segs' := [[(o, .inr (1, [.ref q1, .int (nI 0)]))], [(q1, .inl (cA 3, 6, .inr (.inr (.inr (.inr (va_up (va_up (fun _ => none) 0 (some q2)) 1 (some q3)))))))], tkW cA (consN q2 u1) T0, tkW cA (consN q3 u2) T0]) CX hE hW 1 rfl 0 rfl 3 rfl 0 rfl (j := 1) (by omega) (ltb rfl) rfl rfl dX1_init_38 (fun H locs hW => ?_)
      refine rn_iinc hx hb (n := 1) (lv' := [(1, .int (nI 2)), (0, .ref o)]) rfl dX1_init_39 hl (k := 0) rfl (by decide) rfl (fun ls hl => ?_)
      refine lv_goto (tgt := 20) hx hb dX1_init_42 (by decide) ?_
      refine lv_iload_n hx hb dX1_init_20 rfl (lv_at hl 0 rfl) ?_
      refine lv_bipush (v := (nI 6)) hx hb dX1_init_21 kb_6 ?_
      refine rn_icmp_ge hx hb (by omega) (by omega) dX1_init_23 (by decide) (tgt := 45) (fun c_23 => ?_) (fun c_23 => ?_)
      · exact absurd c_23 (by omega)
      · refine lv_aload_n hx hb dX1_init_26 rfl (lv_at hl 1 rfl) ?_
        refine rg (T := TX1) (N := 2) CX hE (hW.hP 0 rfl) in_X1_init_X1 0 rfl rfl 0 (by decide) fl_X1_init_11 rfl rfl dX1_init_27 ?_
        refine lv_iload_n hx hb dX1_init_30 rfl (lv_at hl 0 rfl) ?_
        refine rn_new (C := RX4) (T := TX4) (N := 8) (ci := 4) (fs := [.null, .null, .null, .null, .null, .null, .null, .int (nI 0)]) CX hE hW.flat hA in_X1_init_X4 tyX4 tyX4_ok w_X1_init_ncl9 w_X1_init_ninX4 w_X1_init_ini_X4 rfl dfs_X4 (Nat.le_of_ble_eq_true rfl) (Nat.le_of_ble_eq_true rfl) dX1_init_31 (fun q4 H hW => ?_)
        refine lv_dup hx hb dX1_init_34 rfl ?_
        refine mkI (rest := [.ref q4, .int (nI 2), .ref q1]) CX hE hW hA (c_X4_init l G cA t_ q4) (cwI 0 hts gX1_init_X4_init rfl rfl rfl (hts _ w_X1_init_ini_X4) (hts _ w_X1_init_ml21) (hts _ w_X1_init_im_X4_init) rfl hdi_X4_init ⟨Nat.le_of_ble_eq_true rfl, Nat.le_of_ble_eq_true rfl⟩) (FSM_blind t_) (fun U hU hWm hq => hB.sub hW.2.2 hU hWm hq) hl.1 rfl (Nat.le_of_ble_eq_true rfl) dX1_init_35 ⟨Nat.le_of_ble_eq_true rfl, Nat.le_of_ble_eq_true rfl⟩ (fun u3 H locs hW => ?_)
        have hW : wldS G A_ [[(o, .inr (1, [.ref q1, .int (nI 0)]))], [(q1, .inl (cA 3, 6, .inr (.inr (.inr (.inr (va_up (va_up (fun _ => none) 0 (some q2)) 1 (some q3)))))))], tkW cA (consN q2 u1) T0, tkW cA (consN q3 u2) T0, tkW cA (consN q4 u3) T0] s_.heap _ _ := wldS.snoc hW
        refine rn_aast3S (w' := [(q1, .inl (cA 3, 6, .inr (.inr (.inr (.inr (va_up (va_up (va_up (fun _ => none) 0 (some q2)) 1 (some q3)) 2 (some q4)))))))]) (segs' := [[(o, .inr (1, [.ref q1, .int (nI 0)]))], [(q1, .inl (cA 3, 6, .inr (.inr (.inr (.inr (va_up (va_up (va_up (fun _ => none) 0 (some q2)) 1 (some q3)) 2 (some q4)))))))], tkW cA (consN q2 u1) T0, tkW cA (consN q3 u2) T0, tkW cA (consN q4 u3) T0]) CX hE hW 1 rfl 0 rfl 4 rfl 0 rfl (j := 2) (by omega) (ltb rfl) rfl rfl dX1_init_38 (fun H locs hW => ?_)
        refine rn_iinc hx hb (n := 1) (lv' := [(1, .int (nI 3)), (0, .ref o)]) rfl dX1_init_39 hl (k := 0) rfl (by decide) rfl (fun ls hl => ?_)
        refine lv_goto (tgt := 20) hx hb dX1_init_42 (by decide) ?_
        refine lv_iload_n hx hb dX1_init_20 rfl (lv_at hl 0 rfl) ?_
        refine lv_bipush (v := (nI 6)) hx hb dX1_init_21 kb_6 ?_
        refine rn_icmp_ge hx hb (by omega) (by omega) dX1_init_23 (by decide) (tgt := 45) (fun c_23 => ?_) (fun c_23 => ?_)
        · exact absurd c_23 (by omega)
        · refine lv_aload_n hx hb dX1_init_26 rfl (lv_at hl 1 rfl) ?_
          refine rg (T := TX1) (N := 2) CX hE (hW.hP 0 rfl) in_X1_init_X1 0 rfl rfl 0 (by decide) fl_X1_init_11 rfl rfl dX1_init_27 ?_
          refine lv_iload_n hx hb dX1_init_30 rfl (lv_at hl 0 rfl) ?_
          refine rn_new (C := RX4) (T := TX4) (N := 8) (ci := 4) (fs := [.null, .null, .null, .null, .null, .null, .null, .int (nI 0)]) CX hE hW.flat hA in_X1_init_X4 tyX4 tyX4_ok w_X1_init_ncl9 w_X1_init_ninX4 w_X1_init_ini_X4 rfl dfs_X4 (Nat.le_of_ble_eq_true rfl) (Nat.le_of_ble_eq_true rfl) dX1_init_31 (fun q5 H hW => ?_)
          refine lv_dup hx hb dX1_init_34 rfl ?_
          refine mkI (rest := [.ref q5, .int (nI 3), .ref q1]) CX hE hW hA (c_X4_init l G cA t_ q5) (cwI 0 hts gX1_init_X4_init rfl rfl rfl (hts _ w_X1_init_ini_X4) (hts _ w_X1_init_ml21) (hts _ w_X1_init_im_X4_init) rfl hdi_X4_init ⟨Nat.le_of_ble_eq_true rfl, Nat.le_of_ble_eq_true rfl⟩) (FSM_blind t_) (fun U hU hWm hq => hB.sub hW.2.2 hU hWm hq) hl.1 rfl (Nat.le_of_ble_eq_true rfl) dX1_init_35 ⟨Nat.le_of_ble_eq_true rfl, Nat.le_of_ble_eq_true rfl⟩ (fun u4 H locs hW => ?_)
          have hW : wldS G A_ [[(o, .inr (1, [.ref q1, .int (nI 0)]))], [(q1, .inl (cA 3, 6, .inr (.inr (.inr (.inr (va_up (va_up (va_up (fun _ => none) 0 (some q2)) 1 (some q3)) 2 (some q4)))))))], tkW cA (consN q2 u1) T0, tkW cA (consN q3 u2) T0, tkW cA (consN q4 u3) T0, tkW cA (consN q5 u4) T0] s_.heap _ _ := wldS.snoc hW
          refine rn_aast3S (w' := [(q1, .inl (cA 3, 6, .inr (.inr (.inr (.inr (va_up (va_up (va_up (va_up (fun _ => none) 0 (some q2)) 1 (some q3)) 2 (some q4)) 3 (some q5)))))))]) (segs' := [[(o, .inr (1, [.ref q1, .int (nI 0)]))], [(q1, .inl (cA 3, 6, .inr (.inr (.inr (.inr (va_up (va_up (va_up (va_up (fun _ => none) 0 (some q2)) 1 (some q3)) 2 (some q4)) 3 (some q5)))))))], tkW cA (consN q2 u1) T0, tkW cA (consN q3 u2) T0, tkW cA (consN q4 u3) T0, tkW cA (consN q5 u4) T0]) CX hE hW 1 rfl 0 rfl 5 rfl 0 rfl (j := 3) (by omega) (ltb rfl) rfl rfl dX1_init_38 (fun H locs hW => ?_)
          refine rn_iinc hx hb (n := 1) (lv' := [(1, .int (nI 4)), (0, .ref o)]) rfl dX1_init_39 hl (k := 0) rfl (by decide) rfl (fun ls hl => ?_)
          refine lv_goto (tgt := 20) hx hb dX1_init_42 (by decide) ?_
          refine lv_iload_n hx hb dX1_init_20 rfl (lv_at hl 0 rfl) ?_
          refine lv_bipush (v := (nI 6)) hx hb dX1_init_21 kb_6 ?_
          refine rn_icmp_ge hx hb (by omega) (by omega) dX1_init_23 (by decide) (tgt := 45) (fun c_23 => ?_) (fun c_23 => ?_)
          · exact absurd c_23 (by omega)
          · refine lv_aload_n hx hb dX1_init_26 rfl (lv_at hl 1 rfl) ?_
            refine rg (T := TX1) (N := 2) CX hE (hW.hP 0 rfl) in_X1_init_X1 0 rfl rfl 0 (by decide) fl_X1_init_11 rfl rfl dX1_init_27 ?_
            refine lv_iload_n hx hb dX1_init_30 rfl (lv_at hl 0 rfl) ?_
            refine rn_new (C := RX4) (T := TX4) (N := 8) (ci := 4) (fs := [.null, .null, .null, .null, .null, .null, .null, .int (nI 0)]) CX hE hW.flat hA in_X1_init_X4 tyX4 tyX4_ok w_X1_init_ncl9 w_X1_init_ninX4 w_X1_init_ini_X4 rfl dfs_X4 (Nat.le_of_ble_eq_true rfl) (Nat.le_of_ble_eq_true rfl) dX1_init_31 (fun q6 H hW => ?_)
            refine lv_dup hx hb dX1_init_34 rfl ?_
            refine mkI (rest := [.ref q6, .int (nI 4), .ref q1]) CX hE hW hA (c_X4_init l G cA t_ q6) (cwI 0 hts gX1_init_X4_init rfl rfl rfl (hts _ w_X1_init_ini_X4) (hts _ w_X1_init_ml21) (hts _ w_X1_init_im_X4_init) rfl hdi_X4_init ⟨Nat.le_of_ble_eq_true rfl, Nat.le_of_ble_eq_true rfl⟩) (FSM_blind t_) (fun U hU hWm hq => hB.sub hW.2.2 hU hWm hq) hl.1 rfl (Nat.le_of_ble_eq_true rfl) dX1_init_35 ⟨Nat.le_of_ble_eq_true rfl, Nat.le_of_ble_eq_true rfl⟩ (fun u5 H locs hW => ?_)
            have hW : wldS G A_ [[(o, .inr (1, [.ref q1, .int (nI 0)]))], [(q1, .inl (cA 3, 6, .inr (.inr (.inr (.inr (va_up (va_up (va_up (va_up (fun _ => none) 0 (some q2)) 1 (some q3)) 2 (some q4)) 3 (some q5)))))))], tkW cA (consN q2 u1) T0, tkW cA (consN q3 u2) T0, tkW cA (consN q4 u3) T0, tkW cA (consN q5 u4) T0, tkW cA (consN q6 u5) T0] s_.heap _ _ := wldS.snoc hW
            refine rn_aast3S (w' := [(q1, .inl (cA 3, 6, .inr (.inr (.inr (.inr (va_up (va_up (va_up (va_up (va_up (fun _ => none) 0 (some q2)) 1 (some q3)) 2 (some q4)) 3 (some q5)) 4 (some q6)))))))]) (segs' := [[(o, .inr (1, [.ref q1, .int (nI 0)]))], [(q1, .inl (cA 3, 6, .inr (.inr (.inr (.inr (va_up (va_up (va_up (va_up (va_up (fun _ => none) 0 (some q2)) 1 (some q3)) 2 (some q4)) 3 (some q5)) 4 (some q6)))))))], tkW cA (consN q2 u1) T0, tkW cA (consN q3 u2) T0, tkW cA (consN q4 u3) T0, tkW cA (consN q5 u4) T0, tkW cA (consN q6 u5) T0]) CX hE hW 1 rfl 0 rfl 6 rfl 0 rfl (j := 4) (by omega) (ltb rfl) rfl rfl dX1_init_38 (fun H locs hW => ?_)
            refine rn_iinc hx hb (n := 1) (lv' := [(1, .int (nI 5)), (0, .ref o)]) rfl dX1_init_39 hl (k := 0) rfl (by decide) rfl (fun ls hl => ?_)
            refine lv_goto (tgt := 20) hx hb dX1_init_42 (by decide) ?_
            refine lv_iload_n hx hb dX1_init_20 rfl (lv_at hl 0 rfl) ?_
            refine lv_bipush (v := (nI 6)) hx hb dX1_init_21 kb_6 ?_
            refine rn_icmp_ge hx hb (by omega) (by omega) dX1_init_23 (by decide) (tgt := 45) (fun c_23 => ?_) (fun c_23 => ?_)
            · exact absurd c_23 (by omega)
            · refine lv_aload_n hx hb dX1_init_26 rfl (lv_at hl 1 rfl) ?_
              refine rg (T := TX1) (N := 2) CX hE (hW.hP 0 rfl) in_X1_init_X1 0 rfl rfl 0 (by decide) fl_X1_init_11 rfl rfl dX1_init_27 ?_
              refine lv_iload_n hx hb dX1_init_30 rfl (lv_at hl 0 rfl) ?_
              refine rn_new (C := RX4) (T := TX4) (N := 8) (ci := 4) (fs := [.null, .null, .null, .null, .null, .null, .null, .int (nI 0)]) CX hE hW.flat hA in_X1_init_X4 tyX4 tyX4_ok w_X1_init_ncl9 w_X1_init_ninX4 w_X1_init_ini_X4 rfl dfs_X4 (Nat.le_of_ble_eq_true rfl) (Nat.le_of_ble_eq_true rfl) dX1_init_31 (fun q7 H hW => ?_)
              refine lv_dup hx hb dX1_init_34 rfl ?_
              refine mkI (rest := [.ref q7, .int (nI 5), .ref q1]) CX hE hW hA (c_X4_init l G cA t_ q7) (cwI 0 hts gX1_init_X4_init rfl rfl rfl (hts _ w_X1_init_ini_X4) (hts _ w_X1_init_ml21) (hts _ w_X1_init_im_X4_init) rfl hdi_X4_init ⟨Nat.le_of_ble_eq_true rfl, Nat.le_of_ble_eq_true rfl⟩) (FSM_blind t_) (fun U hU hWm hq => hB.sub hW.2.2 hU hWm hq) hl.1 rfl (Nat.le_of_ble_eq_true rfl) dX1_init_35 ⟨Nat.le_of_ble_eq_true rfl, Nat.le_of_ble_eq_true rfl⟩ (fun u6 H locs hW => ?_)
              have hW : wldS G A_ [[(o, .inr (1, [.ref q1, .int (nI 0)]))], [(q1, .inl (cA 3, 6, .inr (.inr (.inr (.inr (va_up (va_up (va_up (va_up (va_up (fun _ => none) 0 (some q2)) 1 (some q3)) 2 (some q4)) 3 (some q5)) 4 (some q6)))))))], tkW cA (consN q2 u1) T0, tkW cA (consN q3 u2) T0, tkW cA (consN q4 u3) T0, tkW cA (consN q5 u4) T0, tkW cA (consN q6 u5) T0, tkW cA (consN q7 u6) T0] s_.heap _ _ := wldS.snoc hW
              refine rn_aast3S (w' := [(q1, .inl (cA 3, 6, .inr (.inr (.inr (.inr (va_up (va_up (va_up (va_up (va_up (va_up (fun _ => none) 0 (some q2)) 1 (some q3)) 2 (some q4)) 3 (some q5)) 4 (some q6)) 5 (some q7)))))))]) (segs' := [[(o, .inr (1, [.ref q1, .int (nI 0)]))], [(q1, .inl (cA 3, 6, .inr (.inr (.inr (.inr (va_up (va_up (va_up (va_up (va_up (va_up (fun _ => none) 0 (some q2)) 1 (some q3)) 2 (some q4)) 3 (some q5)) 4 (some q6)) 5 (some q7)))))))], tkW cA (consN q2 u1) T0, tkW cA (consN q3 u2) T0, tkW cA (consN q4 u3) T0, tkW cA (consN q5 u4) T0, tkW cA (consN q6 u5) T0, tkW cA (consN q7 u6) T0]) CX hE hW 1 rfl 0 rfl 7 rfl 0 rfl (j := 5) (by omega) (ltb rfl) rfl rfl dX1_init_38 (fun H locs hW => ?_)
              refine rn_iinc hx hb (n := 1) (lv' := [(1, .int (nI 6)), (0, .ref o)]) rfl dX1_init_39 hl (k := 0) rfl (by decide) rfl (fun ls hl => ?_)
              refine lv_goto (tgt := 20) hx hb dX1_init_42 (by decide) ?_
              refine lv_iload_n hx hb dX1_init_20 rfl (lv_at hl 0 rfl) ?_
              refine lv_bipush (v := (nI 6)) hx hb dX1_init_21 kb_6 ?_
              refine rn_icmp_ge hx hb (by omega) (by omega) dX1_init_23 (by decide) (tgt := 45) (fun c_23 => ?_) (fun c_23 => ?_)
              · obtain ⟨f_, hf0, hf1, hf2, hf3, hf4, hf5, hf6⟩ : ∃ f_ : Nat → Nat → Nat, f_ 0 = (fun _ => q1) ∧ f_ 1 = consN q2 u1 ∧ f_ 2 = consN q3 u2 ∧ f_ 3 = consN q4 u3 ∧ f_ 4 = consN q5 u4 ∧ f_ 5 = consN q6 u5 ∧ f_ 6 = consN q7 u6 := ⟨fun i_ => match i_ with | 0 => (fun _ => q1) | 1 => consN q2 u1 | 2 => consN q3 u2 | 3 => consN q4 u3 | 4 => consN q5 u4 | 5 => consN q6 u5 | _ => consN q7 u6, rfl, rfl, rfl, rfl, rfl, rfl, rfl⟩
                have p0 : prt (encU f_) 0 = (fun _ => q1) := (prt_enc f_ 0 (by decide)).trans hf0
                have p1 : prt (encU f_) 1 = consN q2 u1 := (prt_enc f_ 1 (by decide)).trans hf1
                have p2 : prt (encU f_) 2 = consN q3 u2 := (prt_enc f_ 2 (by decide)).trans hf2
                have p3 : prt (encU f_) 3 = consN q4 u3 := (prt_enc f_ 3 (by decide)).trans hf3
                have p4 : prt (encU f_) 4 = consN q5 u4 := (prt_enc f_ 4 (by decide)).trans hf4
                have p5 : prt (encU f_) 5 = consN q6 u5 := (prt_enc f_ 5 (by decide)).trans hf5
                have p6 : prt (encU f_) 6 = consN q7 u6 := (prt_enc f_ 6 (by decide)).trans hf6
                have hs : ∀ j, j < 6 → (va_up (va_up (va_up (va_up (va_up (va_up (fun _ => none) 0 (some q2)) 1 (some q3)) 2 (some q4)) 3 (some q5)) 4 (some q6)) 5 (some q7)) j = stR (fun k => prt (encU f_) (1 + k)) j := fun j hj => by
                  match j, hj with
                  | 0, _ => show _ = some (prt (encU f_) 1 0); rw [p1]; rfl
                  | 1, _ => show _ = some (prt (encU f_) 2 0); rw [p2]; rfl
                  | 2, _ => show _ = some (prt (encU f_) 3 0); rw [p3]; rfl
                  | 3, _ => show _ = some (prt (encU f_) 4 0); rw [p4]; rfl
                  | 4, _ => show _ = some (prt (encU f_) 5 0); rw [p5]; rfl
                  | 5, _ => show _ = some (prt (encU f_) 6 0); rw [p6]; rfl
                  | j + 6, h => exact absurd h (by omega)
                have hW : wldS G A_ [[(o, .inr (1, [.ref q1, .int (nI 0)]))], [(q1, .inl (cA 3, 6, .inr (.inr (.inr (.inr (stR (fun k => prt (encU f_) (1 + k))))))))], tkW cA (consN q2 u1) T0, tkW cA (consN q3 u2) T0, tkW cA (consN q4 u3) T0, tkW cA (consN q5 u4) T0, tkW cA (consN q6 u5) T0, tkW cA (consN q7 u6) T0] s_.heap _ _ := wldS.re hW 1 rfl 0 rfl (va_cell_extq hs) rfl rfl
                have hW : wld G A_ (([[(o, .inr (1, [.ref (prt (encU f_) 0 0), .int (nI 0)])), (prt (encU f_) 0 0, .inl (cA 3, 6, .inr (.inr (.inr (.inr (stR (fun k => prt (encU f_) (1 + k))))))))], tkW cA (prt (encU f_) 1) T0, tkW cA (prt (encU f_) 2) T0, tkW cA (prt (encU f_) 3) T0, tkW cA (prt (encU f_) 4) T0, tkW cA (prt (encU f_) 5) T0, tkW cA (prt (encU f_) 6) T0] : List va_W).flatten) s_.heap H locs := by rw [p0, p1, p2, p3, p4, p5, p6]; exact hW.flat
                exact mk_ret CX hrr hlk (encU f_) hW dX1_init_45
              · exact absurd c_23 (by omega)
theorem w_X5_init_oi0 : Cond.methodLink RX5 3 objectInit ∈ wsX5_init := by decide +kernel
theorem w_X5_init_oi1 : Cond.instanceMethod objectInit ∈ wsX5_init := by decide +kernel
theorem w_X5_init_oi2 : Cond.code objectInit ⟨#[0xb1]⟩ 1 none ∈ wsX5_init := by decide +kernel
theorem in_X5_init_X4 : ∀ w ∈ wsX40, w ∈ wsX5_init := by decide +kernel
theorem w_X5_init_ncl9 : Cond.classLink RX5 9 RX4 ∈ wsX5_init := by decide +kernel
theorem w_X5_init_ninX4 : Cond.instantiable RX4 8 ∈ wsX5_init := by decide +kernel
theorem w_X5_init_ini_X4 : Cond.initialized RX4 ∈ wsX5_init := by decide +kernel
theorem w_X5_init_im_X4_init : Cond.instanceMethod yX4_init ∈ wsX5_init := by decide +kernel
theorem w_X5_init_ml11 : Cond.methodLink RX5 11 yX4_init ∈ wsX5_init := by decide +kernel
theorem fl_X5_init_12 : Cond.fieldLink RX5 12 RX5 (TX5 0).2.1 (TX5 0).2.2.1 ∈ wsX5_init := by decide +kernel
theorem in_X5_init_X5 : ∀ w ∈ wsX50, w ∈ wsX5_init := by decide +kernel
theorem fl_X5_init_16 : Cond.fieldLink RX5 16 RX5 (TX5 1).2.1 (TX5 1).2.2.1 ∈ wsX5_init := by decide +kernel
theorem dfs_X1 : ∀ j, j < 2 → defaultValue (tyX1 j) = vp_V [.null, .int (nI 0)] j
  | 0, _ => rfl
  | 1, _ => rfl
  | j + 2, h => absurd h (by omega)
theorem in_X5_init_X1 : ∀ w ∈ wsX10, w ∈ wsX5_init := by decide +kernel
theorem w_X5_init_ncl19 : Cond.classLink RX5 19 RX1 ∈ wsX5_init := by decide +kernel
theorem w_X5_init_ninX1 : Cond.instantiable RX1 2 ∈ wsX5_init := by decide +kernel
theorem w_X5_init_ini_X1 : Cond.initialized RX1 ∈ wsX5_init := by decide +kernel
theorem hdi_X1_init : yX1_init.cls ≠ "java/lang/invoke/MethodHandle" ∧ yX1_init.cls ≠ "java/lang/invoke/VarHandle" ∧ (parseMethodDescriptor yX1_init.desc).map (fun d => d.parameters.length) = some 0 := by decide +kernel
theorem w_X5_init_im_X1_init : Cond.instanceMethod yX1_init ∈ wsX5_init := by decide +kernel
theorem w_X5_init_ml21 : Cond.methodLink RX5 21 yX1_init ∈ wsX5_init := by decide +kernel
theorem fl_X5_init_22 : Cond.fieldLink RX5 22 RX5 (TX5 2).2.1 (TX5 2).2.2.1 ∈ wsX5_init := by decide +kernel
theorem w_X5_init_cl9 : Cond.classLink RX5 9 "DippedWaves$Tank" ∈ wsX5_init := by decide +kernel
theorem fl_X5_init_26 : Cond.fieldLink RX5 26 RX5 (TX5 3).2.1 (TX5 3).2.2.1 ∈ wsX5_init := by decide +kernel
theorem w_X5_init_acZ : Cond.arrayClass .boolean ∈ wsX5_init := by decide +kernel
theorem fl_X5_init_30 : Cond.fieldLink RX5 30 RX5 (TX5 4).2.1 (TX5 4).2.2.1 ∈ wsX5_init := by decide +kernel
theorem dfs_X2 : ∀ j, j < 2 → defaultValue (tyX2 j) = vp_V [.null, .int (nI 0)] j
  | 0, _ => rfl
  | 1, _ => rfl
  | j + 2, h => absurd h (by omega)
theorem in_X5_init_X2 : ∀ w ∈ wsX20, w ∈ wsX5_init := by decide +kernel
theorem w_X5_init_ncl34 : Cond.classLink RX5 34 RX2 ∈ wsX5_init := by decide +kernel
theorem w_X5_init_ninX2 : Cond.instantiable RX2 2 ∈ wsX5_init := by decide +kernel
theorem w_X5_init_ini_X2 : Cond.initialized RX2 ∈ wsX5_init := by decide +kernel
theorem hdi_X2_init : yX2_init.cls ≠ "java/lang/invoke/MethodHandle" ∧ yX2_init.cls ≠ "java/lang/invoke/VarHandle" ∧ (parseMethodDescriptor yX2_init.desc).map (fun d => d.parameters.length) = some 0 := by decide +kernel
theorem w_X5_init_im_X2_init : Cond.instanceMethod yX2_init ∈ wsX5_init := by decide +kernel
theorem nst_X5_36 : Cond.methodLinkNest RX5 36 yX2_init RX5 ∈ nestW := by decide +kernel
theorem fl_X5_init_37 : Cond.fieldLink RX5 37 RX5 (TX5 5).2.1 (TX5 5).2.2.1 ∈ wsX5_init := by decide +kernel
set_option maxHeartbeats 8000000 in
set_option maxRecDepth 100000 in
theorem c_X5_init (l : Launch) (G : va_G) (cA : Nat → ClassId) (t_ : Nat) (o : Nat) : MK l yX5_init wsX5_init ({ frames := 4, cells := 186, slots := 3706, locals := 73 }) G cA (FSM t_) [(o, .inr (5, [.null, .null, .null, .null, .null, .null]))] [.ref o] (fun u => ([[(o, .inr (5, [.ref (prt u 1 0), .ref (prt u 2 0), .ref (prt u 0 2), .ref (prt u 0 0), .ref (prt u 0 1), .ref (prt u 0 4)]))], [(prt u 0 2, .inr (1, [.ref (prt u 0 3), .int (nI 0)])), (prt u 0 3, .inl (cA 3, 6, .inr (.inr (.inr (.inr (stR (fun k => prt u (5 + k))))))))], tkW cA (prt u 5) T0, tkW cA (prt u 6) T0, tkW cA (prt u 7) T0, tkW cA (prt u 8) T0, tkW cA (prt u 9) T0, tkW cA (prt u 10) T0, tkW cA (prt u 1) T0, tkW cA (prt u 2) T0, [(prt u 0 0, .inl (cA 3, 2, .inr (.inr (.inr (.inr (sl2 (prt u 3 0) (prt u 4 0))))))), (prt u 0 1, .inl (cA 2, 2, .inl (fun _ => nI 0)))], tkW cA (prt u 3) T0, tkW cA (prt u 4) T0, [(prt u 0 4, .inr (2, [.ref (prt u 0 5), .int (nI 0)])), (prt u 0 5, .inl (cA 1, 72, .inl (fun _ => nI 0)))]] : List va_W).flatten) 186 3706 := by
  refine MK.mk (own := RX5) (by decide) rfl rfl (Nat.le_of_ble_eq_true rfl) (fun p_ e_ s_ m_ below meth c_ ls A_ CX hrr hlk hin hW hA hE hB hl => ?_)
  obtain ⟨hx, hb, hml, hown, hts⟩ := id CX
  have hl : lv_has ls 2 [(0, .ref o)] := hl
  have hW : wldS G A_ [[(o, .inr (5, [.null, .null, .null, .null, .null, .null]))]] s_.heap s_.heap [] := wldS.of hW
  refine lv_aload_n hx hb dX5_init_0 rfl (lv_at hl 0 rfl) ?_
  refine W.objInit hx hb hown (hts _ w_X5_init_oi0) (hts _ w_X5_init_oi1) (hts _ w_X5_init_oi2) rfl (by rw [hml]; exact hl.1) rfl dX5_init_1 (Nat.le_of_ble_eq_true rfl) (Nat.le_of_ble_eq_true rfl) ?_
  refine W.eq (g2 := F0 m_ 4 ls []) rfl ?_
  refine lv_aload_n hx hb dX5_init_4 rfl (lv_at hl 0 rfl) ?_
  refine rn_new (C := RX4) (T := TX4) (N := 8) (ci := 4) (fs := [.null, .null, .null, .null, .null, .null, .null, .int (nI 0)]) CX hE hW.flat hA in_X5_init_X4 tyX4 tyX4_ok w_X5_init_ncl9 w_X5_init_ninX4 w_X5_init_ini_X4 rfl dfs_X4 (Nat.le_of_ble_eq_true rfl) (Nat.le_of_ble_eq_true rfl) dX5_init_5 (fun q1 H hW => ?_)
  refine lv_dup hx hb dX5_init_8 rfl ?_
  refine mkI (rest := [.ref q1, .ref o]) CX hE hW hA (c_X4_init l G cA t_ q1) (cwI 0 hts gX5_init_X4_init rfl rfl rfl (hts _ w_X5_init_ini_X4) (hts _ w_X5_init_ml11) (hts _ w_X5_init_im_X4_init) rfl hdi_X4_init ⟨Nat.le_of_ble_eq_true rfl, Nat.le_of_ble_eq_true rfl⟩) (FSM_blind t_) (fun U hU hWm hq => hB.sub hW.2.2 hU hWm hq) hl.1 rfl (Nat.le_of_ble_eq_true rfl) dX5_init_9 ⟨Nat.le_of_ble_eq_true rfl, Nat.le_of_ble_eq_true rfl⟩ (fun u1 H locs hW => ?_)
  have hW : wldS G A_ [[(o, .inr (5, [.null, .null, .null, .null, .null, .null]))], tkW cA (consN q1 u1) T0] s_.heap _ _ := wldS.snoc hW
  refine rpFS (T := TX5) (N := 6) (w' := [(o, .inr (5, [.ref q1, .null, .null, .null, .null, .null]))]) (segs' := [[(o, .inr (5, [.ref q1, .null, .null, .null, .null, .null]))], tkW cA (consN q1 u1) T0]) CX hE hin hW 0 rfl in_X5_init_X5 tyX5 tyX5_ok nmX5 0 rfl rfl 0 (by decide) fl_X5_init_12 rfl rfl rfl rfl rfl (Nat.le_of_ble_eq_true rfl) rfl rfl dX5_init_12 (fun H locs hW => ?_)
  refine lv_aload_n hx hb dX5_init_15 rfl (lv_at hl 0 rfl) ?_
  refine rn_new (C := RX4) (T := TX4) (N := 8) (ci := 4) (fs := [.null, .null, .null, .null, .null, .null, .null, .int (nI 0)]) CX hE hW.flat hA in_X5_init_X4 tyX4 tyX4_ok w_X5_init_ncl9 w_X5_init_ninX4 w_X5_init_ini_X4 rfl dfs_X4 (Nat.le_of_ble_eq_true rfl) (Nat.le_of_ble_eq_true rfl) dX5_init_16 (fun q2 H hW => ?_)
  refine lv_dup hx hb dX5_init_19 rfl ?_
  refine mkI (rest := [.ref q2, .ref o]) CX hE hW hA (c_X4_init l G cA t_ q2) (cwI 0 hts gX5_init_X4_init rfl rfl rfl (hts _ w_X5_init_ini_X4) (hts _ w_X5_init_ml11) (hts _ w_X5_init_im_X4_init) rfl hdi_X4_init ⟨Nat.le_of_ble_eq_true rfl, Nat.le_of_ble_eq_true rfl⟩) (FSM_blind t_) (fun U hU hWm hq => hB.sub hW.2.2 hU hWm hq) hl.1 rfl (Nat.le_of_ble_eq_true rfl) dX5_init_20 ⟨Nat.le_of_ble_eq_true rfl, Nat.le_of_ble_eq_true rfl⟩ (fun u2 H locs hW => ?_)
  have hW : wldS G A_ [[(o, .inr (5, [.ref q1, .null, .null, .null, .null, .null]))], tkW cA (consN q1 u1) T0, tkW cA (consN q2 u2) T0] s_.heap _ _ := wldS.snoc hW
  refine rpFS (T := TX5) (N := 6) (w' := [(o, .inr (5, [.ref q1, .ref q2, .null, .null, .null, .null]))]) (segs' := [[(o, .inr (5, [.ref q1, .ref q2, .null, .null, .null, .null]))], tkW cA (consN q1 u1) T0, tkW cA (consN q2 u2) T0]) CX hE hin hW 0 rfl in_X5_init_X5 tyX5 tyX5_ok nmX5 0 rfl rfl 1 (by decide) fl_X5_init_16 rfl rfl rfl rfl rfl (Nat.le_of_ble_eq_true rfl) rfl rfl dX5_init_23 (fun H locs hW => ?_)
  refine lv_aload_n hx hb dX5_init_26 rfl (lv_at hl 0 rfl) ?_
  refine rn_new (C := RX1) (T := TX1) (N := 2) (ci := 1) (fs := [.null, .int (nI 0)]) CX hE hW.flat hA in_X5_init_X1 tyX1 tyX1_ok w_X5_init_ncl19 w_X5_init_ninX1 w_X5_init_ini_X1 rfl dfs_X1 (Nat.le_of_ble_eq_true rfl) (Nat.le_of_ble_eq_true rfl) dX5_init_27 (fun q3 H hW => ?_)
  refine lv_dup hx hb dX5_init_30 rfl ?_
  refine mkI (rest := [.ref q3, .ref o]) CX hE hW hA (c_X1_init l G cA t_ q3) (cwI 0 hts gX5_init_X1_init rfl rfl rfl (hts _ w_X5_init_ini_X1) (hts _ w_X5_init_ml21) (hts _ w_X5_init_im_X1_init) rfl hdi_X1_init ⟨Nat.le_of_ble_eq_true rfl, Nat.le_of_ble_eq_true rfl⟩) (FSM_blind t_) (fun U hU hWm hq => hB.sub hW.2.2 hU hWm hq) hl.1 rfl (Nat.le_of_ble_eq_true rfl) dX5_init_31 ⟨Nat.le_of_ble_eq_true rfl, Nat.le_of_ble_eq_true rfl⟩ (fun u3 H locs hW => ?_)
  have hW : wldS G A_ [[(o, .inr (5, [.ref q1, .ref q2, .null, .null, .null, .null]))], tkW cA (consN q1 u1) T0, tkW cA (consN q2 u2) T0, [(q3, .inr (1, [.ref (prt u3 0 0), .int (nI 0)])), ((prt u3 0 0), .inl (cA 3, 6, .inr (.inr (.inr (.inr (stR (fun k => prt u3 (1 + k))))))))], tkW cA (prt u3 1) T0, tkW cA (prt u3 2) T0, tkW cA (prt u3 3) T0, tkW cA (prt u3 4) T0, tkW cA (prt u3 5) T0, tkW cA (prt u3 6) T0] s_.heap _ _ := wldS.app (more := [[(q3, .inr (1, [.ref (prt u3 0 0), .int (nI 0)])), ((prt u3 0 0), .inl (cA 3, 6, .inr (.inr (.inr (.inr (stR (fun k => prt u3 (1 + k))))))))], tkW cA (prt u3 1) T0, tkW cA (prt u3 2) T0, tkW cA (prt u3 3) T0, tkW cA (prt u3 4) T0, tkW cA (prt u3 5) T0, tkW cA (prt u3 6) T0]) hW
  refine rpFS (T := TX5) (N := 6) (w' := [(o, .inr (5, [.ref q1, .ref q2, .ref q3, .null, .null, .null]))]) (segs' := [[(o, .inr (5, [.ref q1, .ref q2, .ref q3, .null, .null, .null]))], tkW cA (consN q1 u1) T0, tkW cA (consN q2 u2) T0, [(q3, .inr (1, [.ref (prt u3 0 0), .int (nI 0)])), ((prt u3 0 0), .inl (cA 3, 6, .inr (.inr (.inr (.inr (stR (fun k => prt u3 (1 + k))))))))], tkW cA (prt u3 1) T0, tkW cA (prt u3 2) T0, tkW cA (prt u3 3) T0, tkW cA (prt u3 4) T0, tkW cA (prt u3 5) T0, tkW cA (prt u3 6) T0]) CX hE hin hW 0 rfl in_X5_init_X5 tyX5 tyX5_ok nmX5 0 rfl rfl 2 (by decide) fl_X5_init_22 rfl rfl rfl rfl rfl (Nat.le_of_ble_eq_true rfl) rfl rfl dX5_init_34 (fun H locs hW => ?_)
  refine lv_aload_n hx hb dX5_init_37 rfl (lv_at hl 0 rfl) ?_
  refine rn_iconst hx hb 2 rfl dX5_init_38 ?_
  refine rn_newQ (n := 2) CX hE hW.flat hA w_X5_init_cl9 hB.2.2.1 (by decide) (Nat.le_of_ble_eq_true rfl) (Nat.le_of_ble_eq_true rfl) dX5_init_39 (fun q4 H hW => ?_)
  have hW : wldS G A_ [[(o, .inr (5, [.ref q1, .ref q2, .ref q3, .null, .null, .null]))], tkW cA (consN q1 u1) T0, tkW cA (consN q2 u2) T0, [(q3, .inr (1, [.ref (prt u3 0 0), .int (nI 0)])), ((prt u3 0 0), .inl (cA 3, 6, .inr (.inr (.inr (.inr (stR (fun k => prt u3 (1 + k))))))))], tkW cA (prt u3 1) T0, tkW cA (prt u3 2) T0, tkW cA (prt u3 3) T0, tkW cA (prt u3 4) T0, tkW cA (prt u3 5) T0, tkW cA (prt u3 6) T0, [(q4, .inl (cA 3, 2, .inr (.inr (.inr (.inr (fun _ => none))))))]] s_.heap _ _ := wldS.snoc hW
  refine rpFS (T := TX5) (N := 6) (w' := [(o, .inr (5, [.ref q1, .ref q2, .ref q3, .ref q4, .null, .null]))]) (segs' := [[(o, .inr (5, [.ref q1, .ref q2, .ref q3, .ref q4, .null, .null]))], tkW cA (consN q1 u1) T0, tkW cA (consN q2 u2) T0, [(q3, .inr (1, [.ref (prt u3 0 0), .int (nI 0)])), ((prt u3 0 0), .inl (cA 3, 6, .inr (.inr (.inr (.inr (stR (fun k => prt u3 (1 + k))))))))], tkW cA (prt u3 1) T0, tkW cA (prt u3 2) T0, tkW cA (prt u3 3) T0, tkW cA (prt u3 4) T0, tkW cA (prt u3 5) T0, tkW cA (prt u3 6) T0, [(q4, .inl (cA 3, 2, .inr (.inr (.inr (.inr (fun _ => none))))))]]) CX hE hin hW 0 rfl in_X5_init_X5 tyX5 tyX5_ok nmX5 0 rfl rfl 3 (by decide) fl_X5_init_26 rfl rfl rfl rfl rfl (Nat.le_of_ble_eq_true rfl) rfl rfl dX5_init_42 (fun H locs hW => ?_)
  refine lv_aload_n hx hb dX5_init_45 rfl (lv_at hl 0 rfl) ?_
  refine rn_iconst hx hb 2 rfl dX5_init_46 ?_
  refine rn_newZ (n := 2) hx hb (hts _ w_X5_init_acZ) hE hW.flat hA (by decide) (Nat.le_of_ble_eq_true rfl) (Nat.le_of_ble_eq_true rfl) dX5_init_47 (fun q5 H hW => ?_)
  have hW : wldS G A_ [[(o, .inr (5, [.ref q1, .ref q2, .ref q3, .ref q4, .null, .null]))], tkW cA (consN q1 u1) T0, tkW cA (consN q2 u2) T0, [(q3, .inr (1, [.ref (prt u3 0 0), .int (nI 0)])), ((prt u3 0 0), .inl (cA 3, 6, .inr (.inr (.inr (.inr (stR (fun k => prt u3 (1 + k))))))))], tkW cA (prt u3 1) T0, tkW cA (prt u3 2) T0, tkW cA (prt u3 3) T0, tkW cA (prt u3 4) T0, tkW cA (prt u3 5) T0, tkW cA (prt u3 6) T0, [(q4, .inl (cA 3, 2, .inr (.inr (.inr (.inr (fun _ => none))))))], [(q5, .inl (cA 2, 2, .inl (fun _ => nI 0)))]] s_.heap _ _ := wldS.snoc hW
  refine rpFS (T := TX5) (N := 6) (w' := [(o, .inr (5, [.ref q1, .ref q2, .ref q3, .ref q4, .ref q5, .null]))]) (segs' := [[(o, .inr (5, [.ref q1, .ref q2, .ref q3, .ref q4, .ref q5, .null]))], tkW cA (consN q1 u1) T0, tkW cA (consN q2 u2) T0, [(q3, .inr (1, [.ref (prt u3 0 0), .int (nI 0)])), ((prt u3 0 0), .inl (cA 3, 6, .inr (.inr (.inr (.inr (stR (fun k => prt u3 (1 + k))))))))], tkW cA (prt u3 1) T0, tkW cA (prt u3 2) T0, tkW cA (prt u3 3) T0, tkW cA (prt u3 4) T0, tkW cA (prt u3 5) T0, tkW cA (prt u3 6) T0, [(q4, .inl (cA 3, 2, .inr (.inr (.inr (.inr (fun _ => none))))))], [(q5, .inl (cA 2, 2, .inl (fun _ => nI 0)))]]) CX hE hin hW 0 rfl in_X5_init_X5 tyX5 tyX5_ok nmX5 0 rfl rfl 4 (by decide) fl_X5_init_30 rfl rfl rfl rfl rfl (Nat.le_of_ble_eq_true rfl) rfl rfl dX5_init_49 (fun H locs hW => ?_)
  refine lv_aload_n hx hb dX5_init_52 rfl (lv_at hl 0 rfl) ?_
  refine rn_new (C := RX2) (T := TX2) (N := 2) (ci := 2) (fs := [.null, .int (nI 0)]) CX hE hW.flat hA in_X5_init_X2 tyX2 tyX2_ok w_X5_init_ncl34 w_X5_init_ninX2 w_X5_init_ini_X2 rfl dfs_X2 (Nat.le_of_ble_eq_true rfl) (Nat.le_of_ble_eq_true rfl) dX5_init_53 (fun q6 H hW => ?_)
  refine lv_dup hx hb dX5_init_56 rfl ?_
  refine mkIN (rest := [.ref q6, .ref o]) CX hE hW hA (c_X2_init l G cA q6) ⟨va_cnB 0 hts gX5_init_X2_init_n36 rfl rfl rfl (hE.2 _ nst_X5_36) (hts _ w_X5_init_ini_X2) hdi_X2_init ⟨Nat.le_of_ble_eq_true rfl, Nat.le_of_ble_eq_true rfl⟩, rfl, hts _ w_X5_init_im_X2_init⟩ BM0_blind (fun _ _ _ _ => trivial) hl.1 rfl (Nat.le_of_ble_eq_true rfl) dX5_init_57 ⟨Nat.le_of_ble_eq_true rfl, Nat.le_of_ble_eq_true rfl⟩ (fun u4 H locs hW => ?_)
  have hW : wldS G A_ [[(o, .inr (5, [.ref q1, .ref q2, .ref q3, .ref q4, .ref q5, .null]))], tkW cA (consN q1 u1) T0, tkW cA (consN q2 u2) T0, [(q3, .inr (1, [.ref (prt u3 0 0), .int (nI 0)])), ((prt u3 0 0), .inl (cA 3, 6, .inr (.inr (.inr (.inr (stR (fun k => prt u3 (1 + k))))))))], tkW cA (prt u3 1) T0, tkW cA (prt u3 2) T0, tkW cA (prt u3 3) T0, tkW cA (prt u3 4) T0, tkW cA (prt u3 5) T0, tkW cA (prt u3 6) T0, [(q4, .inl (cA 3, 2, .inr (.inr (.inr (.inr (fun _ => none))))))], [(q5, .inl (cA 2, 2, .inl (fun _ => nI 0)))], [(q6, .inr (2, [.ref (u4 0), .int (nI 0)])), ((u4 0), .inl (cA 1, 72, .inl (fun _ => nI 0)))]] s_.heap _ _ := wldS.app (more := [[(q6, .inr (2, [.ref (u4 0), .int (nI 0)])), ((u4 0), .inl (cA 1, 72, .inl (fun _ => nI 0)))]]) hW
  refine rpFS (T := TX5) (N := 6) (w' := [(o, .inr (5, [.ref q1, .ref q2, .ref q3, .ref q4, .ref q5, .ref q6]))]) (segs' := [[(o, .inr (5, [.ref q1, .ref q2, .ref q3, .ref q4, .ref q5, .ref q6]))], tkW cA (consN q1 u1) T0, tkW cA (consN q2 u2) T0, [(q3, .inr (1, [.ref (prt u3 0 0), .int (nI 0)])), ((prt u3 0 0), .inl (cA 3, 6, .inr (.inr (.inr (.inr (stR (fun k => prt u3 (1 + k))))))))], tkW cA (prt u3 1) T0, tkW cA (prt u3 2) T0, tkW cA (prt u3 3) T0, tkW cA (prt u3 4) T0, tkW cA (prt u3 5) T0, tkW cA (prt u3 6) T0, [(q4, .inl (cA 3, 2, .inr (.inr (.inr (.inr (fun _ => none))))))], [(q5, .inl (cA 2, 2, .inl (fun _ => nI 0)))], [(q6, .inr (2, [.ref (u4 0), .int (nI 0)])), ((u4 0), .inl (cA 1, 72, .inl (fun _ => nI 0)))]]) CX hE hin hW 0 rfl in_X5_init_X5 tyX5 tyX5_ok nmX5 0 rfl rfl 5 (by decide) fl_X5_init_37 rfl rfl rfl rfl rfl (Nat.le_of_ble_eq_true rfl) rfl rfl dX5_init_60 (fun H locs hW => ?_)
  refine rn_iconst hx hb 0 rfl dX5_init_63 ?_
  refine lv_istore_n (lv' := [(1, .int (nI 0)), (0, .ref o)]) hx hb dX5_init_64 rfl hl (by decide) rfl (fun ls hl => ?_)
  refine lv_iload_n hx hb dX5_init_65 rfl (lv_at hl 0 rfl) ?_
  refine rn_iconst hx hb 2 rfl dX5_init_66 ?_
  refine rn_icmp_ge hx hb (by omega) (by omega) dX5_init_67 (by decide) (tgt := 89) (fun c_67 => ?_) (fun c_67 => ?_)
  · exact absurd c_67 (by omega)
  · refine lv_aload_n hx hb dX5_init_70 rfl (lv_at hl 1 rfl) ?_
    refine rg (T := TX5) (N := 6) CX hE (hW.hP 0 rfl) in_X5_init_X5 0 rfl rfl 3 (by decide) fl_X5_init_26 rfl rfl dX5_init_71 ?_
    refine lv_iload_n hx hb dX5_init_74 rfl (lv_at hl 0 rfl) ?_
    refine rn_new (C := RX4) (T := TX4) (N := 8) (ci := 4) (fs := [.null, .null, .null, .null, .null, .null, .null, .int (nI 0)]) CX hE hW.flat hA in_X5_init_X4 tyX4 tyX4_ok w_X5_init_ncl9 w_X5_init_ninX4 w_X5_init_ini_X4 rfl dfs_X4 (Nat.le_of_ble_eq_true rfl) (Nat.le_of_ble_eq_true rfl) dX5_init_75 (fun q7 H hW => ?_)
    refine lv_dup hx hb dX5_init_78 rfl ?_
    refine mkI (rest := [.ref q7, .int (nI 0), .ref q4]) CX hE hW hA (c_X4_init l G cA t_ q7) (cwI 0 hts gX5_init_X4_init rfl rfl rfl (hts _ w_X5_init_ini_X4) (hts _ w_X5_init_ml11) (hts _ w_X5_init_im_X4_init) rfl hdi_X4_init ⟨Nat.le_of_ble_eq_true rfl, Nat.le_of_ble_eq_true rfl⟩) (FSM_blind t_) (fun U hU hWm hq => hB.sub hW.2.2 hU hWm hq) hl.1 rfl (Nat.le_of_ble_eq_true rfl) dX5_init_79 ⟨Nat.le_of_ble_eq_true rfl, Nat.le_of_ble_eq_true rfl⟩ (fun u5 H locs hW => ?_)
    have hW : wldS G A_ [[(o, .inr (5, [.ref q1, .ref q2, .ref q3, .ref q4, .ref q5, .ref q6]))], tkW cA (consN q1 u1) T0, tkW cA (consN q2 u2) T0, [(q3, .inr (1, [.ref (prt u3 0 0), .int (nI 0)])), ((prt u3 0 0), .inl (cA 3, 6, .inr (.inr (.inr (.inr (stR (fun k => prt u3 (1 + k))))))))], tkW cA (prt u3 1) T0, tkW cA (prt u3 2) T0, tkW cA (prt u3 3) T0, tkW cA (prt u3 4) T0, tkW cA (prt u3 5) T0, tkW cA (prt u3 6) T0, [(q4, .inl (cA 3, 2, .inr (.inr (.inr (.inr (fun _ => none))))))], [(q5, .inl (cA 2, 2, .inl (fun _ => nI 0)))], [(q6, .inr (2, [.ref (u4 0), .int (nI 0)])), ((u4 0), .inl (cA 1, 72, .inl (fun _ => nI 0)))], tkW cA (consN q7 u5) T0] s_.heap _ _ := wldS.snoc hW
    refine rn_aast3S (w' := [(q4, .inl (cA 3, 2, .inr (.inr (.inr (.inr (va_up (fun _ => none) 0 (some q7)))))))]) (segs' := [[(o, .inr (5, [.ref q1, .ref q2, .ref q3, .ref q4, .ref q5, .ref q6]))], tkW cA (consN q1 u1) T0, tkW cA (consN q2 u2) T0, [(q3, .inr (1, [.ref (prt u3 0 0), .int (nI 0)])), ((prt u3 0 0), .inl (cA 3, 6, .inr (.inr (.inr (.inr (stR (fun k => prt u3 (1 + k))))))))], tkW cA (prt u3 1) T0, tkW cA (prt u3 2) T0, tkW cA (prt u3 3) T0, tkW cA (prt u3 4) T0, tkW cA (prt u3 5) T0, tkW cA (prt u3 6) T0, [(q4, .inl (cA 3, 2, .inr (.inr (.inr (.inr (va_up (fun _ => none) 0 (some q7)))))))], [(q5, .inl (cA 2, 2, .inl (fun _ => nI 0)))], [(q6, .inr (2, [.ref (u4 0), .int (nI 0)])), ((u4 0), .inl (cA 1, 72, .inl (fun _ => nI 0)))], tkW cA (consN q7 u5) T0]) CX hE hW 10 rfl 0 rfl 13 rfl 0 rfl (j := 0) (by omega) (ltb rfl) rfl rfl dX5_init_82 (fun H locs hW => ?_)
    refine rn_iinc hx hb (n := 1) (lv' := [(1, .int (nI 1)), (0, .ref o)]) rfl dX5_init_83 hl (k := 0) rfl (by decide) rfl (fun ls hl => ?_)
    refine lv_goto (tgt := 65) hx hb dX5_init_86 (by decide) ?_
    refine lv_iload_n hx hb dX5_init_65 rfl (lv_at hl 0 rfl) ?_
    refine rn_iconst hx hb 2 rfl dX5_init_66 ?_
    refine rn_icmp_ge hx hb (by omega) (by omega) dX5_init_67 (by decide) (tgt := 89) (fun c_67 => ?_) (fun c_67 => ?_)
    · exact absurd c_67 (by omega)
    · refine lv_aload_n hx hb dX5_init_70 rfl (lv_at hl 1 rfl) ?_
      refine rg (T := TX5) (N := 6) CX hE (hW.hP 0 rfl) in_X5_init_X5 0 rfl rfl 3 (by decide) fl_X5_init_26 rfl rfl dX5_init_71 ?_
      refine lv_iload_n hx hb dX5_init_74 rfl (lv_at hl 0 rfl) ?_
      refine rn_new (C := RX4) (T := TX4) (N := 8) (ci := 4) (fs := [.null, .null, .null, .null, .null, .null, .null, .int (nI 0)]) CX hE hW.flat hA in_X5_init_X4 tyX4 tyX4_ok w_X5_init_ncl9 w_X5_init_ninX4 w_X5_init_ini_X4 rfl dfs_X4 (Nat.le_of_ble_eq_true rfl) (Nat.le_of_ble_eq_true rfl) dX5_init_75 (fun q8 H hW => ?_)
      refine lv_dup hx hb dX5_init_78 rfl ?_
      refine mkI (rest := [.ref q8, .int (nI 1), .ref q4]) CX hE hW hA (c_X4_init l G cA t_ q8) (cwI 0 hts gX5_init_X4_init rfl rfl rfl (hts _ w_X5_init_ini_X4) (hts _ w_X5_init_ml11) (hts _ w_X5_init_im_X4_init) rfl hdi_X4_init ⟨Nat.le_of_ble_eq_true rfl, Nat.le_of_ble_eq_true rfl⟩) (FSM_blind t_) (fun U hU hWm hq => hB.sub hW.2.2 hU hWm hq) hl.1 rfl (Nat.le_of_ble_eq_true rfl) dX5_init_79 ⟨Nat.le_of_ble_eq_true rfl, Nat.le_of_ble_eq_true rfl⟩ (fun u6 H locs hW => ?_)
      have hW : wldS G A_ [[(o, .inr (5, [.ref q1, .ref q2, .ref q3, .ref q4, .ref q5, .ref q6]))], tkW cA (consN q1 u1) T0, tkW cA (consN q2 u2) T0, [(q3, .inr (1, [.ref (prt u3 0 0), .int (nI 0)])), ((prt u3 0 0), .inl (cA 3, 6, .inr (.inr (.inr (.inr (stR (fun k => prt u3 (1 + k))))))))], tkW cA (prt u3 1) T0, tkW cA (prt u3 2) T0, tkW cA (prt u3 3) T0, tkW cA (prt u3 4) T0, tkW cA (prt u3 5) T0, tkW cA (prt u3 6) T0, [(q4, .inl (cA 3, 2, .inr (.inr (.inr (.inr (va_up (fun _ => none) 0 (some q7)))))))], [(q5, .inl (cA 2, 2, .inl (fun _ => nI 0)))], [(q6, .inr (2, [.ref (u4 0), .int (nI 0)])), ((u4 0), .inl (cA 1, 72, .inl (fun _ => nI 0)))], tkW cA (consN q7 u5) T0, tkW cA (consN q8 u6) T0] s_.heap _ _ := wldS.snoc hW
      refine rn_aast3S (w' := [(q4, .inl (cA 3, 2, .inr (.inr (.inr (.inr (va_up (va_up (fun _ => none) 0 (some q7)) 1 (some q8)))))))]) (segs' := [[(o, .inr (5, [.ref q1, .ref q2, .ref q3, .ref q4, .ref q5, .ref q6]))], tkW cA (consN q1 u1) T0, tkW cA (consN q2 u2) T0, [(q3, .inr (1, [.ref (prt u3 0 0), .int (nI 0)])), ((prt u3 0 0), .inl (cA 3, 6, .inr (.inr (.inr (.inr (stR (fun k => prt u3 (1 + k))))))))], tkW cA (prt u3 1) T0, tkW cA (prt u3 2) T0, tkW cA (prt u3 3) T0, tkW cA (prt u3 4) T0, tkW cA (prt u3 5) T0, tkW cA (prt u3 6) T0, [(q4, .inl (cA 3, 2, .inr (.inr (.inr (.inr (va_up (va_up (fun _ => none) 0 (some q7)) 1 (some q8)))))))], [(q5, .inl (cA 2, 2, .inl (fun _ => nI 0)))], [(q6, .inr (2, [.ref (u4 0), .int (nI 0)])), ((u4 0), .inl (cA 1, 72, .inl (fun _ => nI 0)))], tkW cA (consN q7 u5) T0, tkW cA (consN q8 u6) T0]) CX hE hW 10 rfl 0 rfl 14 rfl 0 rfl (j := 1) (by omega) (ltb rfl) rfl rfl dX5_init_82 (fun H locs hW => ?_)
      refine rn_iinc hx hb (n := 1) (lv' := [(1, .int (nI 2)), (0, .ref o)]) rfl dX5_init_83 hl (k := 0) rfl (by decide) rfl (fun ls hl => ?_)
      refine lv_goto (tgt := 65) hx hb dX5_init_86 (by decide) ?_
      refine lv_iload_n hx hb dX5_init_65 rfl (lv_at hl 0 rfl) ?_
      refine rn_iconst hx hb 2 rfl dX5_init_66 ?_
      refine rn_icmp_ge hx hb (by omega) (by omega) dX5_init_67 (by decide) (tgt := 89) (fun c_67 => ?_) (fun c_67 => ?_)
      · obtain ⟨f_, hf0, hf1, hf2, hf3, hf4, hf5, hf6, hf7, hf8, hf9, hf10⟩ : ∃ f_ : Nat → Nat → Nat, f_ 0 = (fun k_ => match k_ with | 0 => q4 | 1 => q5 | 2 => q3 | 3 => prt u3 0 0 | 4 => q6 | _ => u4 0) ∧ f_ 1 = consN q1 u1 ∧ f_ 2 = consN q2 u2 ∧ f_ 3 = consN q7 u5 ∧ f_ 4 = consN q8 u6 ∧ f_ 5 = prt u3 1 ∧ f_ 6 = prt u3 2 ∧ f_ 7 = prt u3 3 ∧ f_ 8 = prt u3 4 ∧ f_ 9 = prt u3 5 ∧ f_ 10 = prt u3 6 := ⟨fun i_ => match i_ with | 0 => (fun k_ => match k_ with | 0 => q4 | 1 => q5 | 2 => q3 | 3 => prt u3 0 0 | 4 => q6 | _ => u4 0) | 1 => consN q1 u1 | 2 => consN q2 u2 | 3 => consN q7 u5 | 4 => consN q8 u6 | 5 => prt u3 1 | 6 => prt u3 2 | 7 => prt u3 3 | 8 => prt u3 4 | 9 => prt u3 5 | _ => prt u3 6, rfl, rfl, rfl, rfl, rfl, rfl, rfl, rfl, rfl, rfl, rfl⟩
        have p0 : prt (encU f_) 0 = (fun k_ => match k_ with | 0 => q4 | 1 => q5 | 2 => q3 | 3 => prt u3 0 0 | 4 => q6 | _ => u4 0) := (prt_enc f_ 0 (by decide)).trans hf0
        have p1 : prt (encU f_) 1 = consN q1 u1 := (prt_enc f_ 1 (by decide)).trans hf1
        have p2 : prt (encU f_) 2 = consN q2 u2 := (prt_enc f_ 2 (by decide)).trans hf2
        have p3 : prt (encU f_) 3 = consN q7 u5 := (prt_enc f_ 3 (by decide)).trans hf3
        have p4 : prt (encU f_) 4 = consN q8 u6 := (prt_enc f_ 4 (by decide)).trans hf4
        have p5 : prt (encU f_) 5 = prt u3 1 := (prt_enc f_ 5 (by decide)).trans hf5
        have p6 : prt (encU f_) 6 = prt u3 2 := (prt_enc f_ 6 (by decide)).trans hf6
        have p7 : prt (encU f_) 7 = prt u3 3 := (prt_enc f_ 7 (by decide)).trans hf7
        have p8 : prt (encU f_) 8 = prt u3 4 := (prt_enc f_ 8 (by decide)).trans hf8
        have p9 : prt (encU f_) 9 = prt u3 5 := (prt_enc f_ 9 (by decide)).trans hf9
        have p10 : prt (encU f_) 10 = prt u3 6 := (prt_enc f_ 10 (by decide)).trans hf10
        have hW := hW.sub (wc := [[(o, .inr (5, [.ref q1, .ref q2, .ref q3, .ref q4, .ref q5, .ref q6]))], [(q3, .inr (1, [.ref (prt u3 0 0), .int (nI 0)])), ((prt u3 0 0), .inl (cA 3, 6, .inr (.inr (.inr (.inr (stR (fun k => prt u3 (1 + k))))))))], tkW cA (prt u3 1) T0, tkW cA (prt u3 2) T0, tkW cA (prt u3 3) T0, tkW cA (prt u3 4) T0, tkW cA (prt u3 5) T0, tkW cA (prt u3 6) T0, tkW cA (consN q1 u1) T0, tkW cA (consN q2 u2) T0, [(q4, .inl (cA 3, 2, .inr (.inr (.inr (.inr (va_up (va_up (fun _ => none) 0 (some q7)) 1 (some q8)))))))], [(q5, .inl (cA 2, 2, .inl (fun _ => nI 0)))], tkW cA (consN q7 u5) T0, tkW cA (consN q8 u6) T0, [(q6, .inr (2, [.ref (u4 0), .int (nI 0)])), ((u4 0), .inl (cA 1, 72, .inl (fun _ => nI 0)))]]) [0, 3, 4, 5, 6, 7, 8, 9, 1, 2, 10, 11, 13, 14, 12] (by decide) rfl
        have hs : ∀ j, j < 6 → stR (fun k => prt u3 (1 + k)) j = stR (fun k => prt (encU f_) (5 + k)) j := fun j hj => by
          match j, hj with
          | 0, _ => show some (prt u3 1 0) = some (prt (encU f_) 5 0); rw [p5]
          | 1, _ => show some (prt u3 2 0) = some (prt (encU f_) 6 0); rw [p6]
          | 2, _ => show some (prt u3 3 0) = some (prt (encU f_) 7 0); rw [p7]
          | 3, _ => show some (prt u3 4 0) = some (prt (encU f_) 8 0); rw [p8]
          | 4, _ => show some (prt u3 5 0) = some (prt (encU f_) 9 0); rw [p9]
          | 5, _ => show some (prt u3 6 0) = some (prt (encU f_) 10 0); rw [p10]
          | j + 6, h => exact absurd h (by omega)
        have hW : wldS G A_ [[(o, .inr (5, [.ref q1, .ref q2, .ref q3, .ref q4, .ref q5, .ref q6]))], [(q3, .inr (1, [.ref (prt u3 0 0), .int (nI 0)])), ((prt u3 0 0), .inl (cA 3, 6, .inr (.inr (.inr (.inr (stR (fun k => prt (encU f_) (5 + k))))))))], tkW cA (prt u3 1) T0, tkW cA (prt u3 2) T0, tkW cA (prt u3 3) T0, tkW cA (prt u3 4) T0, tkW cA (prt u3 5) T0, tkW cA (prt u3 6) T0, tkW cA (consN q1 u1) T0, tkW cA (consN q2 u2) T0, [(q4, .inl (cA 3, 2, .inr (.inr (.inr (.inr (va_up (va_up (fun _ => none) 0 (some q7)) 1 (some q8)))))))], [(q5, .inl (cA 2, 2, .inl (fun _ => nI 0)))], tkW cA (consN q7 u5) T0, tkW cA (consN q8 u6) T0, [(q6, .inr (2, [.ref (u4 0), .int (nI 0)])), ((u4 0), .inl (cA 1, 72, .inl (fun _ => nI 0)))]] s_.heap _ _ := wldS.re hW 1 rfl 1 rfl (va_cell_extq hs) rfl rfl
        have hs2 : ∀ j, j < 2 → (va_up (va_up (fun _ => none) 0 (some q7)) 1 (some q8)) j = sl2 (prt (encU f_) 3 0) (prt (encU f_) 4 0) j := fun j hj => by
          rw [p3, p4]
          match j, hj with
          | 0, _ => rfl
          | 1, _ => rfl
          | j + 2, h => exact absurd h (by omega)
        have hW : wldS G A_ [[(o, .inr (5, [.ref q1, .ref q2, .ref q3, .ref q4, .ref q5, .ref q6]))], [(q3, .inr (1, [.ref (prt u3 0 0), .int (nI 0)])), ((prt u3 0 0), .inl (cA 3, 6, .inr (.inr (.inr (.inr (stR (fun k => prt (encU f_) (5 + k))))))))], tkW cA (prt u3 1) T0, tkW cA (prt u3 2) T0, tkW cA (prt u3 3) T0, tkW cA (prt u3 4) T0, tkW cA (prt u3 5) T0, tkW cA (prt u3 6) T0, tkW cA (consN q1 u1) T0, tkW cA (consN q2 u2) T0, [(q4, .inl (cA 3, 2, .inr (.inr (.inr (.inr (sl2 (prt (encU f_) 3 0) (prt (encU f_) 4 0)))))))], [(q5, .inl (cA 2, 2, .inl (fun _ => nI 0)))], tkW cA (consN q7 u5) T0, tkW cA (consN q8 u6) T0, [(q6, .inr (2, [.ref (u4 0), .int (nI 0)])), ((u4 0), .inl (cA 1, 72, .inl (fun _ => nI 0)))]] s_.heap _ _ := wldS.re hW 10 rfl 0 rfl (va_cell_extq hs2) rfl rfl
        have hW : wld G A_ (([[(o, .inr (5, [.ref (prt (encU f_) 1 0), .ref (prt (encU f_) 2 0), .ref (prt (encU f_) 0 2), .ref (prt (encU f_) 0 0), .ref (prt (encU f_) 0 1), .ref (prt (encU f_) 0 4)]))], [(prt (encU f_) 0 2, .inr (1, [.ref (prt (encU f_) 0 3), .int (nI 0)])), (prt (encU f_) 0 3, .inl (cA 3, 6, .inr (.inr (.inr (.inr (stR (fun k => prt (encU f_) (5 + k))))))))], tkW cA (prt (encU f_) 5) T0, tkW cA (prt (encU f_) 6) T0, tkW cA (prt (encU f_) 7) T0, tkW cA (prt (encU f_) 8) T0, tkW cA (prt (encU f_) 9) T0, tkW cA (prt (encU f_) 10) T0, tkW cA (prt (encU f_) 1) T0, tkW cA (prt (encU f_) 2) T0, [(prt (encU f_) 0 0, .inl (cA 3, 2, .inr (.inr (.inr (.inr (sl2 (prt (encU f_) 3 0) (prt (encU f_) 4 0))))))), (prt (encU f_) 0 1, .inl (cA 2, 2, .inl (fun _ => nI 0)))], tkW cA (prt (encU f_) 3) T0, tkW cA (prt (encU f_) 4) T0, [(prt (encU f_) 0 4, .inr (2, [.ref (prt (encU f_) 0 5), .int (nI 0)])), (prt (encU f_) 0 5, .inl (cA 1, 72, .inl (fun _ => nI 0)))]] : List va_W).flatten) s_.heap H locs := by
          rw [p3, p4] at hW ⊢
          rw [p0, p1, p2, p5, p6, p7, p8, p9, p10]
          exact hW.flat
        exact mk_ret CX hrr hlk (encU f_) hW dX5_init_89
      · exact absurd c_67 (by omega)
