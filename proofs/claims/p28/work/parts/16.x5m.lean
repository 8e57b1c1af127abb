theorem fl_X5_floor_22 : Cond.fieldLink RX5 22 RX5 (TX5 2).2.1 (TX5 2).2.2.1 ∈ wsX5_floor := by decide +kernel
theorem in_X5_floor_X5 : ∀ w ∈ wsX50, w ∈ wsX5_floor := by decide +kernel
theorem fl_X5_floor_12 : Cond.fieldLink RX5 12 RX5 (TX5 0).2.1 (TX5 0).2.2.1 ∈ wsX5_floor := by decide +kernel
theorem hdv_X1_keep : yX1_keep.cls = RX1 ∧ yX1_keep.cls ≠ "java/lang/invoke/MethodHandle" ∧ yX1_keep.cls ≠ "java/lang/invoke/VarHandle" ∧ (parseMethodDescriptor yX1_keep.desc).map (fun d => d.parameters.length) = some 1 := by decide +kernel
theorem fl_X5_floor_73 : Cond.fieldLink RX5 73 RX4 (TX4 1).2.1 (TX4 1).2.2.1 ∈ wsX5_floor := by decide +kernel
theorem in_X5_floor_X4 : ∀ w ∈ wsX40, w ∈ wsX5_floor := by decide +kernel
theorem hdv_X4_lay : yX4_lay.cls = RX4 ∧ yX4_lay.cls ≠ "java/lang/invoke/MethodHandle" ∧ yX4_lay.cls ≠ "java/lang/invoke/VarHandle" ∧ (parseMethodDescriptor yX4_lay.desc).map (fun d => d.parameters.length) = some 2 := by decide +kernel
theorem fl_X5_floor_63 : Cond.fieldLink RX5 63 RX4 (TX4 5).2.1 (TX4 5).2.2.1 ∈ wsX5_floor := by decide +kernel
set_option maxHeartbeats 8000000 in
set_option maxRecDepth 100000 in
theorem c_X5_floor_k (l : Launch) (G : va_G) (cA : Nat → ClassId) (x : Nat → Nat) (a : Nat → Nat) (b : Nat → Nat) (T : TV) (hn : Nat) (ha : Nat → Nat → Nat) (hT : Nat → TV) (kx : Nat) (ky : Nat) (f : Int32) (hhn : hn ≤ 6) (hok : okT T) (hkx : kx < 10) (hky : ky < 6) (hf : inP f (nI 0) (nI 3)) (hno : ¬ (f = nI 2 ∧ ¬ lastF (T.2 0) (ky * 10 + kx) (T.2 4 1) = -6)) : MUi l yX5_floor wsX5_floor ({ frames := 4, cells := 0, slots := 0, locals := 128 }) G cA BM0 (([[(x 0, .inr (5, [.ref (a 0), .ref (b 0), .ref (x 3), .ref (x 1), .ref (x 2), .ref (x 5)]))], [(x 3, .inr (1, [.ref (x 4), .int (nI hn)])), (x 4, .inl (cA 3, 6, .inr (.inr (.inr (.inr (stR ha))))))], tkW cA (ha 0) (hT 0), tkW cA (ha 1) (hT 1), tkW cA (ha 2) (hT 2), tkW cA (ha 3) (hT 3), tkW cA (ha 4) (hT 4), tkW cA (ha 5) (hT 5), tkW cA a T] : List va_W).flatten) [.ref (x 0), .int (nI kx), .int (nI ky), .int f] (([[(x 0, .inr (5, [.ref (a 0), .ref (b 0), .ref (x 3), .ref (x 1), .ref (x 2), .ref (x 5)]))], [(x 3, .inr (1, [.ref (x 4), .int (nI (keepN hn))])), (x 4, .inl (cA 3, 6, .inr (.inr (.inr (.inr (stR (keepA ha hn)))))))], tkW cA ((keepA ha hn) 0) ((keepT hT hn T) 0), tkW cA ((keepA ha hn) 1) ((keepT hT hn T) 1), tkW cA ((keepA ha hn) 2) ((keepT hT hn T) 2), tkW cA ((keepA ha hn) 3) ((keepT hT hn T) 3), tkW cA ((keepA ha hn) 4) ((keepT hT hn T) 4), tkW cA ((keepA ha hn) 5) ((keepT hT hn T) 5), tkW cA a (layT T (ky * 10 + kx) f)] : List va_W).flatten) (T.1 1 (ky * 10 + kx)) := by
  refine MUi.mk (own := RX5) (by decide) rfl rfl (Nat.le_of_ble_eq_true rfl) (fun p_ e_ s_ m_ below meth c_ ls A_ CX hr hlk hW hA hE hB hl => ?_)
  obtain ⟨hx, hb, hml, hown, hts⟩ := id CX
  have hl : lv_has ls 6 [(0, .ref (x 0)), (1, .int (nI kx)), (2, .int (nI ky)), (3, .int f)] := hl
  have hW : wldS G A_ [[(x 0, .inr (5, [.ref (a 0), .ref (b 0), .ref (x 3), .ref (x 1), .ref (x 2), .ref (x 5)]))], [(x 3, .inr (1, [.ref (x 4), .int (nI hn)])), (x 4, .inl (cA 3, 6, .inr (.inr (.inr (.inr (stR ha))))))], tkW cA (ha 0) (hT 0), tkW cA (ha 1) (hT 1), tkW cA (ha 2) (hT 2), tkW cA (ha 3) (hT 3), tkW cA (ha 4) (hT 4), tkW cA (ha 5) (hT 5), tkW cA a T] s_.heap s_.heap [] := wldS.of hW
  have hdc := hok.1.2
  have hnd := hok.1.1
  have hnp := hok.2.1
  have hpc := hok.2.2
  refine lv_iload_n hx hb dX5_floor_0 rfl (lv_at hl 1 rfl) ?_
  refine lv_iload_n hx hb dX5_floor_1 rfl (lv_at hl 2 rfl) ?_
  refine roS CX hE va_P_nil (c_X5_isCell l G cA (nI kx) (nI ky) ) (va_cwS 2 hts gX5_floor_X5_isCell rfl rfl rfl hdn_X5_isCell ⟨Nat.le_of_ble_eq_true rfl, Nat.le_of_ble_eq_true rfl⟩) [] rfl B0_blind (fun _ _ _ => trivial) rfl hl.1 (rest := []) rfl (Nat.le_of_ble_eq_true rfl) dX5_floor_2 ⟨Nat.zero_le _, Nat.zero_le _⟩ ?_
  refine rb_if_ne hx hb dX5_floor_5 (by decide) (tgt := 10) (fun c_5 => ?_) (fun c_5 => ?_)
  · refine lv_iload_n hx hb dX5_floor_10 rfl (lv_at hl 3 rfl) ?_
    refine lv_if_lt hx hb dX5_floor_11 (by decide) (tgt := 19) (fun c_11 => ?_) (fun c_11 => ?_)
    · exact absurd c_11 (Int32.not_lt.mpr hf.1)
    · refine lv_iload_n hx hb dX5_floor_14 rfl (lv_at hl 3 rfl) ?_
      refine rn_iconst hx hb 3 rfl dX5_floor_15 ?_
      refine lv_icmp_le hx hb dX5_floor_16 (by decide) (tgt := 22) (fun c_16 => ?_) (fun c_16 => ?_)
      · refine lv_iload_n hx hb dX5_floor_22 rfl (lv_at hl 1 rfl) ?_
        refine lv_iload_n hx hb dX5_floor_23 rfl (lv_at hl 2 rfl) ?_
        refine roS CX hE va_P_nil (c_X5_placeOf l G cA kx ky ) (va_cwS 2 hts gX5_floor_X5_placeOf rfl rfl rfl hdn_X5_placeOf ⟨Nat.le_of_ble_eq_true rfl, Nat.le_of_ble_eq_true rfl⟩) [] rfl B0_blind (fun _ _ _ => trivial) rfl hl.1 (rest := []) rfl (Nat.le_of_ble_eq_true rfl) dX5_floor_24 ⟨Nat.zero_le _, Nat.zero_le _⟩ ?_
        refine lv_istore (lv' := [(4, .int (nI (ky * 10 + kx))), (0, .ref (x 0)), (1, .int (nI kx)), (2, .int (nI ky)), (3, .int f)]) hx hb dX5_floor_27 hl (by decide) rfl (fun ls hl => ?_)
        refine lv_iload_n hx hb dX5_floor_29 rfl (lv_at hl 4 rfl) ?_
        refine rn_iconst hx hb 2 rfl dX5_floor_30 ?_
        refine lv_icmp_ne hx hb dX5_floor_31 (by decide) (tgt := 54) (fun c_31 => ?_) (fun c_31 => ?_)
        · refine lv_aload_n hx hb dX5_floor_54 rfl (lv_at hl 1 rfl) ?_
          refine rg (T := TX5) (N := 6) CX hE (hW.hP 0 rfl) in_X5_floor_X5 0 rfl rfl 2 (by decide) fl_X5_floor_22 rfl rfl dX5_floor_55 ?_
          refine lv_aload_n hx hb dX5_floor_58 rfl (lv_at hl 1 rfl) ?_
          refine rg (T := TX5) (N := 6) CX hE (hW.hP 0 rfl) in_X5_floor_X5 0 rfl rfl 0 (by decide) fl_X5_floor_12 rfl rfl dX5_floor_59 ?_
          refine muvVS (segs' := [[(x 0, .inr (5, [.ref (a 0), .ref (b 0), .ref (x 3), .ref (x 1), .ref (x 2), .ref (x 5)]))], [(x 3, .inr (1, [.ref (x 4), .int (nI (keepN hn))])), (x 4, .inl (cA 3, 6, .inr (.inr (.inr (.inr (stR (keepA ha hn)))))))], tkW cA ((keepA ha hn) 0) ((keepT hT hn T) 0), tkW cA ((keepA ha hn) 1) ((keepT hT hn T) 1), tkW cA ((keepA ha hn) 2) ((keepT hT hn T) 2), tkW cA ((keepA ha hn) 3) ((keepT hT hn T) 3), tkW cA ((keepA ha hn) 4) ((keepT hT hn T) 4), tkW cA ((keepA ha hn) 5) ((keepT hT hn T) 5), tkW cA a T]) CX hE hW hA (c_X1_keep l G cA x hn ha hT a T hhn) (cwV 1 hts gX5_floor_X1_keep rfl rfl rfl hdv_X1_keep ⟨Nat.le_of_ble_eq_true rfl, Nat.le_of_ble_eq_true rfl⟩) [1, 2, 3, 4, 5, 6, 7, 8] (by decide) rfl rfl rfl (hW.hP 1 rfl) 0 rfl rfl rfl BM0_blind (fun _ _ _ _ => trivial) rfl hl.1 (rest := []) rfl (Nat.le_of_ble_eq_true rfl) dX5_floor_62 ⟨Nat.zero_le _, Nat.zero_le _⟩ (fun H locs hW => ?_)
          refine lv_aload_n hx hb dX5_floor_65 rfl (lv_at hl 1 rfl) ?_
          refine rg (T := TX5) (N := 6) CX hE (hW.hP 0 rfl) in_X5_floor_X5 0 rfl rfl 0 (by decide) fl_X5_floor_12 rfl rfl dX5_floor_66 ?_
          refine rg (T := TX4) (N := 8) CX hE (hW.hP 8 rfl) in_X5_floor_X4 0 rfl rfl 1 (by decide) fl_X5_floor_73 rfl rfl dX5_floor_69 ?_
          refine lv_iload hx hb dX5_floor_72 (lv_at hl 0 rfl) ?_
          refine rn_iald CX hE (hW.hP 8 rfl) 2 rfl (j := (ky * 10 + kx)) (by omega) (ltb rfl) dX5_floor_74 ?_
          refine lv_istore (lv' := [(5, .int ((T.1 1) (ky * 10 + kx))), (4, .int (nI (ky * 10 + kx))), (0, .ref (x 0)), (1, .int (nI kx)), (2, .int (nI ky)), (3, .int f)]) hx hb dX5_floor_75 hl (by decide) rfl (fun ls hl => ?_)
          refine lv_aload_n hx hb dX5_floor_77 rfl (lv_at hl 2 rfl) ?_
          refine rg (T := TX5) (N := 6) CX hE (hW.hP 0 rfl) in_X5_floor_X5 0 rfl rfl 0 (by decide) fl_X5_floor_12 rfl rfl dX5_floor_78 ?_
          refine lv_iload hx hb dX5_floor_81 (lv_at hl 1 rfl) ?_
          refine lv_iload_n hx hb dX5_floor_83 rfl (lv_at hl 5 rfl) ?_
          refine muvVP (w' := [(a 0, .inr (4, [.ref (a 1), .ref (a 2), .ref (a 3), .ref (a 4), .ref (a 5), .ref (a 6), .ref (a 11), .int (nI ((T.2 4 0)))])), (a 1, .inl (cA 0, 4, .inl (T.1 0))), (a 2, .inl (cA 0, 60, .inl (upd (T.1 1) (ky * 10 + kx) f))), (a 3, .inl (cA 0, 60, .inl (if f = nI 2 then upd (T.1 2) (ky * 10 + kx) (nI 0) else (T.1 2)))), (a 4, .inl (cA 0, 60, .inl (if f = nI 2 then upd (T.1 3) (ky * 10 + kx) (nI 0) else (T.1 3)))), (a 5, .inl (cA 0, 60, .inl (T.1 4))), (a 6, .inr (0, [.ref (a 7), .ref (a 8), .ref (a 9), .ref (a 10), .int (nI (T.2 4 1))])), (a 7, .inl (cA 0, 5, .inl (fun k => nI ((T.2 0) k)))), (a 8, .inl (cA 0, 5, .inl (fun k => nI ((T.2 1) k)))), (a 9, .inl (cA 0, 5, .inl (T.1 5))), (a 10, .inl (cA 0, 5, .inl (T.1 6))), (a 11, .inr (3, [.ref (a 12), .ref (a 13), .ref (a 14), .int (nI (T.2 4 2))])), (a 12, .inl (cA 0, 3, .inl (fun k => nI ((T.2 2) k)))), (a 13, .inl (cA 0, 3, .inl (fun k => nI ((T.2 3) k)))), (a 14, .inl (cA 4, 3, .inr (.inr (.inr (.inr (row3 (a 15) (a 16) (a 17))))))), (a 15, .inl (cA 0, 24, .inl (T.1 7))), (a 16, .inl (cA 0, 24, .inl (T.1 8))), (a 17, .inl (cA 0, 24, .inl (T.1 9)))]) (segs' := [[(x 0, .inr (5, [.ref (a 0), .ref (b 0), .ref (x 3), .ref (x 1), .ref (x 2), .ref (x 5)]))], [(x 3, .inr (1, [.ref (x 4), .int (nI (keepN hn))])), (x 4, .inl (cA 3, 6, .inr (.inr (.inr (.inr (stR (keepA ha hn)))))))], tkW cA ((keepA ha hn) 0) ((keepT hT hn T) 0), tkW cA ((keepA ha hn) 1) ((keepT hT hn T) 1), tkW cA ((keepA ha hn) 2) ((keepT hT hn T) 2), tkW cA ((keepA ha hn) 3) ((keepT hT hn T) 3), tkW cA ((keepA ha hn) 4) ((keepT hT hn T) 4), tkW cA ((keepA ha hn) 5) ((keepT hT hn T) 5), [(a 0, .inr (4, [.ref (a 1), .ref (a 2), .ref (a 3), .ref (a 4), .ref (a 5), .ref (a 6), .ref (a 11), .int (nI ((T.2 4 0)))])), (a 1, .inl (cA 0, 4, .inl (T.1 0))), (a 2, .inl (cA 0, 60, .inl (upd (T.1 1) (ky * 10 + kx) f))), (a 3, .inl (cA 0, 60, .inl (if f = nI 2 then upd (T.1 2) (ky * 10 + kx) (nI 0) else (T.1 2)))), (a 4, .inl (cA 0, 60, .inl (if f = nI 2 then upd (T.1 3) (ky * 10 + kx) (nI 0) else (T.1 3)))), (a 5, .inl (cA 0, 60, .inl (T.1 4))), (a 6, .inr (0, [.ref (a 7), .ref (a 8), .ref (a 9), .ref (a 10), .int (nI (T.2 4 1))])), (a 7, .inl (cA 0, 5, .inl (fun k => nI ((T.2 0) k)))), (a 8, .inl (cA 0, 5, .inl (fun k => nI ((T.2 1) k)))), (a 9, .inl (cA 0, 5, .inl (T.1 5))), (a 10, .inl (cA 0, 5, .inl (T.1 6))), (a 11, .inr (3, [.ref (a 12), .ref (a 13), .ref (a 14), .int (nI (T.2 4 2))])), (a 12, .inl (cA 0, 3, .inl (fun k => nI ((T.2 2) k)))), (a 13, .inl (cA 0, 3, .inl (fun k => nI ((T.2 3) k)))), (a 14, .inl (cA 4, 3, .inr (.inr (.inr (.inr (row3 (a 15) (a 16) (a 17))))))), (a 15, .inl (cA 0, 24, .inl (T.1 7))), (a 16, .inl (cA 0, 24, .inl (T.1 8))), (a 17, .inl (cA 0, 24, .inl (T.1 9)))]]) CX hE hW hA (c_X4_lay l G cA a (T.2 4 0) (T.1 1) (T.1 2) (T.1 3) (ky * 10 + kx) f (by omega)) (cwV 2 hts gX5_floor_X4_lay rfl rfl rfl hdv_X4_lay ⟨Nat.le_of_ble_eq_true rfl, Nat.le_of_ble_eq_true rfl⟩) 8 rfl [0, 2, 3, 4] (by decide) rfl rfl rfl rfl 0 rfl rfl rfl BM0_blind (fun _ _ _ _ => trivial) rfl hl.1 (rest := []) rfl (Nat.le_of_ble_eq_true rfl) dX5_floor_84 ⟨Nat.zero_le _, Nat.zero_le _⟩ (fun H locs hW => ?_)
          have hW : wldS G A_ [[(x 0, .inr (5, [.ref (a 0), .ref (b 0), .ref (x 3), .ref (x 1), .ref (x 2), .ref (x 5)]))], [(x 3, .inr (1, [.ref (x 4), .int (nI (keepN hn))])), (x 4, .inl (cA 3, 6, .inr (.inr (.inr (.inr (stR (keepA ha hn)))))))], tkW cA ((keepA ha hn) 0) ((keepT hT hn T) 0), tkW cA ((keepA ha hn) 1) ((keepT hT hn T) 1), tkW cA ((keepA ha hn) 2) ((keepT hT hn T) 2), tkW cA ((keepA ha hn) 3) ((keepT hT hn T) 3), tkW cA ((keepA ha hn) 4) ((keepT hT hn T) 4), tkW cA ((keepA ha hn) 5) ((keepT hT hn T) 5), tkW cA a (layT T (ky * 10 + kx) f)] s_.heap H locs := hW
          refine lv_iload hx hb dX5_floor_87 (lv_at hl 0 rfl) ?_
          exact mu_reti CX hr hlk rfl rfl hW.flat dX5_floor_89
        · refine lv_aload_n hx hb dX5_floor_34 rfl (lv_at hl 1 rfl) ?_
          refine rg (T := TX5) (N := 6) CX hE (hW.hP 0 rfl) in_X5_floor_X5 0 rfl rfl 0 (by decide) fl_X5_floor_12 rfl rfl dX5_floor_35 ?_
          refine rg (T := TX4) (N := 8) CX hE (hW.hP 8 rfl) in_X5_floor_X4 0 rfl rfl 5 (by decide) fl_X5_floor_63 rfl rfl dX5_floor_38 ?_
          refine lv_iload hx hb dX5_floor_41 (lv_at hl 0 rfl) ?_
          refine roVg CX hE ((hW.hP 8 rfl).sub [6, 7] rfl) (c_X0_lastIn l G cA a (T.2 4 1) (T.2 0) (ky * 10 + kx) hnd (fun k hk => (hdc k hk).1) (by omega)) (cwV 1 hts gX5_floor_X0_lastIn rfl rfl rfl hdv_X0_lastIn ⟨Nat.le_of_ble_eq_true rfl, Nat.le_of_ble_eq_true rfl⟩) (hW.hP 8 rfl) 6 rfl rfl rfl B0_blind (fun _ _ _ => trivial) rfl hl.1 (rest := []) rfl (Nat.le_of_ble_eq_true rfl) dX5_floor_43 ⟨Nat.zero_le _, Nat.zero_le _⟩ ?_
          refine lv_bipush (v := (-6)) hx hb dX5_floor_46 kb_m6 ?_
          refine lv_icmp_eq hx hb dX5_floor_48 (by decide) (tgt := 54) (fun c_48 => ?_) (fun c_48 => ?_)
          · refine lv_aload_n hx hb dX5_floor_54 rfl (lv_at hl 1 rfl) ?_
            refine rg (T := TX5) (N := 6) CX hE (hW.hP 0 rfl) in_X5_floor_X5 0 rfl rfl 2 (by decide) fl_X5_floor_22 rfl rfl dX5_floor_55 ?_
            refine lv_aload_n hx hb dX5_floor_58 rfl (lv_at hl 1 rfl) ?_
            refine rg (T := TX5) (N := 6) CX hE (hW.hP 0 rfl) in_X5_floor_X5 0 rfl rfl 0 (by decide) fl_X5_floor_12 rfl rfl dX5_floor_59 ?_
            refine muvVS (segs' := [[(x 0, .inr (5, [.ref (a 0), .ref (b 0), .ref (x 3), .ref (x 1), .ref (x 2), .ref (x 5)]))], [(x 3, .inr (1, [.ref (x 4), .int (nI (keepN hn))])), (x 4, .inl (cA 3, 6, .inr (.inr (.inr (.inr (stR (keepA ha hn)))))))], tkW cA ((keepA ha hn) 0) ((keepT hT hn T) 0), tkW cA ((keepA ha hn) 1) ((keepT hT hn T) 1), tkW cA ((keepA ha hn) 2) ((keepT hT hn T) 2), tkW cA ((keepA ha hn) 3) ((keepT hT hn T) 3), tkW cA ((keepA ha hn) 4) ((keepT hT hn T) 4), tkW cA ((keepA ha hn) 5) ((keepT hT hn T) 5), tkW cA a T]) CX hE hW hA (c_X1_keep l G cA x hn ha hT a T hhn) (cwV 1 hts gX5_floor_X1_keep rfl rfl rfl hdv_X1_keep ⟨Nat.le_of_ble_eq_true rfl, Nat.le_of_ble_eq_true rfl⟩) [1, 2, 3, 4, 5, 6, 7, 8] (by decide) rfl rfl rfl (hW.hP 1 rfl) 0 rfl rfl rfl BM0_blind (fun _ _ _ _ => trivial) rfl hl.1 (rest := []) rfl (Nat.le_of_ble_eq_true rfl) dX5_floor_62 ⟨Nat.zero_le _, Nat.zero_le _⟩ (fun H locs hW => ?_)
            refine lv_aload_n hx hb dX5_floor_65 rfl (lv_at hl 1 rfl) ?_
            refine rg (T := TX5) (N := 6) CX hE (hW.hP 0 rfl) in_X5_floor_X5 0 rfl rfl 0 (by decide) fl_X5_floor_12 rfl rfl dX5_floor_66 ?_
            refine rg (T := TX4) (N := 8) CX hE (hW.hP 8 rfl) in_X5_floor_X4 0 rfl rfl 1 (by decide) fl_X5_floor_73 rfl rfl dX5_floor_69 ?_
            refine lv_iload hx hb dX5_floor_72 (lv_at hl 0 rfl) ?_
            refine rn_iald CX hE (hW.hP 8 rfl) 2 rfl (j := (ky * 10 + kx)) (by omega) (ltb rfl) dX5_floor_74 ?_
            refine lv_istore (lv' := [(5, .int ((T.1 1) (ky * 10 + kx))), (4, .int (nI (ky * 10 + kx))), (0, .ref (x 0)), (1, .int (nI kx)), (2, .int (nI ky)), (3, .int f)]) hx hb dX5_floor_75 hl (by decide) rfl (fun ls hl => ?_)
            refine lv_aload_n hx hb dX5_floor_77 rfl (lv_at hl 2 rfl) ?_
            refine rg (T := TX5) (N := 6) CX hE (hW.hP 0 rfl) in_X5_floor_X5 0 rfl rfl 0 (by decide) fl_X5_floor_12 rfl rfl dX5_floor_78 ?_
            refine lv_iload hx hb dX5_floor_81 (lv_at hl 1 rfl) ?_
            refine lv_iload_n hx hb dX5_floor_83 rfl (lv_at hl 5 rfl) ?_
            refine muvVP (w' := [(a 0, .inr (4, [.ref (a 1), .ref (a 2), .ref (a 3), .ref (a 4), .ref (a 5), .ref (a 6), .ref (a 11), .int (nI ((T.2 4 0)))])), (a 1, .inl (cA 0, 4, .inl (T.1 0))), (a 2, .inl (cA 0, 60, .inl (upd (T.1 1) (ky * 10 + kx) f))), (a 3, .inl (cA 0, 60, .inl (if f = nI 2 then upd (T.1 2) (ky * 10 + kx) (nI 0) else (T.1 2)))), (a 4, .inl (cA 0, 60, .inl (if f = nI 2 then upd (T.1 3) (ky * 10 + kx) (nI 0) else (T.1 3)))), (a 5, .inl (cA 0, 60, .inl (T.1 4))), (a 6, .inr (0, [.ref (a 7), .ref (a 8), .ref (a 9), .ref (a 10), .int (nI (T.2 4 1))])), (a 7, .inl (cA 0, 5, .inl (fun k => nI ((T.2 0) k)))), (a 8, .inl (cA 0, 5, .inl (fun k => nI ((T.2 1) k)))), (a 9, .inl (cA 0, 5, .inl (T.1 5))), (a 10, .inl (cA 0, 5, .inl (T.1 6))), (a 11, .inr (3, [.ref (a 12), .ref (a 13), .ref (a 14), .int (nI (T.2 4 2))])), (a 12, .inl (cA 0, 3, .inl (fun k => nI ((T.2 2) k)))), (a 13, .inl (cA 0, 3, .inl (fun k => nI ((T.2 3) k)))), (a 14, .inl (cA 4, 3, .inr (.inr (.inr (.inr (row3 (a 15) (a 16) (a 17))))))), (a 15, .inl (cA 0, 24, .inl (T.1 7))), (a 16, .inl (cA 0, 24, .inl (T.1 8))), (a 17, .inl (cA 0, 24, .inl (T.1 9)))]) (segs' := [[(x 0, .inr (5, [.ref (a 0), .ref (b 0), .ref (x 3), .ref (x 1), .ref (x 2), .ref (x 5)]))], [(x 3, .inr (1, [.ref (x 4), .int (nI (keepN hn))])), (x 4, .inl (cA 3, 6, .inr (.inr (.inr (.inr (stR (keepA ha hn)))))))], tkW cA ((keepA ha hn) 0) ((keepT hT hn T) 0), tkW cA ((keepA ha hn) 1) ((keepT hT hn T) 1), tkW cA ((keepA ha hn) 2) ((keepT hT hn T) 2), tkW cA ((keepA ha hn) 3) ((keepT hT hn T) 3), tkW cA ((keepA ha hn) 4) ((keepT hT hn T) 4), tkW cA ((keepA ha hn) 5) ((keepT hT hn T) 5), [(a 0, .inr (4, [.ref (a 1), .ref (a 2), .ref (a 3), .ref (a 4), .ref (a 5), .ref (a 6), .ref (a 11), .int (nI ((T.2 4 0)))])), (a 1, .inl (cA 0, 4, .inl (T.1 0))), (a 2, .inl (cA 0, 60, .inl (upd (T.1 1) (ky * 10 + kx) f))), (a 3, .inl (cA 0, 60, .inl (if f = nI 2 then upd (T.1 2) (ky * 10 + kx) (nI 0) else (T.1 2)))), (a 4, .inl (cA 0, 60, .inl (if f = nI 2 then upd (T.1 3) (ky * 10 + kx) (nI 0) else (T.1 3)))), (a 5, .inl (cA 0, 60, .inl (T.1 4))), (a 6, .inr (0, [.ref (a 7), .ref (a 8), .ref (a 9), .ref (a 10), .int (nI (T.2 4 1))])), (a 7, .inl (cA 0, 5, .inl (fun k => nI ((T.2 0) k)))), (a 8, .inl (cA 0, 5, .inl (fun k => nI ((T.2 1) k)))), (a 9, .inl (cA 0, 5, .inl (T.1 5))), (a 10, .inl (cA 0, 5, .inl (T.1 6))), (a 11, .inr (3, [.ref (a 12), .ref (a 13), .ref (a 14), .int (nI (T.2 4 2))])), (a 12, .inl (cA 0, 3, .inl (fun k => nI ((T.2 2) k)))), (a 13, .inl (cA 0, 3, .inl (fun k => nI ((T.2 3) k)))), (a 14, .inl (cA 4, 3, .inr (.inr (.inr (.inr (row3 (a 15) (a 16) (a 17))))))), (a 15, .inl (cA 0, 24, .inl (T.1 7))), (a 16, .inl (cA 0, 24, .inl (T.1 8))), (a 17, .inl (cA 0, 24, .inl (T.1 9)))]]) CX hE hW hA (c_X4_lay l G cA a (T.2 4 0) (T.1 1) (T.1 2) (T.1 3) (ky * 10 + kx) f (by omega)) (cwV 2 hts gX5_floor_X4_lay rfl rfl rfl hdv_X4_lay ⟨Nat.le_of_ble_eq_true rfl, Nat.le_of_ble_eq_true rfl⟩) 8 rfl [0, 2, 3, 4] (by decide) rfl rfl rfl rfl 0 rfl rfl rfl BM0_blind (fun _ _ _ _ => trivial) rfl hl.1 (rest := []) rfl (Nat.le_of_ble_eq_true rfl) dX5_floor_84 ⟨Nat.zero_le _, Nat.zero_le _⟩ (fun H locs hW => ?_)
            have hW : wldS G A_ [[(x 0, .inr (5, [.ref (a 0), .ref (b 0), .ref (x 3), .ref (x 1), .ref (x 2), .ref (x 5)]))], [(x 3, .inr (1, [.ref (x 4), .int (nI (keepN hn))])), (x 4, .inl (cA 3, 6, .inr (.inr (.inr (.inr (stR (keepA ha hn)))))))], tkW cA ((keepA ha hn) 0) ((keepT hT hn T) 0), tkW cA ((keepA ha hn) 1) ((keepT hT hn T) 1), tkW cA ((keepA ha hn) 2) ((keepT hT hn T) 2), tkW cA ((keepA ha hn) 3) ((keepT hT hn T) 3), tkW cA ((keepA ha hn) 4) ((keepT hT hn T) 4), tkW cA ((keepA ha hn) 5) ((keepT hT hn T) 5), tkW cA a (layT T (ky * 10 + kx) f)] s_.heap H locs := hW
            refine lv_iload hx hb dX5_floor_87 (lv_at hl 0 rfl) ?_
            exact mu_reti CX hr hlk rfl rfl hW.flat dX5_floor_89
          · exact absurd ⟨c_31, c_48⟩ hno
      · exact absurd hf.2 c_16
  · exact absurd (cellP_of hkx hky) c_5
theorem kb_m5 : (Int8.ofInt (-5)).toInt32 = (-5) := by decide +kernel
set_option maxHeartbeats 4000000 in
set_option maxRecDepth 100000 in
theorem c_X5_floor_e (l : Launch) (G : va_G) (cA : Nat → ClassId) (x : Nat → Nat) (a : Nat → Nat) (b : Nat → Nat) (T : TV) (x_ : Int32) (y : Int32) (f : Int32) (hok : okT T) (hbad : ∀ i j, i < 10 → j < 6 → x_ = nI i → y = nI j → inP f (nI 0) (nI 3) → f = nI 2 ∧ ¬ lastF (T.2 0) (j * 10 + i) (T.2 4 1) = -6) : RO l yX5_floor wsX5_floor ({ frames := 2, cells := 0, slots := 0, locals := 43 }) G cA B0 (([[(x 0, .inr (5, [.ref (a 0), .ref (b 0), .ref (x 3), .ref (x 1), .ref (x 2), .ref (x 5)]))], tkW cA a T] : List va_W).flatten) [.ref (x 0), .int x_, .int y, .int f] (flE x_ y f) := by
  refine RO.mk (own := RX5) (by decide) rfl rfl (Nat.le_of_ble_eq_true rfl) (fun p_ e_ s_ m_ below meth c_ ls CX hr hlk hP hE hB hl => ?_)
  obtain ⟨hx, hb, hml, hown, hts⟩ := id CX
  have hl : lv_has ls 6 [(0, .ref (x 0)), (1, .int x_), (2, .int y), (3, .int f)] := hl
  have hP : ∀ (k : Nat) (w : va_W), ([[(x 0, .inr (5, [.ref (a 0), .ref (b 0), .ref (x 3), .ref (x 1), .ref (x 2), .ref (x 5)]))], tkW cA a T] : List va_W)[k]? = some w → va_P G vwCl w s_.heap := va_P_seg hP
  have hdc := hok.1.2
  have hnd := hok.1.1
  have hnp := hok.2.1
  have hpc := hok.2.2
  refine lv_iload_n hx hb dX5_floor_0 rfl (lv_at hl 1 rfl) ?_
  refine lv_iload_n hx hb dX5_floor_1 rfl (lv_at hl 2 rfl) ?_
  refine roS CX hE va_P_nil (c_X5_isCell l G cA x_ y ) (va_cwS 2 hts gX5_floor_X5_isCell rfl rfl rfl hdn_X5_isCell ⟨Nat.le_of_ble_eq_true rfl, Nat.le_of_ble_eq_true rfl⟩) [] rfl B0_blind (fun _ _ _ => trivial) rfl hl.1 (rest := []) rfl (Nat.le_of_ble_eq_true rfl) dX5_floor_2 ⟨Nat.zero_le _, Nat.zero_le _⟩ ?_
  refine rb_if_ne hx hb dX5_floor_5 (by decide) (tgt := 10) (fun c_5 => ?_) (fun c_5 => ?_)
  · obtain ⟨kx, ky, hkx, hky, ex, ey⟩ := cellP_nat c_5
    subst ex
    subst ey
    refine lv_iload_n hx hb dX5_floor_10 rfl (lv_at hl 3 rfl) ?_
    refine lv_if_lt hx hb dX5_floor_11 (by decide) (tgt := 19) (fun c_11 => ?_) (fun c_11 => ?_)
    · refine lv_bipush (v := (-2)) hx hb dX5_floor_19 kb_m2 ?_
      exact ro_ret CX hr hlk (by first | exact flE2 (cellP_of hkx hky) (fun q => absurd c_11 (Int32.not_lt.mpr q.1)) | exact flE2 (cellP_of hkx hky) (fun q => c_16 q.2)) rfl dX5_floor_21
    · refine lv_iload_n hx hb dX5_floor_14 rfl (lv_at hl 3 rfl) ?_
      refine rn_iconst hx hb 3 rfl dX5_floor_15 ?_
      refine lv_icmp_le hx hb dX5_floor_16 (by decide) (tgt := 22) (fun c_16 => ?_) (fun c_16 => ?_)
      · refine lv_iload_n hx hb dX5_floor_22 rfl (lv_at hl 1 rfl) ?_
        refine lv_iload_n hx hb dX5_floor_23 rfl (lv_at hl 2 rfl) ?_
        refine roS CX hE va_P_nil (c_X5_placeOf l G cA kx ky ) (va_cwS 2 hts gX5_floor_X5_placeOf rfl rfl rfl hdn_X5_placeOf ⟨Nat.le_of_ble_eq_true rfl, Nat.le_of_ble_eq_true rfl⟩) [] rfl B0_blind (fun _ _ _ => trivial) rfl hl.1 (rest := []) rfl (Nat.le_of_ble_eq_true rfl) dX5_floor_24 ⟨Nat.zero_le _, Nat.zero_le _⟩ ?_
        refine lv_istore (lv' := [(4, .int (nI (ky * 10 + kx))), (0, .ref (x 0)), (1, .int (nI kx)), (2, .int (nI ky)), (3, .int f)]) hx hb dX5_floor_27 hl (by decide) rfl (fun ls hl => ?_)
        refine lv_iload_n hx hb dX5_floor_29 rfl (lv_at hl 4 rfl) ?_
        refine rn_iconst hx hb 2 rfl dX5_floor_30 ?_
        refine lv_icmp_ne hx hb dX5_floor_31 (by decide) (tgt := 54) (fun c_31 => ?_) (fun c_31 => ?_)
        · exact absurd (hbad kx ky hkx hky rfl rfl ⟨Int32.not_lt.mp c_11, c_16⟩).1 c_31
        · refine lv_aload_n hx hb dX5_floor_34 rfl (lv_at hl 1 rfl) ?_
          refine rg (T := TX5) (N := 6) CX hE (hP 0 _ rfl) in_X5_floor_X5 0 rfl rfl 0 (by decide) fl_X5_floor_12 rfl rfl dX5_floor_35 ?_
          refine rg (T := TX4) (N := 8) CX hE (hP 1 _ rfl) in_X5_floor_X4 0 rfl rfl 5 (by decide) fl_X5_floor_63 rfl rfl dX5_floor_38 ?_
          refine lv_iload hx hb dX5_floor_41 (lv_at hl 0 rfl) ?_
          refine roVg CX hE ((hP 1 _ rfl).sub [6, 7] rfl) (c_X0_lastIn l G cA a (T.2 4 1) (T.2 0) (ky * 10 + kx) hnd (fun k hk => (hdc k hk).1) (by omega)) (cwV 1 hts gX5_floor_X0_lastIn rfl rfl rfl hdv_X0_lastIn ⟨Nat.le_of_ble_eq_true rfl, Nat.le_of_ble_eq_true rfl⟩) (hP 1 _ rfl) 6 rfl rfl rfl B0_blind (fun _ _ _ => trivial) rfl hl.1 (rest := []) rfl (Nat.le_of_ble_eq_true rfl) dX5_floor_43 ⟨Nat.zero_le _, Nat.zero_le _⟩ ?_
          refine lv_bipush (v := (-6)) hx hb dX5_floor_46 kb_m6 ?_
          refine lv_icmp_eq hx hb dX5_floor_48 (by decide) (tgt := 54) (fun c_48 => ?_) (fun c_48 => ?_)
          · exact absurd c_48 (hbad kx ky hkx hky rfl rfl ⟨Int32.not_lt.mp c_11, c_16⟩).2
          · refine lv_bipush (v := (-5)) hx hb dX5_floor_51 kb_m5 ?_
            exact ro_ret CX hr hlk (flE3 (cellP_of hkx hky) ⟨Int32.not_lt.mp c_11, c_16⟩) rfl dX5_floor_53
      · refine lv_bipush (v := (-2)) hx hb dX5_floor_19 kb_m2 ?_
        exact ro_ret CX hr hlk (by first | exact flE2 (cellP_of hkx hky) (fun q => absurd c_11 (Int32.not_lt.mpr q.1)) | exact flE2 (cellP_of hkx hky) (fun q => c_16 q.2)) rfl dX5_floor_21
  · refine lv_iconst (v := (-1)) hx hb dX5_floor_8 (by decide) ?_
    exact ro_ret CX hr hlk (flE1 c_5) rfl dX5_floor_9
theorem kb_40 : (Int8.ofInt (40)).toInt32 = (nI 40) := by decide +kernel
theorem ks_900 : (Int16.ofInt (900)).toInt32 = (nI 900) := by decide +kernel
theorem fl_X5_dip_12 : Cond.fieldLink RX5 12 RX5 (TX5 0).2.1 (TX5 0).2.2.1 ∈ wsX5_dip := by decide +kernel
theorem in_X5_dip_X5 : ∀ w ∈ wsX50, w ∈ wsX5_dip := by decide +kernel
theorem fl_X5_dip_73 : Cond.fieldLink RX5 73 RX4 (TX4 1).2.1 (TX4 1).2.2.1 ∈ wsX5_dip := by decide +kernel
theorem in_X5_dip_X4 : ∀ w ∈ wsX40, w ∈ wsX5_dip := by decide +kernel
theorem fl_X5_dip_63 : Cond.fieldLink RX5 63 RX4 (TX4 5).2.1 (TX4 5).2.2.1 ∈ wsX5_dip := by decide +kernel
theorem fl_X5_dip_105 : Cond.fieldLink RX5 105 RX0 (TX0 4).2.1 (TX0 4).2.2.1 ∈ wsX5_dip := by decide +kernel
theorem in_X5_dip_X0 : ∀ w ∈ wsX00, w ∈ wsX5_dip := by decide +kernel
theorem fl_X5_dip_22 : Cond.fieldLink RX5 22 RX5 (TX5 2).2.1 (TX5 2).2.2.1 ∈ wsX5_dip := by decide +kernel
theorem hdv_X0_append : yX0_append.cls = RX0 ∧ yX0_append.cls ≠ "java/lang/invoke/MethodHandle" ∧ yX0_append.cls ≠ "java/lang/invoke/VarHandle" ∧ (parseMethodDescriptor yX0_append.desc).map (fun d => d.parameters.length) = some 4 := by decide +kernel
set_option maxHeartbeats 8000000 in
set_option maxRecDepth 100000 in
theorem c_X5_dip_k (l : Launch) (G : va_G) (cA : Nat → ClassId) (x : Nat → Nat) (a : Nat → Nat) (b : Nat → Nat) (T : TV) (hn : Nat) (ha : Nat → Nat → Nat) (hT : Nat → TV) (kx : Nat) (ky : Nat) (p : Nat) (sz : Nat) (sh : Nat) (hhn : hn ≤ 6) (hok : okT T) (hkx : kx < 10) (hky : ky < 6) (hp2 : 2 ≤ p) (hp : p ≤ 40) (hs1 : 1 ≤ sz) (hs : sz ≤ 900) (hsh : sh < p) (hw : ¬ T.1 1 (ky * 10 + kx) = nI 2) (hn5 : T.2 4 1 < 5) : MUi l yX5_dip wsX5_dip ({ frames := 4, cells := 0, slots := 0, locals := 128 }) G cA BM0 (([[(x 0, .inr (5, [.ref (a 0), .ref (b 0), .ref (x 3), .ref (x 1), .ref (x 2), .ref (x 5)]))], [(x 3, .inr (1, [.ref (x 4), .int (nI hn)])), (x 4, .inl (cA 3, 6, .inr (.inr (.inr (.inr (stR ha))))))], tkW cA (ha 0) (hT 0), tkW cA (ha 1) (hT 1), tkW cA (ha 2) (hT 2), tkW cA (ha 3) (hT 3), tkW cA (ha 4) (hT 4), tkW cA (ha 5) (hT 5), tkW cA a T] : List va_W).flatten) [.ref (x 0), .int (nI kx), .int (nI ky), .int (nI p), .int (nI sz), .int (nI sh)] (([[(x 0, .inr (5, [.ref (a 0), .ref (b 0), .ref (x 3), .ref (x 1), .ref (x 2), .ref (x 5)]))], [(x 3, .inr (1, [.ref (x 4), .int (nI (keepN hn))])), (x 4, .inl (cA 3, 6, .inr (.inr (.inr (.inr (stR (keepA ha hn)))))))], tkW cA ((keepA ha hn) 0) ((keepT hT hn T) 0), tkW cA ((keepA ha hn) 1) ((keepT hT hn T) 1), tkW cA ((keepA ha hn) 2) ((keepT hT hn T) 2), tkW cA ((keepA ha hn) 3) ((keepT hT hn T) 3), tkW cA ((keepA ha hn) 4) ((keepT hT hn T) 4), tkW cA ((keepA ha hn) 5) ((keepT hT hn T) 5), tkW cA a (dipT T (ky * 10 + kx) p (nI sz) (nI sh))] : List va_W).flatten) (nI (T.2 4 1)) := by
  refine MUi.mk (own := RX5) (by decide) rfl rfl (Nat.le_of_ble_eq_true rfl) (fun p_ e_ s_ m_ below meth c_ ls A_ CX hr hlk hW hA hE hB hl => ?_)
  obtain ⟨hx, hb, hml, hown, hts⟩ := id CX
  have hl : lv_has ls 7 [(0, .ref (x 0)), (1, .int (nI kx)), (2, .int (nI ky)), (3, .int (nI p)), (4, .int (nI sz)), (5, .int (nI sh))] := hl
  have hW : wldS G A_ [[(x 0, .inr (5, [.ref (a 0), .ref (b 0), .ref (x 3), .ref (x 1), .ref (x 2), .ref (x 5)]))], [(x 3, .inr (1, [.ref (x 4), .int (nI hn)])), (x 4, .inl (cA 3, 6, .inr (.inr (.inr (.inr (stR ha))))))], tkW cA (ha 0) (hT 0), tkW cA (ha 1) (hT 1), tkW cA (ha 2) (hT 2), tkW cA (ha 3) (hT 3), tkW cA (ha 4) (hT 4), tkW cA (ha 5) (hT 5), tkW cA a T] s_.heap s_.heap [] := wldS.of hW
  have hdc := hok.1.2
  have hnd := hok.1.1
  have hnp := hok.2.1
  have hpc := hok.2.2
  refine lv_iload_n hx hb dX5_dip_0 rfl (lv_at hl 1 rfl) ?_
  refine lv_iload_n hx hb dX5_dip_1 rfl (lv_at hl 2 rfl) ?_
  refine roS CX hE va_P_nil (c_X5_isCell l G cA (nI kx) (nI ky) ) (va_cwS 2 hts gX5_dip_X5_isCell rfl rfl rfl hdn_X5_isCell ⟨Nat.le_of_ble_eq_true rfl, Nat.le_of_ble_eq_true rfl⟩) [] rfl B0_blind (fun _ _ _ => trivial) rfl hl.1 (rest := []) rfl (Nat.le_of_ble_eq_true rfl) dX5_dip_2 ⟨Nat.zero_le _, Nat.zero_le _⟩ ?_
  refine rb_if_ne hx hb dX5_dip_5 (by decide) (tgt := 10) (fun c_5 => ?_) (fun c_5 => ?_)
  · refine lv_iload_n hx hb dX5_dip_10 rfl (lv_at hl 3 rfl) ?_
    refine rn_iconst hx hb 2 rfl dX5_dip_11 ?_
    refine lv_bipush (v := (nI 40)) hx hb dX5_dip_12 kb_40 ?_
    refine roS CX hE va_P_nil (c_X5_isIn l G cA (nI p) (nI 2) (nI 40) ) (va_cwS 3 hts gX5_dip_X5_isIn rfl rfl rfl hdn_X5_isIn ⟨Nat.le_of_ble_eq_true rfl, Nat.le_of_ble_eq_true rfl⟩) [] rfl B0_blind (fun _ _ _ => trivial) rfl hl.1 (rest := []) rfl (Nat.le_of_ble_eq_true rfl) dX5_dip_14 ⟨Nat.zero_le _, Nat.zero_le _⟩ ?_
    refine rb_if_eq hx hb dX5_dip_17 (by decide) (tgt := 44) (fun c_17 => ?_) (fun c_17 => ?_)
    · exact absurd (inP_nI hp2 hp (by decide)) c_17
    · refine lv_iload hx hb dX5_dip_20 (lv_at hl 4 rfl) ?_
      refine rn_iconst hx hb 1 rfl dX5_dip_22 ?_
      refine lv_sipush (v := (nI 900)) hx hb dX5_dip_23 ks_900 ?_
      refine roS CX hE va_P_nil (c_X5_isIn l G cA (nI sz) (nI 1) (nI 900) ) (va_cwS 3 hts gX5_dip_X5_isIn rfl rfl rfl hdn_X5_isIn ⟨Nat.le_of_ble_eq_true rfl, Nat.le_of_ble_eq_true rfl⟩) [] rfl B0_blind (fun _ _ _ => trivial) rfl hl.1 (rest := []) rfl (Nat.le_of_ble_eq_true rfl) dX5_dip_26 ⟨Nat.zero_le _, Nat.zero_le _⟩ ?_
      refine rb_if_eq hx hb dX5_dip_29 (by decide) (tgt := 44) (fun c_29 => ?_) (fun c_29 => ?_)
      · exact absurd (inP_nI hs1 hs (by decide)) c_29
      · refine lv_iload hx hb dX5_dip_32 (lv_at hl 5 rfl) ?_
        refine rn_iconst hx hb 0 rfl dX5_dip_34 ?_
        refine lv_iload_n hx hb dX5_dip_35 rfl (lv_at hl 3 rfl) ?_
        refine rn_iconst hx hb 1 rfl dX5_dip_36 ?_
        refine rn_isub hx hb (by omega) dX5_dip_37 ?_
        refine roS CX hE va_P_nil (c_X5_isIn l G cA (nI sh) (nI 0) (nI (p - 1)) ) (va_cwS 3 hts gX5_dip_X5_isIn rfl rfl rfl hdn_X5_isIn ⟨Nat.le_of_ble_eq_true rfl, Nat.le_of_ble_eq_true rfl⟩) [] rfl B0_blind (fun _ _ _ => trivial) rfl hl.1 (rest := []) rfl (Nat.le_of_ble_eq_true rfl) dX5_dip_38 ⟨Nat.zero_le _, Nat.zero_le _⟩ ?_
        refine rb_if_ne hx hb dX5_dip_41 (by decide) (tgt := 47) (fun c_41 => ?_) (fun c_41 => ?_)
        · refine lv_iload_n hx hb dX5_dip_47 rfl (lv_at hl 1 rfl) ?_
          refine lv_iload_n hx hb dX5_dip_48 rfl (lv_at hl 2 rfl) ?_
          refine roS CX hE va_P_nil (c_X5_placeOf l G cA kx ky ) (va_cwS 2 hts gX5_dip_X5_placeOf rfl rfl rfl hdn_X5_placeOf ⟨Nat.le_of_ble_eq_true rfl, Nat.le_of_ble_eq_true rfl⟩) [] rfl B0_blind (fun _ _ _ => trivial) rfl hl.1 (rest := []) rfl (Nat.le_of_ble_eq_true rfl) dX5_dip_49 ⟨Nat.zero_le _, Nat.zero_le _⟩ ?_
          refine lv_istore (lv' := [(6, .int (nI (ky * 10 + kx))), (0, .ref (x 0)), (1, .int (nI kx)), (2, .int (nI ky)), (3, .int (nI p)), (4, .int (nI sz)), (5, .int (nI sh))]) hx hb dX5_dip_52 hl (by decide) rfl (fun ls hl => ?_)
          refine lv_aload_n hx hb dX5_dip_54 rfl (lv_at hl 1 rfl) ?_
          refine rg (T := TX5) (N := 6) CX hE (hW.hP 0 rfl) in_X5_dip_X5 0 rfl rfl 0 (by decide) fl_X5_dip_12 rfl rfl dX5_dip_55 ?_
          refine rg (T := TX4) (N := 8) CX hE (hW.hP 8 rfl) in_X5_dip_X4 0 rfl rfl 1 (by decide) fl_X5_dip_73 rfl rfl dX5_dip_58 ?_
          refine lv_iload hx hb dX5_dip_61 (lv_at hl 0 rfl) ?_
          refine rn_iald CX hE (hW.hP 8 rfl) 2 rfl (j := (ky * 10 + kx)) (by omega) (ltb rfl) dX5_dip_63 ?_
          refine rn_iconst hx hb 2 rfl dX5_dip_64 ?_
          refine lv_icmp_ne hx hb dX5_dip_65 (by decide) (tgt := 71) (fun c_65 => ?_) (fun c_65 => ?_)
          · refine lv_aload_n hx hb dX5_dip_71 rfl (lv_at hl 1 rfl) ?_
            refine rg (T := TX5) (N := 6) CX hE (hW.hP 0 rfl) in_X5_dip_X5 0 rfl rfl 0 (by decide) fl_X5_dip_12 rfl rfl dX5_dip_72 ?_
            refine rg (T := TX4) (N := 8) CX hE (hW.hP 8 rfl) in_X5_dip_X4 0 rfl rfl 5 (by decide) fl_X5_dip_63 rfl rfl dX5_dip_75 ?_
            refine rg (T := TX0) (N := 5) CX hE (hW.hP 8 rfl) in_X5_dip_X0 6 rfl rfl 4 (by decide) fl_X5_dip_105 rfl rfl dX5_dip_78 ?_
            refine rn_iconst hx hb 5 rfl dX5_dip_81 ?_
            refine rn_icmp_lt hx hb (by omega) (by omega) dX5_dip_82 (by decide) (tgt := 88) (fun c_82 => ?_) (fun c_82 => ?_)
            · refine lv_aload_n hx hb dX5_dip_88 rfl (lv_at hl 1 rfl) ?_
              refine rg (T := TX5) (N := 6) CX hE (hW.hP 0 rfl) in_X5_dip_X5 0 rfl rfl 2 (by decide) fl_X5_dip_22 rfl rfl dX5_dip_89 ?_
              refine lv_aload_n hx hb dX5_dip_92 rfl (lv_at hl 1 rfl) ?_
              refine rg (T := TX5) (N := 6) CX hE (hW.hP 0 rfl) in_X5_dip_X5 0 rfl rfl 0 (by decide) fl_X5_dip_12 rfl rfl dX5_dip_93 ?_
              refine muvVS (segs' := [[(x 0, .inr (5, [.ref (a 0), .ref (b 0), .ref (x 3), .ref (x 1), .ref (x 2), .ref (x 5)]))], [(x 3, .inr (1, [.ref (x 4), .int (nI (keepN hn))])), (x 4, .inl (cA 3, 6, .inr (.inr (.inr (.inr (stR (keepA ha hn)))))))], tkW cA ((keepA ha hn) 0) ((keepT hT hn T) 0), tkW cA ((keepA ha hn) 1) ((keepT hT hn T) 1), tkW cA ((keepA ha hn) 2) ((keepT hT hn T) 2), tkW cA ((keepA ha hn) 3) ((keepT hT hn T) 3), tkW cA ((keepA ha hn) 4) ((keepT hT hn T) 4), tkW cA ((keepA ha hn) 5) ((keepT hT hn T) 5), tkW cA a T]) CX hE hW hA (c_X1_keep l G cA x hn ha hT a T hhn) (cwV 1 hts gX5_dip_X1_keep rfl rfl rfl hdv_X1_keep ⟨Nat.le_of_ble_eq_true rfl, Nat.le_of_ble_eq_true rfl⟩) [1, 2, 3, 4, 5, 6, 7, 8] (by decide) rfl rfl rfl (hW.hP 1 rfl) 0 rfl rfl rfl BM0_blind (fun _ _ _ _ => trivial) rfl hl.1 (rest := []) rfl (Nat.le_of_ble_eq_true rfl) dX5_dip_96 ⟨Nat.zero_le _, Nat.zero_le _⟩ (fun H locs hW => ?_)
              refine lv_aload_n hx hb dX5_dip_99 rfl (lv_at hl 1 rfl) ?_
              refine rg (T := TX5) (N := 6) CX hE (hW.hP 0 rfl) in_X5_dip_X5 0 rfl rfl 0 (by decide) fl_X5_dip_12 rfl rfl dX5_dip_100 ?_
              refine rg (T := TX4) (N := 8) CX hE (hW.hP 8 rfl) in_X5_dip_X4 0 rfl rfl 5 (by decide) fl_X5_dip_63 rfl rfl dX5_dip_103 ?_
              refine lv_iload hx hb dX5_dip_106 (lv_at hl 0 rfl) ?_
              refine lv_iload_n hx hb dX5_dip_108 rfl (lv_at hl 4 rfl) ?_
              refine lv_iload hx hb dX5_dip_109 (lv_at hl 5 rfl) ?_
              refine lv_iload hx hb dX5_dip_111 (lv_at hl 6 rfl) ?_
              refine muiVP (w' := [(a 0, .inr (4, [.ref (a 1), .ref (a 2), .ref (a 3), .ref (a 4), .ref (a 5), .ref (a 6), .ref (a 11), .int (nI (T.2 4 0))])), (a 1, .inl (cA 0, 4, .inl (T.1 0))), (a 2, .inl (cA 0, 60, .inl (T.1 1))), (a 3, .inl (cA 0, 60, .inl (T.1 2))), (a 4, .inl (cA 0, 60, .inl (T.1 3))), (a 5, .inl (cA 0, 60, .inl (T.1 4))), (a 6, .inr (0, [.ref (a 7), .ref (a 8), .ref (a 9), .ref (a 10), .int (nI ((T.2 4 1) + 1))])), (a 7, .inl (cA 0, 5, .inl (fun k => nI ((va_up (T.2 0) (T.2 4 1) (ky * 10 + kx)) k)))), (a 8, .inl (cA 0, 5, .inl (fun k => nI ((va_up (T.2 1) (T.2 4 1) p) k)))), (a 9, .inl (cA 0, 5, .inl (upd (T.1 5) (T.2 4 1) (nI sz)))), (a 10, .inl (cA 0, 5, .inl (upd (T.1 6) (T.2 4 1) (nI sh)))), (a 11, .inr (3, [.ref (a 12), .ref (a 13), .ref (a 14), .int (nI (T.2 4 2))])), (a 12, .inl (cA 0, 3, .inl (fun k => nI ((T.2 2) k)))), (a 13, .inl (cA 0, 3, .inl (fun k => nI ((T.2 3) k)))), (a 14, .inl (cA 4, 3, .inr (.inr (.inr (.inr (row3 (a 15) (a 16) (a 17))))))), (a 15, .inl (cA 0, 24, .inl (T.1 7))), (a 16, .inl (cA 0, 24, .inl (T.1 8))), (a 17, .inl (cA 0, 24, .inl (T.1 9)))]) (segs' := [[(x 0, .inr (5, [.ref (a 0), .ref (b 0), .ref (x 3), .ref (x 1), .ref (x 2), .ref (x 5)]))], [(x 3, .inr (1, [.ref (x 4), .int (nI (keepN hn))])), (x 4, .inl (cA 3, 6, .inr (.inr (.inr (.inr (stR (keepA ha hn)))))))], tkW cA ((keepA ha hn) 0) ((keepT hT hn T) 0), tkW cA ((keepA ha hn) 1) ((keepT hT hn T) 1), tkW cA ((keepA ha hn) 2) ((keepT hT hn T) 2), tkW cA ((keepA ha hn) 3) ((keepT hT hn T) 3), tkW cA ((keepA ha hn) 4) ((keepT hT hn T) 4), tkW cA ((keepA ha hn) 5) ((keepT hT hn T) 5), [(a 0, .inr (4, [.ref (a 1), .ref (a 2), .ref (a 3), .ref (a 4), .ref (a 5), .ref (a 6), .ref (a 11), .int (nI (T.2 4 0))])), (a 1, .inl (cA 0, 4, .inl (T.1 0))), (a 2, .inl (cA 0, 60, .inl (T.1 1))), (a 3, .inl (cA 0, 60, .inl (T.1 2))), (a 4, .inl (cA 0, 60, .inl (T.1 3))), (a 5, .inl (cA 0, 60, .inl (T.1 4))), (a 6, .inr (0, [.ref (a 7), .ref (a 8), .ref (a 9), .ref (a 10), .int (nI ((T.2 4 1) + 1))])), (a 7, .inl (cA 0, 5, .inl (fun k => nI ((va_up (T.2 0) (T.2 4 1) (ky * 10 + kx)) k)))), (a 8, .inl (cA 0, 5, .inl (fun k => nI ((va_up (T.2 1) (T.2 4 1) p) k)))), (a 9, .inl (cA 0, 5, .inl (upd (T.1 5) (T.2 4 1) (nI sz)))), (a 10, .inl (cA 0, 5, .inl (upd (T.1 6) (T.2 4 1) (nI sh)))), (a 11, .inr (3, [.ref (a 12), .ref (a 13), .ref (a 14), .int (nI (T.2 4 2))])), (a 12, .inl (cA 0, 3, .inl (fun k => nI ((T.2 2) k)))), (a 13, .inl (cA 0, 3, .inl (fun k => nI ((T.2 3) k)))), (a 14, .inl (cA 4, 3, .inr (.inr (.inr (.inr (row3 (a 15) (a 16) (a 17))))))), (a 15, .inl (cA 0, 24, .inl (T.1 7))), (a 16, .inl (cA 0, 24, .inl (T.1 8))), (a 17, .inl (cA 0, 24, .inl (T.1 9)))]]) CX hE hW hA (c_X0_append l G cA a (T.2 4 1) (T.2 0) (T.2 1) (T.1 5) (T.1 6) (ky * 10 + kx) p (nI sz) (nI sh) hn5) (cwV 4 hts gX5_dip_X0_append rfl rfl rfl hdv_X0_append ⟨Nat.le_of_ble_eq_true rfl, Nat.le_of_ble_eq_true rfl⟩) 8 rfl [6, 7, 8, 9, 10] (by decide) rfl rfl rfl rfl 6 rfl rfl rfl BM0_blind (fun _ _ _ _ => trivial) rfl hl.1 (rest := []) rfl (Nat.le_of_ble_eq_true rfl) dX5_dip_113 ⟨Nat.zero_le _, Nat.zero_le _⟩ (fun H locs hW => ?_)
              have hW : wldS G A_ [[(x 0, .inr (5, [.ref (a 0), .ref (b 0), .ref (x 3), .ref (x 1), .ref (x 2), .ref (x 5)]))], [(x 3, .inr (1, [.ref (x 4), .int (nI (keepN hn))])), (x 4, .inl (cA 3, 6, .inr (.inr (.inr (.inr (stR (keepA ha hn)))))))], tkW cA ((keepA ha hn) 0) ((keepT hT hn T) 0), tkW cA ((keepA ha hn) 1) ((keepT hT hn T) 1), tkW cA ((keepA ha hn) 2) ((keepT hT hn T) 2), tkW cA ((keepA ha hn) 3) ((keepT hT hn T) 3), tkW cA ((keepA ha hn) 4) ((keepT hT hn T) 4), tkW cA ((keepA ha hn) 5) ((keepT hT hn T) 5), tkW cA a (dipT T (ky * 10 + kx) p (nI sz) (nI sh))] s_.heap H locs := hW
              exact mu_reti CX hr hlk rfl rfl hW.flat dX5_dip_116
            · exact absurd hn5 (by omega)
          · exact absurd c_65 hw
        · exact absurd (inP_nI (Nat.zero_le _) (by omega) (by omega)) c_41
  · exact absurd (cellP_of hkx hky) c_5
theorem kb_m4 : (Int8.ofInt (-4)).toInt32 = (-4) := by decide +kernel
set_option maxHeartbeats 4000000 in
set_option maxRecDepth 100000 in
theorem c_X5_dip_e (l : Launch) (G : va_G) (cA : Nat → ClassId) (x : Nat → Nat) (a : Nat → Nat) (b : Nat → Nat) (T : TV) (x_ : Int32) (y : Int32) (p : Int32) (sz : Int32) (sh : Int32) (hok : okT T) (hbad : ∀ i j, i < 10 → j < 6 → x_ = nI i → y = nI j → okDip p sz sh → ¬ T.1 1 (j * 10 + i) = nI 2 → T.2 4 1 = 5) : RO l yX5_dip wsX5_dip ({ frames := 2, cells := 0, slots := 0, locals := 43 }) G cA B0 (([[(x 0, .inr (5, [.ref (a 0), .ref (b 0), .ref (x 3), .ref (x 1), .ref (x 2), .ref (x 5)]))], tkW cA a T] : List va_W).flatten) [.ref (x 0), .int x_, .int y, .int p, .int sz, .int sh] (dipEf (T.1 1) x_ y p sz sh) := by
  refine RO.mk (own := RX5) (by decide) rfl rfl (Nat.le_of_ble_eq_true rfl) (fun p_ e_ s_ m_ below meth c_ ls CX hr hlk hP hE hB hl => ?_)
  obtain ⟨hx, hb, hml, hown, hts⟩ := id CX
  have hl : lv_has ls 7 [(0, .ref (x 0)), (1, .int x_), (2, .int y), (3, .int p), (4, .int sz), (5, .int sh)] := hl
  have hP : ∀ (k : Nat) (w : va_W), ([[(x 0, .inr (5, [.ref (a 0), .ref (b 0), .ref (x 3), .ref (x 1), .ref (x 2), .ref (x 5)]))], tkW cA a T] : List va_W)[k]? = some w → va_P G vwCl w s_.heap := va_P_seg hP
  have hdc := hok.1.2
  have hnd := hok.1.1
  have hnp := hok.2.1
  have hpc := hok.2.2
  refine lv_iload_n hx hb dX5_dip_0 rfl (lv_at hl 1 rfl) ?_
  refine lv_iload_n hx hb dX5_dip_1 rfl (lv_at hl 2 rfl) ?_
  refine roS CX hE va_P_nil (c_X5_isCell l G cA x_ y ) (va_cwS 2 hts gX5_dip_X5_isCell rfl rfl rfl hdn_X5_isCell ⟨Nat.le_of_ble_eq_true rfl, Nat.le_of_ble_eq_true rfl⟩) [] rfl B0_blind (fun _ _ _ => trivial) rfl hl.1 (rest := []) rfl (Nat.le_of_ble_eq_true rfl) dX5_dip_2 ⟨Nat.zero_le _, Nat.zero_le _⟩ ?_
  refine rb_if_ne hx hb dX5_dip_5 (by decide) (tgt := 10) (fun c_5 => ?_) (fun c_5 => ?_)
  · obtain ⟨kx, ky, hkx, hky, ex, ey⟩ := cellP_nat c_5
    subst ex
    subst ey
    refine lv_iload_n hx hb dX5_dip_10 rfl (lv_at hl 3 rfl) ?_
    refine rn_iconst hx hb 2 rfl dX5_dip_11 ?_
    refine lv_bipush (v := (nI 40)) hx hb dX5_dip_12 kb_40 ?_
    refine roS CX hE va_P_nil (c_X5_isIn l G cA p (nI 2) (nI 40) ) (va_cwS 3 hts gX5_dip_X5_isIn rfl rfl rfl hdn_X5_isIn ⟨Nat.le_of_ble_eq_true rfl, Nat.le_of_ble_eq_true rfl⟩) [] rfl B0_blind (fun _ _ _ => trivial) rfl hl.1 (rest := []) rfl (Nat.le_of_ble_eq_true rfl) dX5_dip_14 ⟨Nat.zero_le _, Nat.zero_le _⟩ ?_
    refine rb_if_eq hx hb dX5_dip_17 (by decide) (tgt := 44) (fun c_17 => ?_) (fun c_17 => ?_)
    · refine lv_bipush (v := (-2)) hx hb dX5_dip_44 kb_m2 ?_
      exact ro_ret CX hr hlk (by first | exact dipEf2 (cellP_of hkx hky) (fun q => c_17 q.1) | exact dipEf2 (cellP_of hkx hky) (fun q => c_29 q.2.1) | exact dipEf2 (cellP_of hkx hky) (fun q => c_41 q.2.2)) rfl dX5_dip_46
    · refine lv_iload hx hb dX5_dip_20 (lv_at hl 4 rfl) ?_
      refine rn_iconst hx hb 1 rfl dX5_dip_22 ?_
      refine lv_sipush (v := (nI 900)) hx hb dX5_dip_23 ks_900 ?_
      refine roS CX hE va_P_nil (c_X5_isIn l G cA sz (nI 1) (nI 900) ) (va_cwS 3 hts gX5_dip_X5_isIn rfl rfl rfl hdn_X5_isIn ⟨Nat.le_of_ble_eq_true rfl, Nat.le_of_ble_eq_true rfl⟩) [] rfl B0_blind (fun _ _ _ => trivial) rfl hl.1 (rest := []) rfl (Nat.le_of_ble_eq_true rfl) dX5_dip_26 ⟨Nat.zero_le _, Nat.zero_le _⟩ ?_
      refine rb_if_eq hx hb dX5_dip_29 (by decide) (tgt := 44) (fun c_29 => ?_) (fun c_29 => ?_)
      · refine lv_bipush (v := (-2)) hx hb dX5_dip_44 kb_m2 ?_
        exact ro_ret CX hr hlk (by first | exact dipEf2 (cellP_of hkx hky) (fun q => c_17 q.1) | exact dipEf2 (cellP_of hkx hky) (fun q => c_29 q.2.1) | exact dipEf2 (cellP_of hkx hky) (fun q => c_41 q.2.2)) rfl dX5_dip_46
      · refine lv_iload hx hb dX5_dip_32 (lv_at hl 5 rfl) ?_
        refine rn_iconst hx hb 0 rfl dX5_dip_34 ?_
        refine lv_iload_n hx hb dX5_dip_35 rfl (lv_at hl 3 rfl) ?_
        refine rn_iconst hx hb 1 rfl dX5_dip_36 ?_
        refine lv_isub hx hb dX5_dip_37 ?_
        refine roS CX hE va_P_nil (c_X5_isIn l G cA sh (nI 0) (p - (nI 1)) ) (va_cwS 3 hts gX5_dip_X5_isIn rfl rfl rfl hdn_X5_isIn ⟨Nat.le_of_ble_eq_true rfl, Nat.le_of_ble_eq_true rfl⟩) [] rfl B0_blind (fun _ _ _ => trivial) rfl hl.1 (rest := []) rfl (Nat.le_of_ble_eq_true rfl) dX5_dip_38 ⟨Nat.zero_le _, Nat.zero_le _⟩ ?_
        refine rb_if_ne hx hb dX5_dip_41 (by decide) (tgt := 47) (fun c_41 => ?_) (fun c_41 => ?_)
        · refine lv_iload_n hx hb dX5_dip_47 rfl (lv_at hl 1 rfl) ?_
          refine lv_iload_n hx hb dX5_dip_48 rfl (lv_at hl 2 rfl) ?_
          refine roS CX hE va_P_nil (c_X5_placeOf l G cA kx ky ) (va_cwS 2 hts gX5_dip_X5_placeOf rfl rfl rfl hdn_X5_placeOf ⟨Nat.le_of_ble_eq_true rfl, Nat.le_of_ble_eq_true rfl⟩) [] rfl B0_blind (fun _ _ _ => trivial) rfl hl.1 (rest := []) rfl (Nat.le_of_ble_eq_true rfl) dX5_dip_49 ⟨Nat.zero_le _, Nat.zero_le _⟩ ?_
          refine lv_istore (lv' := [(6, .int (nI (ky * 10 + kx))), (0, .ref (x 0)), (1, .int (nI kx)), (2, .int (nI ky)), (3, .int p), (4, .int sz), (5, .int sh)]) hx hb dX5_dip_52 hl (by decide) rfl (fun ls hl => ?_)
          refine lv_aload_n hx hb dX5_dip_54 rfl (lv_at hl 1 rfl) ?_
          refine rg (T := TX5) (N := 6) CX hE (hP 0 _ rfl) in_X5_dip_X5 0 rfl rfl 0 (by decide) fl_X5_dip_12 rfl rfl dX5_dip_55 ?_
          refine rg (T := TX4) (N := 8) CX hE (hP 1 _ rfl) in_X5_dip_X4 0 rfl rfl 1 (by decide) fl_X5_dip_73 rfl rfl dX5_dip_58 ?_
          refine lv_iload hx hb dX5_dip_61 (lv_at hl 0 rfl) ?_
          refine rn_iald CX hE (hP 1 _ rfl) 2 rfl (j := (ky * 10 + kx)) (by omega) (ltb rfl) dX5_dip_63 ?_
          refine rn_iconst hx hb 2 rfl dX5_dip_64 ?_
          refine lv_icmp_ne hx hb dX5_dip_65 (by decide) (tgt := 71) (fun c_65 => ?_) (fun c_65 => ?_)
          · refine lv_aload_n hx hb dX5_dip_71 rfl (lv_at hl 1 rfl) ?_
            refine rg (T := TX5) (N := 6) CX hE (hP 0 _ rfl) in_X5_dip_X5 0 rfl rfl 0 (by decide) fl_X5_dip_12 rfl rfl dX5_dip_72 ?_
            refine rg (T := TX4) (N := 8) CX hE (hP 1 _ rfl) in_X5_dip_X4 0 rfl rfl 5 (by decide) fl_X5_dip_63 rfl rfl dX5_dip_75 ?_
            refine rg (T := TX0) (N := 5) CX hE (hP 1 _ rfl) in_X5_dip_X0 6 rfl rfl 4 (by decide) fl_X5_dip_105 rfl rfl dX5_dip_78 ?_
            refine rn_iconst hx hb 5 rfl dX5_dip_81 ?_
            refine rn_icmp_lt hx hb (by omega) (by omega) dX5_dip_82 (by decide) (tgt := 88) (fun c_82 => ?_) (fun c_82 => ?_)
            · exact absurd (hbad kx ky hkx hky rfl rfl ⟨c_17, c_29, c_41⟩ c_65) (by omega)
            · refine lv_bipush (v := (-4)) hx hb dX5_dip_85 kb_m4 ?_
              exact ro_ret CX hr hlk (dipEf4 hkx hky ⟨c_17, c_29, c_41⟩ c_65) rfl dX5_dip_87
          · refine lv_bipush (v := (-5)) hx hb dX5_dip_68 kb_m5 ?_
            exact ro_ret CX hr hlk (dipEf3 hkx hky ⟨c_17, c_29, c_41⟩ c_65) rfl dX5_dip_70
        · refine lv_bipush (v := (-2)) hx hb dX5_dip_44 kb_m2 ?_
          exact ro_ret CX hr hlk (by first | exact dipEf2 (cellP_of hkx hky) (fun q => c_17 q.1) | exact dipEf2 (cellP_of hkx hky) (fun q => c_29 q.2.1) | exact dipEf2 (cellP_of hkx hky) (fun q => c_41 q.2.2)) rfl dX5_dip_46
  · refine lv_iconst (v := (-1)) hx hb dX5_dip_8 (by decide) ?_
    exact ro_ret CX hr hlk (dipEf1 c_5) rfl dX5_dip_9
theorem hdv_X5_isDipper : yX5_isDipper.cls = RX5 ∧ yX5_isDipper.cls ≠ "java/lang/invoke/MethodHandle" ∧ yX5_isDipper.cls ≠ "java/lang/invoke/VarHandle" ∧ (parseMethodDescriptor yX5_isDipper.desc).map (fun d => d.parameters.length) = some 1 := by decide +kernel
theorem fl_X5_takeOut_22 : Cond.fieldLink RX5 22 RX5 (TX5 2).2.1 (TX5 2).2.2.1 ∈ wsX5_takeOut := by decide +kernel
theorem in_X5_takeOut_X5 : ∀ w ∈ wsX50, w ∈ wsX5_takeOut := by decide +kernel
theorem fl_X5_takeOut_12 : Cond.fieldLink RX5 12 RX5 (TX5 0).2.1 (TX5 0).2.2.1 ∈ wsX5_takeOut := by decide +kernel
theorem fl_X5_takeOut_63 : Cond.fieldLink RX5 63 RX4 (TX4 5).2.1 (TX4 5).2.2.1 ∈ wsX5_takeOut := by decide +kernel
theorem in_X5_takeOut_X4 : ∀ w ∈ wsX40, w ∈ wsX5_takeOut := by decide +kernel
theorem hdv_X0_remove : yX0_remove.cls = RX0 ∧ yX0_remove.cls ≠ "java/lang/invoke/MethodHandle" ∧ yX0_remove.cls ≠ "java/lang/invoke/VarHandle" ∧ (parseMethodDescriptor yX0_remove.desc).map (fun d => d.parameters.length) = some 1 := by decide +kernel
theorem fl_X5_takeOut_105 : Cond.fieldLink RX5 105 RX0 (TX0 4).2.1 (TX0 4).2.2.1 ∈ wsX5_takeOut := by decide +kernel
theorem in_X5_takeOut_X0 : ∀ w ∈ wsX00, w ∈ wsX5_takeOut := by decide +kernel
set_option maxHeartbeats 8000000 in
set_option maxRecDepth 100000 in
theorem c_X5_takeOut_k (l : Launch) (G : va_G) (cA : Nat → ClassId) (x : Nat → Nat) (a : Nat → Nat) (b : Nat → Nat) (T : TV) (hn : Nat) (ha : Nat → Nat → Nat) (hT : Nat → TV) (d : Nat) (hhn : hn ≤ 6) (hok : okT T) (hd : d < T.2 4 1) : MUi l yX5_takeOut wsX5_takeOut ({ frames := 4, cells := 0, slots := 0, locals := 128 }) G cA BM0 (([[(x 0, .inr (5, [.ref (a 0), .ref (b 0), .ref (x 3), .ref (x 1), .ref (x 2), .ref (x 5)]))], [(x 3, .inr (1, [.ref (x 4), .int (nI hn)])), (x 4, .inl (cA 3, 6, .inr (.inr (.inr (.inr (stR ha))))))], tkW cA (ha 0) (hT 0), tkW cA (ha 1) (hT 1), tkW cA (ha 2) (hT 2), tkW cA (ha 3) (hT 3), tkW cA (ha 4) (hT 4), tkW cA (ha 5) (hT 5), tkW cA a T] : List va_W).flatten) [.ref (x 0), .int (nI d)] (([[(x 0, .inr (5, [.ref (a 0), .ref (b 0), .ref (x 3), .ref (x 1), .ref (x 2), .ref (x 5)]))], [(x 3, .inr (1, [.ref (x 4), .int (nI (keepN hn))])), (x 4, .inl (cA 3, 6, .inr (.inr (.inr (.inr (stR (keepA ha hn)))))))], tkW cA ((keepA ha hn) 0) ((keepT hT hn T) 0), tkW cA ((keepA ha hn) 1) ((keepT hT hn T) 1), tkW cA ((keepA ha hn) 2) ((keepT hT hn T) 2), tkW cA ((keepA ha hn) 3) ((keepT hT hn T) 3), tkW cA ((keepA ha hn) 4) ((keepT hT hn T) 4), tkW cA ((keepA ha hn) 5) ((keepT hT hn T) 5), tkW cA a (takeT T d)] : List va_W).flatten) (nI (T.2 4 1 - 1)) := by
  refine MUi.mk (own := RX5) (by decide) rfl rfl (Nat.le_of_ble_eq_true rfl) (fun p_ e_ s_ m_ below meth c_ ls A_ CX hr hlk hW hA hE hB hl => ?_)
  obtain ⟨hx, hb, hml, hown, hts⟩ := id CX
  have hl : lv_has ls 2 [(0, .ref (x 0)), (1, .int (nI d))] := hl
  have hW : wldS G A_ [[(x 0, .inr (5, [.ref (a 0), .ref (b 0), .ref (x 3), .ref (x 1), .ref (x 2), .ref (x 5)]))], [(x 3, .inr (1, [.ref (x 4), .int (nI hn)])), (x 4, .inl (cA 3, 6, .inr (.inr (.inr (.inr (stR ha))))))], tkW cA (ha 0) (hT 0), tkW cA (ha 1) (hT 1), tkW cA (ha 2) (hT 2), tkW cA (ha 3) (hT 3), tkW cA (ha 4) (hT 4), tkW cA (ha 5) (hT 5), tkW cA a T] s_.heap s_.heap [] := wldS.of hW
  have hdc := hok.1.2
  have hnd := hok.1.1
  have hnp := hok.2.1
  have hpc := hok.2.2
  refine lv_aload_n hx hb dX5_takeOut_0 rfl (lv_at hl 0 rfl) ?_
  refine lv_iload_n hx hb dX5_takeOut_1 rfl (lv_at hl 1 rfl) ?_
  refine roVg CX hE (va_P_segs (fun _ _ h => hW.hP _ h) [0, 8] rfl) (c_X5_isDipper l G cA x a b T (nI d) (by assumption)) (cwV 1 hts gX5_takeOut_X5_isDipper rfl rfl rfl hdv_X5_isDipper ⟨Nat.le_of_ble_eq_true rfl, Nat.le_of_ble_eq_true rfl⟩) (hW.hP 0 rfl) 0 rfl rfl rfl B0_blind (fun _ _ _ => trivial) rfl hl.1 (rest := []) rfl (Nat.le_of_ble_eq_true rfl) dX5_takeOut_2 ⟨Nat.zero_le _, Nat.zero_le _⟩ ?_
  refine rb_if_ne hx hb dX5_takeOut_5 (by decide) (tgt := 10) (fun c_5 => ?_) (fun c_5 => ?_)
  · refine lv_aload_n hx hb dX5_takeOut_10 rfl (lv_at hl 0 rfl) ?_
    refine rg (T := TX5) (N := 6) CX hE (hW.hP 0 rfl) in_X5_takeOut_X5 0 rfl rfl 2 (by decide) fl_X5_takeOut_22 rfl rfl dX5_takeOut_11 ?_
    refine lv_aload_n hx hb dX5_takeOut_14 rfl (lv_at hl 0 rfl) ?_
    refine rg (T := TX5) (N := 6) CX hE (hW.hP 0 rfl) in_X5_takeOut_X5 0 rfl rfl 0 (by decide) fl_X5_takeOut_12 rfl rfl dX5_takeOut_15 ?_
    refine muvVS (segs' := [[(x 0, .inr (5, [.ref (a 0), .ref (b 0), .ref (x 3), .ref (x 1), .ref (x 2), .ref (x 5)]))], [(x 3, .inr (1, [.ref (x 4), .int (nI (keepN hn))])), (x 4, .inl (cA 3, 6, .inr (.inr (.inr (.inr (stR (keepA ha hn)))))))], tkW cA ((keepA ha hn) 0) ((keepT hT hn T) 0), tkW cA ((keepA ha hn) 1) ((keepT hT hn T) 1), tkW cA ((keepA ha hn) 2) ((keepT hT hn T) 2), tkW cA ((keepA ha hn) 3) ((keepT hT hn T) 3), tkW cA ((keepA ha hn) 4) ((keepT hT hn T) 4), tkW cA ((keepA ha hn) 5) ((keepT hT hn T) 5), tkW cA a T]) CX hE hW hA (c_X1_keep l G cA x hn ha hT a T hhn) (cwV 1 hts gX5_takeOut_X1_keep rfl rfl rfl hdv_X1_keep ⟨Nat.le_of_ble_eq_true rfl, Nat.le_of_ble_eq_true rfl⟩) [1, 2, 3, 4, 5, 6, 7, 8] (by decide) rfl rfl rfl (hW.hP 1 rfl) 0 rfl rfl rfl BM0_blind (fun _ _ _ _ => trivial) rfl hl.1 (rest := []) rfl (Nat.le_of_ble_eq_true rfl) dX5_takeOut_18 ⟨Nat.zero_le _, Nat.zero_le _⟩ (fun H locs hW => ?_)
    refine lv_aload_n hx hb dX5_takeOut_21 rfl (lv_at hl 0 rfl) ?_
    refine rg (T := TX5) (N := 6) CX hE (hW.hP 0 rfl) in_X5_takeOut_X5 0 rfl rfl 0 (by decide) fl_X5_takeOut_12 rfl rfl dX5_takeOut_22 ?_
    refine rg (T := TX4) (N := 8) CX hE (hW.hP 8 rfl) in_X5_takeOut_X4 0 rfl rfl 5 (by decide) fl_X5_takeOut_63 rfl rfl dX5_takeOut_25 ?_
    refine lv_iload_n hx hb dX5_takeOut_28 rfl (lv_at hl 1 rfl) ?_
    refine muvVP (w' := [(a 0, .inr (4, [.ref (a 1), .ref (a 2), .ref (a 3), .ref (a 4), .ref (a 5), .ref (a 6), .ref (a 11), .int (nI (T.2 4 0))])), (a 1, .inl (cA 0, 4, .inl (T.1 0))), (a 2, .inl (cA 0, 60, .inl (T.1 1))), (a 3, .inl (cA 0, 60, .inl (T.1 2))), (a 4, .inl (cA 0, 60, .inl (T.1 3))), (a 5, .inl (cA 0, 60, .inl (T.1 4))), (a 6, .inr (0, [.ref (a 7), .ref (a 8), .ref (a 9), .ref (a 10), .int (nI ((T.2 4 1) - 1))])), (a 7, .inl (cA 0, 5, .inl (fun k => nI ((rmF (T.2 0) d (T.2 4 1)) k)))), (a 8, .inl (cA 0, 5, .inl (fun k => nI ((rmF (T.2 1) d (T.2 4 1)) k)))), (a 9, .inl (cA 0, 5, .inl (rmF (T.1 5) d (T.2 4 1)))), (a 10, .inl (cA 0, 5, .inl (rmF (T.1 6) d (T.2 4 1)))), (a 11, .inr (3, [.ref (a 12), .ref (a 13), .ref (a 14), .int (nI (T.2 4 2))])), (a 12, .inl (cA 0, 3, .inl (fun k => nI ((T.2 2) k)))), (a 13, .inl (cA 0, 3, .inl (fun k => nI ((T.2 3) k)))), (a 14, .inl (cA 4, 3, .inr (.inr (.inr (.inr (row3 (a 15) (a 16) (a 17))))))), (a 15, .inl (cA 0, 24, .inl (T.1 7))), (a 16, .inl (cA 0, 24, .inl (T.1 8))), (a 17, .inl (cA 0, 24, .inl (T.1 9)))]) (segs' := [[(x 0, .inr (5, [.ref (a 0), .ref (b 0), .ref (x 3), .ref (x 1), .ref (x 2), .ref (x 5)]))], [(x 3, .inr (1, [.ref (x 4), .int (nI (keepN hn))])), (x 4, .inl (cA 3, 6, .inr (.inr (.inr (.inr (stR (keepA ha hn)))))))], tkW cA ((keepA ha hn) 0) ((keepT hT hn T) 0), tkW cA ((keepA ha hn) 1) ((keepT hT hn T) 1), tkW cA ((keepA ha hn) 2) ((keepT hT hn T) 2), tkW cA ((keepA ha hn) 3) ((keepT hT hn T) 3), tkW cA ((keepA ha hn) 4) ((keepT hT hn T) 4), tkW cA ((keepA ha hn) 5) ((keepT hT hn T) 5), [(a 0, .inr (4, [.ref (a 1), .ref (a 2), .ref (a 3), .ref (a 4), .ref (a 5), .ref (a 6), .ref (a 11), .int (nI (T.2 4 0))])), (a 1, .inl (cA 0, 4, .inl (T.1 0))), (a 2, .inl (cA 0, 60, .inl (T.1 1))), (a 3, .inl (cA 0, 60, .inl (T.1 2))), (a 4, .inl (cA 0, 60, .inl (T.1 3))), (a 5, .inl (cA 0, 60, .inl (T.1 4))), (a 6, .inr (0, [.ref (a 7), .ref (a 8), .ref (a 9), .ref (a 10), .int (nI ((T.2 4 1) - 1))])), (a 7, .inl (cA 0, 5, .inl (fun k => nI ((rmF (T.2 0) d (T.2 4 1)) k)))), (a 8, .inl (cA 0, 5, .inl (fun k => nI ((rmF (T.2 1) d (T.2 4 1)) k)))), (a 9, .inl (cA 0, 5, .inl (rmF (T.1 5) d (T.2 4 1)))), (a 10, .inl (cA 0, 5, .inl (rmF (T.1 6) d (T.2 4 1)))), (a 11, .inr (3, [.ref (a 12), .ref (a 13), .ref (a 14), .int (nI (T.2 4 2))])), (a 12, .inl (cA 0, 3, .inl (fun k => nI ((T.2 2) k)))), (a 13, .inl (cA 0, 3, .inl (fun k => nI ((T.2 3) k)))), (a 14, .inl (cA 4, 3, .inr (.inr (.inr (.inr (row3 (a 15) (a 16) (a 17))))))), (a 15, .inl (cA 0, 24, .inl (T.1 7))), (a 16, .inl (cA 0, 24, .inl (T.1 8))), (a 17, .inl (cA 0, 24, .inl (T.1 9)))]]) CX hE hW hA (c_X0_remove l G cA a (T.2 4 1) (T.2 0) (T.2 1) (T.1 5) (T.1 6) d hd hnd) (cwV 1 hts gX5_takeOut_X0_remove rfl rfl rfl hdv_X0_remove ⟨Nat.le_of_ble_eq_true rfl, Nat.le_of_ble_eq_true rfl⟩) 8 rfl [6, 7, 8, 9, 10] (by decide) rfl rfl rfl rfl 6 rfl rfl rfl BM0_blind (fun _ _ _ _ => trivial) rfl hl.1 (rest := []) rfl (Nat.le_of_ble_eq_true rfl) dX5_takeOut_29 ⟨Nat.zero_le _, Nat.zero_le _⟩ (fun H locs hW => ?_)
    refine lv_aload_n hx hb dX5_takeOut_32 rfl (lv_at hl 0 rfl) ?_
    refine rg (T := TX5) (N := 6) CX hE (hW.hP 0 rfl) in_X5_takeOut_X5 0 rfl rfl 0 (by decide) fl_X5_takeOut_12 rfl rfl dX5_takeOut_33 ?_
    refine rg (T := TX4) (N := 8) CX hE (hW.hP 8 rfl) in_X5_takeOut_X4 0 rfl rfl 5 (by decide) fl_X5_takeOut_63 rfl rfl dX5_takeOut_36 ?_
    refine rg (T := TX0) (N := 5) CX hE (hW.hP 8 rfl) in_X5_takeOut_X0 6 rfl rfl 4 (by decide) fl_X5_takeOut_105 rfl rfl dX5_takeOut_39 ?_
    have hW : wldS G A_ [[(x 0, .inr (5, [.ref (a 0), .ref (b 0), .ref (x 3), .ref (x 1), .ref (x 2), .ref (x 5)]))], [(x 3, .inr (1, [.ref (x 4), .int (nI (keepN hn))])), (x 4, .inl (cA 3, 6, .inr (.inr (.inr (.inr (stR (keepA ha hn)))))))], tkW cA ((keepA ha hn) 0) ((keepT hT hn T) 0), tkW cA ((keepA ha hn) 1) ((keepT hT hn T) 1), tkW cA ((keepA ha hn) 2) ((keepT hT hn T) 2), tkW cA ((keepA ha hn) 3) ((keepT hT hn T) 3), tkW cA ((keepA ha hn) 4) ((keepT hT hn T) 4), tkW cA ((keepA ha hn) 5) ((keepT hT hn T) 5), tkW cA a (takeT T d)] s_.heap H locs := hW
    exact mu_reti CX hr hlk rfl rfl hW.flat dX5_takeOut_42
  · exact absurd (inD_of hd (by omega)) c_5
theorem ks_m999 : (Int16.ofInt (-999)).toInt32 = (-999) := by decide +kernel
theorem ks_999 : (Int16.ofInt (999)).toInt32 = (nI 999) := by decide +kernel
theorem fl_X5_drop_12 : Cond.fieldLink RX5 12 RX5 (TX5 0).2.1 (TX5 0).2.2.1 ∈ wsX5_drop := by decide +kernel
theorem in_X5_drop_X5 : ∀ w ∈ wsX50, w ∈ wsX5_drop := by decide +kernel
theorem fl_X5_drop_73 : Cond.fieldLink RX5 73 RX4 (TX4 1).2.1 (TX4 1).2.2.1 ∈ wsX5_drop := by decide +kernel
theorem in_X5_drop_X4 : ∀ w ∈ wsX40, w ∈ wsX5_drop := by decide +kernel
theorem fl_X5_drop_22 : Cond.fieldLink RX5 22 RX5 (TX5 2).2.1 (TX5 2).2.2.1 ∈ wsX5_drop := by decide +kernel
theorem fl_X5_drop_120 : Cond.fieldLink RX5 120 RX4 (TX4 2).2.1 (TX4 2).2.2.1 ∈ wsX5_drop := by decide +kernel
set_option maxHeartbeats 8000000 in
set_option maxRecDepth 100000 in
theorem c_X5_drop_k (l : Launch) (G : va_G) (cA : Nat → ClassId) (x : Nat → Nat) (a : Nat → Nat) (b : Nat → Nat) (T : TV) (hn : Nat) (ha : Nat → Nat → Nat) (hT : Nat → TV) (kx : Nat) (ky : Nat) (v : Int32) (hhn : hn ≤ 6) (hok : okT T) (hkx : kx < 10) (hky : ky < 6) (hv : inP v (-999) (nI 999)) (hw : ¬ T.1 1 (ky * 10 + kx) = nI 2) : MUi l yX5_drop wsX5_drop ({ frames := 4, cells := 0, slots := 0, locals := 128 }) G cA BM0 (([[(x 0, .inr (5, [.ref (a 0), .ref (b 0), .ref (x 3), .ref (x 1), .ref (x 2), .ref (x 5)]))], [(x 3, .inr (1, [.ref (x 4), .int (nI hn)])), (x 4, .inl (cA 3, 6, .inr (.inr (.inr (.inr (stR ha))))))], tkW cA (ha 0) (hT 0), tkW cA (ha 1) (hT 1), tkW cA (ha 2) (hT 2), tkW cA (ha 3) (hT 3), tkW cA (ha 4) (hT 4), tkW cA (ha 5) (hT 5), tkW cA a T] : List va_W).flatten) [.ref (x 0), .int (nI kx), .int (nI ky), .int v] (([[(x 0, .inr (5, [.ref (a 0), .ref (b 0), .ref (x 3), .ref (x 1), .ref (x 2), .ref (x 5)]))], [(x 3, .inr (1, [.ref (x 4), .int (nI (keepN hn))])), (x 4, .inl (cA 3, 6, .inr (.inr (.inr (.inr (stR (keepA ha hn)))))))], tkW cA ((keepA ha hn) 0) ((keepT hT hn T) 0), tkW cA ((keepA ha hn) 1) ((keepT hT hn T) 1), tkW cA ((keepA ha hn) 2) ((keepT hT hn T) 2), tkW cA ((keepA ha hn) 3) ((keepT hT hn T) 3), tkW cA ((keepA ha hn) 4) ((keepT hT hn T) 4), tkW cA ((keepA ha hn) 5) ((keepT hT hn T) 5), tkW cA a (dropT T (ky * 10 + kx) v)] : List va_W).flatten) ((boundF (T.1 2 (ky * 10 + kx) + v)) + nI 10000) := by
  refine MUi.mk (own := RX5) (by decide) rfl rfl (Nat.le_of_ble_eq_true rfl) (fun p_ e_ s_ m_ below meth c_ ls A_ CX hr hlk hW hA hE hB hl => ?_)
  obtain ⟨hx, hb, hml, hown, hts⟩ := id CX
  have hl : lv_has ls 5 [(0, .ref (x 0)), (1, .int (nI kx)), (2, .int (nI ky)), (3, .int v)] := hl
  have hW : wldS G A_ [[(x 0, .inr (5, [.ref (a 0), .ref (b 0), .ref (x 3), .ref (x 1), .ref (x 2), .ref (x 5)]))], [(x 3, .inr (1, [.ref (x 4), .int (nI hn)])), (x 4, .inl (cA 3, 6, .inr (.inr (.inr (.inr (stR ha))))))], tkW cA (ha 0) (hT 0), tkW cA (ha 1) (hT 1), tkW cA (ha 2) (hT 2), tkW cA (ha 3) (hT 3), tkW cA (ha 4) (hT 4), tkW cA (ha 5) (hT 5), tkW cA a T] s_.heap s_.heap [] := wldS.of hW
  have hdc := hok.1.2
  have hnd := hok.1.1
  have hnp := hok.2.1
  have hpc := hok.2.2
  refine lv_iload_n hx hb dX5_drop_0 rfl (lv_at hl 1 rfl) ?_
  refine lv_iload_n hx hb dX5_drop_1 rfl (lv_at hl 2 rfl) ?_
  refine roS CX hE va_P_nil (c_X5_isCell l G cA (nI kx) (nI ky) ) (va_cwS 2 hts gX5_drop_X5_isCell rfl rfl rfl hdn_X5_isCell ⟨Nat.le_of_ble_eq_true rfl, Nat.le_of_ble_eq_true rfl⟩) [] rfl B0_blind (fun _ _ _ => trivial) rfl hl.1 (rest := []) rfl (Nat.le_of_ble_eq_true rfl) dX5_drop_2 ⟨Nat.zero_le _, Nat.zero_le _⟩ ?_
  refine rb_if_ne hx hb dX5_drop_5 (by decide) (tgt := 10) (fun c_5 => ?_) (fun c_5 => ?_)
  · refine lv_iload_n hx hb dX5_drop_10 rfl (lv_at hl 3 rfl) ?_
    refine lv_sipush (v := (-999)) hx hb dX5_drop_11 ks_m999 ?_
    refine lv_sipush (v := (nI 999)) hx hb dX5_drop_14 ks_999 ?_
    refine roS CX hE va_P_nil (c_X5_isIn l G cA v (-999) (nI 999) ) (va_cwS 3 hts gX5_drop_X5_isIn rfl rfl rfl hdn_X5_isIn ⟨Nat.le_of_ble_eq_true rfl, Nat.le_of_ble_eq_true rfl⟩) [] rfl B0_blind (fun _ _ _ => trivial) rfl hl.1 (rest := []) rfl (Nat.le_of_ble_eq_true rfl) dX5_drop_17 ⟨Nat.zero_le _, Nat.zero_le _⟩ ?_
    refine rb_if_ne hx hb dX5_drop_20 (by decide) (tgt := 26) (fun c_20 => ?_) (fun c_20 => ?_)
    · refine lv_iload_n hx hb dX5_drop_26 rfl (lv_at hl 1 rfl) ?_
      refine lv_iload_n hx hb dX5_drop_27 rfl (lv_at hl 2 rfl) ?_
      refine roS CX hE va_P_nil (c_X5_placeOf l G cA kx ky ) (va_cwS 2 hts gX5_drop_X5_placeOf rfl rfl rfl hdn_X5_placeOf ⟨Nat.le_of_ble_eq_true rfl, Nat.le_of_ble_eq_true rfl⟩) [] rfl B0_blind (fun _ _ _ => trivial) rfl hl.1 (rest := []) rfl (Nat.le_of_ble_eq_true rfl) dX5_drop_28 ⟨Nat.zero_le _, Nat.zero_le _⟩ ?_
      refine lv_istore (lv' := [(4, .int (nI (ky * 10 + kx))), (0, .ref (x 0)), (1, .int (nI kx)), (2, .int (nI ky)), (3, .int v)]) hx hb dX5_drop_31 hl (by decide) rfl (fun ls hl => ?_)
      refine lv_aload_n hx hb dX5_drop_33 rfl (lv_at hl 1 rfl) ?_
      refine rg (T := TX5) (N := 6) CX hE (hW.hP 0 rfl) in_X5_drop_X5 0 rfl rfl 0 (by decide) fl_X5_drop_12 rfl rfl dX5_drop_34 ?_
      refine rg (T := TX4) (N := 8) CX hE (hW.hP 8 rfl) in_X5_drop_X4 0 rfl rfl 1 (by decide) fl_X5_drop_73 rfl rfl dX5_drop_37 ?_
      refine lv_iload hx hb dX5_drop_40 (lv_at hl 0 rfl) ?_
      refine rn_iald CX hE (hW.hP 8 rfl) 2 rfl (j := (ky * 10 + kx)) (by omega) (ltb rfl) dX5_drop_42 ?_
      refine rn_iconst hx hb 2 rfl dX5_drop_43 ?_
      refine lv_icmp_ne hx hb dX5_drop_44 (by decide) (tgt := 50) (fun c_44 => ?_) (fun c_44 => ?_)
      · refine lv_aload_n hx hb dX5_drop_50 rfl (lv_at hl 1 rfl) ?_
        refine rg (T := TX5) (N := 6) CX hE (hW.hP 0 rfl) in_X5_drop_X5 0 rfl rfl 2 (by decide) fl_X5_drop_22 rfl rfl dX5_drop_51 ?_
        refine lv_aload_n hx hb dX5_drop_54 rfl (lv_at hl 1 rfl) ?_
        refine rg (T := TX5) (N := 6) CX hE (hW.hP 0 rfl) in_X5_drop_X5 0 rfl rfl 0 (by decide) fl_X5_drop_12 rfl rfl dX5_drop_55 ?_
        refine muvVS (segs' := [[(x 0, .inr (5, [.ref (a 0), .ref (b 0), .ref (x 3), .ref (x 1), .ref (x 2), .ref (x 5)]))], [(x 3, .inr (1, [.ref (x 4), .int (nI (keepN hn))])), (x 4, .inl (cA 3, 6, .inr (.inr (.inr (.inr (stR (keepA ha hn)))))))], tkW cA ((keepA ha hn) 0) ((keepT hT hn T) 0), tkW cA ((keepA ha hn) 1) ((keepT hT hn T) 1), tkW cA ((keepA ha hn) 2) ((keepT hT hn T) 2), tkW cA ((keepA ha hn) 3) ((keepT hT hn T) 3), tkW cA ((keepA ha hn) 4) ((keepT hT hn T) 4), tkW cA ((keepA ha hn) 5) ((keepT hT hn T) 5), tkW cA a T]) CX hE hW hA (c_X1_keep l G cA x hn ha hT a T hhn) (cwV 1 hts gX5_drop_X1_keep rfl rfl rfl hdv_X1_keep ⟨Nat.le_of_ble_eq_true rfl, Nat.le_of_ble_eq_true rfl⟩) [1, 2, 3, 4, 5, 6, 7, 8] (by decide) rfl rfl rfl (hW.hP 1 rfl) 0 rfl rfl rfl BM0_blind (fun _ _ _ _ => trivial) rfl hl.1 (rest := []) rfl (Nat.le_of_ble_eq_true rfl) dX5_drop_58 ⟨Nat.zero_le _, Nat.zero_le _⟩ (fun H locs hW => ?_)
        refine lv_aload_n hx hb dX5_drop_61 rfl (lv_at hl 1 rfl) ?_
        refine rg (T := TX5) (N := 6) CX hE (hW.hP 0 rfl) in_X5_drop_X5 0 rfl rfl 0 (by decide) fl_X5_drop_12 rfl rfl dX5_drop_62 ?_
        refine rg (T := TX4) (N := 8) CX hE (hW.hP 8 rfl) in_X5_drop_X4 0 rfl rfl 2 (by decide) fl_X5_drop_120 rfl rfl dX5_drop_65 ?_
        refine lv_iload hx hb dX5_drop_68 (lv_at hl 0 rfl) ?_
        refine lv_aload_n hx hb dX5_drop_70 rfl (lv_at hl 1 rfl) ?_
        refine rg (T := TX5) (N := 6) CX hE (hW.hP 0 rfl) in_X5_drop_X5 0 rfl rfl 0 (by decide) fl_X5_drop_12 rfl rfl dX5_drop_71 ?_
        refine rg (T := TX4) (N := 8) CX hE (hW.hP 8 rfl) in_X5_drop_X4 0 rfl rfl 2 (by decide) fl_X5_drop_120 rfl rfl dX5_drop_74 ?_
        refine lv_iload hx hb dX5_drop_77 (lv_at hl 0 rfl) ?_
        refine rn_iald CX hE (hW.hP 8 rfl) 3 rfl (j := (ky * 10 + kx)) (by omega) (ltb rfl) dX5_drop_79 ?_
        refine lv_iload_n hx hb dX5_drop_80 rfl (lv_at hl 4 rfl) ?_
        refine lv_iadd hx hb dX5_drop_81 ?_
        refine roS CX hE va_P_nil (c_X5_bounded l G cA (((T.1 2) (ky * 10 + kx)) + v) ) (va_cwS 1 hts gX5_drop_X5_bounded rfl rfl rfl hdn_X5_bounded ⟨Nat.le_of_ble_eq_true rfl, Nat.le_of_ble_eq_true rfl⟩) [] rfl B0_blind (fun _ _ _ => trivial) rfl hl.1 (rest := [.int (nI (ky * 10 + kx)), .ref (a 3)]) rfl (Nat.le_of_ble_eq_true rfl) dX5_drop_82 ⟨Nat.zero_le _, Nat.zero_le _⟩ ?_
        refine rn_iastS (w' := [(a 0, .inr (4, [.ref (a 1), .ref (a 2), .ref (a 3), .ref (a 4), .ref (a 5), .ref (a 6), .ref (a 11), .int (nI (T.2 4 0))])), (a 1, .inl (cA 0, 4, .inl (T.1 0))), (a 2, .inl (cA 0, 60, .inl (T.1 1))), (a 3, .inl (cA 0, 60, .inl (upd (T.1 2) (ky * 10 + kx) (boundF (((T.1 2) (ky * 10 + kx)) + v))))), (a 4, .inl (cA 0, 60, .inl (T.1 3))), (a 5, .inl (cA 0, 60, .inl (T.1 4))), (a 6, .inr (0, [.ref (a 7), .ref (a 8), .ref (a 9), .ref (a 10), .int (nI (T.2 4 1))])), (a 7, .inl (cA 0, 5, .inl (fun k => nI ((T.2 0) k)))), (a 8, .inl (cA 0, 5, .inl (fun k => nI ((T.2 1) k)))), (a 9, .inl (cA 0, 5, .inl (T.1 5))), (a 10, .inl (cA 0, 5, .inl (T.1 6))), (a 11, .inr (3, [.ref (a 12), .ref (a 13), .ref (a 14), .int (nI (T.2 4 2))])), (a 12, .inl (cA 0, 3, .inl (fun k => nI ((T.2 2) k)))), (a 13, .inl (cA 0, 3, .inl (fun k => nI ((T.2 3) k)))), (a 14, .inl (cA 4, 3, .inr (.inr (.inr (.inr (row3 (a 15) (a 16) (a 17))))))), (a 15, .inl (cA 0, 24, .inl (T.1 7))), (a 16, .inl (cA 0, 24, .inl (T.1 8))), (a 17, .inl (cA 0, 24, .inl (T.1 9)))]) (segs' := [[(x 0, .inr (5, [.ref (a 0), .ref (b 0), .ref (x 3), .ref (x 1), .ref (x 2), .ref (x 5)]))], [(x 3, .inr (1, [.ref (x 4), .int (nI (keepN hn))])), (x 4, .inl (cA 3, 6, .inr (.inr (.inr (.inr (stR (keepA ha hn)))))))], tkW cA ((keepA ha hn) 0) ((keepT hT hn T) 0), tkW cA ((keepA ha hn) 1) ((keepT hT hn T) 1), tkW cA ((keepA ha hn) 2) ((keepT hT hn T) 2), tkW cA ((keepA ha hn) 3) ((keepT hT hn T) 3), tkW cA ((keepA ha hn) 4) ((keepT hT hn T) 4), tkW cA ((keepA ha hn) 5) ((keepT hT hn T) 5), [(a 0, .inr (4, [.ref (a 1), .ref (a 2), .ref (a 3), .ref (a 4), .ref (a 5), .ref (a 6), .ref (a 11), .int (nI (T.2 4 0))])), (a 1, .inl (cA 0, 4, .inl (T.1 0))), (a 2, .inl (cA 0, 60, .inl (T.1 1))), (a 3, .inl (cA 0, 60, .inl (upd (T.1 2) (ky * 10 + kx) (boundF (((T.1 2) (ky * 10 + kx)) + v))))), (a 4, .inl (cA 0, 60, .inl (T.1 3))), (a 5, .inl (cA 0, 60, .inl (T.1 4))), (a 6, .inr (0, [.ref (a 7), .ref (a 8), .ref (a 9), .ref (a 10), .int (nI (T.2 4 1))])), (a 7, .inl (cA 0, 5, .inl (fun k => nI ((T.2 0) k)))), (a 8, .inl (cA 0, 5, .inl (fun k => nI ((T.2 1) k)))), (a 9, .inl (cA 0, 5, .inl (T.1 5))), (a 10, .inl (cA 0, 5, .inl (T.1 6))), (a 11, .inr (3, [.ref (a 12), .ref (a 13), .ref (a 14), .int (nI (T.2 4 2))])), (a 12, .inl (cA 0, 3, .inl (fun k => nI ((T.2 2) k)))), (a 13, .inl (cA 0, 3, .inl (fun k => nI ((T.2 3) k)))), (a 14, .inl (cA 4, 3, .inr (.inr (.inr (.inr (row3 (a 15) (a 16) (a 17))))))), (a 15, .inl (cA 0, 24, .inl (T.1 7))), (a 16, .inl (cA 0, 24, .inl (T.1 8))), (a 17, .inl (cA 0, 24, .inl (T.1 9)))]]) CX hE hW 8 rfl 3 rfl (j := (ky * 10 + kx)) (by omega) (ltb rfl) rfl rfl dX5_drop_85 (fun H locs hW => ?_)
        refine lv_aload_n hx hb dX5_drop_86 rfl (lv_at hl 1 rfl) ?_
        refine rg (T := TX5) (N := 6) CX hE (hW.hP 0 rfl) in_X5_drop_X5 0 rfl rfl 0 (by decide) fl_X5_drop_12 rfl rfl dX5_drop_87 ?_
        refine rg (T := TX4) (N := 8) CX hE (hW.hP 8 rfl) in_X5_drop_X4 0 rfl rfl 2 (by decide) fl_X5_drop_120 rfl rfl dX5_drop_90 ?_
        refine lv_iload hx hb dX5_drop_93 (lv_at hl 0 rfl) ?_
        refine rn_iald CX hE (hW.hP 8 rfl) 3 rfl (j := (ky * 10 + kx)) (by omega) (ltb rfl) dX5_drop_95 ?_
        refine rn_top (boundF (T.1 2 (ky * 10 + kx) + v)) (updE rfl) ?_
        refine lv_sipush (v := (nI 10000)) hx hb dX5_drop_96 ks_10000 ?_
        refine lv_iadd hx hb dX5_drop_99 ?_
        have hW : wldS G A_ [[(x 0, .inr (5, [.ref (a 0), .ref (b 0), .ref (x 3), .ref (x 1), .ref (x 2), .ref (x 5)]))], [(x 3, .inr (1, [.ref (x 4), .int (nI (keepN hn))])), (x 4, .inl (cA 3, 6, .inr (.inr (.inr (.inr (stR (keepA ha hn)))))))], tkW cA ((keepA ha hn) 0) ((keepT hT hn T) 0), tkW cA ((keepA ha hn) 1) ((keepT hT hn T) 1), tkW cA ((keepA ha hn) 2) ((keepT hT hn T) 2), tkW cA ((keepA ha hn) 3) ((keepT hT hn T) 3), tkW cA ((keepA ha hn) 4) ((keepT hT hn T) 4), tkW cA ((keepA ha hn) 5) ((keepT hT hn T) 5), tkW cA a (dropT T (ky * 10 + kx) v)] s_.heap H locs := hW
        exact mu_reti CX hr hlk rfl rfl hW.flat dX5_drop_100
      · exact absurd c_44 hw
    · exact absurd hv c_20
  · exact absurd (cellP_of hkx hky) c_5
set_option maxHeartbeats 4000000 in
set_option maxRecDepth 100000 in
theorem c_X5_drop_e (l : Launch) (G : va_G) (cA : Nat → ClassId) (x : Nat → Nat) (a : Nat → Nat) (b : Nat → Nat) (T : TV) (x_ : Int32) (y : Int32) (v : Int32) (hbad : ∀ i j, i < 10 → j < 6 → x_ = nI i → y = nI j → inP v (-999) (nI 999) → T.1 1 (j * 10 + i) = nI 2) : RO l yX5_drop wsX5_drop ({ frames := 2, cells := 0, slots := 0, locals := 43 }) G cA B0 (([[(x 0, .inr (5, [.ref (a 0), .ref (b 0), .ref (x 3), .ref (x 1), .ref (x 2), .ref (x 5)]))], tkW cA a T] : List va_W).flatten) [.ref (x 0), .int x_, .int y, .int v] (dropE x_ y v) := by
  refine RO.mk (own := RX5) (by decide) rfl rfl (Nat.le_of_ble_eq_true rfl) (fun p_ e_ s_ m_ below meth c_ ls CX hr hlk hP hE hB hl => ?_)
  obtain ⟨hx, hb, hml, hown, hts⟩ := id CX
  have hl : lv_has ls 5 [(0, .ref (x 0)), (1, .int x_), (2, .int y), (3, .int v)] := hl
  have hP : ∀ (k : Nat) (w : va_W), ([[(x 0, .inr (5, [.ref (a 0), .ref (b 0), .ref (x 3), .ref (x 1), .ref (x 2), .ref (x 5)]))], tkW cA a T] : List va_W)[k]? = some w → va_P G vwCl w s_.heap := va_P_seg hP
  refine lv_iload_n hx hb dX5_drop_0 rfl (lv_at hl 1 rfl) ?_
  refine lv_iload_n hx hb dX5_drop_1 rfl (lv_at hl 2 rfl) ?_
  refine roS CX hE va_P_nil (c_X5_isCell l G cA x_ y ) (va_cwS 2 hts gX5_drop_X5_isCell rfl rfl rfl hdn_X5_isCell ⟨Nat.le_of_ble_eq_true rfl, Nat.le_of_ble_eq_true rfl⟩) [] rfl B0_blind (fun _ _ _ => trivial) rfl hl.1 (rest := []) rfl (Nat.le_of_ble_eq_true rfl) dX5_drop_2 ⟨Nat.zero_le _, Nat.zero_le _⟩ ?_
  refine rb_if_ne hx hb dX5_drop_5 (by decide) (tgt := 10) (fun c_5 => ?_) (fun c_5 => ?_)
  · obtain ⟨kx, ky, hkx, hky, ex, ey⟩ := cellP_nat c_5
    subst ex
    subst ey
    refine lv_iload_n hx hb dX5_drop_10 rfl (lv_at hl 3 rfl) ?_
    refine lv_sipush (v := (-999)) hx hb dX5_drop_11 ks_m999 ?_
    refine lv_sipush (v := (nI 999)) hx hb dX5_drop_14 ks_999 ?_
    refine roS CX hE va_P_nil (c_X5_isIn l G cA v (-999) (nI 999) ) (va_cwS 3 hts gX5_drop_X5_isIn rfl rfl rfl hdn_X5_isIn ⟨Nat.le_of_ble_eq_true rfl, Nat.le_of_ble_eq_true rfl⟩) [] rfl B0_blind (fun _ _ _ => trivial) rfl hl.1 (rest := []) rfl (Nat.le_of_ble_eq_true rfl) dX5_drop_17 ⟨Nat.zero_le _, Nat.zero_le _⟩ ?_
    refine rb_if_ne hx hb dX5_drop_20 (by decide) (tgt := 26) (fun c_20 => ?_) (fun c_20 => ?_)
    · refine lv_iload_n hx hb dX5_drop_26 rfl (lv_at hl 1 rfl) ?_
      refine lv_iload_n hx hb dX5_drop_27 rfl (lv_at hl 2 rfl) ?_
      refine roS CX hE va_P_nil (c_X5_placeOf l G cA kx ky ) (va_cwS 2 hts gX5_drop_X5_placeOf rfl rfl rfl hdn_X5_placeOf ⟨Nat.le_of_ble_eq_true rfl, Nat.le_of_ble_eq_true rfl⟩) [] rfl B0_blind (fun _ _ _ => trivial) rfl hl.1 (rest := []) rfl (Nat.le_of_ble_eq_true rfl) dX5_drop_28 ⟨Nat.zero_le _, Nat.zero_le _⟩ ?_
      refine lv_istore (lv' := [(4, .int (nI (ky * 10 + kx))), (0, .ref (x 0)), (1, .int (nI kx)), (2, .int (nI ky)), (3, .int v)]) hx hb dX5_drop_31 hl (by decide) rfl (fun ls hl => ?_)
      refine lv_aload_n hx hb dX5_drop_33 rfl (lv_at hl 1 rfl) ?_
      refine rg (T := TX5) (N := 6) CX hE (hP 0 _ rfl) in_X5_drop_X5 0 rfl rfl 0 (by decide) fl_X5_drop_12 rfl rfl dX5_drop_34 ?_
      refine rg (T := TX4) (N := 8) CX hE (hP 1 _ rfl) in_X5_drop_X4 0 rfl rfl 1 (by decide) fl_X5_drop_73 rfl rfl dX5_drop_37 ?_
      refine lv_iload hx hb dX5_drop_40 (lv_at hl 0 rfl) ?_
      refine rn_iald CX hE (hP 1 _ rfl) 2 rfl (j := (ky * 10 + kx)) (by omega) (ltb rfl) dX5_drop_42 ?_
      refine rn_iconst hx hb 2 rfl dX5_drop_43 ?_
      refine lv_icmp_ne hx hb dX5_drop_44 (by decide) (tgt := 50) (fun c_44 => ?_) (fun c_44 => ?_)
      · exact absurd (hbad kx ky hkx hky rfl rfl c_20) c_44
      · refine lv_bipush (v := (-5)) hx hb dX5_drop_47 kb_m5 ?_
        exact ro_ret CX hr hlk (dropE3 (cellP_of hkx hky) c_20) rfl dX5_drop_49
    · refine lv_bipush (v := (-2)) hx hb dX5_drop_23 kb_m2 ?_
      exact ro_ret CX hr hlk (dropE2 (cellP_of hkx hky) c_20) rfl dX5_drop_25
  · refine lv_iconst (v := (-1)) hx hb dX5_drop_8 (by decide) ?_
    exact ro_ret CX hr hlk (dropE1 c_5) rfl dX5_drop_9
theorem fl_X5_probe_12 : Cond.fieldLink RX5 12 RX5 (TX5 0).2.1 (TX5 0).2.2.1 ∈ wsX5_probe := by decide +kernel
theorem in_X5_probe_X5 : ∀ w ∈ wsX50, w ∈ wsX5_probe := by decide +kernel
theorem fl_X5_probe_126 : Cond.fieldLink RX5 126 RX4 (TX4 6).2.1 (TX4 6).2.2.1 ∈ wsX5_probe := by decide +kernel
theorem in_X5_probe_X4 : ∀ w ∈ wsX40, w ∈ wsX5_probe := by decide +kernel
theorem fl_X5_probe_130 : Cond.fieldLink RX5 130 RX3 (TX3 3).2.1 (TX3 3).2.2.1 ∈ wsX5_probe := by decide +kernel
theorem in_X5_probe_X3 : ∀ w ∈ wsX30, w ∈ wsX5_probe := by decide +kernel
theorem fl_X5_probe_22 : Cond.fieldLink RX5 22 RX5 (TX5 2).2.1 (TX5 2).2.2.1 ∈ wsX5_probe := by decide +kernel
theorem hdv_X3_append : yX3_append.cls = RX3 ∧ yX3_append.cls ≠ "java/lang/invoke/MethodHandle" ∧ yX3_append.cls ≠ "java/lang/invoke/VarHandle" ∧ (parseMethodDescriptor yX3_append.desc).map (fun d => d.parameters.length) = some 1 := by decide +kernel
set_option maxHeartbeats 8000000 in
set_option maxRecDepth 100000 in
theorem c_X5_probe_k (l : Launch) (G : va_G) (cA : Nat → ClassId) (x : Nat → Nat) (a : Nat → Nat) (b : Nat → Nat) (T : TV) (hn : Nat) (ha : Nat → Nat → Nat) (hT : Nat → TV) (kx : Nat) (ky : Nat) (hhn : hn ≤ 6) (hok : okT T) (hkx : kx < 10) (hky : ky < 6) (hn3 : T.2 4 2 < 3) : MUi l yX5_probe wsX5_probe ({ frames := 4, cells := 0, slots := 0, locals := 128 }) G cA BM0 (([[(x 0, .inr (5, [.ref (a 0), .ref (b 0), .ref (x 3), .ref (x 1), .ref (x 2), .ref (x 5)]))], [(x 3, .inr (1, [.ref (x 4), .int (nI hn)])), (x 4, .inl (cA 3, 6, .inr (.inr (.inr (.inr (stR ha))))))], tkW cA (ha 0) (hT 0), tkW cA (ha 1) (hT 1), tkW cA (ha 2) (hT 2), tkW cA (ha 3) (hT 3), tkW cA (ha 4) (hT 4), tkW cA (ha 5) (hT 5), tkW cA a T] : List va_W).flatten) [.ref (x 0), .int (nI kx), .int (nI ky)] (([[(x 0, .inr (5, [.ref (a 0), .ref (b 0), .ref (x 3), .ref (x 1), .ref (x 2), .ref (x 5)]))], [(x 3, .inr (1, [.ref (x 4), .int (nI (keepN hn))])), (x 4, .inl (cA 3, 6, .inr (.inr (.inr (.inr (stR (keepA ha hn)))))))], tkW cA ((keepA ha hn) 0) ((keepT hT hn T) 0), tkW cA ((keepA ha hn) 1) ((keepT hT hn T) 1), tkW cA ((keepA ha hn) 2) ((keepT hT hn T) 2), tkW cA ((keepA ha hn) 3) ((keepT hT hn T) 3), tkW cA ((keepA ha hn) 4) ((keepT hT hn T) 4), tkW cA ((keepA ha hn) 5) ((keepT hT hn T) 5), tkW cA a (probT T (ky * 10 + kx))] : List va_W).flatten) (nI (T.2 4 2)) := by
  refine MUi.mk (own := RX5) (by decide) rfl rfl (Nat.le_of_ble_eq_true rfl) (fun p_ e_ s_ m_ below meth c_ ls A_ CX hr hlk hW hA hE hB hl => ?_)
  obtain ⟨hx, hb, hml, hown, hts⟩ := id CX
  have hl : lv_has ls 3 [(0, .ref (x 0)), (1, .int (nI kx)), (2, .int (nI ky))] := hl
  have hW : wldS G A_ [[(x 0, .inr (5, [.ref (a 0), .ref (b 0), .ref (x 3), .ref (x 1), .ref (x 2), .ref (x 5)]))], [(x 3, .inr (1, [.ref (x 4), .int (nI hn)])), (x 4, .inl (cA 3, 6, .inr (.inr (.inr (.inr (stR ha))))))], tkW cA (ha 0) (hT 0), tkW cA (ha 1) (hT 1), tkW cA (ha 2) (hT 2), tkW cA (ha 3) (hT 3), tkW cA (ha 4) (hT 4), tkW cA (ha 5) (hT 5), tkW cA a T] s_.heap s_.heap [] := wldS.of hW
  have hdc := hok.1.2
  have hnd := hok.1.1
  have hnp := hok.2.1
  have hpc := hok.2.2
  refine lv_iload_n hx hb dX5_probe_0 rfl (lv_at hl 1 rfl) ?_
  refine lv_iload_n hx hb dX5_probe_1 rfl (lv_at hl 2 rfl) ?_
  refine roS CX hE va_P_nil (c_X5_isCell l G cA (nI kx) (nI ky) ) (va_cwS 2 hts gX5_probe_X5_isCell rfl rfl rfl hdn_X5_isCell ⟨Nat.le_of_ble_eq_true rfl, Nat.le_of_ble_eq_true rfl⟩) [] rfl B0_blind (fun _ _ _ => trivial) rfl hl.1 (rest := []) rfl (Nat.le_of_ble_eq_true rfl) dX5_probe_2 ⟨Nat.zero_le _, Nat.zero_le _⟩ ?_
  refine rb_if_ne hx hb dX5_probe_5 (by decide) (tgt := 10) (fun c_5 => ?_) (fun c_5 => ?_)
  · refine lv_aload_n hx hb dX5_probe_10 rfl (lv_at hl 0 rfl) ?_
    refine rg (T := TX5) (N := 6) CX hE (hW.hP 0 rfl) in_X5_probe_X5 0 rfl rfl 0 (by decide) fl_X5_probe_12 rfl rfl dX5_probe_11 ?_
    refine rg (T := TX4) (N := 8) CX hE (hW.hP 8 rfl) in_X5_probe_X4 0 rfl rfl 6 (by decide) fl_X5_probe_126 rfl rfl dX5_probe_14 ?_
    refine rg (T := TX3) (N := 4) CX hE (hW.hP 8 rfl) in_X5_probe_X3 11 rfl rfl 3 (by decide) fl_X5_probe_130 rfl rfl dX5_probe_17 ?_
    refine rn_iconst hx hb 3 rfl dX5_probe_20 ?_
    refine rn_icmp_lt hx hb (by omega) (by omega) dX5_probe_21 (by decide) (tgt := 27) (fun c_21 => ?_) (fun c_21 => ?_)
    · refine lv_aload_n hx hb dX5_probe_27 rfl (lv_at hl 0 rfl) ?_
      refine rg (T := TX5) (N := 6) CX hE (hW.hP 0 rfl) in_X5_probe_X5 0 rfl rfl 2 (by decide) fl_X5_probe_22 rfl rfl dX5_probe_28 ?_
      refine lv_aload_n hx hb dX5_probe_31 rfl (lv_at hl 0 rfl) ?_
      refine rg (T := TX5) (N := 6) CX hE (hW.hP 0 rfl) in_X5_probe_X5 0 rfl rfl 0 (by decide) fl_X5_probe_12 rfl rfl dX5_probe_32 ?_
      refine muvVS (segs' := [[(x 0, .inr (5, [.ref (a 0), .ref (b 0), .ref (x 3), .ref (x 1), .ref (x 2), .ref (x 5)]))], [(x 3, .inr (1, [.ref (x 4), .int (nI (keepN hn))])), (x 4, .inl (cA 3, 6, .inr (.inr (.inr (.inr (stR (keepA ha hn)))))))], tkW cA ((keepA ha hn) 0) ((keepT hT hn T) 0), tkW cA ((keepA ha hn) 1) ((keepT hT hn T) 1), tkW cA ((keepA ha hn) 2) ((keepT hT hn T) 2), tkW cA ((keepA ha hn) 3) ((keepT hT hn T) 3), tkW cA ((keepA ha hn) 4) ((keepT hT hn T) 4), tkW cA ((keepA ha hn) 5) ((keepT hT hn T) 5), tkW cA a T]) CX hE hW hA (c_X1_keep l G cA x hn ha hT a T hhn) (cwV 1 hts gX5_probe_X1_keep rfl rfl rfl hdv_X1_keep ⟨Nat.le_of_ble_eq_true rfl, Nat.le_of_ble_eq_true rfl⟩) [1, 2, 3, 4, 5, 6, 7, 8] (by decide) rfl rfl rfl (hW.hP 1 rfl) 0 rfl rfl rfl BM0_blind (fun _ _ _ _ => trivial) rfl hl.1 (rest := []) rfl (Nat.le_of_ble_eq_true rfl) dX5_probe_35 ⟨Nat.zero_le _, Nat.zero_le _⟩ (fun H locs hW => ?_)
      refine lv_aload_n hx hb dX5_probe_38 rfl (lv_at hl 0 rfl) ?_
      refine rg (T := TX5) (N := 6) CX hE (hW.hP 0 rfl) in_X5_probe_X5 0 rfl rfl 0 (by decide) fl_X5_probe_12 rfl rfl dX5_probe_39 ?_
      refine rg (T := TX4) (N := 8) CX hE (hW.hP 8 rfl) in_X5_probe_X4 0 rfl rfl 6 (by decide) fl_X5_probe_126 rfl rfl dX5_probe_42 ?_
      refine lv_iload_n hx hb dX5_probe_45 rfl (lv_at hl 1 rfl) ?_
      refine lv_iload_n hx hb dX5_probe_46 rfl (lv_at hl 2 rfl) ?_
      refine roS CX hE va_P_nil (c_X5_placeOf l G cA kx ky ) (va_cwS 2 hts gX5_probe_X5_placeOf rfl rfl rfl hdn_X5_placeOf ⟨Nat.le_of_ble_eq_true rfl, Nat.le_of_ble_eq_true rfl⟩) [] rfl B0_blind (fun _ _ _ => trivial) rfl hl.1 (rest := [.ref (a 11)]) rfl (Nat.le_of_ble_eq_true rfl) dX5_probe_47 ⟨Nat.zero_le _, Nat.zero_le _⟩ ?_
      refine muiVP (w' := [(a 0, .inr (4, [.ref (a 1), .ref (a 2), .ref (a 3), .ref (a 4), .ref (a 5), .ref (a 6), .ref (a 11), .int (nI (T.2 4 0))])), (a 1, .inl (cA 0, 4, .inl (T.1 0))), (a 2, .inl (cA 0, 60, .inl (T.1 1))), (a 3, .inl (cA 0, 60, .inl (T.1 2))), (a 4, .inl (cA 0, 60, .inl (T.1 3))), (a 5, .inl (cA 0, 60, .inl (T.1 4))), (a 6, .inr (0, [.ref (a 7), .ref (a 8), .ref (a 9), .ref (a 10), .int (nI (T.2 4 1))])), (a 7, .inl (cA 0, 5, .inl (fun k => nI ((T.2 0) k)))), (a 8, .inl (cA 0, 5, .inl (fun k => nI ((T.2 1) k)))), (a 9, .inl (cA 0, 5, .inl (T.1 5))), (a 10, .inl (cA 0, 5, .inl (T.1 6))), (a 11, .inr (3, [.ref (a 12), .ref (a 13), .ref (a 14), .int (nI ((T.2 4 2) + 1))])), (a 12, .inl (cA 0, 3, .inl (fun k => nI ((va_up (T.2 2) (T.2 4 2) (ky * 10 + kx)) k)))), (a 13, .inl (cA 0, 3, .inl (fun k => nI ((va_up (T.2 3) (T.2 4 2) 0) k)))), (a 14, .inl (cA 4, 3, .inr (.inr (.inr (.inr (row3 (a 15) (a 16) (a 17))))))), (a 15, .inl (cA 0, 24, .inl (T.1 7))), (a 16, .inl (cA 0, 24, .inl (T.1 8))), (a 17, .inl (cA 0, 24, .inl (T.1 9)))]) (segs' := [[(x 0, .inr (5, [.ref (a 0), .ref (b 0), .ref (x 3), .ref (x 1), .ref (x 2), .ref (x 5)]))], [(x 3, .inr (1, [.ref (x 4), .int (nI (keepN hn))])), (x 4, .inl (cA 3, 6, .inr (.inr (.inr (.inr (stR (keepA ha hn)))))))], tkW cA ((keepA ha hn) 0) ((keepT hT hn T) 0), tkW cA ((keepA ha hn) 1) ((keepT hT hn T) 1), tkW cA ((keepA ha hn) 2) ((keepT hT hn T) 2), tkW cA ((keepA ha hn) 3) ((keepT hT hn T) 3), tkW cA ((keepA ha hn) 4) ((keepT hT hn T) 4), tkW cA ((keepA ha hn) 5) ((keepT hT hn T) 5), [(a 0, .inr (4, [.ref (a 1), .ref (a 2), .ref (a 3), .ref (a 4), .ref (a 5), .ref (a 6), .ref (a 11), .int (nI (T.2 4 0))])), (a 1, .inl (cA 0, 4, .inl (T.1 0))), (a 2, .inl (cA 0, 60, .inl (T.1 1))), (a 3, .inl (cA 0, 60, .inl (T.1 2))), (a 4, .inl (cA 0, 60, .inl (T.1 3))), (a 5, .inl (cA 0, 60, .inl (T.1 4))), (a 6, .inr (0, [.ref (a 7), .ref (a 8), .ref (a 9), .ref (a 10), .int (nI (T.2 4 1))])), (a 7, .inl (cA 0, 5, .inl (fun k => nI ((T.2 0) k)))), (a 8, .inl (cA 0, 5, .inl (fun k => nI ((T.2 1) k)))), (a 9, .inl (cA 0, 5, .inl (T.1 5))), (a 10, .inl (cA 0, 5, .inl (T.1 6))), (a 11, .inr (3, [.ref (a 12), .ref (a 13), .ref (a 14), .int (nI ((T.2 4 2) + 1))])), (a 12, .inl (cA 0, 3, .inl (fun k => nI ((va_up (T.2 2) (T.2 4 2) (ky * 10 + kx)) k)))), (a 13, .inl (cA 0, 3, .inl (fun k => nI ((va_up (T.2 3) (T.2 4 2) 0) k)))), (a 14, .inl (cA 4, 3, .inr (.inr (.inr (.inr (row3 (a 15) (a 16) (a 17))))))), (a 15, .inl (cA 0, 24, .inl (T.1 7))), (a 16, .inl (cA 0, 24, .inl (T.1 8))), (a 17, .inl (cA 0, 24, .inl (T.1 9)))]]) CX hE hW hA (c_X3_append l G cA a (T.2 4 2) (T.2 2) (T.2 3) (ky * 10 + kx) hn3) (cwV 1 hts gX5_probe_X3_append rfl rfl rfl hdv_X3_append ⟨Nat.le_of_ble_eq_true rfl, Nat.le_of_ble_eq_true rfl⟩) 8 rfl [11, 12, 13] (by decide) rfl rfl rfl rfl 11 rfl rfl rfl BM0_blind (fun _ _ _ _ => trivial) rfl hl.1 (rest := []) rfl (Nat.le_of_ble_eq_true rfl) dX5_probe_50 ⟨Nat.zero_le _, Nat.zero_le _⟩ (fun H locs hW => ?_)
      have hW : wldS G A_ [[(x 0, .inr (5, [.ref (a 0), .ref (b 0), .ref (x 3), .ref (x 1), .ref (x 2), .ref (x 5)]))], [(x 3, .inr (1, [.ref (x 4), .int (nI (keepN hn))])), (x 4, .inl (cA 3, 6, .inr (.inr (.inr (.inr (stR (keepA ha hn)))))))], tkW cA ((keepA ha hn) 0) ((keepT hT hn T) 0), tkW cA ((keepA ha hn) 1) ((keepT hT hn T) 1), tkW cA ((keepA ha hn) 2) ((keepT hT hn T) 2), tkW cA ((keepA ha hn) 3) ((keepT hT hn T) 3), tkW cA ((keepA ha hn) 4) ((keepT hT hn T) 4), tkW cA ((keepA ha hn) 5) ((keepT hT hn T) 5), tkW cA a (probT T (ky * 10 + kx))] s_.heap H locs := hW
      exact mu_reti CX hr hlk rfl rfl hW.flat dX5_probe_53
    · exact absurd hn3 (by omega)
  · exact absurd (cellP_of hkx hky) c_5
theorem kb_100 : (Int8.ofInt (100)).toInt32 = (nI 100) := by decide +kernel
theorem fl_X5_pass_12 : Cond.fieldLink RX5 12 RX5 (TX5 0).2.1 (TX5 0).2.2.1 ∈ wsX5_pass := by decide +kernel
theorem in_X5_pass_X5 : ∀ w ∈ wsX50, w ∈ wsX5_pass := by decide +kernel
theorem fl_X5_pass_135 : Cond.fieldLink RX5 135 RX4 (TX4 7).2.1 (TX4 7).2.2.1 ∈ wsX5_pass := by decide +kernel
theorem in_X5_pass_X4 : ∀ w ∈ wsX40, w ∈ wsX5_pass := by decide +kernel
theorem w_X5_pass_cn138 : Cond.constant RX5 138 (100000) ∈ wsX5_pass := by decide +kernel
theorem fl_X5_pass_22 : Cond.fieldLink RX5 22 RX5 (TX5 2).2.1 (TX5 2).2.2.1 ∈ wsX5_pass := by decide +kernel
theorem hdv_X4_run : yX4_run.cls = RX4 ∧ yX4_run.cls ≠ "java/lang/invoke/MethodHandle" ∧ yX4_run.cls ≠ "java/lang/invoke/VarHandle" ∧ (parseMethodDescriptor yX4_run.desc).map (fun d => d.parameters.length) = some 1 := by decide +kernel
set_option maxHeartbeats 8000000 in
set_option maxRecDepth 100000 in
theorem c_X5_pass_k (l : Launch) (G : va_G) (cA : Nat → ClassId) (x : Nat → Nat) (a : Nat → Nat) (b : Nat → Nat) (T : TV) (hn : Nat) (ha : Nat → Nat → Nat) (hT : Nat → TV) (n : Nat) (hhn : hn ≤ 6) (hok : okT T) (hn1 : 1 ≤ n) (hn_ : n ≤ 100) (htn : T.2 4 0 + n ≤ 100000) : MUi l yX5_pass wsX5_pass ({ frames := 5, cells := 0, slots := 0, locals := 130 }) G cA BM0 (([[(x 0, .inr (5, [.ref (a 0), .ref (b 0), .ref (x 3), .ref (x 1), .ref (x 2), .ref (x 5)]))], [(x 3, .inr (1, [.ref (x 4), .int (nI hn)])), (x 4, .inl (cA 3, 6, .inr (.inr (.inr (.inr (stR ha))))))], tkW cA (ha 0) (hT 0), tkW cA (ha 1) (hT 1), tkW cA (ha 2) (hT 2), tkW cA (ha 3) (hT 3), tkW cA (ha 4) (hT 4), tkW cA (ha 5) (hT 5), tkW cA a T] : List va_W).flatten) [.ref (x 0), .int (nI n)] (([[(x 0, .inr (5, [.ref ((runA a n) 0), .ref (b 0), .ref (x 3), .ref (x 1), .ref (x 2), .ref (x 5)]))], [(x 3, .inr (1, [.ref (x 4), .int (nI (keepN hn))])), (x 4, .inl (cA 3, 6, .inr (.inr (.inr (.inr (stR (keepA ha hn)))))))], tkW cA ((keepA ha hn) 0) ((keepT hT hn T) 0), tkW cA ((keepA ha hn) 1) ((keepT hT hn T) 1), tkW cA ((keepA ha hn) 2) ((keepT hT hn T) 2), tkW cA ((keepA ha hn) 3) ((keepT hT hn T) 3), tkW cA ((keepA ha hn) 4) ((keepT hT hn T) 4), tkW cA ((keepA ha hn) 5) ((keepT hT hn T) 5), tkW cA (runA a n) (runT T n)] : List va_W).flatten) (restF ((runT T n).1 0) ((runT T n).1 1) ((runT T n).1 2) ((runT T n).1 3)) := by
  refine MUi.mk (own := RX5) (by decide) rfl rfl (Nat.le_of_ble_eq_true rfl) (fun p_ e_ s_ m_ below meth c_ ls A_ CX hr hlk hW hA hE hB hl => ?_)
  obtain ⟨hx, hb, hml, hown, hts⟩ := id CX
  have hl : lv_has ls 2 [(0, .ref (x 0)), (1, .int (nI n))] := hl
  have hW : wldS G A_ [[(x 0, .inr (5, [.ref (a 0), .ref (b 0), .ref (x 3), .ref (x 1), .ref (x 2), .ref (x 5)]))], [(x 3, .inr (1, [.ref (x 4), .int (nI hn)])), (x 4, .inl (cA 3, 6, .inr (.inr (.inr (.inr (stR ha))))))], tkW cA (ha 0) (hT 0), tkW cA (ha 1) (hT 1), tkW cA (ha 2) (hT 2), tkW cA (ha 3) (hT 3), tkW cA (ha 4) (hT 4), tkW cA (ha 5) (hT 5), tkW cA a T] s_.heap s_.heap [] := wldS.of hW
  have hdc := hok.1.2
  have hnd := hok.1.1
  have hnp := hok.2.1
  have hpc := hok.2.2
  refine lv_iload_n hx hb dX5_pass_0 rfl (lv_at hl 1 rfl) ?_
  refine rn_iconst hx hb 1 rfl dX5_pass_1 ?_
  refine lv_bipush (v := (nI 100)) hx hb dX5_pass_2 kb_100 ?_
  refine roS CX hE va_P_nil (c_X5_isIn l G cA (nI n) (nI 1) (nI 100) ) (va_cwS 3 hts gX5_pass_X5_isIn rfl rfl rfl hdn_X5_isIn ⟨Nat.le_of_ble_eq_true rfl, Nat.le_of_ble_eq_true rfl⟩) [] rfl B0_blind (fun _ _ _ => trivial) rfl hl.1 (rest := []) rfl (Nat.le_of_ble_eq_true rfl) dX5_pass_4 ⟨Nat.zero_le _, Nat.zero_le _⟩ ?_
  refine rb_if_ne hx hb dX5_pass_7 (by decide) (tgt := 13) (fun c_7 => ?_) (fun c_7 => ?_)
  · refine lv_aload_n hx hb dX5_pass_13 rfl (lv_at hl 0 rfl) ?_
    refine rg (T := TX5) (N := 6) CX hE (hW.hP 0 rfl) in_X5_pass_X5 0 rfl rfl 0 (by decide) fl_X5_pass_12 rfl rfl dX5_pass_14 ?_
    refine rg (T := TX4) (N := 8) CX hE (hW.hP 8 rfl) in_X5_pass_X4 0 rfl rfl 7 (by decide) fl_X5_pass_135 rfl rfl dX5_pass_17 ?_
    refine lv_iload_n hx hb dX5_pass_20 rfl (lv_at hl 1 rfl) ?_
    refine rn_iadd hx hb dX5_pass_21 ?_
    refine lv_ldc (v := (100000)) hx hb hown (hts _ w_X5_pass_cn138) dX5_pass_22 ?_
    refine rn_top (nI 100000) kl_100000 ?_
    refine rn_icmp_le hx hb (by omega) (by omega) dX5_pass_24 (by decide) (tgt := 30) (fun c_24 => ?_) (fun c_24 => ?_)
    · refine lv_aload_n hx hb dX5_pass_30 rfl (lv_at hl 0 rfl) ?_
      refine rg (T := TX5) (N := 6) CX hE (hW.hP 0 rfl) in_X5_pass_X5 0 rfl rfl 2 (by decide) fl_X5_pass_22 rfl rfl dX5_pass_31 ?_
      refine lv_aload_n hx hb dX5_pass_34 rfl (lv_at hl 0 rfl) ?_
      refine rg (T := TX5) (N := 6) CX hE (hW.hP 0 rfl) in_X5_pass_X5 0 rfl rfl 0 (by decide) fl_X5_pass_12 rfl rfl dX5_pass_35 ?_
      refine muvVS (segs' := [[(x 0, .inr (5, [.ref (a 0), .ref (b 0), .ref (x 3), .ref (x 1), .ref (x 2), .ref (x 5)]))], [(x 3, .inr (1, [.ref (x 4), .int (nI (keepN hn))])), (x 4, .inl (cA 3, 6, .inr (.inr (.inr (.inr (stR (keepA ha hn)))))))], tkW cA ((keepA ha hn) 0) ((keepT hT hn T) 0), tkW cA ((keepA ha hn) 1) ((keepT hT hn T) 1), tkW cA ((keepA ha hn) 2) ((keepT hT hn T) 2), tkW cA ((keepA ha hn) 3) ((keepT hT hn T) 3), tkW cA ((keepA ha hn) 4) ((keepT hT hn T) 4), tkW cA ((keepA ha hn) 5) ((keepT hT hn T) 5), tkW cA a T]) CX hE hW hA (c_X1_keep l G cA x hn ha hT a T hhn) (cwV 1 hts gX5_pass_X1_keep rfl rfl rfl hdv_X1_keep ⟨Nat.le_of_ble_eq_true rfl, Nat.le_of_ble_eq_true rfl⟩) [1, 2, 3, 4, 5, 6, 7, 8] (by decide) rfl rfl rfl (hW.hP 1 rfl) 0 rfl rfl rfl BM0_blind (fun _ _ _ _ => trivial) rfl hl.1 (rest := []) rfl (Nat.le_of_ble_eq_true rfl) dX5_pass_38 ⟨Nat.zero_le _, Nat.zero_le _⟩ (fun H locs hW => ?_)
      refine lv_aload_n hx hb dX5_pass_41 rfl (lv_at hl 0 rfl) ?_
      refine rg (T := TX5) (N := 6) CX hE (hW.hP 0 rfl) in_X5_pass_X5 0 rfl rfl 0 (by decide) fl_X5_pass_12 rfl rfl dX5_pass_42 ?_
      refine lv_iload_n hx hb dX5_pass_45 rfl (lv_at hl 1 rfl) ?_
      refine muvVP (w' := tkW cA (runA a n) (runT T n)) (segs' := [[(x 0, .inr (5, [.ref (a 0), .ref (b 0), .ref (x 3), .ref (x 1), .ref (x 2), .ref (x 5)]))], [(x 3, .inr (1, [.ref (x 4), .int (nI (keepN hn))])), (x 4, .inl (cA 3, 6, .inr (.inr (.inr (.inr (stR (keepA ha hn)))))))], tkW cA ((keepA ha hn) 0) ((keepT hT hn T) 0), tkW cA ((keepA ha hn) 1) ((keepT hT hn T) 1), tkW cA ((keepA ha hn) 2) ((keepT hT hn T) 2), tkW cA ((keepA ha hn) 3) ((keepT hT hn T) 3), tkW cA ((keepA ha hn) 4) ((keepT hT hn T) 4), tkW cA ((keepA ha hn) 5) ((keepT hT hn T) 5), tkW cA (runA a n) (runT T n)]) CX hE hW hA (c_X4_run l G cA a T n hok (by omega)) (cwV 1 hts gX5_pass_X4_run rfl rfl rfl hdv_X4_run ⟨Nat.le_of_ble_eq_true rfl, Nat.le_of_ble_eq_true rfl⟩) 8 rfl [0, 1, 2, 3, 4, 5, 6, 7, 8, 9, 10, 11, 12, 13, 14, 15, 16, 17] (by decide) rfl rfl rfl rfl 0 rfl rfl rfl BM0_blind (fun _ _ _ _ => trivial) rfl hl.1 (rest := []) rfl (Nat.le_of_ble_eq_true rfl) dX5_pass_46 ⟨Nat.zero_le _, Nat.zero_le _⟩ (fun H locs hW => ?_)
      have hW : wldS G A_ [[(x 0, .inr (5, [.ref ((runA a n) 0), .ref (b 0), .ref (x 3), .ref (x 1), .ref (x 2), .ref (x 5)]))], [(x 3, .inr (1, [.ref (x 4), .int (nI (keepN hn))])), (x 4, .inl (cA 3, 6, .inr (.inr (.inr (.inr (stR (keepA ha hn)))))))], tkW cA ((keepA ha hn) 0) ((keepT hT hn T) 0), tkW cA ((keepA ha hn) 1) ((keepT hT hn T) 1), tkW cA ((keepA ha hn) 2) ((keepT hT hn T) 2), tkW cA ((keepA ha hn) 3) ((keepT hT hn T) 3), tkW cA ((keepA ha hn) 4) ((keepT hT hn T) 4), tkW cA ((keepA ha hn) 5) ((keepT hT hn T) 5), tkW cA (runA a n) (runT T n)] s_.heap H locs := hW
      refine lv_aload_n hx hb dX5_pass_49 rfl (lv_at hl 0 rfl) ?_
      refine rg (T := TX5) (N := 6) CX hE (hW.hP 0 rfl) in_X5_pass_X5 0 rfl rfl 0 (by decide) fl_X5_pass_12 rfl rfl dX5_pass_50 ?_
      refine roVg CX hE ((hW.hP 8 rfl).sub [0, 1, 2, 3, 4] rfl) (c_X4_restlessCells l G cA (runA a n) ((runT T n).2 4 0) ((runT T n).1 0) ((runT T n).1 1) ((runT T n).1 2) ((runT T n).1 3) ) (cwV 0 hts gX5_pass_X4_restlessCells rfl rfl rfl hdv_X4_restlessCells ⟨Nat.le_of_ble_eq_true rfl, Nat.le_of_ble_eq_true rfl⟩) (hW.hP 8 rfl) 0 rfl rfl rfl B0_blind (fun _ _ _ => trivial) rfl hl.1 (rest := []) rfl (Nat.le_of_ble_eq_true rfl) dX5_pass_53 ⟨Nat.zero_le _, Nat.zero_le _⟩ ?_
      exact mu_reti CX hr hlk rfl rfl hW.flat dX5_pass_56
    · exact absurd htn (by omega)
  · exact absurd (inP_nI hn1 hn_ (by decide)) c_7
