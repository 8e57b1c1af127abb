theorem fl_X5_isDipper_12 : Cond.fieldLink RX5 12 RX5 (TX5 0).2.1 (TX5 0).2.2.1 ∈ wsX5_isDipper := by decide +kernel
theorem in_X5_isDipper_X5 : ∀ w ∈ wsX50, w ∈ wsX5_isDipper := by decide +kernel
theorem fl_X5_isDipper_63 : Cond.fieldLink RX5 63 RX4 (TX4 5).2.1 (TX4 5).2.2.1 ∈ wsX5_isDipper := by decide +kernel
theorem in_X5_isDipper_X4 : ∀ w ∈ wsX40, w ∈ wsX5_isDipper := by decide +kernel
theorem fl_X5_isDipper_105 : Cond.fieldLink RX5 105 RX0 (TX0 4).2.1 (TX0 4).2.2.1 ∈ wsX5_isDipper := by decide +kernel
theorem in_X5_isDipper_X0 : ∀ w ∈ wsX00, w ∈ wsX5_isDipper := by decide +kernel
set_option maxHeartbeats 4000000 in
set_option maxRecDepth 100000 in
theorem c_X5_isDipper (l : Launch) (G : va_G) (cA : Nat → ClassId) (x : Nat → Nat) (a : Nat → Nat) (b : Nat → Nat) (T : TV) (d : Int32) (hok : okT T) : RO l yX5_isDipper wsX5_isDipper ({ frames := 1, cells := 0, slots := 0, locals := 22 }) G cA B0 (([[(x 0, .inr (5, [.ref (a 0), .ref (b 0), .ref (x 3), .ref (x 1), .ref (x 2), .ref (x 5)]))], tkW cA a T] : List va_W).flatten) [.ref (x 0), .int d] (b2i (0 ≤ d ∧ d < nI (T.2 4 1))) := by
  refine RO.mk (own := RX5) (by decide) rfl rfl (Nat.le_of_ble_eq_true rfl) (fun p_ e_ s_ m_ below meth c_ ls CX hr hlk hP hE hB hl => ?_)
  obtain ⟨hx, hb, hml, hown, hts⟩ := id CX
  have hl : lv_has ls 2 [(0, .ref (x 0)), (1, .int d)] := hl
  have hP : ∀ (k : Nat) (w : va_W), ([[(x 0, .inr (5, [.ref (a 0), .ref (b 0), .ref (x 3), .ref (x 1), .ref (x 2), .ref (x 5)]))], tkW cA a T] : List va_W)[k]? = some w → va_P G vwCl w s_.heap := va_P_seg hP
  have hdc := hok.1.2
  have hnd := hok.1.1
  have hnp := hok.2.1
  have hpc := hok.2.2
  refine lv_iload_n hx hb dX5_isDipper_0 rfl (lv_at hl 1 rfl) ?_
  refine rn_iconst hx hb 0 rfl dX5_isDipper_1 ?_
  refine lv_aload_n hx hb dX5_isDipper_2 rfl (lv_at hl 0 rfl) ?_
  refine rg (T := TX5) (N := 6) CX hE (hP 0 _ rfl) in_X5_isDipper_X5 0 rfl rfl 0 (by decide) fl_X5_isDipper_12 rfl rfl dX5_isDipper_3 ?_
  refine rg (T := TX4) (N := 8) CX hE (hP 1 _ rfl) in_X5_isDipper_X4 0 rfl rfl 5 (by decide) fl_X5_isDipper_63 rfl rfl dX5_isDipper_6 ?_
  refine rg (T := TX0) (N := 5) CX hE (hP 1 _ rfl) in_X5_isDipper_X0 6 rfl rfl 4 (by decide) fl_X5_isDipper_105 rfl rfl dX5_isDipper_9 ?_
  refine rn_iconst hx hb 1 rfl dX5_isDipper_12 ?_
  refine lv_isub hx hb dX5_isDipper_13 ?_
  refine roS CX hE va_P_nil (c_X5_isIn l G cA d (nI 0) ((nI (T.2 4 1)) - (nI 1)) ) (va_cwS 3 hts gX5_isDipper_X5_isIn rfl rfl rfl hdn_X5_isIn ⟨Nat.le_of_ble_eq_true rfl, Nat.le_of_ble_eq_true rfl⟩) [] rfl B0_blind (fun _ _ _ => trivial) rfl hl.1 (rest := []) rfl (Nat.le_of_ble_eq_true rfl) dX5_isDipper_14 ⟨Nat.zero_le _, Nat.zero_le _⟩ ?_
  exact ro_ret CX hr hlk (b2i_iff (inM1 (by omega))) b2i_nar dX5_isDipper_17
theorem fl_X5_isProbe_12 : Cond.fieldLink RX5 12 RX5 (TX5 0).2.1 (TX5 0).2.2.1 ∈ wsX5_isProbe := by decide +kernel
theorem in_X5_isProbe_X5 : ∀ w ∈ wsX50, w ∈ wsX5_isProbe := by decide +kernel
theorem fl_X5_isProbe_126 : Cond.fieldLink RX5 126 RX4 (TX4 6).2.1 (TX4 6).2.2.1 ∈ wsX5_isProbe := by decide +kernel
theorem in_X5_isProbe_X4 : ∀ w ∈ wsX40, w ∈ wsX5_isProbe := by decide +kernel
theorem fl_X5_isProbe_130 : Cond.fieldLink RX5 130 RX3 (TX3 3).2.1 (TX3 3).2.2.1 ∈ wsX5_isProbe := by decide +kernel
theorem in_X5_isProbe_X3 : ∀ w ∈ wsX30, w ∈ wsX5_isProbe := by decide +kernel
set_option maxHeartbeats 4000000 in
set_option maxRecDepth 100000 in
theorem c_X5_isProbe (l : Launch) (G : va_G) (cA : Nat → ClassId) (x : Nat → Nat) (a : Nat → Nat) (b : Nat → Nat) (T : TV) (d : Int32) (hok : okT T) : RO l yX5_isProbe wsX5_isProbe ({ frames := 1, cells := 0, slots := 0, locals := 22 }) G cA B0 (([[(x 0, .inr (5, [.ref (a 0), .ref (b 0), .ref (x 3), .ref (x 1), .ref (x 2), .ref (x 5)]))], tkW cA a T] : List va_W).flatten) [.ref (x 0), .int d] (b2i (0 ≤ d ∧ d < nI (T.2 4 2))) := by
  refine RO.mk (own := RX5) (by decide) rfl rfl (Nat.le_of_ble_eq_true rfl) (fun p_ e_ s_ m_ below meth c_ ls CX hr hlk hP hE hB hl => ?_)
  obtain ⟨hx, hb, hml, hown, hts⟩ := id CX
  have hl : lv_has ls 2 [(0, .ref (x 0)), (1, .int d)] := hl
  have hP : ∀ (k : Nat) (w : va_W), ([[(x 0, .inr (5, [.ref (a 0), .ref (b 0), .ref (x 3), .ref (x 1), .ref (x 2), .ref (x 5)]))], tkW cA a T] : List va_W)[k]? = some w → va_P G vwCl w s_.heap := va_P_seg hP
  have hdc := hok.1.2
  have hnd := hok.1.1
  have hnp := hok.2.1
  have hpc := hok.2.2
  refine lv_iload_n hx hb dX5_isProbe_0 rfl (lv_at hl 1 rfl) ?_
  refine rn_iconst hx hb 0 rfl dX5_isProbe_1 ?_
  refine lv_aload_n hx hb dX5_isProbe_2 rfl (lv_at hl 0 rfl) ?_
  refine rg (T := TX5) (N := 6) CX hE (hP 0 _ rfl) in_X5_isProbe_X5 0 rfl rfl 0 (by decide) fl_X5_isProbe_12 rfl rfl dX5_isProbe_3 ?_
  refine rg (T := TX4) (N := 8) CX hE (hP 1 _ rfl) in_X5_isProbe_X4 0 rfl rfl 6 (by decide) fl_X5_isProbe_126 rfl rfl dX5_isProbe_6 ?_
  refine rg (T := TX3) (N := 4) CX hE (hP 1 _ rfl) in_X5_isProbe_X3 11 rfl rfl 3 (by decide) fl_X5_isProbe_130 rfl rfl dX5_isProbe_9 ?_
  refine rn_iconst hx hb 1 rfl dX5_isProbe_12 ?_
  refine lv_isub hx hb dX5_isProbe_13 ?_
  refine roS CX hE va_P_nil (c_X5_isIn l G cA d (nI 0) ((nI (T.2 4 2)) - (nI 1)) ) (va_cwS 3 hts gX5_isProbe_X5_isIn rfl rfl rfl hdn_X5_isIn ⟨Nat.le_of_ble_eq_true rfl, Nat.le_of_ble_eq_true rfl⟩) [] rfl B0_blind (fun _ _ _ => trivial) rfl hl.1 (rest := []) rfl (Nat.le_of_ble_eq_true rfl) dX5_isProbe_14 ⟨Nat.zero_le _, Nat.zero_le _⟩ ?_
  exact ro_ret CX hr hlk (b2i_iff (inM1 (by omega))) b2i_nar dX5_isProbe_17
theorem kb_m2 : (Int8.ofInt (-2)).toInt32 = (-2) := by decide +kernel
theorem fl_X5_cell_12 : Cond.fieldLink RX5 12 RX5 (TX5 0).2.1 (TX5 0).2.2.1 ∈ wsX5_cell := by decide +kernel
theorem in_X5_cell_X5 : ∀ w ∈ wsX50, w ∈ wsX5_cell := by decide +kernel
theorem fl_X5_cell_73 : Cond.fieldLink RX5 73 RX4 (TX4 1).2.1 (TX4 1).2.2.1 ∈ wsX5_cell := by decide +kernel
theorem in_X5_cell_X4 : ∀ w ∈ wsX40, w ∈ wsX5_cell := by decide +kernel
theorem fl_X5_cell_120 : Cond.fieldLink RX5 120 RX4 (TX4 2).2.1 (TX4 2).2.2.1 ∈ wsX5_cell := by decide +kernel
theorem ks_10000 : (Int16.ofInt (10000)).toInt32 = (nI 10000) := by decide +kernel
theorem fl_X5_cell_145 : Cond.fieldLink RX5 145 RX4 (TX4 3).2.1 (TX4 3).2.2.1 ∈ wsX5_cell := by decide +kernel
theorem w_X5_cell_cn138 : Cond.constant RX5 138 (100000) ∈ wsX5_cell := by decide +kernel
theorem kl_100000 : (100000 : Int32) = (nI 100000) := by decide +kernel
theorem fl_X5_cell_154 : Cond.fieldLink RX5 154 RX4 (TX4 4).2.1 (TX4 4).2.2.1 ∈ wsX5_cell := by decide +kernel
theorem fl_X5_cell_63 : Cond.fieldLink RX5 63 RX4 (TX4 5).2.1 (TX4 5).2.2.1 ∈ wsX5_cell := by decide +kernel
theorem hdv_X0_lastIn : yX0_lastIn.cls = RX0 ∧ yX0_lastIn.cls ≠ "java/lang/invoke/MethodHandle" ∧ yX0_lastIn.cls ≠ "java/lang/invoke/VarHandle" ∧ (parseMethodDescriptor yX0_lastIn.desc).map (fun d => d.parameters.length) = some 1 := by decide +kernel
set_option maxHeartbeats 4000000 in
set_option maxRecDepth 100000 in
theorem c_X5_cell_k (l : Launch) (G : va_G) (cA : Nat → ClassId) (x : Nat → Nat) (a : Nat → Nat) (b : Nat → Nat) (T : TV) (kx : Nat) (ky : Nat) (w : Int32) (hok : okT T) (hkx : kx < 10) (hky : ky < 6) : RO l yX5_cell wsX5_cell ({ frames := 3, cells := 0, slots := 0, locals := 66 }) G cA B0 (([[(x 0, .inr (5, [.ref (a 0), .ref (b 0), .ref (x 3), .ref (x 1), .ref (x 2), .ref (x 5)]))], tkW cA a T] : List va_W).flatten) [.ref (x 0), .int (nI kx), .int (nI ky), .int w] (celT T (ky * 10 + kx) (tsel w 6)) := by
  refine RO.mk (own := RX5) (by decide) rfl rfl (Nat.le_of_ble_eq_true rfl) (fun p_ e_ s_ m_ below meth c_ ls CX hr hlk hP hE hB hl => ?_)
  obtain ⟨hx, hb, hml, hown, hts⟩ := id CX
  have hl : lv_has ls 5 [(0, .ref (x 0)), (1, .int (nI kx)), (2, .int (nI ky)), (3, .int w)] := hl
  have hP : ∀ (k : Nat) (w : va_W), ([[(x 0, .inr (5, [.ref (a 0), .ref (b 0), .ref (x 3), .ref (x 1), .ref (x 2), .ref (x 5)]))], tkW cA a T] : List va_W)[k]? = some w → va_P G vwCl w s_.heap := va_P_seg hP
  have hdc := hok.1.2
  have hnd := hok.1.1
  have hnp := hok.2.1
  have hpc := hok.2.2
  refine lv_iload_n hx hb dX5_cell_0 rfl (lv_at hl 1 rfl) ?_
  refine lv_iload_n hx hb dX5_cell_1 rfl (lv_at hl 2 rfl) ?_
  refine roS CX hE va_P_nil (c_X5_isCell l G cA (nI kx) (nI ky) ) (va_cwS 2 hts gX5_cell_X5_isCell rfl rfl rfl hdn_X5_isCell ⟨Nat.le_of_ble_eq_true rfl, Nat.le_of_ble_eq_true rfl⟩) [] rfl B0_blind (fun _ _ _ => trivial) rfl hl.1 (rest := []) rfl (Nat.le_of_ble_eq_true rfl) dX5_cell_2 ⟨Nat.zero_le _, Nat.zero_le _⟩ ?_
  refine rb_if_ne hx hb dX5_cell_5 (by decide) (tgt := 10) (fun c_5 => ?_) (fun c_5 => ?_)
  · refine lv_iload_n hx hb dX5_cell_10 rfl (lv_at hl 1 rfl) ?_
    refine lv_iload_n hx hb dX5_cell_11 rfl (lv_at hl 2 rfl) ?_
    refine roS CX hE va_P_nil (c_X5_placeOf l G cA kx ky ) (va_cwS 2 hts gX5_cell_X5_placeOf rfl rfl rfl hdn_X5_placeOf ⟨Nat.le_of_ble_eq_true rfl, Nat.le_of_ble_eq_true rfl⟩) [] rfl B0_blind (fun _ _ _ => trivial) rfl hl.1 (rest := []) rfl (Nat.le_of_ble_eq_true rfl) dX5_cell_12 ⟨Nat.zero_le _, Nat.zero_le _⟩ ?_
    refine lv_istore (lv' := [(4, .int (nI (ky * 10 + kx))), (0, .ref (x 0)), (1, .int (nI kx)), (2, .int (nI ky)), (3, .int w)]) hx hb dX5_cell_15 hl (by decide) rfl (fun ls hl => ?_)
    refine lv_iload_n hx hb dX5_cell_17 rfl (lv_at hl 4 rfl) ?_
    rcases tsw_cases w (0) (6) with c_18 | ⟨c_18, d_18⟩
    · refine lv_tableOut (tgt := 156) hx hb dX5_cell_18 c_18 (by decide) ?_
      refine lv_bipush (v := (-2)) hx hb dX5_cell_156 kb_m2 ?_
      exact ro_ret CX hr hlk (by exact (congrArg (celT T (ky * 10 + kx)) (tsel_out c_18)).symm) rfl dX5_cell_158
    · have e_18 := tsw_split w (0) 7 (by omega) (by omega)
      obtain ⟨k_18, hk_18, e_18⟩ := e_18
      match k_18, hk_18, e_18 with
      | 0, _, e_18 =>
        refine lv_tableIn (tgt := 60) (off := 42) hx hb dX5_cell_18 (by omega) (by omega) (by rw [e_18]; rfl) (by decide) ?_
        refine lv_aload_n hx hb dX5_cell_60 rfl (lv_at hl 1 rfl) ?_
        refine rg (T := TX5) (N := 6) CX hE (hP 0 _ rfl) in_X5_cell_X5 0 rfl rfl 0 (by decide) fl_X5_cell_12 rfl rfl dX5_cell_61 ?_
        refine rg (T := TX4) (N := 8) CX hE (hP 1 _ rfl) in_X5_cell_X4 0 rfl rfl 1 (by decide) fl_X5_cell_73 rfl rfl dX5_cell_64 ?_
        refine lv_iload hx hb dX5_cell_67 (lv_at hl 0 rfl) ?_
        refine rn_iald CX hE (hP 1 _ rfl) 2 rfl (j := (ky * 10 + kx)) (by omega) (ltb rfl) dX5_cell_69 ?_
        exact ro_ret CX hr hlk (by exact (congrArg (celT T (ky * 10 + kx)) (tsel_in c_18 d_18 e_18)).symm) rfl dX5_cell_70
      | 1, _, e_18 =>
        refine lv_tableIn (tgt := 71) (off := 53) hx hb dX5_cell_18 (by omega) (by omega) (by rw [e_18]; rfl) (by decide) ?_
        refine lv_aload_n hx hb dX5_cell_71 rfl (lv_at hl 1 rfl) ?_
        refine rg (T := TX5) (N := 6) CX hE (hP 0 _ rfl) in_X5_cell_X5 0 rfl rfl 0 (by decide) fl_X5_cell_12 rfl rfl dX5_cell_72 ?_
        refine rg (T := TX4) (N := 8) CX hE (hP 1 _ rfl) in_X5_cell_X4 0 rfl rfl 2 (by decide) fl_X5_cell_120 rfl rfl dX5_cell_75 ?_
        refine lv_iload hx hb dX5_cell_78 (lv_at hl 0 rfl) ?_
        refine rn_iald CX hE (hP 1 _ rfl) 3 rfl (j := (ky * 10 + kx)) (by omega) (ltb rfl) dX5_cell_80 ?_
        refine lv_sipush (v := (nI 10000)) hx hb dX5_cell_81 ks_10000 ?_
        refine lv_iadd hx hb dX5_cell_84 ?_
        exact ro_ret CX hr hlk (by exact (congrArg (celT T (ky * 10 + kx)) (tsel_in c_18 d_18 e_18)).symm) rfl dX5_cell_85
      | 2, _, e_18 =>
        refine lv_tableIn (tgt := 86) (off := 68) hx hb dX5_cell_18 (by omega) (by omega) (by rw [e_18]; rfl) (by decide) ?_
        refine lv_aload_n hx hb dX5_cell_86 rfl (lv_at hl 1 rfl) ?_
        refine rg (T := TX5) (N := 6) CX hE (hP 0 _ rfl) in_X5_cell_X5 0 rfl rfl 0 (by decide) fl_X5_cell_12 rfl rfl dX5_cell_87 ?_
        refine rg (T := TX4) (N := 8) CX hE (hP 1 _ rfl) in_X5_cell_X4 0 rfl rfl 3 (by decide) fl_X5_cell_145 rfl rfl dX5_cell_90 ?_
        refine lv_iload hx hb dX5_cell_93 (lv_at hl 0 rfl) ?_
        refine rn_iald CX hE (hP 1 _ rfl) 4 rfl (j := (ky * 10 + kx)) (by omega) (ltb rfl) dX5_cell_95 ?_
        refine lv_sipush (v := (nI 10000)) hx hb dX5_cell_96 ks_10000 ?_
        refine lv_iadd hx hb dX5_cell_99 ?_
        exact ro_ret CX hr hlk (by exact (congrArg (celT T (ky * 10 + kx)) (tsel_in c_18 d_18 e_18)).symm) rfl dX5_cell_100
      | 3, _, e_18 =>
        refine lv_tableIn (tgt := 101) (off := 83) hx hb dX5_cell_18 (by omega) (by omega) (by rw [e_18]; rfl) (by decide) ?_
        refine lv_aload_n hx hb dX5_cell_101 rfl (lv_at hl 1 rfl) ?_
        refine rg (T := TX5) (N := 6) CX hE (hP 0 _ rfl) in_X5_cell_X5 0 rfl rfl 0 (by decide) fl_X5_cell_12 rfl rfl dX5_cell_102 ?_
        refine lv_iload hx hb dX5_cell_105 (lv_at hl 0 rfl) ?_
        refine roVg CX hE ((hP 1 _ rfl).sub [0, 2, 3] rfl) (c_X4_slopeAt l G cA a (T.2 4 0) (T.1 1) (T.1 2) (ky * 10 + kx) (by omega)) (cwV 1 hts gX5_cell_X4_slopeAt rfl rfl rfl hdv_X4_slopeAt ⟨Nat.le_of_ble_eq_true rfl, Nat.le_of_ble_eq_true rfl⟩) (hP 1 _ rfl) 0 rfl rfl rfl B0_blind (fun _ _ _ => trivial) rfl hl.1 (rest := []) rfl (Nat.le_of_ble_eq_true rfl) dX5_cell_107 ⟨Nat.zero_le _, Nat.zero_le _⟩ ?_
        refine lv_ldc (v := (100000)) hx hb hown (hts _ w_X5_cell_cn138) dX5_cell_110 ?_
        refine rn_top (nI 100000) kl_100000 ?_
        refine lv_iadd hx hb dX5_cell_112 ?_
        exact ro_ret CX hr hlk (by exact (congrArg (celT T (ky * 10 + kx)) (tsel_in c_18 d_18 e_18)).symm) rfl dX5_cell_113
      | 4, _, e_18 =>
        refine lv_tableIn (tgt := 114) (off := 96) hx hb dX5_cell_18 (by omega) (by omega) (by rw [e_18]; rfl) (by decide) ?_
        refine lv_aload_n hx hb dX5_cell_114 rfl (lv_at hl 1 rfl) ?_
        refine rg (T := TX5) (N := 6) CX hE (hP 0 _ rfl) in_X5_cell_X5 0 rfl rfl 0 (by decide) fl_X5_cell_12 rfl rfl dX5_cell_115 ?_
        refine lv_iload hx hb dX5_cell_118 (lv_at hl 0 rfl) ?_
        refine roVg CX hE ((hP 1 _ rfl).sub [0, 1, 3, 4] rfl) (c_X4_isStill l G cA a (T.2 4 0) (T.1 0) (T.1 2) (T.1 3) (ky * 10 + kx) (by omega)) (cwV 1 hts gX5_cell_X4_isStill rfl rfl rfl hdv_X4_isStill ⟨Nat.le_of_ble_eq_true rfl, Nat.le_of_ble_eq_true rfl⟩) (hP 1 _ rfl) 0 rfl rfl rfl B0_blind (fun _ _ _ => trivial) rfl hl.1 (rest := []) rfl (Nat.le_of_ble_eq_true rfl) dX5_cell_120 ⟨Nat.zero_le _, Nat.zero_le _⟩ ?_
        refine rb_if_eq hx hb dX5_cell_123 (by decide) (tgt := 130) (fun c_123 => ?_) (fun c_123 => ?_)
        · refine rn_iconst hx hb 0 rfl dX5_cell_130 ?_
          exact ro_ret CX hr hlk (by refine Eq.trans ?_ (congrArg (celT T (ky * 10 + kx)) (tsel_in c_18 d_18 e_18)).symm; first | exact b2i_t c_123 | exact b2i_f c_123) rfl dX5_cell_131
        · refine rn_iconst hx hb 1 rfl dX5_cell_126 ?_
          refine lv_goto (tgt := 131) hx hb dX5_cell_127 (by decide) ?_
          exact ro_ret CX hr hlk (by refine Eq.trans ?_ (congrArg (celT T (ky * 10 + kx)) (tsel_in c_18 d_18 e_18)).symm; first | exact b2i_t c_123 | exact b2i_f c_123) rfl dX5_cell_131
      | 5, _, e_18 =>
        refine lv_tableIn (tgt := 132) (off := 114) hx hb dX5_cell_18 (by omega) (by omega) (by rw [e_18]; rfl) (by decide) ?_
        refine lv_aload_n hx hb dX5_cell_132 rfl (lv_at hl 1 rfl) ?_
        refine rg (T := TX5) (N := 6) CX hE (hP 0 _ rfl) in_X5_cell_X5 0 rfl rfl 0 (by decide) fl_X5_cell_12 rfl rfl dX5_cell_133 ?_
        refine rg (T := TX4) (N := 8) CX hE (hP 1 _ rfl) in_X5_cell_X4 0 rfl rfl 4 (by decide) fl_X5_cell_154 rfl rfl dX5_cell_136 ?_
        refine lv_iload hx hb dX5_cell_139 (lv_at hl 0 rfl) ?_
        refine rn_iald CX hE (hP 1 _ rfl) 5 rfl (j := (ky * 10 + kx)) (by omega) (ltb rfl) dX5_cell_141 ?_
        exact ro_ret CX hr hlk (by exact (congrArg (celT T (ky * 10 + kx)) (tsel_in c_18 d_18 e_18)).symm) rfl dX5_cell_142
      | 6, _, e_18 =>
        refine lv_tableIn (tgt := 143) (off := 125) hx hb dX5_cell_18 (by omega) (by omega) (by rw [e_18]; rfl) (by decide) ?_
        refine lv_aload_n hx hb dX5_cell_143 rfl (lv_at hl 1 rfl) ?_
        refine rg (T := TX5) (N := 6) CX hE (hP 0 _ rfl) in_X5_cell_X5 0 rfl rfl 0 (by decide) fl_X5_cell_12 rfl rfl dX5_cell_144 ?_
        refine rg (T := TX4) (N := 8) CX hE (hP 1 _ rfl) in_X5_cell_X4 0 rfl rfl 5 (by decide) fl_X5_cell_63 rfl rfl dX5_cell_147 ?_
        refine lv_iload hx hb dX5_cell_150 (lv_at hl 0 rfl) ?_
        refine roVg CX hE ((hP 1 _ rfl).sub [6, 7] rfl) (c_X0_lastIn l G cA a (T.2 4 1) (T.2 0) (ky * 10 + kx) hnd (fun k hk => (hdc k hk).1) (by omega)) (cwV 1 hts gX5_cell_X0_lastIn rfl rfl rfl hdv_X0_lastIn ⟨Nat.le_of_ble_eq_true rfl, Nat.le_of_ble_eq_true rfl⟩) (hP 1 _ rfl) 6 rfl rfl rfl B0_blind (fun _ _ _ => trivial) rfl hl.1 (rest := []) rfl (Nat.le_of_ble_eq_true rfl) dX5_cell_152 ⟨Nat.zero_le _, Nat.zero_le _⟩ ?_
        exact ro_ret CX hr hlk (by exact (congrArg (celT T (ky * 10 + kx)) (tsel_in c_18 d_18 e_18)).symm) rfl dX5_cell_155
      | k + 7, h, _ => exact absurd h (by omega)
  · exact absurd (cellP_of hkx hky) c_5
theorem hdv_X5_isProbe : yX5_isProbe.cls = RX5 ∧ yX5_isProbe.cls ≠ "java/lang/invoke/MethodHandle" ∧ yX5_isProbe.cls ≠ "java/lang/invoke/VarHandle" ∧ (parseMethodDescriptor yX5_isProbe.desc).map (fun d => d.parameters.length) = some 1 := by decide +kernel
theorem fl_X5_ofProbe_12 : Cond.fieldLink RX5 12 RX5 (TX5 0).2.1 (TX5 0).2.2.1 ∈ wsX5_ofProbe := by decide +kernel
theorem in_X5_ofProbe_X5 : ∀ w ∈ wsX50, w ∈ wsX5_ofProbe := by decide +kernel
theorem fl_X5_ofProbe_126 : Cond.fieldLink RX5 126 RX4 (TX4 6).2.1 (TX4 6).2.2.1 ∈ wsX5_ofProbe := by decide +kernel
theorem in_X5_ofProbe_X4 : ∀ w ∈ wsX40, w ∈ wsX5_ofProbe := by decide +kernel
theorem fl_X5_ofProbe_175 : Cond.fieldLink RX5 175 RX3 (TX3 0).2.1 (TX3 0).2.2.1 ∈ wsX5_ofProbe := by decide +kernel
theorem in_X5_ofProbe_X3 : ∀ w ∈ wsX30, w ∈ wsX5_ofProbe := by decide +kernel
theorem fl_X5_ofProbe_176 : Cond.fieldLink RX5 176 RX3 (TX3 1).2.1 (TX3 1).2.2.1 ∈ wsX5_ofProbe := by decide +kernel
theorem hdv_X3_beatOf : yX3_beatOf.cls = RX3 ∧ yX3_beatOf.cls ≠ "java/lang/invoke/MethodHandle" ∧ yX3_beatOf.cls ≠ "java/lang/invoke/VarHandle" ∧ (parseMethodDescriptor yX3_beatOf.desc).map (fun d => d.parameters.length) = some 1 := by decide +kernel
theorem hdv_X3_greatestOf : yX3_greatestOf.cls = RX3 ∧ yX3_greatestOf.cls ≠ "java/lang/invoke/MethodHandle" ∧ yX3_greatestOf.cls ≠ "java/lang/invoke/VarHandle" ∧ (parseMethodDescriptor yX3_greatestOf.desc).map (fun d => d.parameters.length) = some 1 := by decide +kernel
set_option maxHeartbeats 4000000 in
set_option maxRecDepth 100000 in
theorem c_X5_ofProbe_k (l : Launch) (G : va_G) (cA : Nat → ClassId) (x : Nat → Nat) (a : Nat → Nat) (b : Nat → Nat) (T : TV) (p : Nat) (w : Int32) (hok : okT T) (hp : p < T.2 4 2) : RO l yX5_ofProbe wsX5_ofProbe ({ frames := 3, cells := 0, slots := 0, locals := 73 }) G cA B0 (([[(x 0, .inr (5, [.ref (a 0), .ref (b 0), .ref (x 3), .ref (x 1), .ref (x 2), .ref (x 5)]))], tkW cA a T] : List va_W).flatten) [.ref (x 0), .int (nI p), .int w] (prbQ T p (tsel w 4)) := by
  refine RO.mk (own := RX5) (by decide) rfl rfl (Nat.le_of_ble_eq_true rfl) (fun p_ e_ s_ m_ below meth c_ ls CX hr hlk hP hE hB hl => ?_)
  obtain ⟨hx, hb, hml, hown, hts⟩ := id CX
  have hl : lv_has ls 4 [(0, .ref (x 0)), (1, .int (nI p)), (2, .int w)] := hl
  have hP : ∀ (k : Nat) (w : va_W), ([[(x 0, .inr (5, [.ref (a 0), .ref (b 0), .ref (x 3), .ref (x 1), .ref (x 2), .ref (x 5)]))], tkW cA a T] : List va_W)[k]? = some w → va_P G vwCl w s_.heap := va_P_seg hP
  have hdc := hok.1.2
  have hnd := hok.1.1
  have hnp := hok.2.1
  have hpc := hok.2.2
  have hpp := hpc p hp
  rcases (show p = 0 ∨ p = 1 ∨ p = 2 by omega) with rfl | rfl | rfl
  · refine lv_aload_n hx hb dX5_ofProbe_0 rfl (lv_at hl 0 rfl) ?_
    refine lv_iload_n hx hb dX5_ofProbe_1 rfl (lv_at hl 1 rfl) ?_
    refine roVg CX hE (va_P_segs hP [0, 1] rfl) (c_X5_isProbe l G cA x a b T (nI 0) (by assumption)) (cwV 1 hts gX5_ofProbe_X5_isProbe rfl rfl rfl hdv_X5_isProbe ⟨Nat.le_of_ble_eq_true rfl, Nat.le_of_ble_eq_true rfl⟩) (hP 0 _ rfl) 0 rfl rfl rfl B0_blind (fun _ _ _ => trivial) rfl hl.1 (rest := []) rfl (Nat.le_of_ble_eq_true rfl) dX5_ofProbe_2 ⟨Nat.zero_le _, Nat.zero_le _⟩ ?_
    refine rb_if_ne hx hb dX5_ofProbe_5 (by decide) (tgt := 10) (fun c_5 => ?_) (fun c_5 => ?_)
    · refine lv_aload_n hx hb dX5_ofProbe_10 rfl (lv_at hl 0 rfl) ?_
      refine rg (T := TX5) (N := 6) CX hE (hP 0 _ rfl) in_X5_ofProbe_X5 0 rfl rfl 0 (by decide) fl_X5_ofProbe_12 rfl rfl dX5_ofProbe_11 ?_
      refine rg (T := TX4) (N := 8) CX hE (hP 1 _ rfl) in_X5_ofProbe_X4 0 rfl rfl 6 (by decide) fl_X5_ofProbe_126 rfl rfl dX5_ofProbe_14 ?_
      refine lv_astore_n (lv' := [(3, .ref (a 11)), (0, .ref (x 0)), (1, .int (nI 0)), (2, .int w)]) hx hb dX5_ofProbe_17 rfl hl (by decide) rfl (fun ls hl => ?_)
      refine lv_iload_n hx hb dX5_ofProbe_18 rfl (lv_at hl 3 rfl) ?_
      rcases tsw_cases w (0) (4) with c_19 | ⟨c_19, d_19⟩
      · refine lv_tableOut (tgt := 109) hx hb dX5_ofProbe_19 c_19 (by decide) ?_
        refine lv_bipush (v := (-2)) hx hb dX5_ofProbe_109 kb_m2 ?_
        exact ro_ret CX hr hlk (by exact (congrArg (prbQ T 0) (tsel_out c_19)).symm) rfl dX5_ofProbe_111
      · have e_19 := tsw_split w (0) 5 (by omega) (by omega)
        obtain ⟨k_19, hk_19, e_19⟩ := e_19
        match k_19, hk_19, e_19 with
        | 0, _, e_19 =>
          refine lv_tableIn (tgt := 52) (off := 33) hx hb dX5_ofProbe_19 (by omega) (by omega) (by rw [e_19]; rfl) (by decide) ?_
          refine lv_aload_n hx hb dX5_ofProbe_52 rfl (lv_at hl 0 rfl) ?_
          refine rg (T := TX3) (N := 4) CX hE (hP 1 _ rfl) in_X5_ofProbe_X3 11 rfl rfl 0 (by decide) fl_X5_ofProbe_175 rfl rfl dX5_ofProbe_53 ?_
          refine lv_iload_n hx hb dX5_ofProbe_56 rfl (lv_at hl 2 rfl) ?_
          refine rn_iald CX hE (hP 1 _ rfl) 12 rfl (j := 0) (by omega) (ltb rfl) dX5_ofProbe_57 ?_
          refine lv_bipush (v := (nI 10)) hx hb dX5_ofProbe_58 kb_10 ?_
          refine rn_irem hx hb (by omega) (by omega) (by omega) dX5_ofProbe_60 ?_
          exact ro_ret CX hr hlk (by exact (congrArg (prbQ T 0) (tsel_in c_19 d_19 e_19)).symm) rfl dX5_ofProbe_61
        | 1, _, e_19 =>
          refine lv_tableIn (tgt := 62) (off := 43) hx hb dX5_ofProbe_19 (by omega) (by omega) (by rw [e_19]; rfl) (by decide) ?_
          refine lv_aload_n hx hb dX5_ofProbe_62 rfl (lv_at hl 0 rfl) ?_
          refine rg (T := TX3) (N := 4) CX hE (hP 1 _ rfl) in_X5_ofProbe_X3 11 rfl rfl 0 (by decide) fl_X5_ofProbe_175 rfl rfl dX5_ofProbe_63 ?_
          refine lv_iload_n hx hb dX5_ofProbe_66 rfl (lv_at hl 2 rfl) ?_
          refine rn_iald CX hE (hP 1 _ rfl) 12 rfl (j := 0) (by omega) (ltb rfl) dX5_ofProbe_67 ?_
          refine lv_bipush (v := (nI 10)) hx hb dX5_ofProbe_68 kb_10 ?_
          refine rn_idiv hx hb (by omega) (by omega) (by omega) dX5_ofProbe_70 ?_
          exact ro_ret CX hr hlk (by exact (congrArg (prbQ T 0) (tsel_in c_19 d_19 e_19)).symm) rfl dX5_ofProbe_71
        | 2, _, e_19 =>
          refine lv_tableIn (tgt := 72) (off := 53) hx hb dX5_ofProbe_19 (by omega) (by omega) (by rw [e_19]; rfl) (by decide) ?_
          refine lv_aload_n hx hb dX5_ofProbe_72 rfl (lv_at hl 0 rfl) ?_
          refine rg (T := TX3) (N := 4) CX hE (hP 1 _ rfl) in_X5_ofProbe_X3 11 rfl rfl 1 (by decide) fl_X5_ofProbe_176 rfl rfl dX5_ofProbe_73 ?_
          refine lv_iload_n hx hb dX5_ofProbe_76 rfl (lv_at hl 2 rfl) ?_
          refine rn_iald CX hE (hP 1 _ rfl) 13 rfl (j := 0) (by omega) (ltb rfl) dX5_ofProbe_77 ?_
          exact ro_ret CX hr hlk (by exact (congrArg (prbQ T 0) (tsel_in c_19 d_19 e_19)).symm) rfl dX5_ofProbe_78
        | 3, _, e_19 =>
          refine lv_tableIn (tgt := 79) (off := 60) hx hb dX5_ofProbe_19 (by omega) (by omega) (by rw [e_19]; rfl) (by decide) ?_
          refine lv_aload_n hx hb dX5_ofProbe_79 rfl (lv_at hl 0 rfl) ?_
          refine lv_iload_n hx hb dX5_ofProbe_80 rfl (lv_at hl 2 rfl) ?_
          refine roVg CX hE ((hP 1 _ rfl).sub [11, 13, 14, 15] rfl) (c_X3_beatOf_0 l G cA a (T.2 4 2) (T.2 3) (T.1 7) hpp.2) (cwV 1 hts gX5_ofProbe_X3_beatOf rfl rfl rfl hdv_X3_beatOf ⟨Nat.le_of_ble_eq_true rfl, Nat.le_of_ble_eq_true rfl⟩) (hP 1 _ rfl) 11 rfl rfl rfl B0_blind (fun _ _ _ => trivial) rfl hl.1 (rest := []) rfl (Nat.le_of_ble_eq_true rfl) dX5_ofProbe_81 ⟨Nat.zero_le _, Nat.zero_le _⟩ ?_
          exact ro_ret CX hr hlk (by exact (congrArg (prbQ T 0) (tsel_in c_19 d_19 e_19)).symm) rfl dX5_ofProbe_84
        | 4, _, e_19 =>
          refine lv_tableIn (tgt := 85) (off := 66) hx hb dX5_ofProbe_19 (by omega) (by omega) (by rw [e_19]; rfl) (by decide) ?_
          refine lv_aload_n hx hb dX5_ofProbe_85 rfl (lv_at hl 0 rfl) ?_
          refine rg (T := TX3) (N := 4) CX hE (hP 1 _ rfl) in_X5_ofProbe_X3 11 rfl rfl 1 (by decide) fl_X5_ofProbe_176 rfl rfl dX5_ofProbe_86 ?_
          refine lv_iload_n hx hb dX5_ofProbe_89 rfl (lv_at hl 2 rfl) ?_
          refine rn_iald CX hE (hP 1 _ rfl) 13 rfl (j := 0) (by omega) (ltb rfl) dX5_ofProbe_90 ?_
          refine rn_if_ne hx hb (by omega) dX5_ofProbe_91 (by decide) (tgt := 99) (fun c_91 => ?_) (fun c_91 => ?_)
          · refine lv_aload_n hx hb dX5_ofProbe_99 rfl (lv_at hl 0 rfl) ?_
            refine lv_iload_n hx hb dX5_ofProbe_100 rfl (lv_at hl 2 rfl) ?_
            refine roVg CX hE ((hP 1 _ rfl).sub [11, 13, 14, 15] rfl) (c_X3_greatestOf_0 l G cA a (T.2 4 2) (T.2 3) (T.1 7) (Nat.pos_of_ne_zero c_91) hpp.2) (cwV 1 hts gX5_ofProbe_X3_greatestOf rfl rfl rfl hdv_X3_greatestOf ⟨Nat.le_of_ble_eq_true rfl, Nat.le_of_ble_eq_true rfl⟩) (hP 1 _ rfl) 11 rfl rfl rfl B0_blind (fun _ _ _ => trivial) rfl hl.1 (rest := []) rfl (Nat.le_of_ble_eq_true rfl) dX5_ofProbe_101 ⟨Nat.zero_le _, Nat.zero_le _⟩ ?_
            refine lv_sipush (v := (nI 10000)) hx hb dX5_ofProbe_104 ks_10000 ?_
            refine lv_iadd hx hb dX5_ofProbe_107 ?_
            exact ro_ret CX hr hlk (by refine Eq.trans ?_ (congrArg (prbQ T 0) (tsel_in c_19 d_19 e_19)).symm; first | exact (if_pos c_91).symm | exact (if_neg c_91).symm) rfl dX5_ofProbe_108
          · refine lv_bipush (v := (-6)) hx hb dX5_ofProbe_94 kb_m6 ?_
            refine lv_goto (tgt := 108) hx hb dX5_ofProbe_96 (by decide) ?_
            exact ro_ret CX hr hlk (by refine Eq.trans ?_ (congrArg (prbQ T 0) (tsel_in c_19 d_19 e_19)).symm; first | exact (if_pos c_91).symm | exact (if_neg c_91).symm) rfl dX5_ofProbe_108
        | k + 5, h, _ => exact absurd h (by omega)
    · exact absurd (inD_of hp (by omega)) c_5
  · refine lv_aload_n hx hb dX5_ofProbe_0 rfl (lv_at hl 0 rfl) ?_
    refine lv_iload_n hx hb dX5_ofProbe_1 rfl (lv_at hl 1 rfl) ?_
    refine roVg CX hE (va_P_segs hP [0, 1] rfl) (c_X5_isProbe l G cA x a b T (nI 1) (by assumption)) (cwV 1 hts gX5_ofProbe_X5_isProbe rfl rfl rfl hdv_X5_isProbe ⟨Nat.le_of_ble_eq_true rfl, Nat.le_of_ble_eq_true rfl⟩) (hP 0 _ rfl) 0 rfl rfl rfl B0_blind (fun _ _ _ => trivial) rfl hl.1 (rest := []) rfl (Nat.le_of_ble_eq_true rfl) dX5_ofProbe_2 ⟨Nat.zero_le _, Nat.zero_le _⟩ ?_
    refine rb_if_ne hx hb dX5_ofProbe_5 (by decide) (tgt := 10) (fun c_5 => ?_) (fun c_5 => ?_)
    · refine lv_aload_n hx hb dX5_ofProbe_10 rfl (lv_at hl 0 rfl) ?_
      refine rg (T := TX5) (N := 6) CX hE (hP 0 _ rfl) in_X5_ofProbe_X5 0 rfl rfl 0 (by decide) fl_X5_ofProbe_12 rfl rfl dX5_ofProbe_11 ?_
      refine rg (T := TX4) (N := 8) CX hE (hP 1 _ rfl) in_X5_ofProbe_X4 0 rfl rfl 6 (by decide) fl_X5_ofProbe_126 rfl rfl dX5_ofProbe_14 ?_
      refine lv_astore_n (lv' := [(3, .ref (a 11)), (0, .ref (x 0)), (1, .int (nI 1)), (2, .int w)]) hx hb dX5_ofProbe_17 rfl hl (by decide) rfl (fun ls hl => ?_)
      refine lv_iload_n hx hb dX5_ofProbe_18 rfl (lv_at hl 3 rfl) ?_
      rcases tsw_cases w (0) (4) with c_19 | ⟨c_19, d_19⟩
      · refine lv_tableOut (tgt := 109) hx hb dX5_ofProbe_19 c_19 (by decide) ?_
        refine lv_bipush (v := (-2)) hx hb dX5_ofProbe_109 kb_m2 ?_
        exact ro_ret CX hr hlk (by exact (congrArg (prbQ T 1) (tsel_out c_19)).symm) rfl dX5_ofProbe_111
      · have e_19 := tsw_split w (0) 5 (by omega) (by omega)
        obtain ⟨k_19, hk_19, e_19⟩ := e_19
        match k_19, hk_19, e_19 with
        | 0, _, e_19 =>
          refine lv_tableIn (tgt := 52) (off := 33) hx hb dX5_ofProbe_19 (by omega) (by omega) (by rw [e_19]; rfl) (by decide) ?_
          refine lv_aload_n hx hb dX5_ofProbe_52 rfl (lv_at hl 0 rfl) ?_
          refine rg (T := TX3) (N := 4) CX hE (hP 1 _ rfl) in_X5_ofProbe_X3 11 rfl rfl 0 (by decide) fl_X5_ofProbe_175 rfl rfl dX5_ofProbe_53 ?_
          refine lv_iload_n hx hb dX5_ofProbe_56 rfl (lv_at hl 2 rfl) ?_
          refine rn_iald CX hE (hP 1 _ rfl) 12 rfl (j := 1) (by omega) (ltb rfl) dX5_ofProbe_57 ?_
          refine lv_bipush (v := (nI 10)) hx hb dX5_ofProbe_58 kb_10 ?_
          refine rn_irem hx hb (by omega) (by omega) (by omega) dX5_ofProbe_60 ?_
          exact ro_ret CX hr hlk (by exact (congrArg (prbQ T 1) (tsel_in c_19 d_19 e_19)).symm) rfl dX5_ofProbe_61
        | 1, _, e_19 =>
          refine lv_tableIn (tgt := 62) (off := 43) hx hb dX5_ofProbe_19 (by omega) (by omega) (by rw [e_19]; rfl) (by decide) ?_
          refine lv_aload_n hx hb dX5_ofProbe_62 rfl (lv_at hl 0 rfl) ?_
          refine rg (T := TX3) (N := 4) CX hE (hP 1 _ rfl) in_X5_ofProbe_X3 11 rfl rfl 0 (by decide) fl_X5_ofProbe_175 rfl rfl dX5_ofProbe_63 ?_
          refine lv_iload_n hx hb dX5_ofProbe_66 rfl (lv_at hl 2 rfl) ?_
          refine rn_iald CX hE (hP 1 _ rfl) 12 rfl (j := 1) (by omega) (ltb rfl) dX5_ofProbe_67 ?_
          refine lv_bipush (v := (nI 10)) hx hb dX5_ofProbe_68 kb_10 ?_
          refine rn_idiv hx hb (by omega) (by omega) (by omega) dX5_ofProbe_70 ?_
          exact ro_ret CX hr hlk (by exact (congrArg (prbQ T 1) (tsel_in c_19 d_19 e_19)).symm) rfl dX5_ofProbe_71
        | 2, _, e_19 =>
          refine lv_tableIn (tgt := 72) (off := 53) hx hb dX5_ofProbe_19 (by omega) (by omega) (by rw [e_19]; rfl) (by decide) ?_
          refine lv_aload_n hx hb dX5_ofProbe_72 rfl (lv_at hl 0 rfl) ?_
          refine rg (T := TX3) (N := 4) CX hE (hP 1 _ rfl) in_X5_ofProbe_X3 11 rfl rfl 1 (by decide) fl_X5_ofProbe_176 rfl rfl dX5_ofProbe_73 ?_
          refine lv_iload_n hx hb dX5_ofProbe_76 rfl (lv_at hl 2 rfl) ?_
          refine rn_iald CX hE (hP 1 _ rfl) 13 rfl (j := 1) (by omega) (ltb rfl) dX5_ofProbe_77 ?_
          exact ro_ret CX hr hlk (by exact (congrArg (prbQ T 1) (tsel_in c_19 d_19 e_19)).symm) rfl dX5_ofProbe_78
        | 3, _, e_19 =>
          refine lv_tableIn (tgt := 79) (off := 60) hx hb dX5_ofProbe_19 (by omega) (by omega) (by rw [e_19]; rfl) (by decide) ?_
          refine lv_aload_n hx hb dX5_ofProbe_79 rfl (lv_at hl 0 rfl) ?_
          refine lv_iload_n hx hb dX5_ofProbe_80 rfl (lv_at hl 2 rfl) ?_
          refine roVg CX hE ((hP 1 _ rfl).sub [11, 13, 14, 16] rfl) (c_X3_beatOf_1 l G cA a (T.2 4 2) (T.2 3) (T.1 8) hpp.2) (cwV 1 hts gX5_ofProbe_X3_beatOf rfl rfl rfl hdv_X3_beatOf ⟨Nat.le_of_ble_eq_true rfl, Nat.le_of_ble_eq_true rfl⟩) (hP 1 _ rfl) 11 rfl rfl rfl B0_blind (fun _ _ _ => trivial) rfl hl.1 (rest := []) rfl (Nat.le_of_ble_eq_true rfl) dX5_ofProbe_81 ⟨Nat.zero_le _, Nat.zero_le _⟩ ?_
          exact ro_ret CX hr hlk (by exact (congrArg (prbQ T 1) (tsel_in c_19 d_19 e_19)).symm) rfl dX5_ofProbe_84
        | 4, _, e_19 =>
          refine lv_tableIn (tgt := 85) (off := 66) hx hb dX5_ofProbe_19 (by omega) (by omega) (by rw [e_19]; rfl) (by decide) ?_
          refine lv_aload_n hx hb dX5_ofProbe_85 rfl (lv_at hl 0 rfl) ?_
          refine rg (T := TX3) (N := 4) CX hE (hP 1 _ rfl) in_X5_ofProbe_X3 11 rfl rfl 1 (by decide) fl_X5_ofProbe_176 rfl rfl dX5_ofProbe_86 ?_
          refine lv_iload_n hx hb dX5_ofProbe_89 rfl (lv_at hl 2 rfl) ?_
          refine rn_iald CX hE (hP 1 _ rfl) 13 rfl (j := 1) (by omega) (ltb rfl) dX5_ofProbe_90 ?_
          refine rn_if_ne hx hb (by omega) dX5_ofProbe_91 (by decide) (tgt := 99) (fun c_91 => ?_) (fun c_91 => ?_)
          · refine lv_aload_n hx hb dX5_ofProbe_99 rfl (lv_at hl 0 rfl) ?_
            refine lv_iload_n hx hb dX5_ofProbe_100 rfl (lv_at hl 2 rfl) ?_
            refine roVg CX hE ((hP 1 _ rfl).sub [11, 13, 14, 16] rfl) (c_X3_greatestOf_1 l G cA a (T.2 4 2) (T.2 3) (T.1 8) (Nat.pos_of_ne_zero c_91) hpp.2) (cwV 1 hts gX5_ofProbe_X3_greatestOf rfl rfl rfl hdv_X3_greatestOf ⟨Nat.le_of_ble_eq_true rfl, Nat.le_of_ble_eq_true rfl⟩) (hP 1 _ rfl) 11 rfl rfl rfl B0_blind (fun _ _ _ => trivial) rfl hl.1 (rest := []) rfl (Nat.le_of_ble_eq_true rfl) dX5_ofProbe_101 ⟨Nat.zero_le _, Nat.zero_le _⟩ ?_
            refine lv_sipush (v := (nI 10000)) hx hb dX5_ofProbe_104 ks_10000 ?_
            refine lv_iadd hx hb dX5_ofProbe_107 ?_
            exact ro_ret CX hr hlk (by refine Eq.trans ?_ (congrArg (prbQ T 1) (tsel_in c_19 d_19 e_19)).symm; first | exact (if_pos c_91).symm | exact (if_neg c_91).symm) rfl dX5_ofProbe_108
          · refine lv_bipush (v := (-6)) hx hb dX5_ofProbe_94 kb_m6 ?_
            refine lv_goto (tgt := 108) hx hb dX5_ofProbe_96 (by decide) ?_
            exact ro_ret CX hr hlk (by refine Eq.trans ?_ (congrArg (prbQ T 1) (tsel_in c_19 d_19 e_19)).symm; first | exact (if_pos c_91).symm | exact (if_neg c_91).symm) rfl dX5_ofProbe_108
        | k + 5, h, _ => exact absurd h (by omega)
    · exact absurd (inD_of hp (by omega)) c_5
  · refine lv_aload_n hx hb dX5_ofProbe_0 rfl (lv_at hl 0 rfl) ?_
    refine lv_iload_n hx hb dX5_ofProbe_1 rfl (lv_at hl 1 rfl) ?_
    refine roVg CX hE (va_P_segs hP [0, 1] rfl) (c_X5_isProbe l G cA x a b T (nI 2) (by assumption)) (cwV 1 hts gX5_ofProbe_X5_isProbe rfl rfl rfl hdv_X5_isProbe ⟨Nat.le_of_ble_eq_true rfl, Nat.le_of_ble_eq_true rfl⟩) (hP 0 _ rfl) 0 rfl rfl rfl B0_blind (fun _ _ _ => trivial) rfl hl.1 (rest := []) rfl (Nat.le_of_ble_eq_true rfl) dX5_ofProbe_2 ⟨Nat.zero_le _, Nat.zero_le _⟩ ?_
    refine rb_if_ne hx hb dX5_ofProbe_5 (by decide) (tgt := 10) (fun c_5 => ?_) (fun c_5 => ?_)
    · refine lv_aload_n hx hb dX5_ofProbe_10 rfl (lv_at hl 0 rfl) ?_
      refine rg (T := TX5) (N := 6) CX hE (hP 0 _ rfl) in_X5_ofProbe_X5 0 rfl rfl 0 (by decide) fl_X5_ofProbe_12 rfl rfl dX5_ofProbe_11 ?_
      refine rg (T := TX4) (N := 8) CX hE (hP 1 _ rfl) in_X5_ofProbe_X4 0 rfl rfl 6 (by decide) fl_X5_ofProbe_126 rfl rfl dX5_ofProbe_14 ?_
      refine lv_astore_n (lv' := [(3, .ref (a 11)), (0, .ref (x 0)), (1, .int (nI 2)), (2, .int w)]) hx hb dX5_ofProbe_17 rfl hl (by decide) rfl (fun ls hl => ?_)
      refine lv_iload_n hx hb dX5_ofProbe_18 rfl (lv_at hl 3 rfl) ?_
      rcases tsw_cases w (0) (4) with c_19 | ⟨c_19, d_19⟩
      · refine lv_tableOut (tgt := 109) hx hb dX5_ofProbe_19 c_19 (by decide) ?_
        refine lv_bipush (v := (-2)) hx hb dX5_ofProbe_109 kb_m2 ?_
        exact ro_ret CX hr hlk (by exact (congrArg (prbQ T 2) (tsel_out c_19)).symm) rfl dX5_ofProbe_111
      · have e_19 := tsw_split w (0) 5 (by omega) (by omega)
        obtain ⟨k_19, hk_19, e_19⟩ := e_19
        match k_19, hk_19, e_19 with
        | 0, _, e_19 =>
          refine lv_tableIn (tgt := 52) (off := 33) hx hb dX5_ofProbe_19 (by omega) (by omega) (by rw [e_19]; rfl) (by decide) ?_
          refine lv_aload_n hx hb dX5_ofProbe_52 rfl (lv_at hl 0 rfl) ?_
          refine rg (T := TX3) (N := 4) CX hE (hP 1 _ rfl) in_X5_ofProbe_X3 11 rfl rfl 0 (by decide) fl_X5_ofProbe_175 rfl rfl dX5_ofProbe_53 ?_
          refine lv_iload_n hx hb dX5_ofProbe_56 rfl (lv_at hl 2 rfl) ?_
          refine rn_iald CX hE (hP 1 _ rfl) 12 rfl (j := 2) (by omega) (ltb rfl) dX5_ofProbe_57 ?_
          refine lv_bipush (v := (nI 10)) hx hb dX5_ofProbe_58 kb_10 ?_
          refine rn_irem hx hb (by omega) (by omega) (by omega) dX5_ofProbe_60 ?_
          exact ro_ret CX hr hlk (by exact (congrArg (prbQ T 2) (tsel_in c_19 d_19 e_19)).symm) rfl dX5_ofProbe_61
        | 1, _, e_19 =>
          refine lv_tableIn (tgt := 62) (off := 43) hx hb dX5_ofProbe_19 (by omega) (by omega) (by rw [e_19]; rfl) (by decide) ?_
          refine lv_aload_n hx hb dX5_ofProbe_62 rfl (lv_at hl 0 rfl) ?_
          refine rg (T := TX3) (N := 4) CX hE (hP 1 _ rfl) in_X5_ofProbe_X3 11 rfl rfl 0 (by decide) fl_X5_ofProbe_175 rfl rfl dX5_ofProbe_63 ?_
          refine lv_iload_n hx hb dX5_ofProbe_66 rfl (lv_at hl 2 rfl) ?_
          refine rn_iald CX hE (hP 1 _ rfl) 12 rfl (j := 2) (by omega) (ltb rfl) dX5_ofProbe_67 ?_
          refine lv_bipush (v := (nI 10)) hx hb dX5_ofProbe_68 kb_10 ?_
          refine rn_idiv hx hb (by omega) (by omega) (by omega) dX5_ofProbe_70 ?_
          exact ro_ret CX hr hlk (by exact (congrArg (prbQ T 2) (tsel_in c_19 d_19 e_19)).symm) rfl dX5_ofProbe_71
        | 2, _, e_19 =>
          refine lv_tableIn (tgt := 72) (off := 53) hx hb dX5_ofProbe_19 (by omega) (by omega) (by rw [e_19]; rfl) (by decide) ?_
          refine lv_aload_n hx hb dX5_ofProbe_72 rfl (lv_at hl 0 rfl) ?_
          refine rg (T := TX3) (N := 4) CX hE (hP 1 _ rfl) in_X5_ofProbe_X3 11 rfl rfl 1 (by decide) fl_X5_ofProbe_176 rfl rfl dX5_ofProbe_73 ?_
          refine lv_iload_n hx hb dX5_ofProbe_76 rfl (lv_at hl 2 rfl) ?_
          refine rn_iald CX hE (hP 1 _ rfl) 13 rfl (j := 2) (by omega) (ltb rfl) dX5_ofProbe_77 ?_
          exact ro_ret CX hr hlk (by exact (congrArg (prbQ T 2) (tsel_in c_19 d_19 e_19)).symm) rfl dX5_ofProbe_78
        | 3, _, e_19 =>
          refine lv_tableIn (tgt := 79) (off := 60) hx hb dX5_ofProbe_19 (by omega) (by omega) (by rw [e_19]; rfl) (by decide) ?_
          refine lv_aload_n hx hb dX5_ofProbe_79 rfl (lv_at hl 0 rfl) ?_
          refine lv_iload_n hx hb dX5_ofProbe_80 rfl (lv_at hl 2 rfl) ?_
          refine roVg CX hE ((hP 1 _ rfl).sub [11, 13, 14, 17] rfl) (c_X3_beatOf_2 l G cA a (T.2 4 2) (T.2 3) (T.1 9) hpp.2) (cwV 1 hts gX5_ofProbe_X3_beatOf rfl rfl rfl hdv_X3_beatOf ⟨Nat.le_of_ble_eq_true rfl, Nat.le_of_ble_eq_true rfl⟩) (hP 1 _ rfl) 11 rfl rfl rfl B0_blind (fun _ _ _ => trivial) rfl hl.1 (rest := []) rfl (Nat.le_of_ble_eq_true rfl) dX5_ofProbe_81 ⟨Nat.zero_le _, Nat.zero_le _⟩ ?_
          exact ro_ret CX hr hlk (by exact (congrArg (prbQ T 2) (tsel_in c_19 d_19 e_19)).symm) rfl dX5_ofProbe_84
        | 4, _, e_19 =>
          refine lv_tableIn (tgt := 85) (off := 66) hx hb dX5_ofProbe_19 (by omega) (by omega) (by rw [e_19]; rfl) (by decide) ?_
          refine lv_aload_n hx hb dX5_ofProbe_85 rfl (lv_at hl 0 rfl) ?_
          refine rg (T := TX3) (N := 4) CX hE (hP 1 _ rfl) in_X5_ofProbe_X3 11 rfl rfl 1 (by decide) fl_X5_ofProbe_176 rfl rfl dX5_ofProbe_86 ?_
          refine lv_iload_n hx hb dX5_ofProbe_89 rfl (lv_at hl 2 rfl) ?_
          refine rn_iald CX hE (hP 1 _ rfl) 13 rfl (j := 2) (by omega) (ltb rfl) dX5_ofProbe_90 ?_
          refine rn_if_ne hx hb (by omega) dX5_ofProbe_91 (by decide) (tgt := 99) (fun c_91 => ?_) (fun c_91 => ?_)
          · refine lv_aload_n hx hb dX5_ofProbe_99 rfl (lv_at hl 0 rfl) ?_
            refine lv_iload_n hx hb dX5_ofProbe_100 rfl (lv_at hl 2 rfl) ?_
            refine roVg CX hE ((hP 1 _ rfl).sub [11, 13, 14, 17] rfl) (c_X3_greatestOf_2 l G cA a (T.2 4 2) (T.2 3) (T.1 9) (Nat.pos_of_ne_zero c_91) hpp.2) (cwV 1 hts gX5_ofProbe_X3_greatestOf rfl rfl rfl hdv_X3_greatestOf ⟨Nat.le_of_ble_eq_true rfl, Nat.le_of_ble_eq_true rfl⟩) (hP 1 _ rfl) 11 rfl rfl rfl B0_blind (fun _ _ _ => trivial) rfl hl.1 (rest := []) rfl (Nat.le_of_ble_eq_true rfl) dX5_ofProbe_101 ⟨Nat.zero_le _, Nat.zero_le _⟩ ?_
            refine lv_sipush (v := (nI 10000)) hx hb dX5_ofProbe_104 ks_10000 ?_
            refine lv_iadd hx hb dX5_ofProbe_107 ?_
            exact ro_ret CX hr hlk (by refine Eq.trans ?_ (congrArg (prbQ T 2) (tsel_in c_19 d_19 e_19)).symm; first | exact (if_pos c_91).symm | exact (if_neg c_91).symm) rfl dX5_ofProbe_108
          · refine lv_bipush (v := (-6)) hx hb dX5_ofProbe_94 kb_m6 ?_
            refine lv_goto (tgt := 108) hx hb dX5_ofProbe_96 (by decide) ?_
            exact ro_ret CX hr hlk (by refine Eq.trans ?_ (congrArg (prbQ T 2) (tsel_in c_19 d_19 e_19)).symm; first | exact (if_pos c_91).symm | exact (if_neg c_91).symm) rfl dX5_ofProbe_108
        | k + 5, h, _ => exact absurd h (by omega)
    · exact absurd (inD_of hp (by omega)) c_5
theorem fl_X5_seen_12 : Cond.fieldLink RX5 12 RX5 (TX5 0).2.1 (TX5 0).2.2.1 ∈ wsX5_seen := by decide +kernel
theorem in_X5_seen_X5 : ∀ w ∈ wsX50, w ∈ wsX5_seen := by decide +kernel
theorem fl_X5_seen_126 : Cond.fieldLink RX5 126 RX4 (TX4 6).2.1 (TX4 6).2.2.1 ∈ wsX5_seen := by decide +kernel
theorem in_X5_seen_X4 : ∀ w ∈ wsX40, w ∈ wsX5_seen := by decide +kernel
theorem fl_X5_seen_176 : Cond.fieldLink RX5 176 RX3 (TX3 1).2.1 (TX3 1).2.2.1 ∈ wsX5_seen := by decide +kernel
theorem in_X5_seen_X3 : ∀ w ∈ wsX30, w ∈ wsX5_seen := by decide +kernel
theorem fl_X5_seen_185 : Cond.fieldLink RX5 185 RX3 (TX3 2).2.1 (TX3 2).2.2.1 ∈ wsX5_seen := by decide +kernel
set_option maxHeartbeats 4000000 in
set_option maxRecDepth 100000 in
theorem c_X5_seen_k (l : Launch) (G : va_G) (cA : Nat → ClassId) (x : Nat → Nat) (a : Nat → Nat) (b : Nat → Nat) (T : TV) (p : Nat) (g : Nat) (hok : okT T) (hp : p < T.2 4 2) (hg : g < T.2 3 p) : RO l yX5_seen wsX5_seen ({ frames := 2, cells := 0, slots := 0, locals := 43 }) G cA B0 (([[(x 0, .inr (5, [.ref (a 0), .ref (b 0), .ref (x 3), .ref (x 1), .ref (x 2), .ref (x 5)]))], tkW cA a T] : List va_W).flatten) [.ref (x 0), .int (nI p), .int (nI g)] (T.1 (7 + p) g + nI 10000) := by
  refine RO.mk (own := RX5) (by decide) rfl rfl (Nat.le_of_ble_eq_true rfl) (fun p_ e_ s_ m_ below meth c_ ls CX hr hlk hP hE hB hl => ?_)
  obtain ⟨hx, hb, hml, hown, hts⟩ := id CX
  have hl : lv_has ls 3 [(0, .ref (x 0)), (1, .int (nI p)), (2, .int (nI g))] := hl
  have hP : ∀ (k : Nat) (w : va_W), ([[(x 0, .inr (5, [.ref (a 0), .ref (b 0), .ref (x 3), .ref (x 1), .ref (x 2), .ref (x 5)]))], tkW cA a T] : List va_W)[k]? = some w → va_P G vwCl w s_.heap := va_P_seg hP
  have hdc := hok.1.2
  have hnd := hok.1.1
  have hnp := hok.2.1
  have hpc := hok.2.2
  have hpp := hpc p hp
  rcases (show p = 0 ∨ p = 1 ∨ p = 2 by omega) with rfl | rfl | rfl
  · refine lv_aload_n hx hb dX5_seen_0 rfl (lv_at hl 0 rfl) ?_
    refine lv_iload_n hx hb dX5_seen_1 rfl (lv_at hl 1 rfl) ?_
    refine roVg CX hE (va_P_segs hP [0, 1] rfl) (c_X5_isProbe l G cA x a b T (nI 0) (by assumption)) (cwV 1 hts gX5_seen_X5_isProbe rfl rfl rfl hdv_X5_isProbe ⟨Nat.le_of_ble_eq_true rfl, Nat.le_of_ble_eq_true rfl⟩) (hP 0 _ rfl) 0 rfl rfl rfl B0_blind (fun _ _ _ => trivial) rfl hl.1 (rest := []) rfl (Nat.le_of_ble_eq_true rfl) dX5_seen_2 ⟨Nat.zero_le _, Nat.zero_le _⟩ ?_
    refine rb_if_eq hx hb dX5_seen_5 (by decide) (tgt := 30) (fun c_5 => ?_) (fun c_5 => ?_)
    · exact absurd (inD_of hp (by omega)) c_5
    · refine lv_iload_n hx hb dX5_seen_8 rfl (lv_at hl 2 rfl) ?_
      refine rn_iconst hx hb 0 rfl dX5_seen_9 ?_
      refine lv_aload_n hx hb dX5_seen_10 rfl (lv_at hl 0 rfl) ?_
      refine rg (T := TX5) (N := 6) CX hE (hP 0 _ rfl) in_X5_seen_X5 0 rfl rfl 0 (by decide) fl_X5_seen_12 rfl rfl dX5_seen_11 ?_
      refine rg (T := TX4) (N := 8) CX hE (hP 1 _ rfl) in_X5_seen_X4 0 rfl rfl 6 (by decide) fl_X5_seen_126 rfl rfl dX5_seen_14 ?_
      refine rg (T := TX3) (N := 4) CX hE (hP 1 _ rfl) in_X5_seen_X3 11 rfl rfl 1 (by decide) fl_X5_seen_176 rfl rfl dX5_seen_17 ?_
      refine lv_iload_n hx hb dX5_seen_20 rfl (lv_at hl 1 rfl) ?_
      refine rn_iald CX hE (hP 1 _ rfl) 13 rfl (j := 0) (by omega) (ltb rfl) dX5_seen_21 ?_
      refine rn_iconst hx hb 1 rfl dX5_seen_22 ?_
      refine rn_isub hx hb (by omega) dX5_seen_23 ?_
      refine roS CX hE va_P_nil (c_X5_isIn l G cA (nI g) (nI 0) (nI (((T.2 3) 0) - 1)) ) (va_cwS 3 hts gX5_seen_X5_isIn rfl rfl rfl hdn_X5_isIn ⟨Nat.le_of_ble_eq_true rfl, Nat.le_of_ble_eq_true rfl⟩) [] rfl B0_blind (fun _ _ _ => trivial) rfl hl.1 (rest := []) rfl (Nat.le_of_ble_eq_true rfl) dX5_seen_24 ⟨Nat.zero_le _, Nat.zero_le _⟩ ?_
      refine rb_if_ne hx hb dX5_seen_27 (by decide) (tgt := 32) (fun c_27 => ?_) (fun c_27 => ?_)
      · refine lv_aload_n hx hb dX5_seen_32 rfl (lv_at hl 0 rfl) ?_
        refine rg (T := TX5) (N := 6) CX hE (hP 0 _ rfl) in_X5_seen_X5 0 rfl rfl 0 (by decide) fl_X5_seen_12 rfl rfl dX5_seen_33 ?_
        refine rg (T := TX4) (N := 8) CX hE (hP 1 _ rfl) in_X5_seen_X4 0 rfl rfl 6 (by decide) fl_X5_seen_126 rfl rfl dX5_seen_36 ?_
        refine rg (T := TX3) (N := 4) CX hE (hP 1 _ rfl) in_X5_seen_X3 11 rfl rfl 2 (by decide) fl_X5_seen_185 rfl rfl dX5_seen_39 ?_
        refine lv_iload_n hx hb dX5_seen_42 rfl (lv_at hl 1 rfl) ?_
        refine rn_aald4 CX hE (hP 1 _ rfl) 14 rfl (j := 0) (by omega) (ltb rfl) (r := (a 15)) rfl dX5_seen_43 ?_
        refine lv_iload_n hx hb dX5_seen_44 rfl (lv_at hl 2 rfl) ?_
        refine rn_iald CX hE (hP 1 _ rfl) 15 rfl (j := g) (by omega) (ltb rfl) dX5_seen_45 ?_
        refine lv_sipush (v := (nI 10000)) hx hb dX5_seen_46 ks_10000 ?_
        refine lv_iadd hx hb dX5_seen_49 ?_
        exact ro_ret CX hr hlk rfl rfl dX5_seen_50
      · exact absurd (inP_nI (Nat.zero_le _) (by omega) (by omega)) c_27
  · refine lv_aload_n hx hb dX5_seen_0 rfl (lv_at hl 0 rfl) ?_
    refine lv_iload_n hx hb dX5_seen_1 rfl (lv_at hl 1 rfl) ?_
    refine roVg CX hE (va_P_segs hP [0, 1] rfl) (c_X5_isProbe l G cA x a b T (nI 1) (by assumption)) (cwV 1 hts gX5_seen_X5_isProbe rfl rfl rfl hdv_X5_isProbe ⟨Nat.le_of_ble_eq_true rfl, Nat.le_of_ble_eq_true rfl⟩) (hP 0 _ rfl) 0 rfl rfl rfl B0_blind (fun _ _ _ => trivial) rfl hl.1 (rest := []) rfl (Nat.le_of_ble_eq_true rfl) dX5_seen_2 ⟨Nat.zero_le _, Nat.zero_le _⟩ ?_
    refine rb_if_eq hx hb dX5_seen_5 (by decide) (tgt := 30) (fun c_5 => ?_) (fun c_5 => ?_)
    · exact absurd (inD_of hp (by omega)) c_5
    · refine lv_iload_n hx hb dX5_seen_8 rfl (lv_at hl 2 rfl) ?_
      refine rn_iconst hx hb 0 rfl dX5_seen_9 ?_
      refine lv_aload_n hx hb dX5_seen_10 rfl (lv_at hl 0 rfl) ?_
      refine rg (T := TX5) (N := 6) CX hE (hP 0 _ rfl) in_X5_seen_X5 0 rfl rfl 0 (by decide) fl_X5_seen_12 rfl rfl dX5_seen_11 ?_
      refine rg (T := TX4) (N := 8) CX hE (hP 1 _ rfl) in_X5_seen_X4 0 rfl rfl 6 (by decide) fl_X5_seen_126 rfl rfl dX5_seen_14 ?_
      refine rg (T := TX3) (N := 4) CX hE (hP 1 _ rfl) in_X5_seen_X3 11 rfl rfl 1 (by decide) fl_X5_seen_176 rfl rfl dX5_seen_17 ?_
      refine lv_iload_n hx hb dX5_seen_20 rfl (lv_at hl 1 rfl) ?_
      refine rn_iald CX hE (hP 1 _ rfl) 13 rfl (j := 1) (by omega) (ltb rfl) dX5_seen_21 ?_
      refine rn_iconst hx hb 1 rfl dX5_seen_22 ?_
      refine rn_isub hx hb (by omega) dX5_seen_23 ?_
      refine roS CX hE va_P_nil (c_X5_isIn l G cA (nI g) (nI 0) (nI (((T.2 3) 1) - 1)) ) (va_cwS 3 hts gX5_seen_X5_isIn rfl rfl rfl hdn_X5_isIn ⟨Nat.le_of_ble_eq_true rfl, Nat.le_of_ble_eq_true rfl⟩) [] rfl B0_blind (fun _ _ _ => trivial) rfl hl.1 (rest := []) rfl (Nat.le_of_ble_eq_true rfl) dX5_seen_24 ⟨Nat.zero_le _, Nat.zero_le _⟩ ?_
      refine rb_if_ne hx hb dX5_seen_27 (by decide) (tgt := 32) (fun c_27 => ?_) (fun c_27 => ?_)
      · refine lv_aload_n hx hb dX5_seen_32 rfl (lv_at hl 0 rfl) ?_
        refine rg (T := TX5) (N := 6) CX hE (hP 0 _ rfl) in_X5_seen_X5 0 rfl rfl 0 (by decide) fl_X5_seen_12 rfl rfl dX5_seen_33 ?_
        refine rg (T := TX4) (N := 8) CX hE (hP 1 _ rfl) in_X5_seen_X4 0 rfl rfl 6 (by decide) fl_X5_seen_126 rfl rfl dX5_seen_36 ?_
        refine rg (T := TX3) (N := 4) CX hE (hP 1 _ rfl) in_X5_seen_X3 11 rfl rfl 2 (by decide) fl_X5_seen_185 rfl rfl dX5_seen_39 ?_
        refine lv_iload_n hx hb dX5_seen_42 rfl (lv_at hl 1 rfl) ?_
        refine rn_aald4 CX hE (hP 1 _ rfl) 14 rfl (j := 1) (by omega) (ltb rfl) (r := (a 16)) rfl dX5_seen_43 ?_
        refine lv_iload_n hx hb dX5_seen_44 rfl (lv_at hl 2 rfl) ?_
        refine rn_iald CX hE (hP 1 _ rfl) 16 rfl (j := g) (by omega) (ltb rfl) dX5_seen_45 ?_
        refine lv_sipush (v := (nI 10000)) hx hb dX5_seen_46 ks_10000 ?_
        refine lv_iadd hx hb dX5_seen_49 ?_
        exact ro_ret CX hr hlk rfl rfl dX5_seen_50
      · exact absurd (inP_nI (Nat.zero_le _) (by omega) (by omega)) c_27
  · refine lv_aload_n hx hb dX5_seen_0 rfl (lv_at hl 0 rfl) ?_
    refine lv_iload_n hx hb dX5_seen_1 rfl (lv_at hl 1 rfl) ?_
    refine roVg CX hE (va_P_segs hP [0, 1] rfl) (c_X5_isProbe l G cA x a b T (nI 2) (by assumption)) (cwV 1 hts gX5_seen_X5_isProbe rfl rfl rfl hdv_X5_isProbe ⟨Nat.le_of_ble_eq_true rfl, Nat.le_of_ble_eq_true rfl⟩) (hP 0 _ rfl) 0 rfl rfl rfl B0_blind (fun _ _ _ => trivial) rfl hl.1 (rest := []) rfl (Nat.le_of_ble_eq_true rfl) dX5_seen_2 ⟨Nat.zero_le _, Nat.zero_le _⟩ ?_
    refine rb_if_eq hx hb dX5_seen_5 (by decide) (tgt := 30) (fun c_5 => ?_) (fun c_5 => ?_)
    · exact absurd (inD_of hp (by omega)) c_5
    · refine lv_iload_n hx hb dX5_seen_8 rfl (lv_at hl 2 rfl) ?_
      refine rn_iconst hx hb 0 rfl dX5_seen_9 ?_
      refine lv_aload_n hx hb dX5_seen_10 rfl (lv_at hl 0 rfl) ?_
      refine rg (T := TX5) (N := 6) CX hE (hP 0 _ rfl) in_X5_seen_X5 0 rfl rfl 0 (by decide) fl_X5_seen_12 rfl rfl dX5_seen_11 ?_
      refine rg (T := TX4) (N := 8) CX hE (hP 1 _ rfl) in_X5_seen_X4 0 rfl rfl 6 (by decide) fl_X5_seen_126 rfl rfl dX5_seen_14 ?_
      refine rg (T := TX3) (N := 4) CX hE (hP 1 _ rfl) in_X5_seen_X3 11 rfl rfl 1 (by decide) fl_X5_seen_176 rfl rfl dX5_seen_17 ?_
      refine lv_iload_n hx hb dX5_seen_20 rfl (lv_at hl 1 rfl) ?_
      refine rn_iald CX hE (hP 1 _ rfl) 13 rfl (j := 2) (by omega) (ltb rfl) dX5_seen_21 ?_
      refine rn_iconst hx hb 1 rfl dX5_seen_22 ?_
      refine rn_isub hx hb (by omega) dX5_seen_23 ?_
      refine roS CX hE va_P_nil (c_X5_isIn l G cA (nI g) (nI 0) (nI (((T.2 3) 2) - 1)) ) (va_cwS 3 hts gX5_seen_X5_isIn rfl rfl rfl hdn_X5_isIn ⟨Nat.le_of_ble_eq_true rfl, Nat.le_of_ble_eq_true rfl⟩) [] rfl B0_blind (fun _ _ _ => trivial) rfl hl.1 (rest := []) rfl (Nat.le_of_ble_eq_true rfl) dX5_seen_24 ⟨Nat.zero_le _, Nat.zero_le _⟩ ?_
      refine rb_if_ne hx hb dX5_seen_27 (by decide) (tgt := 32) (fun c_27 => ?_) (fun c_27 => ?_)
      · refine lv_aload_n hx hb dX5_seen_32 rfl (lv_at hl 0 rfl) ?_
        refine rg (T := TX5) (N := 6) CX hE (hP 0 _ rfl) in_X5_seen_X5 0 rfl rfl 0 (by decide) fl_X5_seen_12 rfl rfl dX5_seen_33 ?_
        refine rg (T := TX4) (N := 8) CX hE (hP 1 _ rfl) in_X5_seen_X4 0 rfl rfl 6 (by decide) fl_X5_seen_126 rfl rfl dX5_seen_36 ?_
        refine rg (T := TX3) (N := 4) CX hE (hP 1 _ rfl) in_X5_seen_X3 11 rfl rfl 2 (by decide) fl_X5_seen_185 rfl rfl dX5_seen_39 ?_
        refine lv_iload_n hx hb dX5_seen_42 rfl (lv_at hl 1 rfl) ?_
        refine rn_aald4 CX hE (hP 1 _ rfl) 14 rfl (j := 2) (by omega) (ltb rfl) (r := (a 17)) rfl dX5_seen_43 ?_
        refine lv_iload_n hx hb dX5_seen_44 rfl (lv_at hl 2 rfl) ?_
        refine rn_iald CX hE (hP 1 _ rfl) 17 rfl (j := g) (by omega) (ltb rfl) dX5_seen_45 ?_
        refine lv_sipush (v := (nI 10000)) hx hb dX5_seen_46 ks_10000 ?_
        refine lv_iadd hx hb dX5_seen_49 ?_
        exact ro_ret CX hr hlk rfl rfl dX5_seen_50
      · exact absurd (inP_nI (Nat.zero_le _) (by omega) (by omega)) c_27
set_option maxHeartbeats 4000000 in
set_option maxRecDepth 100000 in
theorem c_X5_seen_e (l : Launch) (G : va_G) (cA : Nat → ClassId) (x : Nat → Nat) (a : Nat → Nat) (b : Nat → Nat) (T : TV) (p : Int32) (g : Int32) (hok : okT T) (hbad : ∀ i, i < T.2 4 2 → p = nI i → ¬ inP g (nI 0) (nI (T.2 3 i) - nI 1)) : RO l yX5_seen wsX5_seen ({ frames := 2, cells := 0, slots := 0, locals := 43 }) G cA B0 (([[(x 0, .inr (5, [.ref (a 0), .ref (b 0), .ref (x 3), .ref (x 1), .ref (x 2), .ref (x 5)]))], tkW cA a T] : List va_W).flatten) [.ref (x 0), .int p, .int g] (-1) := by
  refine RO.mk (own := RX5) (by decide) rfl rfl (Nat.le_of_ble_eq_true rfl) (fun p_ e_ s_ m_ below meth c_ ls CX hr hlk hP hE hB hl => ?_)
  obtain ⟨hx, hb, hml, hown, hts⟩ := id CX
  have hl : lv_has ls 3 [(0, .ref (x 0)), (1, .int p), (2, .int g)] := hl
  have hP : ∀ (k : Nat) (w : va_W), ([[(x 0, .inr (5, [.ref (a 0), .ref (b 0), .ref (x 3), .ref (x 1), .ref (x 2), .ref (x 5)]))], tkW cA a T] : List va_W)[k]? = some w → va_P G vwCl w s_.heap := va_P_seg hP
  have hdc := hok.1.2
  have hnd := hok.1.1
  have hnp := hok.2.1
  have hpc := hok.2.2
  refine lv_aload_n hx hb dX5_seen_0 rfl (lv_at hl 0 rfl) ?_
  refine lv_iload_n hx hb dX5_seen_1 rfl (lv_at hl 1 rfl) ?_
  refine roVg CX hE (va_P_segs hP [0, 1] rfl) (c_X5_isProbe l G cA x a b T p (by assumption)) (cwV 1 hts gX5_seen_X5_isProbe rfl rfl rfl hdv_X5_isProbe ⟨Nat.le_of_ble_eq_true rfl, Nat.le_of_ble_eq_true rfl⟩) (hP 0 _ rfl) 0 rfl rfl rfl B0_blind (fun _ _ _ => trivial) rfl hl.1 (rest := []) rfl (Nat.le_of_ble_eq_true rfl) dX5_seen_2 ⟨Nat.zero_le _, Nat.zero_le _⟩ ?_
  refine rb_if_eq hx hb dX5_seen_5 (by decide) (tgt := 30) (fun c_5 => ?_) (fun c_5 => ?_)
  · refine lv_iconst (v := (-1)) hx hb dX5_seen_30 (by decide) ?_
    exact ro_ret CX hr hlk rfl rfl dX5_seen_31
  · obtain ⟨i, hi, ei⟩ := inD_nat c_5 (by omega)
    subst ei
    refine lv_iload_n hx hb dX5_seen_8 rfl (lv_at hl 2 rfl) ?_
    refine rn_iconst hx hb 0 rfl dX5_seen_9 ?_
    refine lv_aload_n hx hb dX5_seen_10 rfl (lv_at hl 0 rfl) ?_
    refine rg (T := TX5) (N := 6) CX hE (hP 0 _ rfl) in_X5_seen_X5 0 rfl rfl 0 (by decide) fl_X5_seen_12 rfl rfl dX5_seen_11 ?_
    refine rg (T := TX4) (N := 8) CX hE (hP 1 _ rfl) in_X5_seen_X4 0 rfl rfl 6 (by decide) fl_X5_seen_126 rfl rfl dX5_seen_14 ?_
    refine rg (T := TX3) (N := 4) CX hE (hP 1 _ rfl) in_X5_seen_X3 11 rfl rfl 1 (by decide) fl_X5_seen_176 rfl rfl dX5_seen_17 ?_
    refine lv_iload_n hx hb dX5_seen_20 rfl (lv_at hl 1 rfl) ?_
    refine rn_iald CX hE (hP 1 _ rfl) 13 rfl (j := i) (by omega) (ltb rfl) dX5_seen_21 ?_
    refine rn_iconst hx hb 1 rfl dX5_seen_22 ?_
    refine lv_isub hx hb dX5_seen_23 ?_
    refine roS CX hE va_P_nil (c_X5_isIn l G cA g (nI 0) ((nI ((T.2 3) i)) - (nI 1)) ) (va_cwS 3 hts gX5_seen_X5_isIn rfl rfl rfl hdn_X5_isIn ⟨Nat.le_of_ble_eq_true rfl, Nat.le_of_ble_eq_true rfl⟩) [] rfl B0_blind (fun _ _ _ => trivial) rfl hl.1 (rest := []) rfl (Nat.le_of_ble_eq_true rfl) dX5_seen_24 ⟨Nat.zero_le _, Nat.zero_le _⟩ ?_
    refine rb_if_ne hx hb dX5_seen_27 (by decide) (tgt := 32) (fun c_27 => ?_) (fun c_27 => ?_)
    · exact absurd c_27 (hbad i hi rfl)
    · refine lv_iconst (v := (-1)) hx hb dX5_seen_30 (by decide) ?_
      exact ro_ret CX hr hlk rfl rfl dX5_seen_31
theorem fl_X5_count_12 : Cond.fieldLink RX5 12 RX5 (TX5 0).2.1 (TX5 0).2.2.1 ∈ wsX5_count := by decide +kernel
theorem in_X5_count_X5 : ∀ w ∈ wsX50, w ∈ wsX5_count := by decide +kernel
theorem fl_X5_count_135 : Cond.fieldLink RX5 135 RX4 (TX4 7).2.1 (TX4 7).2.2.1 ∈ wsX5_count := by decide +kernel
theorem in_X5_count_X4 : ∀ w ∈ wsX40, w ∈ wsX5_count := by decide +kernel
theorem hdv_X4_openCells : yX4_openCells.cls = RX4 ∧ yX4_openCells.cls ≠ "java/lang/invoke/MethodHandle" ∧ yX4_openCells.cls ≠ "java/lang/invoke/VarHandle" ∧ (parseMethodDescriptor yX4_openCells.desc).map (fun d => d.parameters.length) = some 0 := by decide +kernel
theorem hdv_X4_restlessCells : yX4_restlessCells.cls = RX4 ∧ yX4_restlessCells.cls ≠ "java/lang/invoke/MethodHandle" ∧ yX4_restlessCells.cls ≠ "java/lang/invoke/VarHandle" ∧ (parseMethodDescriptor yX4_restlessCells.desc).map (fun d => d.parameters.length) = some 0 := by decide +kernel
theorem hdv_X4_sum : yX4_sum.cls = RX4 ∧ yX4_sum.cls ≠ "java/lang/invoke/MethodHandle" ∧ yX4_sum.cls ≠ "java/lang/invoke/VarHandle" ∧ (parseMethodDescriptor yX4_sum.desc).map (fun d => d.parameters.length) = some 0 := by decide +kernel
theorem w_X5_count_cn191 : Cond.constant RX5 191 (1000000) ∈ wsX5_count := by decide +kernel
theorem kl_1000000 : (1000000 : Int32) = (nI 1000000) := by decide +kernel
theorem hdv_X4_loudness : yX4_loudness.cls = RX4 ∧ yX4_loudness.cls ≠ "java/lang/invoke/MethodHandle" ∧ yX4_loudness.cls ≠ "java/lang/invoke/VarHandle" ∧ (parseMethodDescriptor yX4_loudness.desc).map (fun d => d.parameters.length) = some 0 := by decide +kernel
theorem hdv_X4_loudestCell : yX4_loudestCell.cls = RX4 ∧ yX4_loudestCell.cls ≠ "java/lang/invoke/MethodHandle" ∧ yX4_loudestCell.cls ≠ "java/lang/invoke/VarHandle" ∧ (parseMethodDescriptor yX4_loudestCell.desc).map (fun d => d.parameters.length) = some 0 := by decide +kernel
theorem hdv_X4_reachedCells : yX4_reachedCells.cls = RX4 ∧ yX4_reachedCells.cls ≠ "java/lang/invoke/MethodHandle" ∧ yX4_reachedCells.cls ≠ "java/lang/invoke/VarHandle" ∧ (parseMethodDescriptor yX4_reachedCells.desc).map (fun d => d.parameters.length) = some 0 := by decide +kernel
theorem fl_X5_count_63 : Cond.fieldLink RX5 63 RX4 (TX4 5).2.1 (TX4 5).2.2.1 ∈ wsX5_count := by decide +kernel
theorem fl_X5_count_105 : Cond.fieldLink RX5 105 RX0 (TX0 4).2.1 (TX0 4).2.2.1 ∈ wsX5_count := by decide +kernel
theorem in_X5_count_X0 : ∀ w ∈ wsX00, w ∈ wsX5_count := by decide +kernel
theorem fl_X5_count_126 : Cond.fieldLink RX5 126 RX4 (TX4 6).2.1 (TX4 6).2.2.1 ∈ wsX5_count := by decide +kernel
theorem fl_X5_count_130 : Cond.fieldLink RX5 130 RX3 (TX3 3).2.1 (TX3 3).2.2.1 ∈ wsX5_count := by decide +kernel
theorem in_X5_count_X3 : ∀ w ∈ wsX30, w ∈ wsX5_count := by decide +kernel
theorem fl_X5_count_52 : Cond.fieldLink RX5 52 RX4 (TX4 0).2.1 (TX4 0).2.2.1 ∈ wsX5_count := by decide +kernel
theorem fl_X5_count_37 : Cond.fieldLink RX5 37 RX5 (TX5 5).2.1 (TX5 5).2.2.1 ∈ wsX5_count := by decide +kernel
theorem fl_X5_count_88 : Cond.fieldLink RX5 88 RX2 (TX2 1).2.1 (TX2 1).2.2.1 ∈ wsX5_count := by decide +kernel
theorem in_X5_count_X2 : ∀ w ∈ wsX20, w ∈ wsX5_count := by decide +kernel
theorem fl_X5_count_22 : Cond.fieldLink RX5 22 RX5 (TX5 2).2.1 (TX5 2).2.2.1 ∈ wsX5_count := by decide +kernel
theorem fl_X5_count_201 : Cond.fieldLink RX5 201 RX1 (TX1 1).2.1 (TX1 1).2.2.1 ∈ wsX5_count := by decide +kernel
theorem in_X5_count_X1 : ∀ w ∈ wsX10, w ∈ wsX5_count := by decide +kernel
set_option maxHeartbeats 4000000 in
set_option maxRecDepth 100000 in
theorem c_X5_count (l : Launch) (G : va_G) (cA : Nat → ClassId) (x : Nat → Nat) (a : Nat → Nat) (b : Nat → Nat) (T : TV) (hn : Nat) (ha : Nat → Nat → Nat) (ty : Nat) (pd : Nat → Int32) (w : Int32)  : RO l yX5_count wsX5_count ({ frames := 4, cells := 0, slots := 0, locals := 88 }) G cA B0 (([[(x 0, .inr (5, [.ref (a 0), .ref (b 0), .ref (x 3), .ref (x 1), .ref (x 2), .ref (x 5)]))], [(x 3, .inr (1, [.ref (x 4), .int (nI hn)])), (x 4, .inl (cA 3, 6, .inr (.inr (.inr (.inr (stR ha))))))], [(x 5, .inr (2, [.ref (x 6), .int (nI ty)])), (x 6, .inl (cA 1, 72, .inl pd))], tkW cA a T] : List va_W).flatten) [.ref (x 0), .int w] (cntT T hn ty (tsel w 14)) := by
  refine RO.mk (own := RX5) (by decide) rfl rfl (Nat.le_of_ble_eq_true rfl) (fun p_ e_ s_ m_ below meth c_ ls CX hr hlk hP hE hB hl => ?_)
  obtain ⟨hx, hb, hml, hown, hts⟩ := id CX
  have hl : lv_has ls 2 [(0, .ref (x 0)), (1, .int w)] := hl
  have hP : ∀ (k : Nat) (w : va_W), ([[(x 0, .inr (5, [.ref (a 0), .ref (b 0), .ref (x 3), .ref (x 1), .ref (x 2), .ref (x 5)]))], [(x 3, .inr (1, [.ref (x 4), .int (nI hn)])), (x 4, .inl (cA 3, 6, .inr (.inr (.inr (.inr (stR ha))))))], [(x 5, .inr (2, [.ref (x 6), .int (nI ty)])), (x 6, .inl (cA 1, 72, .inl pd))], tkW cA a T] : List va_W)[k]? = some w → va_P G vwCl w s_.heap := va_P_seg hP
  refine lv_iload_n hx hb dX5_count_0 rfl (lv_at hl 1 rfl) ?_
  rcases tsw_cases w (0) (14) with c_1 | ⟨c_1, d_1⟩
  · refine lv_tableOut (tgt := 201) hx hb dX5_count_1 c_1 (by decide) ?_
    refine lv_bipush (v := (-2)) hx hb dX5_count_201 kb_m2 ?_
    exact ro_ret CX hr hlk (by exact (congrArg (cntT T hn ty) (tsel_out c_1)).symm) rfl dX5_count_203
  · have e_1 := tsw_split w (0) 15 (by omega) (by omega)
    obtain ⟨k_1, hk_1, e_1⟩ := e_1
    match k_1, hk_1, e_1 with
    | 0, _, e_1 =>
      refine lv_tableIn (tgt := 76) (off := 75) hx hb dX5_count_1 (by omega) (by omega) (by rw [e_1]; rfl) (by decide) ?_
      refine lv_aload_n hx hb dX5_count_76 rfl (lv_at hl 0 rfl) ?_
      refine rg (T := TX5) (N := 6) CX hE (hP 0 _ rfl) in_X5_count_X5 0 rfl rfl 0 (by decide) fl_X5_count_12 rfl rfl dX5_count_77 ?_
      refine rg (T := TX4) (N := 8) CX hE (hP 3 _ rfl) in_X5_count_X4 0 rfl rfl 7 (by decide) fl_X5_count_135 rfl rfl dX5_count_80 ?_
      exact ro_ret CX hr hlk (by exact (congrArg (cntT T hn ty) (tsel_in c_1 d_1 e_1)).symm) rfl dX5_count_83
    | 1, _, e_1 =>
      refine lv_tableIn (tgt := 84) (off := 83) hx hb dX5_count_1 (by omega) (by omega) (by rw [e_1]; rfl) (by decide) ?_
      refine lv_aload_n hx hb dX5_count_84 rfl (lv_at hl 0 rfl) ?_
      refine rg (T := TX5) (N := 6) CX hE (hP 0 _ rfl) in_X5_count_X5 0 rfl rfl 0 (by decide) fl_X5_count_12 rfl rfl dX5_count_85 ?_
      refine roVg CX hE ((hP 3 _ rfl).sub [0, 2] rfl) (c_X4_openCells l G cA a (T.2 4 0) (T.1 1) ) (cwV 0 hts gX5_count_X4_openCells rfl rfl rfl hdv_X4_openCells ⟨Nat.le_of_ble_eq_true rfl, Nat.le_of_ble_eq_true rfl⟩) (hP 3 _ rfl) 0 rfl rfl rfl B0_blind (fun _ _ _ => trivial) rfl hl.1 (rest := []) rfl (Nat.le_of_ble_eq_true rfl) dX5_count_88 ⟨Nat.zero_le _, Nat.zero_le _⟩ ?_
      exact ro_ret CX hr hlk (by exact (congrArg (cntT T hn ty) (tsel_in c_1 d_1 e_1)).symm) rfl dX5_count_91
    | 2, _, e_1 =>
      refine lv_tableIn (tgt := 92) (off := 91) hx hb dX5_count_1 (by omega) (by omega) (by rw [e_1]; rfl) (by decide) ?_
      refine lv_aload_n hx hb dX5_count_92 rfl (lv_at hl 0 rfl) ?_
      refine rg (T := TX5) (N := 6) CX hE (hP 0 _ rfl) in_X5_count_X5 0 rfl rfl 0 (by decide) fl_X5_count_12 rfl rfl dX5_count_93 ?_
      refine roVg CX hE ((hP 3 _ rfl).sub [0, 2] rfl) (c_X4_openCells l G cA a (T.2 4 0) (T.1 1) ) (cwV 0 hts gX5_count_X4_openCells rfl rfl rfl hdv_X4_openCells ⟨Nat.le_of_ble_eq_true rfl, Nat.le_of_ble_eq_true rfl⟩) (hP 3 _ rfl) 0 rfl rfl rfl B0_blind (fun _ _ _ => trivial) rfl hl.1 (rest := []) rfl (Nat.le_of_ble_eq_true rfl) dX5_count_96 ⟨Nat.zero_le _, Nat.zero_le _⟩ ?_
      refine lv_aload_n hx hb dX5_count_99 rfl (lv_at hl 0 rfl) ?_
      refine rg (T := TX5) (N := 6) CX hE (hP 0 _ rfl) in_X5_count_X5 0 rfl rfl 0 (by decide) fl_X5_count_12 rfl rfl dX5_count_100 ?_
      refine roVg CX hE ((hP 3 _ rfl).sub [0, 1, 2, 3, 4] rfl) (c_X4_restlessCells l G cA a (T.2 4 0) (T.1 0) (T.1 1) (T.1 2) (T.1 3) ) (cwV 0 hts gX5_count_X4_restlessCells rfl rfl rfl hdv_X4_restlessCells ⟨Nat.le_of_ble_eq_true rfl, Nat.le_of_ble_eq_true rfl⟩) (hP 3 _ rfl) 0 rfl rfl rfl B0_blind (fun _ _ _ => trivial) rfl hl.1 (rest := [.int (openF (T.1 1))]) rfl (Nat.le_of_ble_eq_true rfl) dX5_count_103 ⟨Nat.zero_le _, Nat.zero_le _⟩ ?_
      refine lv_isub hx hb dX5_count_106 ?_
      exact ro_ret CX hr hlk (by exact (congrArg (cntT T hn ty) (tsel_in c_1 d_1 e_1)).symm) rfl dX5_count_107
    | 3, _, e_1 =>
      refine lv_tableIn (tgt := 108) (off := 107) hx hb dX5_count_1 (by omega) (by omega) (by rw [e_1]; rfl) (by decide) ?_
      refine lv_aload_n hx hb dX5_count_108 rfl (lv_at hl 0 rfl) ?_
      refine rg (T := TX5) (N := 6) CX hE (hP 0 _ rfl) in_X5_count_X5 0 rfl rfl 0 (by decide) fl_X5_count_12 rfl rfl dX5_count_109 ?_
      refine roVg CX hE ((hP 3 _ rfl).sub [0, 3] rfl) (c_X4_sum l G cA a (T.2 4 0) (T.1 2) ) (cwV 0 hts gX5_count_X4_sum rfl rfl rfl hdv_X4_sum ⟨Nat.le_of_ble_eq_true rfl, Nat.le_of_ble_eq_true rfl⟩) (hP 3 _ rfl) 0 rfl rfl rfl B0_blind (fun _ _ _ => trivial) rfl hl.1 (rest := []) rfl (Nat.le_of_ble_eq_true rfl) dX5_count_112 ⟨Nat.zero_le _, Nat.zero_le _⟩ ?_
      refine lv_ldc (v := (1000000)) hx hb hown (hts _ w_X5_count_cn191) dX5_count_115 ?_
      refine rn_top (nI 1000000) kl_1000000 ?_
      refine lv_iadd hx hb dX5_count_117 ?_
      exact ro_ret CX hr hlk (by exact (congrArg (cntT T hn ty) (tsel_in c_1 d_1 e_1)).symm) rfl dX5_count_118
    | 4, _, e_1 =>
      refine lv_tableIn (tgt := 119) (off := 118) hx hb dX5_count_1 (by omega) (by omega) (by rw [e_1]; rfl) (by decide) ?_
      refine lv_aload_n hx hb dX5_count_119 rfl (lv_at hl 0 rfl) ?_
      refine rg (T := TX5) (N := 6) CX hE (hP 0 _ rfl) in_X5_count_X5 0 rfl rfl 0 (by decide) fl_X5_count_12 rfl rfl dX5_count_120 ?_
      refine roVg CX hE ((hP 3 _ rfl).sub [0, 3] rfl) (c_X4_loudness l G cA a (T.2 4 0) (T.1 2) ) (cwV 0 hts gX5_count_X4_loudness rfl rfl rfl hdv_X4_loudness ⟨Nat.le_of_ble_eq_true rfl, Nat.le_of_ble_eq_true rfl⟩) (hP 3 _ rfl) 0 rfl rfl rfl B0_blind (fun _ _ _ => trivial) rfl hl.1 (rest := []) rfl (Nat.le_of_ble_eq_true rfl) dX5_count_123 ⟨Nat.zero_le _, Nat.zero_le _⟩ ?_
      exact ro_ret CX hr hlk (by exact (congrArg (cntT T hn ty) (tsel_in c_1 d_1 e_1)).symm) rfl dX5_count_126
    | 5, _, e_1 =>
      refine lv_tableIn (tgt := 127) (off := 126) hx hb dX5_count_1 (by omega) (by omega) (by rw [e_1]; rfl) (by decide) ?_
      refine lv_aload_n hx hb dX5_count_127 rfl (lv_at hl 0 rfl) ?_
      refine rg (T := TX5) (N := 6) CX hE (hP 0 _ rfl) in_X5_count_X5 0 rfl rfl 0 (by decide) fl_X5_count_12 rfl rfl dX5_count_128 ?_
      refine lv_aload_n hx hb dX5_count_131 rfl (lv_at hl 0 rfl) ?_
      refine rg (T := TX5) (N := 6) CX hE (hP 0 _ rfl) in_X5_count_X5 0 rfl rfl 0 (by decide) fl_X5_count_12 rfl rfl dX5_count_132 ?_
      refine roVg CX hE ((hP 3 _ rfl).sub [0, 3] rfl) (c_X4_loudestCell l G cA a (T.2 4 0) (T.1 2) ) (cwV 0 hts gX5_count_X4_loudestCell rfl rfl rfl hdv_X4_loudestCell ⟨Nat.le_of_ble_eq_true rfl, Nat.le_of_ble_eq_true rfl⟩) (hP 3 _ rfl) 0 rfl rfl rfl B0_blind (fun _ _ _ => trivial) rfl hl.1 (rest := [.ref (a 0)]) rfl (Nat.le_of_ble_eq_true rfl) dX5_count_135 ⟨Nat.zero_le _, Nat.zero_le _⟩ ?_
      refine roVg CX hE ((hP 3 _ rfl).sub [0, 3] rfl) (c_X4_loudnessOf l G cA a (T.2 4 0) (T.1 2) (ldF (T.1 2) 60) (ldF_lt 59)) (cwV 1 hts gX5_count_X4_loudnessOf rfl rfl rfl hdv_X4_loudnessOf ⟨Nat.le_of_ble_eq_true rfl, Nat.le_of_ble_eq_true rfl⟩) (hP 3 _ rfl) 0 rfl rfl rfl B0_blind (fun _ _ _ => trivial) rfl hl.1 (rest := []) rfl (Nat.le_of_ble_eq_true rfl) dX5_count_138 ⟨Nat.zero_le _, Nat.zero_le _⟩ ?_
      exact ro_ret CX hr hlk (by exact (congrArg (cntT T hn ty) (tsel_in c_1 d_1 e_1)).symm) rfl dX5_count_141
    | 6, _, e_1 =>
      refine lv_tableIn (tgt := 142) (off := 141) hx hb dX5_count_1 (by omega) (by omega) (by rw [e_1]; rfl) (by decide) ?_
      refine lv_aload_n hx hb dX5_count_142 rfl (lv_at hl 0 rfl) ?_
      refine rg (T := TX5) (N := 6) CX hE (hP 0 _ rfl) in_X5_count_X5 0 rfl rfl 0 (by decide) fl_X5_count_12 rfl rfl dX5_count_143 ?_
      refine roVg CX hE ((hP 3 _ rfl).sub [0, 5] rfl) (c_X4_reachedCells l G cA a (T.2 4 0) (T.1 4) ) (cwV 0 hts gX5_count_X4_reachedCells rfl rfl rfl hdv_X4_reachedCells ⟨Nat.le_of_ble_eq_true rfl, Nat.le_of_ble_eq_true rfl⟩) (hP 3 _ rfl) 0 rfl rfl rfl B0_blind (fun _ _ _ => trivial) rfl hl.1 (rest := []) rfl (Nat.le_of_ble_eq_true rfl) dX5_count_146 ⟨Nat.zero_le _, Nat.zero_le _⟩ ?_
      exact ro_ret CX hr hlk (by exact (congrArg (cntT T hn ty) (tsel_in c_1 d_1 e_1)).symm) rfl dX5_count_149
    | 7, _, e_1 =>
      refine lv_tableIn (tgt := 150) (off := 149) hx hb dX5_count_1 (by omega) (by omega) (by rw [e_1]; rfl) (by decide) ?_
      refine lv_aload_n hx hb dX5_count_150 rfl (lv_at hl 0 rfl) ?_
      refine rg (T := TX5) (N := 6) CX hE (hP 0 _ rfl) in_X5_count_X5 0 rfl rfl 0 (by decide) fl_X5_count_12 rfl rfl dX5_count_151 ?_
      refine rg (T := TX4) (N := 8) CX hE (hP 3 _ rfl) in_X5_count_X4 0 rfl rfl 5 (by decide) fl_X5_count_63 rfl rfl dX5_count_154 ?_
      refine rg (T := TX0) (N := 5) CX hE (hP 3 _ rfl) in_X5_count_X0 6 rfl rfl 4 (by decide) fl_X5_count_105 rfl rfl dX5_count_157 ?_
      exact ro_ret CX hr hlk (by exact (congrArg (cntT T hn ty) (tsel_in c_1 d_1 e_1)).symm) rfl dX5_count_160
    | 8, _, e_1 =>
      refine lv_tableIn (tgt := 161) (off := 160) hx hb dX5_count_1 (by omega) (by omega) (by rw [e_1]; rfl) (by decide) ?_
      refine lv_aload_n hx hb dX5_count_161 rfl (lv_at hl 0 rfl) ?_
      refine rg (T := TX5) (N := 6) CX hE (hP 0 _ rfl) in_X5_count_X5 0 rfl rfl 0 (by decide) fl_X5_count_12 rfl rfl dX5_count_162 ?_
      refine rg (T := TX4) (N := 8) CX hE (hP 3 _ rfl) in_X5_count_X4 0 rfl rfl 6 (by decide) fl_X5_count_126 rfl rfl dX5_count_165 ?_
      refine rg (T := TX3) (N := 4) CX hE (hP 3 _ rfl) in_X5_count_X3 11 rfl rfl 3 (by decide) fl_X5_count_130 rfl rfl dX5_count_168 ?_
      exact ro_ret CX hr hlk (by exact (congrArg (cntT T hn ty) (tsel_in c_1 d_1 e_1)).symm) rfl dX5_count_171
    | 9, _, e_1 =>
      refine lv_tableIn (tgt := 172) (off := 171) hx hb dX5_count_1 (by omega) (by omega) (by rw [e_1]; rfl) (by decide) ?_
      have w_ := tsw_eq c_1 e_1
      subst w_
      refine lv_aload_n hx hb dX5_count_172 rfl (lv_at hl 0 rfl) ?_
      refine rg (T := TX5) (N := 6) CX hE (hP 0 _ rfl) in_X5_count_X5 0 rfl rfl 0 (by decide) fl_X5_count_12 rfl rfl dX5_count_173 ?_
      refine rg (T := TX4) (N := 8) CX hE (hP 3 _ rfl) in_X5_count_X4 0 rfl rfl 0 (by decide) fl_X5_count_52 rfl rfl dX5_count_176 ?_
      refine lv_iload_n hx hb dX5_count_179 rfl (lv_at hl 1 rfl) ?_
      refine lv_bipush (v := (nI 9)) hx hb dX5_count_180 kb_9 ?_
      refine rn_isub hx hb (by omega) dX5_count_182 ?_
      refine rn_iald CX hE (hP 3 _ rfl) 1 rfl (j := 0) (by omega) (ltb rfl) dX5_count_183 ?_
      exact ro_ret CX hr hlk (by exact (congrArg (cntT T hn ty) (tsel_in c_1 d_1 e_1)).symm) rfl dX5_count_184
    | 10, _, e_1 =>
      refine lv_tableIn (tgt := 172) (off := 171) hx hb dX5_count_1 (by omega) (by omega) (by rw [e_1]; rfl) (by decide) ?_
      have w_ := tsw_eq c_1 e_1
      subst w_
      refine lv_aload_n hx hb dX5_count_172 rfl (lv_at hl 0 rfl) ?_
      refine rg (T := TX5) (N := 6) CX hE (hP 0 _ rfl) in_X5_count_X5 0 rfl rfl 0 (by decide) fl_X5_count_12 rfl rfl dX5_count_173 ?_
      refine rg (T := TX4) (N := 8) CX hE (hP 3 _ rfl) in_X5_count_X4 0 rfl rfl 0 (by decide) fl_X5_count_52 rfl rfl dX5_count_176 ?_
      refine lv_iload_n hx hb dX5_count_179 rfl (lv_at hl 1 rfl) ?_
      refine lv_bipush (v := (nI 9)) hx hb dX5_count_180 kb_9 ?_
      refine rn_isub hx hb (by omega) dX5_count_182 ?_
      refine rn_iald CX hE (hP 3 _ rfl) 1 rfl (j := 1) (by omega) (ltb rfl) dX5_count_183 ?_
      exact ro_ret CX hr hlk (by exact (congrArg (cntT T hn ty) (tsel_in c_1 d_1 e_1)).symm) rfl dX5_count_184
    | 11, _, e_1 =>
      refine lv_tableIn (tgt := 172) (off := 171) hx hb dX5_count_1 (by omega) (by omega) (by rw [e_1]; rfl) (by decide) ?_
      have w_ := tsw_eq c_1 e_1
      subst w_
      refine lv_aload_n hx hb dX5_count_172 rfl (lv_at hl 0 rfl) ?_
      refine rg (T := TX5) (N := 6) CX hE (hP 0 _ rfl) in_X5_count_X5 0 rfl rfl 0 (by decide) fl_X5_count_12 rfl rfl dX5_count_173 ?_
      refine rg (T := TX4) (N := 8) CX hE (hP 3 _ rfl) in_X5_count_X4 0 rfl rfl 0 (by decide) fl_X5_count_52 rfl rfl dX5_count_176 ?_
      refine lv_iload_n hx hb dX5_count_179 rfl (lv_at hl 1 rfl) ?_
      refine lv_bipush (v := (nI 9)) hx hb dX5_count_180 kb_9 ?_
      refine rn_isub hx hb (by omega) dX5_count_182 ?_
      refine rn_iald CX hE (hP 3 _ rfl) 1 rfl (j := 2) (by omega) (ltb rfl) dX5_count_183 ?_
      exact ro_ret CX hr hlk (by exact (congrArg (cntT T hn ty) (tsel_in c_1 d_1 e_1)).symm) rfl dX5_count_184
    | 12, _, e_1 =>
      refine lv_tableIn (tgt := 172) (off := 171) hx hb dX5_count_1 (by omega) (by omega) (by rw [e_1]; rfl) (by decide) ?_
      have w_ := tsw_eq c_1 e_1
      subst w_
      refine lv_aload_n hx hb dX5_count_172 rfl (lv_at hl 0 rfl) ?_
      refine rg (T := TX5) (N := 6) CX hE (hP 0 _ rfl) in_X5_count_X5 0 rfl rfl 0 (by decide) fl_X5_count_12 rfl rfl dX5_count_173 ?_
      refine rg (T := TX4) (N := 8) CX hE (hP 3 _ rfl) in_X5_count_X4 0 rfl rfl 0 (by decide) fl_X5_count_52 rfl rfl dX5_count_176 ?_
      refine lv_iload_n hx hb dX5_count_179 rfl (lv_at hl 1 rfl) ?_
      refine lv_bipush (v := (nI 9)) hx hb dX5_count_180 kb_9 ?_
      refine rn_isub hx hb (by omega) dX5_count_182 ?_
      refine rn_iald CX hE (hP 3 _ rfl) 1 rfl (j := 3) (by omega) (ltb rfl) dX5_count_183 ?_
      exact ro_ret CX hr hlk (by exact (congrArg (cntT T hn ty) (tsel_in c_1 d_1 e_1)).symm) rfl dX5_count_184
    | 13, _, e_1 =>
      refine lv_tableIn (tgt := 185) (off := 184) hx hb dX5_count_1 (by omega) (by omega) (by rw [e_1]; rfl) (by decide) ?_
      refine lv_aload_n hx hb dX5_count_185 rfl (lv_at hl 0 rfl) ?_
      refine rg (T := TX5) (N := 6) CX hE (hP 0 _ rfl) in_X5_count_X5 0 rfl rfl 5 (by decide) fl_X5_count_37 rfl rfl dX5_count_186 ?_
      refine rg (T := TX2) (N := 2) CX hE (hP 2 _ rfl) in_X5_count_X2 0 rfl rfl 1 (by decide) fl_X5_count_88 rfl rfl dX5_count_189 ?_
      exact ro_ret CX hr hlk (by exact (congrArg (cntT T hn ty) (tsel_in c_1 d_1 e_1)).symm) rfl dX5_count_192
    | 14, _, e_1 =>
      refine lv_tableIn (tgt := 193) (off := 192) hx hb dX5_count_1 (by omega) (by omega) (by rw [e_1]; rfl) (by decide) ?_
      refine lv_aload_n hx hb dX5_count_193 rfl (lv_at hl 0 rfl) ?_
      refine rg (T := TX5) (N := 6) CX hE (hP 0 _ rfl) in_X5_count_X5 0 rfl rfl 2 (by decide) fl_X5_count_22 rfl rfl dX5_count_194 ?_
      refine rg (T := TX1) (N := 2) CX hE (hP 1 _ rfl) in_X5_count_X1 0 rfl rfl 1 (by decide) fl_X5_count_201 rfl rfl dX5_count_197 ?_
      exact ro_ret CX hr hlk (by exact (congrArg (cntT T hn ty) (tsel_in c_1 d_1 e_1)).symm) rfl dX5_count_200
    | k + 15, h, _ => exact absurd h (by omega)
theorem fl_X5_loudest_12 : Cond.fieldLink RX5 12 RX5 (TX5 0).2.1 (TX5 0).2.2.1 ∈ wsX5_loudest := by decide +kernel
theorem in_X5_loudest_X5 : ∀ w ∈ wsX50, w ∈ wsX5_loudest := by decide +kernel
set_option maxHeartbeats 4000000 in
set_option maxRecDepth 100000 in
theorem c_X5_loudest_k (l : Launch) (G : va_G) (cA : Nat → ClassId) (x : Nat → Nat) (a : Nat → Nat) (b : Nat → Nat) (T : TV) (w : Int32) (hok : okT T) (hw : inP w (nI 0) (nI 1)) : RO l yX5_loudest wsX5_loudest ({ frames := 3, cells := 0, slots := 0, locals := 67 }) G cA B0 (([[(x 0, .inr (5, [.ref (a 0), .ref (b 0), .ref (x 3), .ref (x 1), .ref (x 2), .ref (x 5)]))], tkW cA a T] : List va_W).flatten) [.ref (x 0), .int w] (louF (T.1 2) w) := by
  refine RO.mk (own := RX5) (by decide) rfl rfl (Nat.le_of_ble_eq_true rfl) (fun p_ e_ s_ m_ below meth c_ ls CX hr hlk hP hE hB hl => ?_)
  obtain ⟨hx, hb, hml, hown, hts⟩ := id CX
  have hl : lv_has ls 3 [(0, .ref (x 0)), (1, .int w)] := hl
  have hP : ∀ (k : Nat) (w : va_W), ([[(x 0, .inr (5, [.ref (a 0), .ref (b 0), .ref (x 3), .ref (x 1), .ref (x 2), .ref (x 5)]))], tkW cA a T] : List va_W)[k]? = some w → va_P G vwCl w s_.heap := va_P_seg hP
  have hdc := hok.1.2
  have hnd := hok.1.1
  have hnp := hok.2.1
  have hpc := hok.2.2
  refine lv_iload_n hx hb dX5_loudest_0 rfl (lv_at hl 1 rfl) ?_
  refine rn_iconst hx hb 0 rfl dX5_loudest_1 ?_
  refine rn_iconst hx hb 1 rfl dX5_loudest_2 ?_
  refine roS CX hE va_P_nil (c_X5_isIn l G cA w (nI 0) (nI 1) ) (va_cwS 3 hts gX5_loudest_X5_isIn rfl rfl rfl hdn_X5_isIn ⟨Nat.le_of_ble_eq_true rfl, Nat.le_of_ble_eq_true rfl⟩) [] rfl B0_blind (fun _ _ _ => trivial) rfl hl.1 (rest := []) rfl (Nat.le_of_ble_eq_true rfl) dX5_loudest_3 ⟨Nat.zero_le _, Nat.zero_le _⟩ ?_
  refine rb_if_ne hx hb dX5_loudest_6 (by decide) (tgt := 12) (fun c_6 => ?_) (fun c_6 => ?_)
  · refine lv_aload_n hx hb dX5_loudest_12 rfl (lv_at hl 0 rfl) ?_
    refine rg (T := TX5) (N := 6) CX hE (hP 0 _ rfl) in_X5_loudest_X5 0 rfl rfl 0 (by decide) fl_X5_loudest_12 rfl rfl dX5_loudest_13 ?_
    refine roVg CX hE ((hP 1 _ rfl).sub [0, 3] rfl) (c_X4_loudestCell l G cA a (T.2 4 0) (T.1 2) ) (cwV 0 hts gX5_loudest_X4_loudestCell rfl rfl rfl hdv_X4_loudestCell ⟨Nat.le_of_ble_eq_true rfl, Nat.le_of_ble_eq_true rfl⟩) (hP 1 _ rfl) 0 rfl rfl rfl B0_blind (fun _ _ _ => trivial) rfl hl.1 (rest := []) rfl (Nat.le_of_ble_eq_true rfl) dX5_loudest_16 ⟨Nat.zero_le _, Nat.zero_le _⟩ ?_
    have hld : ldF (T.1 2) 60 < 60 := ldF_lt 59
    refine lv_istore_n (lv' := [(2, .int (nI (ldF (T.1 2) 60))), (0, .ref (x 0)), (1, .int w)]) hx hb dX5_loudest_19 rfl hl (by decide) rfl (fun ls hl => ?_)
    refine lv_aload_n hx hb dX5_loudest_20 rfl (lv_at hl 1 rfl) ?_
    refine rg (T := TX5) (N := 6) CX hE (hP 0 _ rfl) in_X5_loudest_X5 0 rfl rfl 0 (by decide) fl_X5_loudest_12 rfl rfl dX5_loudest_21 ?_
    refine lv_iload_n hx hb dX5_loudest_24 rfl (lv_at hl 0 rfl) ?_
    refine roVg CX hE ((hP 1 _ rfl).sub [0, 3] rfl) (c_X4_loudnessOf l G cA a (T.2 4 0) (T.1 2) (ldF (T.1 2) 60) hld) (cwV 1 hts gX5_loudest_X4_loudnessOf rfl rfl rfl hdv_X4_loudnessOf ⟨Nat.le_of_ble_eq_true rfl, Nat.le_of_ble_eq_true rfl⟩) (hP 1 _ rfl) 0 rfl rfl rfl B0_blind (fun _ _ _ => trivial) rfl hl.1 (rest := []) rfl (Nat.le_of_ble_eq_true rfl) dX5_loudest_25 ⟨Nat.zero_le _, Nat.zero_le _⟩ ?_
    refine lv_if_ne hx hb dX5_loudest_28 (by decide) (tgt := 34) (fun c_28 => ?_) (fun c_28 => ?_)
    · refine lv_iload_n hx hb dX5_loudest_34 rfl (lv_at hl 2 rfl) ?_
      refine lv_if_ne hx hb dX5_loudest_35 (by decide) (tgt := 45) (fun c_35 => ?_) (fun c_35 => ?_)
      · refine lv_iload_n hx hb dX5_loudest_45 rfl (lv_at hl 0 rfl) ?_
        refine lv_bipush (v := (nI 10)) hx hb dX5_loudest_46 kb_10 ?_
        refine rn_idiv hx hb (by omega) (by omega) (by omega) dX5_loudest_48 ?_
        exact ro_ret CX hr hlk (by unfold louF; rw [if_neg (show ¬ iabs (T.1 2 (ldF (T.1 2) 60)) = nI 0 from c_28)]; first | exact (if_pos c_35).symm | exact (if_neg c_35).symm) rfl dX5_loudest_49
      · refine lv_iload_n hx hb dX5_loudest_38 rfl (lv_at hl 0 rfl) ?_
        refine lv_bipush (v := (nI 10)) hx hb dX5_loudest_39 kb_10 ?_
        refine rn_irem hx hb (by omega) (by omega) (by omega) dX5_loudest_41 ?_
        refine lv_goto (tgt := 49) hx hb dX5_loudest_42 (by decide) ?_
        exact ro_ret CX hr hlk (by unfold louF; rw [if_neg (show ¬ iabs (T.1 2 (ldF (T.1 2) 60)) = nI 0 from c_28)]; first | exact (if_pos c_35).symm | exact (if_neg c_35).symm) rfl dX5_loudest_49
    · refine lv_bipush (v := (-6)) hx hb dX5_loudest_31 kb_m6 ?_
      exact ro_ret CX hr hlk (by unfold louF; exact (if_pos (show iabs (T.1 2 (ldF (T.1 2) 60)) = nI 0 from c_28)).symm) rfl dX5_loudest_33
  · exact absurd hw c_6
theorem fl_X5_crests_12 : Cond.fieldLink RX5 12 RX5 (TX5 0).2.1 (TX5 0).2.2.1 ∈ wsX5_crests := by decide +kernel
theorem in_X5_crests_X5 : ∀ w ∈ wsX50, w ∈ wsX5_crests := by decide +kernel
theorem hdv_X4_isCrest : yX4_isCrest.cls = RX4 ∧ yX4_isCrest.cls ≠ "java/lang/invoke/MethodHandle" ∧ yX4_isCrest.cls ≠ "java/lang/invoke/VarHandle" ∧ (parseMethodDescriptor yX4_isCrest.desc).map (fun d => d.parameters.length) = some 2 := by decide +kernel
set_option maxHeartbeats 4000000 in
set_option maxRecDepth 100000 in
theorem c_X5_crests_k (l : Launch) (G : va_G) (cA : Nat → ClassId) (x : Nat → Nat) (a : Nat → Nat) (b : Nat → Nat) (T : TV) (ky : Nat) (hok : okT T) (hky : ky < 6) : RO l yX5_crests wsX5_crests ({ frames := 4, cells := 0, slots := 0, locals := 88 }) G cA B0 (([[(x 0, .inr (5, [.ref (a 0), .ref (b 0), .ref (x 3), .ref (x 1), .ref (x 2), .ref (x 5)]))], tkW cA a T] : List va_W).flatten) [.ref (x 0), .int (nI ky)] (creM (T.1 2) ky 10) := by
  refine RO.mk (own := RX5) (by decide) rfl rfl (Nat.le_of_ble_eq_true rfl) (fun p_ e_ s_ m_ below meth c_ ls CX hr hlk hP hE hB hl => ?_)
  obtain ⟨hx, hb, hml, hown, hts⟩ := id CX
  have hl : lv_has ls 4 [(0, .ref (x 0)), (1, .int (nI ky))] := hl
  have hP : ∀ (k : Nat) (w : va_W), ([[(x 0, .inr (5, [.ref (a 0), .ref (b 0), .ref (x 3), .ref (x 1), .ref (x 2), .ref (x 5)]))], tkW cA a T] : List va_W)[k]? = some w → va_P G vwCl w s_.heap := va_P_seg hP
  have hdc := hok.1.2
  have hnd := hok.1.1
  have hnp := hok.2.1
  have hpc := hok.2.2
  refine lv_iload_n hx hb dX5_crests_0 rfl (lv_at hl 1 rfl) ?_
  refine rn_iconst hx hb 0 rfl dX5_crests_1 ?_
  refine rn_iconst hx hb 5 rfl dX5_crests_2 ?_
  refine roS CX hE va_P_nil (c_X5_isIn l G cA (nI ky) (nI 0) (nI 5) ) (va_cwS 3 hts gX5_crests_X5_isIn rfl rfl rfl hdn_X5_isIn ⟨Nat.le_of_ble_eq_true rfl, Nat.le_of_ble_eq_true rfl⟩) [] rfl B0_blind (fun _ _ _ => trivial) rfl hl.1 (rest := []) rfl (Nat.le_of_ble_eq_true rfl) dX5_crests_3 ⟨Nat.zero_le _, Nat.zero_le _⟩ ?_
  refine rb_if_ne hx hb dX5_crests_6 (by decide) (tgt := 11) (fun c_6 => ?_) (fun c_6 => ?_)
  · refine rn_iconst hx hb 0 rfl dX5_crests_11 ?_
    refine lv_istore_n (lv' := [(2, .int (nI 0)), (0, .ref (x 0)), (1, .int (nI ky))]) hx hb dX5_crests_12 rfl hl (by decide) rfl (fun ls hl => ?_)
    refine rn_iconst hx hb 0 rfl dX5_crests_13 ?_
    refine lv_istore_n (lv' := [(3, .int (nI 0)), (2, .int (nI 0)), (0, .ref (x 0)), (1, .int (nI ky))]) hx hb dX5_crests_14 rfl hl (by decide) rfl (fun ls hl => ?_)
    have LP_15 : ∀ (nn_ : Nat) (k : Nat) (n : Int32), (10 - k) < nn_ → (k ≤ 10) → (n = creM (T.1 2) ky k) → ∀ ls : Array Slot, lv_has ls 4 [(0, .ref (x 0)), (1, .int (nI ky)), (2, .int n), (3, .int (nI k))] → W p_ l e_ ({ frames := 4, cells := 0, slots := 0, locals := 88 } : Room) s_ m_ ([.ref (x 0), .int (nI ky)] : List Value).toArray below meth c_ s_.heap [] 0 0 (MQ below (vp_Si (fun r_ => r_ = (creM (T.1 2) ky 10))) ([.ref (x 0), .int (nI ky)] : List Value).toArray s_ 0 0 (fun _ => False)) (F0 m_ 15 ls []) := by
      intro nn_
      induction nn_ with
      | zero => intro k n hmu; exact absurd hmu (Nat.not_lt_zero _)
      | succ nn_ ih =>
        have ih_15 := ih
        clear ih
        intro k n hmu_15 hk hn ls hl
        refine lv_iload_n hx hb dX5_crests_15 rfl (lv_at hl 3 rfl) ?_
        refine lv_bipush (v := (nI 10)) hx hb dX5_crests_16 kb_10 ?_
        refine rn_icmp_ge hx hb (by omega) (by omega) dX5_crests_18 (by decide) (tgt := 42) (fun c_18 => ?_) (fun c_18 => ?_)
        · refine lv_iload_n hx hb dX5_crests_42 rfl (lv_at hl 2 rfl) ?_
          exact ro_ret CX hr hlk (by rw [hn, show k = 10 by omega]) rfl dX5_crests_43
        · refine lv_aload_n hx hb dX5_crests_21 rfl (lv_at hl 0 rfl) ?_
          refine rg (T := TX5) (N := 6) CX hE (hP 0 _ rfl) in_X5_crests_X5 0 rfl rfl 0 (by decide) fl_X5_crests_12 rfl rfl dX5_crests_22 ?_
          refine lv_iload_n hx hb dX5_crests_25 rfl (lv_at hl 3 rfl) ?_
          refine lv_iload_n hx hb dX5_crests_26 rfl (lv_at hl 1 rfl) ?_
          refine roVg CX hE ((hP 1 _ rfl).sub [0, 3] rfl) (c_X4_isCrest l G cA a (T.2 4 0) (T.1 2) k ky (by omega) (by omega)) (cwV 2 hts gX5_crests_X4_isCrest rfl rfl rfl hdv_X4_isCrest ⟨Nat.le_of_ble_eq_true rfl, Nat.le_of_ble_eq_true rfl⟩) (hP 1 _ rfl) 0 rfl rfl rfl B0_blind (fun _ _ _ => trivial) rfl hl.1 (rest := []) rfl (Nat.le_of_ble_eq_true rfl) dX5_crests_27 ⟨Nat.zero_le _, Nat.zero_le _⟩ ?_
          refine rb_if_eq hx hb dX5_crests_30 (by decide) (tgt := 36) (fun c_30 => ?_) (fun c_30 => ?_)
          · refine rn_iinc hx hb (n := 1) (lv' := [(3, .int (nI (k + 1))), (0, .ref (x 0)), (1, .int (nI ky)), (2, .int n)]) rfl dX5_crests_36 hl (k := 3) rfl (by decide) rfl (fun ls hl => ?_)
            refine lv_goto (tgt := 15) hx hb dX5_crests_39 (by decide) ?_
            exact ih_15 (k + 1) n (by omega) (by omega) (by rw [hn]; show _ = creM (T.1 2) ky k + b2i _; first | (rw [b2i_1 c_30]; rfl) | (rw [b2i_0 c_30]; exact (add0 _).symm)) ls (lv_sub hl [1, 2, 3, 0] rfl)
          · refine lv_iinc (v := (n + 1)) (lv' := [(2, .int (n + 1)), (0, .ref (x 0)), (1, .int (nI ky)), (3, .int (nI k))]) hx hb dX5_crests_33 hl (k := 2) rfl rfl (by decide) rfl (fun ls hl => ?_)
            refine rn_iinc hx hb (n := 1) (lv' := [(3, .int (nI (k + 1))), (2, .int (n + 1)), (0, .ref (x 0)), (1, .int (nI ky))]) rfl dX5_crests_36 hl (k := 3) rfl (by decide) rfl (fun ls hl => ?_)
            refine lv_goto (tgt := 15) hx hb dX5_crests_39 (by decide) ?_
            exact ih_15 (k + 1) (n + 1) (by omega) (by omega) (by rw [hn]; show _ = creM (T.1 2) ky k + b2i _; first | (rw [b2i_1 c_30]; rfl) | (rw [b2i_0 c_30]; exact (add0 _).symm)) ls (lv_sub hl [2, 3, 1, 0] rfl)
    exact LP_15 _ 0 (nI 0) (Nat.lt_succ_self _) (by omega) rfl ls (lv_sub hl [2, 3, 1, 0] rfl)
  · exact absurd (inP_nI (Nat.zero_le _) (by omega) (by decide)) c_6
