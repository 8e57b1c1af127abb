theorem fl_X6_cell_7 : Cond.fieldLink RX6 7 RX6 (TX6 0).2.1 (TX6 0).2.2.1 ∈ wsX6_cell := by decide +kernel
theorem in_X6_cell_X6 : ∀ w ∈ wsX60, w ∈ wsX6_cell := by decide +kernel
theorem w_X6_cell_cn123 : Cond.constant RX6 123 (100000) ∈ wsX6_cell := by decide +kernel
set_option maxHeartbeats 4000000 in
set_option maxRecDepth 100000 in
theorem c_X6_cell_k (l : Launch) (G : va_G) (cA : Nat → ClassId) (m : Nat → Nat) (pm : Nat) (ty : Nat) (z : Nat → Int32) (kx : Nat) (ky : Nat) (w : Int32) (nd : Nat) (hkx : kx < 10) (hky : ky < 6) (hnd : nd ≤ 5) (hz : z 245 = nI nd) : RO l yX6_cell wsX6_cell ({ frames := 4, cells := 0, slots := 0, locals := 89 }) G cA B0 [(m 0, .inr (6, [.ref (m 1), .ref (m 2), .ref (m 3), .ref (m 4), .int (nI pm), .ref (m 5), .ref (m 6), .int (nI ty), .ref (m 7)])), (m 1, .inl (cA 0, 345, .inl z))] [.ref (m 0), .int (nI kx), .int (nI ky), .int w] (cellN z nd (ky * 10 + kx) (tsel w 6)) := by
  refine RO.mk (own := RX6) (by decide) rfl rfl (Nat.le_of_ble_eq_true rfl) (fun p_ e_ s_ m_ below meth c_ ls CX hr hlk hP hE hB hl => ?_)
  obtain ⟨hx, hb, hml, hown, hts⟩ := id CX
  have hl : lv_has ls 5 [(0, .ref (m 0)), (1, .int (nI kx)), (2, .int (nI ky)), (3, .int w)] := hl
  refine lv_iload_n hx hb dX6_cell_0 rfl (lv_at hl 1 rfl) ?_
  refine lv_iload_n hx hb dX6_cell_1 rfl (lv_at hl 2 rfl) ?_
  refine roS CX hE hP (c_X6_isCell l G cA (nI kx) (nI ky) ) (va_cwS 2 hts gX6_cell_X6_isCell rfl rfl rfl hdn_X6_isCell ⟨Nat.le_of_ble_eq_true rfl, Nat.le_of_ble_eq_true rfl⟩) [] rfl B0_blind (fun _ _ _ => trivial) rfl hl.1 (rest := []) rfl (Nat.le_of_ble_eq_true rfl) dX6_cell_2 ⟨Nat.zero_le _, Nat.zero_le _⟩ ?_
  refine rb_if_ne hx hb dX6_cell_5 (by decide) (tgt := 10) (fun c_5 => ?_) (fun c_5 => ?_)
  · refine lv_bipush (v := (nI 10)) hx hb dX6_cell_10 kb_10 ?_
    refine lv_iload_n hx hb dX6_cell_12 rfl (lv_at hl 2 rfl) ?_
    refine rn_imul hx hb dX6_cell_13 ?_
    refine lv_iload_n hx hb dX6_cell_14 rfl (lv_at hl 1 rfl) ?_
    refine rn_iadd hx hb dX6_cell_15 ?_
    refine rn_top (nI (ky * 10 + kx)) (by rw [Nat.mul_comm]) ?_
    refine lv_istore (lv' := [(4, .int (nI (ky * 10 + kx))), (0, .ref (m 0)), (1, .int (nI kx)), (2, .int (nI ky)), (3, .int w)]) hx hb dX6_cell_16 hl (by decide) rfl (fun ls hl => ?_)
    refine lv_iload_n hx hb dX6_cell_18 rfl (lv_at hl 4 rfl) ?_
    rcases tsw_cases w (0) (6) with c_19 | ⟨c_19, d_19⟩
    · refine lv_tableOut (tgt := 149) hx hb dX6_cell_19 c_19 (by decide) ?_
      refine lv_bipush (v := (-2)) hx hb dX6_cell_149 kb_m2 ?_
      exact ro_ret CX hr hlk (by exact (congrArg (cellN z nd (ky * 10 + kx)) (tsel_out c_19)).symm) rfl dX6_cell_151
    · have e_19 := tsw_split w (0) 7 (by omega) (by omega)
      obtain ⟨k_19, hk_19, e_19⟩ := e_19
      match k_19, hk_19, e_19 with
      | 0, _, e_19 =>
        refine lv_tableIn (tgt := 60) (off := 41) hx hb dX6_cell_19 (by omega) (by omega) (by rw [e_19]; rfl) (by decide) ?_
        refine lv_aload_n hx hb dX6_cell_60 rfl (lv_at hl 1 rfl) ?_
        refine rg (T := TX6) (N := 9) CX hE hP in_X6_cell_X6 0 rfl rfl 0 (by decide) fl_X6_cell_7 rfl rfl dX6_cell_61 ?_
        refine rn_iconst hx hb 5 rfl dX6_cell_64 ?_
        refine lv_iload hx hb dX6_cell_65 (lv_at hl 0 rfl) ?_
        refine rn_iadd hx hb dX6_cell_67 ?_
        refine rn_iald CX hE hP 1 rfl (j := (5 + (ky * 10 + kx))) (by omega) (ltb rfl) dX6_cell_68 ?_
        exact ro_ret CX hr hlk (by exact (congrArg (cellN z nd (ky * 10 + kx)) (tsel_in c_19 d_19 e_19)).symm) rfl dX6_cell_69
      | 1, _, e_19 =>
        refine lv_tableIn (tgt := 70) (off := 51) hx hb dX6_cell_19 (by omega) (by omega) (by rw [e_19]; rfl) (by decide) ?_
        refine lv_aload_n hx hb dX6_cell_70 rfl (lv_at hl 1 rfl) ?_
        refine lv_iload hx hb dX6_cell_71 (lv_at hl 0 rfl) ?_
        refine roV CX hE hP (c_X6_now l G cA m pm ty z (ky * 10 + kx) (by omega)) (cwV 1 hts gX6_cell_X6_now rfl rfl rfl hdv_X6_now ⟨Nat.le_of_ble_eq_true rfl, Nat.le_of_ble_eq_true rfl⟩) [0, 1] rfl 0 rfl rfl rfl B0_blind (fun _ _ _ => trivial) rfl hl.1 (rest := []) rfl (Nat.le_of_ble_eq_true rfl) dX6_cell_73 ⟨Nat.zero_le _, Nat.zero_le _⟩ ?_
        refine lv_sipush (v := (nI 10000)) hx hb dX6_cell_76 ks_10000 ?_
        refine lv_iadd hx hb dX6_cell_79 ?_
        exact ro_ret CX hr hlk (by exact (congrArg (cellN z nd (ky * 10 + kx)) (tsel_in c_19 d_19 e_19)).symm) rfl dX6_cell_80
      | 2, _, e_19 =>
        refine lv_tableIn (tgt := 81) (off := 62) hx hb dX6_cell_19 (by omega) (by omega) (by rw [e_19]; rfl) (by decide) ?_
        refine lv_aload_n hx hb dX6_cell_81 rfl (lv_at hl 1 rfl) ?_
        refine rg (T := TX6) (N := 9) CX hE hP in_X6_cell_X6 0 rfl rfl 0 (by decide) fl_X6_cell_7 rfl rfl dX6_cell_82 ?_
        refine lv_bipush (v := (nI 125)) hx hb dX6_cell_85 kb_125 ?_
        refine lv_iload hx hb dX6_cell_87 (lv_at hl 0 rfl) ?_
        refine rn_iadd hx hb dX6_cell_89 ?_
        refine rn_iald CX hE hP 1 rfl (j := (125 + (ky * 10 + kx))) (by omega) (ltb rfl) dX6_cell_90 ?_
        refine lv_sipush (v := (nI 10000)) hx hb dX6_cell_91 ks_10000 ?_
        refine lv_iadd hx hb dX6_cell_94 ?_
        exact ro_ret CX hr hlk (by exact (congrArg (cellN z nd (ky * 10 + kx)) (tsel_in c_19 d_19 e_19)).symm) rfl dX6_cell_95
      | 3, _, e_19 =>
        refine lv_tableIn (tgt := 96) (off := 77) hx hb dX6_cell_19 (by omega) (by omega) (by rw [e_19]; rfl) (by decide) ?_
        refine lv_aload_n hx hb dX6_cell_96 rfl (lv_at hl 1 rfl) ?_
        refine lv_iload hx hb dX6_cell_97 (lv_at hl 0 rfl) ?_
        refine roV CX hE hP (c_X6_slope l G cA m pm ty z (ky * 10 + kx) (by omega)) (cwV 1 hts gX6_cell_X6_slope rfl rfl rfl hdv_X6_slope ⟨Nat.le_of_ble_eq_true rfl, Nat.le_of_ble_eq_true rfl⟩) [0, 1] rfl 0 rfl rfl rfl B0_blind (fun _ _ _ => trivial) rfl hl.1 (rest := []) rfl (Nat.le_of_ble_eq_true rfl) dX6_cell_99 ⟨Nat.zero_le _, Nat.zero_le _⟩ ?_
        refine lv_ldc (v := (100000)) hx hb hown (hts _ w_X6_cell_cn123) dX6_cell_102 ?_
        refine rn_top (nI 100000) kl_100000 ?_
        refine lv_iadd hx hb dX6_cell_104 ?_
        exact ro_ret CX hr hlk (by exact (congrArg (cellN z nd (ky * 10 + kx)) (tsel_in c_19 d_19 e_19)).symm) rfl dX6_cell_105
      | 4, _, e_19 =>
        refine lv_tableIn (tgt := 106) (off := 87) hx hb dX6_cell_19 (by omega) (by omega) (by rw [e_19]; rfl) (by decide) ?_
        refine lv_aload_n hx hb dX6_cell_106 rfl (lv_at hl 1 rfl) ?_
        refine lv_iload hx hb dX6_cell_107 (lv_at hl 0 rfl) ?_
        refine roV CX hE hP (c_X6_isWall l G cA m pm ty z (ky * 10 + kx) (by omega)) (cwV 1 hts gX6_cell_X6_isWall rfl rfl rfl hdv_X6_isWall ⟨Nat.le_of_ble_eq_true rfl, Nat.le_of_ble_eq_true rfl⟩) [0, 1] rfl 0 rfl rfl rfl B0_blind (fun _ _ _ => trivial) rfl hl.1 (rest := []) rfl (Nat.le_of_ble_eq_true rfl) dX6_cell_109 ⟨Nat.zero_le _, Nat.zero_le _⟩ ?_
        refine rb_if_ne hx hb dX6_cell_112 (by decide) (tgt := 124) (fun c_112 => ?_) (fun c_112 => ?_)
        · refine rn_iconst hx hb 1 rfl dX6_cell_124 ?_
          refine lv_goto (tgt := 129) hx hb dX6_cell_125 (by decide) ?_
          exact ro_ret CX hr hlk (by refine Eq.trans ?_ (congrArg (cellN z nd (ky * 10 + kx)) (tsel_in c_19 d_19 e_19)).symm; first | exact b2i_t (Or.inl c_112) | exact b2i_t (Or.inr c_121) | exact b2i_f (fun h => h.elim c_112 c_121)) rfl dX6_cell_129
        · refine lv_aload_n hx hb dX6_cell_115 rfl (lv_at hl 1 rfl) ?_
          refine lv_iload hx hb dX6_cell_116 (lv_at hl 0 rfl) ?_
          refine roV CX hE hP (c_X6_isStill l G cA m pm ty z (ky * 10 + kx) (by omega)) (cwV 1 hts gX6_cell_X6_isStill rfl rfl rfl hdv_X6_isStill ⟨Nat.le_of_ble_eq_true rfl, Nat.le_of_ble_eq_true rfl⟩) [0, 1] rfl 0 rfl rfl rfl B0_blind (fun _ _ _ => trivial) rfl hl.1 (rest := []) rfl (Nat.le_of_ble_eq_true rfl) dX6_cell_118 ⟨Nat.zero_le _, Nat.zero_le _⟩ ?_
          refine rb_if_eq hx hb dX6_cell_121 (by decide) (tgt := 128) (fun c_121 => ?_) (fun c_121 => ?_)
          · refine rn_iconst hx hb 0 rfl dX6_cell_128 ?_
            exact ro_ret CX hr hlk (by refine Eq.trans ?_ (congrArg (cellN z nd (ky * 10 + kx)) (tsel_in c_19 d_19 e_19)).symm; first | exact b2i_t (Or.inl c_112) | exact b2i_t (Or.inr c_121) | exact b2i_f (fun h => h.elim c_112 c_121)) rfl dX6_cell_129
          · refine rn_iconst hx hb 1 rfl dX6_cell_124 ?_
            refine lv_goto (tgt := 129) hx hb dX6_cell_125 (by decide) ?_
            exact ro_ret CX hr hlk (by refine Eq.trans ?_ (congrArg (cellN z nd (ky * 10 + kx)) (tsel_in c_19 d_19 e_19)).symm; first | exact b2i_t (Or.inl c_112) | exact b2i_t (Or.inr c_121) | exact b2i_f (fun h => h.elim c_112 c_121)) rfl dX6_cell_129
      | 5, _, e_19 =>
        refine lv_tableIn (tgt := 130) (off := 111) hx hb dX6_cell_19 (by omega) (by omega) (by rw [e_19]; rfl) (by decide) ?_
        refine lv_aload_n hx hb dX6_cell_130 rfl (lv_at hl 1 rfl) ?_
        refine rg (T := TX6) (N := 9) CX hE hP in_X6_cell_X6 0 rfl rfl 0 (by decide) fl_X6_cell_7 rfl rfl dX6_cell_131 ?_
        refine lv_sipush (v := (nI 185)) hx hb dX6_cell_134 ks_185 ?_
        refine lv_iload hx hb dX6_cell_137 (lv_at hl 0 rfl) ?_
        refine rn_iadd hx hb dX6_cell_139 ?_
        refine rn_iald CX hE hP 1 rfl (j := (185 + (ky * 10 + kx))) (by omega) (ltb rfl) dX6_cell_140 ?_
        exact ro_ret CX hr hlk (by exact (congrArg (cellN z nd (ky * 10 + kx)) (tsel_in c_19 d_19 e_19)).symm) rfl dX6_cell_141
      | 6, _, e_19 =>
        refine lv_tableIn (tgt := 142) (off := 123) hx hb dX6_cell_19 (by omega) (by omega) (by rw [e_19]; rfl) (by decide) ?_
        refine lv_aload_n hx hb dX6_cell_142 rfl (lv_at hl 1 rfl) ?_
        refine lv_iload hx hb dX6_cell_143 (lv_at hl 0 rfl) ?_
        refine roV CX hE hP (c_X6_dipperIn l G cA m pm ty z nd (ky * 10 + kx) (by omega) (by assumption)) (cwV 1 hts gX6_cell_X6_dipperIn rfl rfl rfl hdv_X6_dipperIn ⟨Nat.le_of_ble_eq_true rfl, Nat.le_of_ble_eq_true rfl⟩) [0, 1] rfl 0 rfl rfl rfl B0_blind (fun _ _ _ => trivial) rfl hl.1 (rest := []) rfl (Nat.le_of_ble_eq_true rfl) dX6_cell_145 ⟨Nat.zero_le _, Nat.zero_le _⟩ ?_
        exact ro_ret CX hr hlk (by exact (congrArg (cellN z nd (ky * 10 + kx)) (tsel_in c_19 d_19 e_19)).symm) rfl dX6_cell_148
      | k + 7, h, _ => exact absurd h (by omega)
  · exact absurd (cellP_of hkx hky) c_5
set_option maxHeartbeats 4000000 in
set_option maxRecDepth 100000 in
theorem c_X6_cell_e (l : Launch) (G : va_G) (cA : Nat → ClassId) (m : Nat → Nat) (pm : Nat) (ty : Nat) (z : Nat → Int32) (x : Int32) (y : Int32) (w : Int32) (hbad : ¬ cellP x y) : RO l yX6_cell wsX6_cell ({ frames := 2, cells := 0, slots := 0, locals := 43 }) G cA B0 [(m 0, .inr (6, [.ref (m 1), .ref (m 2), .ref (m 3), .ref (m 4), .int (nI pm), .ref (m 5), .ref (m 6), .int (nI ty), .ref (m 7)])), (m 1, .inl (cA 0, 345, .inl z))] [.ref (m 0), .int x, .int y, .int w] (-1) := by
  refine RO.mk (own := RX6) (by decide) rfl rfl (Nat.le_of_ble_eq_true rfl) (fun p_ e_ s_ m_ below meth c_ ls CX hr hlk hP hE hB hl => ?_)
  obtain ⟨hx, hb, hml, hown, hts⟩ := id CX
  have hl : lv_has ls 5 [(0, .ref (m 0)), (1, .int x), (2, .int y), (3, .int w)] := hl
  refine lv_iload_n hx hb dX6_cell_0 rfl (lv_at hl 1 rfl) ?_
  refine lv_iload_n hx hb dX6_cell_1 rfl (lv_at hl 2 rfl) ?_
  refine roS CX hE hP (c_X6_isCell l G cA x y ) (va_cwS 2 hts gX6_cell_X6_isCell rfl rfl rfl hdn_X6_isCell ⟨Nat.le_of_ble_eq_true rfl, Nat.le_of_ble_eq_true rfl⟩) [] rfl B0_blind (fun _ _ _ => trivial) rfl hl.1 (rest := []) rfl (Nat.le_of_ble_eq_true rfl) dX6_cell_2 ⟨Nat.zero_le _, Nat.zero_le _⟩ ?_
  refine rb_if_ne hx hb dX6_cell_5 (by decide) (tgt := 10) (fun c_5 => ?_) (fun c_5 => ?_)
  · exact absurd c_5 hbad
  · refine lv_iconst (v := (-1)) hx hb dX6_cell_8 (by decide) ?_
    exact ro_ret CX hr hlk rfl rfl dX6_cell_9
set_option maxHeartbeats 4000000 in
set_option maxRecDepth 100000 in
theorem c_X6_dipper_k (l : Launch) (G : va_G) (cA : Nat → ClassId) (m : Nat → Nat) (pm : Nat) (ty : Nat) (z : Nat → Int32) (d : Nat) (c : Nat) (w : Int32) (nd : Nat) (hd : d < nd) (hnd : nd ≤ 5) (hz : z 245 = nI nd) (hdc : z (246 + 4 * d) = nI c) (hc : c < 60) (hpe : ¬ z (246 + 4 * d + 1) = 0) : RO l yX6_dipper wsX6_dipper ({ frames := 2, cells := 0, slots := 0, locals := 43 }) G cA B0 [(m 0, .inr (6, [.ref (m 1), .ref (m 2), .ref (m 3), .ref (m 4), .int (nI pm), .ref (m 5), .ref (m 6), .int (nI ty), .ref (m 7)])), (m 1, .inl (cA 0, 345, .inl z))] [.ref (m 0), .int (nI d), .int w] (dipN z d c (tsel w 5)) := by
  refine RO.mk (own := RX6) (by decide) rfl rfl (Nat.le_of_ble_eq_true rfl) (fun p_ e_ s_ m_ below meth c_ ls CX hr hlk hP hE hB hl => ?_)
  obtain ⟨hx, hb, hml, hown, hts⟩ := id CX
  have hl : lv_has ls 3 [(0, .ref (m 0)), (1, .int (nI d)), (2, .int w)] := hl
  refine lv_aload_n hx hb dX6_dipper_0 rfl (lv_at hl 0 rfl) ?_
  refine lv_iload_n hx hb dX6_dipper_1 rfl (lv_at hl 1 rfl) ?_
  refine roV CX hE hP (c_X6_isDipper l G cA m pm ty z (nI d) ) (cwV 1 hts gX6_dipper_X6_isDipper rfl rfl rfl hdv_X6_isDipper ⟨Nat.le_of_ble_eq_true rfl, Nat.le_of_ble_eq_true rfl⟩) [0, 1] rfl 0 rfl rfl rfl B0_blind (fun _ _ _ => trivial) rfl hl.1 (rest := []) rfl (Nat.le_of_ble_eq_true rfl) dX6_dipper_2 ⟨Nat.zero_le _, Nat.zero_le _⟩ ?_
  refine rb_if_ne hx hb dX6_dipper_5 (by decide) (tgt := 10) (fun c_5 => ?_) (fun c_5 => ?_)
  · refine lv_iload_n hx hb dX6_dipper_10 rfl (lv_at hl 2 rfl) ?_
    rcases tsw_cases w (0) (5) with c_11 | ⟨c_11, d_11⟩
    · refine lv_tableOut (tgt := 91) hx hb dX6_dipper_11 c_11 (by decide) ?_
      refine lv_bipush (v := (-2)) hx hb dX6_dipper_91 kb_m2 ?_
      exact ro_ret CX hr hlk (by exact (congrArg (dipN z d c) (tsel_out c_11)).symm) rfl dX6_dipper_93
    · have e_11 := tsw_split w (0) 6 (by omega) (by omega)
      obtain ⟨k_11, hk_11, e_11⟩ := e_11
      match k_11, hk_11, e_11 with
      | 0, _, e_11 =>
        refine lv_tableIn (tgt := 48) (off := 37) hx hb dX6_dipper_11 (by omega) (by omega) (by rw [e_11]; rfl) (by decide) ?_
        refine lv_aload_n hx hb dX6_dipper_48 rfl (lv_at hl 0 rfl) ?_
        refine lv_iload_n hx hb dX6_dipper_49 rfl (lv_at hl 1 rfl) ?_
        refine rn_iconst hx hb 0 rfl dX6_dipper_50 ?_
        refine roV CX hE hP (c_X6_ofDipper l G cA m pm ty z d 0 (by omega) (by omega)) (cwV 2 hts gX6_dipper_X6_ofDipper rfl rfl rfl hdv_X6_ofDipper ⟨Nat.le_of_ble_eq_true rfl, Nat.le_of_ble_eq_true rfl⟩) [0, 1] rfl 0 rfl rfl rfl B0_blind (fun _ _ _ => trivial) rfl hl.1 (rest := []) rfl (Nat.le_of_ble_eq_true rfl) dX6_dipper_51 ⟨Nat.zero_le _, Nat.zero_le _⟩ ?_
        refine rn_top (nI c) hdc ?_
        refine lv_bipush (v := (nI 10)) hx hb dX6_dipper_54 kb_10 ?_
        refine rn_irem hx hb (by omega) (by omega) (by omega) dX6_dipper_56 ?_
        exact ro_ret CX hr hlk (by exact (congrArg (dipN z d c) (tsel_in c_11 d_11 e_11)).symm) rfl dX6_dipper_57
      | 1, _, e_11 =>
        refine lv_tableIn (tgt := 58) (off := 47) hx hb dX6_dipper_11 (by omega) (by omega) (by rw [e_11]; rfl) (by decide) ?_
        refine lv_aload_n hx hb dX6_dipper_58 rfl (lv_at hl 0 rfl) ?_
        refine lv_iload_n hx hb dX6_dipper_59 rfl (lv_at hl 1 rfl) ?_
        refine rn_iconst hx hb 0 rfl dX6_dipper_60 ?_
        refine roV CX hE hP (c_X6_ofDipper l G cA m pm ty z d 0 (by omega) (by omega)) (cwV 2 hts gX6_dipper_X6_ofDipper rfl rfl rfl hdv_X6_ofDipper ⟨Nat.le_of_ble_eq_true rfl, Nat.le_of_ble_eq_true rfl⟩) [0, 1] rfl 0 rfl rfl rfl B0_blind (fun _ _ _ => trivial) rfl hl.1 (rest := []) rfl (Nat.le_of_ble_eq_true rfl) dX6_dipper_61 ⟨Nat.zero_le _, Nat.zero_le _⟩ ?_
        refine rn_top (nI c) hdc ?_
        refine lv_bipush (v := (nI 10)) hx hb dX6_dipper_64 kb_10 ?_
        refine rn_idiv hx hb (by omega) (by omega) (by omega) dX6_dipper_66 ?_
        exact ro_ret CX hr hlk (by exact (congrArg (dipN z d c) (tsel_in c_11 d_11 e_11)).symm) rfl dX6_dipper_67
      | 2, _, e_11 =>
        refine lv_tableIn (tgt := 68) (off := 57) hx hb dX6_dipper_11 (by omega) (by omega) (by rw [e_11]; rfl) (by decide) ?_
        have w_ := tsw_eq c_11 e_11
        subst w_
        refine lv_aload_n hx hb dX6_dipper_68 rfl (lv_at hl 0 rfl) ?_
        refine lv_iload_n hx hb dX6_dipper_69 rfl (lv_at hl 1 rfl) ?_
        refine lv_iload_n hx hb dX6_dipper_70 rfl (lv_at hl 2 rfl) ?_
        refine rn_iconst hx hb 1 rfl dX6_dipper_71 ?_
        refine rn_isub hx hb (by omega) dX6_dipper_72 ?_
        refine roV CX hE hP (c_X6_ofDipper l G cA m pm ty z d 1 (by omega) (by omega)) (cwV 2 hts gX6_dipper_X6_ofDipper rfl rfl rfl hdv_X6_ofDipper ⟨Nat.le_of_ble_eq_true rfl, Nat.le_of_ble_eq_true rfl⟩) [0, 1] rfl 0 rfl rfl rfl B0_blind (fun _ _ _ => trivial) rfl hl.1 (rest := []) rfl (Nat.le_of_ble_eq_true rfl) dX6_dipper_73 ⟨Nat.zero_le _, Nat.zero_le _⟩ ?_
        exact ro_ret CX hr hlk (by exact (congrArg (dipN z d c) (tsel_in c_11 d_11 e_11)).symm) rfl dX6_dipper_76
      | 3, _, e_11 =>
        refine lv_tableIn (tgt := 68) (off := 57) hx hb dX6_dipper_11 (by omega) (by omega) (by rw [e_11]; rfl) (by decide) ?_
        have w_ := tsw_eq c_11 e_11
        subst w_
        refine lv_aload_n hx hb dX6_dipper_68 rfl (lv_at hl 0 rfl) ?_
        refine lv_iload_n hx hb dX6_dipper_69 rfl (lv_at hl 1 rfl) ?_
        refine lv_iload_n hx hb dX6_dipper_70 rfl (lv_at hl 2 rfl) ?_
        refine rn_iconst hx hb 1 rfl dX6_dipper_71 ?_
        refine rn_isub hx hb (by omega) dX6_dipper_72 ?_
        refine roV CX hE hP (c_X6_ofDipper l G cA m pm ty z d 2 (by omega) (by omega)) (cwV 2 hts gX6_dipper_X6_ofDipper rfl rfl rfl hdv_X6_ofDipper ⟨Nat.le_of_ble_eq_true rfl, Nat.le_of_ble_eq_true rfl⟩) [0, 1] rfl 0 rfl rfl rfl B0_blind (fun _ _ _ => trivial) rfl hl.1 (rest := []) rfl (Nat.le_of_ble_eq_true rfl) dX6_dipper_73 ⟨Nat.zero_le _, Nat.zero_le _⟩ ?_
        exact ro_ret CX hr hlk (by exact (congrArg (dipN z d c) (tsel_in c_11 d_11 e_11)).symm) rfl dX6_dipper_76
      | 4, _, e_11 =>
        refine lv_tableIn (tgt := 68) (off := 57) hx hb dX6_dipper_11 (by omega) (by omega) (by rw [e_11]; rfl) (by decide) ?_
        have w_ := tsw_eq c_11 e_11
        subst w_
        refine lv_aload_n hx hb dX6_dipper_68 rfl (lv_at hl 0 rfl) ?_
        refine lv_iload_n hx hb dX6_dipper_69 rfl (lv_at hl 1 rfl) ?_
        refine lv_iload_n hx hb dX6_dipper_70 rfl (lv_at hl 2 rfl) ?_
        refine rn_iconst hx hb 1 rfl dX6_dipper_71 ?_
        refine rn_isub hx hb (by omega) dX6_dipper_72 ?_
        refine roV CX hE hP (c_X6_ofDipper l G cA m pm ty z d 3 (by omega) (by omega)) (cwV 2 hts gX6_dipper_X6_ofDipper rfl rfl rfl hdv_X6_ofDipper ⟨Nat.le_of_ble_eq_true rfl, Nat.le_of_ble_eq_true rfl⟩) [0, 1] rfl 0 rfl rfl rfl B0_blind (fun _ _ _ => trivial) rfl hl.1 (rest := []) rfl (Nat.le_of_ble_eq_true rfl) dX6_dipper_73 ⟨Nat.zero_le _, Nat.zero_le _⟩ ?_
        exact ro_ret CX hr hlk (by exact (congrArg (dipN z d c) (tsel_in c_11 d_11 e_11)).symm) rfl dX6_dipper_76
      | 5, _, e_11 =>
        refine lv_tableIn (tgt := 77) (off := 66) hx hb dX6_dipper_11 (by omega) (by omega) (by rw [e_11]; rfl) (by decide) ?_
        refine lv_aload_n hx hb dX6_dipper_77 rfl (lv_at hl 0 rfl) ?_
        refine lv_iload_n hx hb dX6_dipper_78 rfl (lv_at hl 1 rfl) ?_
        refine roV CX hE hP (c_X6_isUp l G cA m pm ty z d (by omega) (by omega)) (cwV 1 hts gX6_dipper_X6_isUp rfl rfl rfl hdv_X6_isUp ⟨Nat.le_of_ble_eq_true rfl, Nat.le_of_ble_eq_true rfl⟩) [0, 1] rfl 0 rfl rfl rfl B0_blind (fun _ _ _ => trivial) rfl hl.1 (rest := []) rfl (Nat.le_of_ble_eq_true rfl) dX6_dipper_79 ⟨Nat.zero_le _, Nat.zero_le _⟩ ?_
        refine rb_if_eq hx hb dX6_dipper_82 (by decide) (tgt := 89) (fun c_82 => ?_) (fun c_82 => ?_)
        · refine rn_iconst hx hb 0 rfl dX6_dipper_89 ?_
          exact ro_ret CX hr hlk (by refine Eq.trans ?_ (congrArg (dipN z d c) (tsel_in c_11 d_11 e_11)).symm; first | exact b2i_t c_82 | exact b2i_f c_82) rfl dX6_dipper_90
        · refine rn_iconst hx hb 1 rfl dX6_dipper_85 ?_
          refine lv_goto (tgt := 90) hx hb dX6_dipper_86 (by decide) ?_
          exact ro_ret CX hr hlk (by refine Eq.trans ?_ (congrArg (dipN z d c) (tsel_in c_11 d_11 e_11)).symm; first | exact b2i_t c_82 | exact b2i_f c_82) rfl dX6_dipper_90
      | k + 6, h, _ => exact absurd h (by omega)
  · exact absurd (show 0 ≤ nI d ∧ nI d < z 245 by rw [hz]; exact inD_of hd (by omega)) c_5
set_option maxHeartbeats 4000000 in
set_option maxRecDepth 100000 in
theorem c_X6_dipper_e (l : Launch) (G : va_G) (cA : Nat → ClassId) (m : Nat → Nat) (pm : Nat) (ty : Nat) (z : Nat → Int32) (d : Int32) (w : Int32) (hbad : ¬ (0 ≤ d ∧ d < z 245)) : RO l yX6_dipper wsX6_dipper ({ frames := 1, cells := 0, slots := 0, locals := 21 }) G cA B0 [(m 0, .inr (6, [.ref (m 1), .ref (m 2), .ref (m 3), .ref (m 4), .int (nI pm), .ref (m 5), .ref (m 6), .int (nI ty), .ref (m 7)])), (m 1, .inl (cA 0, 345, .inl z))] [.ref (m 0), .int d, .int w] (-1) := by
  refine RO.mk (own := RX6) (by decide) rfl rfl (Nat.le_of_ble_eq_true rfl) (fun p_ e_ s_ m_ below meth c_ ls CX hr hlk hP hE hB hl => ?_)
  obtain ⟨hx, hb, hml, hown, hts⟩ := id CX
  have hl : lv_has ls 3 [(0, .ref (m 0)), (1, .int d), (2, .int w)] := hl
  refine lv_aload_n hx hb dX6_dipper_0 rfl (lv_at hl 0 rfl) ?_
  refine lv_iload_n hx hb dX6_dipper_1 rfl (lv_at hl 1 rfl) ?_
  refine roV CX hE hP (c_X6_isDipper l G cA m pm ty z d ) (cwV 1 hts gX6_dipper_X6_isDipper rfl rfl rfl hdv_X6_isDipper ⟨Nat.le_of_ble_eq_true rfl, Nat.le_of_ble_eq_true rfl⟩) [0, 1] rfl 0 rfl rfl rfl B0_blind (fun _ _ _ => trivial) rfl hl.1 (rest := []) rfl (Nat.le_of_ble_eq_true rfl) dX6_dipper_2 ⟨Nat.zero_le _, Nat.zero_le _⟩ ?_
  refine rb_if_ne hx hb dX6_dipper_5 (by decide) (tgt := 10) (fun c_5 => ?_) (fun c_5 => ?_)
  · exact absurd c_5 hbad
  · refine lv_iconst (v := (-1)) hx hb dX6_dipper_8 (by decide) ?_
    exact ro_ret CX hr hlk rfl rfl dX6_dipper_9
theorem hdv_X6_isProbe : yX6_isProbe.cls = RX6 ∧ yX6_isProbe.cls ≠ "java/lang/invoke/MethodHandle" ∧ yX6_isProbe.cls ≠ "java/lang/invoke/VarHandle" ∧ (parseMethodDescriptor yX6_isProbe.desc).map (fun d => d.parameters.length) = some 1 := by decide +kernel
theorem fl_X6_ofProbe_7 : Cond.fieldLink RX6 7 RX6 (TX6 0).2.1 (TX6 0).2.2.1 ∈ wsX6_ofProbe := by decide +kernel
theorem in_X6_ofProbe_X6 : ∀ w ∈ wsX60, w ∈ wsX6_ofProbe := by decide +kernel
theorem hdv_X6_beat : yX6_beat.cls = RX6 ∧ yX6_beat.cls ≠ "java/lang/invoke/MethodHandle" ∧ yX6_beat.cls ≠ "java/lang/invoke/VarHandle" ∧ (parseMethodDescriptor yX6_beat.desc).map (fun d => d.parameters.length) = some 1 := by decide +kernel
theorem hdv_X6_greatestSeen : yX6_greatestSeen.cls = RX6 ∧ yX6_greatestSeen.cls ≠ "java/lang/invoke/MethodHandle" ∧ yX6_greatestSeen.cls ≠ "java/lang/invoke/VarHandle" ∧ (parseMethodDescriptor yX6_greatestSeen.desc).map (fun d => d.parameters.length) = some 1 := by decide +kernel
set_option maxHeartbeats 4000000 in
set_option maxRecDepth 100000 in
theorem c_X6_ofProbe_k (l : Launch) (G : va_G) (cA : Nat → ClassId) (m : Nat → Nat) (pm : Nat) (ty : Nat) (z : Nat → Int32) (p : Nat) (c : Nat) (ln : Nat) (w : Int32) (np : Nat) (hp : p < np) (hnp : np ≤ 3) (hz2 : z 266 = nI np) (hpc : z (267 + 26 * p) = nI c) (hc : c < 60) (hln : z (267 + 26 * p + 1) = nI ln) (hl24 : ln ≤ 24) : RO l yX6_ofProbe wsX6_ofProbe ({ frames := 2, cells := 0, slots := 0, locals := 48 }) G cA B0 [(m 0, .inr (6, [.ref (m 1), .ref (m 2), .ref (m 3), .ref (m 4), .int (nI pm), .ref (m 5), .ref (m 6), .int (nI ty), .ref (m 7)])), (m 1, .inl (cA 0, 345, .inl z))] [.ref (m 0), .int (nI p), .int w] (ofpN z p c ln (tsel w 4)) := by
  refine RO.mk (own := RX6) (by decide) rfl rfl (Nat.le_of_ble_eq_true rfl) (fun p_ e_ s_ m_ below meth c_ ls CX hr hlk hP hE hB hl => ?_)
  obtain ⟨hx, hb, hml, hown, hts⟩ := id CX
  have hl : lv_has ls 4 [(0, .ref (m 0)), (1, .int (nI p)), (2, .int w)] := hl
  refine lv_aload_n hx hb dX6_ofProbe_0 rfl (lv_at hl 0 rfl) ?_
  refine lv_iload_n hx hb dX6_ofProbe_1 rfl (lv_at hl 1 rfl) ?_
  refine roV CX hE hP (c_X6_isProbe l G cA m pm ty z (nI p) ) (cwV 1 hts gX6_ofProbe_X6_isProbe rfl rfl rfl hdv_X6_isProbe ⟨Nat.le_of_ble_eq_true rfl, Nat.le_of_ble_eq_true rfl⟩) [0, 1] rfl 0 rfl rfl rfl B0_blind (fun _ _ _ => trivial) rfl hl.1 (rest := []) rfl (Nat.le_of_ble_eq_true rfl) dX6_ofProbe_2 ⟨Nat.zero_le _, Nat.zero_le _⟩ ?_
  refine rb_if_ne hx hb dX6_ofProbe_5 (by decide) (tgt := 10) (fun c_5 => ?_) (fun c_5 => ?_)
  · refine lv_aload_n hx hb dX6_ofProbe_10 rfl (lv_at hl 0 rfl) ?_
    refine rg (T := TX6) (N := 9) CX hE hP in_X6_ofProbe_X6 0 rfl rfl 0 (by decide) fl_X6_ofProbe_7 rfl rfl dX6_ofProbe_11 ?_
    refine lv_sipush (v := (nI 267)) hx hb dX6_ofProbe_14 ks_267 ?_
    refine lv_bipush (v := (nI 26)) hx hb dX6_ofProbe_17 kb_26 ?_
    refine lv_iload_n hx hb dX6_ofProbe_19 rfl (lv_at hl 1 rfl) ?_
    refine rn_imul hx hb dX6_ofProbe_20 ?_
    refine rn_iadd hx hb dX6_ofProbe_21 ?_
    refine rn_iald CX hE hP 1 rfl (j := (267 + (26 * p))) (by omega) (ltb rfl) dX6_ofProbe_22 ?_
    refine rn_top (nI c) hpc ?_
    refine lv_istore_n (lv' := [(3, .int (nI c)), (0, .ref (m 0)), (1, .int (nI p)), (2, .int w)]) hx hb dX6_ofProbe_23 rfl hl (by decide) rfl (fun ls hl => ?_)
    refine lv_iload_n hx hb dX6_ofProbe_24 rfl (lv_at hl 3 rfl) ?_
    rcases tsw_cases w (0) (4) with c_25 | ⟨c_25, d_25⟩
    · refine lv_tableOut (tgt := 88) hx hb dX6_ofProbe_25 c_25 (by decide) ?_
      refine lv_bipush (v := (-2)) hx hb dX6_ofProbe_88 kb_m2 ?_
      exact ro_ret CX hr hlk (by exact (congrArg (ofpN z p c ln) (tsel_out c_25)).symm) rfl dX6_ofProbe_90
    · have e_25 := tsw_split w (0) 5 (by omega) (by omega)
      obtain ⟨k_25, hk_25, e_25⟩ := e_25
      match k_25, hk_25, e_25 with
      | 0, _, e_25 =>
        refine lv_tableIn (tgt := 60) (off := 35) hx hb dX6_ofProbe_25 (by omega) (by omega) (by rw [e_25]; rfl) (by decide) ?_
        refine lv_iload_n hx hb dX6_ofProbe_60 rfl (lv_at hl 0 rfl) ?_
        refine lv_bipush (v := (nI 10)) hx hb dX6_ofProbe_61 kb_10 ?_
        refine rn_irem hx hb (by omega) (by omega) (by omega) dX6_ofProbe_63 ?_
        exact ro_ret CX hr hlk (by exact (congrArg (ofpN z p c ln) (tsel_in c_25 d_25 e_25)).symm) rfl dX6_ofProbe_64
      | 1, _, e_25 =>
        refine lv_tableIn (tgt := 65) (off := 40) hx hb dX6_ofProbe_25 (by omega) (by omega) (by rw [e_25]; rfl) (by decide) ?_
        refine lv_iload_n hx hb dX6_ofProbe_65 rfl (lv_at hl 0 rfl) ?_
        refine lv_bipush (v := (nI 10)) hx hb dX6_ofProbe_66 kb_10 ?_
        refine rn_idiv hx hb (by omega) (by omega) (by omega) dX6_ofProbe_68 ?_
        exact ro_ret CX hr hlk (by exact (congrArg (ofpN z p c ln) (tsel_in c_25 d_25 e_25)).symm) rfl dX6_ofProbe_69
      | 2, _, e_25 =>
        refine lv_tableIn (tgt := 70) (off := 45) hx hb dX6_ofProbe_25 (by omega) (by omega) (by rw [e_25]; rfl) (by decide) ?_
        refine lv_aload_n hx hb dX6_ofProbe_70 rfl (lv_at hl 1 rfl) ?_
        refine lv_iload_n hx hb dX6_ofProbe_71 rfl (lv_at hl 2 rfl) ?_
        refine roV CX hE hP (c_X6_seenMany l G cA m pm ty z p (by omega)) (cwV 1 hts gX6_ofProbe_X6_seenMany rfl rfl rfl hdv_X6_seenMany ⟨Nat.le_of_ble_eq_true rfl, Nat.le_of_ble_eq_true rfl⟩) [0, 1] rfl 0 rfl rfl rfl B0_blind (fun _ _ _ => trivial) rfl hl.1 (rest := []) rfl (Nat.le_of_ble_eq_true rfl) dX6_ofProbe_72 ⟨Nat.zero_le _, Nat.zero_le _⟩ ?_
        exact ro_ret CX hr hlk (by exact (congrArg (ofpN z p c ln) (tsel_in c_25 d_25 e_25)).symm) rfl dX6_ofProbe_75
      | 3, _, e_25 =>
        refine lv_tableIn (tgt := 76) (off := 51) hx hb dX6_ofProbe_25 (by omega) (by omega) (by rw [e_25]; rfl) (by decide) ?_
        refine lv_aload_n hx hb dX6_ofProbe_76 rfl (lv_at hl 1 rfl) ?_
        refine lv_iload_n hx hb dX6_ofProbe_77 rfl (lv_at hl 2 rfl) ?_
        refine roV CX hE hP (c_X6_beat l G cA m pm ty z p (by omega)) (cwV 1 hts gX6_ofProbe_X6_beat rfl rfl rfl hdv_X6_beat ⟨Nat.le_of_ble_eq_true rfl, Nat.le_of_ble_eq_true rfl⟩) [0, 1] rfl 0 rfl rfl rfl B0_blind (fun _ _ _ => trivial) rfl hl.1 (rest := []) rfl (Nat.le_of_ble_eq_true rfl) dX6_ofProbe_78 ⟨Nat.zero_le _, Nat.zero_le _⟩ ?_
        exact ro_ret CX hr hlk (by exact (congrArg (ofpN z p c ln) (tsel_in c_25 d_25 e_25)).symm) rfl dX6_ofProbe_81
      | 4, _, e_25 =>
        refine lv_tableIn (tgt := 82) (off := 57) hx hb dX6_ofProbe_25 (by omega) (by omega) (by rw [e_25]; rfl) (by decide) ?_
        refine lv_aload_n hx hb dX6_ofProbe_82 rfl (lv_at hl 1 rfl) ?_
        refine lv_iload_n hx hb dX6_ofProbe_83 rfl (lv_at hl 2 rfl) ?_
        refine roV CX hE hP (c_X6_greatestSeen l G cA m pm ty z p ln (by omega) (by assumption) (by omega)) (cwV 1 hts gX6_ofProbe_X6_greatestSeen rfl rfl rfl hdv_X6_greatestSeen ⟨Nat.le_of_ble_eq_true rfl, Nat.le_of_ble_eq_true rfl⟩) [0, 1] rfl 0 rfl rfl rfl B0_blind (fun _ _ _ => trivial) rfl hl.1 (rest := []) rfl (Nat.le_of_ble_eq_true rfl) dX6_ofProbe_84 ⟨Nat.zero_le _, Nat.zero_le _⟩ ?_
        exact ro_ret CX hr hlk (by exact (congrArg (ofpN z p c ln) (tsel_in c_25 d_25 e_25)).symm) rfl dX6_ofProbe_87
      | k + 5, h, _ => exact absurd h (by omega)
  · exact absurd (show 0 ≤ nI p ∧ nI p < z 266 by rw [hz2]; exact inD_of hp (by omega)) c_5
set_option maxHeartbeats 4000000 in
set_option maxRecDepth 100000 in
theorem c_X6_ofProbe_e (l : Launch) (G : va_G) (cA : Nat → ClassId) (m : Nat → Nat) (pm : Nat) (ty : Nat) (z : Nat → Int32) (p : Int32) (w : Int32) (hbad : ¬ (0 ≤ p ∧ p < z 266)) : RO l yX6_ofProbe wsX6_ofProbe ({ frames := 1, cells := 0, slots := 0, locals := 21 }) G cA B0 [(m 0, .inr (6, [.ref (m 1), .ref (m 2), .ref (m 3), .ref (m 4), .int (nI pm), .ref (m 5), .ref (m 6), .int (nI ty), .ref (m 7)])), (m 1, .inl (cA 0, 345, .inl z))] [.ref (m 0), .int p, .int w] (-1) := by
  refine RO.mk (own := RX6) (by decide) rfl rfl (Nat.le_of_ble_eq_true rfl) (fun p_ e_ s_ m_ below meth c_ ls CX hr hlk hP hE hB hl => ?_)
  obtain ⟨hx, hb, hml, hown, hts⟩ := id CX
  have hl : lv_has ls 4 [(0, .ref (m 0)), (1, .int p), (2, .int w)] := hl
  refine lv_aload_n hx hb dX6_ofProbe_0 rfl (lv_at hl 0 rfl) ?_
  refine lv_iload_n hx hb dX6_ofProbe_1 rfl (lv_at hl 1 rfl) ?_
  refine roV CX hE hP (c_X6_isProbe l G cA m pm ty z p ) (cwV 1 hts gX6_ofProbe_X6_isProbe rfl rfl rfl hdv_X6_isProbe ⟨Nat.le_of_ble_eq_true rfl, Nat.le_of_ble_eq_true rfl⟩) [0, 1] rfl 0 rfl rfl rfl B0_blind (fun _ _ _ => trivial) rfl hl.1 (rest := []) rfl (Nat.le_of_ble_eq_true rfl) dX6_ofProbe_2 ⟨Nat.zero_le _, Nat.zero_le _⟩ ?_
  refine rb_if_ne hx hb dX6_ofProbe_5 (by decide) (tgt := 10) (fun c_5 => ?_) (fun c_5 => ?_)
  · exact absurd c_5 hbad
  · refine lv_iconst (v := (-1)) hx hb dX6_ofProbe_8 (by decide) ?_
    exact ro_ret CX hr hlk rfl rfl dX6_ofProbe_9
set_option maxHeartbeats 4000000 in
set_option maxRecDepth 100000 in
theorem c_X6_seen_k (l : Launch) (G : va_G) (cA : Nat → ClassId) (m : Nat → Nat) (pm : Nat) (ty : Nat) (z : Nat → Int32) (p : Nat) (g : Nat) (ln : Nat) (np : Nat) (hp : p < np) (hnp : np ≤ 3) (hz2 : z 266 = nI np) (hln : z (267 + 26 * p + 1) = nI ln) (hl24 : ln ≤ 24) (hg : g < ln) : RO l yX6_seen wsX6_seen ({ frames := 1, cells := 0, slots := 0, locals := 22 }) G cA B0 [(m 0, .inr (6, [.ref (m 1), .ref (m 2), .ref (m 3), .ref (m 4), .int (nI pm), .ref (m 5), .ref (m 6), .int (nI ty), .ref (m 7)])), (m 1, .inl (cA 0, 345, .inl z))] [.ref (m 0), .int (nI p), .int (nI g)] (z (267 + 26 * p + 2 + g) + nI 10000) := by
  refine RO.mk (own := RX6) (by decide) rfl rfl (Nat.le_of_ble_eq_true rfl) (fun p_ e_ s_ m_ below meth c_ ls CX hr hlk hP hE hB hl => ?_)
  obtain ⟨hx, hb, hml, hown, hts⟩ := id CX
  have hl : lv_has ls 3 [(0, .ref (m 0)), (1, .int (nI p)), (2, .int (nI g))] := hl
  refine lv_aload_n hx hb dX6_seen_0 rfl (lv_at hl 0 rfl) ?_
  refine lv_iload_n hx hb dX6_seen_1 rfl (lv_at hl 1 rfl) ?_
  refine roV CX hE hP (c_X6_isProbe l G cA m pm ty z (nI p) ) (cwV 1 hts gX6_seen_X6_isProbe rfl rfl rfl hdv_X6_isProbe ⟨Nat.le_of_ble_eq_true rfl, Nat.le_of_ble_eq_true rfl⟩) [0, 1] rfl 0 rfl rfl rfl B0_blind (fun _ _ _ => trivial) rfl hl.1 (rest := []) rfl (Nat.le_of_ble_eq_true rfl) dX6_seen_2 ⟨Nat.zero_le _, Nat.zero_le _⟩ ?_
  refine rb_if_eq hx hb dX6_seen_5 (by decide) (tgt := 36) (fun c_5 => ?_) (fun c_5 => ?_)
  · exact absurd (show 0 ≤ nI p ∧ nI p < z 266 by rw [hz2]; exact inD_of hp (by omega)) c_5
  · refine lv_iload_n hx hb dX6_seen_8 rfl (lv_at hl 2 rfl) ?_
    refine rn_iconst hx hb 0 rfl dX6_seen_9 ?_
    refine lv_aload_n hx hb dX6_seen_10 rfl (lv_at hl 0 rfl) ?_
    refine lv_iload_n hx hb dX6_seen_11 rfl (lv_at hl 1 rfl) ?_
    refine roV CX hE hP (c_X6_seenMany l G cA m pm ty z p (by omega)) (cwV 1 hts gX6_seen_X6_seenMany rfl rfl rfl hdv_X6_seenMany ⟨Nat.le_of_ble_eq_true rfl, Nat.le_of_ble_eq_true rfl⟩) [0, 1] rfl 0 rfl rfl rfl B0_blind (fun _ _ _ => trivial) rfl hl.1 (rest := [.int (nI 0), .int (nI g)]) rfl (Nat.le_of_ble_eq_true rfl) dX6_seen_12 ⟨Nat.zero_le _, Nat.zero_le _⟩ ?_
    refine rn_top (nI ln) hln ?_
    refine rn_iconst hx hb 1 rfl dX6_seen_15 ?_
    refine rn_isub hx hb (by omega) dX6_seen_16 ?_
    refine roS CX hE hP (c_X6_in l G cA (nI g) (nI 0) (nI (ln - 1)) ) (va_cwS 3 hts gX6_seen_X6_in rfl rfl rfl hdn_X6_in ⟨Nat.le_of_ble_eq_true rfl, Nat.le_of_ble_eq_true rfl⟩) [] rfl B0_blind (fun _ _ _ => trivial) rfl hl.1 (rest := []) rfl (Nat.le_of_ble_eq_true rfl) dX6_seen_17 ⟨Nat.zero_le _, Nat.zero_le _⟩ ?_
    refine rb_if_eq hx hb dX6_seen_20 (by decide) (tgt := 36) (fun c_20 => ?_) (fun c_20 => ?_)
    · exact absurd (inP_nI (Nat.zero_le _) (by omega) (by omega)) c_20
    · refine lv_aload_n hx hb dX6_seen_23 rfl (lv_at hl 0 rfl) ?_
      refine lv_iload_n hx hb dX6_seen_24 rfl (lv_at hl 1 rfl) ?_
      refine lv_iload_n hx hb dX6_seen_25 rfl (lv_at hl 2 rfl) ?_
      refine roV CX hE hP (c_X6_seenBy l G cA m pm ty z p g (by omega) (by omega)) (cwV 2 hts gX6_seen_X6_seenBy rfl rfl rfl hdv_X6_seenBy ⟨Nat.le_of_ble_eq_true rfl, Nat.le_of_ble_eq_true rfl⟩) [0, 1] rfl 0 rfl rfl rfl B0_blind (fun _ _ _ => trivial) rfl hl.1 (rest := []) rfl (Nat.le_of_ble_eq_true rfl) dX6_seen_26 ⟨Nat.zero_le _, Nat.zero_le _⟩ ?_
      refine lv_sipush (v := (nI 10000)) hx hb dX6_seen_29 ks_10000 ?_
      refine lv_iadd hx hb dX6_seen_32 ?_
      refine lv_goto (tgt := 37) hx hb dX6_seen_33 (by decide) ?_
      exact ro_ret CX hr hlk rfl rfl dX6_seen_37
set_option maxHeartbeats 4000000 in
set_option maxRecDepth 100000 in
theorem c_X6_seen_e (l : Launch) (G : va_G) (cA : Nat → ClassId) (m : Nat → Nat) (pm : Nat) (ty : Nat) (z : Nat → Int32) (p : Int32) (g : Int32) (np : Nat) (hnp : np ≤ 3) (hz2 : z 266 = nI np) (hbad : ∀ i, i < np → p = nI i → ¬ inP g (nI 0) (z (267 + 26 * i + 1) - nI 1)) : RO l yX6_seen wsX6_seen ({ frames := 1, cells := 0, slots := 0, locals := 22 }) G cA B0 [(m 0, .inr (6, [.ref (m 1), .ref (m 2), .ref (m 3), .ref (m 4), .int (nI pm), .ref (m 5), .ref (m 6), .int (nI ty), .ref (m 7)])), (m 1, .inl (cA 0, 345, .inl z))] [.ref (m 0), .int p, .int g] (-1) := by
  refine RO.mk (own := RX6) (by decide) rfl rfl (Nat.le_of_ble_eq_true rfl) (fun p_ e_ s_ m_ below meth c_ ls CX hr hlk hP hE hB hl => ?_)
  obtain ⟨hx, hb, hml, hown, hts⟩ := id CX
  have hl : lv_has ls 3 [(0, .ref (m 0)), (1, .int p), (2, .int g)] := hl
  refine lv_aload_n hx hb dX6_seen_0 rfl (lv_at hl 0 rfl) ?_
  refine lv_iload_n hx hb dX6_seen_1 rfl (lv_at hl 1 rfl) ?_
  refine roV CX hE hP (c_X6_isProbe l G cA m pm ty z p ) (cwV 1 hts gX6_seen_X6_isProbe rfl rfl rfl hdv_X6_isProbe ⟨Nat.le_of_ble_eq_true rfl, Nat.le_of_ble_eq_true rfl⟩) [0, 1] rfl 0 rfl rfl rfl B0_blind (fun _ _ _ => trivial) rfl hl.1 (rest := []) rfl (Nat.le_of_ble_eq_true rfl) dX6_seen_2 ⟨Nat.zero_le _, Nat.zero_le _⟩ ?_
  refine rb_if_eq hx hb dX6_seen_5 (by decide) (tgt := 36) (fun c_5 => ?_) (fun c_5 => ?_)
  · refine lv_iconst (v := (-1)) hx hb dX6_seen_36 (by decide) ?_
    exact ro_ret CX hr hlk rfl rfl dX6_seen_37
  · obtain ⟨i, hi, ei⟩ := inD_nat (by rw [← hz2]; exact c_5) (by omega)
    subst ei
    refine lv_iload_n hx hb dX6_seen_8 rfl (lv_at hl 2 rfl) ?_
    refine rn_iconst hx hb 0 rfl dX6_seen_9 ?_
    refine lv_aload_n hx hb dX6_seen_10 rfl (lv_at hl 0 rfl) ?_
    refine lv_iload_n hx hb dX6_seen_11 rfl (lv_at hl 1 rfl) ?_
    refine roV CX hE hP (c_X6_seenMany l G cA m pm ty z i (by omega)) (cwV 1 hts gX6_seen_X6_seenMany rfl rfl rfl hdv_X6_seenMany ⟨Nat.le_of_ble_eq_true rfl, Nat.le_of_ble_eq_true rfl⟩) [0, 1] rfl 0 rfl rfl rfl B0_blind (fun _ _ _ => trivial) rfl hl.1 (rest := [.int (nI 0), .int g]) rfl (Nat.le_of_ble_eq_true rfl) dX6_seen_12 ⟨Nat.zero_le _, Nat.zero_le _⟩ ?_
    refine rn_iconst hx hb 1 rfl dX6_seen_15 ?_
    refine lv_isub hx hb dX6_seen_16 ?_
    refine roS CX hE hP (c_X6_in l G cA g (nI 0) ((z (267 + 26 * i + 1)) - (nI 1)) ) (va_cwS 3 hts gX6_seen_X6_in rfl rfl rfl hdn_X6_in ⟨Nat.le_of_ble_eq_true rfl, Nat.le_of_ble_eq_true rfl⟩) [] rfl B0_blind (fun _ _ _ => trivial) rfl hl.1 (rest := []) rfl (Nat.le_of_ble_eq_true rfl) dX6_seen_17 ⟨Nat.zero_le _, Nat.zero_le _⟩ ?_
    refine rb_if_eq hx hb dX6_seen_20 (by decide) (tgt := 36) (fun c_20 => ?_) (fun c_20 => ?_)
    · refine lv_iconst (v := (-1)) hx hb dX6_seen_36 (by decide) ?_
      exact ro_ret CX hr hlk rfl rfl dX6_seen_37
    · exact absurd c_20 (hbad i hi rfl)
theorem fl_X6_count_7 : Cond.fieldLink RX6 7 RX6 (TX6 0).2.1 (TX6 0).2.2.1 ∈ wsX6_count := by decide +kernel
theorem in_X6_count_X6 : ∀ w ∈ wsX60, w ∈ wsX6_count := by decide +kernel
theorem hdv_X6_sum : yX6_sum.cls = RX6 ∧ yX6_sum.cls ≠ "java/lang/invoke/MethodHandle" ∧ yX6_sum.cls ≠ "java/lang/invoke/VarHandle" ∧ (parseMethodDescriptor yX6_sum.desc).map (fun d => d.parameters.length) = some 0 := by decide +kernel
theorem w_X6_count_cn148 : Cond.constant RX6 148 (1000000) ∈ wsX6_count := by decide +kernel
theorem kl_1000000 : (1000000 : Int32) = (nI 1000000) := by decide +kernel
theorem hdv_X6_greatest : yX6_greatest.cls = RX6 ∧ yX6_greatest.cls ≠ "java/lang/invoke/MethodHandle" ∧ yX6_greatest.cls ≠ "java/lang/invoke/VarHandle" ∧ (parseMethodDescriptor yX6_greatest.desc).map (fun d => d.parameters.length) = some 0 := by decide +kernel
theorem hdv_X6_come : yX6_come.cls = RX6 ∧ yX6_come.cls ≠ "java/lang/invoke/MethodHandle" ∧ yX6_come.cls ≠ "java/lang/invoke/VarHandle" ∧ (parseMethodDescriptor yX6_come.desc).map (fun d => d.parameters.length) = some 0 := by decide +kernel
theorem fl_X6_count_79 : Cond.fieldLink RX6 79 RX6 (TX6 7).2.1 (TX6 7).2.2.1 ∈ wsX6_count := by decide +kernel
theorem fl_X6_count_40 : Cond.fieldLink RX6 40 RX6 (TX6 4).2.1 (TX6 4).2.2.1 ∈ wsX6_count := by decide +kernel
set_option maxHeartbeats 4000000 in
set_option maxRecDepth 100000 in
theorem c_X6_count (l : Launch) (G : va_G) (cA : Nat → ClassId) (m : Nat → Nat) (pm : Nat) (ty : Nat) (z : Nat → Int32) (w : Int32)  : RO l yX6_count wsX6_count ({ frames := 3, cells := 0, slots := 0, locals := 64 }) G cA B0 [(m 0, .inr (6, [.ref (m 1), .ref (m 2), .ref (m 3), .ref (m 4), .int (nI pm), .ref (m 5), .ref (m 6), .int (nI ty), .ref (m 7)])), (m 1, .inl (cA 0, 345, .inl z))] [.ref (m 0), .int w] (cntN z pm ty (tsel w 14)) := by
  refine RO.mk (own := RX6) (by decide) rfl rfl (Nat.le_of_ble_eq_true rfl) (fun p_ e_ s_ m_ below meth c_ ls CX hr hlk hP hE hB hl => ?_)
  obtain ⟨hx, hb, hml, hown, hts⟩ := id CX
  have hl : lv_has ls 2 [(0, .ref (m 0)), (1, .int w)] := hl
  refine lv_iload_n hx hb dX6_count_0 rfl (lv_at hl 1 rfl) ?_
  rcases tsw_cases w (0) (14) with c_1 | ⟨c_1, d_1⟩
  · refine lv_tableOut (tgt := 154) hx hb dX6_count_1 c_1 (by decide) ?_
    refine lv_bipush (v := (-2)) hx hb dX6_count_154 kb_m2 ?_
    exact ro_ret CX hr hlk (by exact (congrArg (cntN z pm ty) (tsel_out c_1)).symm) rfl dX6_count_156
  · have e_1 := tsw_split w (0) 15 (by omega) (by omega)
    obtain ⟨k_1, hk_1, e_1⟩ := e_1
    match k_1, hk_1, e_1 with
    | 0, _, e_1 =>
      refine lv_tableIn (tgt := 76) (off := 75) hx hb dX6_count_1 (by omega) (by omega) (by rw [e_1]; rfl) (by decide) ?_
      refine lv_aload_n hx hb dX6_count_76 rfl (lv_at hl 0 rfl) ?_
      refine rg (T := TX6) (N := 9) CX hE hP in_X6_count_X6 0 rfl rfl 0 (by decide) fl_X6_count_7 rfl rfl dX6_count_77 ?_
      refine rn_iconst hx hb 4 rfl dX6_count_80 ?_
      refine rn_iald CX hE hP 1 rfl (j := 4) (by omega) (ltb rfl) dX6_count_81 ?_
      exact ro_ret CX hr hlk (by exact (congrArg (cntN z pm ty) (tsel_in c_1 d_1 e_1)).symm) rfl dX6_count_82
    | 1, _, e_1 =>
      refine lv_tableIn (tgt := 83) (off := 82) hx hb dX6_count_1 (by omega) (by omega) (by rw [e_1]; rfl) (by decide) ?_
      refine lv_aload_n hx hb dX6_count_83 rfl (lv_at hl 0 rfl) ?_
      refine roV CX hE hP (c_X6_water l G cA m pm ty z ) (cwV 0 hts gX6_count_X6_water rfl rfl rfl hdv_X6_water ⟨Nat.le_of_ble_eq_true rfl, Nat.le_of_ble_eq_true rfl⟩) [0, 1] rfl 0 rfl rfl rfl B0_blind (fun _ _ _ => trivial) rfl hl.1 (rest := []) rfl (Nat.le_of_ble_eq_true rfl) dX6_count_84 ⟨Nat.zero_le _, Nat.zero_le _⟩ ?_
      exact ro_ret CX hr hlk (by exact (congrArg (cntN z pm ty) (tsel_in c_1 d_1 e_1)).symm) rfl dX6_count_87
    | 2, _, e_1 =>
      refine lv_tableIn (tgt := 88) (off := 87) hx hb dX6_count_1 (by omega) (by omega) (by rw [e_1]; rfl) (by decide) ?_
      refine lv_aload_n hx hb dX6_count_88 rfl (lv_at hl 0 rfl) ?_
      refine roV CX hE hP (c_X6_stillOnes l G cA m pm ty z ) (cwV 0 hts gX6_count_X6_stillOnes rfl rfl rfl hdv_X6_stillOnes ⟨Nat.le_of_ble_eq_true rfl, Nat.le_of_ble_eq_true rfl⟩) [0, 1] rfl 0 rfl rfl rfl B0_blind (fun _ _ _ => trivial) rfl hl.1 (rest := []) rfl (Nat.le_of_ble_eq_true rfl) dX6_count_89 ⟨Nat.zero_le _, Nat.zero_le _⟩ ?_
      exact ro_ret CX hr hlk (by exact (congrArg (cntN z pm ty) (tsel_in c_1 d_1 e_1)).symm) rfl dX6_count_92
    | 3, _, e_1 =>
      refine lv_tableIn (tgt := 93) (off := 92) hx hb dX6_count_1 (by omega) (by omega) (by rw [e_1]; rfl) (by decide) ?_
      refine lv_aload_n hx hb dX6_count_93 rfl (lv_at hl 0 rfl) ?_
      refine roV CX hE hP (c_X6_sum l G cA m pm ty z ) (cwV 0 hts gX6_count_X6_sum rfl rfl rfl hdv_X6_sum ⟨Nat.le_of_ble_eq_true rfl, Nat.le_of_ble_eq_true rfl⟩) [0, 1] rfl 0 rfl rfl rfl B0_blind (fun _ _ _ => trivial) rfl hl.1 (rest := []) rfl (Nat.le_of_ble_eq_true rfl) dX6_count_94 ⟨Nat.zero_le _, Nat.zero_le _⟩ ?_
      refine lv_ldc (v := (1000000)) hx hb hown (hts _ w_X6_count_cn148) dX6_count_97 ?_
      refine rn_top (nI 1000000) kl_1000000 ?_
      refine lv_iadd hx hb dX6_count_99 ?_
      exact ro_ret CX hr hlk (by exact (congrArg (cntN z pm ty) (tsel_in c_1 d_1 e_1)).symm) rfl dX6_count_100
    | 4, _, e_1 =>
      refine lv_tableIn (tgt := 101) (off := 100) hx hb dX6_count_1 (by omega) (by omega) (by rw [e_1]; rfl) (by decide) ?_
      refine lv_aload_n hx hb dX6_count_101 rfl (lv_at hl 0 rfl) ?_
      refine roV CX hE hP (c_X6_allSizes l G cA m pm ty z ) (cwV 0 hts gX6_count_X6_allSizes rfl rfl rfl hdv_X6_allSizes ⟨Nat.le_of_ble_eq_true rfl, Nat.le_of_ble_eq_true rfl⟩) [0, 1] rfl 0 rfl rfl rfl B0_blind (fun _ _ _ => trivial) rfl hl.1 (rest := []) rfl (Nat.le_of_ble_eq_true rfl) dX6_count_102 ⟨Nat.zero_le _, Nat.zero_le _⟩ ?_
      exact ro_ret CX hr hlk (by exact (congrArg (cntN z pm ty) (tsel_in c_1 d_1 e_1)).symm) rfl dX6_count_105
    | 5, _, e_1 =>
      refine lv_tableIn (tgt := 106) (off := 105) hx hb dX6_count_1 (by omega) (by omega) (by rw [e_1]; rfl) (by decide) ?_
      refine lv_aload_n hx hb dX6_count_106 rfl (lv_at hl 0 rfl) ?_
      refine roV CX hE hP (c_X6_greatest l G cA m pm ty z ) (cwV 0 hts gX6_count_X6_greatest rfl rfl rfl hdv_X6_greatest ⟨Nat.le_of_ble_eq_true rfl, Nat.le_of_ble_eq_true rfl⟩) [0, 1] rfl 0 rfl rfl rfl B0_blind (fun _ _ _ => trivial) rfl hl.1 (rest := []) rfl (Nat.le_of_ble_eq_true rfl) dX6_count_107 ⟨Nat.zero_le _, Nat.zero_le _⟩ ?_
      exact ro_ret CX hr hlk (by exact (congrArg (cntN z pm ty) (tsel_in c_1 d_1 e_1)).symm) rfl dX6_count_110
    | 6, _, e_1 =>
      refine lv_tableIn (tgt := 111) (off := 110) hx hb dX6_count_1 (by omega) (by omega) (by rw [e_1]; rfl) (by decide) ?_
      refine lv_aload_n hx hb dX6_count_111 rfl (lv_at hl 0 rfl) ?_
      refine roV CX hE hP (c_X6_come l G cA m pm ty z ) (cwV 0 hts gX6_count_X6_come rfl rfl rfl hdv_X6_come ⟨Nat.le_of_ble_eq_true rfl, Nat.le_of_ble_eq_true rfl⟩) [0, 1] rfl 0 rfl rfl rfl B0_blind (fun _ _ _ => trivial) rfl hl.1 (rest := []) rfl (Nat.le_of_ble_eq_true rfl) dX6_count_112 ⟨Nat.zero_le _, Nat.zero_le _⟩ ?_
      exact ro_ret CX hr hlk (by exact (congrArg (cntN z pm ty) (tsel_in c_1 d_1 e_1)).symm) rfl dX6_count_115
    | 7, _, e_1 =>
      refine lv_tableIn (tgt := 116) (off := 115) hx hb dX6_count_1 (by omega) (by omega) (by rw [e_1]; rfl) (by decide) ?_
      refine lv_aload_n hx hb dX6_count_116 rfl (lv_at hl 0 rfl) ?_
      refine rg (T := TX6) (N := 9) CX hE hP in_X6_count_X6 0 rfl rfl 0 (by decide) fl_X6_count_7 rfl rfl dX6_count_117 ?_
      refine lv_sipush (v := (nI 245)) hx hb dX6_count_120 ks_245 ?_
      refine rn_iald CX hE hP 1 rfl (j := 245) (by omega) (ltb rfl) dX6_count_123 ?_
      exact ro_ret CX hr hlk (by exact (congrArg (cntN z pm ty) (tsel_in c_1 d_1 e_1)).symm) rfl dX6_count_124
    | 8, _, e_1 =>
      refine lv_tableIn (tgt := 125) (off := 124) hx hb dX6_count_1 (by omega) (by omega) (by rw [e_1]; rfl) (by decide) ?_
      refine lv_aload_n hx hb dX6_count_125 rfl (lv_at hl 0 rfl) ?_
      refine rg (T := TX6) (N := 9) CX hE hP in_X6_count_X6 0 rfl rfl 0 (by decide) fl_X6_count_7 rfl rfl dX6_count_126 ?_
      refine lv_sipush (v := (nI 266)) hx hb dX6_count_129 ks_266 ?_
      refine rn_iald CX hE hP 1 rfl (j := 266) (by omega) (ltb rfl) dX6_count_132 ?_
      exact ro_ret CX hr hlk (by exact (congrArg (cntN z pm ty) (tsel_in c_1 d_1 e_1)).symm) rfl dX6_count_133
    | 9, _, e_1 =>
      refine lv_tableIn (tgt := 134) (off := 133) hx hb dX6_count_1 (by omega) (by omega) (by rw [e_1]; rfl) (by decide) ?_
      have w_ := tsw_eq c_1 e_1
      subst w_
      refine lv_aload_n hx hb dX6_count_134 rfl (lv_at hl 0 rfl) ?_
      refine rg (T := TX6) (N := 9) CX hE hP in_X6_count_X6 0 rfl rfl 0 (by decide) fl_X6_count_7 rfl rfl dX6_count_135 ?_
      refine lv_iload_n hx hb dX6_count_138 rfl (lv_at hl 1 rfl) ?_
      refine lv_bipush (v := (nI 9)) hx hb dX6_count_139 kb_9 ?_
      refine rn_isub hx hb (by omega) dX6_count_141 ?_
      refine rn_iald CX hE hP 1 rfl (j := 0) (by omega) (ltb rfl) dX6_count_142 ?_
      exact ro_ret CX hr hlk (by exact (congrArg (cntN z pm ty) (tsel_in c_1 d_1 e_1)).symm) rfl dX6_count_143
    | 10, _, e_1 =>
      refine lv_tableIn (tgt := 134) (off := 133) hx hb dX6_count_1 (by omega) (by omega) (by rw [e_1]; rfl) (by decide) ?_
      have w_ := tsw_eq c_1 e_1
      subst w_
      refine lv_aload_n hx hb dX6_count_134 rfl (lv_at hl 0 rfl) ?_
      refine rg (T := TX6) (N := 9) CX hE hP in_X6_count_X6 0 rfl rfl 0 (by decide) fl_X6_count_7 rfl rfl dX6_count_135 ?_
      refine lv_iload_n hx hb dX6_count_138 rfl (lv_at hl 1 rfl) ?_
      refine lv_bipush (v := (nI 9)) hx hb dX6_count_139 kb_9 ?_
      refine rn_isub hx hb (by omega) dX6_count_141 ?_
      refine rn_iald CX hE hP 1 rfl (j := 1) (by omega) (ltb rfl) dX6_count_142 ?_
      exact ro_ret CX hr hlk (by exact (congrArg (cntN z pm ty) (tsel_in c_1 d_1 e_1)).symm) rfl dX6_count_143
    | 11, _, e_1 =>
      refine lv_tableIn (tgt := 134) (off := 133) hx hb dX6_count_1 (by omega) (by omega) (by rw [e_1]; rfl) (by decide) ?_
      have w_ := tsw_eq c_1 e_1
      subst w_
      refine lv_aload_n hx hb dX6_count_134 rfl (lv_at hl 0 rfl) ?_
      refine rg (T := TX6) (N := 9) CX hE hP in_X6_count_X6 0 rfl rfl 0 (by decide) fl_X6_count_7 rfl rfl dX6_count_135 ?_
      refine lv_iload_n hx hb dX6_count_138 rfl (lv_at hl 1 rfl) ?_
      refine lv_bipush (v := (nI 9)) hx hb dX6_count_139 kb_9 ?_
      refine rn_isub hx hb (by omega) dX6_count_141 ?_
      refine rn_iald CX hE hP 1 rfl (j := 2) (by omega) (ltb rfl) dX6_count_142 ?_
      exact ro_ret CX hr hlk (by exact (congrArg (cntN z pm ty) (tsel_in c_1 d_1 e_1)).symm) rfl dX6_count_143
    | 12, _, e_1 =>
      refine lv_tableIn (tgt := 134) (off := 133) hx hb dX6_count_1 (by omega) (by omega) (by rw [e_1]; rfl) (by decide) ?_
      have w_ := tsw_eq c_1 e_1
      subst w_
      refine lv_aload_n hx hb dX6_count_134 rfl (lv_at hl 0 rfl) ?_
      refine rg (T := TX6) (N := 9) CX hE hP in_X6_count_X6 0 rfl rfl 0 (by decide) fl_X6_count_7 rfl rfl dX6_count_135 ?_
      refine lv_iload_n hx hb dX6_count_138 rfl (lv_at hl 1 rfl) ?_
      refine lv_bipush (v := (nI 9)) hx hb dX6_count_139 kb_9 ?_
      refine rn_isub hx hb (by omega) dX6_count_141 ?_
      refine rn_iald CX hE hP 1 rfl (j := 3) (by omega) (ltb rfl) dX6_count_142 ?_
      exact ro_ret CX hr hlk (by exact (congrArg (cntN z pm ty) (tsel_in c_1 d_1 e_1)).symm) rfl dX6_count_143
    | 13, _, e_1 =>
      refine lv_tableIn (tgt := 144) (off := 143) hx hb dX6_count_1 (by omega) (by omega) (by rw [e_1]; rfl) (by decide) ?_
      refine lv_aload_n hx hb dX6_count_144 rfl (lv_at hl 0 rfl) ?_
      refine rg (T := TX6) (N := 9) CX hE hP in_X6_count_X6 0 rfl rfl 7 (by decide) fl_X6_count_79 rfl rfl dX6_count_145 ?_
      exact ro_ret CX hr hlk (by exact (congrArg (cntN z pm ty) (tsel_in c_1 d_1 e_1)).symm) rfl dX6_count_148
    | 14, _, e_1 =>
      refine lv_tableIn (tgt := 149) (off := 148) hx hb dX6_count_1 (by omega) (by omega) (by rw [e_1]; rfl) (by decide) ?_
      refine lv_aload_n hx hb dX6_count_149 rfl (lv_at hl 0 rfl) ?_
      refine rg (T := TX6) (N := 9) CX hE hP in_X6_count_X6 0 rfl rfl 4 (by decide) fl_X6_count_40 rfl rfl dX6_count_150 ?_
      exact ro_ret CX hr hlk (by exact (congrArg (cntN z pm ty) (tsel_in c_1 d_1 e_1)).symm) rfl dX6_count_153
    | k + 15, h, _ => exact absurd h (by omega)
set_option maxHeartbeats 4000000 in
set_option maxRecDepth 100000 in
theorem c_X6_loudest_k (l : Launch) (G : va_G) (cA : Nat → ClassId) (m : Nat → Nat) (pm : Nat) (ty : Nat) (z : Nat → Int32) (w : Int32) (hw : inP w (nI 0) (nI 1)) (hab : ∀ j, j < 60 → 0 ≤ iabs (shf 65 z j)) : RO l yX6_loudest wsX6_loudest ({ frames := 2, cells := 0, slots := 0, locals := 43 }) G cA B0 [(m 0, .inr (6, [.ref (m 1), .ref (m 2), .ref (m 3), .ref (m 4), .int (nI pm), .ref (m 5), .ref (m 6), .int (nI ty), .ref (m 7)])), (m 1, .inl (cA 0, 345, .inl z))] [.ref (m 0), .int w] (louF (shf 65 z) w) := by
  refine RO.mk (own := RX6) (by decide) rfl rfl (Nat.le_of_ble_eq_true rfl) (fun p_ e_ s_ m_ below meth c_ ls CX hr hlk hP hE hB hl => ?_)
  obtain ⟨hx, hb, hml, hown, hts⟩ := id CX
  have hl : lv_has ls 4 [(0, .ref (m 0)), (1, .int w)] := hl
  refine lv_iload_n hx hb dX6_loudest_0 rfl (lv_at hl 1 rfl) ?_
  refine rn_iconst hx hb 0 rfl dX6_loudest_1 ?_
  refine rn_iconst hx hb 1 rfl dX6_loudest_2 ?_
  refine roS CX hE hP (c_X6_in l G cA w (nI 0) (nI 1) ) (va_cwS 3 hts gX6_loudest_X6_in rfl rfl rfl hdn_X6_in ⟨Nat.le_of_ble_eq_true rfl, Nat.le_of_ble_eq_true rfl⟩) [] rfl B0_blind (fun _ _ _ => trivial) rfl hl.1 (rest := []) rfl (Nat.le_of_ble_eq_true rfl) dX6_loudest_3 ⟨Nat.zero_le _, Nat.zero_le _⟩ ?_
  refine rb_if_ne hx hb dX6_loudest_6 (by decide) (tgt := 12) (fun c_6 => ?_) (fun c_6 => ?_)
  · refine lv_aload_n hx hb dX6_loudest_12 rfl (lv_at hl 0 rfl) ?_
    refine roV CX hE hP (c_X6_greatest l G cA m pm ty z ) (cwV 0 hts gX6_loudest_X6_greatest rfl rfl rfl hdv_X6_greatest ⟨Nat.le_of_ble_eq_true rfl, Nat.le_of_ble_eq_true rfl⟩) [0, 1] rfl 0 rfl rfl rfl B0_blind (fun _ _ _ => trivial) rfl hl.1 (rest := []) rfl (Nat.le_of_ble_eq_true rfl) dX6_loudest_13 ⟨Nat.zero_le _, Nat.zero_le _⟩ ?_
    refine lv_istore_n (lv' := [(2, .int (grF (shf 65 z) 60)), (0, .ref (m 0)), (1, .int w)]) hx hb dX6_loudest_16 rfl hl (by decide) rfl (fun ls hl => ?_)
    refine rn_iconst hx hb 0 rfl dX6_loudest_17 ?_
    refine lv_istore_n (lv' := [(3, .int (nI 0)), (2, .int (grF (shf 65 z) 60)), (0, .ref (m 0)), (1, .int w)]) hx hb dX6_loudest_18 rfl hl (by decide) rfl (fun ls hl => ?_)
    have LP_19 : ∀ (nn_ : Nat) (i : Nat), (60 - i) < nn_ → (i ≤ 60) → (∀ j, j < i → ¬ iabs (shf 65 z j) = grF (shf 65 z) 60) → ∀ ls : Array Slot, lv_has ls 4 [(0, .ref (m 0)), (1, .int w), (2, .int (grF (shf 65 z) 60)), (3, .int (nI i))] → W p_ l e_ ({ frames := 2, cells := 0, slots := 0, locals := 43 } : Room) s_ m_ ([.ref (m 0), .int w] : List Value).toArray below meth c_ s_.heap [] 0 0 (MQ below (vp_Si (fun r_ => r_ = (louF (shf 65 z) w))) ([.ref (m 0), .int w] : List Value).toArray s_ 0 0 (fun _ => False)) (F0 m_ 19 ls []) := by
      intro nn_
      induction nn_ with
      | zero => intro i hmu; exact absurd hmu (Nat.not_lt_zero _)
      | succ nn_ ih =>
        have ih_19 := ih
        clear ih
        intro i hmu_19 hi hn ls hl
        refine lv_iload_n hx hb dX6_loudest_19 rfl (lv_at hl 3 rfl) ?_
        refine lv_bipush (v := (nI 60)) hx hb dX6_loudest_20 kb_60 ?_
        refine rn_icmp_ge hx hb (by omega) (by omega) dX6_loudest_22 (by decide) (tgt := 63) (fun c_22 => ?_) (fun c_22 => ?_)
        · refine lv_bipush (v := (-6)) hx hb dX6_loudest_63 kb_m6 ?_
          exact ro_ret CX hr hlk (by first | exact lou_none hab c_26 | exact absurd (gr_ld 59 hab).symm (hn _ (Nat.lt_of_lt_of_le (ldF_lt 59) c_22))) rfl dX6_loudest_65
        · refine lv_iload_n hx hb dX6_loudest_25 rfl (lv_at hl 2 rfl) ?_
          refine lv_if_le hx hb dX6_loudest_26 (by decide) (tgt := 63) (fun c_26 => ?_) (fun c_26 => ?_)
          · refine lv_bipush (v := (-6)) hx hb dX6_loudest_63 kb_m6 ?_
            exact ro_ret CX hr hlk (by first | exact lou_none hab c_26 | exact absurd (gr_ld 59 hab).symm (hn _ (Nat.lt_of_lt_of_le (ldF_lt 59) c_22))) rfl dX6_loudest_65
          · refine lv_aload_n hx hb dX6_loudest_29 rfl (lv_at hl 0 rfl) ?_
            refine lv_iload_n hx hb dX6_loudest_30 rfl (lv_at hl 3 rfl) ?_
            refine roV CX hE hP (c_X6_now l G cA m pm ty z i (by omega)) (cwV 1 hts gX6_loudest_X6_now rfl rfl rfl hdv_X6_now ⟨Nat.le_of_ble_eq_true rfl, Nat.le_of_ble_eq_true rfl⟩) [0, 1] rfl 0 rfl rfl rfl B0_blind (fun _ _ _ => trivial) rfl hl.1 (rest := []) rfl (Nat.le_of_ble_eq_true rfl) dX6_loudest_31 ⟨Nat.zero_le _, Nat.zero_le _⟩ ?_
            refine roS CX hE hP (c_X6_size l G cA (shf 65 z i) ) (va_cwS 1 hts gX6_loudest_X6_size rfl rfl rfl hdn_X6_size ⟨Nat.le_of_ble_eq_true rfl, Nat.le_of_ble_eq_true rfl⟩) [] rfl B0_blind (fun _ _ _ => trivial) rfl hl.1 (rest := []) rfl (Nat.le_of_ble_eq_true rfl) dX6_loudest_34 ⟨Nat.zero_le _, Nat.zero_le _⟩ ?_
            refine lv_iload_n hx hb dX6_loudest_37 rfl (lv_at hl 2 rfl) ?_
            refine lv_icmp_ne hx hb dX6_loudest_38 (by decide) (tgt := 57) (fun c_38 => ?_) (fun c_38 => ?_)
            · refine rn_iinc hx hb (n := 1) (lv' := [(3, .int (nI (i + 1))), (0, .ref (m 0)), (1, .int w), (2, .int (grF (shf 65 z) 60))]) rfl dX6_loudest_57 hl (k := 3) rfl (by decide) rfl (fun ls hl => ?_)
              refine lv_goto (tgt := 19) hx hb dX6_loudest_60 (by decide) ?_
              exact ih_19 (i + 1) (by omega) (by omega) (fun j hj => by rcases Nat.lt_or_ge j i with q | q; exact hn j q; rw [show j = i by omega]; exact c_38) ls (lv_sub hl [1, 2, 3, 0] rfl)
            · refine lv_iload_n hx hb dX6_loudest_41 rfl (lv_at hl 1 rfl) ?_
              refine lv_if_ne hx hb dX6_loudest_42 (by decide) (tgt := 52) (fun c_42 => ?_) (fun c_42 => ?_)
              · refine lv_iload_n hx hb dX6_loudest_52 rfl (lv_at hl 3 rfl) ?_
                refine lv_bipush (v := (nI 10)) hx hb dX6_loudest_53 kb_10 ?_
                refine rn_idiv hx hb (by omega) (by omega) (by omega) dX6_loudest_55 ?_
                exact ro_ret CX hr hlk (by refine Eq.trans ?_ (lou_some hab c_26 (by omega) c_38 hn); first | exact (if_pos c_42).symm | exact (if_neg c_42).symm) rfl dX6_loudest_56
              · refine lv_iload_n hx hb dX6_loudest_45 rfl (lv_at hl 3 rfl) ?_
                refine lv_bipush (v := (nI 10)) hx hb dX6_loudest_46 kb_10 ?_
                refine rn_irem hx hb (by omega) (by omega) (by omega) dX6_loudest_48 ?_
                refine lv_goto (tgt := 56) hx hb dX6_loudest_49 (by decide) ?_
                exact ro_ret CX hr hlk (by refine Eq.trans ?_ (lou_some hab c_26 (by omega) c_38 hn); first | exact (if_pos c_42).symm | exact (if_neg c_42).symm) rfl dX6_loudest_56
    exact LP_19 _ 0 (Nat.lt_succ_self _) (by omega) (fun j hj => absurd hj (Nat.not_lt_zero _)) ls (lv_sub hl [2, 3, 1, 0] rfl)
  · exact absurd hw c_6
set_option maxHeartbeats 4000000 in
set_option maxRecDepth 100000 in
theorem c_X6_loudest_e (l : Launch) (G : va_G) (cA : Nat → ClassId) (m : Nat → Nat) (pm : Nat) (ty : Nat) (z : Nat → Int32) (w : Int32) (hbad : ¬ inP w (nI 0) (nI 1)) : RO l yX6_loudest wsX6_loudest ({ frames := 1, cells := 0, slots := 0, locals := 22 }) G cA B0 [(m 0, .inr (6, [.ref (m 1), .ref (m 2), .ref (m 3), .ref (m 4), .int (nI pm), .ref (m 5), .ref (m 6), .int (nI ty), .ref (m 7)])), (m 1, .inl (cA 0, 345, .inl z))] [.ref (m 0), .int w] (-2) := by
  refine RO.mk (own := RX6) (by decide) rfl rfl (Nat.le_of_ble_eq_true rfl) (fun p_ e_ s_ m_ below meth c_ ls CX hr hlk hP hE hB hl => ?_)
  obtain ⟨hx, hb, hml, hown, hts⟩ := id CX
  have hl : lv_has ls 4 [(0, .ref (m 0)), (1, .int w)] := hl
  refine lv_iload_n hx hb dX6_loudest_0 rfl (lv_at hl 1 rfl) ?_
  refine rn_iconst hx hb 0 rfl dX6_loudest_1 ?_
  refine rn_iconst hx hb 1 rfl dX6_loudest_2 ?_
  refine roS CX hE hP (c_X6_in l G cA w (nI 0) (nI 1) ) (va_cwS 3 hts gX6_loudest_X6_in rfl rfl rfl hdn_X6_in ⟨Nat.le_of_ble_eq_true rfl, Nat.le_of_ble_eq_true rfl⟩) [] rfl B0_blind (fun _ _ _ => trivial) rfl hl.1 (rest := []) rfl (Nat.le_of_ble_eq_true rfl) dX6_loudest_3 ⟨Nat.zero_le _, Nat.zero_le _⟩ ?_
  refine rb_if_ne hx hb dX6_loudest_6 (by decide) (tgt := 12) (fun c_6 => ?_) (fun c_6 => ?_)
  · exact absurd c_6 hbad
  · refine lv_bipush (v := (-2)) hx hb dX6_loudest_9 kb_m2 ?_
    exact ro_ret CX hr hlk rfl rfl dX6_loudest_11
theorem hdv_X6_heightAt : yX6_heightAt.cls = RX6 ∧ yX6_heightAt.cls ≠ "java/lang/invoke/MethodHandle" ∧ yX6_heightAt.cls ≠ "java/lang/invoke/VarHandle" ∧ (parseMethodDescriptor yX6_heightAt.desc).map (fun d => d.parameters.length) = some 2 := by decide +kernel
set_option maxHeartbeats 4000000 in
set_option maxRecDepth 100000 in
theorem c_X6_crests_k (l : Launch) (G : va_G) (cA : Nat → ClassId) (m : Nat → Nat) (pm : Nat) (ty : Nat) (z : Nat → Int32) (ky : Nat) (hky : ky < 6) : RO l yX6_crests wsX6_crests ({ frames := 3, cells := 0, slots := 0, locals := 65 }) G cA B0 [(m 0, .inr (6, [.ref (m 1), .ref (m 2), .ref (m 3), .ref (m 4), .int (nI pm), .ref (m 5), .ref (m 6), .int (nI ty), .ref (m 7)])), (m 1, .inl (cA 0, 345, .inl z))] [.ref (m 0), .int (nI ky)] (creM (shf 65 z) ky 10) := by
  refine RO.mk (own := RX6) (by decide) rfl rfl (Nat.le_of_ble_eq_true rfl) (fun p_ e_ s_ m_ below meth c_ ls CX hr hlk hP hE hB hl => ?_)
  obtain ⟨hx, hb, hml, hown, hts⟩ := id CX
  have hl : lv_has ls 5 [(0, .ref (m 0)), (1, .int (nI ky))] := hl
  refine lv_iload_n hx hb dX6_crests_0 rfl (lv_at hl 1 rfl) ?_
  refine rn_iconst hx hb 0 rfl dX6_crests_1 ?_
  refine rn_iconst hx hb 5 rfl dX6_crests_2 ?_
  refine roS CX hE hP (c_X6_in l G cA (nI ky) (nI 0) (nI 5) ) (va_cwS 3 hts gX6_crests_X6_in rfl rfl rfl hdn_X6_in ⟨Nat.le_of_ble_eq_true rfl, Nat.le_of_ble_eq_true rfl⟩) [] rfl B0_blind (fun _ _ _ => trivial) rfl hl.1 (rest := []) rfl (Nat.le_of_ble_eq_true rfl) dX6_crests_3 ⟨Nat.zero_le _, Nat.zero_le _⟩ ?_
  refine rb_if_ne hx hb dX6_crests_6 (by decide) (tgt := 11) (fun c_6 => ?_) (fun c_6 => ?_)
  · refine rn_iconst hx hb 0 rfl dX6_crests_11 ?_
    refine lv_istore_n (lv' := [(2, .int (nI 0)), (0, .ref (m 0)), (1, .int (nI ky))]) hx hb dX6_crests_12 rfl hl (by decide) rfl (fun ls hl => ?_)
    refine rn_iconst hx hb 0 rfl dX6_crests_13 ?_
    refine lv_istore_n (lv' := [(3, .int (nI 0)), (2, .int (nI 0)), (0, .ref (m 0)), (1, .int (nI ky))]) hx hb dX6_crests_14 rfl hl (by decide) rfl (fun ls hl => ?_)
    have LP_15 : ∀ (nn_ : Nat) (k : Nat) (n : Int32), (10 - k) < nn_ → (k ≤ 10) → (n = creM (shf 65 z) ky k) → ∀ ls : Array Slot, lv_has ls 5 [(0, .ref (m 0)), (1, .int (nI ky)), (2, .int n), (3, .int (nI k))] → W p_ l e_ ({ frames := 3, cells := 0, slots := 0, locals := 65 } : Room) s_ m_ ([.ref (m 0), .int (nI ky)] : List Value).toArray below meth c_ s_.heap [] 0 0 (MQ below (vp_Si (fun r_ => r_ = (creM (shf 65 z) ky 10))) ([.ref (m 0), .int (nI ky)] : List Value).toArray s_ 0 0 (fun _ => False)) (F0 m_ 15 ls []) := by
      intro nn_
      induction nn_ with
      | zero => intro k n hmu; exact absurd hmu (Nat.not_lt_zero _)
      | succ nn_ ih =>
        have ih_15 := ih
        clear ih
        intro k n hmu_15 hk hn ls hl
        refine lv_iload_n hx hb dX6_crests_15 rfl (lv_at hl 3 rfl) ?_
        refine lv_bipush (v := (nI 10)) hx hb dX6_crests_16 kb_10 ?_
        refine rn_icmp_ge hx hb (by omega) (by omega) dX6_crests_18 (by decide) (tgt := 74) (fun c_18 => ?_) (fun c_18 => ?_)
        · refine lv_iload_n hx hb dX6_crests_74 rfl (lv_at hl 2 rfl) ?_
          exact ro_ret CX hr hlk (by rw [hn, show k = 10 by omega]) rfl dX6_crests_75
        · refine lv_aload_n hx hb dX6_crests_21 rfl (lv_at hl 0 rfl) ?_
          refine lv_iload_n hx hb dX6_crests_22 rfl (lv_at hl 3 rfl) ?_
          refine lv_iload_n hx hb dX6_crests_23 rfl (lv_at hl 1 rfl) ?_
          refine roV CX hE hP (c_X6_heightAt l G cA m pm ty z (nI k) (nI ky) ) (cwV 2 hts gX6_crests_X6_heightAt rfl rfl rfl hdv_X6_heightAt ⟨Nat.le_of_ble_eq_true rfl, Nat.le_of_ble_eq_true rfl⟩) [0, 1] rfl 0 rfl rfl rfl B0_blind (fun _ _ _ => trivial) rfl hl.1 (rest := []) rfl (Nat.le_of_ble_eq_true rfl) dX6_crests_24 ⟨Nat.zero_le _, Nat.zero_le _⟩ ?_
          refine lv_istore (lv' := [(4, .int (heightAtF (shf 65 z) (nI k) (nI ky))), (0, .ref (m 0)), (1, .int (nI ky)), (2, .int n), (3, .int (nI k))]) hx hb dX6_crests_27 hl (by decide) rfl (fun ls hl => ?_)
          refine lv_iload_n hx hb dX6_crests_29 rfl (lv_at hl 3 rfl) ?_
          refine lv_iload hx hb dX6_crests_30 (lv_at hl 0 rfl) ?_
          have J_66 : ∀ v : Int32, v = (b2i (crestP (shf 65 z) k ky)) → W p_ l e_ ({ frames := 3, cells := 0, slots := 0, locals := 65 } : Room) s_ m_ ([.ref (m 0), .int (nI ky)] : List Value).toArray below meth c_ s_.heap [] 0 0 (MQ below (vp_Si (fun r_ => r_ = (creM (shf 65 z) ky 10))) ([.ref (m 0), .int (nI ky)] : List Value).toArray s_ 0 0 (fun _ => False)) (F0 m_ 66 ls [.int v, .int n]) := by
            intro v hv
            subst hv
            refine lv_iadd hx hb dX6_crests_66 ?_
            refine lv_istore_n (lv' := [(2, .int (n + (b2i (crestP (shf 65 z) k ky)))), (4, .int (heightAtF (shf 65 z) (nI k) (nI ky))), (0, .ref (m 0)), (1, .int (nI ky)), (3, .int (nI k))]) hx hb dX6_crests_67 rfl hl (by decide) rfl (fun ls hl => ?_)
            refine rn_iinc hx hb (n := 1) (lv' := [(3, .int (nI (k + 1))), (2, .int (n + (b2i (crestP (shf 65 z) k ky)))), (4, .int (heightAtF (shf 65 z) (nI k) (nI ky))), (0, .ref (m 0)), (1, .int (nI ky))]) rfl dX6_crests_68 hl (k := 4) rfl (by decide) rfl (fun ls hl => ?_)
            refine lv_goto (tgt := 15) hx hb dX6_crests_71 (by decide) ?_
            exact ih_15 (k + 1) (n + (b2i (crestP (shf 65 z) k ky))) (by omega) (by omega) (by rw [hn]; rfl) ls (lv_sub hl [3, 4, 1, 0] rfl)
          refine lv_if_le hx hb dX6_crests_32 (by decide) (tgt := 65) (fun c_32 => ?_) (fun c_32 => ?_)
          · refine rn_iconst hx hb 0 rfl dX6_crests_65 ?_
            exact J_66 _ (by first | exact b2i_t ⟨Int32.not_le.mp c_32, Int32.not_le.mp c_45, Int32.not_le.mp c_58⟩ | exact b2i_f (fun h => absurd c_32 (Int32.not_le.mpr h.1)) | exact b2i_f (fun h => absurd c_45 (Int32.not_le.mpr h.2.1)) | exact b2i_f (fun h => absurd c_58 (Int32.not_le.mpr h.2.2)))
          · refine lv_iload hx hb dX6_crests_35 (lv_at hl 0 rfl) ?_
            refine lv_aload_n hx hb dX6_crests_37 rfl (lv_at hl 1 rfl) ?_
            refine lv_iload_n hx hb dX6_crests_38 rfl (lv_at hl 4 rfl) ?_
            refine rn_iconst hx hb 1 rfl dX6_crests_39 ?_
            refine lv_isub hx hb dX6_crests_40 ?_
            refine lv_iload_n hx hb dX6_crests_41 rfl (lv_at hl 2 rfl) ?_
            refine roV CX hE hP (c_X6_heightAt l G cA m pm ty z ((nI k) - (nI 1)) (nI ky) ) (cwV 2 hts gX6_crests_X6_heightAt rfl rfl rfl hdv_X6_heightAt ⟨Nat.le_of_ble_eq_true rfl, Nat.le_of_ble_eq_true rfl⟩) [0, 1] rfl 0 rfl rfl rfl B0_blind (fun _ _ _ => trivial) rfl hl.1 (rest := [.int (heightAtF (shf 65 z) (nI k) (nI ky)), .int n]) rfl (Nat.le_of_ble_eq_true rfl) dX6_crests_42 ⟨Nat.zero_le _, Nat.zero_le _⟩ ?_
            refine lv_icmp_le hx hb dX6_crests_45 (by decide) (tgt := 65) (fun c_45 => ?_) (fun c_45 => ?_)
            · refine rn_iconst hx hb 0 rfl dX6_crests_65 ?_
              exact J_66 _ (by first | exact b2i_t ⟨Int32.not_le.mp c_32, Int32.not_le.mp c_45, Int32.not_le.mp c_58⟩ | exact b2i_f (fun h => absurd c_32 (Int32.not_le.mpr h.1)) | exact b2i_f (fun h => absurd c_45 (Int32.not_le.mpr h.2.1)) | exact b2i_f (fun h => absurd c_58 (Int32.not_le.mpr h.2.2)))
            · refine lv_iload hx hb dX6_crests_48 (lv_at hl 0 rfl) ?_
              refine lv_aload_n hx hb dX6_crests_50 rfl (lv_at hl 1 rfl) ?_
              refine lv_iload_n hx hb dX6_crests_51 rfl (lv_at hl 4 rfl) ?_
              refine rn_iconst hx hb 1 rfl dX6_crests_52 ?_
              refine rn_iadd hx hb dX6_crests_53 ?_
              refine lv_iload_n hx hb dX6_crests_54 rfl (lv_at hl 2 rfl) ?_
              refine roV CX hE hP (c_X6_heightAt l G cA m pm ty z (nI (k + 1)) (nI ky) ) (cwV 2 hts gX6_crests_X6_heightAt rfl rfl rfl hdv_X6_heightAt ⟨Nat.le_of_ble_eq_true rfl, Nat.le_of_ble_eq_true rfl⟩) [0, 1] rfl 0 rfl rfl rfl B0_blind (fun _ _ _ => trivial) rfl hl.1 (rest := [.int (heightAtF (shf 65 z) (nI k) (nI ky)), .int n]) rfl (Nat.le_of_ble_eq_true rfl) dX6_crests_55 ⟨Nat.zero_le _, Nat.zero_le _⟩ ?_
              refine lv_icmp_le hx hb dX6_crests_58 (by decide) (tgt := 65) (fun c_58 => ?_) (fun c_58 => ?_)
              · refine rn_iconst hx hb 0 rfl dX6_crests_65 ?_
                exact J_66 _ (by first | exact b2i_t ⟨Int32.not_le.mp c_32, Int32.not_le.mp c_45, Int32.not_le.mp c_58⟩ | exact b2i_f (fun h => absurd c_32 (Int32.not_le.mpr h.1)) | exact b2i_f (fun h => absurd c_45 (Int32.not_le.mpr h.2.1)) | exact b2i_f (fun h => absurd c_58 (Int32.not_le.mpr h.2.2)))
              · refine rn_iconst hx hb 1 rfl dX6_crests_61 ?_
                refine lv_goto (tgt := 66) hx hb dX6_crests_62 (by decide) ?_
                exact J_66 _ (by first | exact b2i_t ⟨Int32.not_le.mp c_32, Int32.not_le.mp c_45, Int32.not_le.mp c_58⟩ | exact b2i_f (fun h => absurd c_32 (Int32.not_le.mpr h.1)) | exact b2i_f (fun h => absurd c_45 (Int32.not_le.mpr h.2.1)) | exact b2i_f (fun h => absurd c_58 (Int32.not_le.mpr h.2.2)))
    exact LP_15 _ 0 (nI 0) (Nat.lt_succ_self _) (by omega) rfl ls (lv_sub hl [2, 3, 1, 0] rfl)
  · exact absurd (inP_nI (Nat.zero_le _) (by omega) (by decide)) c_6
set_option maxHeartbeats 4000000 in
set_option maxRecDepth 100000 in
theorem c_X6_crests_e (l : Launch) (G : va_G) (cA : Nat → ClassId) (m : Nat → Nat) (pm : Nat) (ty : Nat) (z : Nat → Int32) (y : Int32) (hbad : ¬ inP y (nI 0) (nI 5)) : RO l yX6_crests wsX6_crests ({ frames := 1, cells := 0, slots := 0, locals := 22 }) G cA B0 [(m 0, .inr (6, [.ref (m 1), .ref (m 2), .ref (m 3), .ref (m 4), .int (nI pm), .ref (m 5), .ref (m 6), .int (nI ty), .ref (m 7)])), (m 1, .inl (cA 0, 345, .inl z))] [.ref (m 0), .int y] (-1) := by
  refine RO.mk (own := RX6) (by decide) rfl rfl (Nat.le_of_ble_eq_true rfl) (fun p_ e_ s_ m_ below meth c_ ls CX hr hlk hP hE hB hl => ?_)
  obtain ⟨hx, hb, hml, hown, hts⟩ := id CX
  have hl : lv_has ls 5 [(0, .ref (m 0)), (1, .int y)] := hl
  refine lv_iload_n hx hb dX6_crests_0 rfl (lv_at hl 1 rfl) ?_
  refine rn_iconst hx hb 0 rfl dX6_crests_1 ?_
  refine rn_iconst hx hb 5 rfl dX6_crests_2 ?_
  refine roS CX hE hP (c_X6_in l G cA y (nI 0) (nI 5) ) (va_cwS 3 hts gX6_crests_X6_in rfl rfl rfl hdn_X6_in ⟨Nat.le_of_ble_eq_true rfl, Nat.le_of_ble_eq_true rfl⟩) [] rfl B0_blind (fun _ _ _ => trivial) rfl hl.1 (rest := []) rfl (Nat.le_of_ble_eq_true rfl) dX6_crests_3 ⟨Nat.zero_le _, Nat.zero_le _⟩ ?_
  refine rb_if_ne hx hb dX6_crests_6 (by decide) (tgt := 11) (fun c_6 => ?_) (fun c_6 => ?_)
  · exact absurd c_6 hbad
  · refine lv_iconst (v := (-1)) hx hb dX6_crests_9 (by decide) ?_
    exact ro_ret CX hr hlk rfl rfl dX6_crests_10
theorem hdv_X6_putAside : yX6_putAside.cls = RX6 ∧ yX6_putAside.cls ≠ "java/lang/invoke/MethodHandle" ∧ yX6_putAside.cls ≠ "java/lang/invoke/VarHandle" ∧ (parseMethodDescriptor yX6_putAside.desc).map (fun d => d.parameters.length) = some 0 := by decide +kernel
theorem hdv_X6_bringBack : yX6_bringBack.cls = RX6 ∧ yX6_bringBack.cls ≠ "java/lang/invoke/MethodHandle" ∧ yX6_bringBack.cls ≠ "java/lang/invoke/VarHandle" ∧ (parseMethodDescriptor yX6_bringBack.desc).map (fun d => d.parameters.length) = some 0 := by decide +kernel
set_option maxHeartbeats 4000000 in
set_option maxRecDepth 100000 in
theorem c_X6_ifPassed_k (l : Launch) (G : va_G) (cA : Nat → ClassId) (m : Nat → Nat) (pm : Nat) (ty : Nat) (z : Nat → Int32) (sp : Nat → Int32) (th : Nat → Int32) (kx : Nat) (ky : Nat) (n : Nat) (nd : Nat) (np : Nat) (hkx : kx < 10) (hky : ky < 6) (hn1 : 1 ≤ n) (hn : n ≤ 60) (hok : okM z nd np) : MUi l yX6_ifPassed wsX6_ifPassed ({ frames := 7, cells := 0, slots := 0, locals := 156 }) G cA BM0 [(m 0, .inr (6, [.ref (m 1), .ref (m 2), .ref (m 3), .ref (m 4), .int (nI pm), .ref (m 5), .ref (m 6), .int (nI ty), .ref (m 7)])), (m 1, .inl (cA 0, 345, .inl z)), (m 5, .inl (cA 0, 345, .inl sp)), (m 7, .inl (cA 0, 60, .inl th))] [.ref (m 0), .int (nI kx), .int (nI ky), .int (nI n)] [(m 0, .inr (6, [.ref (m 1), .ref (m 2), .ref (m 3), .ref (m 4), .int (nI pm), .ref (m 5), .ref (m 6), .int (nI ty), .ref (m 7)])), (m 1, .inl (cA 0, 345, .inl z)), (m 5, .inl (cA 0, 345, .inl z)), (m 7, .inl (cA 0, 60, .inl (thM z th nd np n)))] (shf 65 (runM z nd np n) (ky * 10 + kx) + nI 10000) := by
  refine MUi.mk (own := RX6) (by decide) rfl rfl (Nat.le_of_ble_eq_true rfl) (fun p_ e_ s_ m_ below meth c_ ls A_ CX hr hlk hW hA hE hB hl => ?_)
  obtain ⟨hx, hb, hml, hown, hts⟩ := id CX
  have hl : lv_has ls 5 [(0, .ref (m 0)), (1, .int (nI kx)), (2, .int (nI ky)), (3, .int (nI n))] := hl
  have hW : wld G A_ [(m 0, .inr (6, [.ref (m 1), .ref (m 2), .ref (m 3), .ref (m 4), .int (nI pm), .ref (m 5), .ref (m 6), .int (nI ty), .ref (m 7)])), (m 1, .inl (cA 0, 345, .inl z)), (m 5, .inl (cA 0, 345, .inl sp)), (m 7, .inl (cA 0, 60, .inl th))] s_.heap s_.heap [] := hW
  refine lv_iload_n hx hb dX6_ifPassed_0 rfl (lv_at hl 1 rfl) ?_
  refine lv_iload_n hx hb dX6_ifPassed_1 rfl (lv_at hl 2 rfl) ?_
  refine roS CX hE hW.1 (c_X6_isCell l G cA (nI kx) (nI ky) ) (va_cwS 2 hts gX6_ifPassed_X6_isCell rfl rfl rfl hdn_X6_isCell ⟨Nat.le_of_ble_eq_true rfl, Nat.le_of_ble_eq_true rfl⟩) [] rfl B0_blind (fun _ _ _ => trivial) rfl hl.1 (rest := []) rfl (Nat.le_of_ble_eq_true rfl) dX6_ifPassed_2 ⟨Nat.zero_le _, Nat.zero_le _⟩ ?_
  refine rb_if_ne hx hb dX6_ifPassed_5 (by decide) (tgt := 10) (fun c_5 => ?_) (fun c_5 => ?_)
  · refine lv_iload_n hx hb dX6_ifPassed_10 rfl (lv_at hl 3 rfl) ?_
    refine rn_iconst hx hb 1 rfl dX6_ifPassed_11 ?_
    refine lv_bipush (v := (nI 60)) hx hb dX6_ifPassed_12 kb_60 ?_
    refine roS CX hE hW.1 (c_X6_in l G cA (nI n) (nI 1) (nI 60) ) (va_cwS 3 hts gX6_ifPassed_X6_in rfl rfl rfl hdn_X6_in ⟨Nat.le_of_ble_eq_true rfl, Nat.le_of_ble_eq_true rfl⟩) [] rfl B0_blind (fun _ _ _ => trivial) rfl hl.1 (rest := []) rfl (Nat.le_of_ble_eq_true rfl) dX6_ifPassed_14 ⟨Nat.zero_le _, Nat.zero_le _⟩ ?_
    refine rb_if_ne hx hb dX6_ifPassed_17 (by decide) (tgt := 23) (fun c_17 => ?_) (fun c_17 => ?_)
    · refine lv_aload_n hx hb dX6_ifPassed_23 rfl (lv_at hl 0 rfl) ?_
      refine muvV (ws' := [(m 0, .inr (6, [.ref (m 1), .ref (m 2), .ref (m 3), .ref (m 4), .int (nI pm), .ref (m 5), .ref (m 6), .int (nI ty), .ref (m 7)])), (m 1, .inl (cA 0, 345, .inl z)), (m 5, .inl (cA 0, 345, .inl z)), (m 7, .inl (cA 0, 60, .inl th))]) CX hE hW hA (c_X6_putAside l G cA m pm ty z sp ) (cwV 0 hts gX6_ifPassed_X6_putAside rfl rfl rfl hdv_X6_putAside ⟨Nat.le_of_ble_eq_true rfl, Nat.le_of_ble_eq_true rfl⟩) [0, 1, 2] (by decide) rfl rfl rfl 0 rfl rfl rfl BM0_blind (fun _ _ _ _ => trivial) rfl hl.1 (rest := []) rfl (Nat.le_of_ble_eq_true rfl) dX6_ifPassed_24 ⟨Nat.zero_le _, Nat.zero_le _⟩ (fun H locs hW => ?_)
      refine lv_aload_n hx hb dX6_ifPassed_27 rfl (lv_at hl 0 rfl) ?_
      refine lv_iload_n hx hb dX6_ifPassed_28 rfl (lv_at hl 3 rfl) ?_
      refine muvV (ws' := [(m 0, .inr (6, [.ref (m 1), .ref (m 2), .ref (m 3), .ref (m 4), .int (nI pm), .ref (m 5), .ref (m 6), .int (nI ty), .ref (m 7)])), (m 1, .inl (cA 0, 345, .inl (runM z nd np n))), (m 5, .inl (cA 0, 345, .inl z)), (m 7, .inl (cA 0, 60, .inl (thM z th nd np n)))]) CX hE hW hA (c_X6_ticks l G cA m pm ty z th nd np n (by omega) (by assumption)) (cwV 1 hts gX6_ifPassed_X6_ticks rfl rfl rfl hdv_X6_ticks ⟨Nat.le_of_ble_eq_true rfl, Nat.le_of_ble_eq_true rfl⟩) [0, 1, 3] (by decide) rfl rfl rfl 0 rfl rfl rfl BM0_blind (fun _ _ _ _ => trivial) rfl hl.1 (rest := []) rfl (Nat.le_of_ble_eq_true rfl) dX6_ifPassed_29 ⟨Nat.zero_le _, Nat.zero_le _⟩ (fun H locs hW => ?_)
      refine lv_aload_n hx hb dX6_ifPassed_32 rfl (lv_at hl 0 rfl) ?_
      refine lv_bipush (v := (nI 10)) hx hb dX6_ifPassed_33 kb_10 ?_
      refine lv_iload_n hx hb dX6_ifPassed_35 rfl (lv_at hl 2 rfl) ?_
      refine rn_imul hx hb dX6_ifPassed_36 ?_
      refine lv_iload_n hx hb dX6_ifPassed_37 rfl (lv_at hl 1 rfl) ?_
      refine rn_iadd hx hb dX6_ifPassed_38 ?_
      refine rn_top (nI (ky * 10 + kx)) (by rw [Nat.mul_comm]) ?_
      refine roV CX hE hW.1 (c_X6_now l G cA m pm ty (runM z nd np n) (ky * 10 + kx) (by omega)) (cwV 1 hts gX6_ifPassed_X6_now rfl rfl rfl hdv_X6_now ⟨Nat.le_of_ble_eq_true rfl, Nat.le_of_ble_eq_true rfl⟩) [0, 1] rfl 0 rfl rfl rfl B0_blind (fun _ _ _ => trivial) rfl hl.1 (rest := []) rfl (Nat.le_of_ble_eq_true rfl) dX6_ifPassed_39 ⟨Nat.zero_le _, Nat.zero_le _⟩ ?_
      refine lv_sipush (v := (nI 10000)) hx hb dX6_ifPassed_42 ks_10000 ?_
      refine lv_iadd hx hb dX6_ifPassed_45 ?_
      refine lv_istore (lv' := [(4, .int ((shf 65 (runM z nd np n) (ky * 10 + kx)) + (nI 10000))), (0, .ref (m 0)), (1, .int (nI kx)), (2, .int (nI ky)), (3, .int (nI n))]) hx hb dX6_ifPassed_46 hl (by decide) rfl (fun ls hl => ?_)
      refine lv_aload_n hx hb dX6_ifPassed_48 rfl (lv_at hl 1 rfl) ?_
      refine muvV (ws' := [(m 0, .inr (6, [.ref (m 1), .ref (m 2), .ref (m 3), .ref (m 4), .int (nI pm), .ref (m 5), .ref (m 6), .int (nI ty), .ref (m 7)])), (m 1, .inl (cA 0, 345, .inl z)), (m 5, .inl (cA 0, 345, .inl z)), (m 7, .inl (cA 0, 60, .inl (thM z th nd np n)))]) CX hE hW hA (c_X6_bringBack l G cA m pm ty (runM z nd np n) z ) (cwV 0 hts gX6_ifPassed_X6_bringBack rfl rfl rfl hdv_X6_bringBack ⟨Nat.le_of_ble_eq_true rfl, Nat.le_of_ble_eq_true rfl⟩) [0, 1, 2] (by decide) rfl rfl rfl 0 rfl rfl rfl BM0_blind (fun _ _ _ _ => trivial) rfl hl.1 (rest := []) rfl (Nat.le_of_ble_eq_true rfl) dX6_ifPassed_49 ⟨Nat.zero_le _, Nat.zero_le _⟩ (fun H locs hW => ?_)
      refine lv_iload hx hb dX6_ifPassed_52 (lv_at hl 0 rfl) ?_
      exact mu_reti CX hr hlk rfl rfl hW dX6_ifPassed_54
    · exact absurd (inP_nI hn1 hn (by decide)) c_17
  · exact absurd (cellP_of hkx hky) c_5
set_option maxHeartbeats 4000000 in
set_option maxRecDepth 100000 in
theorem c_X6_ifPassed_e (l : Launch) (G : va_G) (cA : Nat → ClassId) (m : Nat → Nat) (pm : Nat) (ty : Nat) (z : Nat → Int32) (x : Int32) (y : Int32) (n : Int32) (hbad : cellP x y → ¬ inP n (nI 1) (nI 60)) : RO l yX6_ifPassed wsX6_ifPassed ({ frames := 2, cells := 0, slots := 0, locals := 43 }) G cA B0 [(m 0, .inr (6, [.ref (m 1), .ref (m 2), .ref (m 3), .ref (m 4), .int (nI pm), .ref (m 5), .ref (m 6), .int (nI ty), .ref (m 7)])), (m 1, .inl (cA 0, 345, .inl z))] [.ref (m 0), .int x, .int y, .int n] (if ¬ cellP x y then -1 else -2) := by
  refine RO.mk (own := RX6) (by decide) rfl rfl (Nat.le_of_ble_eq_true rfl) (fun p_ e_ s_ m_ below meth c_ ls CX hr hlk hP hE hB hl => ?_)
  obtain ⟨hx, hb, hml, hown, hts⟩ := id CX
  have hl : lv_has ls 5 [(0, .ref (m 0)), (1, .int x), (2, .int y), (3, .int n)] := hl
  refine lv_iload_n hx hb dX6_ifPassed_0 rfl (lv_at hl 1 rfl) ?_
  refine lv_iload_n hx hb dX6_ifPassed_1 rfl (lv_at hl 2 rfl) ?_
  refine roS CX hE hP (c_X6_isCell l G cA x y ) (va_cwS 2 hts gX6_ifPassed_X6_isCell rfl rfl rfl hdn_X6_isCell ⟨Nat.le_of_ble_eq_true rfl, Nat.le_of_ble_eq_true rfl⟩) [] rfl B0_blind (fun _ _ _ => trivial) rfl hl.1 (rest := []) rfl (Nat.le_of_ble_eq_true rfl) dX6_ifPassed_2 ⟨Nat.zero_le _, Nat.zero_le _⟩ ?_
  refine rb_if_ne hx hb dX6_ifPassed_5 (by decide) (tgt := 10) (fun c_5 => ?_) (fun c_5 => ?_)
  · refine lv_iload_n hx hb dX6_ifPassed_10 rfl (lv_at hl 3 rfl) ?_
    refine rn_iconst hx hb 1 rfl dX6_ifPassed_11 ?_
    refine lv_bipush (v := (nI 60)) hx hb dX6_ifPassed_12 kb_60 ?_
    refine roS CX hE hP (c_X6_in l G cA n (nI 1) (nI 60) ) (va_cwS 3 hts gX6_ifPassed_X6_in rfl rfl rfl hdn_X6_in ⟨Nat.le_of_ble_eq_true rfl, Nat.le_of_ble_eq_true rfl⟩) [] rfl B0_blind (fun _ _ _ => trivial) rfl hl.1 (rest := []) rfl (Nat.le_of_ble_eq_true rfl) dX6_ifPassed_14 ⟨Nat.zero_le _, Nat.zero_le _⟩ ?_
    refine rb_if_ne hx hb dX6_ifPassed_17 (by decide) (tgt := 23) (fun c_17 => ?_) (fun c_17 => ?_)
    · exact absurd c_17 (hbad c_5)
    · refine lv_bipush (v := (-2)) hx hb dX6_ifPassed_20 kb_m2 ?_
      exact ro_ret CX hr hlk ((if_neg (fun q => q c_5)).symm) rfl dX6_ifPassed_22
  · refine lv_iconst (v := (-1)) hx hb dX6_ifPassed_8 (by decide) ?_
    exact ro_ret CX hr hlk ((if_pos c_5).symm) rfl dX6_ifPassed_9
theorem kb_80 : (Int8.ofInt (80)).toInt32 = (nI 80) := by decide +kernel
set_option maxHeartbeats 4000000 in
set_option maxRecDepth 100000 in
theorem c_X6_comes_k (l : Launch) (G : va_G) (cA : Nat → ClassId) (m : Nat → Nat) (pm : Nat) (ty : Nat) (z : Nat → Int32) (sp : Nat → Int32) (th : Nat → Int32) (kx : Nat) (ky : Nat) (nd : Nat) (np : Nat) (hkx : kx < 10) (hky : ky < 6) (hst : stillP z (shf 65 z) (shf 125 z) (ky * 10 + kx)) (hok : okM z nd np) : MUi l yX6_comes wsX6_comes ({ frames := 6, cells := 0, slots := 0, locals := 134 }) G cA BM0 [(m 0, .inr (6, [.ref (m 1), .ref (m 2), .ref (m 3), .ref (m 4), .int (nI pm), .ref (m 5), .ref (m 6), .int (nI ty), .ref (m 7)])), (m 1, .inl (cA 0, 345, .inl z)), (m 5, .inl (cA 0, 345, .inl sp)), (m 7, .inl (cA 0, 60, .inl th))] [.ref (m 0), .int (nI kx), .int (nI ky)] [(m 0, .inr (6, [.ref (m 1), .ref (m 2), .ref (m 3), .ref (m 4), .int (nI pm), .ref (m 5), .ref (m 6), .int (nI ty), .ref (m 7)])), (m 1, .inl (cA 0, 345, .inl z)), (m 5, .inl (cA 0, 345, .inl z)), (m 7, .inl (cA 0, 60, .inl (thM z th nd np (comK z nd np (ky * 10 + kx) 80))))] (comR z nd np (ky * 10 + kx) 80) := by
  refine MUi.mk (own := RX6) (by decide) rfl rfl (Nat.le_of_ble_eq_true rfl) (fun p_ e_ s_ m_ below meth c_ ls A_ CX hr hlk hW hA hE hB hl => ?_)
  obtain ⟨hx, hb, hml, hown, hts⟩ := id CX
  have hl : lv_has ls 6 [(0, .ref (m 0)), (1, .int (nI kx)), (2, .int (nI ky))] := hl
  have hW : wld G A_ [(m 0, .inr (6, [.ref (m 1), .ref (m 2), .ref (m 3), .ref (m 4), .int (nI pm), .ref (m 5), .ref (m 6), .int (nI ty), .ref (m 7)])), (m 1, .inl (cA 0, 345, .inl z)), (m 5, .inl (cA 0, 345, .inl sp)), (m 7, .inl (cA 0, 60, .inl th))] s_.heap s_.heap [] := hW
  refine lv_iload_n hx hb dX6_comes_0 rfl (lv_at hl 1 rfl) ?_
  refine lv_iload_n hx hb dX6_comes_1 rfl (lv_at hl 2 rfl) ?_
  refine roS CX hE hW.1 (c_X6_isCell l G cA (nI kx) (nI ky) ) (va_cwS 2 hts gX6_comes_X6_isCell rfl rfl rfl hdn_X6_isCell ⟨Nat.le_of_ble_eq_true rfl, Nat.le_of_ble_eq_true rfl⟩) [] rfl B0_blind (fun _ _ _ => trivial) rfl hl.1 (rest := []) rfl (Nat.le_of_ble_eq_true rfl) dX6_comes_2 ⟨Nat.zero_le _, Nat.zero_le _⟩ ?_
  refine rb_if_ne hx hb dX6_comes_5 (by decide) (tgt := 10) (fun c_5 => ?_) (fun c_5 => ?_)
  · refine lv_bipush (v := (nI 10)) hx hb dX6_comes_10 kb_10 ?_
    refine lv_iload_n hx hb dX6_comes_12 rfl (lv_at hl 2 rfl) ?_
    refine rn_imul hx hb dX6_comes_13 ?_
    refine lv_iload_n hx hb dX6_comes_14 rfl (lv_at hl 1 rfl) ?_
    refine rn_iadd hx hb dX6_comes_15 ?_
    refine rn_top (nI (ky * 10 + kx)) (by rw [Nat.mul_comm]) ?_
    refine lv_istore_n (lv' := [(3, .int (nI (ky * 10 + kx))), (0, .ref (m 0)), (1, .int (nI kx)), (2, .int (nI ky))]) hx hb dX6_comes_16 rfl hl (by decide) rfl (fun ls hl => ?_)
    refine lv_aload_n hx hb dX6_comes_17 rfl (lv_at hl 1 rfl) ?_
    refine lv_iload_n hx hb dX6_comes_18 rfl (lv_at hl 0 rfl) ?_
    refine roV CX hE hW.1 (c_X6_isStill l G cA m pm ty z (ky * 10 + kx) (by omega)) (cwV 1 hts gX6_comes_X6_isStill rfl rfl rfl hdv_X6_isStill ⟨Nat.le_of_ble_eq_true rfl, Nat.le_of_ble_eq_true rfl⟩) [0, 1] rfl 0 rfl rfl rfl B0_blind (fun _ _ _ => trivial) rfl hl.1 (rest := []) rfl (Nat.le_of_ble_eq_true rfl) dX6_comes_19 ⟨Nat.zero_le _, Nat.zero_le _⟩ ?_
    refine rb_if_ne hx hb dX6_comes_22 (by decide) (tgt := 28) (fun c_22 => ?_) (fun c_22 => ?_)
    · refine lv_aload_n hx hb dX6_comes_28 rfl (lv_at hl 1 rfl) ?_
      refine muvV (ws' := [(m 0, .inr (6, [.ref (m 1), .ref (m 2), .ref (m 3), .ref (m 4), .int (nI pm), .ref (m 5), .ref (m 6), .int (nI ty), .ref (m 7)])), (m 1, .inl (cA 0, 345, .inl z)), (m 5, .inl (cA 0, 345, .inl z)), (m 7, .inl (cA 0, 60, .inl th))]) CX hE hW hA (c_X6_putAside l G cA m pm ty z sp ) (cwV 0 hts gX6_comes_X6_putAside rfl rfl rfl hdv_X6_putAside ⟨Nat.le_of_ble_eq_true rfl, Nat.le_of_ble_eq_true rfl⟩) [0, 1, 2] (by decide) rfl rfl rfl 0 rfl rfl rfl BM0_blind (fun _ _ _ _ => trivial) rfl hl.1 (rest := []) rfl (Nat.le_of_ble_eq_true rfl) dX6_comes_29 ⟨Nat.zero_le _, Nat.zero_le _⟩ (fun H locs hW => ?_)
      refine lv_bipush (v := (-6)) hx hb dX6_comes_32 kb_m6 ?_
      refine lv_istore (lv' := [(4, .int (-6)), (3, .int (nI (ky * 10 + kx))), (0, .ref (m 0)), (1, .int (nI kx)), (2, .int (nI ky))]) hx hb dX6_comes_34 hl (by decide) rfl (fun ls hl => ?_)
      refine rn_iconst hx hb 1 rfl dX6_comes_36 ?_
      refine lv_istore (lv' := [(5, .int (nI 1)), (4, .int (-6)), (3, .int (nI (ky * 10 + kx))), (0, .ref (m 0)), (1, .int (nI kx)), (2, .int (nI ky))]) hx hb dX6_comes_37 hl (by decide) rfl (fun ls hl => ?_)
      have LP_39 : ∀ (nn_ : Nat) (k : Nat) (f : Int32) (zz : Nat → Int32) (tt : Nat → Int32), (81 - k) < nn_ → (1 ≤ k) → (k ≤ 81) → (f = comR z nd np (ky * 10 + kx) (k - 1)) → (zz = runM z nd np (k - 1)) → (tt = thM z th nd np (k - 1)) → (comK z nd np (ky * 10 + kx) (k - 1) = k - 1) → ∀ (H : Heap) (locs : List Loc) (ls : Array Slot), wld G A_ [(m 0, .inr (6, [.ref (m 1), .ref (m 2), .ref (m 3), .ref (m 4), .int (nI pm), .ref (m 5), .ref (m 6), .int (nI ty), .ref (m 7)])), (m 1, .inl (cA 0, 345, .inl zz)), (m 5, .inl (cA 0, 345, .inl z)), (m 7, .inl (cA 0, 60, .inl tt))] s_.heap H locs → lv_has ls 6 [(0, .ref (m 0)), (1, .int (nI kx)), (2, .int (nI ky)), (3, .int (nI (ky * 10 + kx))), (4, .int f), (5, .int (nI k))] → W p_ l e_ ({ frames := 6, cells := 0, slots := 0, locals := 134 } : Room) s_ m_ ([.ref (m 0), .int (nI kx), .int (nI ky)] : List Value).toArray below meth c_ H locs 0 0 (MQ below (va_Qi (fun r_ (_ : Unit) => r_ = (comR z nd np (ky * 10 + kx) 80)) (fun _ t_ => va_P G vwCl [(m 0, .inr (6, [.ref (m 1), .ref (m 2), .ref (m 3), .ref (m 4), .int (nI pm), .ref (m 5), .ref (m 6), .int (nI ty), .ref (m 7)])), (m 1, .inl (cA 0, 345, .inl z)), (m 5, .inl (cA 0, 345, .inl z)), (m 7, .inl (cA 0, 60, .inl (thM z th nd np (comK z nd np (ky * 10 + kx) 80))))] t_.heap ∧ va_D A_ [(m 0, .inr (6, [.ref (m 1), .ref (m 2), .ref (m 3), .ref (m 4), .int (nI pm), .ref (m 5), .ref (m 6), .int (nI ty), .ref (m 7)])), (m 1, .inl (cA 0, 345, .inl z)), (m 5, .inl (cA 0, 345, .inl z)), (m 7, .inl (cA 0, 60, .inl (thM z th nd np (comK z nd np (ky * 10 + kx) 80))))]) A_) ([.ref (m 0), .int (nI kx), .int (nI ky)] : List Value).toArray s_ 0 0 A_) (F0 m_ 39 ls []) := by
        intro nn_
        induction nn_ with
        | zero => intro k f zz tt hmu; exact absurd hmu (Nat.not_lt_zero _)
        | succ nn_ ih =>
          have ih_39 := ih
          clear ih
          intro k f zz tt hmu_39 hk1 hk hf hzz htt hkk H locs ls hW hl
          refine lv_iload hx hb dX6_comes_39 (lv_at hl 5 rfl) ?_
          refine lv_bipush (v := (nI 80)) hx hb dX6_comes_41 kb_80 ?_
          refine rn_icmp_gt hx hb (by omega) (by omega) dX6_comes_43 (by decide) (tgt := 80) (fun c_43 => ?_) (fun c_43 => ?_)
          · have hend : f = comR z nd np (ky * 10 + kx) 80 ∧ comK z nd np (ky * 10 + kx) 80 = k - 1 := by
              first | (have e81 : k - 1 = 80 := by omega); rw [e81] at hf hkk; exact ⟨hf, by rw [hkk, e81]⟩ | (have hs : ¬ comR z nd np (ky * 10 + kx) (k - 1) = -6 := by rw [← hf]; exact c_50); (have e80 : 80 = k - 1 + (81 - k) := by omega); exact ⟨by rw [e80, comR_stays hs, hf], by rw [e80, comK_stays hs, hkk]⟩
            refine lv_aload_n hx hb dX6_comes_80 rfl (lv_at hl 0 rfl) ?_
            refine muvV (ws' := [(m 0, .inr (6, [.ref (m 1), .ref (m 2), .ref (m 3), .ref (m 4), .int (nI pm), .ref (m 5), .ref (m 6), .int (nI ty), .ref (m 7)])), (m 1, .inl (cA 0, 345, .inl z)), (m 5, .inl (cA 0, 345, .inl z)), (m 7, .inl (cA 0, 60, .inl tt))]) CX hE hW hA (c_X6_bringBack l G cA m pm ty zz z ) (cwV 0 hts gX6_comes_X6_bringBack rfl rfl rfl hdv_X6_bringBack ⟨Nat.le_of_ble_eq_true rfl, Nat.le_of_ble_eq_true rfl⟩) [0, 1, 2] (by decide) rfl rfl rfl 0 rfl rfl rfl BM0_blind (fun _ _ _ _ => trivial) rfl hl.1 (rest := []) rfl (Nat.le_of_ble_eq_true rfl) dX6_comes_81 ⟨Nat.zero_le _, Nat.zero_le _⟩ (fun H locs hW => ?_)
            refine lv_iload hx hb dX6_comes_84 (lv_at hl 4 rfl) ?_
            have hW := hW.ext (ws' := [(m 0, .inr (6, [.ref (m 1), .ref (m 2), .ref (m 3), .ref (m 4), .int (nI pm), .ref (m 5), .ref (m 6), .int (nI ty), .ref (m 7)])), (m 1, .inl (cA 0, 345, .inl z)), (m 5, .inl (cA 0, 345, .inl z)), (m 7, .inl (cA 0, 60, .inl (thM z th nd np (comK z nd np (ky * 10 + kx) 80))))]) 3 (g := (thM z th nd np (comK z nd np (ky * 10 + kx) 80))) rfl (fun j _ => by rw [hend.2, htt]) rfl
            exact mu_reti CX hr hlk hend.1 rfl hW dX6_comes_86
          · refine lv_iload hx hb dX6_comes_46 (lv_at hl 4 rfl) ?_
            refine lv_bipush (v := (-6)) hx hb dX6_comes_48 kb_m6 ?_
            refine lv_icmp_ne hx hb dX6_comes_50 (by decide) (tgt := 80) (fun c_50 => ?_) (fun c_50 => ?_)
            · have hend : f = comR z nd np (ky * 10 + kx) 80 ∧ comK z nd np (ky * 10 + kx) 80 = k - 1 := by
                first | (have e81 : k - 1 = 80 := by omega); rw [e81] at hf hkk; exact ⟨hf, by rw [hkk, e81]⟩ | (have hs : ¬ comR z nd np (ky * 10 + kx) (k - 1) = -6 := by rw [← hf]; exact c_50); (have e80 : 80 = k - 1 + (81 - k) := by omega); exact ⟨by rw [e80, comR_stays hs, hf], by rw [e80, comK_stays hs, hkk]⟩
              refine lv_aload_n hx hb dX6_comes_80 rfl (lv_at hl 0 rfl) ?_
              refine muvV (ws' := [(m 0, .inr (6, [.ref (m 1), .ref (m 2), .ref (m 3), .ref (m 4), .int (nI pm), .ref (m 5), .ref (m 6), .int (nI ty), .ref (m 7)])), (m 1, .inl (cA 0, 345, .inl z)), (m 5, .inl (cA 0, 345, .inl z)), (m 7, .inl (cA 0, 60, .inl tt))]) CX hE hW hA (c_X6_bringBack l G cA m pm ty zz z ) (cwV 0 hts gX6_comes_X6_bringBack rfl rfl rfl hdv_X6_bringBack ⟨Nat.le_of_ble_eq_true rfl, Nat.le_of_ble_eq_true rfl⟩) [0, 1, 2] (by decide) rfl rfl rfl 0 rfl rfl rfl BM0_blind (fun _ _ _ _ => trivial) rfl hl.1 (rest := []) rfl (Nat.le_of_ble_eq_true rfl) dX6_comes_81 ⟨Nat.zero_le _, Nat.zero_le _⟩ (fun H locs hW => ?_)
              refine lv_iload hx hb dX6_comes_84 (lv_at hl 4 rfl) ?_
              have hW := hW.ext (ws' := [(m 0, .inr (6, [.ref (m 1), .ref (m 2), .ref (m 3), .ref (m 4), .int (nI pm), .ref (m 5), .ref (m 6), .int (nI ty), .ref (m 7)])), (m 1, .inl (cA 0, 345, .inl z)), (m 5, .inl (cA 0, 345, .inl z)), (m 7, .inl (cA 0, 60, .inl (thM z th nd np (comK z nd np (ky * 10 + kx) 80))))]) 3 (g := (thM z th nd np (comK z nd np (ky * 10 + kx) 80))) rfl (fun j _ => by rw [hend.2, htt]) rfl
              exact mu_reti CX hr hlk hend.1 rfl hW dX6_comes_86
            · have hok3 : okM zz nd np := by rw [hzz]; exact hok.run (k - 1)
              refine lv_aload_n hx hb dX6_comes_53 rfl (lv_at hl 0 rfl) ?_
              refine muvV (ws' := [(m 0, .inr (6, [.ref (m 1), .ref (m 2), .ref (m 3), .ref (m 4), .int (nI pm), .ref (m 5), .ref (m 6), .int (nI ty), .ref (m 7)])), (m 1, .inl (cA 0, 345, .inl (tickM zz nd np))), (m 5, .inl (cA 0, 345, .inl z)), (m 7, .inl (cA 0, 60, .inl (thenF zz nd)))]) CX hE hW hA (c_X6_tick l G cA m pm ty zz tt nd np (by assumption)) (cwV 0 hts gX6_comes_X6_tick rfl rfl rfl hdv_X6_tick ⟨Nat.le_of_ble_eq_true rfl, Nat.le_of_ble_eq_true rfl⟩) [0, 1, 3] (by decide) rfl rfl rfl 0 rfl rfl rfl BM0_blind (fun _ _ _ _ => trivial) rfl hl.1 (rest := []) rfl (Nat.le_of_ble_eq_true rfl) dX6_comes_54 ⟨Nat.zero_le _, Nat.zero_le _⟩ (fun H locs hW => ?_)
              refine lv_aload_n hx hb dX6_comes_57 rfl (lv_at hl 0 rfl) ?_
              refine lv_iload_n hx hb dX6_comes_58 rfl (lv_at hl 3 rfl) ?_
              refine roV CX hE hW.1 (c_X6_isStill l G cA m pm ty (tickM zz nd np) (ky * 10 + kx) (by omega)) (cwV 1 hts gX6_comes_X6_isStill rfl rfl rfl hdv_X6_isStill ⟨Nat.le_of_ble_eq_true rfl, Nat.le_of_ble_eq_true rfl⟩) [0, 1] rfl 0 rfl rfl rfl B0_blind (fun _ _ _ => trivial) rfl hl.1 (rest := []) rfl (Nat.le_of_ble_eq_true rfl) dX6_comes_59 ⟨Nat.zero_le _, Nat.zero_le _⟩ ?_
              have J_72 : ∀ v : Int32, v = (if stillP (tickM zz nd np) (shf 65 (tickM zz nd np)) (shf 125 (tickM zz nd np)) (ky * 10 + kx) then -6 else nI k) → W p_ l e_ ({ frames := 6, cells := 0, slots := 0, locals := 134 } : Room) s_ m_ ([.ref (m 0), .int (nI kx), .int (nI ky)] : List Value).toArray below meth c_ H locs 0 0 (MQ below (va_Qi (fun r_ (_ : Unit) => r_ = (comR z nd np (ky * 10 + kx) 80)) (fun _ t_ => va_P G vwCl [(m 0, .inr (6, [.ref (m 1), .ref (m 2), .ref (m 3), .ref (m 4), .int (nI pm), .ref (m 5), .ref (m 6), .int (nI ty), .ref (m 7)])), (m 1, .inl (cA 0, 345, .inl z)), (m 5, .inl (cA 0, 345, .inl z)), (m 7, .inl (cA 0, 60, .inl (thM z th nd np (comK z nd np (ky * 10 + kx) 80))))] t_.heap ∧ va_D A_ [(m 0, .inr (6, [.ref (m 1), .ref (m 2), .ref (m 3), .ref (m 4), .int (nI pm), .ref (m 5), .ref (m 6), .int (nI ty), .ref (m 7)])), (m 1, .inl (cA 0, 345, .inl z)), (m 5, .inl (cA 0, 345, .inl z)), (m 7, .inl (cA 0, 60, .inl (thM z th nd np (comK z nd np (ky * 10 + kx) 80))))]) A_) ([.ref (m 0), .int (nI kx), .int (nI ky)] : List Value).toArray s_ 0 0 A_) (F0 m_ 72 ls [.int v]) := by
                intro v hv
                subst hv
                refine lv_istore (lv' := [(4, .int (if stillP (tickM zz nd np) (shf 65 (tickM zz nd np)) (shf 125 (tickM zz nd np)) (ky * 10 + kx) then -6 else nI k)), (0, .ref (m 0)), (1, .int (nI kx)), (2, .int (nI ky)), (3, .int (nI (ky * 10 + kx))), (5, .int (nI k))]) hx hb dX6_comes_72 hl (by decide) rfl (fun ls hl => ?_)
                refine rn_iinc hx hb (n := 1) (lv' := [(5, .int (nI (k + 1))), (4, .int (if stillP (tickM zz nd np) (shf 65 (tickM zz nd np)) (shf 125 (tickM zz nd np)) (ky * 10 + kx) then -6 else nI k)), (0, .ref (m 0)), (1, .int (nI kx)), (2, .int (nI ky)), (3, .int (nI (ky * 10 + kx)))]) rfl dX6_comes_74 hl (k := 5) rfl (by decide) rfl (fun ls hl => ?_)
                refine lv_goto (tgt := 39) hx hb dX6_comes_77 (by decide) ?_
                have ek : k + 1 - 1 = k - 1 + 1 := by omega
                have hnz : tickM zz nd np = runM z nd np (k + 1 - 1) := by rw [hzz, ek]; rfl
                have hnf : (if stillP (tickM zz nd np) (shf 65 (tickM zz nd np)) (shf 125 (tickM zz nd np)) (ky * 10 + kx) then -6 else nI k) = comR z nd np (ky * 10 + kx) (k + 1 - 1) := by rw [ek, comR, ← hf, if_pos c_50, ← ek, ← hnz, ek, show k - 1 + 1 = k by omega]
                exact ih_39 (k + 1) (if stillP (tickM zz nd np) (shf 65 (tickM zz nd np)) (shf 125 (tickM zz nd np)) (ky * 10 + kx) then -6 else nI k) (tickM zz nd np) (thenF zz nd) (by omega) (by omega) (by omega) hnf hnz (by rw [hzz, show k + 1 - 1 = k - 1 + 1 by omega]; rfl) (by rw [show k + 1 - 1 = k - 1 + 1 by omega, comK, ← hf, if_pos c_50]) _ _ ls hW (lv_sub hl [2, 3, 4, 5, 1, 0] rfl)
              refine rb_if_eq hx hb dX6_comes_62 (by decide) (tgt := 70) (fun c_62 => ?_) (fun c_62 => ?_)
              · refine lv_iload hx hb dX6_comes_70 (lv_at hl 5 rfl) ?_
                exact J_72 _ (by first | exact (if_pos c_62).symm | exact (if_neg c_62).symm)
              · refine lv_bipush (v := (-6)) hx hb dX6_comes_65 kb_m6 ?_
                refine lv_goto (tgt := 72) hx hb dX6_comes_67 (by decide) ?_
                exact J_72 _ (by first | exact (if_pos c_62).symm | exact (if_neg c_62).symm)
      exact LP_39 _ 1 (-6) z th (Nat.lt_succ_self _) (by omega) (by omega) rfl rfl rfl rfl _ _ ls hW (lv_sub hl [3, 4, 5, 2, 1, 0] rfl)
    · exact absurd hst c_22
  · exact absurd (cellP_of hkx hky) c_5
set_option maxHeartbeats 4000000 in
set_option maxRecDepth 100000 in
theorem c_X6_comes_e (l : Launch) (G : va_G) (cA : Nat → ClassId) (m : Nat → Nat) (pm : Nat) (ty : Nat) (z : Nat → Int32) (x : Int32) (y : Int32) (hbad : ∀ i j, i < 10 → j < 6 → x = nI i → y = nI j → ¬ stillP z (shf 65 z) (shf 125 z) (j * 10 + i)) : RO l yX6_comes wsX6_comes ({ frames := 2, cells := 0, slots := 0, locals := 43 }) G cA B0 [(m 0, .inr (6, [.ref (m 1), .ref (m 2), .ref (m 3), .ref (m 4), .int (nI pm), .ref (m 5), .ref (m 6), .int (nI ty), .ref (m 7)])), (m 1, .inl (cA 0, 345, .inl z))] [.ref (m 0), .int x, .int y] (if ¬ cellP x y then -1 else -5) := by
  refine RO.mk (own := RX6) (by decide) rfl rfl (Nat.le_of_ble_eq_true rfl) (fun p_ e_ s_ m_ below meth c_ ls CX hr hlk hP hE hB hl => ?_)
  obtain ⟨hx, hb, hml, hown, hts⟩ := id CX
  have hl : lv_has ls 6 [(0, .ref (m 0)), (1, .int x), (2, .int y)] := hl
  refine lv_iload_n hx hb dX6_comes_0 rfl (lv_at hl 1 rfl) ?_
  refine lv_iload_n hx hb dX6_comes_1 rfl (lv_at hl 2 rfl) ?_
  refine roS CX hE hP (c_X6_isCell l G cA x y ) (va_cwS 2 hts gX6_comes_X6_isCell rfl rfl rfl hdn_X6_isCell ⟨Nat.le_of_ble_eq_true rfl, Nat.le_of_ble_eq_true rfl⟩) [] rfl B0_blind (fun _ _ _ => trivial) rfl hl.1 (rest := []) rfl (Nat.le_of_ble_eq_true rfl) dX6_comes_2 ⟨Nat.zero_le _, Nat.zero_le _⟩ ?_
  refine rb_if_ne hx hb dX6_comes_5 (by decide) (tgt := 10) (fun c_5 => ?_) (fun c_5 => ?_)
  · obtain ⟨kx, ky, hkx, hky, ex, ey⟩ := cellP_nat c_5
    subst ex
    subst ey
    refine lv_bipush (v := (nI 10)) hx hb dX6_comes_10 kb_10 ?_
    refine lv_iload_n hx hb dX6_comes_12 rfl (lv_at hl 2 rfl) ?_
    refine rn_imul hx hb dX6_comes_13 ?_
    refine lv_iload_n hx hb dX6_comes_14 rfl (lv_at hl 1 rfl) ?_
    refine rn_iadd hx hb dX6_comes_15 ?_
    refine rn_top (nI (ky * 10 + kx)) (by rw [Nat.mul_comm]) ?_
    refine lv_istore_n (lv' := [(3, .int (nI (ky * 10 + kx))), (0, .ref (m 0)), (1, .int (nI kx)), (2, .int (nI ky))]) hx hb dX6_comes_16 rfl hl (by decide) rfl (fun ls hl => ?_)
    refine lv_aload_n hx hb dX6_comes_17 rfl (lv_at hl 1 rfl) ?_
    refine lv_iload_n hx hb dX6_comes_18 rfl (lv_at hl 0 rfl) ?_
    refine roV CX hE hP (c_X6_isStill l G cA m pm ty z (ky * 10 + kx) (by omega)) (cwV 1 hts gX6_comes_X6_isStill rfl rfl rfl hdv_X6_isStill ⟨Nat.le_of_ble_eq_true rfl, Nat.le_of_ble_eq_true rfl⟩) [0, 1] rfl 0 rfl rfl rfl B0_blind (fun _ _ _ => trivial) rfl hl.1 (rest := []) rfl (Nat.le_of_ble_eq_true rfl) dX6_comes_19 ⟨Nat.zero_le _, Nat.zero_le _⟩ ?_
    refine rb_if_ne hx hb dX6_comes_22 (by decide) (tgt := 28) (fun c_22 => ?_) (fun c_22 => ?_)
    · exact absurd c_22 (hbad kx ky hkx hky rfl rfl)
    · refine lv_bipush (v := (-5)) hx hb dX6_comes_25 kb_m5 ?_
      exact ro_ret CX hr hlk ((if_neg (fun q => q (cellP_of hkx hky))).symm) rfl dX6_comes_27
  · refine lv_iconst (v := (-1)) hx hb dX6_comes_8 (by decide) ?_
    exact ro_ret CX hr hlk ((if_pos c_5).symm) rfl dX6_comes_9
theorem kb_30 : (Int8.ofInt (30)).toInt32 = (nI 30) := by decide +kernel
theorem fl_X6_hush_23 : Cond.fieldLink RX6 23 RX6 (TX6 5).2.1 (TX6 5).2.2.1 ∈ wsX6_hush := by decide +kernel
theorem in_X6_hush_X6 : ∀ w ∈ wsX60, w ∈ wsX6_hush := by decide +kernel
theorem fl_X6_hush_7 : Cond.fieldLink RX6 7 RX6 (TX6 0).2.1 (TX6 0).2.2.1 ∈ wsX6_hush := by decide +kernel
set_option maxHeartbeats 4000000 in
set_option maxRecDepth 100000 in
theorem c_X6_hush_k (l : Launch) (G : va_G) (cA : Nat → ClassId) (m : Nat → Nat) (pm : Nat) (ty : Nat) (z : Nat → Int32) (sp : Nat → Int32) (th : Nat → Int32) (d : Nat) (kx : Nat) (ky : Nat) (n : Nat) (w : Int32) (nd : Nat) (np : Nat) (pe : Nat) (hd : d < nd) (hkx : kx < 10) (hky : ky < 6) (hn1 : 1 ≤ n) (hn : n ≤ 30) (hw : inP w (nI 0) (nI 1)) (hpe1 : z (246 + 4 * d + 1) = nI pe) (hpe40 : pe ≤ 40) (hok : okM z nd np) : MUi l yX6_hush wsX6_hush ({ frames := 7, cells := 0, slots := 0, locals := 156 }) G cA BM0 [(m 0, .inr (6, [.ref (m 1), .ref (m 2), .ref (m 3), .ref (m 4), .int (nI pm), .ref (m 5), .ref (m 6), .int (nI ty), .ref (m 7)])), (m 1, .inl (cA 0, 345, .inl z)), (m 5, .inl (cA 0, 345, .inl sp)), (m 7, .inl (cA 0, 60, .inl th))] [.ref (m 0), .int (nI d), .int (nI kx), .int (nI ky), .int (nI n), .int w] [(m 0, .inr (6, [.ref (m 1), .ref (m 2), .ref (m 3), .ref (m 4), .int (nI pm), .ref (m 5), .ref (m 6), .int (nI ty), .ref (m 7)])), (m 1, .inl (cA 0, 345, .inl z)), (m 5, .inl (cA 0, 345, .inl z)), (m 7, .inl (cA 0, 60, .inl (hushT z th nd np d n pe)))] (if w = nI 0 then (hushR z nd np d (ky * 10 + kx) n pe).1 else (hushR z nd np d (ky * 10 + kx) n pe).2) := by
  refine MUi.mk (own := RX6) (by decide) rfl rfl (Nat.le_of_ble_eq_true rfl) (fun p_ e_ s_ m_ below meth c_ ls A_ CX hr hlk hW hA hE hB hl => ?_)
  obtain ⟨hx, hb, hml, hown, hts⟩ := id CX
  have hl : lv_has ls 11 [(0, .ref (m 0)), (1, .int (nI d)), (2, .int (nI kx)), (3, .int (nI ky)), (4, .int (nI n)), (5, .int w)] := hl
  have hW : wld G A_ [(m 0, .inr (6, [.ref (m 1), .ref (m 2), .ref (m 3), .ref (m 4), .int (nI pm), .ref (m 5), .ref (m 6), .int (nI ty), .ref (m 7)])), (m 1, .inl (cA 0, 345, .inl z)), (m 5, .inl (cA 0, 345, .inl sp)), (m 7, .inl (cA 0, 60, .inl th))] s_.heap s_.heap [] := hW
  obtain ⟨hz, hnd, hz2, hnp⟩ := hok.1
  refine lv_aload_n hx hb dX6_hush_0 rfl (lv_at hl 0 rfl) ?_
  refine lv_iload_n hx hb dX6_hush_1 rfl (lv_at hl 1 rfl) ?_
  refine roV CX hE hW.1 (c_X6_isDipper l G cA m pm ty z (nI d) ) (cwV 1 hts gX6_hush_X6_isDipper rfl rfl rfl hdv_X6_isDipper ⟨Nat.le_of_ble_eq_true rfl, Nat.le_of_ble_eq_true rfl⟩) [0, 1] rfl 0 rfl rfl rfl B0_blind (fun _ _ _ => trivial) rfl hl.1 (rest := []) rfl (Nat.le_of_ble_eq_true rfl) dX6_hush_2 ⟨Nat.zero_le _, Nat.zero_le _⟩ ?_
  refine rb_if_eq hx hb dX6_hush_5 (by decide) (tgt := 16) (fun c_5 => ?_) (fun c_5 => ?_)
  · exact absurd (show 0 ≤ nI d ∧ nI d < z 245 by rw [hz]; exact inD_of hd (by omega)) c_5
  · refine lv_iload_n hx hb dX6_hush_8 rfl (lv_at hl 2 rfl) ?_
    refine lv_iload_n hx hb dX6_hush_9 rfl (lv_at hl 3 rfl) ?_
    refine roS CX hE hW.1 (c_X6_isCell l G cA (nI kx) (nI ky) ) (va_cwS 2 hts gX6_hush_X6_isCell rfl rfl rfl hdn_X6_isCell ⟨Nat.le_of_ble_eq_true rfl, Nat.le_of_ble_eq_true rfl⟩) [] rfl B0_blind (fun _ _ _ => trivial) rfl hl.1 (rest := []) rfl (Nat.le_of_ble_eq_true rfl) dX6_hush_10 ⟨Nat.zero_le _, Nat.zero_le _⟩ ?_
    refine rb_if_ne hx hb dX6_hush_13 (by decide) (tgt := 18) (fun c_13 => ?_) (fun c_13 => ?_)
    · refine lv_iload hx hb dX6_hush_18 (lv_at hl 4 rfl) ?_
      refine rn_iconst hx hb 1 rfl dX6_hush_20 ?_
      refine lv_bipush (v := (nI 30)) hx hb dX6_hush_21 kb_30 ?_
      refine roS CX hE hW.1 (c_X6_in l G cA (nI n) (nI 1) (nI 30) ) (va_cwS 3 hts gX6_hush_X6_in rfl rfl rfl hdn_X6_in ⟨Nat.le_of_ble_eq_true rfl, Nat.le_of_ble_eq_true rfl⟩) [] rfl B0_blind (fun _ _ _ => trivial) rfl hl.1 (rest := []) rfl (Nat.le_of_ble_eq_true rfl) dX6_hush_23 ⟨Nat.zero_le _, Nat.zero_le _⟩ ?_
      refine rb_if_eq hx hb dX6_hush_26 (by decide) (tgt := 39) (fun c_26 => ?_) (fun c_26 => ?_)
      · exact absurd (inP_nI hn1 hn (by decide)) c_26
      · refine lv_iload hx hb dX6_hush_29 (lv_at hl 5 rfl) ?_
        refine rn_iconst hx hb 0 rfl dX6_hush_31 ?_
        refine rn_iconst hx hb 1 rfl dX6_hush_32 ?_
        refine roS CX hE hW.1 (c_X6_in l G cA w (nI 0) (nI 1) ) (va_cwS 3 hts gX6_hush_X6_in rfl rfl rfl hdn_X6_in ⟨Nat.le_of_ble_eq_true rfl, Nat.le_of_ble_eq_true rfl⟩) [] rfl B0_blind (fun _ _ _ => trivial) rfl hl.1 (rest := []) rfl (Nat.le_of_ble_eq_true rfl) dX6_hush_33 ⟨Nat.zero_le _, Nat.zero_le _⟩ ?_
        refine rb_if_ne hx hb dX6_hush_36 (by decide) (tgt := 42) (fun c_36 => ?_) (fun c_36 => ?_)
        · refine lv_aload_n hx hb dX6_hush_42 rfl (lv_at hl 0 rfl) ?_
          refine muvV (ws' := [(m 0, .inr (6, [.ref (m 1), .ref (m 2), .ref (m 3), .ref (m 4), .int (nI pm), .ref (m 5), .ref (m 6), .int (nI ty), .ref (m 7)])), (m 1, .inl (cA 0, 345, .inl z)), (m 5, .inl (cA 0, 345, .inl z)), (m 7, .inl (cA 0, 60, .inl th))]) CX hE hW hA (c_X6_putAside l G cA m pm ty z sp ) (cwV 0 hts gX6_hush_X6_putAside rfl rfl rfl hdv_X6_putAside ⟨Nat.le_of_ble_eq_true rfl, Nat.le_of_ble_eq_true rfl⟩) [0, 1, 2] (by decide) rfl rfl rfl 0 rfl rfl rfl BM0_blind (fun _ _ _ _ => trivial) rfl hl.1 (rest := []) rfl (Nat.le_of_ble_eq_true rfl) dX6_hush_43 ⟨Nat.zero_le _, Nat.zero_le _⟩ (fun H locs hW => ?_)
          refine lv_bipush (v := (-6)) hx hb dX6_hush_46 kb_m6 ?_
          refine lv_istore (lv' := [(6, .int (-6)), (0, .ref (m 0)), (1, .int (nI d)), (2, .int (nI kx)), (3, .int (nI ky)), (4, .int (nI n)), (5, .int w)]) hx hb dX6_hush_48 hl (by decide) rfl (fun ls hl => ?_)
          refine rn_iconst hx hb 0 rfl dX6_hush_50 ?_
          refine lv_istore (lv' := [(7, .int (nI 0)), (6, .int (-6)), (0, .ref (m 0)), (1, .int (nI d)), (2, .int (nI kx)), (3, .int (nI ky)), (4, .int (nI n)), (5, .int w)]) hx hb dX6_hush_51 hl (by decide) rfl (fun ls hl => ?_)
          refine rn_iconst hx hb 0 rfl dX6_hush_53 ?_
          refine lv_istore (lv' := [(8, .int (nI 0)), (7, .int (nI 0)), (6, .int (-6)), (0, .ref (m 0)), (1, .int (nI d)), (2, .int (nI kx)), (3, .int (nI ky)), (4, .int (nI n)), (5, .int w)]) hx hb dX6_hush_54 hl (by decide) rfl (fun ls hl => ?_)
          have LP_56 : ∀ (nn_ : Nat) (s : Nat) (f : Int32) (ml : Int32) (zz : Nat → Int32) (tt : Nat → Int32), (pe - s) < nn_ → (s ≤ pe) → (f = (hushR z nd np d (ky * 10 + kx) n s).1) → (ml = (hushR z nd np d (ky * 10 + kx) n s).2) → (tt = hushT z th nd np d n s) → ∀ (H : Heap) (locs : List Loc) (ls : Array Slot), wld G A_ [(m 0, .inr (6, [.ref (m 1), .ref (m 2), .ref (m 3), .ref (m 4), .int (nI pm), .ref (m 5), .ref (m 6), .int (nI ty), .ref (m 7)])), (m 1, .inl (cA 0, 345, .inl zz)), (m 5, .inl (cA 0, 345, .inl z)), (m 7, .inl (cA 0, 60, .inl tt))] s_.heap H locs → lv_has ls 11 [(0, .ref (m 0)), (1, .int (nI d)), (2, .int (nI kx)), (3, .int (nI ky)), (4, .int (nI n)), (5, .int w), (6, .int f), (7, .int ml), (8, .int (nI s))] → W p_ l e_ ({ frames := 7, cells := 0, slots := 0, locals := 156 } : Room) s_ m_ ([.ref (m 0), .int (nI d), .int (nI kx), .int (nI ky), .int (nI n), .int w] : List Value).toArray below meth c_ H locs 0 0 (MQ below (va_Qi (fun r_ (_ : Unit) => r_ = (if w = nI 0 then (hushR z nd np d (ky * 10 + kx) n pe).1 else (hushR z nd np d (ky * 10 + kx) n pe).2)) (fun _ t_ => va_P G vwCl [(m 0, .inr (6, [.ref (m 1), .ref (m 2), .ref (m 3), .ref (m 4), .int (nI pm), .ref (m 5), .ref (m 6), .int (nI ty), .ref (m 7)])), (m 1, .inl (cA 0, 345, .inl z)), (m 5, .inl (cA 0, 345, .inl z)), (m 7, .inl (cA 0, 60, .inl (hushT z th nd np d n pe)))] t_.heap ∧ va_D A_ [(m 0, .inr (6, [.ref (m 1), .ref (m 2), .ref (m 3), .ref (m 4), .int (nI pm), .ref (m 5), .ref (m 6), .int (nI ty), .ref (m 7)])), (m 1, .inl (cA 0, 345, .inl z)), (m 5, .inl (cA 0, 345, .inl z)), (m 7, .inl (cA 0, 60, .inl (hushT z th nd np d n pe)))]) A_) ([.ref (m 0), .int (nI d), .int (nI kx), .int (nI ky), .int (nI n), .int w] : List Value).toArray s_ 0 0 A_) (F0 m_ 56 ls []) := by
            intro nn_
            induction nn_ with
            | zero => intro s f ml zz tt hmu; exact absurd hmu (Nat.not_lt_zero _)
            | succ nn_ ih =>
              have ih_56 := ih
              clear ih
              intro s f ml zz tt hmu_56 hs hf hml_ htt H locs ls hW hl
              refine lv_iload hx hb dX6_hush_56 (lv_at hl 8 rfl) ?_
              refine lv_aload_n hx hb dX6_hush_58 rfl (lv_at hl 0 rfl) ?_
              refine rg (T := TX6) (N := 9) CX hE hW.1 in_X6_hush_X6 0 rfl rfl 5 (by decide) fl_X6_hush_23 rfl rfl dX6_hush_59 ?_
              refine lv_sipush (v := (nI 246)) hx hb dX6_hush_62 ks_246 ?_
              refine rn_iconst hx hb 4 rfl dX6_hush_65 ?_
              refine lv_iload_n hx hb dX6_hush_66 rfl (lv_at hl 1 rfl) ?_
              refine rn_imul hx hb dX6_hush_67 ?_
              refine rn_iadd hx hb dX6_hush_68 ?_
              refine rn_iconst hx hb 1 rfl dX6_hush_69 ?_
              refine rn_iadd hx hb dX6_hush_70 ?_
              refine rn_iald CX hE hW.1 2 rfl (j := ((246 + (4 * d)) + 1)) (by omega) (ltb rfl) dX6_hush_71 ?_
              refine rn_top (nI pe) hpe1 ?_
              refine rn_icmp_ge hx hb (by omega) (by omega) dX6_hush_72 (by decide) (tgt := 171) (fun c_72 => ?_) (fun c_72 => ?_)
              · have es : s = pe := by omega
                rw [es] at hf hml_ htt
                refine lv_aload_n hx hb dX6_hush_171 rfl (lv_at hl 0 rfl) ?_
                refine muvV (ws' := [(m 0, .inr (6, [.ref (m 1), .ref (m 2), .ref (m 3), .ref (m 4), .int (nI pm), .ref (m 5), .ref (m 6), .int (nI ty), .ref (m 7)])), (m 1, .inl (cA 0, 345, .inl z)), (m 5, .inl (cA 0, 345, .inl z)), (m 7, .inl (cA 0, 60, .inl tt))]) CX hE hW hA (c_X6_bringBack l G cA m pm ty zz z ) (cwV 0 hts gX6_hush_X6_bringBack rfl rfl rfl hdv_X6_bringBack ⟨Nat.le_of_ble_eq_true rfl, Nat.le_of_ble_eq_true rfl⟩) [0, 1, 2] (by decide) rfl rfl rfl 0 rfl rfl rfl BM0_blind (fun _ _ _ _ => trivial) rfl hl.1 (rest := []) rfl (Nat.le_of_ble_eq_true rfl) dX6_hush_172 ⟨Nat.zero_le _, Nat.zero_le _⟩ (fun H locs hW => ?_)
                refine lv_iload hx hb dX6_hush_175 (lv_at hl 5 rfl) ?_
                refine lv_if_ne hx hb dX6_hush_177 (by decide) (tgt := 185) (fun c_177 => ?_) (fun c_177 => ?_)
                · refine lv_iload hx hb dX6_hush_185 (lv_at hl 7 rfl) ?_
                  have hW := hW.ext (ws' := [(m 0, .inr (6, [.ref (m 1), .ref (m 2), .ref (m 3), .ref (m 4), .int (nI pm), .ref (m 5), .ref (m 6), .int (nI ty), .ref (m 7)])), (m 1, .inl (cA 0, 345, .inl z)), (m 5, .inl (cA 0, 345, .inl z)), (m 7, .inl (cA 0, 60, .inl (hushT z th nd np d n pe)))]) 3 (g := (hushT z th nd np d n pe)) rfl (fun j _ => by rw [htt]) rfl
                  exact mu_reti CX hr hlk (by first | (rw [if_pos (show w = nI 0 from c_177)]; exact hf) | (rw [if_neg (show ¬ w = nI 0 from c_177)]; exact hml_)) rfl hW dX6_hush_187
                · refine lv_iload hx hb dX6_hush_180 (lv_at hl 6 rfl) ?_
                  refine lv_goto (tgt := 187) hx hb dX6_hush_182 (by decide) ?_
                  have hW := hW.ext (ws' := [(m 0, .inr (6, [.ref (m 1), .ref (m 2), .ref (m 3), .ref (m 4), .int (nI pm), .ref (m 5), .ref (m 6), .int (nI ty), .ref (m 7)])), (m 1, .inl (cA 0, 345, .inl z)), (m 5, .inl (cA 0, 345, .inl z)), (m 7, .inl (cA 0, 60, .inl (hushT z th nd np d n pe)))]) 3 (g := (hushT z th nd np d n pe)) rfl (fun j _ => by rw [htt]) rfl
                  exact mu_reti CX hr hlk (by first | (rw [if_pos (show w = nI 0 from c_177)]; exact hf) | (rw [if_neg (show ¬ w = nI 0 from c_177)]; exact hml_)) rfl hW dX6_hush_187
              · refine lv_aload_n hx hb dX6_hush_75 rfl (lv_at hl 0 rfl) ?_
                refine muvV (ws' := [(m 0, .inr (6, [.ref (m 1), .ref (m 2), .ref (m 3), .ref (m 4), .int (nI pm), .ref (m 5), .ref (m 6), .int (nI ty), .ref (m 7)])), (m 1, .inl (cA 0, 345, .inl z)), (m 5, .inl (cA 0, 345, .inl z)), (m 7, .inl (cA 0, 60, .inl tt))]) CX hE hW hA (c_X6_bringBack l G cA m pm ty zz z ) (cwV 0 hts gX6_hush_X6_bringBack rfl rfl rfl hdv_X6_bringBack ⟨Nat.le_of_ble_eq_true rfl, Nat.le_of_ble_eq_true rfl⟩) [0, 1, 2] (by decide) rfl rfl rfl 0 rfl rfl rfl BM0_blind (fun _ _ _ _ => trivial) rfl hl.1 (rest := []) rfl (Nat.le_of_ble_eq_true rfl) dX6_hush_76 ⟨Nat.zero_le _, Nat.zero_le _⟩ (fun H locs hW => ?_)
                refine lv_aload_n hx hb dX6_hush_79 rfl (lv_at hl 0 rfl) ?_
                refine rg (T := TX6) (N := 9) CX hE hW.1 in_X6_hush_X6 0 rfl rfl 0 (by decide) fl_X6_hush_7 rfl rfl dX6_hush_80 ?_
                refine lv_sipush (v := (nI 246)) hx hb dX6_hush_83 ks_246 ?_
                refine rn_iconst hx hb 4 rfl dX6_hush_86 ?_
                refine lv_iload_n hx hb dX6_hush_87 rfl (lv_at hl 1 rfl) ?_
                refine rn_imul hx hb dX6_hush_88 ?_
                refine rn_iadd hx hb dX6_hush_89 ?_
                refine rn_iconst hx hb 3 rfl dX6_hush_90 ?_
                refine rn_iadd hx hb dX6_hush_91 ?_
                refine lv_iload hx hb dX6_hush_92 (lv_at hl 8 rfl) ?_
                refine rn_iast (ws' := [(m 0, .inr (6, [.ref (m 1), .ref (m 2), .ref (m 3), .ref (m 4), .int (nI pm), .ref (m 5), .ref (m 6), .int (nI ty), .ref (m 7)])), (m 1, .inl (cA 0, 345, .inl (upd z ((246 + (4 * d)) + 3) (nI s)))), (m 5, .inl (cA 0, 345, .inl z)), (m 7, .inl (cA 0, 60, .inl tt))]) CX hE hW 1 rfl (j := ((246 + (4 * d)) + 3)) (by omega) (ltb rfl) rfl dX6_hush_94 (fun H locs hW => ?_)
                have hok3 : okM (hushZ z d s) nd np := hush_ok hok (by omega)
                have hW := hW.ext (ws' := [(m 0, .inr (6, [.ref (m 1), .ref (m 2), .ref (m 3), .ref (m 4), .int (nI pm), .ref (m 5), .ref (m 6), .int (nI ty), .ref (m 7)])), (m 1, .inl (cA 0, 345, .inl (hushZ z d s))), (m 5, .inl (cA 0, 345, .inl z)), (m 7, .inl (cA 0, 60, .inl tt))]) 1 (g := (hushZ z d s)) rfl (fun _ _ => rfl) rfl
                refine lv_aload_n hx hb dX6_hush_95 rfl (lv_at hl 0 rfl) ?_
                refine lv_iload hx hb dX6_hush_96 (lv_at hl 4 rfl) ?_
                refine muvV (ws' := [(m 0, .inr (6, [.ref (m 1), .ref (m 2), .ref (m 3), .ref (m 4), .int (nI pm), .ref (m 5), .ref (m 6), .int (nI ty), .ref (m 7)])), (m 1, .inl (cA 0, 345, .inl (runM (hushZ z d s) nd np n))), (m 5, .inl (cA 0, 345, .inl z)), (m 7, .inl (cA 0, 60, .inl (thM (hushZ z d s) tt nd np n)))]) CX hE hW hA (c_X6_ticks l G cA m pm ty (hushZ z d s) tt nd np n (by omega) (by assumption)) (cwV 1 hts gX6_hush_X6_ticks rfl rfl rfl hdv_X6_ticks ⟨Nat.le_of_ble_eq_true rfl, Nat.le_of_ble_eq_true rfl⟩) [0, 1, 3] (by decide) rfl rfl rfl 0 rfl rfl rfl BM0_blind (fun _ _ _ _ => trivial) rfl hl.1 (rest := []) rfl (Nat.le_of_ble_eq_true rfl) dX6_hush_98 ⟨Nat.zero_le _, Nat.zero_le _⟩ (fun H locs hW => ?_)
                refine lv_aload_n hx hb dX6_hush_101 rfl (lv_at hl 0 rfl) ?_
                refine lv_bipush (v := (nI 10)) hx hb dX6_hush_102 kb_10 ?_
                refine lv_iload_n hx hb dX6_hush_104 rfl (lv_at hl 3 rfl) ?_
                refine rn_imul hx hb dX6_hush_105 ?_
                refine lv_iload_n hx hb dX6_hush_106 rfl (lv_at hl 2 rfl) ?_
                refine rn_iadd hx hb dX6_hush_107 ?_
                refine rn_top (nI (ky * 10 + kx)) (by rw [Nat.mul_comm]) ?_
                refine roV CX hE hW.1 (c_X6_now l G cA m pm ty (runM (hushZ z d s) nd np n) (ky * 10 + kx) (by omega)) (cwV 1 hts gX6_hush_X6_now rfl rfl rfl hdv_X6_now ⟨Nat.le_of_ble_eq_true rfl, Nat.le_of_ble_eq_true rfl⟩) [0, 1] rfl 0 rfl rfl rfl B0_blind (fun _ _ _ => trivial) rfl hl.1 (rest := []) rfl (Nat.le_of_ble_eq_true rfl) dX6_hush_108 ⟨Nat.zero_le _, Nat.zero_le _⟩ ?_
                refine roS CX hE hW.1 (c_X6_size l G cA (shf 65 (runM (hushZ z d s) nd np n) (ky * 10 + kx)) ) (va_cwS 1 hts gX6_hush_X6_size rfl rfl rfl hdn_X6_size ⟨Nat.le_of_ble_eq_true rfl, Nat.le_of_ble_eq_true rfl⟩) [] rfl B0_blind (fun _ _ _ => trivial) rfl hl.1 (rest := []) rfl (Nat.le_of_ble_eq_true rfl) dX6_hush_111 ⟨Nat.zero_le _, Nat.zero_le _⟩ ?_
                refine rn_top (hushI z nd np d (ky * 10 + kx) n s) rfl ?_
                refine lv_istore (lv' := [(9, .int (hushI z nd np d (ky * 10 + kx) n s)), (0, .ref (m 0)), (1, .int (nI d)), (2, .int (nI kx)), (3, .int (nI ky)), (4, .int (nI n)), (5, .int w), (6, .int f), (7, .int ml), (8, .int (nI s))]) hx hb dX6_hush_114 hl (by decide) rfl (fun ls hl => ?_)
                refine lv_iload hx hb dX6_hush_116 (lv_at hl 7 rfl) ?_
                have J_135 : ∀ v : Int32, v = (b2i (f = -6 ∨ hushI z nd np d (ky * 10 + kx) n s < ml)) → W p_ l e_ ({ frames := 7, cells := 0, slots := 0, locals := 156 } : Room) s_ m_ ([.ref (m 0), .int (nI d), .int (nI kx), .int (nI ky), .int (nI n), .int w] : List Value).toArray below meth c_ H locs 0 0 (MQ below (va_Qi (fun r_ (_ : Unit) => r_ = (if w = nI 0 then (hushR z nd np d (ky * 10 + kx) n pe).1 else (hushR z nd np d (ky * 10 + kx) n pe).2)) (fun _ t_ => va_P G vwCl [(m 0, .inr (6, [.ref (m 1), .ref (m 2), .ref (m 3), .ref (m 4), .int (nI pm), .ref (m 5), .ref (m 6), .int (nI ty), .ref (m 7)])), (m 1, .inl (cA 0, 345, .inl z)), (m 5, .inl (cA 0, 345, .inl z)), (m 7, .inl (cA 0, 60, .inl (hushT z th nd np d n pe)))] t_.heap ∧ va_D A_ [(m 0, .inr (6, [.ref (m 1), .ref (m 2), .ref (m 3), .ref (m 4), .int (nI pm), .ref (m 5), .ref (m 6), .int (nI ty), .ref (m 7)])), (m 1, .inl (cA 0, 345, .inl z)), (m 5, .inl (cA 0, 345, .inl z)), (m 7, .inl (cA 0, 60, .inl (hushT z th nd np d n pe)))]) A_) ([.ref (m 0), .int (nI d), .int (nI kx), .int (nI ky), .int (nI n), .int w] : List Value).toArray s_ 0 0 A_) (F0 m_ 135 ls [.int v]) := by
                  intro v hv
                  subst hv
                  refine lv_istore (lv' := [(10, .int (b2i (f = -6 ∨ hushI z nd np d (ky * 10 + kx) n s < ml))), (9, .int (hushI z nd np d (ky * 10 + kx) n s)), (0, .ref (m 0)), (1, .int (nI d)), (2, .int (nI kx)), (3, .int (nI ky)), (4, .int (nI n)), (5, .int w), (6, .int f), (7, .int ml), (8, .int (nI s))]) hx hb dX6_hush_135 hl (by decide) rfl (fun ls hl => ?_)
                  refine lv_iload hx hb dX6_hush_137 (lv_at hl 0 rfl) ?_
                  have J_149 : ∀ v : Int32, v = (if f = -6 ∨ hushI z nd np d (ky * 10 + kx) n s < ml then nI s else f) → W p_ l e_ ({ frames := 7, cells := 0, slots := 0, locals := 156 } : Room) s_ m_ ([.ref (m 0), .int (nI d), .int (nI kx), .int (nI ky), .int (nI n), .int w] : List Value).toArray below meth c_ H locs 0 0 (MQ below (va_Qi (fun r_ (_ : Unit) => r_ = (if w = nI 0 then (hushR z nd np d (ky * 10 + kx) n pe).1 else (hushR z nd np d (ky * 10 + kx) n pe).2)) (fun _ t_ => va_P G vwCl [(m 0, .inr (6, [.ref (m 1), .ref (m 2), .ref (m 3), .ref (m 4), .int (nI pm), .ref (m 5), .ref (m 6), .int (nI ty), .ref (m 7)])), (m 1, .inl (cA 0, 345, .inl z)), (m 5, .inl (cA 0, 345, .inl z)), (m 7, .inl (cA 0, 60, .inl (hushT z th nd np d n pe)))] t_.heap ∧ va_D A_ [(m 0, .inr (6, [.ref (m 1), .ref (m 2), .ref (m 3), .ref (m 4), .int (nI pm), .ref (m 5), .ref (m 6), .int (nI ty), .ref (m 7)])), (m 1, .inl (cA 0, 345, .inl z)), (m 5, .inl (cA 0, 345, .inl z)), (m 7, .inl (cA 0, 60, .inl (hushT z th nd np d n pe)))]) A_) ([.ref (m 0), .int (nI d), .int (nI kx), .int (nI ky), .int (nI n), .int w] : List Value).toArray s_ 0 0 A_) (F0 m_ 149 ls [.int v]) := by
                    intro v hv
                    subst hv
                    refine lv_istore (lv' := [(6, .int (if f = -6 ∨ hushI z nd np d (ky * 10 + kx) n s < ml then nI s else f)), (10, .int (b2i (f = -6 ∨ hushI z nd np d (ky * 10 + kx) n s < ml))), (9, .int (hushI z nd np d (ky * 10 + kx) n s)), (0, .ref (m 0)), (1, .int (nI d)), (2, .int (nI kx)), (3, .int (nI ky)), (4, .int (nI n)), (5, .int w), (7, .int ml), (8, .int (nI s))]) hx hb dX6_hush_149 hl (by decide) rfl (fun ls hl => ?_)
                    refine lv_iload hx hb dX6_hush_151 (lv_at hl 1 rfl) ?_
                    have J_163 : ∀ v : Int32, v = (if f = -6 ∨ hushI z nd np d (ky * 10 + kx) n s < ml then hushI z nd np d (ky * 10 + kx) n s else ml) → W p_ l e_ ({ frames := 7, cells := 0, slots := 0, locals := 156 } : Room) s_ m_ ([.ref (m 0), .int (nI d), .int (nI kx), .int (nI ky), .int (nI n), .int w] : List Value).toArray below meth c_ H locs 0 0 (MQ below (va_Qi (fun r_ (_ : Unit) => r_ = (if w = nI 0 then (hushR z nd np d (ky * 10 + kx) n pe).1 else (hushR z nd np d (ky * 10 + kx) n pe).2)) (fun _ t_ => va_P G vwCl [(m 0, .inr (6, [.ref (m 1), .ref (m 2), .ref (m 3), .ref (m 4), .int (nI pm), .ref (m 5), .ref (m 6), .int (nI ty), .ref (m 7)])), (m 1, .inl (cA 0, 345, .inl z)), (m 5, .inl (cA 0, 345, .inl z)), (m 7, .inl (cA 0, 60, .inl (hushT z th nd np d n pe)))] t_.heap ∧ va_D A_ [(m 0, .inr (6, [.ref (m 1), .ref (m 2), .ref (m 3), .ref (m 4), .int (nI pm), .ref (m 5), .ref (m 6), .int (nI ty), .ref (m 7)])), (m 1, .inl (cA 0, 345, .inl z)), (m 5, .inl (cA 0, 345, .inl z)), (m 7, .inl (cA 0, 60, .inl (hushT z th nd np d n pe)))]) A_) ([.ref (m 0), .int (nI d), .int (nI kx), .int (nI ky), .int (nI n), .int w] : List Value).toArray s_ 0 0 A_) (F0 m_ 163 ls [.int v]) := by
                      intro v hv
                      subst hv
                      refine lv_istore (lv' := [(7, .int (if f = -6 ∨ hushI z nd np d (ky * 10 + kx) n s < ml then hushI z nd np d (ky * 10 + kx) n s else ml)), (6, .int (if f = -6 ∨ hushI z nd np d (ky * 10 + kx) n s < ml then nI s else f)), (10, .int (b2i (f = -6 ∨ hushI z nd np d (ky * 10 + kx) n s < ml))), (9, .int (hushI z nd np d (ky * 10 + kx) n s)), (0, .ref (m 0)), (1, .int (nI d)), (2, .int (nI kx)), (3, .int (nI ky)), (4, .int (nI n)), (5, .int w), (8, .int (nI s))]) hx hb dX6_hush_163 hl (by decide) rfl (fun ls hl => ?_)
                      refine rn_iinc hx hb (n := 1) (lv' := [(8, .int (nI (s + 1))), (7, .int (if f = -6 ∨ hushI z nd np d (ky * 10 + kx) n s < ml then hushI z nd np d (ky * 10 + kx) n s else ml)), (6, .int (if f = -6 ∨ hushI z nd np d (ky * 10 + kx) n s < ml then nI s else f)), (10, .int (b2i (f = -6 ∨ hushI z nd np d (ky * 10 + kx) n s < ml))), (9, .int (hushI z nd np d (ky * 10 + kx) n s)), (0, .ref (m 0)), (1, .int (nI d)), (2, .int (nI kx)), (3, .int (nI ky)), (4, .int (nI n)), (5, .int w)]) rfl dX6_hush_165 hl (k := 10) rfl (by decide) rfl (fun ls hl => ?_)
                      refine lv_goto (tgt := 56) hx hb dX6_hush_168 (by decide) ?_
                      exact ih_56 (s + 1) (if f = -6 ∨ hushI z nd np d (ky * 10 + kx) n s < ml then nI s else f) (if f = -6 ∨ hushI z nd np d (ky * 10 + kx) n s < ml then hushI z nd np d (ky * 10 + kx) n s else ml) (runM (hushZ z d s) nd np n) (thM (hushZ z d s) tt nd np n) (by omega) (by omega) (by rw [hf, hml_]; rfl) (by rw [hf, hml_]; rfl) (by rw [htt]; rfl) _ _ ls hW (lv_sub hl [5, 6, 7, 8, 9, 10, 2, 1, 0] rfl)
                    refine rb_if_eq hx hb dX6_hush_153 (by decide) (tgt := 161) (fun c_153 => ?_) (fun c_153 => ?_)
                    · refine lv_iload hx hb dX6_hush_161 (lv_at hl 9 rfl) ?_
                      exact J_163 _ (by first | exact (if_pos c_153).symm | exact (if_neg c_153).symm)
                    · refine lv_iload hx hb dX6_hush_156 (lv_at hl 2 rfl) ?_
                      refine lv_goto (tgt := 163) hx hb dX6_hush_158 (by decide) ?_
                      exact J_163 _ (by first | exact (if_pos c_153).symm | exact (if_neg c_153).symm)
                  refine rb_if_eq hx hb dX6_hush_139 (by decide) (tgt := 147) (fun c_139 => ?_) (fun c_139 => ?_)
                  · refine lv_iload hx hb dX6_hush_147 (lv_at hl 8 rfl) ?_
                    exact J_149 _ (by first | exact (if_pos c_139).symm | exact (if_neg c_139).symm)
                  · refine lv_iload hx hb dX6_hush_142 (lv_at hl 10 rfl) ?_
                    refine lv_goto (tgt := 149) hx hb dX6_hush_144 (by decide) ?_
                    exact J_149 _ (by first | exact (if_pos c_139).symm | exact (if_neg c_139).symm)
                refine lv_bipush (v := (-6)) hx hb dX6_hush_118 kb_m6 ?_
                refine lv_icmp_eq hx hb dX6_hush_120 (by decide) (tgt := 130) (fun c_120 => ?_) (fun c_120 => ?_)
                · refine rn_iconst hx hb 1 rfl dX6_hush_130 ?_
                  refine lv_goto (tgt := 135) hx hb dX6_hush_131 (by decide) ?_
                  exact J_135 _ (by first | exact b2i_t (Or.inl c_120) | exact b2i_t (Or.inr (Int32.not_le.mp c_127)) | exact b2i_f (fun h => h.elim c_120 (fun q => absurd c_127 (Int32.not_le.mpr q))))
                · refine lv_iload hx hb dX6_hush_123 (lv_at hl 0 rfl) ?_
                  refine lv_iload hx hb dX6_hush_125 (lv_at hl 8 rfl) ?_
                  refine lv_icmp_ge hx hb dX6_hush_127 (by decide) (tgt := 134) (fun c_127 => ?_) (fun c_127 => ?_)
                  · refine rn_iconst hx hb 0 rfl dX6_hush_134 ?_
                    exact J_135 _ (by first | exact b2i_t (Or.inl c_120) | exact b2i_t (Or.inr (Int32.not_le.mp c_127)) | exact b2i_f (fun h => h.elim c_120 (fun q => absurd c_127 (Int32.not_le.mpr q))))
                  · refine rn_iconst hx hb 1 rfl dX6_hush_130 ?_
                    refine lv_goto (tgt := 135) hx hb dX6_hush_131 (by decide) ?_
                    exact J_135 _ (by first | exact b2i_t (Or.inl c_120) | exact b2i_t (Or.inr (Int32.not_le.mp c_127)) | exact b2i_f (fun h => h.elim c_120 (fun q => absurd c_127 (Int32.not_le.mpr q))))
          exact LP_56 _ 0 (-6) (nI 0) z th (Nat.lt_succ_self _) (by omega) rfl rfl rfl _ _ ls hW (lv_sub hl [3, 4, 5, 6, 7, 8, 2, 1, 0] rfl)
        · exact absurd hw c_36
    · exact absurd (cellP_of hkx hky) c_13
set_option maxHeartbeats 4000000 in
set_option maxRecDepth 100000 in
theorem c_X6_hush_e (l : Launch) (G : va_G) (cA : Nat → ClassId) (m : Nat → Nat) (pm : Nat) (ty : Nat) (z : Nat → Int32) (d : Int32) (x : Int32) (y : Int32) (n : Int32) (w : Int32) (hbad : 0 ≤ d ∧ d < z 245 → cellP x y → inP n (nI 1) (nI 30) → ¬ inP w (nI 0) (nI 1)) : RO l yX6_hush wsX6_hush ({ frames := 2, cells := 0, slots := 0, locals := 43 }) G cA B0 [(m 0, .inr (6, [.ref (m 1), .ref (m 2), .ref (m 3), .ref (m 4), .int (nI pm), .ref (m 5), .ref (m 6), .int (nI ty), .ref (m 7)])), (m 1, .inl (cA 0, 345, .inl z))] [.ref (m 0), .int d, .int x, .int y, .int n, .int w] (if 0 ≤ d ∧ d < z 245 ∧ cellP x y then -2 else -1) := by
  refine RO.mk (own := RX6) (by decide) rfl rfl (Nat.le_of_ble_eq_true rfl) (fun p_ e_ s_ m_ below meth c_ ls CX hr hlk hP hE hB hl => ?_)
  obtain ⟨hx, hb, hml, hown, hts⟩ := id CX
  have hl : lv_has ls 11 [(0, .ref (m 0)), (1, .int d), (2, .int x), (3, .int y), (4, .int n), (5, .int w)] := hl
  refine lv_aload_n hx hb dX6_hush_0 rfl (lv_at hl 0 rfl) ?_
  refine lv_iload_n hx hb dX6_hush_1 rfl (lv_at hl 1 rfl) ?_
  refine roV CX hE hP (c_X6_isDipper l G cA m pm ty z d ) (cwV 1 hts gX6_hush_X6_isDipper rfl rfl rfl hdv_X6_isDipper ⟨Nat.le_of_ble_eq_true rfl, Nat.le_of_ble_eq_true rfl⟩) [0, 1] rfl 0 rfl rfl rfl B0_blind (fun _ _ _ => trivial) rfl hl.1 (rest := []) rfl (Nat.le_of_ble_eq_true rfl) dX6_hush_2 ⟨Nat.zero_le _, Nat.zero_le _⟩ ?_
  refine rb_if_eq hx hb dX6_hush_5 (by decide) (tgt := 16) (fun c_5 => ?_) (fun c_5 => ?_)
  · refine lv_iconst (v := (-1)) hx hb dX6_hush_16 (by decide) ?_
    exact ro_ret CX hr hlk (by first | exact (if_neg (fun q => c_5 ⟨q.1, q.2.1⟩)).symm | exact (if_neg (fun q => c_13 q.2.2)).symm) rfl dX6_hush_17
  · refine lv_iload_n hx hb dX6_hush_8 rfl (lv_at hl 2 rfl) ?_
    refine lv_iload_n hx hb dX6_hush_9 rfl (lv_at hl 3 rfl) ?_
    refine roS CX hE hP (c_X6_isCell l G cA x y ) (va_cwS 2 hts gX6_hush_X6_isCell rfl rfl rfl hdn_X6_isCell ⟨Nat.le_of_ble_eq_true rfl, Nat.le_of_ble_eq_true rfl⟩) [] rfl B0_blind (fun _ _ _ => trivial) rfl hl.1 (rest := []) rfl (Nat.le_of_ble_eq_true rfl) dX6_hush_10 ⟨Nat.zero_le _, Nat.zero_le _⟩ ?_
    refine rb_if_ne hx hb dX6_hush_13 (by decide) (tgt := 18) (fun c_13 => ?_) (fun c_13 => ?_)
    · refine lv_iload hx hb dX6_hush_18 (lv_at hl 4 rfl) ?_
      refine rn_iconst hx hb 1 rfl dX6_hush_20 ?_
      refine lv_bipush (v := (nI 30)) hx hb dX6_hush_21 kb_30 ?_
      refine roS CX hE hP (c_X6_in l G cA n (nI 1) (nI 30) ) (va_cwS 3 hts gX6_hush_X6_in rfl rfl rfl hdn_X6_in ⟨Nat.le_of_ble_eq_true rfl, Nat.le_of_ble_eq_true rfl⟩) [] rfl B0_blind (fun _ _ _ => trivial) rfl hl.1 (rest := []) rfl (Nat.le_of_ble_eq_true rfl) dX6_hush_23 ⟨Nat.zero_le _, Nat.zero_le _⟩ ?_
      refine rb_if_eq hx hb dX6_hush_26 (by decide) (tgt := 39) (fun c_26 => ?_) (fun c_26 => ?_)
      · refine lv_bipush (v := (-2)) hx hb dX6_hush_39 kb_m2 ?_
        exact ro_ret CX hr hlk ((if_pos ⟨c_5.1, c_5.2, c_13⟩).symm) rfl dX6_hush_41
      · refine lv_iload hx hb dX6_hush_29 (lv_at hl 5 rfl) ?_
        refine rn_iconst hx hb 0 rfl dX6_hush_31 ?_
        refine rn_iconst hx hb 1 rfl dX6_hush_32 ?_
        refine roS CX hE hP (c_X6_in l G cA w (nI 0) (nI 1) ) (va_cwS 3 hts gX6_hush_X6_in rfl rfl rfl hdn_X6_in ⟨Nat.le_of_ble_eq_true rfl, Nat.le_of_ble_eq_true rfl⟩) [] rfl B0_blind (fun _ _ _ => trivial) rfl hl.1 (rest := []) rfl (Nat.le_of_ble_eq_true rfl) dX6_hush_33 ⟨Nat.zero_le _, Nat.zero_le _⟩ ?_
        refine rb_if_ne hx hb dX6_hush_36 (by decide) (tgt := 42) (fun c_36 => ?_) (fun c_36 => ?_)
        · exact absurd c_36 (hbad c_5 c_13 c_26)
        · refine lv_bipush (v := (-2)) hx hb dX6_hush_39 kb_m2 ?_
          exact ro_ret CX hr hlk ((if_pos ⟨c_5.1, c_5.2, c_13⟩).symm) rfl dX6_hush_41
    · refine lv_iconst (v := (-1)) hx hb dX6_hush_16 (by decide) ?_
      exact ro_ret CX hr hlk (by first | exact (if_neg (fun q => c_5 ⟨q.1, q.2.1⟩)).symm | exact (if_neg (fun q => c_13 q.2.2)).symm) rfl dX6_hush_17
theorem fl_X6_undo_40 : Cond.fieldLink RX6 40 RX6 (TX6 4).2.1 (TX6 4).2.2.1 ∈ wsX6_undo := by decide +kernel
theorem in_X6_undo_X6 : ∀ w ∈ wsX60, w ∈ wsX6_undo := by decide +kernel
theorem fl_X6_undo_7 : Cond.fieldLink RX6 7 RX6 (TX6 0).2.1 (TX6 0).2.2.1 ∈ wsX6_undo := by decide +kernel
theorem fl_X6_undo_13 : Cond.fieldLink RX6 13 RX6 (TX6 1).2.1 (TX6 1).2.2.1 ∈ wsX6_undo := by decide +kernel
set_option maxHeartbeats 4000000 in
set_option maxRecDepth 100000 in
theorem c_X6_undo_k (l : Launch) (G : va_G) (cA : Nat → ClassId) (m : Nat → Nat) (pm : Nat) (ty : Nat) (z : Nat → Int32) (pa : Nat → Int32) (hp1 : 1 ≤ pm) (hpm : pm ≤ 6) : MUi l yX6_undo wsX6_undo ({ frames := 0, cells := 0, slots := 0, locals := 0 }) G cA BM0 [(m 0, .inr (6, [.ref (m 1), .ref (m 2), .ref (m 3), .ref (m 4), .int (nI pm), .ref (m 5), .ref (m 6), .int (nI ty), .ref (m 7)])), (m 1, .inl (cA 0, 345, .inl z)), (m 2, .inl (cA 0, 2070, .inl pa))] [.ref (m 0)] [(m 0, .inr (6, [.ref (m 1), .ref (m 2), .ref (m 3), .ref (m 4), .int (nI (pm - 1)), .ref (m 5), .ref (m 6), .int (nI ty), .ref (m 7)])), (m 1, .inl (cA 0, 345, .inl (undZ z pa (pm - 1)))), (m 2, .inl (cA 0, 2070, .inl pa))] (nI (pm - 1)) := by
  refine MUi.mk (own := RX6) (by decide) rfl rfl (Nat.le_of_ble_eq_true rfl) (fun p_ e_ s_ m_ below meth c_ ls A_ CX hr hlk hW hA hE hB hl => ?_)
  obtain ⟨hx, hb, hml, hown, hts⟩ := id CX
  have hl : lv_has ls 2 [(0, .ref (m 0))] := hl
  have hW : wld G A_ [(m 0, .inr (6, [.ref (m 1), .ref (m 2), .ref (m 3), .ref (m 4), .int (nI pm), .ref (m 5), .ref (m 6), .int (nI ty), .ref (m 7)])), (m 1, .inl (cA 0, 345, .inl z)), (m 2, .inl (cA 0, 2070, .inl pa))] s_.heap s_.heap [] := hW
  refine lv_aload_n hx hb dX6_undo_0 rfl (lv_at hl 0 rfl) ?_
  refine rg (T := TX6) (N := 9) CX hE hW.1 in_X6_undo_X6 0 rfl rfl 4 (by decide) fl_X6_undo_40 rfl rfl dX6_undo_1 ?_
  refine rn_if_ne hx hb (by omega) dX6_undo_4 (by decide) (tgt := 10) (fun c_4 => ?_) (fun c_4 => ?_)
  · refine lv_aload_n hx hb dX6_undo_10 rfl (lv_at hl 0 rfl) ?_
    refine lv_dup hx hb dX6_undo_11 rfl ?_
    refine rg (T := TX6) (N := 9) CX hE hW.1 in_X6_undo_X6 0 rfl rfl 4 (by decide) fl_X6_undo_40 rfl rfl dX6_undo_12 ?_
    refine rn_iconst hx hb 1 rfl dX6_undo_15 ?_
    refine rn_isub hx hb (by omega) dX6_undo_16 ?_
    refine rp (T := TX6) (N := 9) (ws' := [(m 0, .inr (6, [.ref (m 1), .ref (m 2), .ref (m 3), .ref (m 4), .int (nI (pm - 1)), .ref (m 5), .ref (m 6), .int (nI ty), .ref (m 7)])), (m 1, .inl (cA 0, 345, .inl z)), (m 2, .inl (cA 0, 2070, .inl pa))]) CX hE hW in_X6_undo_X6 tyX6 tyX6_ok nmX6 0 rfl rfl 4 (by decide) fl_X6_undo_40 rfl rfl rfl rfl (Nat.le_of_ble_eq_true rfl) rfl dX6_undo_17 (fun H locs hW => ?_)
    refine rn_iconst hx hb 0 rfl dX6_undo_20 ?_
    refine lv_istore_n (lv' := [(1, .int (nI 0)), (0, .ref (m 0))]) hx hb dX6_undo_21 rfl hl (by decide) rfl (fun ls hl => ?_)
    have LP_22 : ∀ (nn_ : Nat) (i : Nat) (zz : Nat → Int32), (345 - i) < nn_ → (i ≤ 345) → (zz = rgF 0 i (fun j => pa ((pm - 1) * 345 + j)) z) → ∀ (H : Heap) (locs : List Loc) (ls : Array Slot), wld G A_ [(m 0, .inr (6, [.ref (m 1), .ref (m 2), .ref (m 3), .ref (m 4), .int (nI (pm - 1)), .ref (m 5), .ref (m 6), .int (nI ty), .ref (m 7)])), (m 1, .inl (cA 0, 345, .inl zz)), (m 2, .inl (cA 0, 2070, .inl pa))] s_.heap H locs → lv_has ls 2 [(0, .ref (m 0)), (1, .int (nI i))] → W p_ l e_ ({ frames := 0, cells := 0, slots := 0, locals := 0 } : Room) s_ m_ ([.ref (m 0)] : List Value).toArray below meth c_ H locs 0 0 (MQ below (va_Qi (fun r_ (_ : Unit) => r_ = (nI (pm - 1))) (fun _ t_ => va_P G vwCl [(m 0, .inr (6, [.ref (m 1), .ref (m 2), .ref (m 3), .ref (m 4), .int (nI (pm - 1)), .ref (m 5), .ref (m 6), .int (nI ty), .ref (m 7)])), (m 1, .inl (cA 0, 345, .inl (undZ z pa (pm - 1)))), (m 2, .inl (cA 0, 2070, .inl pa))] t_.heap ∧ va_D A_ [(m 0, .inr (6, [.ref (m 1), .ref (m 2), .ref (m 3), .ref (m 4), .int (nI (pm - 1)), .ref (m 5), .ref (m 6), .int (nI ty), .ref (m 7)])), (m 1, .inl (cA 0, 345, .inl (undZ z pa (pm - 1)))), (m 2, .inl (cA 0, 2070, .inl pa))]) A_) ([.ref (m 0)] : List Value).toArray s_ 0 0 A_) (F0 m_ 22 ls []) := by
      intro nn_
      induction nn_ with
      | zero => intro i zz hmu; exact absurd hmu (Nat.not_lt_zero _)
      | succ nn_ ih =>
        have ih_22 := ih
        clear ih
        intro i zz hmu_22 hi hzz H locs ls hW hl
        refine lv_iload_n hx hb dX6_undo_22 rfl (lv_at hl 1 rfl) ?_
        refine lv_sipush (v := (nI 345)) hx hb dX6_undo_23 ks_345 ?_
        refine rn_icmp_ge hx hb (by omega) (by omega) dX6_undo_26 (by decide) (tgt := 56) (fun c_26 => ?_) (fun c_26 => ?_)
        · refine lv_aload_n hx hb dX6_undo_56 rfl (lv_at hl 0 rfl) ?_
          refine rg (T := TX6) (N := 9) CX hE hW.1 in_X6_undo_X6 0 rfl rfl 4 (by decide) fl_X6_undo_40 rfl rfl dX6_undo_57 ?_
          have hW := hW.ext (ws' := [(m 0, .inr (6, [.ref (m 1), .ref (m 2), .ref (m 3), .ref (m 4), .int (nI (pm - 1)), .ref (m 5), .ref (m 6), .int (nI ty), .ref (m 7)])), (m 1, .inl (cA 0, 345, .inl (undZ z pa (pm - 1)))), (m 2, .inl (cA 0, 2070, .inl pa))]) 1 (g := (undZ z pa (pm - 1))) rfl (fun j _ => by rw [hzz, show i = 345 by omega]; rfl) rfl
          exact mu_reti CX hr hlk rfl rfl hW dX6_undo_60
        · refine lv_aload_n hx hb dX6_undo_29 rfl (lv_at hl 0 rfl) ?_
          refine rg (T := TX6) (N := 9) CX hE hW.1 in_X6_undo_X6 0 rfl rfl 0 (by decide) fl_X6_undo_7 rfl rfl dX6_undo_30 ?_
          refine lv_iload_n hx hb dX6_undo_33 rfl (lv_at hl 1 rfl) ?_
          refine lv_aload_n hx hb dX6_undo_34 rfl (lv_at hl 0 rfl) ?_
          refine rg (T := TX6) (N := 9) CX hE hW.1 in_X6_undo_X6 0 rfl rfl 1 (by decide) fl_X6_undo_13 rfl rfl dX6_undo_35 ?_
          refine lv_aload_n hx hb dX6_undo_38 rfl (lv_at hl 0 rfl) ?_
          refine rg (T := TX6) (N := 9) CX hE hW.1 in_X6_undo_X6 0 rfl rfl 4 (by decide) fl_X6_undo_40 rfl rfl dX6_undo_39 ?_
          refine lv_sipush (v := (nI 345)) hx hb dX6_undo_42 ks_345 ?_
          refine rn_imul hx hb dX6_undo_45 ?_
          refine lv_iload_n hx hb dX6_undo_46 rfl (lv_at hl 1 rfl) ?_
          refine rn_iadd hx hb dX6_undo_47 ?_
          refine rn_iald CX hE hW.1 2 rfl (j := (((pm - 1) * 345) + i)) (by omega) (ltb rfl) dX6_undo_48 ?_
          refine rn_iast (ws' := [(m 0, .inr (6, [.ref (m 1), .ref (m 2), .ref (m 3), .ref (m 4), .int (nI (pm - 1)), .ref (m 5), .ref (m 6), .int (nI ty), .ref (m 7)])), (m 1, .inl (cA 0, 345, .inl (upd zz i (pa (((pm - 1) * 345) + i))))), (m 2, .inl (cA 0, 2070, .inl pa))]) CX hE hW 1 rfl (j := i) (by omega) (ltb rfl) rfl dX6_undo_49 (fun H locs hW => ?_)
          refine rn_iinc hx hb (n := 1) (lv' := [(1, .int (nI (i + 1))), (0, .ref (m 0))]) rfl dX6_undo_50 hl (k := 1) rfl (by decide) rfl (fun ls hl => ?_)
          refine lv_goto (tgt := 22) hx hb dX6_undo_53 (by decide) ?_
          exact ih_22 (i + 1) (upd zz i (pa (((pm - 1) * 345) + i))) (by omega) (by omega) (rgF_next hzz (Nat.zero_add _).symm rfl) _ _ ls hW (lv_sub hl [1, 0] rfl)
    exact LP_22 _ 0 z (Nat.lt_succ_self _) (by omega) rgF_0 _ _ ls hW (lv_sub hl [1, 0] rfl)
  · exact absurd c_4 (by omega)
set_option maxHeartbeats 4000000 in
set_option maxRecDepth 100000 in
theorem c_X6_undo_e (l : Launch) (G : va_G) (cA : Nat → ClassId) (m : Nat → Nat) (ty : Nat)  : RO l yX6_undo wsX6_undo ({ frames := 0, cells := 0, slots := 0, locals := 0 }) G cA B0 [(m 0, .inr (6, [.ref (m 1), .ref (m 2), .ref (m 3), .ref (m 4), .int (nI 0), .ref (m 5), .ref (m 6), .int (nI ty), .ref (m 7)]))] [.ref (m 0)] (-5) := by
  refine RO.mk (own := RX6) (by decide) rfl rfl (Nat.le_of_ble_eq_true rfl) (fun p_ e_ s_ m_ below meth c_ ls CX hr hlk hP hE hB hl => ?_)
  obtain ⟨hx, hb, hml, hown, hts⟩ := id CX
  have hl : lv_has ls 2 [(0, .ref (m 0))] := hl
  refine lv_aload_n hx hb dX6_undo_0 rfl (lv_at hl 0 rfl) ?_
  refine rg (T := TX6) (N := 9) CX hE hP in_X6_undo_X6 0 rfl rfl 4 (by decide) fl_X6_undo_40 rfl rfl dX6_undo_1 ?_
  refine rn_if_ne hx hb (by omega) dX6_undo_4 (by decide) (tgt := 10) (fun c_4 => ?_) (fun c_4 => ?_)
  · exact absurd rfl c_4
  · refine lv_bipush (v := (-5)) hx hb dX6_undo_7 kb_m5 ?_
    exact ro_ret CX hr hlk rfl rfl dX6_undo_9
theorem fl_X6_save_19 : Cond.fieldLink RX6 19 RX6 (TX6 3).2.1 (TX6 3).2.2.1 ∈ wsX6_save := by decide +kernel
theorem in_X6_save_X6 : ∀ w ∈ wsX60, w ∈ wsX6_save := by decide +kernel
theorem fl_X6_save_7 : Cond.fieldLink RX6 7 RX6 (TX6 0).2.1 (TX6 0).2.2.1 ∈ wsX6_save := by decide +kernel
theorem fl_X6_save_16 : Cond.fieldLink RX6 16 RX6 (TX6 2).2.1 (TX6 2).2.2.1 ∈ wsX6_save := by decide +kernel
set_option maxHeartbeats 4000000 in
set_option maxRecDepth 100000 in
theorem c_X6_save_k (l : Launch) (G : va_G) (cA : Nat → ClassId) (m : Nat → Nat) (pm : Nat) (ty : Nat) (z : Nat → Int32) (sl : Nat → Int32) (sv : Nat → Int32) (k : Nat) (hk : k < 2) : MUi l yX6_save wsX6_save ({ frames := 1, cells := 0, slots := 0, locals := 22 }) G cA BM0 [(m 0, .inr (6, [.ref (m 1), .ref (m 2), .ref (m 3), .ref (m 4), .int (nI pm), .ref (m 5), .ref (m 6), .int (nI ty), .ref (m 7)])), (m 1, .inl (cA 0, 345, .inl z)), (m 3, .inl (cA 0, 690, .inl sl)), (m 4, .inl (cA 2, 2, .inl sv))] [.ref (m 0), .int (nI k)] [(m 0, .inr (6, [.ref (m 1), .ref (m 2), .ref (m 3), .ref (m 4), .int (nI pm), .ref (m 5), .ref (m 6), .int (nI ty), .ref (m 7)])), (m 1, .inl (cA 0, 345, .inl z)), (m 3, .inl (cA 0, 690, .inl (rgF (k * 345) 345 z sl))), (m 4, .inl (cA 2, 2, .inl (upd sv k (nI 1))))] (z 4) := by
  refine MUi.mk (own := RX6) (by decide) rfl rfl (Nat.le_of_ble_eq_true rfl) (fun p_ e_ s_ m_ below meth c_ ls A_ CX hr hlk hW hA hE hB hl => ?_)
  obtain ⟨hx, hb, hml, hown, hts⟩ := id CX
  have hl : lv_has ls 3 [(0, .ref (m 0)), (1, .int (nI k))] := hl
  have hW : wld G A_ [(m 0, .inr (6, [.ref (m 1), .ref (m 2), .ref (m 3), .ref (m 4), .int (nI pm), .ref (m 5), .ref (m 6), .int (nI ty), .ref (m 7)])), (m 1, .inl (cA 0, 345, .inl z)), (m 3, .inl (cA 0, 690, .inl sl)), (m 4, .inl (cA 2, 2, .inl sv))] s_.heap s_.heap [] := hW
  refine lv_iload_n hx hb dX6_save_0 rfl (lv_at hl 1 rfl) ?_
  refine rn_iconst hx hb 0 rfl dX6_save_1 ?_
  refine rn_iconst hx hb 1 rfl dX6_save_2 ?_
  refine roS CX hE hW.1 (c_X6_in l G cA (nI k) (nI 0) (nI 1) ) (va_cwS 3 hts gX6_save_X6_in rfl rfl rfl hdn_X6_in ⟨Nat.le_of_ble_eq_true rfl, Nat.le_of_ble_eq_true rfl⟩) [] rfl B0_blind (fun _ _ _ => trivial) rfl hl.1 (rest := []) rfl (Nat.le_of_ble_eq_true rfl) dX6_save_3 ⟨Nat.zero_le _, Nat.zero_le _⟩ ?_
  refine rb_if_ne hx hb dX6_save_6 (by decide) (tgt := 12) (fun c_6 => ?_) (fun c_6 => ?_)
  · refine lv_aload_n hx hb dX6_save_12 rfl (lv_at hl 0 rfl) ?_
    refine rg (T := TX6) (N := 9) CX hE hW.1 in_X6_save_X6 0 rfl rfl 3 (by decide) fl_X6_save_19 rfl rfl dX6_save_13 ?_
    refine lv_iload_n hx hb dX6_save_16 rfl (lv_at hl 1 rfl) ?_
    refine rn_iconst hx hb 1 rfl dX6_save_17 ?_
    refine rn_zast (ws' := [(m 0, .inr (6, [.ref (m 1), .ref (m 2), .ref (m 3), .ref (m 4), .int (nI pm), .ref (m 5), .ref (m 6), .int (nI ty), .ref (m 7)])), (m 1, .inl (cA 0, 345, .inl z)), (m 3, .inl (cA 0, 690, .inl sl)), (m 4, .inl (cA 2, 2, .inl (upd sv k (vp_nar .boolean (nI 1)))))]) CX hE hW 3 rfl (j := k) (by omega) (ltb rfl) rfl dX6_save_18 (fun H locs hW => ?_)
    refine rn_iconst hx hb 0 rfl dX6_save_19 ?_
    refine lv_istore_n (lv' := [(2, .int (nI 0)), (0, .ref (m 0)), (1, .int (nI k))]) hx hb dX6_save_20 rfl hl (by decide) rfl (fun ls hl => ?_)
    have LP_21 : ∀ (nn_ : Nat) (i : Nat) (ss : Nat → Int32), (345 - i) < nn_ → (i ≤ 345) → (ss = rgF (k * 345) i z sl) → ∀ (H : Heap) (locs : List Loc) (ls : Array Slot), wld G A_ [(m 0, .inr (6, [.ref (m 1), .ref (m 2), .ref (m 3), .ref (m 4), .int (nI pm), .ref (m 5), .ref (m 6), .int (nI ty), .ref (m 7)])), (m 1, .inl (cA 0, 345, .inl z)), (m 3, .inl (cA 0, 690, .inl ss)), (m 4, .inl (cA 2, 2, .inl (upd sv k (vp_nar .boolean (nI 1)))))] s_.heap H locs → lv_has ls 3 [(0, .ref (m 0)), (1, .int (nI k)), (2, .int (nI i))] → W p_ l e_ ({ frames := 1, cells := 0, slots := 0, locals := 22 } : Room) s_ m_ ([.ref (m 0), .int (nI k)] : List Value).toArray below meth c_ H locs 0 0 (MQ below (va_Qi (fun r_ (_ : Unit) => r_ = (z 4)) (fun _ t_ => va_P G vwCl [(m 0, .inr (6, [.ref (m 1), .ref (m 2), .ref (m 3), .ref (m 4), .int (nI pm), .ref (m 5), .ref (m 6), .int (nI ty), .ref (m 7)])), (m 1, .inl (cA 0, 345, .inl z)), (m 3, .inl (cA 0, 690, .inl (rgF (k * 345) 345 z sl))), (m 4, .inl (cA 2, 2, .inl (upd sv k (nI 1))))] t_.heap ∧ va_D A_ [(m 0, .inr (6, [.ref (m 1), .ref (m 2), .ref (m 3), .ref (m 4), .int (nI pm), .ref (m 5), .ref (m 6), .int (nI ty), .ref (m 7)])), (m 1, .inl (cA 0, 345, .inl z)), (m 3, .inl (cA 0, 690, .inl (rgF (k * 345) 345 z sl))), (m 4, .inl (cA 2, 2, .inl (upd sv k (nI 1))))]) A_) ([.ref (m 0), .int (nI k)] : List Value).toArray s_ 0 0 A_) (F0 m_ 21 ls []) := by
      intro nn_
      induction nn_ with
      | zero => intro i ss hmu; exact absurd hmu (Nat.not_lt_zero _)
      | succ nn_ ih =>
        have ih_21 := ih
        clear ih
        intro i ss hmu_21 hi hss H locs ls hW hl
        refine lv_iload_n hx hb dX6_save_21 rfl (lv_at hl 2 rfl) ?_
        refine lv_sipush (v := (nI 345)) hx hb dX6_save_22 ks_345 ?_
        refine rn_icmp_ge hx hb (by omega) (by omega) dX6_save_25 (by decide) (tgt := 52) (fun c_25 => ?_) (fun c_25 => ?_)
        · refine lv_aload_n hx hb dX6_save_52 rfl (lv_at hl 0 rfl) ?_
          refine rg (T := TX6) (N := 9) CX hE hW.1 in_X6_save_X6 0 rfl rfl 0 (by decide) fl_X6_save_7 rfl rfl dX6_save_53 ?_
          refine rn_iconst hx hb 4 rfl dX6_save_56 ?_
          refine rn_iald CX hE hW.1 1 rfl (j := 4) (by omega) (ltb rfl) dX6_save_57 ?_
          have hW := hW.ext (ws' := [(m 0, .inr (6, [.ref (m 1), .ref (m 2), .ref (m 3), .ref (m 4), .int (nI pm), .ref (m 5), .ref (m 6), .int (nI ty), .ref (m 7)])), (m 1, .inl (cA 0, 345, .inl z)), (m 3, .inl (cA 0, 690, .inl (rgF (k * 345) 345 z sl))), (m 4, .inl (cA 2, 2, .inl (upd sv k (vp_nar .boolean (nI 1)))))]) 2 (g := (rgF (k * 345) 345 z sl)) rfl (fun j _ => by rw [hss, show i = 345 by omega]) rfl
          have hW := hW.ext (ws' := [(m 0, .inr (6, [.ref (m 1), .ref (m 2), .ref (m 3), .ref (m 4), .int (nI pm), .ref (m 5), .ref (m 6), .int (nI ty), .ref (m 7)])), (m 1, .inl (cA 0, 345, .inl z)), (m 3, .inl (cA 0, 690, .inl (rgF (k * 345) 345 z sl))), (m 4, .inl (cA 2, 2, .inl (upd sv k (nI 1))))]) 3 (g := (upd sv k (nI 1))) rfl (fun j _ => rfl) rfl
          exact mu_reti CX hr hlk rfl rfl hW dX6_save_58
        · refine lv_aload_n hx hb dX6_save_28 rfl (lv_at hl 0 rfl) ?_
          refine rg (T := TX6) (N := 9) CX hE hW.1 in_X6_save_X6 0 rfl rfl 2 (by decide) fl_X6_save_16 rfl rfl dX6_save_29 ?_
          refine lv_iload_n hx hb dX6_save_32 rfl (lv_at hl 1 rfl) ?_
          refine lv_sipush (v := (nI 345)) hx hb dX6_save_33 ks_345 ?_
          refine rn_imul hx hb dX6_save_36 ?_
          refine lv_iload_n hx hb dX6_save_37 rfl (lv_at hl 2 rfl) ?_
          refine rn_iadd hx hb dX6_save_38 ?_
          refine lv_aload_n hx hb dX6_save_39 rfl (lv_at hl 0 rfl) ?_
          refine rg (T := TX6) (N := 9) CX hE hW.1 in_X6_save_X6 0 rfl rfl 0 (by decide) fl_X6_save_7 rfl rfl dX6_save_40 ?_
          refine lv_iload_n hx hb dX6_save_43 rfl (lv_at hl 2 rfl) ?_
          refine rn_iald CX hE hW.1 1 rfl (j := i) (by omega) (ltb rfl) dX6_save_44 ?_
          refine rn_iast (ws' := [(m 0, .inr (6, [.ref (m 1), .ref (m 2), .ref (m 3), .ref (m 4), .int (nI pm), .ref (m 5), .ref (m 6), .int (nI ty), .ref (m 7)])), (m 1, .inl (cA 0, 345, .inl z)), (m 3, .inl (cA 0, 690, .inl (upd ss ((k * 345) + i) (z i)))), (m 4, .inl (cA 2, 2, .inl (upd sv k (vp_nar .boolean (nI 1)))))]) CX hE hW 2 rfl (j := ((k * 345) + i)) (by omega) (ltb rfl) rfl dX6_save_45 (fun H locs hW => ?_)
          refine rn_iinc hx hb (n := 1) (lv' := [(2, .int (nI (i + 1))), (0, .ref (m 0)), (1, .int (nI k))]) rfl dX6_save_46 hl (k := 2) rfl (by decide) rfl (fun ls hl => ?_)
          refine lv_goto (tgt := 21) hx hb dX6_save_49 (by decide) ?_
          exact ih_21 (i + 1) (upd ss ((k * 345) + i) (z i)) (by omega) (by omega) (rgF_next hss rfl rfl) _ _ ls hW (lv_sub hl [1, 2, 0] rfl)
    exact LP_21 _ 0 sl (Nat.lt_succ_self _) (by omega) rgF_0 _ _ ls hW (lv_sub hl [1, 2, 0] rfl)
  · exact absurd (inP_nI (Nat.zero_le _) (by omega) (by decide)) c_6
set_option maxHeartbeats 4000000 in
set_option maxRecDepth 100000 in
theorem c_X6_save_e (l : Launch) (G : va_G) (cA : Nat → ClassId) (m : Nat → Nat) (pm : Nat) (ty : Nat) (z : Nat → Int32) (k : Int32) (hbad : ¬ inP k (nI 0) (nI 1)) : RO l yX6_save wsX6_save ({ frames := 1, cells := 0, slots := 0, locals := 22 }) G cA B0 [(m 0, .inr (6, [.ref (m 1), .ref (m 2), .ref (m 3), .ref (m 4), .int (nI pm), .ref (m 5), .ref (m 6), .int (nI ty), .ref (m 7)])), (m 1, .inl (cA 0, 345, .inl z))] [.ref (m 0), .int k] (-2) := by
  refine RO.mk (own := RX6) (by decide) rfl rfl (Nat.le_of_ble_eq_true rfl) (fun p_ e_ s_ m_ below meth c_ ls CX hr hlk hP hE hB hl => ?_)
  obtain ⟨hx, hb, hml, hown, hts⟩ := id CX
  have hl : lv_has ls 3 [(0, .ref (m 0)), (1, .int k)] := hl
  refine lv_iload_n hx hb dX6_save_0 rfl (lv_at hl 1 rfl) ?_
  refine rn_iconst hx hb 0 rfl dX6_save_1 ?_
  refine rn_iconst hx hb 1 rfl dX6_save_2 ?_
  refine roS CX hE hP (c_X6_in l G cA k (nI 0) (nI 1) ) (va_cwS 3 hts gX6_save_X6_in rfl rfl rfl hdn_X6_in ⟨Nat.le_of_ble_eq_true rfl, Nat.le_of_ble_eq_true rfl⟩) [] rfl B0_blind (fun _ _ _ => trivial) rfl hl.1 (rest := []) rfl (Nat.le_of_ble_eq_true rfl) dX6_save_3 ⟨Nat.zero_le _, Nat.zero_le _⟩ ?_
  refine rb_if_ne hx hb dX6_save_6 (by decide) (tgt := 12) (fun c_6 => ?_) (fun c_6 => ?_)
  · exact absurd c_6 hbad
  · refine lv_bipush (v := (-2)) hx hb dX6_save_9 kb_m2 ?_
    exact ro_ret CX hr hlk rfl rfl dX6_save_11
theorem fl_X6_restore_19 : Cond.fieldLink RX6 19 RX6 (TX6 3).2.1 (TX6 3).2.2.1 ∈ wsX6_restore := by decide +kernel
theorem in_X6_restore_X6 : ∀ w ∈ wsX60, w ∈ wsX6_restore := by decide +kernel
theorem fl_X6_restore_7 : Cond.fieldLink RX6 7 RX6 (TX6 0).2.1 (TX6 0).2.2.1 ∈ wsX6_restore := by decide +kernel
theorem fl_X6_restore_16 : Cond.fieldLink RX6 16 RX6 (TX6 2).2.1 (TX6 2).2.2.1 ∈ wsX6_restore := by decide +kernel
set_option maxHeartbeats 4000000 in
set_option maxRecDepth 100000 in
theorem c_X6_restore_k (l : Launch) (G : va_G) (cA : Nat → ClassId) (m : Nat → Nat) (pm : Nat) (ty : Nat) (z : Nat → Int32) (pa : Nat → Int32) (sl : Nat → Int32) (sv : Nat → Int32) (k : Nat) (hpm : pm ≤ 6) (hk : k < 2) (hsv : ¬ sv k = 0) : MUi l yX6_restore wsX6_restore ({ frames := 1, cells := 0, slots := 0, locals := 22 }) G cA BM0 [(m 0, .inr (6, [.ref (m 1), .ref (m 2), .ref (m 3), .ref (m 4), .int (nI pm), .ref (m 5), .ref (m 6), .int (nI ty), .ref (m 7)])), (m 1, .inl (cA 0, 345, .inl z)), (m 2, .inl (cA 0, 2070, .inl pa)), (m 3, .inl (cA 0, 690, .inl sl)), (m 4, .inl (cA 2, 2, .inl sv))] [.ref (m 0), .int (nI k)] [(m 0, .inr (6, [.ref (m 1), .ref (m 2), .ref (m 3), .ref (m 4), .int (nI (rec1 pm + 1)), .ref (m 5), .ref (m 6), .int (nI ty), .ref (m 7)])), (m 1, .inl (cA 0, 345, .inl (undZ z sl k))), (m 2, .inl (cA 0, 2070, .inl (recP pa z pm))), (m 3, .inl (cA 0, 690, .inl sl)), (m 4, .inl (cA 2, 2, .inl sv))] (undZ z sl k 4) := by
  refine MUi.mk (own := RX6) (by decide) rfl rfl (Nat.le_of_ble_eq_true rfl) (fun p_ e_ s_ m_ below meth c_ ls A_ CX hr hlk hW hA hE hB hl => ?_)
  obtain ⟨hx, hb, hml, hown, hts⟩ := id CX
  have hl : lv_has ls 3 [(0, .ref (m 0)), (1, .int (nI k))] := hl
  have hW : wld G A_ [(m 0, .inr (6, [.ref (m 1), .ref (m 2), .ref (m 3), .ref (m 4), .int (nI pm), .ref (m 5), .ref (m 6), .int (nI ty), .ref (m 7)])), (m 1, .inl (cA 0, 345, .inl z)), (m 2, .inl (cA 0, 2070, .inl pa)), (m 3, .inl (cA 0, 690, .inl sl)), (m 4, .inl (cA 2, 2, .inl sv))] s_.heap s_.heap [] := hW
  refine lv_iload_n hx hb dX6_restore_0 rfl (lv_at hl 1 rfl) ?_
  refine rn_iconst hx hb 0 rfl dX6_restore_1 ?_
  refine rn_iconst hx hb 1 rfl dX6_restore_2 ?_
  refine roS CX hE hW.1 (c_X6_in l G cA (nI k) (nI 0) (nI 1) ) (va_cwS 3 hts gX6_restore_X6_in rfl rfl rfl hdn_X6_in ⟨Nat.le_of_ble_eq_true rfl, Nat.le_of_ble_eq_true rfl⟩) [] rfl B0_blind (fun _ _ _ => trivial) rfl hl.1 (rest := []) rfl (Nat.le_of_ble_eq_true rfl) dX6_restore_3 ⟨Nat.zero_le _, Nat.zero_le _⟩ ?_
  refine rb_if_ne hx hb dX6_restore_6 (by decide) (tgt := 12) (fun c_6 => ?_) (fun c_6 => ?_)
  · refine lv_aload_n hx hb dX6_restore_12 rfl (lv_at hl 0 rfl) ?_
    refine rg (T := TX6) (N := 9) CX hE hW.1 in_X6_restore_X6 0 rfl rfl 3 (by decide) fl_X6_restore_19 rfl rfl dX6_restore_13 ?_
    refine lv_iload_n hx hb dX6_restore_16 rfl (lv_at hl 1 rfl) ?_
    refine rn_zald CX hE hW.1 4 rfl (j := k) (by omega) (ltb rfl) dX6_restore_17 ?_
    refine lv_if_ne hx hb dX6_restore_18 (by decide) (tgt := 24) (fun c_18 => ?_) (fun c_18 => ?_)
    · refine lv_aload_n hx hb dX6_restore_24 rfl (lv_at hl 0 rfl) ?_
      refine muvV (ws' := [(m 0, .inr (6, [.ref (m 1), .ref (m 2), .ref (m 3), .ref (m 4), .int (nI (rec1 pm + 1)), .ref (m 5), .ref (m 6), .int (nI ty), .ref (m 7)])), (m 1, .inl (cA 0, 345, .inl z)), (m 2, .inl (cA 0, 2070, .inl (recP pa z pm))), (m 3, .inl (cA 0, 690, .inl sl)), (m 4, .inl (cA 2, 2, .inl sv))]) CX hE hW hA (c_X6_record l G cA m pm ty z pa (by omega)) (cwV 0 hts gX6_restore_X6_record rfl rfl rfl hdv_X6_record ⟨Nat.le_of_ble_eq_true rfl, Nat.le_of_ble_eq_true rfl⟩) [0, 1, 2] (by decide) rfl rfl rfl 0 rfl rfl rfl BM0_blind (fun _ _ _ _ => trivial) rfl hl.1 (rest := []) rfl (Nat.le_of_ble_eq_true rfl) dX6_restore_25 ⟨Nat.zero_le _, Nat.zero_le _⟩ (fun H locs hW => ?_)
      refine rn_iconst hx hb 0 rfl dX6_restore_28 ?_
      refine lv_istore_n (lv' := [(2, .int (nI 0)), (0, .ref (m 0)), (1, .int (nI k))]) hx hb dX6_restore_29 rfl hl (by decide) rfl (fun ls hl => ?_)
      have LP_30 : ∀ (nn_ : Nat) (i : Nat) (zz : Nat → Int32), (345 - i) < nn_ → (i ≤ 345) → (zz = rgF 0 i (fun j => sl (k * 345 + j)) z) → ∀ (H : Heap) (locs : List Loc) (ls : Array Slot), wld G A_ [(m 0, .inr (6, [.ref (m 1), .ref (m 2), .ref (m 3), .ref (m 4), .int (nI (rec1 pm + 1)), .ref (m 5), .ref (m 6), .int (nI ty), .ref (m 7)])), (m 1, .inl (cA 0, 345, .inl zz)), (m 2, .inl (cA 0, 2070, .inl (recP pa z pm))), (m 3, .inl (cA 0, 690, .inl sl)), (m 4, .inl (cA 2, 2, .inl sv))] s_.heap H locs → lv_has ls 3 [(0, .ref (m 0)), (1, .int (nI k)), (2, .int (nI i))] → W p_ l e_ ({ frames := 1, cells := 0, slots := 0, locals := 22 } : Room) s_ m_ ([.ref (m 0), .int (nI k)] : List Value).toArray below meth c_ H locs 0 0 (MQ below (va_Qi (fun r_ (_ : Unit) => r_ = (undZ z sl k 4)) (fun _ t_ => va_P G vwCl [(m 0, .inr (6, [.ref (m 1), .ref (m 2), .ref (m 3), .ref (m 4), .int (nI (rec1 pm + 1)), .ref (m 5), .ref (m 6), .int (nI ty), .ref (m 7)])), (m 1, .inl (cA 0, 345, .inl (undZ z sl k))), (m 2, .inl (cA 0, 2070, .inl (recP pa z pm))), (m 3, .inl (cA 0, 690, .inl sl)), (m 4, .inl (cA 2, 2, .inl sv))] t_.heap ∧ va_D A_ [(m 0, .inr (6, [.ref (m 1), .ref (m 2), .ref (m 3), .ref (m 4), .int (nI (rec1 pm + 1)), .ref (m 5), .ref (m 6), .int (nI ty), .ref (m 7)])), (m 1, .inl (cA 0, 345, .inl (undZ z sl k))), (m 2, .inl (cA 0, 2070, .inl (recP pa z pm))), (m 3, .inl (cA 0, 690, .inl sl)), (m 4, .inl (cA 2, 2, .inl sv))]) A_) ([.ref (m 0), .int (nI k)] : List Value).toArray s_ 0 0 A_) (F0 m_ 30 ls []) := by
        intro nn_
        induction nn_ with
        | zero => intro i zz hmu; exact absurd hmu (Nat.not_lt_zero _)
        | succ nn_ ih =>
          have ih_30 := ih
          clear ih
          intro i zz hmu_30 hi hzz H locs ls hW hl
          refine lv_iload_n hx hb dX6_restore_30 rfl (lv_at hl 2 rfl) ?_
          refine lv_sipush (v := (nI 345)) hx hb dX6_restore_31 ks_345 ?_
          refine rn_icmp_ge hx hb (by omega) (by omega) dX6_restore_34 (by decide) (tgt := 61) (fun c_34 => ?_) (fun c_34 => ?_)
          · refine lv_aload_n hx hb dX6_restore_61 rfl (lv_at hl 0 rfl) ?_
            refine rg (T := TX6) (N := 9) CX hE hW.1 in_X6_restore_X6 0 rfl rfl 0 (by decide) fl_X6_restore_7 rfl rfl dX6_restore_62 ?_
            refine rn_iconst hx hb 4 rfl dX6_restore_65 ?_
            refine rn_iald CX hE hW.1 1 rfl (j := 4) (by omega) (ltb rfl) dX6_restore_66 ?_
            have ei : i = 345 := by omega
            have hW := hW.ext (ws' := [(m 0, .inr (6, [.ref (m 1), .ref (m 2), .ref (m 3), .ref (m 4), .int (nI (rec1 pm + 1)), .ref (m 5), .ref (m 6), .int (nI ty), .ref (m 7)])), (m 1, .inl (cA 0, 345, .inl (undZ z sl k))), (m 2, .inl (cA 0, 2070, .inl (recP pa z pm))), (m 3, .inl (cA 0, 690, .inl sl)), (m 4, .inl (cA 2, 2, .inl sv))]) 1 (g := (undZ z sl k)) rfl (fun j _ => by rw [hzz, ei]; rfl) rfl
            exact mu_reti CX hr hlk (by rw [hzz, ei]; rfl) rfl hW dX6_restore_67
          · refine lv_aload_n hx hb dX6_restore_37 rfl (lv_at hl 0 rfl) ?_
            refine rg (T := TX6) (N := 9) CX hE hW.1 in_X6_restore_X6 0 rfl rfl 0 (by decide) fl_X6_restore_7 rfl rfl dX6_restore_38 ?_
            refine lv_iload_n hx hb dX6_restore_41 rfl (lv_at hl 2 rfl) ?_
            refine lv_aload_n hx hb dX6_restore_42 rfl (lv_at hl 0 rfl) ?_
            refine rg (T := TX6) (N := 9) CX hE hW.1 in_X6_restore_X6 0 rfl rfl 2 (by decide) fl_X6_restore_16 rfl rfl dX6_restore_43 ?_
            refine lv_iload_n hx hb dX6_restore_46 rfl (lv_at hl 1 rfl) ?_
            refine lv_sipush (v := (nI 345)) hx hb dX6_restore_47 ks_345 ?_
            refine rn_imul hx hb dX6_restore_50 ?_
            refine lv_iload_n hx hb dX6_restore_51 rfl (lv_at hl 2 rfl) ?_
            refine rn_iadd hx hb dX6_restore_52 ?_
            refine rn_iald CX hE hW.1 3 rfl (j := ((k * 345) + i)) (by omega) (ltb rfl) dX6_restore_53 ?_
            refine rn_iast (ws' := [(m 0, .inr (6, [.ref (m 1), .ref (m 2), .ref (m 3), .ref (m 4), .int (nI (rec1 pm + 1)), .ref (m 5), .ref (m 6), .int (nI ty), .ref (m 7)])), (m 1, .inl (cA 0, 345, .inl (upd zz i (sl ((k * 345) + i))))), (m 2, .inl (cA 0, 2070, .inl (recP pa z pm))), (m 3, .inl (cA 0, 690, .inl sl)), (m 4, .inl (cA 2, 2, .inl sv))]) CX hE hW 1 rfl (j := i) (by omega) (ltb rfl) rfl dX6_restore_54 (fun H locs hW => ?_)
            refine rn_iinc hx hb (n := 1) (lv' := [(2, .int (nI (i + 1))), (0, .ref (m 0)), (1, .int (nI k))]) rfl dX6_restore_55 hl (k := 2) rfl (by decide) rfl (fun ls hl => ?_)
            refine lv_goto (tgt := 30) hx hb dX6_restore_58 (by decide) ?_
            exact ih_30 (i + 1) (upd zz i (sl ((k * 345) + i))) (by omega) (by omega) (rgF_next hzz (Nat.zero_add _).symm rfl) _ _ ls hW (lv_sub hl [1, 2, 0] rfl)
      exact LP_30 _ 0 z (Nat.lt_succ_self _) (by omega) rgF_0 _ _ ls hW (lv_sub hl [1, 2, 0] rfl)
    · exact absurd c_18 hsv
  · exact absurd (inP_nI (Nat.zero_le _) (by omega) (by decide)) c_6
set_option maxHeartbeats 4000000 in
set_option maxRecDepth 100000 in
theorem c_X6_restore_e (l : Launch) (G : va_G) (cA : Nat → ClassId) (m : Nat → Nat) (pm : Nat) (ty : Nat) (z : Nat → Int32) (sv : Nat → Int32) (k : Int32) (hbad : ∀ i, i < 2 → k = nI i → sv i = 0) : RO l yX6_restore wsX6_restore ({ frames := 1, cells := 0, slots := 0, locals := 22 }) G cA B0 [(m 0, .inr (6, [.ref (m 1), .ref (m 2), .ref (m 3), .ref (m 4), .int (nI pm), .ref (m 5), .ref (m 6), .int (nI ty), .ref (m 7)])), (m 4, .inl (cA 2, 2, .inl sv))] [.ref (m 0), .int k] (if ¬ inP k (nI 0) (nI 1) then -2 else -5) := by
  refine RO.mk (own := RX6) (by decide) rfl rfl (Nat.le_of_ble_eq_true rfl) (fun p_ e_ s_ m_ below meth c_ ls CX hr hlk hP hE hB hl => ?_)
  obtain ⟨hx, hb, hml, hown, hts⟩ := id CX
  have hl : lv_has ls 3 [(0, .ref (m 0)), (1, .int k)] := hl
  refine lv_iload_n hx hb dX6_restore_0 rfl (lv_at hl 1 rfl) ?_
  refine rn_iconst hx hb 0 rfl dX6_restore_1 ?_
  refine rn_iconst hx hb 1 rfl dX6_restore_2 ?_
  refine roS CX hE hP (c_X6_in l G cA k (nI 0) (nI 1) ) (va_cwS 3 hts gX6_restore_X6_in rfl rfl rfl hdn_X6_in ⟨Nat.le_of_ble_eq_true rfl, Nat.le_of_ble_eq_true rfl⟩) [] rfl B0_blind (fun _ _ _ => trivial) rfl hl.1 (rest := []) rfl (Nat.le_of_ble_eq_true rfl) dX6_restore_3 ⟨Nat.zero_le _, Nat.zero_le _⟩ ?_
  refine rb_if_ne hx hb dX6_restore_6 (by decide) (tgt := 12) (fun c_6 => ?_) (fun c_6 => ?_)
  · obtain ⟨i, hi, ei⟩ := inP_nat (by decide) c_6
    have hi2 : i < 2 := by omega
    subst ei
    refine lv_aload_n hx hb dX6_restore_12 rfl (lv_at hl 0 rfl) ?_
    refine rg (T := TX6) (N := 9) CX hE hP in_X6_restore_X6 0 rfl rfl 3 (by decide) fl_X6_restore_19 rfl rfl dX6_restore_13 ?_
    refine lv_iload_n hx hb dX6_restore_16 rfl (lv_at hl 1 rfl) ?_
    refine rn_zald CX hE hP 1 rfl (j := i) (by omega) (ltb rfl) dX6_restore_17 ?_
    refine lv_if_ne hx hb dX6_restore_18 (by decide) (tgt := 24) (fun c_18 => ?_) (fun c_18 => ?_)
    · exact absurd (hbad i hi2 rfl) c_18
    · refine lv_bipush (v := (-5)) hx hb dX6_restore_21 kb_m5 ?_
      exact ro_ret CX hr hlk ((if_neg (fun q => q c_6)).symm) rfl dX6_restore_23
  · refine lv_bipush (v := (-2)) hx hb dX6_restore_9 kb_m2 ?_
    exact ro_ret CX hr hlk ((if_pos c_6).symm) rfl dX6_restore_11
