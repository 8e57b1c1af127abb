theorem w_L_cell_cn7 : Cond.constant RL 7 (32452867) ∈ wsL_cell := by decide +kernel
theorem kl_32452867 : (32452867 : Int32) = (nI 32452867) := by decide +kernel
theorem w_L_cell_cn8 : Cond.constant RL 8 (15485863) ∈ wsL_cell := by decide +kernel
theorem kl_15485863 : (15485863 : Int32) = (nI 15485863) := by decide +kernel
set_option maxHeartbeats 4000000 in
set_option maxRecDepth 100000 in
theorem c_L_cell (l : Launch) (G : va_G) (cA : Nat → ClassId) (bq : Nat) (L : Nat) (xs : Nat → Int32) (k : Nat) (hL : L ≤ 260) (hk : k < 100) : RO l yL_cell wsL_cell ({ frames := 0, cells := 0, slots := 0, locals := 0 }) G cA (SX bq L xs) [] [.ref bq, .int (nI k)] (cellF xs L k) := by
  refine RO.mk (own := RL) (by decide) rfl rfl (Nat.le_of_ble_eq_true rfl) (fun p_ e_ s_ m_ below meth c_ ls CX hr hlk hP hE hB hl => ?_)
  obtain ⟨hx, hb, hml, hown, hts⟩ := id CX
  have hl : lv_has ls 2 [(0, .ref bq), (1, .int (nI k))] := hl
  refine lv_iload_n hx hb dL_cell_0 rfl (lv_at hl 1 rfl) ?_
  refine lv_aload_n hx hb dL_cell_1 rfl (lv_at hl 0 rfl) ?_
  refine va_slen (A := AF) hx hb hB.1 hB.2 (fun z => z) va_S.rf dL_cell_2 ?_
  refine rn_top (nI L) rfl ?_
  refine rn_icmp_ge hx hb (by omega) (by omega) dL_cell_3 (by decide) (tgt := 12) (fun c_3 => ?_) (fun c_3 => ?_)
  · refine lv_ldc (v := (32452867)) hx hb hown (hts _ w_L_cell_cn7) dL_cell_12 ?_
    refine rn_top (nI 32452867) kl_32452867 ?_
    refine lv_iload_n hx hb dL_cell_14 rfl (lv_at hl 1 rfl) ?_
    refine rn_imul hx hb dL_cell_15 ?_
    refine lv_ldc (v := (15485863)) hx hb hown (hts _ w_L_cell_cn8) dL_cell_16 ?_
    refine rn_top (nI 15485863) kl_15485863 ?_
    refine rn_iadd hx hb dL_cell_18 ?_
    exact ro_ret CX hr hlk (by unfold cellF; split <;> rename_i q_ <;> first | exact absurd q_ (by omega) | rfl) rfl dL_cell_19
  · refine lv_aload_n hx hb dL_cell_6 rfl (lv_at hl 0 rfl) ?_
    refine lv_iload_n hx hb dL_cell_7 rfl (lv_at hl 1 rfl) ?_
    refine va_sld (A := AF) (i := nI k) hx hb hB.1 hB.2 (fun z => z) va_S.rf (vp_in_nI (by omega) (by omega)) dL_cell_8 ?_
    refine rn_top (xs k) (by rw [nI_clamp (by omega)]) ?_
    refine lv_goto (tgt := 19) hx hb dL_cell_9 (by decide) ?_
    exact ro_ret CX hr hlk (by unfold cellF; split <;> rename_i q_ <;> first | exact absurd q_ (by omega) | rfl) rfl dL_cell_19
theorem w_L_low_cn9 : Cond.constant RL 9 (2147483647) ∈ wsL_low := by decide +kernel
theorem kl_2147483647 : (2147483647 : Int32) = (nI 2147483647) := by decide +kernel
set_option maxHeartbeats 4000000 in
set_option maxRecDepth 100000 in
theorem c_L_low (l : Launch) (G : va_G) (cA : Nat → ClassId) (v : Int32) (n : Int32) (hn : ¬ n = 0) : RO l yL_low wsL_low ({ frames := 0, cells := 0, slots := 0, locals := 0 }) G cA B0 [] [.int v, .int n] (lowF v n) := by
  refine RO.mk (own := RL) (by decide) rfl rfl (Nat.le_of_ble_eq_true rfl) (fun p_ e_ s_ m_ below meth c_ ls CX hr hlk hP hE hB hl => ?_)
  obtain ⟨hx, hb, hml, hown, hts⟩ := id CX
  have hl : lv_has ls 2 [(0, .int v), (1, .int n)] := hl
  refine lv_iload_n hx hb dL_low_0 rfl (lv_at hl 0 rfl) ?_
  refine lv_ldc (v := (2147483647)) hx hb hown (hts _ w_L_low_cn9) dL_low_1 ?_
  refine rn_top (nI 2147483647) kl_2147483647 ?_
  refine lv_iand hx hb dL_low_3 ?_
  refine lv_iload_n hx hb dL_low_4 rfl (lv_at hl 1 rfl) ?_
  refine lv_irem hx hb dL_low_5 hn ?_
  exact ro_ret CX hr hlk rfl rfl dL_low_6
set_option maxHeartbeats 4000000 in
set_option maxRecDepth 100000 in
theorem c_L_at (l : Launch) (G : va_G) (cA : Nat → ClassId) (fa : Nat) (ba : Nat) (fl : Nat → Int32) (h : Nat → Int32) (x : Int32) (y : Int32) (c : Nat) (hc : c < 60) : RO l yL_at wsL_at ({ frames := 0, cells := 0, slots := 0, locals := 0 }) G cA B0 [(fa, .inl (cA 0, 60, .inl fl)), (ba, .inl (cA 0, 60, .inl h))] [.ref fa, .ref ba, .int x, .int y, .int (nI c)] (atF fl h c x y) := by
  refine RO.mk (own := RL) (by decide) rfl rfl (Nat.le_of_ble_eq_true rfl) (fun p_ e_ s_ m_ below meth c_ ls CX hr hlk hP hE hB hl => ?_)
  obtain ⟨hx, hb, hml, hown, hts⟩ := id CX
  have hl : lv_has ls 5 [(0, .ref fa), (1, .ref ba), (2, .int x), (3, .int y), (4, .int (nI c))] := hl
  refine lv_iload_n hx hb dL_at_0 rfl (lv_at hl 2 rfl) ?_
  refine lv_if_lt hx hb dL_at_1 (by decide) (tgt := 31) (fun c_1 => ?_) (fun c_1 => ?_)
  · refine lv_aload_n hx hb dL_at_31 rfl (lv_at hl 1 rfl) ?_
    refine lv_iload hx hb dL_at_32 (lv_at hl 4 rfl) ?_
    refine rn_iald CX hE hP 1 rfl (j := c) (by omega) (ltb rfl) dL_at_34 ?_
    refine lv_goto (tgt := 46) hx hb dL_at_35 (by decide) ?_
    exact ro_ret CX hr hlk (by first | exact at_in hkx hky c_28 | exact at_wall hkx hky c_28 | exact at_out (fun q => absurd c_1 (Int32.not_lt.mpr q.1.1)) | exact at_out (fun q => absurd c_7 (Int32.not_lt.mpr q.1.2)) | exact at_out (fun q => absurd c_11 (Int32.not_lt.mpr q.2.1)) | exact at_out (fun q => absurd c_16 (Int32.not_lt.mpr q.2.2))) rfl dL_at_46
  · refine lv_iload_n hx hb dL_at_4 rfl (lv_at hl 2 rfl) ?_
    refine lv_bipush (v := (nI 9)) hx hb dL_at_5 kb_9 ?_
    refine lv_icmp_gt hx hb dL_at_7 (by decide) (tgt := 31) (fun c_7 => ?_) (fun c_7 => ?_)
    · refine lv_aload_n hx hb dL_at_31 rfl (lv_at hl 1 rfl) ?_
      refine lv_iload hx hb dL_at_32 (lv_at hl 4 rfl) ?_
      refine rn_iald CX hE hP 1 rfl (j := c) (by omega) (ltb rfl) dL_at_34 ?_
      refine lv_goto (tgt := 46) hx hb dL_at_35 (by decide) ?_
      exact ro_ret CX hr hlk (by first | exact at_in hkx hky c_28 | exact at_wall hkx hky c_28 | exact at_out (fun q => absurd c_1 (Int32.not_lt.mpr q.1.1)) | exact at_out (fun q => absurd c_7 (Int32.not_lt.mpr q.1.2)) | exact at_out (fun q => absurd c_11 (Int32.not_lt.mpr q.2.1)) | exact at_out (fun q => absurd c_16 (Int32.not_lt.mpr q.2.2))) rfl dL_at_46
    · refine lv_iload_n hx hb dL_at_10 rfl (lv_at hl 3 rfl) ?_
      refine lv_if_lt hx hb dL_at_11 (by decide) (tgt := 31) (fun c_11 => ?_) (fun c_11 => ?_)
      · refine lv_aload_n hx hb dL_at_31 rfl (lv_at hl 1 rfl) ?_
        refine lv_iload hx hb dL_at_32 (lv_at hl 4 rfl) ?_
        refine rn_iald CX hE hP 1 rfl (j := c) (by omega) (ltb rfl) dL_at_34 ?_
        refine lv_goto (tgt := 46) hx hb dL_at_35 (by decide) ?_
        exact ro_ret CX hr hlk (by first | exact at_in hkx hky c_28 | exact at_wall hkx hky c_28 | exact at_out (fun q => absurd c_1 (Int32.not_lt.mpr q.1.1)) | exact at_out (fun q => absurd c_7 (Int32.not_lt.mpr q.1.2)) | exact at_out (fun q => absurd c_11 (Int32.not_lt.mpr q.2.1)) | exact at_out (fun q => absurd c_16 (Int32.not_lt.mpr q.2.2))) rfl dL_at_46
      · refine lv_iload_n hx hb dL_at_14 rfl (lv_at hl 3 rfl) ?_
        refine rn_iconst hx hb 5 rfl dL_at_15 ?_
        refine lv_icmp_gt hx hb dL_at_16 (by decide) (tgt := 31) (fun c_16 => ?_) (fun c_16 => ?_)
        · refine lv_aload_n hx hb dL_at_31 rfl (lv_at hl 1 rfl) ?_
          refine lv_iload hx hb dL_at_32 (lv_at hl 4 rfl) ?_
          refine rn_iald CX hE hP 1 rfl (j := c) (by omega) (ltb rfl) dL_at_34 ?_
          refine lv_goto (tgt := 46) hx hb dL_at_35 (by decide) ?_
          exact ro_ret CX hr hlk (by first | exact at_in hkx hky c_28 | exact at_wall hkx hky c_28 | exact at_out (fun q => absurd c_1 (Int32.not_lt.mpr q.1.1)) | exact at_out (fun q => absurd c_7 (Int32.not_lt.mpr q.1.2)) | exact at_out (fun q => absurd c_11 (Int32.not_lt.mpr q.2.1)) | exact at_out (fun q => absurd c_16 (Int32.not_lt.mpr q.2.2))) rfl dL_at_46
        · obtain ⟨kx, ky, hkx, hky, ex, ey⟩ := cellP_nat (show cellP x y from ⟨⟨Int32.not_lt.mp c_1, Int32.not_lt.mp c_7⟩, ⟨Int32.not_lt.mp c_11, Int32.not_lt.mp c_16⟩⟩)
          subst ex
          subst ey
          refine lv_aload_n hx hb dL_at_19 rfl (lv_at hl 0 rfl) ?_
          refine lv_bipush (v := (nI 10)) hx hb dL_at_20 kb_10 ?_
          refine lv_iload_n hx hb dL_at_22 rfl (lv_at hl 3 rfl) ?_
          refine rn_imul hx hb dL_at_23 ?_
          refine lv_iload_n hx hb dL_at_24 rfl (lv_at hl 2 rfl) ?_
          refine rn_iadd hx hb dL_at_25 ?_
          refine rn_top (nI (ky * 10 + kx)) (by rw [Nat.mul_comm]) ?_
          refine rn_iald CX hE hP 0 rfl (j := (ky * 10 + kx)) (by omega) (ltb rfl) dL_at_26 ?_
          refine rn_iconst hx hb 2 rfl dL_at_27 ?_
          refine lv_icmp_ne hx hb dL_at_28 (by decide) (tgt := 38) (fun c_28 => ?_) (fun c_28 => ?_)
          · refine lv_aload_n hx hb dL_at_38 rfl (lv_at hl 1 rfl) ?_
            refine lv_bipush (v := (nI 10)) hx hb dL_at_39 kb_10 ?_
            refine lv_iload_n hx hb dL_at_41 rfl (lv_at hl 3 rfl) ?_
            refine rn_imul hx hb dL_at_42 ?_
            refine lv_iload_n hx hb dL_at_43 rfl (lv_at hl 2 rfl) ?_
            refine rn_iadd hx hb dL_at_44 ?_
            refine rn_top (nI (ky * 10 + kx)) (by rw [Nat.mul_comm]) ?_
            refine rn_iald CX hE hP 1 rfl (j := (ky * 10 + kx)) (by omega) (ltb rfl) dL_at_45 ?_
            exact ro_ret CX hr hlk (by first | exact at_in hkx hky c_28 | exact at_wall hkx hky c_28 | exact at_out (fun q => absurd c_1 (Int32.not_lt.mpr q.1.1)) | exact at_out (fun q => absurd c_7 (Int32.not_lt.mpr q.1.2)) | exact at_out (fun q => absurd c_11 (Int32.not_lt.mpr q.2.1)) | exact at_out (fun q => absurd c_16 (Int32.not_lt.mpr q.2.2))) rfl dL_at_46
          · refine lv_aload_n hx hb dL_at_31 rfl (lv_at hl 1 rfl) ?_
            refine lv_iload hx hb dL_at_32 (lv_at hl 4 rfl) ?_
            refine rn_iald CX hE hP 1 rfl (j := c) (by omega) (ltb rfl) dL_at_34 ?_
            refine lv_goto (tgt := 46) hx hb dL_at_35 (by decide) ?_
            exact ro_ret CX hr hlk (by first | exact at_in hkx hky c_28 | exact at_wall hkx hky c_28 | exact at_out (fun q => absurd c_1 (Int32.not_lt.mpr q.1.1)) | exact at_out (fun q => absurd c_7 (Int32.not_lt.mpr q.1.2)) | exact at_out (fun q => absurd c_11 (Int32.not_lt.mpr q.2.1)) | exact at_out (fun q => absurd c_16 (Int32.not_lt.mpr q.2.2))) rfl dL_at_46
theorem hdn_L_at : yL_at.cls ≠ "java/lang/invoke/MethodHandle" ∧ yL_at.cls ≠ "java/lang/invoke/VarHandle" ∧ (parseMethodDescriptor yL_at.desc).map (fun d => d.parameters.length) = some 5 := by decide +kernel
set_option maxHeartbeats 4000000 in
set_option maxRecDepth 100000 in
theorem c_L_slope (l : Launch) (G : va_G) (cA : Nat → ClassId) (fa : Nat) (ba : Nat) (fl : Nat → Int32) (h : Nat → Int32) (i : Nat) (hi : i < 60) : RO l yL_slope wsL_slope ({ frames := 1, cells := 0, slots := 0, locals := 24 }) G cA B0 [(fa, .inl (cA 0, 60, .inl fl)), (ba, .inl (cA 0, 60, .inl h))] [.ref fa, .ref ba, .int (nI i)] (slopeF fl h i) := by
  refine RO.mk (own := RL) (by decide) rfl rfl (Nat.le_of_ble_eq_true rfl) (fun p_ e_ s_ m_ below meth c_ ls CX hr hlk hP hE hB hl => ?_)
  obtain ⟨hx, hb, hml, hown, hts⟩ := id CX
  have hl : lv_has ls 5 [(0, .ref fa), (1, .ref ba), (2, .int (nI i))] := hl
  refine lv_iload_n hx hb dL_slope_0 rfl (lv_at hl 2 rfl) ?_
  refine lv_bipush (v := (nI 10)) hx hb dL_slope_1 kb_10 ?_
  refine rn_irem hx hb (by omega) (by omega) (by omega) dL_slope_3 ?_
  refine lv_istore_n (lv' := [(3, .int (nI (i % 10))), (0, .ref fa), (1, .ref ba), (2, .int (nI i))]) hx hb dL_slope_4 rfl hl (by decide) rfl (fun ls hl => ?_)
  refine lv_iload_n hx hb dL_slope_5 rfl (lv_at hl 3 rfl) ?_
  refine lv_bipush (v := (nI 10)) hx hb dL_slope_6 kb_10 ?_
  refine rn_idiv hx hb (by omega) (by omega) (by omega) dL_slope_8 ?_
  refine lv_istore (lv' := [(4, .int (nI (i / 10))), (3, .int (nI (i % 10))), (0, .ref fa), (1, .ref ba), (2, .int (nI i))]) hx hb dL_slope_9 hl (by decide) rfl (fun ls hl => ?_)
  refine lv_aload_n hx hb dL_slope_11 rfl (lv_at hl 2 rfl) ?_
  refine lv_iload_n hx hb dL_slope_12 rfl (lv_at hl 4 rfl) ?_
  refine rn_iald CX hE hP 0 rfl (j := i) (by omega) (ltb rfl) dL_slope_13 ?_
  refine rn_iconst hx hb 2 rfl dL_slope_14 ?_
  refine lv_icmp_ne hx hb dL_slope_15 (by decide) (tgt := 22) (fun c_15 => ?_) (fun c_15 => ?_)
  · refine lv_aload_n hx hb dL_slope_22 rfl (lv_at hl 2 rfl) ?_
    refine lv_aload_n hx hb dL_slope_23 rfl (lv_at hl 3 rfl) ?_
    refine lv_iload_n hx hb dL_slope_24 rfl (lv_at hl 1 rfl) ?_
    refine rn_iconst hx hb 1 rfl dL_slope_25 ?_
    refine lv_isub hx hb dL_slope_26 ?_
    refine lv_iload hx hb dL_slope_27 (lv_at hl 0 rfl) ?_
    refine lv_iload_n hx hb dL_slope_29 rfl (lv_at hl 4 rfl) ?_
    refine roS CX hE hP (c_L_at l G cA fa ba fl h ((nI (i % 10)) - (nI 1)) (nI (i / 10)) i (by omega)) (va_cwS 5 hts gL_slope_L_at rfl rfl rfl hdn_L_at ⟨Nat.le_of_ble_eq_true rfl, Nat.le_of_ble_eq_true rfl⟩) [0, 1] rfl B0_blind (fun _ _ _ => trivial) rfl hl.1 (rest := []) rfl (Nat.le_of_ble_eq_true rfl) dL_slope_30 ⟨Nat.zero_le _, Nat.zero_le _⟩ ?_
    refine lv_aload_n hx hb dL_slope_33 rfl (lv_at hl 2 rfl) ?_
    refine lv_aload_n hx hb dL_slope_34 rfl (lv_at hl 3 rfl) ?_
    refine lv_iload_n hx hb dL_slope_35 rfl (lv_at hl 1 rfl) ?_
    refine rn_iconst hx hb 1 rfl dL_slope_36 ?_
    refine rn_iadd hx hb dL_slope_37 ?_
    refine lv_iload hx hb dL_slope_38 (lv_at hl 0 rfl) ?_
    refine lv_iload_n hx hb dL_slope_40 rfl (lv_at hl 4 rfl) ?_
    refine roS CX hE hP (c_L_at l G cA fa ba fl h (nI ((i % 10) + 1)) (nI (i / 10)) i (by omega)) (va_cwS 5 hts gL_slope_L_at rfl rfl rfl hdn_L_at ⟨Nat.le_of_ble_eq_true rfl, Nat.le_of_ble_eq_true rfl⟩) [0, 1] rfl B0_blind (fun _ _ _ => trivial) rfl hl.1 (rest := [.int (atF fl h i ((nI (i % 10)) - (nI 1)) (nI (i / 10)))]) rfl (Nat.le_of_ble_eq_true rfl) dL_slope_41 ⟨Nat.zero_le _, Nat.zero_le _⟩ ?_
    refine lv_iadd hx hb dL_slope_44 ?_
    refine lv_aload_n hx hb dL_slope_45 rfl (lv_at hl 2 rfl) ?_
    refine lv_aload_n hx hb dL_slope_46 rfl (lv_at hl 3 rfl) ?_
    refine lv_iload_n hx hb dL_slope_47 rfl (lv_at hl 1 rfl) ?_
    refine lv_iload hx hb dL_slope_48 (lv_at hl 0 rfl) ?_
    refine rn_iconst hx hb 1 rfl dL_slope_50 ?_
    refine lv_isub hx hb dL_slope_51 ?_
    refine lv_iload_n hx hb dL_slope_52 rfl (lv_at hl 4 rfl) ?_
    refine roS CX hE hP (c_L_at l G cA fa ba fl h (nI (i % 10)) ((nI (i / 10)) - (nI 1)) i (by omega)) (va_cwS 5 hts gL_slope_L_at rfl rfl rfl hdn_L_at ⟨Nat.le_of_ble_eq_true rfl, Nat.le_of_ble_eq_true rfl⟩) [0, 1] rfl B0_blind (fun _ _ _ => trivial) rfl hl.1 (rest := [.int ((atF fl h i ((nI (i % 10)) - (nI 1)) (nI (i / 10))) + (atF fl h i (nI ((i % 10) + 1)) (nI (i / 10))))]) rfl (Nat.le_of_ble_eq_true rfl) dL_slope_53 ⟨Nat.zero_le _, Nat.zero_le _⟩ ?_
    refine lv_iadd hx hb dL_slope_56 ?_
    refine lv_aload_n hx hb dL_slope_57 rfl (lv_at hl 2 rfl) ?_
    refine lv_aload_n hx hb dL_slope_58 rfl (lv_at hl 3 rfl) ?_
    refine lv_iload_n hx hb dL_slope_59 rfl (lv_at hl 1 rfl) ?_
    refine lv_iload hx hb dL_slope_60 (lv_at hl 0 rfl) ?_
    refine rn_iconst hx hb 1 rfl dL_slope_62 ?_
    refine rn_iadd hx hb dL_slope_63 ?_
    refine lv_iload_n hx hb dL_slope_64 rfl (lv_at hl 4 rfl) ?_
    refine roS CX hE hP (c_L_at l G cA fa ba fl h (nI (i % 10)) (nI ((i / 10) + 1)) i (by omega)) (va_cwS 5 hts gL_slope_L_at rfl rfl rfl hdn_L_at ⟨Nat.le_of_ble_eq_true rfl, Nat.le_of_ble_eq_true rfl⟩) [0, 1] rfl B0_blind (fun _ _ _ => trivial) rfl hl.1 (rest := [.int (((atF fl h i ((nI (i % 10)) - (nI 1)) (nI (i / 10))) + (atF fl h i (nI ((i % 10) + 1)) (nI (i / 10)))) + (atF fl h i (nI (i % 10)) ((nI (i / 10)) - (nI 1))))]) rfl (Nat.le_of_ble_eq_true rfl) dL_slope_65 ⟨Nat.zero_le _, Nat.zero_le _⟩ ?_
    refine lv_iadd hx hb dL_slope_68 ?_
    refine rn_iconst hx hb 4 rfl dL_slope_69 ?_
    refine lv_aload_n hx hb dL_slope_70 rfl (lv_at hl 3 rfl) ?_
    refine lv_iload_n hx hb dL_slope_71 rfl (lv_at hl 4 rfl) ?_
    refine rn_iald CX hE hP 1 rfl (j := i) (by omega) (ltb rfl) dL_slope_72 ?_
    refine lv_imul hx hb dL_slope_73 ?_
    refine lv_isub hx hb dL_slope_74 ?_
    exact ro_ret CX hr hlk (by first | exact (if_pos c_15).symm | exact slopeL_eq hi c_15) rfl dL_slope_75
  · refine rn_iconst hx hb 0 rfl dL_slope_18 ?_
    refine lv_goto (tgt := 75) hx hb dL_slope_19 (by decide) ?_
    exact ro_ret CX hr hlk (by first | exact (if_pos c_15).symm | exact slopeL_eq hi c_15) rfl dL_slope_75
set_option maxHeartbeats 4000000 in
set_option maxRecDepth 100000 in
theorem c_L_amount (l : Launch) (G : va_G) (cA : Nat → ClassId) (v : Int32)  : RO l yL_amount wsL_amount ({ frames := 0, cells := 0, slots := 0, locals := 0 }) G cA B0 [] [.int v] (iabs v) := by
  refine RO.mk (own := RL) (by decide) rfl rfl (Nat.le_of_ble_eq_true rfl) (fun p_ e_ s_ m_ below meth c_ ls CX hr hlk hP hE hB hl => ?_)
  obtain ⟨hx, hb, hml, hown, hts⟩ := id CX
  have hl : lv_has ls 1 [(0, .int v)] := hl
  refine lv_iload_n hx hb dL_amount_0 rfl (lv_at hl 0 rfl) ?_
  refine lv_if_ge hx hb dL_amount_1 (by decide) (tgt := 9) (fun c_1 => ?_) (fun c_1 => ?_)
  · refine lv_iload_n hx hb dL_amount_9 rfl (lv_at hl 0 rfl) ?_
    exact ro_ret CX hr hlk (by first | exact (if_pos c_1).symm | exact size_neg c_1) rfl dL_amount_10
  · refine lv_iload_n hx hb dL_amount_4 rfl (lv_at hl 0 rfl) ?_
    refine lv_ineg hx hb dL_amount_5 ?_
    refine lv_goto (tgt := 10) hx hb dL_amount_6 (by decide) ?_
    exact ro_ret CX hr hlk (by first | exact (if_pos c_1).symm | exact size_neg c_1) rfl dL_amount_10
theorem hdn_L_amount : yL_amount.cls ≠ "java/lang/invoke/MethodHandle" ∧ yL_amount.cls ≠ "java/lang/invoke/VarHandle" ∧ (parseMethodDescriptor yL_amount.desc).map (fun d => d.parameters.length) = some 1 := by decide +kernel
set_option maxHeartbeats 4000000 in
set_option maxRecDepth 100000 in
theorem c_L_isStill (l : Launch) (G : va_G) (cA : Nat → ClassId) (fa : Nat) (ba : Nat) (ca : Nat) (ta : Nat) (fl : Nat → Int32) (h : Nat → Int32) (ah : Nat → Int32) (st : Nat → Int32) (c : Nat) (hc : c < 60) : RO l yL_isStill wsL_isStill ({ frames := 1, cells := 0, slots := 0, locals := 20 }) G cA B0 [(fa, .inl (cA 0, 60, .inl fl)), (ba, .inl (cA 0, 60, .inl h)), (ca, .inl (cA 0, 60, .inl ah)), (ta, .inl (cA 0, 7, .inl st))] [.ref fa, .ref ba, .ref ca, .ref ta, .int (nI c)] (b2i (fl c = nI 2 ∨ stillP st h ah c)) := by
  refine RO.mk (own := RL) (by decide) rfl rfl (Nat.le_of_ble_eq_true rfl) (fun p_ e_ s_ m_ below meth c_ ls CX hr hlk hP hE hB hl => ?_)
  obtain ⟨hx, hb, hml, hown, hts⟩ := id CX
  have hl : lv_has ls 5 [(0, .ref fa), (1, .ref ba), (2, .ref ca), (3, .ref ta), (4, .int (nI c))] := hl
  refine lv_aload_n hx hb dL_isStill_0 rfl (lv_at hl 0 rfl) ?_
  refine lv_iload hx hb dL_isStill_1 (lv_at hl 4 rfl) ?_
  refine rn_iald CX hE hP 0 rfl (j := c) (by omega) (ltb rfl) dL_isStill_3 ?_
  refine rn_iconst hx hb 2 rfl dL_isStill_4 ?_
  refine lv_icmp_eq hx hb dL_isStill_5 (by decide) (tgt := 34) (fun c_5 => ?_) (fun c_5 => ?_)
  · refine rn_iconst hx hb 1 rfl dL_isStill_34 ?_
    refine lv_goto (tgt := 39) hx hb dL_isStill_35 (by decide) ?_
    exact ro_ret CX hr hlk (by first | exact b2i_t (Or.inl c_5) | exact b2i_t (Or.inr ⟨Int32.not_lt.mp c_18, Int32.not_lt.mp c_31⟩) | exact b2i_f (fun q => q.elim c_5 (fun z => absurd c_18 (Int32.not_lt.mpr z.1))) | exact b2i_f (fun q => q.elim c_5 (fun z => absurd c_31 (Int32.not_lt.mpr z.2)))) rfl dL_isStill_39
  · refine lv_aload_n hx hb dL_isStill_8 rfl (lv_at hl 1 rfl) ?_
    refine lv_iload hx hb dL_isStill_9 (lv_at hl 4 rfl) ?_
    refine rn_iald CX hE hP 1 rfl (j := c) (by omega) (ltb rfl) dL_isStill_11 ?_
    refine roS CX hE hP (c_L_amount l G cA (h c) ) (va_cwS 1 hts gL_isStill_L_amount rfl rfl rfl hdn_L_amount ⟨Nat.le_of_ble_eq_true rfl, Nat.le_of_ble_eq_true rfl⟩) [] rfl B0_blind (fun _ _ _ => trivial) rfl hl.1 (rest := []) rfl (Nat.le_of_ble_eq_true rfl) dL_isStill_12 ⟨Nat.zero_le _, Nat.zero_le _⟩ ?_
    refine lv_aload_n hx hb dL_isStill_15 rfl (lv_at hl 3 rfl) ?_
    refine rn_iconst hx hb 3 rfl dL_isStill_16 ?_
    refine rn_iald CX hE hP 3 rfl (j := 3) (by omega) (ltb rfl) dL_isStill_17 ?_
    refine lv_icmp_gt hx hb dL_isStill_18 (by decide) (tgt := 38) (fun c_18 => ?_) (fun c_18 => ?_)
    · refine rn_iconst hx hb 0 rfl dL_isStill_38 ?_
      exact ro_ret CX hr hlk (by first | exact b2i_t (Or.inl c_5) | exact b2i_t (Or.inr ⟨Int32.not_lt.mp c_18, Int32.not_lt.mp c_31⟩) | exact b2i_f (fun q => q.elim c_5 (fun z => absurd c_18 (Int32.not_lt.mpr z.1))) | exact b2i_f (fun q => q.elim c_5 (fun z => absurd c_31 (Int32.not_lt.mpr z.2)))) rfl dL_isStill_39
    · refine lv_aload_n hx hb dL_isStill_21 rfl (lv_at hl 2 rfl) ?_
      refine lv_iload hx hb dL_isStill_22 (lv_at hl 4 rfl) ?_
      refine rn_iald CX hE hP 2 rfl (j := c) (by omega) (ltb rfl) dL_isStill_24 ?_
      refine roS CX hE hP (c_L_amount l G cA (ah c) ) (va_cwS 1 hts gL_isStill_L_amount rfl rfl rfl hdn_L_amount ⟨Nat.le_of_ble_eq_true rfl, Nat.le_of_ble_eq_true rfl⟩) [] rfl B0_blind (fun _ _ _ => trivial) rfl hl.1 (rest := []) rfl (Nat.le_of_ble_eq_true rfl) dL_isStill_25 ⟨Nat.zero_le _, Nat.zero_le _⟩ ?_
      refine lv_aload_n hx hb dL_isStill_28 rfl (lv_at hl 3 rfl) ?_
      refine rn_iconst hx hb 3 rfl dL_isStill_29 ?_
      refine rn_iald CX hE hP 3 rfl (j := 3) (by omega) (ltb rfl) dL_isStill_30 ?_
      refine lv_icmp_gt hx hb dL_isStill_31 (by decide) (tgt := 38) (fun c_31 => ?_) (fun c_31 => ?_)
      · refine rn_iconst hx hb 0 rfl dL_isStill_38 ?_
        exact ro_ret CX hr hlk (by first | exact b2i_t (Or.inl c_5) | exact b2i_t (Or.inr ⟨Int32.not_lt.mp c_18, Int32.not_lt.mp c_31⟩) | exact b2i_f (fun q => q.elim c_5 (fun z => absurd c_18 (Int32.not_lt.mpr z.1))) | exact b2i_f (fun q => q.elim c_5 (fun z => absurd c_31 (Int32.not_lt.mpr z.2)))) rfl dL_isStill_39
      · refine rn_iconst hx hb 1 rfl dL_isStill_34 ?_
        refine lv_goto (tgt := 39) hx hb dL_isStill_35 (by decide) ?_
        exact ro_ret CX hr hlk (by first | exact b2i_t (Or.inl c_5) | exact b2i_t (Or.inr ⟨Int32.not_lt.mp c_18, Int32.not_lt.mp c_31⟩) | exact b2i_f (fun q => q.elim c_5 (fun z => absurd c_18 (Int32.not_lt.mpr z.1))) | exact b2i_f (fun q => q.elim c_5 (fun z => absurd c_31 (Int32.not_lt.mpr z.2)))) rfl dL_isStill_39
