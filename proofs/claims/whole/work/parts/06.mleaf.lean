set_option maxHeartbeats 4000000 in
set_option maxRecDepth 100000 in
theorem c_X6_in (l : Launch) (G : va_G) (cA : Nat → ClassId) (v : Int32) (lo : Int32) (hi : Int32)  : RO l yX6_in wsX6_in ({ frames := 0, cells := 0, slots := 0, locals := 0 }) G cA B0 [] [.int v, .int lo, .int hi] (b2i (inP v lo hi)) := by
  refine RO.mk (own := RX6) (by decide) rfl rfl (Nat.le_of_ble_eq_true rfl) (fun p_ e_ s_ m_ below meth c_ ls CX hr hlk hP hE hB hl => ?_)
  obtain ⟨hx, hb, hml, hown, hts⟩ := id CX
  have hl : lv_has ls 3 [(0, .int v), (1, .int lo), (2, .int hi)] := hl
  refine lv_iload_n hx hb dX6_in_0 rfl (lv_at hl 0 rfl) ?_
  refine lv_iload_n hx hb dX6_in_1 rfl (lv_at hl 1 rfl) ?_
  refine lv_icmp_lt hx hb dX6_in_2 (by decide) (tgt := 14) (fun c_2 => ?_) (fun c_2 => ?_)
  · refine rn_iconst hx hb 0 rfl dX6_in_14 ?_
    exact ro_ret CX hr hlk (by first | exact b2i_t (by grind) | exact b2i_f (by grind)) rfl dX6_in_15
  · refine lv_iload_n hx hb dX6_in_5 rfl (lv_at hl 0 rfl) ?_
    refine lv_iload_n hx hb dX6_in_6 rfl (lv_at hl 2 rfl) ?_
    refine lv_icmp_gt hx hb dX6_in_7 (by decide) (tgt := 14) (fun c_7 => ?_) (fun c_7 => ?_)
    · refine rn_iconst hx hb 0 rfl dX6_in_14 ?_
      exact ro_ret CX hr hlk (by first | exact b2i_t (by grind) | exact b2i_f (by grind)) rfl dX6_in_15
    · refine rn_iconst hx hb 1 rfl dX6_in_10 ?_
      refine lv_goto (tgt := 15) hx hb dX6_in_11 (by decide) ?_
      exact ro_ret CX hr hlk (by first | exact b2i_t (by grind) | exact b2i_f (by grind)) rfl dX6_in_15
theorem hdn_X6_in : yX6_in.cls ≠ "java/lang/invoke/MethodHandle" ∧ yX6_in.cls ≠ "java/lang/invoke/VarHandle" ∧ (parseMethodDescriptor yX6_in.desc).map (fun d => d.parameters.length) = some 3 := by decide +kernel
set_option maxHeartbeats 4000000 in
set_option maxRecDepth 100000 in
theorem c_X6_isCell (l : Launch) (G : va_G) (cA : Nat → ClassId) (x : Int32) (y : Int32)  : RO l yX6_isCell wsX6_isCell ({ frames := 1, cells := 0, slots := 0, locals := 22 }) G cA B0 [] [.int x, .int y] (b2i (cellP x y)) := by
  refine RO.mk (own := RX6) (by decide) rfl rfl (Nat.le_of_ble_eq_true rfl) (fun p_ e_ s_ m_ below meth c_ ls CX hr hlk hP hE hB hl => ?_)
  obtain ⟨hx, hb, hml, hown, hts⟩ := id CX
  have hl : lv_has ls 2 [(0, .int x), (1, .int y)] := hl
  refine lv_iload_n hx hb dX6_isCell_0 rfl (lv_at hl 0 rfl) ?_
  refine rn_iconst hx hb 0 rfl dX6_isCell_1 ?_
  refine lv_bipush (v := (nI 9)) hx hb dX6_isCell_2 kb_9 ?_
  refine roS CX hE hP (c_X6_in l G cA x (nI 0) (nI 9) ) (va_cwS 3 hts gX6_isCell_X6_in rfl rfl rfl hdn_X6_in ⟨Nat.le_of_ble_eq_true rfl, Nat.le_of_ble_eq_true rfl⟩) [] rfl B0_blind (fun _ _ _ => trivial) rfl hl.1 (rest := []) rfl (Nat.le_of_ble_eq_true rfl) dX6_isCell_4 ⟨Nat.zero_le _, Nat.zero_le _⟩ ?_
  refine rb_if_eq hx hb dX6_isCell_7 (by decide) (tgt := 23) (fun c_7 => ?_) (fun c_7 => ?_)
  · refine rn_iconst hx hb 0 rfl dX6_isCell_23 ?_
    exact ro_ret CX hr hlk (by first | exact b2i_t (by grind) | exact b2i_f (by grind)) rfl dX6_isCell_24
  · refine lv_iload_n hx hb dX6_isCell_10 rfl (lv_at hl 1 rfl) ?_
    refine rn_iconst hx hb 0 rfl dX6_isCell_11 ?_
    refine rn_iconst hx hb 5 rfl dX6_isCell_12 ?_
    refine roS CX hE hP (c_X6_in l G cA y (nI 0) (nI 5) ) (va_cwS 3 hts gX6_isCell_X6_in rfl rfl rfl hdn_X6_in ⟨Nat.le_of_ble_eq_true rfl, Nat.le_of_ble_eq_true rfl⟩) [] rfl B0_blind (fun _ _ _ => trivial) rfl hl.1 (rest := []) rfl (Nat.le_of_ble_eq_true rfl) dX6_isCell_13 ⟨Nat.zero_le _, Nat.zero_le _⟩ ?_
    refine rb_if_eq hx hb dX6_isCell_16 (by decide) (tgt := 23) (fun c_16 => ?_) (fun c_16 => ?_)
    · refine rn_iconst hx hb 0 rfl dX6_isCell_23 ?_
      exact ro_ret CX hr hlk (by first | exact b2i_t (by grind) | exact b2i_f (by grind)) rfl dX6_isCell_24
    · refine rn_iconst hx hb 1 rfl dX6_isCell_19 ?_
      refine lv_goto (tgt := 24) hx hb dX6_isCell_20 (by decide) ?_
      exact ro_ret CX hr hlk (by first | exact b2i_t (by grind) | exact b2i_f (by grind)) rfl dX6_isCell_24
theorem fl_X6_isWall_7 : Cond.fieldLink RX6 7 RX6 (TX6 0).2.1 (TX6 0).2.2.1 ∈ wsX6_isWall := by decide +kernel
theorem in_X6_isWall_X6 : ∀ w ∈ wsX60, w ∈ wsX6_isWall := by decide +kernel
set_option maxHeartbeats 4000000 in
set_option maxRecDepth 100000 in
theorem c_X6_isWall (l : Launch) (G : va_G) (cA : Nat → ClassId) (m : Nat → Nat) (pm : Nat) (ty : Nat) (z : Nat → Int32) (c : Nat) (hc : c < 60) : RO l yX6_isWall wsX6_isWall ({ frames := 0, cells := 0, slots := 0, locals := 0 }) G cA B0 [(m 0, .inr (6, [.ref (m 1), .ref (m 2), .ref (m 3), .ref (m 4), .int (nI pm), .ref (m 5), .ref (m 6), .int (nI ty), .ref (m 7)])), (m 1, .inl (cA 0, 345, .inl z))] [.ref (m 0), .int (nI c)] (b2i (shf 5 z c = nI 2)) := by
  refine RO.mk (own := RX6) (by decide) rfl rfl (Nat.le_of_ble_eq_true rfl) (fun p_ e_ s_ m_ below meth c_ ls CX hr hlk hP hE hB hl => ?_)
  obtain ⟨hx, hb, hml, hown, hts⟩ := id CX
  have hl : lv_has ls 2 [(0, .ref (m 0)), (1, .int (nI c))] := hl
  refine lv_aload_n hx hb dX6_isWall_0 rfl (lv_at hl 0 rfl) ?_
  refine rg (T := TX6) (N := 9) CX hE hP in_X6_isWall_X6 0 rfl rfl 0 (by decide) fl_X6_isWall_7 rfl rfl dX6_isWall_1 ?_
  refine rn_iconst hx hb 5 rfl dX6_isWall_4 ?_
  refine lv_iload_n hx hb dX6_isWall_5 rfl (lv_at hl 1 rfl) ?_
  refine rn_iadd hx hb dX6_isWall_6 ?_
  refine rn_iald CX hE hP 1 rfl (j := (5 + c)) (by omega) (ltb rfl) dX6_isWall_7 ?_
  refine rn_iconst hx hb 2 rfl dX6_isWall_8 ?_
  refine lv_icmp_ne hx hb dX6_isWall_9 (by decide) (tgt := 16) (fun c_9 => ?_) (fun c_9 => ?_)
  · refine rn_iconst hx hb 0 rfl dX6_isWall_16 ?_
    exact ro_ret CX hr hlk (by first | exact b2i_t c_9 | exact b2i_f c_9) rfl dX6_isWall_17
  · refine rn_iconst hx hb 1 rfl dX6_isWall_12 ?_
    refine lv_goto (tgt := 17) hx hb dX6_isWall_13 (by decide) ?_
    exact ro_ret CX hr hlk (by first | exact b2i_t c_9 | exact b2i_f c_9) rfl dX6_isWall_17
theorem fl_X6_isDipper_7 : Cond.fieldLink RX6 7 RX6 (TX6 0).2.1 (TX6 0).2.2.1 ∈ wsX6_isDipper := by decide +kernel
theorem in_X6_isDipper_X6 : ∀ w ∈ wsX60, w ∈ wsX6_isDipper := by decide +kernel
theorem ks_245 : (Int16.ofInt (245)).toInt32 = (nI 245) := by decide +kernel
set_option maxHeartbeats 4000000 in
set_option maxRecDepth 100000 in
theorem c_X6_isDipper (l : Launch) (G : va_G) (cA : Nat → ClassId) (m : Nat → Nat) (pm : Nat) (ty : Nat) (z : Nat → Int32) (d : Int32)  : RO l yX6_isDipper wsX6_isDipper ({ frames := 0, cells := 0, slots := 0, locals := 0 }) G cA B0 [(m 0, .inr (6, [.ref (m 1), .ref (m 2), .ref (m 3), .ref (m 4), .int (nI pm), .ref (m 5), .ref (m 6), .int (nI ty), .ref (m 7)])), (m 1, .inl (cA 0, 345, .inl z))] [.ref (m 0), .int d] (b2i (0 ≤ d ∧ d < z 245)) := by
  refine RO.mk (own := RX6) (by decide) rfl rfl (Nat.le_of_ble_eq_true rfl) (fun p_ e_ s_ m_ below meth c_ ls CX hr hlk hP hE hB hl => ?_)
  obtain ⟨hx, hb, hml, hown, hts⟩ := id CX
  have hl : lv_has ls 2 [(0, .ref (m 0)), (1, .int d)] := hl
  refine lv_iload_n hx hb dX6_isDipper_0 rfl (lv_at hl 1 rfl) ?_
  refine lv_if_lt hx hb dX6_isDipper_1 (by decide) (tgt := 20) (fun c_1 => ?_) (fun c_1 => ?_)
  · refine rn_iconst hx hb 0 rfl dX6_isDipper_20 ?_
    exact ro_ret CX hr hlk (by first | exact b2i_t (by grind) | exact b2i_f (by grind)) rfl dX6_isDipper_21
  · refine lv_iload_n hx hb dX6_isDipper_4 rfl (lv_at hl 1 rfl) ?_
    refine lv_aload_n hx hb dX6_isDipper_5 rfl (lv_at hl 0 rfl) ?_
    refine rg (T := TX6) (N := 9) CX hE hP in_X6_isDipper_X6 0 rfl rfl 0 (by decide) fl_X6_isDipper_7 rfl rfl dX6_isDipper_6 ?_
    refine lv_sipush (v := (nI 245)) hx hb dX6_isDipper_9 ks_245 ?_
    refine rn_iald CX hE hP 1 rfl (j := 245) (by omega) (ltb rfl) dX6_isDipper_12 ?_
    refine lv_icmp_ge hx hb dX6_isDipper_13 (by decide) (tgt := 20) (fun c_13 => ?_) (fun c_13 => ?_)
    · refine rn_iconst hx hb 0 rfl dX6_isDipper_20 ?_
      exact ro_ret CX hr hlk (by first | exact b2i_t (by grind) | exact b2i_f (by grind)) rfl dX6_isDipper_21
    · refine rn_iconst hx hb 1 rfl dX6_isDipper_16 ?_
      refine lv_goto (tgt := 21) hx hb dX6_isDipper_17 (by decide) ?_
      exact ro_ret CX hr hlk (by first | exact b2i_t (by grind) | exact b2i_f (by grind)) rfl dX6_isDipper_21
theorem fl_X6_isProbe_7 : Cond.fieldLink RX6 7 RX6 (TX6 0).2.1 (TX6 0).2.2.1 ∈ wsX6_isProbe := by decide +kernel
theorem in_X6_isProbe_X6 : ∀ w ∈ wsX60, w ∈ wsX6_isProbe := by decide +kernel
theorem ks_266 : (Int16.ofInt (266)).toInt32 = (nI 266) := by decide +kernel
set_option maxHeartbeats 4000000 in
set_option maxRecDepth 100000 in
theorem c_X6_isProbe (l : Launch) (G : va_G) (cA : Nat → ClassId) (m : Nat → Nat) (pm : Nat) (ty : Nat) (z : Nat → Int32) (d : Int32)  : RO l yX6_isProbe wsX6_isProbe ({ frames := 0, cells := 0, slots := 0, locals := 0 }) G cA B0 [(m 0, .inr (6, [.ref (m 1), .ref (m 2), .ref (m 3), .ref (m 4), .int (nI pm), .ref (m 5), .ref (m 6), .int (nI ty), .ref (m 7)])), (m 1, .inl (cA 0, 345, .inl z))] [.ref (m 0), .int d] (b2i (0 ≤ d ∧ d < z 266)) := by
  refine RO.mk (own := RX6) (by decide) rfl rfl (Nat.le_of_ble_eq_true rfl) (fun p_ e_ s_ m_ below meth c_ ls CX hr hlk hP hE hB hl => ?_)
  obtain ⟨hx, hb, hml, hown, hts⟩ := id CX
  have hl : lv_has ls 2 [(0, .ref (m 0)), (1, .int d)] := hl
  refine lv_iload_n hx hb dX6_isProbe_0 rfl (lv_at hl 1 rfl) ?_
  refine lv_if_lt hx hb dX6_isProbe_1 (by decide) (tgt := 20) (fun c_1 => ?_) (fun c_1 => ?_)
  · refine rn_iconst hx hb 0 rfl dX6_isProbe_20 ?_
    exact ro_ret CX hr hlk (by first | exact b2i_t (by grind) | exact b2i_f (by grind)) rfl dX6_isProbe_21
  · refine lv_iload_n hx hb dX6_isProbe_4 rfl (lv_at hl 1 rfl) ?_
    refine lv_aload_n hx hb dX6_isProbe_5 rfl (lv_at hl 0 rfl) ?_
    refine rg (T := TX6) (N := 9) CX hE hP in_X6_isProbe_X6 0 rfl rfl 0 (by decide) fl_X6_isProbe_7 rfl rfl dX6_isProbe_6 ?_
    refine lv_sipush (v := (nI 266)) hx hb dX6_isProbe_9 ks_266 ?_
    refine rn_iald CX hE hP 1 rfl (j := 266) (by omega) (ltb rfl) dX6_isProbe_12 ?_
    refine lv_icmp_ge hx hb dX6_isProbe_13 (by decide) (tgt := 20) (fun c_13 => ?_) (fun c_13 => ?_)
    · refine rn_iconst hx hb 0 rfl dX6_isProbe_20 ?_
      exact ro_ret CX hr hlk (by first | exact b2i_t (by grind) | exact b2i_f (by grind)) rfl dX6_isProbe_21
    · refine rn_iconst hx hb 1 rfl dX6_isProbe_16 ?_
      refine lv_goto (tgt := 21) hx hb dX6_isProbe_17 (by decide) ?_
      exact ro_ret CX hr hlk (by first | exact b2i_t (by grind) | exact b2i_f (by grind)) rfl dX6_isProbe_21
theorem fl_X6_ofDipper_7 : Cond.fieldLink RX6 7 RX6 (TX6 0).2.1 (TX6 0).2.2.1 ∈ wsX6_ofDipper := by decide +kernel
theorem in_X6_ofDipper_X6 : ∀ w ∈ wsX60, w ∈ wsX6_ofDipper := by decide +kernel
theorem ks_246 : (Int16.ofInt (246)).toInt32 = (nI 246) := by decide +kernel
set_option maxHeartbeats 4000000 in
set_option maxRecDepth 100000 in
theorem c_X6_ofDipper (l : Launch) (G : va_G) (cA : Nat → ClassId) (m : Nat → Nat) (pm : Nat) (ty : Nat) (z : Nat → Int32) (d : Nat) (w : Nat) (hd : d < 5) (hw : w < 4) : RO l yX6_ofDipper wsX6_ofDipper ({ frames := 0, cells := 0, slots := 0, locals := 0 }) G cA B0 [(m 0, .inr (6, [.ref (m 1), .ref (m 2), .ref (m 3), .ref (m 4), .int (nI pm), .ref (m 5), .ref (m 6), .int (nI ty), .ref (m 7)])), (m 1, .inl (cA 0, 345, .inl z))] [.ref (m 0), .int (nI d), .int (nI w)] (z (246 + 4 * d + w)) := by
  refine RO.mk (own := RX6) (by decide) rfl rfl (Nat.le_of_ble_eq_true rfl) (fun p_ e_ s_ m_ below meth c_ ls CX hr hlk hP hE hB hl => ?_)
  obtain ⟨hx, hb, hml, hown, hts⟩ := id CX
  have hl : lv_has ls 3 [(0, .ref (m 0)), (1, .int (nI d)), (2, .int (nI w))] := hl
  refine lv_aload_n hx hb dX6_ofDipper_0 rfl (lv_at hl 0 rfl) ?_
  refine rg (T := TX6) (N := 9) CX hE hP in_X6_ofDipper_X6 0 rfl rfl 0 (by decide) fl_X6_ofDipper_7 rfl rfl dX6_ofDipper_1 ?_
  refine lv_sipush (v := (nI 246)) hx hb dX6_ofDipper_4 ks_246 ?_
  refine rn_iconst hx hb 4 rfl dX6_ofDipper_7 ?_
  refine lv_iload_n hx hb dX6_ofDipper_8 rfl (lv_at hl 1 rfl) ?_
  refine rn_imul hx hb dX6_ofDipper_9 ?_
  refine rn_iadd hx hb dX6_ofDipper_10 ?_
  refine lv_iload_n hx hb dX6_ofDipper_11 rfl (lv_at hl 2 rfl) ?_
  refine rn_iadd hx hb dX6_ofDipper_12 ?_
  refine rn_iald CX hE hP 1 rfl (j := ((246 + (4 * d)) + w)) (by omega) (ltb rfl) dX6_ofDipper_13 ?_
  exact ro_ret CX hr hlk rfl rfl dX6_ofDipper_14
theorem fl_X6_now_7 : Cond.fieldLink RX6 7 RX6 (TX6 0).2.1 (TX6 0).2.2.1 ∈ wsX6_now := by decide +kernel
theorem in_X6_now_X6 : ∀ w ∈ wsX60, w ∈ wsX6_now := by decide +kernel
theorem kb_65 : (Int8.ofInt (65)).toInt32 = (nI 65) := by decide +kernel
set_option maxHeartbeats 4000000 in
set_option maxRecDepth 100000 in
theorem c_X6_now (l : Launch) (G : va_G) (cA : Nat → ClassId) (m : Nat → Nat) (pm : Nat) (ty : Nat) (z : Nat → Int32) (c : Nat) (hc : c < 60) : RO l yX6_now wsX6_now ({ frames := 0, cells := 0, slots := 0, locals := 0 }) G cA B0 [(m 0, .inr (6, [.ref (m 1), .ref (m 2), .ref (m 3), .ref (m 4), .int (nI pm), .ref (m 5), .ref (m 6), .int (nI ty), .ref (m 7)])), (m 1, .inl (cA 0, 345, .inl z))] [.ref (m 0), .int (nI c)] (shf 65 z c) := by
  refine RO.mk (own := RX6) (by decide) rfl rfl (Nat.le_of_ble_eq_true rfl) (fun p_ e_ s_ m_ below meth c_ ls CX hr hlk hP hE hB hl => ?_)
  obtain ⟨hx, hb, hml, hown, hts⟩ := id CX
  have hl : lv_has ls 2 [(0, .ref (m 0)), (1, .int (nI c))] := hl
  refine lv_aload_n hx hb dX6_now_0 rfl (lv_at hl 0 rfl) ?_
  refine rg (T := TX6) (N := 9) CX hE hP in_X6_now_X6 0 rfl rfl 0 (by decide) fl_X6_now_7 rfl rfl dX6_now_1 ?_
  refine lv_bipush (v := (nI 65)) hx hb dX6_now_4 kb_65 ?_
  refine lv_iload_n hx hb dX6_now_6 rfl (lv_at hl 1 rfl) ?_
  refine rn_iadd hx hb dX6_now_7 ?_
  refine rn_iald CX hE hP 1 rfl (j := (65 + c)) (by omega) (ltb rfl) dX6_now_8 ?_
  exact ro_ret CX hr hlk rfl rfl dX6_now_9
set_option maxHeartbeats 4000000 in
set_option maxRecDepth 100000 in
theorem c_X6_size (l : Launch) (G : va_G) (cA : Nat → ClassId) (v : Int32)  : RO l yX6_size wsX6_size ({ frames := 0, cells := 0, slots := 0, locals := 0 }) G cA B0 [] [.int v] (iabs v) := by
  refine RO.mk (own := RX6) (by decide) rfl rfl (Nat.le_of_ble_eq_true rfl) (fun p_ e_ s_ m_ below meth c_ ls CX hr hlk hP hE hB hl => ?_)
  obtain ⟨hx, hb, hml, hown, hts⟩ := id CX
  have hl : lv_has ls 1 [(0, .int v)] := hl
  refine lv_iload_n hx hb dX6_size_0 rfl (lv_at hl 0 rfl) ?_
  refine lv_if_ge hx hb dX6_size_1 (by decide) (tgt := 9) (fun c_1 => ?_) (fun c_1 => ?_)
  · refine lv_iload_n hx hb dX6_size_9 rfl (lv_at hl 0 rfl) ?_
    exact ro_ret CX hr hlk (by first | exact (if_pos c_1).symm | exact size_neg c_1) rfl dX6_size_10
  · refine lv_iload_n hx hb dX6_size_4 rfl (lv_at hl 0 rfl) ?_
    refine lv_ineg hx hb dX6_size_5 ?_
    refine lv_goto (tgt := 10) hx hb dX6_size_6 (by decide) ?_
    exact ro_ret CX hr hlk (by first | exact (if_pos c_1).symm | exact size_neg c_1) rfl dX6_size_10
set_option maxHeartbeats 4000000 in
set_option maxRecDepth 100000 in
theorem c_X6_kept (l : Launch) (G : va_G) (cA : Nat → ClassId) (v : Int32)  : RO l yX6_kept wsX6_kept ({ frames := 0, cells := 0, slots := 0, locals := 0 }) G cA B0 [] [.int v] (boundF v) := by
  refine RO.mk (own := RX6) (by decide) rfl rfl (Nat.le_of_ble_eq_true rfl) (fun p_ e_ s_ m_ below meth c_ ls CX hr hlk hP hE hB hl => ?_)
  obtain ⟨hx, hb, hml, hown, hts⟩ := id CX
  have hl : lv_has ls 1 [(0, .int v)] := hl
  refine lv_iload_n hx hb dX6_kept_0 rfl (lv_at hl 0 rfl) ?_
  refine lv_sipush (v := (-9999)) hx hb dX6_kept_1 ks_m9999 ?_
  refine lv_icmp_ge hx hb dX6_kept_4 (by decide) (tgt := 13) (fun c_4 => ?_) (fun c_4 => ?_)
  · refine lv_iload_n hx hb dX6_kept_13 rfl (lv_at hl 0 rfl) ?_
    refine lv_sipush (v := (nI 9999)) hx hb dX6_kept_14 ks_9999 ?_
    refine lv_icmp_le hx hb dX6_kept_17 (by decide) (tgt := 26) (fun c_17 => ?_) (fun c_17 => ?_)
    · refine lv_iload_n hx hb dX6_kept_26 rfl (lv_at hl 0 rfl) ?_
      exact ro_ret CX hr hlk (by first | exact kept_lo c_4 | exact kept_mid c_4 c_17 | exact kept_hi c_17) rfl dX6_kept_27
    · refine lv_sipush (v := (nI 9999)) hx hb dX6_kept_20 ks_9999 ?_
      refine lv_goto (tgt := 27) hx hb dX6_kept_23 (by decide) ?_
      exact ro_ret CX hr hlk (by first | exact kept_lo c_4 | exact kept_mid c_4 c_17 | exact kept_hi c_17) rfl dX6_kept_27
  · refine lv_sipush (v := (-9999)) hx hb dX6_kept_7 ks_m9999 ?_
    refine lv_goto (tgt := 27) hx hb dX6_kept_10 (by decide) ?_
    exact ro_ret CX hr hlk (by first | exact kept_lo c_4 | exact kept_mid c_4 c_17 | exact kept_hi c_17) rfl dX6_kept_27
set_option maxHeartbeats 4000000 in
set_option maxRecDepth 100000 in
theorem c_X6_leastOf (l : Launch) (G : va_G) (cA : Nat → ClassId) (v : Int32)  : RO l yX6_leastOf wsX6_leastOf ({ frames := 0, cells := 0, slots := 0, locals := 0 }) G cA B0 [] [.int v] (leastF v) := by
  refine RO.mk (own := RX6) (by decide) rfl rfl (Nat.le_of_ble_eq_true rfl) (fun p_ e_ s_ m_ below meth c_ ls CX hr hlk hP hE hB hl => ?_)
  obtain ⟨hx, hb, hml, hown, hts⟩ := id CX
  have hl : lv_has ls 1 [(0, .int v)] := hl
  refine lv_iload_n hx hb dX6_leastOf_0 rfl (lv_at hl 0 rfl) ?_
  refine rn_iconst hx hb 1 rfl dX6_leastOf_1 ?_
  refine lv_icmp_eq hx hb dX6_leastOf_2 (by decide) (tgt := 10) (fun c_2 => ?_) (fun c_2 => ?_)
  · refine rn_iconst hx hb 1 rfl dX6_leastOf_10 ?_
    refine lv_goto (tgt := 15) hx hb dX6_leastOf_11 (by decide) ?_
    exact ro_ret CX hr hlk (by unfold leastF; simp_all) rfl dX6_leastOf_15
  · refine lv_iload_n hx hb dX6_leastOf_5 rfl (lv_at hl 0 rfl) ?_
    refine rn_iconst hx hb 2 rfl dX6_leastOf_6 ?_
    refine lv_icmp_ne hx hb dX6_leastOf_7 (by decide) (tgt := 14) (fun c_7 => ?_) (fun c_7 => ?_)
    · refine rn_iconst hx hb 0 rfl dX6_leastOf_14 ?_
      exact ro_ret CX hr hlk (by unfold leastF; simp_all) rfl dX6_leastOf_15
    · refine rn_iconst hx hb 1 rfl dX6_leastOf_10 ?_
      refine lv_goto (tgt := 15) hx hb dX6_leastOf_11 (by decide) ?_
      exact ro_ret CX hr hlk (by unfold leastF; simp_all) rfl dX6_leastOf_15
theorem kb_8 : (Int8.ofInt (8)).toInt32 = (nI 8) := by decide +kernel
theorem ks_500 : (Int16.ofInt (500)).toInt32 = (nI 500) := by decide +kernel
set_option maxHeartbeats 4000000 in
set_option maxRecDepth 100000 in
theorem c_X6_mostOf (l : Launch) (G : va_G) (cA : Nat → ClassId) (v : Int32)  : RO l yX6_mostOf wsX6_mostOf ({ frames := 0, cells := 0, slots := 0, locals := 0 }) G cA B0 [] [.int v] (mostF v) := by
  refine RO.mk (own := RX6) (by decide) rfl rfl (Nat.le_of_ble_eq_true rfl) (fun p_ e_ s_ m_ below meth c_ ls CX hr hlk hP hE hB hl => ?_)
  obtain ⟨hx, hb, hml, hown, hts⟩ := id CX
  have hl : lv_has ls 1 [(0, .int v)] := hl
  refine lv_iload_n hx hb dX6_mostOf_0 rfl (lv_at hl 0 rfl) ?_
  refine rn_iconst hx hb 1 rfl dX6_mostOf_1 ?_
  refine lv_icmp_eq hx hb dX6_mostOf_2 (by decide) (tgt := 10) (fun c_2 => ?_) (fun c_2 => ?_)
  · refine lv_bipush (v := (nI 8)) hx hb dX6_mostOf_10 kb_8 ?_
    refine lv_goto (tgt := 18) hx hb dX6_mostOf_12 (by decide) ?_
    exact ro_ret CX hr hlk (by unfold mostF; simp_all) rfl dX6_mostOf_18
  · refine lv_iload_n hx hb dX6_mostOf_5 rfl (lv_at hl 0 rfl) ?_
    refine rn_iconst hx hb 2 rfl dX6_mostOf_6 ?_
    refine lv_icmp_ne hx hb dX6_mostOf_7 (by decide) (tgt := 15) (fun c_7 => ?_) (fun c_7 => ?_)
    · refine lv_sipush (v := (nI 500)) hx hb dX6_mostOf_15 ks_500 ?_
      exact ro_ret CX hr hlk (by unfold mostF; simp_all) rfl dX6_mostOf_18
    · refine lv_bipush (v := (nI 8)) hx hb dX6_mostOf_10 kb_8 ?_
      refine lv_goto (tgt := 18) hx hb dX6_mostOf_12 (by decide) ?_
      exact ro_ret CX hr hlk (by unfold mostF; simp_all) rfl dX6_mostOf_18
theorem hdv_X6_isWall : yX6_isWall.cls = RX6 ∧ yX6_isWall.cls ≠ "java/lang/invoke/MethodHandle" ∧ yX6_isWall.cls ≠ "java/lang/invoke/VarHandle" ∧ (parseMethodDescriptor yX6_isWall.desc).map (fun d => d.parameters.length) = some 1 := by decide +kernel
set_option maxHeartbeats 4000000 in
set_option maxRecDepth 100000 in
theorem c_X6_water (l : Launch) (G : va_G) (cA : Nat → ClassId) (m : Nat → Nat) (pm : Nat) (ty : Nat) (z : Nat → Int32)  : RO l yX6_water wsX6_water ({ frames := 1, cells := 0, slots := 0, locals := 21 }) G cA B0 [(m 0, .inr (6, [.ref (m 1), .ref (m 2), .ref (m 3), .ref (m 4), .int (nI pm), .ref (m 5), .ref (m 6), .int (nI ty), .ref (m 7)])), (m 1, .inl (cA 0, 345, .inl z))] [.ref (m 0)] (openF (shf 5 z)) := by
  refine RO.mk (own := RX6) (by decide) rfl rfl (Nat.le_of_ble_eq_true rfl) (fun p_ e_ s_ m_ below meth c_ ls CX hr hlk hP hE hB hl => ?_)
  obtain ⟨hx, hb, hml, hown, hts⟩ := id CX
  have hl : lv_has ls 3 [(0, .ref (m 0))] := hl
  refine rn_iconst hx hb 0 rfl dX6_water_0 ?_
  refine lv_istore_n (lv' := [(1, .int (nI 0)), (0, .ref (m 0))]) hx hb dX6_water_1 rfl hl (by decide) rfl (fun ls hl => ?_)
  refine rn_iconst hx hb 0 rfl dX6_water_2 ?_
  refine lv_istore_n (lv' := [(2, .int (nI 0)), (1, .int (nI 0)), (0, .ref (m 0))]) hx hb dX6_water_3 rfl hl (by decide) rfl (fun ls hl => ?_)
  have LP_4 : ∀ (nn_ : Nat) (i : Nat) (mm : Int32), (60 - i) < nn_ → (i ≤ 60) → (mm = sumI i (fun j => if shf 5 z j = nI 2 then nI 0 else nI 1)) → ∀ ls : Array Slot, lv_has ls 3 [(0, .ref (m 0)), (1, .int mm), (2, .int (nI i))] → W p_ l e_ ({ frames := 1, cells := 0, slots := 0, locals := 21 } : Room) s_ m_ ([.ref (m 0)] : List Value).toArray below meth c_ s_.heap [] 0 0 (MQ below (vp_Si (fun r_ => r_ = (openF (shf 5 z)))) ([.ref (m 0)] : List Value).toArray s_ 0 0 (fun _ => False)) (F0 m_ 4 ls []) := by
    intro nn_
    induction nn_ with
    | zero => intro i mm hmu; exact absurd hmu (Nat.not_lt_zero _)
    | succ nn_ ih =>
      have ih_4 := ih
      clear ih
      intro i mm hmu_4 hi hm ls hl
      refine lv_iload_n hx hb dX6_water_4 rfl (lv_at hl 2 rfl) ?_
      refine lv_bipush (v := (nI 60)) hx hb dX6_water_5 kb_60 ?_
      refine rn_icmp_ge hx hb (by omega) (by omega) dX6_water_7 (by decide) (tgt := 32) (fun c_7 => ?_) (fun c_7 => ?_)
      · refine lv_iload_n hx hb dX6_water_32 rfl (lv_at hl 1 rfl) ?_
        exact ro_ret CX hr hlk (by rw [hm, show i = 60 by omega]; rfl) rfl dX6_water_33
      · refine lv_iload_n hx hb dX6_water_10 rfl (lv_at hl 1 rfl) ?_
        refine lv_aload_n hx hb dX6_water_11 rfl (lv_at hl 0 rfl) ?_
        refine lv_iload_n hx hb dX6_water_12 rfl (lv_at hl 2 rfl) ?_
        refine roV CX hE hP (c_X6_isWall l G cA m pm ty z i (by omega)) (cwV 1 hts gX6_water_X6_isWall rfl rfl rfl hdv_X6_isWall ⟨Nat.le_of_ble_eq_true rfl, Nat.le_of_ble_eq_true rfl⟩) [0, 1] rfl 0 rfl rfl rfl B0_blind (fun _ _ _ => trivial) rfl hl.1 (rest := [.int mm]) rfl (Nat.le_of_ble_eq_true rfl) dX6_water_13 ⟨Nat.zero_le _, Nat.zero_le _⟩ ?_
        have J_24 : ∀ v : Int32, v = (if shf 5 z i = nI 2 then nI 0 else nI 1) → W p_ l e_ ({ frames := 1, cells := 0, slots := 0, locals := 21 } : Room) s_ m_ ([.ref (m 0)] : List Value).toArray below meth c_ s_.heap [] 0 0 (MQ below (vp_Si (fun r_ => r_ = (openF (shf 5 z)))) ([.ref (m 0)] : List Value).toArray s_ 0 0 (fun _ => False)) (F0 m_ 24 ls [.int v, .int mm]) := by
          intro v hv
          subst hv
          refine lv_iadd hx hb dX6_water_24 ?_
          refine lv_istore_n (lv' := [(1, .int (mm + (if shf 5 z i = nI 2 then nI 0 else nI 1))), (0, .ref (m 0)), (2, .int (nI i))]) hx hb dX6_water_25 rfl hl (by decide) rfl (fun ls hl => ?_)
          refine rn_iinc hx hb (n := 1) (lv' := [(2, .int (nI (i + 1))), (1, .int (mm + (if shf 5 z i = nI 2 then nI 0 else nI 1))), (0, .ref (m 0))]) rfl dX6_water_26 hl (k := 2) rfl (by decide) rfl (fun ls hl => ?_)
          refine lv_goto (tgt := 4) hx hb dX6_water_29 (by decide) ?_
          exact ih_4 (i + 1) (mm + (if shf 5 z i = nI 2 then nI 0 else nI 1)) (by omega) (by omega) (by rw [hm]; rfl) ls (lv_sub hl [2, 1, 0] rfl)
        refine rb_if_eq hx hb dX6_water_16 (by decide) (tgt := 23) (fun c_16 => ?_) (fun c_16 => ?_)
        · refine rn_iconst hx hb 1 rfl dX6_water_23 ?_
          exact J_24 _ (by first | exact (if_pos c_16).symm | exact (if_neg c_16).symm)
        · refine rn_iconst hx hb 0 rfl dX6_water_19 ?_
          refine lv_goto (tgt := 24) hx hb dX6_water_20 (by decide) ?_
          exact J_24 _ (by first | exact (if_pos c_16).symm | exact (if_neg c_16).symm)
  exact LP_4 _ 0 (nI 0) (Nat.lt_succ_self _) (by omega) rfl ls (lv_sub hl [2, 1, 0] rfl)
theorem hdv_X6_now : yX6_now.cls = RX6 ∧ yX6_now.cls ≠ "java/lang/invoke/MethodHandle" ∧ yX6_now.cls ≠ "java/lang/invoke/VarHandle" ∧ (parseMethodDescriptor yX6_now.desc).map (fun d => d.parameters.length) = some 1 := by decide +kernel
theorem hdn_X6_size : yX6_size.cls ≠ "java/lang/invoke/MethodHandle" ∧ yX6_size.cls ≠ "java/lang/invoke/VarHandle" ∧ (parseMethodDescriptor yX6_size.desc).map (fun d => d.parameters.length) = some 1 := by decide +kernel
set_option maxHeartbeats 4000000 in
set_option maxRecDepth 100000 in
theorem c_X6_allSizes (l : Launch) (G : va_G) (cA : Nat → ClassId) (m : Nat → Nat) (pm : Nat) (ty : Nat) (z : Nat → Int32)  : RO l yX6_allSizes wsX6_allSizes ({ frames := 1, cells := 0, slots := 0, locals := 21 }) G cA B0 [(m 0, .inr (6, [.ref (m 1), .ref (m 2), .ref (m 3), .ref (m 4), .int (nI pm), .ref (m 5), .ref (m 6), .int (nI ty), .ref (m 7)])), (m 1, .inl (cA 0, 345, .inl z))] [.ref (m 0)] (loudF (shf 65 z)) := by
  refine RO.mk (own := RX6) (by decide) rfl rfl (Nat.le_of_ble_eq_true rfl) (fun p_ e_ s_ m_ below meth c_ ls CX hr hlk hP hE hB hl => ?_)
  obtain ⟨hx, hb, hml, hown, hts⟩ := id CX
  have hl : lv_has ls 3 [(0, .ref (m 0))] := hl
  refine rn_iconst hx hb 0 rfl dX6_allSizes_0 ?_
  refine lv_istore_n (lv' := [(1, .int (nI 0)), (0, .ref (m 0))]) hx hb dX6_allSizes_1 rfl hl (by decide) rfl (fun ls hl => ?_)
  refine rn_iconst hx hb 0 rfl dX6_allSizes_2 ?_
  refine lv_istore_n (lv' := [(2, .int (nI 0)), (1, .int (nI 0)), (0, .ref (m 0))]) hx hb dX6_allSizes_3 rfl hl (by decide) rfl (fun ls hl => ?_)
  have LP_4 : ∀ (nn_ : Nat) (i : Nat) (mm : Int32), (60 - i) < nn_ → (i ≤ 60) → (mm = sumI i (fun j => iabs (shf 65 z j))) → ∀ ls : Array Slot, lv_has ls 3 [(0, .ref (m 0)), (1, .int mm), (2, .int (nI i))] → W p_ l e_ ({ frames := 1, cells := 0, slots := 0, locals := 21 } : Room) s_ m_ ([.ref (m 0)] : List Value).toArray below meth c_ s_.heap [] 0 0 (MQ below (vp_Si (fun r_ => r_ = (loudF (shf 65 z)))) ([.ref (m 0)] : List Value).toArray s_ 0 0 (fun _ => False)) (F0 m_ 4 ls []) := by
    intro nn_
    induction nn_ with
    | zero => intro i mm hmu; exact absurd hmu (Nat.not_lt_zero _)
    | succ nn_ ih =>
      have ih_4 := ih
      clear ih
      intro i mm hmu_4 hi hm ls hl
      refine lv_iload_n hx hb dX6_allSizes_4 rfl (lv_at hl 2 rfl) ?_
      refine lv_bipush (v := (nI 60)) hx hb dX6_allSizes_5 kb_60 ?_
      refine rn_icmp_ge hx hb (by omega) (by omega) dX6_allSizes_7 (by decide) (tgt := 27) (fun c_7 => ?_) (fun c_7 => ?_)
      · refine lv_iload_n hx hb dX6_allSizes_27 rfl (lv_at hl 1 rfl) ?_
        exact ro_ret CX hr hlk (by rw [hm, show i = 60 by omega]; rfl) rfl dX6_allSizes_28
      · refine lv_iload_n hx hb dX6_allSizes_10 rfl (lv_at hl 1 rfl) ?_
        refine lv_aload_n hx hb dX6_allSizes_11 rfl (lv_at hl 0 rfl) ?_
        refine lv_iload_n hx hb dX6_allSizes_12 rfl (lv_at hl 2 rfl) ?_
        refine roV CX hE hP (c_X6_now l G cA m pm ty z i (by omega)) (cwV 1 hts gX6_allSizes_X6_now rfl rfl rfl hdv_X6_now ⟨Nat.le_of_ble_eq_true rfl, Nat.le_of_ble_eq_true rfl⟩) [0, 1] rfl 0 rfl rfl rfl B0_blind (fun _ _ _ => trivial) rfl hl.1 (rest := [.int mm]) rfl (Nat.le_of_ble_eq_true rfl) dX6_allSizes_13 ⟨Nat.zero_le _, Nat.zero_le _⟩ ?_
        refine roS CX hE hP (c_X6_size l G cA (shf 65 z i) ) (va_cwS 1 hts gX6_allSizes_X6_size rfl rfl rfl hdn_X6_size ⟨Nat.le_of_ble_eq_true rfl, Nat.le_of_ble_eq_true rfl⟩) [] rfl B0_blind (fun _ _ _ => trivial) rfl hl.1 (rest := [.int mm]) rfl (Nat.le_of_ble_eq_true rfl) dX6_allSizes_16 ⟨Nat.zero_le _, Nat.zero_le _⟩ ?_
        refine lv_iadd hx hb dX6_allSizes_19 ?_
        refine lv_istore_n (lv' := [(1, .int (mm + (iabs (shf 65 z i)))), (0, .ref (m 0)), (2, .int (nI i))]) hx hb dX6_allSizes_20 rfl hl (by decide) rfl (fun ls hl => ?_)
        refine rn_iinc hx hb (n := 1) (lv' := [(2, .int (nI (i + 1))), (1, .int (mm + (iabs (shf 65 z i)))), (0, .ref (m 0))]) rfl dX6_allSizes_21 hl (k := 2) rfl (by decide) rfl (fun ls hl => ?_)
        refine lv_goto (tgt := 4) hx hb dX6_allSizes_24 (by decide) ?_
        exact ih_4 (i + 1) (mm + (iabs (shf 65 z i))) (by omega) (by omega) (by rw [hm]; rfl) ls (lv_sub hl [2, 1, 0] rfl)
  exact LP_4 _ 0 (nI 0) (Nat.lt_succ_self _) (by omega) rfl ls (lv_sub hl [2, 1, 0] rfl)
set_option maxHeartbeats 4000000 in
set_option maxRecDepth 100000 in
theorem c_X6_sum (l : Launch) (G : va_G) (cA : Nat → ClassId) (m : Nat → Nat) (pm : Nat) (ty : Nat) (z : Nat → Int32)  : RO l yX6_sum wsX6_sum ({ frames := 1, cells := 0, slots := 0, locals := 21 }) G cA B0 [(m 0, .inr (6, [.ref (m 1), .ref (m 2), .ref (m 3), .ref (m 4), .int (nI pm), .ref (m 5), .ref (m 6), .int (nI ty), .ref (m 7)])), (m 1, .inl (cA 0, 345, .inl z))] [.ref (m 0)] (sumI 60 (shf 65 z)) := by
  refine RO.mk (own := RX6) (by decide) rfl rfl (Nat.le_of_ble_eq_true rfl) (fun p_ e_ s_ m_ below meth c_ ls CX hr hlk hP hE hB hl => ?_)
  obtain ⟨hx, hb, hml, hown, hts⟩ := id CX
  have hl : lv_has ls 3 [(0, .ref (m 0))] := hl
  refine rn_iconst hx hb 0 rfl dX6_sum_0 ?_
  refine lv_istore_n (lv' := [(1, .int (nI 0)), (0, .ref (m 0))]) hx hb dX6_sum_1 rfl hl (by decide) rfl (fun ls hl => ?_)
  refine rn_iconst hx hb 0 rfl dX6_sum_2 ?_
  refine lv_istore_n (lv' := [(2, .int (nI 0)), (1, .int (nI 0)), (0, .ref (m 0))]) hx hb dX6_sum_3 rfl hl (by decide) rfl (fun ls hl => ?_)
  have LP_4 : ∀ (nn_ : Nat) (i : Nat) (mm : Int32), (60 - i) < nn_ → (i ≤ 60) → (mm = sumI i (fun j => shf 65 z j)) → ∀ ls : Array Slot, lv_has ls 3 [(0, .ref (m 0)), (1, .int mm), (2, .int (nI i))] → W p_ l e_ ({ frames := 1, cells := 0, slots := 0, locals := 21 } : Room) s_ m_ ([.ref (m 0)] : List Value).toArray below meth c_ s_.heap [] 0 0 (MQ below (vp_Si (fun r_ => r_ = (sumI 60 (shf 65 z)))) ([.ref (m 0)] : List Value).toArray s_ 0 0 (fun _ => False)) (F0 m_ 4 ls []) := by
    intro nn_
    induction nn_ with
    | zero => intro i mm hmu; exact absurd hmu (Nat.not_lt_zero _)
    | succ nn_ ih =>
      have ih_4 := ih
      clear ih
      intro i mm hmu_4 hi hm ls hl
      refine lv_iload_n hx hb dX6_sum_4 rfl (lv_at hl 2 rfl) ?_
      refine lv_bipush (v := (nI 60)) hx hb dX6_sum_5 kb_60 ?_
      refine rn_icmp_ge hx hb (by omega) (by omega) dX6_sum_7 (by decide) (tgt := 24) (fun c_7 => ?_) (fun c_7 => ?_)
      · refine lv_iload_n hx hb dX6_sum_24 rfl (lv_at hl 1 rfl) ?_
        exact ro_ret CX hr hlk (by rw [hm, show i = 60 by omega]) rfl dX6_sum_25
      · refine lv_iload_n hx hb dX6_sum_10 rfl (lv_at hl 1 rfl) ?_
        refine lv_aload_n hx hb dX6_sum_11 rfl (lv_at hl 0 rfl) ?_
        refine lv_iload_n hx hb dX6_sum_12 rfl (lv_at hl 2 rfl) ?_
        refine roV CX hE hP (c_X6_now l G cA m pm ty z i (by omega)) (cwV 1 hts gX6_sum_X6_now rfl rfl rfl hdv_X6_now ⟨Nat.le_of_ble_eq_true rfl, Nat.le_of_ble_eq_true rfl⟩) [0, 1] rfl 0 rfl rfl rfl B0_blind (fun _ _ _ => trivial) rfl hl.1 (rest := [.int mm]) rfl (Nat.le_of_ble_eq_true rfl) dX6_sum_13 ⟨Nat.zero_le _, Nat.zero_le _⟩ ?_
        refine lv_iadd hx hb dX6_sum_16 ?_
        refine lv_istore_n (lv' := [(1, .int (mm + (shf 65 z i))), (0, .ref (m 0)), (2, .int (nI i))]) hx hb dX6_sum_17 rfl hl (by decide) rfl (fun ls hl => ?_)
        refine rn_iinc hx hb (n := 1) (lv' := [(2, .int (nI (i + 1))), (1, .int (mm + (shf 65 z i))), (0, .ref (m 0))]) rfl dX6_sum_18 hl (k := 2) rfl (by decide) rfl (fun ls hl => ?_)
        refine lv_goto (tgt := 4) hx hb dX6_sum_21 (by decide) ?_
        exact ih_4 (i + 1) (mm + (shf 65 z i)) (by omega) (by omega) (by rw [hm]; rfl) ls (lv_sub hl [2, 1, 0] rfl)
  exact LP_4 _ 0 (nI 0) (Nat.lt_succ_self _) (by omega) rfl ls (lv_sub hl [2, 1, 0] rfl)
theorem fl_X6_come_7 : Cond.fieldLink RX6 7 RX6 (TX6 0).2.1 (TX6 0).2.2.1 ∈ wsX6_come := by decide +kernel
theorem in_X6_come_X6 : ∀ w ∈ wsX60, w ∈ wsX6_come := by decide +kernel
theorem ks_185 : (Int16.ofInt (185)).toInt32 = (nI 185) := by decide +kernel
set_option maxHeartbeats 4000000 in
set_option maxRecDepth 100000 in
theorem c_X6_come (l : Launch) (G : va_G) (cA : Nat → ClassId) (m : Nat → Nat) (pm : Nat) (ty : Nat) (z : Nat → Int32)  : RO l yX6_come wsX6_come ({ frames := 0, cells := 0, slots := 0, locals := 0 }) G cA B0 [(m 0, .inr (6, [.ref (m 1), .ref (m 2), .ref (m 3), .ref (m 4), .int (nI pm), .ref (m 5), .ref (m 6), .int (nI ty), .ref (m 7)])), (m 1, .inl (cA 0, 345, .inl z))] [.ref (m 0)] (reachF (shf 185 z)) := by
  refine RO.mk (own := RX6) (by decide) rfl rfl (Nat.le_of_ble_eq_true rfl) (fun p_ e_ s_ m_ below meth c_ ls CX hr hlk hP hE hB hl => ?_)
  obtain ⟨hx, hb, hml, hown, hts⟩ := id CX
  have hl : lv_has ls 3 [(0, .ref (m 0))] := hl
  refine rn_iconst hx hb 0 rfl dX6_come_0 ?_
  refine lv_istore_n (lv' := [(1, .int (nI 0)), (0, .ref (m 0))]) hx hb dX6_come_1 rfl hl (by decide) rfl (fun ls hl => ?_)
  refine rn_iconst hx hb 0 rfl dX6_come_2 ?_
  refine lv_istore_n (lv' := [(2, .int (nI 0)), (1, .int (nI 0)), (0, .ref (m 0))]) hx hb dX6_come_3 rfl hl (by decide) rfl (fun ls hl => ?_)
  have LP_4 : ∀ (nn_ : Nat) (i : Nat) (mm : Int32), (60 - i) < nn_ → (i ≤ 60) → (mm = sumI i (fun j => if shf 185 z j = -6 then nI 0 else nI 1)) → ∀ ls : Array Slot, lv_has ls 3 [(0, .ref (m 0)), (1, .int mm), (2, .int (nI i))] → W p_ l e_ ({ frames := 0, cells := 0, slots := 0, locals := 0 } : Room) s_ m_ ([.ref (m 0)] : List Value).toArray below meth c_ s_.heap [] 0 0 (MQ below (vp_Si (fun r_ => r_ = (reachF (shf 185 z)))) ([.ref (m 0)] : List Value).toArray s_ 0 0 (fun _ => False)) (F0 m_ 4 ls []) := by
    intro nn_
    induction nn_ with
    | zero => intro i mm hmu; exact absurd hmu (Nat.not_lt_zero _)
    | succ nn_ ih =>
      have ih_4 := ih
      clear ih
      intro i mm hmu_4 hi hm ls hl
      refine lv_iload_n hx hb dX6_come_4 rfl (lv_at hl 2 rfl) ?_
      refine lv_bipush (v := (nI 60)) hx hb dX6_come_5 kb_60 ?_
      refine rn_icmp_ge hx hb (by omega) (by omega) dX6_come_7 (by decide) (tgt := 39) (fun c_7 => ?_) (fun c_7 => ?_)
      · refine lv_iload_n hx hb dX6_come_39 rfl (lv_at hl 1 rfl) ?_
        exact ro_ret CX hr hlk (by rw [hm, show i = 60 by omega]; rfl) rfl dX6_come_40
      · refine lv_iload_n hx hb dX6_come_10 rfl (lv_at hl 1 rfl) ?_
        refine lv_aload_n hx hb dX6_come_11 rfl (lv_at hl 0 rfl) ?_
        refine rg (T := TX6) (N := 9) CX hE hP in_X6_come_X6 0 rfl rfl 0 (by decide) fl_X6_come_7 rfl rfl dX6_come_12 ?_
        refine lv_sipush (v := (nI 185)) hx hb dX6_come_15 ks_185 ?_
        refine lv_iload_n hx hb dX6_come_18 rfl (lv_at hl 2 rfl) ?_
        refine rn_iadd hx hb dX6_come_19 ?_
        refine rn_iald CX hE hP 1 rfl (j := (185 + i)) (by omega) (ltb rfl) dX6_come_20 ?_
        refine lv_bipush (v := (-6)) hx hb dX6_come_21 kb_m6 ?_
        have J_31 : ∀ v : Int32, v = (if shf 185 z i = -6 then nI 0 else nI 1) → W p_ l e_ ({ frames := 0, cells := 0, slots := 0, locals := 0 } : Room) s_ m_ ([.ref (m 0)] : List Value).toArray below meth c_ s_.heap [] 0 0 (MQ below (vp_Si (fun r_ => r_ = (reachF (shf 185 z)))) ([.ref (m 0)] : List Value).toArray s_ 0 0 (fun _ => False)) (F0 m_ 31 ls [.int v, .int mm]) := by
          intro v hv
          subst hv
          refine lv_iadd hx hb dX6_come_31 ?_
          refine lv_istore_n (lv' := [(1, .int (mm + (if shf 185 z i = -6 then nI 0 else nI 1))), (0, .ref (m 0)), (2, .int (nI i))]) hx hb dX6_come_32 rfl hl (by decide) rfl (fun ls hl => ?_)
          refine rn_iinc hx hb (n := 1) (lv' := [(2, .int (nI (i + 1))), (1, .int (mm + (if shf 185 z i = -6 then nI 0 else nI 1))), (0, .ref (m 0))]) rfl dX6_come_33 hl (k := 2) rfl (by decide) rfl (fun ls hl => ?_)
          refine lv_goto (tgt := 4) hx hb dX6_come_36 (by decide) ?_
          exact ih_4 (i + 1) (mm + (if shf 185 z i = -6 then nI 0 else nI 1)) (by omega) (by omega) (by rw [hm]; rfl) ls (lv_sub hl [2, 1, 0] rfl)
        refine lv_icmp_ne hx hb dX6_come_23 (by decide) (tgt := 30) (fun c_23 => ?_) (fun c_23 => ?_)
        · refine rn_iconst hx hb 1 rfl dX6_come_30 ?_
          exact J_31 _ (by first | exact (if_pos c_23).symm | exact (if_neg c_23).symm)
        · refine rn_iconst hx hb 0 rfl dX6_come_26 ?_
          refine lv_goto (tgt := 31) hx hb dX6_come_27 (by decide) ?_
          exact J_31 _ (by first | exact (if_pos c_23).symm | exact (if_neg c_23).symm)
  exact LP_4 _ 0 (nI 0) (Nat.lt_succ_self _) (by omega) rfl ls (lv_sub hl [2, 1, 0] rfl)
set_option maxHeartbeats 4000000 in
set_option maxRecDepth 100000 in
theorem c_X6_greatest (l : Launch) (G : va_G) (cA : Nat → ClassId) (m : Nat → Nat) (pm : Nat) (ty : Nat) (z : Nat → Int32)  : RO l yX6_greatest wsX6_greatest ({ frames := 1, cells := 0, slots := 0, locals := 21 }) G cA B0 [(m 0, .inr (6, [.ref (m 1), .ref (m 2), .ref (m 3), .ref (m 4), .int (nI pm), .ref (m 5), .ref (m 6), .int (nI ty), .ref (m 7)])), (m 1, .inl (cA 0, 345, .inl z))] [.ref (m 0)] (grF (shf 65 z) 60) := by
  refine RO.mk (own := RX6) (by decide) rfl rfl (Nat.le_of_ble_eq_true rfl) (fun p_ e_ s_ m_ below meth c_ ls CX hr hlk hP hE hB hl => ?_)
  obtain ⟨hx, hb, hml, hown, hts⟩ := id CX
  have hl : lv_has ls 3 [(0, .ref (m 0))] := hl
  refine rn_iconst hx hb 0 rfl dX6_greatest_0 ?_
  refine lv_istore_n (lv' := [(1, .int (nI 0)), (0, .ref (m 0))]) hx hb dX6_greatest_1 rfl hl (by decide) rfl (fun ls hl => ?_)
  refine rn_iconst hx hb 0 rfl dX6_greatest_2 ?_
  refine lv_istore_n (lv' := [(2, .int (nI 0)), (1, .int (nI 0)), (0, .ref (m 0))]) hx hb dX6_greatest_3 rfl hl (by decide) rfl (fun ls hl => ?_)
  have LP_4 : ∀ (nn_ : Nat) (i : Nat) (mm : Int32), (60 - i) < nn_ → (i ≤ 60) → (mm = grF (shf 65 z) i) → ∀ ls : Array Slot, lv_has ls 3 [(0, .ref (m 0)), (1, .int mm), (2, .int (nI i))] → W p_ l e_ ({ frames := 1, cells := 0, slots := 0, locals := 21 } : Room) s_ m_ ([.ref (m 0)] : List Value).toArray below meth c_ s_.heap [] 0 0 (MQ below (vp_Si (fun r_ => r_ = (grF (shf 65 z) 60))) ([.ref (m 0)] : List Value).toArray s_ 0 0 (fun _ => False)) (F0 m_ 4 ls []) := by
    intro nn_
    induction nn_ with
    | zero => intro i mm hmu; exact absurd hmu (Nat.not_lt_zero _)
    | succ nn_ ih =>
      have ih_4 := ih
      clear ih
      intro i mm hmu_4 hi hm ls hl
      refine lv_iload_n hx hb dX6_greatest_4 rfl (lv_at hl 2 rfl) ?_
      refine lv_bipush (v := (nI 60)) hx hb dX6_greatest_5 kb_60 ?_
      refine rn_icmp_ge hx hb (by omega) (by omega) dX6_greatest_7 (by decide) (tgt := 41) (fun c_7 => ?_) (fun c_7 => ?_)
      · refine lv_iload_n hx hb dX6_greatest_41 rfl (lv_at hl 1 rfl) ?_
        exact ro_ret CX hr hlk (by rw [hm, show i = 60 by omega]) rfl dX6_greatest_42
      · refine lv_aload_n hx hb dX6_greatest_10 rfl (lv_at hl 0 rfl) ?_
        refine lv_iload_n hx hb dX6_greatest_11 rfl (lv_at hl 2 rfl) ?_
        refine roV CX hE hP (c_X6_now l G cA m pm ty z i (by omega)) (cwV 1 hts gX6_greatest_X6_now rfl rfl rfl hdv_X6_now ⟨Nat.le_of_ble_eq_true rfl, Nat.le_of_ble_eq_true rfl⟩) [0, 1] rfl 0 rfl rfl rfl B0_blind (fun _ _ _ => trivial) rfl hl.1 (rest := []) rfl (Nat.le_of_ble_eq_true rfl) dX6_greatest_12 ⟨Nat.zero_le _, Nat.zero_le _⟩ ?_
        refine roS CX hE hP (c_X6_size l G cA (shf 65 z i) ) (va_cwS 1 hts gX6_greatest_X6_size rfl rfl rfl hdn_X6_size ⟨Nat.le_of_ble_eq_true rfl, Nat.le_of_ble_eq_true rfl⟩) [] rfl B0_blind (fun _ _ _ => trivial) rfl hl.1 (rest := []) rfl (Nat.le_of_ble_eq_true rfl) dX6_greatest_15 ⟨Nat.zero_le _, Nat.zero_le _⟩ ?_
        refine lv_iload_n hx hb dX6_greatest_18 rfl (lv_at hl 1 rfl) ?_
        have J_34 : ∀ v : Int32, v = (if mm < iabs (shf 65 z i) then iabs (shf 65 z i) else mm) → W p_ l e_ ({ frames := 1, cells := 0, slots := 0, locals := 21 } : Room) s_ m_ ([.ref (m 0)] : List Value).toArray below meth c_ s_.heap [] 0 0 (MQ below (vp_Si (fun r_ => r_ = (grF (shf 65 z) 60))) ([.ref (m 0)] : List Value).toArray s_ 0 0 (fun _ => False)) (F0 m_ 34 ls [.int v]) := by
          intro v hv
          subst hv
          refine lv_istore_n (lv' := [(1, .int (if mm < iabs (shf 65 z i) then iabs (shf 65 z i) else mm)), (0, .ref (m 0)), (2, .int (nI i))]) hx hb dX6_greatest_34 rfl hl (by decide) rfl (fun ls hl => ?_)
          refine rn_iinc hx hb (n := 1) (lv' := [(2, .int (nI (i + 1))), (1, .int (if mm < iabs (shf 65 z i) then iabs (shf 65 z i) else mm)), (0, .ref (m 0))]) rfl dX6_greatest_35 hl (k := 2) rfl (by decide) rfl (fun ls hl => ?_)
          refine lv_goto (tgt := 4) hx hb dX6_greatest_38 (by decide) ?_
          exact ih_4 (i + 1) (if mm < iabs (shf 65 z i) then iabs (shf 65 z i) else mm) (by omega) (by omega) (by rw [hm]; rfl) ls (lv_sub hl [2, 1, 0] rfl)
        refine lv_icmp_le hx hb dX6_greatest_19 (by decide) (tgt := 33) (fun c_19 => ?_) (fun c_19 => ?_)
        · refine lv_iload_n hx hb dX6_greatest_33 rfl (lv_at hl 1 rfl) ?_
          exact J_34 _ (by first | exact (if_pos (by grind)).symm | exact (if_neg (by grind)).symm)
        · refine lv_aload_n hx hb dX6_greatest_22 rfl (lv_at hl 0 rfl) ?_
          refine lv_iload_n hx hb dX6_greatest_23 rfl (lv_at hl 2 rfl) ?_
          refine roV CX hE hP (c_X6_now l G cA m pm ty z i (by omega)) (cwV 1 hts gX6_greatest_X6_now rfl rfl rfl hdv_X6_now ⟨Nat.le_of_ble_eq_true rfl, Nat.le_of_ble_eq_true rfl⟩) [0, 1] rfl 0 rfl rfl rfl B0_blind (fun _ _ _ => trivial) rfl hl.1 (rest := []) rfl (Nat.le_of_ble_eq_true rfl) dX6_greatest_24 ⟨Nat.zero_le _, Nat.zero_le _⟩ ?_
          refine roS CX hE hP (c_X6_size l G cA (shf 65 z i) ) (va_cwS 1 hts gX6_greatest_X6_size rfl rfl rfl hdn_X6_size ⟨Nat.le_of_ble_eq_true rfl, Nat.le_of_ble_eq_true rfl⟩) [] rfl B0_blind (fun _ _ _ => trivial) rfl hl.1 (rest := []) rfl (Nat.le_of_ble_eq_true rfl) dX6_greatest_27 ⟨Nat.zero_le _, Nat.zero_le _⟩ ?_
          refine lv_goto (tgt := 34) hx hb dX6_greatest_30 (by decide) ?_
          exact J_34 _ (by first | exact (if_pos (by grind)).symm | exact (if_neg (by grind)).symm)
  exact LP_4 _ 0 (nI 0) (Nat.lt_succ_self _) (by omega) rfl ls (lv_sub hl [2, 1, 0] rfl)
theorem fl_X6_isStill_7 : Cond.fieldLink RX6 7 RX6 (TX6 0).2.1 (TX6 0).2.2.1 ∈ wsX6_isStill := by decide +kernel
theorem in_X6_isStill_X6 : ∀ w ∈ wsX60, w ∈ wsX6_isStill := by decide +kernel
theorem kb_125 : (Int8.ofInt (125)).toInt32 = (nI 125) := by decide +kernel
set_option maxHeartbeats 4000000 in
set_option maxRecDepth 100000 in
theorem c_X6_isStill (l : Launch) (G : va_G) (cA : Nat → ClassId) (m : Nat → Nat) (pm : Nat) (ty : Nat) (z : Nat → Int32) (c : Nat) (hc : c < 60) : RO l yX6_isStill wsX6_isStill ({ frames := 1, cells := 0, slots := 0, locals := 21 }) G cA B0 [(m 0, .inr (6, [.ref (m 1), .ref (m 2), .ref (m 3), .ref (m 4), .int (nI pm), .ref (m 5), .ref (m 6), .int (nI ty), .ref (m 7)])), (m 1, .inl (cA 0, 345, .inl z))] [.ref (m 0), .int (nI c)] (b2i (stillP z (shf 65 z) (shf 125 z) c)) := by
  refine RO.mk (own := RX6) (by decide) rfl rfl (Nat.le_of_ble_eq_true rfl) (fun p_ e_ s_ m_ below meth c_ ls CX hr hlk hP hE hB hl => ?_)
  obtain ⟨hx, hb, hml, hown, hts⟩ := id CX
  have hl : lv_has ls 2 [(0, .ref (m 0)), (1, .int (nI c))] := hl
  refine lv_aload_n hx hb dX6_isStill_0 rfl (lv_at hl 0 rfl) ?_
  refine lv_iload_n hx hb dX6_isStill_1 rfl (lv_at hl 1 rfl) ?_
  refine roV CX hE hP (c_X6_now l G cA m pm ty z c (by omega)) (cwV 1 hts gX6_isStill_X6_now rfl rfl rfl hdv_X6_now ⟨Nat.le_of_ble_eq_true rfl, Nat.le_of_ble_eq_true rfl⟩) [0, 1] rfl 0 rfl rfl rfl B0_blind (fun _ _ _ => trivial) rfl hl.1 (rest := []) rfl (Nat.le_of_ble_eq_true rfl) dX6_isStill_2 ⟨Nat.zero_le _, Nat.zero_le _⟩ ?_
  refine roS CX hE hP (c_X6_size l G cA (shf 65 z c) ) (va_cwS 1 hts gX6_isStill_X6_size rfl rfl rfl hdn_X6_size ⟨Nat.le_of_ble_eq_true rfl, Nat.le_of_ble_eq_true rfl⟩) [] rfl B0_blind (fun _ _ _ => trivial) rfl hl.1 (rest := []) rfl (Nat.le_of_ble_eq_true rfl) dX6_isStill_5 ⟨Nat.zero_le _, Nat.zero_le _⟩ ?_
  refine lv_aload_n hx hb dX6_isStill_8 rfl (lv_at hl 0 rfl) ?_
  refine rg (T := TX6) (N := 9) CX hE hP in_X6_isStill_X6 0 rfl rfl 0 (by decide) fl_X6_isStill_7 rfl rfl dX6_isStill_9 ?_
  refine rn_iconst hx hb 3 rfl dX6_isStill_12 ?_
  refine rn_iald CX hE hP 1 rfl (j := 3) (by omega) (ltb rfl) dX6_isStill_13 ?_
  refine lv_icmp_gt hx hb dX6_isStill_14 (by decide) (tgt := 42) (fun c_14 => ?_) (fun c_14 => ?_)
  · refine rn_iconst hx hb 0 rfl dX6_isStill_42 ?_
    exact ro_ret CX hr hlk (by first | exact b2i_t ⟨Int32.not_lt.mp c_14, Int32.not_lt.mp c_35⟩ | exact b2i_f (fun h => absurd c_14 (Int32.not_lt.mpr h.1)) | exact b2i_f (fun h => absurd c_35 (Int32.not_lt.mpr h.2))) rfl dX6_isStill_43
  · refine lv_aload_n hx hb dX6_isStill_17 rfl (lv_at hl 0 rfl) ?_
    refine rg (T := TX6) (N := 9) CX hE hP in_X6_isStill_X6 0 rfl rfl 0 (by decide) fl_X6_isStill_7 rfl rfl dX6_isStill_18 ?_
    refine lv_bipush (v := (nI 125)) hx hb dX6_isStill_21 kb_125 ?_
    refine lv_iload_n hx hb dX6_isStill_23 rfl (lv_at hl 1 rfl) ?_
    refine rn_iadd hx hb dX6_isStill_24 ?_
    refine rn_iald CX hE hP 1 rfl (j := (125 + c)) (by omega) (ltb rfl) dX6_isStill_25 ?_
    refine roS CX hE hP (c_X6_size l G cA (z (125 + c)) ) (va_cwS 1 hts gX6_isStill_X6_size rfl rfl rfl hdn_X6_size ⟨Nat.le_of_ble_eq_true rfl, Nat.le_of_ble_eq_true rfl⟩) [] rfl B0_blind (fun _ _ _ => trivial) rfl hl.1 (rest := []) rfl (Nat.le_of_ble_eq_true rfl) dX6_isStill_26 ⟨Nat.zero_le _, Nat.zero_le _⟩ ?_
    refine lv_aload_n hx hb dX6_isStill_29 rfl (lv_at hl 0 rfl) ?_
    refine rg (T := TX6) (N := 9) CX hE hP in_X6_isStill_X6 0 rfl rfl 0 (by decide) fl_X6_isStill_7 rfl rfl dX6_isStill_30 ?_
    refine rn_iconst hx hb 3 rfl dX6_isStill_33 ?_
    refine rn_iald CX hE hP 1 rfl (j := 3) (by omega) (ltb rfl) dX6_isStill_34 ?_
    refine lv_icmp_gt hx hb dX6_isStill_35 (by decide) (tgt := 42) (fun c_35 => ?_) (fun c_35 => ?_)
    · refine rn_iconst hx hb 0 rfl dX6_isStill_42 ?_
      exact ro_ret CX hr hlk (by first | exact b2i_t ⟨Int32.not_lt.mp c_14, Int32.not_lt.mp c_35⟩ | exact b2i_f (fun h => absurd c_14 (Int32.not_lt.mpr h.1)) | exact b2i_f (fun h => absurd c_35 (Int32.not_lt.mpr h.2))) rfl dX6_isStill_43
    · refine rn_iconst hx hb 1 rfl dX6_isStill_38 ?_
      refine lv_goto (tgt := 43) hx hb dX6_isStill_39 (by decide) ?_
      exact ro_ret CX hr hlk (by first | exact b2i_t ⟨Int32.not_lt.mp c_14, Int32.not_lt.mp c_35⟩ | exact b2i_f (fun h => absurd c_14 (Int32.not_lt.mpr h.1)) | exact b2i_f (fun h => absurd c_35 (Int32.not_lt.mpr h.2))) rfl dX6_isStill_43
theorem hdv_X6_isStill : yX6_isStill.cls = RX6 ∧ yX6_isStill.cls ≠ "java/lang/invoke/MethodHandle" ∧ yX6_isStill.cls ≠ "java/lang/invoke/VarHandle" ∧ (parseMethodDescriptor yX6_isStill.desc).map (fun d => d.parameters.length) = some 1 := by decide +kernel
set_option maxHeartbeats 4000000 in
set_option maxRecDepth 100000 in
theorem c_X6_stillOnes (l : Launch) (G : va_G) (cA : Nat → ClassId) (m : Nat → Nat) (pm : Nat) (ty : Nat) (z : Nat → Int32)  : RO l yX6_stillOnes wsX6_stillOnes ({ frames := 2, cells := 0, slots := 0, locals := 42 }) G cA B0 [(m 0, .inr (6, [.ref (m 1), .ref (m 2), .ref (m 3), .ref (m 4), .int (nI pm), .ref (m 5), .ref (m 6), .int (nI ty), .ref (m 7)])), (m 1, .inl (cA 0, 345, .inl z))] [.ref (m 0)] (stillsF z) := by
  refine RO.mk (own := RX6) (by decide) rfl rfl (Nat.le_of_ble_eq_true rfl) (fun p_ e_ s_ m_ below meth c_ ls CX hr hlk hP hE hB hl => ?_)
  obtain ⟨hx, hb, hml, hown, hts⟩ := id CX
  have hl : lv_has ls 3 [(0, .ref (m 0))] := hl
  refine rn_iconst hx hb 0 rfl dX6_stillOnes_0 ?_
  refine lv_istore_n (lv' := [(1, .int (nI 0)), (0, .ref (m 0))]) hx hb dX6_stillOnes_1 rfl hl (by decide) rfl (fun ls hl => ?_)
  refine rn_iconst hx hb 0 rfl dX6_stillOnes_2 ?_
  refine lv_istore_n (lv' := [(2, .int (nI 0)), (1, .int (nI 0)), (0, .ref (m 0))]) hx hb dX6_stillOnes_3 rfl hl (by decide) rfl (fun ls hl => ?_)
  have LP_4 : ∀ (nn_ : Nat) (i : Nat) (mm : Int32), (60 - i) < nn_ → (i ≤ 60) → (mm = sumI i (fun j => if ¬ shf 5 z j = nI 2 ∧ stillP z (shf 65 z) (shf 125 z) j then nI 1 else nI 0)) → ∀ ls : Array Slot, lv_has ls 3 [(0, .ref (m 0)), (1, .int mm), (2, .int (nI i))] → W p_ l e_ ({ frames := 2, cells := 0, slots := 0, locals := 42 } : Room) s_ m_ ([.ref (m 0)] : List Value).toArray below meth c_ s_.heap [] 0 0 (MQ below (vp_Si (fun r_ => r_ = (stillsF z))) ([.ref (m 0)] : List Value).toArray s_ 0 0 (fun _ => False)) (F0 m_ 4 ls []) := by
    intro nn_
    induction nn_ with
    | zero => intro i mm hmu; exact absurd hmu (Nat.not_lt_zero _)
    | succ nn_ ih =>
      have ih_4 := ih
      clear ih
      intro i mm hmu_4 hi hm ls hl
      refine lv_iload_n hx hb dX6_stillOnes_4 rfl (lv_at hl 2 rfl) ?_
      refine lv_bipush (v := (nI 60)) hx hb dX6_stillOnes_5 kb_60 ?_
      refine rn_icmp_ge hx hb (by omega) (by omega) dX6_stillOnes_7 (by decide) (tgt := 40) (fun c_7 => ?_) (fun c_7 => ?_)
      · refine lv_iload_n hx hb dX6_stillOnes_40 rfl (lv_at hl 1 rfl) ?_
        exact ro_ret CX hr hlk (by rw [hm, show i = 60 by omega]; rfl) rfl dX6_stillOnes_41
      · refine lv_iload_n hx hb dX6_stillOnes_10 rfl (lv_at hl 1 rfl) ?_
        refine lv_aload_n hx hb dX6_stillOnes_11 rfl (lv_at hl 0 rfl) ?_
        refine lv_iload_n hx hb dX6_stillOnes_12 rfl (lv_at hl 2 rfl) ?_
        refine roV CX hE hP (c_X6_isWall l G cA m pm ty z i (by omega)) (cwV 1 hts gX6_stillOnes_X6_isWall rfl rfl rfl hdv_X6_isWall ⟨Nat.le_of_ble_eq_true rfl, Nat.le_of_ble_eq_true rfl⟩) [0, 1] rfl 0 rfl rfl rfl B0_blind (fun _ _ _ => trivial) rfl hl.1 (rest := [.int mm]) rfl (Nat.le_of_ble_eq_true rfl) dX6_stillOnes_13 ⟨Nat.zero_le _, Nat.zero_le _⟩ ?_
        have J_32 : ∀ v : Int32, v = (if ¬ shf 5 z i = nI 2 ∧ stillP z (shf 65 z) (shf 125 z) i then nI 1 else nI 0) → W p_ l e_ ({ frames := 2, cells := 0, slots := 0, locals := 42 } : Room) s_ m_ ([.ref (m 0)] : List Value).toArray below meth c_ s_.heap [] 0 0 (MQ below (vp_Si (fun r_ => r_ = (stillsF z))) ([.ref (m 0)] : List Value).toArray s_ 0 0 (fun _ => False)) (F0 m_ 32 ls [.int v, .int mm]) := by
          intro v hv
          subst hv
          refine lv_iadd hx hb dX6_stillOnes_32 ?_
          refine lv_istore_n (lv' := [(1, .int (mm + (if ¬ shf 5 z i = nI 2 ∧ stillP z (shf 65 z) (shf 125 z) i then nI 1 else nI 0))), (0, .ref (m 0)), (2, .int (nI i))]) hx hb dX6_stillOnes_33 rfl hl (by decide) rfl (fun ls hl => ?_)
          refine rn_iinc hx hb (n := 1) (lv' := [(2, .int (nI (i + 1))), (1, .int (mm + (if ¬ shf 5 z i = nI 2 ∧ stillP z (shf 65 z) (shf 125 z) i then nI 1 else nI 0))), (0, .ref (m 0))]) rfl dX6_stillOnes_34 hl (k := 2) rfl (by decide) rfl (fun ls hl => ?_)
          refine lv_goto (tgt := 4) hx hb dX6_stillOnes_37 (by decide) ?_
          exact ih_4 (i + 1) (mm + (if ¬ shf 5 z i = nI 2 ∧ stillP z (shf 65 z) (shf 125 z) i then nI 1 else nI 0)) (by omega) (by omega) (by rw [hm]; rfl) ls (lv_sub hl [2, 1, 0] rfl)
        refine rb_if_ne hx hb dX6_stillOnes_16 (by decide) (tgt := 31) (fun c_16 => ?_) (fun c_16 => ?_)
        · refine rn_iconst hx hb 0 rfl dX6_stillOnes_31 ?_
          exact J_32 _ (by first | exact (if_pos ⟨c_16, c_24⟩).symm | exact (if_neg (fun h => c_24 h.2)).symm | exact (if_neg (fun h => h.1 c_16)).symm)
        · refine lv_aload_n hx hb dX6_stillOnes_19 rfl (lv_at hl 0 rfl) ?_
          refine lv_iload_n hx hb dX6_stillOnes_20 rfl (lv_at hl 2 rfl) ?_
          refine roV CX hE hP (c_X6_isStill l G cA m pm ty z i (by omega)) (cwV 1 hts gX6_stillOnes_X6_isStill rfl rfl rfl hdv_X6_isStill ⟨Nat.le_of_ble_eq_true rfl, Nat.le_of_ble_eq_true rfl⟩) [0, 1] rfl 0 rfl rfl rfl B0_blind (fun _ _ _ => trivial) rfl hl.1 (rest := [.int mm]) rfl (Nat.le_of_ble_eq_true rfl) dX6_stillOnes_21 ⟨Nat.zero_le _, Nat.zero_le _⟩ ?_
          refine rb_if_eq hx hb dX6_stillOnes_24 (by decide) (tgt := 31) (fun c_24 => ?_) (fun c_24 => ?_)
          · refine rn_iconst hx hb 0 rfl dX6_stillOnes_31 ?_
            exact J_32 _ (by first | exact (if_pos ⟨c_16, c_24⟩).symm | exact (if_neg (fun h => c_24 h.2)).symm | exact (if_neg (fun h => h.1 c_16)).symm)
          · refine rn_iconst hx hb 1 rfl dX6_stillOnes_27 ?_
            refine lv_goto (tgt := 32) hx hb dX6_stillOnes_28 (by decide) ?_
            exact J_32 _ (by first | exact (if_pos ⟨c_16, c_24⟩).symm | exact (if_neg (fun h => c_24 h.2)).symm | exact (if_neg (fun h => h.1 c_16)).symm)
  exact LP_4 _ 0 (nI 0) (Nat.lt_succ_self _) (by omega) rfl ls (lv_sub hl [2, 1, 0] rfl)
theorem hdn_X6_isCell : yX6_isCell.cls ≠ "java/lang/invoke/MethodHandle" ∧ yX6_isCell.cls ≠ "java/lang/invoke/VarHandle" ∧ (parseMethodDescriptor yX6_isCell.desc).map (fun d => d.parameters.length) = some 2 := by decide +kernel
set_option maxHeartbeats 4000000 in
set_option maxRecDepth 100000 in
theorem c_X6_heightAt (l : Launch) (G : va_G) (cA : Nat → ClassId) (m : Nat → Nat) (pm : Nat) (ty : Nat) (z : Nat → Int32) (x : Int32) (y : Int32)  : RO l yX6_heightAt wsX6_heightAt ({ frames := 2, cells := 0, slots := 0, locals := 43 }) G cA B0 [(m 0, .inr (6, [.ref (m 1), .ref (m 2), .ref (m 3), .ref (m 4), .int (nI pm), .ref (m 5), .ref (m 6), .int (nI ty), .ref (m 7)])), (m 1, .inl (cA 0, 345, .inl z))] [.ref (m 0), .int x, .int y] (heightAtF (shf 65 z) x y) := by
  refine RO.mk (own := RX6) (by decide) rfl rfl (Nat.le_of_ble_eq_true rfl) (fun p_ e_ s_ m_ below meth c_ ls CX hr hlk hP hE hB hl => ?_)
  obtain ⟨hx, hb, hml, hown, hts⟩ := id CX
  have hl : lv_has ls 3 [(0, .ref (m 0)), (1, .int x), (2, .int y)] := hl
  refine lv_iload_n hx hb dX6_heightAt_0 rfl (lv_at hl 1 rfl) ?_
  refine lv_iload_n hx hb dX6_heightAt_1 rfl (lv_at hl 2 rfl) ?_
  refine roS CX hE hP (c_X6_isCell l G cA x y ) (va_cwS 2 hts gX6_heightAt_X6_isCell rfl rfl rfl hdn_X6_isCell ⟨Nat.le_of_ble_eq_true rfl, Nat.le_of_ble_eq_true rfl⟩) [] rfl B0_blind (fun _ _ _ => trivial) rfl hl.1 (rest := []) rfl (Nat.le_of_ble_eq_true rfl) dX6_heightAt_2 ⟨Nat.zero_le _, Nat.zero_le _⟩ ?_
  refine rb_if_eq hx hb dX6_heightAt_5 (by decide) (tgt := 21) (fun c_5 => ?_) (fun c_5 => ?_)
  · refine rn_iconst hx hb 0 rfl dX6_heightAt_21 ?_
    exact ro_ret CX hr hlk (by first | exact (heightAtF_in hkx hky).symm | exact (if_neg c_5).symm) rfl dX6_heightAt_22
  · obtain ⟨kx, ky, hkx, hky, ex, ey⟩ := cellP_nat c_5
    subst ex
    subst ey
    refine lv_aload_n hx hb dX6_heightAt_8 rfl (lv_at hl 0 rfl) ?_
    refine lv_bipush (v := (nI 10)) hx hb dX6_heightAt_9 kb_10 ?_
    refine lv_iload_n hx hb dX6_heightAt_11 rfl (lv_at hl 2 rfl) ?_
    refine rn_imul hx hb dX6_heightAt_12 ?_
    refine lv_iload_n hx hb dX6_heightAt_13 rfl (lv_at hl 1 rfl) ?_
    refine rn_iadd hx hb dX6_heightAt_14 ?_
    refine rn_top (nI (ky * 10 + kx)) (by rw [Nat.mul_comm]) ?_
    refine roV CX hE hP (c_X6_now l G cA m pm ty z (ky * 10 + kx) (by omega)) (cwV 1 hts gX6_heightAt_X6_now rfl rfl rfl hdv_X6_now ⟨Nat.le_of_ble_eq_true rfl, Nat.le_of_ble_eq_true rfl⟩) [0, 1] rfl 0 rfl rfl rfl B0_blind (fun _ _ _ => trivial) rfl hl.1 (rest := []) rfl (Nat.le_of_ble_eq_true rfl) dX6_heightAt_15 ⟨Nat.zero_le _, Nat.zero_le _⟩ ?_
    refine lv_goto (tgt := 22) hx hb dX6_heightAt_18 (by decide) ?_
    exact ro_ret CX hr hlk (by first | exact (heightAtF_in hkx hky).symm | exact (if_neg c_5).symm) rfl dX6_heightAt_22
set_option maxHeartbeats 4000000 in
set_option maxRecDepth 100000 in
theorem c_X6_from (l : Launch) (G : va_G) (cA : Nat → ClassId) (m : Nat → Nat) (pm : Nat) (ty : Nat) (z : Nat → Int32) (c : Nat) (x : Int32) (y : Int32) (hc : c < 60) : RO l yX6_from wsX6_from ({ frames := 2, cells := 0, slots := 0, locals := 43 }) G cA B0 [(m 0, .inr (6, [.ref (m 1), .ref (m 2), .ref (m 3), .ref (m 4), .int (nI pm), .ref (m 5), .ref (m 6), .int (nI ty), .ref (m 7)])), (m 1, .inl (cA 0, 345, .inl z))] [.ref (m 0), .int (nI c), .int x, .int y] (fromF (shf 5 z) (shf 65 z) c x y) := by
  refine RO.mk (own := RX6) (by decide) rfl rfl (Nat.le_of_ble_eq_true rfl) (fun p_ e_ s_ m_ below meth c_ ls CX hr hlk hP hE hB hl => ?_)
  obtain ⟨hx, hb, hml, hown, hts⟩ := id CX
  have hl : lv_has ls 4 [(0, .ref (m 0)), (1, .int (nI c)), (2, .int x), (3, .int y)] := hl
  refine lv_iload_n hx hb dX6_from_0 rfl (lv_at hl 2 rfl) ?_
  refine lv_iload_n hx hb dX6_from_1 rfl (lv_at hl 3 rfl) ?_
  refine roS CX hE hP (c_X6_isCell l G cA x y ) (va_cwS 2 hts gX6_from_X6_isCell rfl rfl rfl hdn_X6_isCell ⟨Nat.le_of_ble_eq_true rfl, Nat.le_of_ble_eq_true rfl⟩) [] rfl B0_blind (fun _ _ _ => trivial) rfl hl.1 (rest := []) rfl (Nat.le_of_ble_eq_true rfl) dX6_from_2 ⟨Nat.zero_le _, Nat.zero_le _⟩ ?_
  refine rb_if_eq hx hb dX6_from_5 (by decide) (tgt := 40) (fun c_5 => ?_) (fun c_5 => ?_)
  · refine rn_iconst hx hb 0 rfl dX6_from_40 ?_
    exact ro_ret CX hr hlk (by first | exact fromF_in hkx hky c_18 | exact fromF_wall hkx hky c_18 | exact fromF_out c_5) rfl dX6_from_41
  · obtain ⟨kx, ky, hkx, hky, ex, ey⟩ := cellP_nat c_5
    subst ex
    subst ey
    refine lv_aload_n hx hb dX6_from_8 rfl (lv_at hl 0 rfl) ?_
    refine lv_bipush (v := (nI 10)) hx hb dX6_from_9 kb_10 ?_
    refine lv_iload_n hx hb dX6_from_11 rfl (lv_at hl 3 rfl) ?_
    refine rn_imul hx hb dX6_from_12 ?_
    refine lv_iload_n hx hb dX6_from_13 rfl (lv_at hl 2 rfl) ?_
    refine rn_iadd hx hb dX6_from_14 ?_
    refine rn_top (nI (ky * 10 + kx)) (by rw [Nat.mul_comm]) ?_
    refine roV CX hE hP (c_X6_isWall l G cA m pm ty z (ky * 10 + kx) (by omega)) (cwV 1 hts gX6_from_X6_isWall rfl rfl rfl hdv_X6_isWall ⟨Nat.le_of_ble_eq_true rfl, Nat.le_of_ble_eq_true rfl⟩) [0, 1] rfl 0 rfl rfl rfl B0_blind (fun _ _ _ => trivial) rfl hl.1 (rest := []) rfl (Nat.le_of_ble_eq_true rfl) dX6_from_15 ⟨Nat.zero_le _, Nat.zero_le _⟩ ?_
    refine rb_if_ne hx hb dX6_from_18 (by decide) (tgt := 40) (fun c_18 => ?_) (fun c_18 => ?_)
    · refine rn_iconst hx hb 0 rfl dX6_from_40 ?_
      exact ro_ret CX hr hlk (by first | exact fromF_in hkx hky c_18 | exact fromF_wall hkx hky c_18 | exact fromF_out c_5) rfl dX6_from_41
    · refine lv_aload_n hx hb dX6_from_21 rfl (lv_at hl 0 rfl) ?_
      refine lv_bipush (v := (nI 10)) hx hb dX6_from_22 kb_10 ?_
      refine lv_iload_n hx hb dX6_from_24 rfl (lv_at hl 3 rfl) ?_
      refine rn_imul hx hb dX6_from_25 ?_
      refine lv_iload_n hx hb dX6_from_26 rfl (lv_at hl 2 rfl) ?_
      refine rn_iadd hx hb dX6_from_27 ?_
      refine rn_top (nI (ky * 10 + kx)) (by rw [Nat.mul_comm]) ?_
      refine roV CX hE hP (c_X6_now l G cA m pm ty z (ky * 10 + kx) (by omega)) (cwV 1 hts gX6_from_X6_now rfl rfl rfl hdv_X6_now ⟨Nat.le_of_ble_eq_true rfl, Nat.le_of_ble_eq_true rfl⟩) [0, 1] rfl 0 rfl rfl rfl B0_blind (fun _ _ _ => trivial) rfl hl.1 (rest := []) rfl (Nat.le_of_ble_eq_true rfl) dX6_from_28 ⟨Nat.zero_le _, Nat.zero_le _⟩ ?_
      refine lv_aload_n hx hb dX6_from_31 rfl (lv_at hl 0 rfl) ?_
      refine lv_iload_n hx hb dX6_from_32 rfl (lv_at hl 1 rfl) ?_
      refine roV CX hE hP (c_X6_now l G cA m pm ty z c (by omega)) (cwV 1 hts gX6_from_X6_now rfl rfl rfl hdv_X6_now ⟨Nat.le_of_ble_eq_true rfl, Nat.le_of_ble_eq_true rfl⟩) [0, 1] rfl 0 rfl rfl rfl B0_blind (fun _ _ _ => trivial) rfl hl.1 (rest := [.int (shf 65 z (ky * 10 + kx))]) rfl (Nat.le_of_ble_eq_true rfl) dX6_from_33 ⟨Nat.zero_le _, Nat.zero_le _⟩ ?_
      refine lv_isub hx hb dX6_from_36 ?_
      refine lv_goto (tgt := 41) hx hb dX6_from_37 (by decide) ?_
      exact ro_ret CX hr hlk (by first | exact fromF_in hkx hky c_18 | exact fromF_wall hkx hky c_18 | exact fromF_out c_5) rfl dX6_from_41
theorem hdv_X6_from : yX6_from.cls = RX6 ∧ yX6_from.cls ≠ "java/lang/invoke/MethodHandle" ∧ yX6_from.cls ≠ "java/lang/invoke/VarHandle" ∧ (parseMethodDescriptor yX6_from.desc).map (fun d => d.parameters.length) = some 3 := by decide +kernel
set_option maxHeartbeats 4000000 in
set_option maxRecDepth 100000 in
theorem c_X6_slope (l : Launch) (G : va_G) (cA : Nat → ClassId) (m : Nat → Nat) (pm : Nat) (ty : Nat) (z : Nat → Int32) (c : Nat) (hc : c < 60) : RO l yX6_slope wsX6_slope ({ frames := 3, cells := 0, slots := 0, locals := 66 }) G cA B0 [(m 0, .inr (6, [.ref (m 1), .ref (m 2), .ref (m 3), .ref (m 4), .int (nI pm), .ref (m 5), .ref (m 6), .int (nI ty), .ref (m 7)])), (m 1, .inl (cA 0, 345, .inl z))] [.ref (m 0), .int (nI c)] (slopeF (shf 5 z) (shf 65 z) c) := by
  refine RO.mk (own := RX6) (by decide) rfl rfl (Nat.le_of_ble_eq_true rfl) (fun p_ e_ s_ m_ below meth c_ ls CX hr hlk hP hE hB hl => ?_)
  obtain ⟨hx, hb, hml, hown, hts⟩ := id CX
  have hl : lv_has ls 4 [(0, .ref (m 0)), (1, .int (nI c))] := hl
  refine lv_iload_n hx hb dX6_slope_0 rfl (lv_at hl 1 rfl) ?_
  refine lv_bipush (v := (nI 10)) hx hb dX6_slope_1 kb_10 ?_
  refine rn_irem hx hb (by omega) (by omega) (by omega) dX6_slope_3 ?_
  refine lv_istore_n (lv' := [(2, .int (nI (c % 10))), (0, .ref (m 0)), (1, .int (nI c))]) hx hb dX6_slope_4 rfl hl (by decide) rfl (fun ls hl => ?_)
  refine lv_iload_n hx hb dX6_slope_5 rfl (lv_at hl 2 rfl) ?_
  refine lv_bipush (v := (nI 10)) hx hb dX6_slope_6 kb_10 ?_
  refine rn_idiv hx hb (by omega) (by omega) (by omega) dX6_slope_8 ?_
  refine lv_istore_n (lv' := [(3, .int (nI (c / 10))), (2, .int (nI (c % 10))), (0, .ref (m 0)), (1, .int (nI c))]) hx hb dX6_slope_9 rfl hl (by decide) rfl (fun ls hl => ?_)
  refine lv_aload_n hx hb dX6_slope_10 rfl (lv_at hl 2 rfl) ?_
  refine lv_iload_n hx hb dX6_slope_11 rfl (lv_at hl 3 rfl) ?_
  refine roV CX hE hP (c_X6_isWall l G cA m pm ty z c (by omega)) (cwV 1 hts gX6_slope_X6_isWall rfl rfl rfl hdv_X6_isWall ⟨Nat.le_of_ble_eq_true rfl, Nat.le_of_ble_eq_true rfl⟩) [0, 1] rfl 0 rfl rfl rfl B0_blind (fun _ _ _ => trivial) rfl hl.1 (rest := []) rfl (Nat.le_of_ble_eq_true rfl) dX6_slope_12 ⟨Nat.zero_le _, Nat.zero_le _⟩ ?_
  refine rb_if_eq hx hb dX6_slope_15 (by decide) (tgt := 22) (fun c_15 => ?_) (fun c_15 => ?_)
  · refine lv_aload_n hx hb dX6_slope_22 rfl (lv_at hl 2 rfl) ?_
    refine lv_iload_n hx hb dX6_slope_23 rfl (lv_at hl 3 rfl) ?_
    refine lv_iload_n hx hb dX6_slope_24 rfl (lv_at hl 1 rfl) ?_
    refine rn_iconst hx hb 1 rfl dX6_slope_25 ?_
    refine lv_isub hx hb dX6_slope_26 ?_
    refine lv_iload_n hx hb dX6_slope_27 rfl (lv_at hl 0 rfl) ?_
    refine roV CX hE hP (c_X6_from l G cA m pm ty z c ((nI (c % 10)) - (nI 1)) (nI (c / 10)) (by omega)) (cwV 3 hts gX6_slope_X6_from rfl rfl rfl hdv_X6_from ⟨Nat.le_of_ble_eq_true rfl, Nat.le_of_ble_eq_true rfl⟩) [0, 1] rfl 0 rfl rfl rfl B0_blind (fun _ _ _ => trivial) rfl hl.1 (rest := []) rfl (Nat.le_of_ble_eq_true rfl) dX6_slope_28 ⟨Nat.zero_le _, Nat.zero_le _⟩ ?_
    refine lv_aload_n hx hb dX6_slope_31 rfl (lv_at hl 2 rfl) ?_
    refine lv_iload_n hx hb dX6_slope_32 rfl (lv_at hl 3 rfl) ?_
    refine lv_iload_n hx hb dX6_slope_33 rfl (lv_at hl 1 rfl) ?_
    refine rn_iconst hx hb 1 rfl dX6_slope_34 ?_
    refine rn_iadd hx hb dX6_slope_35 ?_
    refine lv_iload_n hx hb dX6_slope_36 rfl (lv_at hl 0 rfl) ?_
    refine roV CX hE hP (c_X6_from l G cA m pm ty z c (nI ((c % 10) + 1)) (nI (c / 10)) (by omega)) (cwV 3 hts gX6_slope_X6_from rfl rfl rfl hdv_X6_from ⟨Nat.le_of_ble_eq_true rfl, Nat.le_of_ble_eq_true rfl⟩) [0, 1] rfl 0 rfl rfl rfl B0_blind (fun _ _ _ => trivial) rfl hl.1 (rest := [.int (fromF (shf 5 z) (shf 65 z) c ((nI (c % 10)) - (nI 1)) (nI (c / 10)))]) rfl (Nat.le_of_ble_eq_true rfl) dX6_slope_37 ⟨Nat.zero_le _, Nat.zero_le _⟩ ?_
    refine lv_iadd hx hb dX6_slope_40 ?_
    refine lv_aload_n hx hb dX6_slope_41 rfl (lv_at hl 2 rfl) ?_
    refine lv_iload_n hx hb dX6_slope_42 rfl (lv_at hl 3 rfl) ?_
    refine lv_iload_n hx hb dX6_slope_43 rfl (lv_at hl 1 rfl) ?_
    refine lv_iload_n hx hb dX6_slope_44 rfl (lv_at hl 0 rfl) ?_
    refine rn_iconst hx hb 1 rfl dX6_slope_45 ?_
    refine lv_isub hx hb dX6_slope_46 ?_
    refine roV CX hE hP (c_X6_from l G cA m pm ty z c (nI (c % 10)) ((nI (c / 10)) - (nI 1)) (by omega)) (cwV 3 hts gX6_slope_X6_from rfl rfl rfl hdv_X6_from ⟨Nat.le_of_ble_eq_true rfl, Nat.le_of_ble_eq_true rfl⟩) [0, 1] rfl 0 rfl rfl rfl B0_blind (fun _ _ _ => trivial) rfl hl.1 (rest := [.int ((fromF (shf 5 z) (shf 65 z) c ((nI (c % 10)) - (nI 1)) (nI (c / 10))) + (fromF (shf 5 z) (shf 65 z) c (nI ((c % 10) + 1)) (nI (c / 10))))]) rfl (Nat.le_of_ble_eq_true rfl) dX6_slope_47 ⟨Nat.zero_le _, Nat.zero_le _⟩ ?_
    refine lv_iadd hx hb dX6_slope_50 ?_
    refine lv_aload_n hx hb dX6_slope_51 rfl (lv_at hl 2 rfl) ?_
    refine lv_iload_n hx hb dX6_slope_52 rfl (lv_at hl 3 rfl) ?_
    refine lv_iload_n hx hb dX6_slope_53 rfl (lv_at hl 1 rfl) ?_
    refine lv_iload_n hx hb dX6_slope_54 rfl (lv_at hl 0 rfl) ?_
    refine rn_iconst hx hb 1 rfl dX6_slope_55 ?_
    refine rn_iadd hx hb dX6_slope_56 ?_
    refine roV CX hE hP (c_X6_from l G cA m pm ty z c (nI (c % 10)) (nI ((c / 10) + 1)) (by omega)) (cwV 3 hts gX6_slope_X6_from rfl rfl rfl hdv_X6_from ⟨Nat.le_of_ble_eq_true rfl, Nat.le_of_ble_eq_true rfl⟩) [0, 1] rfl 0 rfl rfl rfl B0_blind (fun _ _ _ => trivial) rfl hl.1 (rest := [.int (((fromF (shf 5 z) (shf 65 z) c ((nI (c % 10)) - (nI 1)) (nI (c / 10))) + (fromF (shf 5 z) (shf 65 z) c (nI ((c % 10) + 1)) (nI (c / 10)))) + (fromF (shf 5 z) (shf 65 z) c (nI (c % 10)) ((nI (c / 10)) - (nI 1))))]) rfl (Nat.le_of_ble_eq_true rfl) dX6_slope_57 ⟨Nat.zero_le _, Nat.zero_le _⟩ ?_
    refine lv_iadd hx hb dX6_slope_60 ?_
    exact ro_ret CX hr hlk (by first | exact (if_pos c_15).symm | exact slopeM_eq hc c_15) rfl dX6_slope_61
  · refine rn_iconst hx hb 0 rfl dX6_slope_18 ?_
    refine lv_goto (tgt := 61) hx hb dX6_slope_19 (by decide) ?_
    exact ro_ret CX hr hlk (by first | exact (if_pos c_15).symm | exact slopeM_eq hc c_15) rfl dX6_slope_61
theorem fl_X6_isUp_7 : Cond.fieldLink RX6 7 RX6 (TX6 0).2.1 (TX6 0).2.2.1 ∈ wsX6_isUp := by decide +kernel
theorem in_X6_isUp_X6 : ∀ w ∈ wsX60, w ∈ wsX6_isUp := by decide +kernel
theorem hdv_X6_ofDipper : yX6_ofDipper.cls = RX6 ∧ yX6_ofDipper.cls ≠ "java/lang/invoke/MethodHandle" ∧ yX6_ofDipper.cls ≠ "java/lang/invoke/VarHandle" ∧ (parseMethodDescriptor yX6_ofDipper.desc).map (fun d => d.parameters.length) = some 2 := by decide +kernel
set_option maxHeartbeats 4000000 in
set_option maxRecDepth 100000 in
theorem c_X6_isUp (l : Launch) (G : va_G) (cA : Nat → ClassId) (m : Nat → Nat) (pm : Nat) (ty : Nat) (z : Nat → Int32) (d : Nat) (hd : d < 5) (hne : ¬ z (246 + 4 * d + 1) = 0) : RO l yX6_isUp wsX6_isUp ({ frames := 1, cells := 0, slots := 0, locals := 22 }) G cA B0 [(m 0, .inr (6, [.ref (m 1), .ref (m 2), .ref (m 3), .ref (m 4), .int (nI pm), .ref (m 5), .ref (m 6), .int (nI ty), .ref (m 7)])), (m 1, .inl (cA 0, 345, .inl z))] [.ref (m 0), .int (nI d)] (b2i (upM z d)) := by
  refine RO.mk (own := RX6) (by decide) rfl rfl (Nat.le_of_ble_eq_true rfl) (fun p_ e_ s_ m_ below meth c_ ls CX hr hlk hP hE hB hl => ?_)
  obtain ⟨hx, hb, hml, hown, hts⟩ := id CX
  have hl : lv_has ls 2 [(0, .ref (m 0)), (1, .int (nI d))] := hl
  refine lv_aload_n hx hb dX6_isUp_0 rfl (lv_at hl 0 rfl) ?_
  refine rg (T := TX6) (N := 9) CX hE hP in_X6_isUp_X6 0 rfl rfl 0 (by decide) fl_X6_isUp_7 rfl rfl dX6_isUp_1 ?_
  refine rn_iconst hx hb 4 rfl dX6_isUp_4 ?_
  refine rn_iald CX hE hP 1 rfl (j := 4) (by omega) (ltb rfl) dX6_isUp_5 ?_
  refine lv_aload_n hx hb dX6_isUp_6 rfl (lv_at hl 0 rfl) ?_
  refine lv_iload_n hx hb dX6_isUp_7 rfl (lv_at hl 1 rfl) ?_
  refine rn_iconst hx hb 3 rfl dX6_isUp_8 ?_
  refine roV CX hE hP (c_X6_ofDipper l G cA m pm ty z d 3 (by omega) (by omega)) (cwV 2 hts gX6_isUp_X6_ofDipper rfl rfl rfl hdv_X6_ofDipper ⟨Nat.le_of_ble_eq_true rfl, Nat.le_of_ble_eq_true rfl⟩) [0, 1] rfl 0 rfl rfl rfl B0_blind (fun _ _ _ => trivial) rfl hl.1 (rest := [.int (z 4)]) rfl (Nat.le_of_ble_eq_true rfl) dX6_isUp_9 ⟨Nat.zero_le _, Nat.zero_le _⟩ ?_
  refine lv_iadd hx hb dX6_isUp_12 ?_
  refine lv_aload_n hx hb dX6_isUp_13 rfl (lv_at hl 0 rfl) ?_
  refine lv_iload_n hx hb dX6_isUp_14 rfl (lv_at hl 1 rfl) ?_
  refine rn_iconst hx hb 1 rfl dX6_isUp_15 ?_
  refine roV CX hE hP (c_X6_ofDipper l G cA m pm ty z d 1 (by omega) (by omega)) (cwV 2 hts gX6_isUp_X6_ofDipper rfl rfl rfl hdv_X6_ofDipper ⟨Nat.le_of_ble_eq_true rfl, Nat.le_of_ble_eq_true rfl⟩) [0, 1] rfl 0 rfl rfl rfl B0_blind (fun _ _ _ => trivial) rfl hl.1 (rest := [.int ((z 4) + (z (246 + 4 * d + 3)))]) rfl (Nat.le_of_ble_eq_true rfl) dX6_isUp_16 ⟨Nat.zero_le _, Nat.zero_le _⟩ ?_
  refine lv_irem hx hb dX6_isUp_19 hne ?_
  refine lv_aload_n hx hb dX6_isUp_20 rfl (lv_at hl 0 rfl) ?_
  refine lv_iload_n hx hb dX6_isUp_21 rfl (lv_at hl 1 rfl) ?_
  refine rn_iconst hx hb 1 rfl dX6_isUp_22 ?_
  refine roV CX hE hP (c_X6_ofDipper l G cA m pm ty z d 1 (by omega) (by omega)) (cwV 2 hts gX6_isUp_X6_ofDipper rfl rfl rfl hdv_X6_ofDipper ⟨Nat.le_of_ble_eq_true rfl, Nat.le_of_ble_eq_true rfl⟩) [0, 1] rfl 0 rfl rfl rfl B0_blind (fun _ _ _ => trivial) rfl hl.1 (rest := [.int (((z 4) + (z (246 + 4 * d + 3))) - ((z 4) + (z (246 + 4 * d + 3))) / (z (246 + 4 * d + 1)) * (z (246 + 4 * d + 1)))]) rfl (Nat.le_of_ble_eq_true rfl) dX6_isUp_23 ⟨Nat.zero_le _, Nat.zero_le _⟩ ?_
  refine rn_iconst hx hb 2 rfl dX6_isUp_26 ?_
  refine lv_idiv hx hb dX6_isUp_27 (by decide +kernel) ?_
  refine lv_icmp_lt hx hb dX6_isUp_28 (by decide) (tgt := 35) (fun c_28 => ?_) (fun c_28 => ?_)
  · refine rn_iconst hx hb 0 rfl dX6_isUp_35 ?_
    exact ro_ret CX hr hlk (by first | exact b2i_t (Int32.not_lt.mp c_28) | exact b2i_f (fun h => absurd c_28 (Int32.not_lt.mpr h))) rfl dX6_isUp_36
  · refine rn_iconst hx hb 1 rfl dX6_isUp_31 ?_
    refine lv_goto (tgt := 36) hx hb dX6_isUp_32 (by decide) ?_
    exact ro_ret CX hr hlk (by first | exact b2i_t (Int32.not_lt.mp c_28) | exact b2i_f (fun h => absurd c_28 (Int32.not_lt.mpr h))) rfl dX6_isUp_36
theorem fl_X6_dipperIn_7 : Cond.fieldLink RX6 7 RX6 (TX6 0).2.1 (TX6 0).2.2.1 ∈ wsX6_dipperIn := by decide +kernel
theorem in_X6_dipperIn_X6 : ∀ w ∈ wsX60, w ∈ wsX6_dipperIn := by decide +kernel
set_option maxHeartbeats 4000000 in
set_option maxRecDepth 100000 in
theorem c_X6_dipperIn (l : Launch) (G : va_G) (cA : Nat → ClassId) (m : Nat → Nat) (pm : Nat) (ty : Nat) (z : Nat → Int32) (nd : Nat) (c : Nat) (hnd : nd ≤ 5) (hz : z 245 = nI nd) : RO l yX6_dipperIn wsX6_dipperIn ({ frames := 1, cells := 0, slots := 0, locals := 22 }) G cA B0 [(m 0, .inr (6, [.ref (m 1), .ref (m 2), .ref (m 3), .ref (m 4), .int (nI pm), .ref (m 5), .ref (m 6), .int (nI ty), .ref (m 7)])), (m 1, .inl (cA 0, 345, .inl z))] [.ref (m 0), .int (nI c)] (dinF z c nd) := by
  refine RO.mk (own := RX6) (by decide) rfl rfl (Nat.le_of_ble_eq_true rfl) (fun p_ e_ s_ m_ below meth c_ ls CX hr hlk hP hE hB hl => ?_)
  obtain ⟨hx, hb, hml, hown, hts⟩ := id CX
  have hl : lv_has ls 4 [(0, .ref (m 0)), (1, .int (nI c))] := hl
  refine lv_bipush (v := (-6)) hx hb dX6_dipperIn_0 kb_m6 ?_
  refine lv_istore_n (lv' := [(2, .int (-6)), (0, .ref (m 0)), (1, .int (nI c))]) hx hb dX6_dipperIn_2 rfl hl (by decide) rfl (fun ls hl => ?_)
  refine rn_iconst hx hb 0 rfl dX6_dipperIn_3 ?_
  refine lv_istore_n (lv' := [(3, .int (nI 0)), (2, .int (-6)), (0, .ref (m 0)), (1, .int (nI c))]) hx hb dX6_dipperIn_4 rfl hl (by decide) rfl (fun ls hl => ?_)
  have LP_5 : ∀ (nn_ : Nat) (i : Nat) (f : Int32), (nd - i) < nn_ → (i ≤ nd) → (f = dinF z c i) → ∀ ls : Array Slot, lv_has ls 4 [(0, .ref (m 0)), (1, .int (nI c)), (2, .int f), (3, .int (nI i))] → W p_ l e_ ({ frames := 1, cells := 0, slots := 0, locals := 22 } : Room) s_ m_ ([.ref (m 0), .int (nI c)] : List Value).toArray below meth c_ s_.heap [] 0 0 (MQ below (vp_Si (fun r_ => r_ = (dinF z c nd))) ([.ref (m 0), .int (nI c)] : List Value).toArray s_ 0 0 (fun _ => False)) (F0 m_ 5 ls []) := by
    intro nn_
    induction nn_ with
    | zero => intro i f hmu; exact absurd hmu (Nat.not_lt_zero _)
    | succ nn_ ih =>
      have ih_5 := ih
      clear ih
      intro i f hmu_5 hi hf ls hl
      refine lv_iload_n hx hb dX6_dipperIn_5 rfl (lv_at hl 3 rfl) ?_
      refine lv_aload_n hx hb dX6_dipperIn_6 rfl (lv_at hl 0 rfl) ?_
      refine rg (T := TX6) (N := 9) CX hE hP in_X6_dipperIn_X6 0 rfl rfl 0 (by decide) fl_X6_dipperIn_7 rfl rfl dX6_dipperIn_7 ?_
      refine lv_sipush (v := (nI 245)) hx hb dX6_dipperIn_10 ks_245 ?_
      refine rn_iald CX hE hP 1 rfl (j := 245) (by omega) (ltb rfl) dX6_dipperIn_13 ?_
      refine rn_top (nI nd) hz ?_
      refine rn_icmp_ge hx hb (by omega) (by omega) dX6_dipperIn_14 (by decide) (tgt := 39) (fun c_14 => ?_) (fun c_14 => ?_)
      · refine lv_iload_n hx hb dX6_dipperIn_39 rfl (lv_at hl 2 rfl) ?_
        exact ro_ret CX hr hlk (by rw [hf, show i = nd by omega]) rfl dX6_dipperIn_40
      · refine lv_aload_n hx hb dX6_dipperIn_17 rfl (lv_at hl 0 rfl) ?_
        refine lv_iload_n hx hb dX6_dipperIn_18 rfl (lv_at hl 3 rfl) ?_
        refine rn_iconst hx hb 0 rfl dX6_dipperIn_19 ?_
        refine roV CX hE hP (c_X6_ofDipper l G cA m pm ty z i 0 (by omega) (by omega)) (cwV 2 hts gX6_dipperIn_X6_ofDipper rfl rfl rfl hdv_X6_ofDipper ⟨Nat.le_of_ble_eq_true rfl, Nat.le_of_ble_eq_true rfl⟩) [0, 1] rfl 0 rfl rfl rfl B0_blind (fun _ _ _ => trivial) rfl hl.1 (rest := []) rfl (Nat.le_of_ble_eq_true rfl) dX6_dipperIn_20 ⟨Nat.zero_le _, Nat.zero_le _⟩ ?_
        refine lv_iload_n hx hb dX6_dipperIn_23 rfl (lv_at hl 1 rfl) ?_
        have J_32 : ∀ v : Int32, v = (if z (246 + 4 * i) = nI c then nI i else f) → W p_ l e_ ({ frames := 1, cells := 0, slots := 0, locals := 22 } : Room) s_ m_ ([.ref (m 0), .int (nI c)] : List Value).toArray below meth c_ s_.heap [] 0 0 (MQ below (vp_Si (fun r_ => r_ = (dinF z c nd))) ([.ref (m 0), .int (nI c)] : List Value).toArray s_ 0 0 (fun _ => False)) (F0 m_ 32 ls [.int v]) := by
          intro v hv
          subst hv
          refine lv_istore_n (lv' := [(2, .int (if z (246 + 4 * i) = nI c then nI i else f)), (0, .ref (m 0)), (1, .int (nI c)), (3, .int (nI i))]) hx hb dX6_dipperIn_32 rfl hl (by decide) rfl (fun ls hl => ?_)
          refine rn_iinc hx hb (n := 1) (lv' := [(3, .int (nI (i + 1))), (2, .int (if z (246 + 4 * i) = nI c then nI i else f)), (0, .ref (m 0)), (1, .int (nI c))]) rfl dX6_dipperIn_33 hl (k := 3) rfl (by decide) rfl (fun ls hl => ?_)
          refine lv_goto (tgt := 5) hx hb dX6_dipperIn_36 (by decide) ?_
          exact ih_5 (i + 1) (if z (246 + 4 * i) = nI c then nI i else f) (by omega) (by omega) (by rw [hf]; rfl) ls (lv_sub hl [2, 3, 1, 0] rfl)
        refine lv_icmp_ne hx hb dX6_dipperIn_24 (by decide) (tgt := 31) (fun c_24 => ?_) (fun c_24 => ?_)
        · refine lv_iload_n hx hb dX6_dipperIn_31 rfl (lv_at hl 2 rfl) ?_
          exact J_32 _ (by first | exact (if_pos c_24).symm | exact (if_neg c_24).symm)
        · refine lv_iload_n hx hb dX6_dipperIn_27 rfl (lv_at hl 3 rfl) ?_
          refine lv_goto (tgt := 32) hx hb dX6_dipperIn_28 (by decide) ?_
          exact J_32 _ (by first | exact (if_pos c_24).symm | exact (if_neg c_24).symm)
  exact LP_5 _ 0 (-6) (Nat.lt_succ_self _) (Nat.zero_le _) rfl ls (lv_sub hl [2, 3, 1, 0] rfl)
theorem fl_X6_seenBy_7 : Cond.fieldLink RX6 7 RX6 (TX6 0).2.1 (TX6 0).2.2.1 ∈ wsX6_seenBy := by decide +kernel
theorem in_X6_seenBy_X6 : ∀ w ∈ wsX60, w ∈ wsX6_seenBy := by decide +kernel
theorem ks_267 : (Int16.ofInt (267)).toInt32 = (nI 267) := by decide +kernel
theorem kb_26 : (Int8.ofInt (26)).toInt32 = (nI 26) := by decide +kernel
set_option maxHeartbeats 4000000 in
set_option maxRecDepth 100000 in
theorem c_X6_seenBy (l : Launch) (G : va_G) (cA : Nat → ClassId) (m : Nat → Nat) (pm : Nat) (ty : Nat) (z : Nat → Int32) (p : Nat) (g : Nat) (hp : p < 3) (hg : g < 24) : RO l yX6_seenBy wsX6_seenBy ({ frames := 0, cells := 0, slots := 0, locals := 0 }) G cA B0 [(m 0, .inr (6, [.ref (m 1), .ref (m 2), .ref (m 3), .ref (m 4), .int (nI pm), .ref (m 5), .ref (m 6), .int (nI ty), .ref (m 7)])), (m 1, .inl (cA 0, 345, .inl z))] [.ref (m 0), .int (nI p), .int (nI g)] (z (267 + 26 * p + 2 + g)) := by
  refine RO.mk (own := RX6) (by decide) rfl rfl (Nat.le_of_ble_eq_true rfl) (fun p_ e_ s_ m_ below meth c_ ls CX hr hlk hP hE hB hl => ?_)
  obtain ⟨hx, hb, hml, hown, hts⟩ := id CX
  have hl : lv_has ls 3 [(0, .ref (m 0)), (1, .int (nI p)), (2, .int (nI g))] := hl
  refine lv_aload_n hx hb dX6_seenBy_0 rfl (lv_at hl 0 rfl) ?_
  refine rg (T := TX6) (N := 9) CX hE hP in_X6_seenBy_X6 0 rfl rfl 0 (by decide) fl_X6_seenBy_7 rfl rfl dX6_seenBy_1 ?_
  refine lv_sipush (v := (nI 267)) hx hb dX6_seenBy_4 ks_267 ?_
  refine lv_bipush (v := (nI 26)) hx hb dX6_seenBy_7 kb_26 ?_
  refine lv_iload_n hx hb dX6_seenBy_9 rfl (lv_at hl 1 rfl) ?_
  refine rn_imul hx hb dX6_seenBy_10 ?_
  refine rn_iadd hx hb dX6_seenBy_11 ?_
  refine rn_iconst hx hb 2 rfl dX6_seenBy_12 ?_
  refine rn_iadd hx hb dX6_seenBy_13 ?_
  refine lv_iload_n hx hb dX6_seenBy_14 rfl (lv_at hl 2 rfl) ?_
  refine rn_iadd hx hb dX6_seenBy_15 ?_
  refine rn_iald CX hE hP 1 rfl (j := (((267 + (26 * p)) + 2) + g)) (by omega) (ltb rfl) dX6_seenBy_16 ?_
  exact ro_ret CX hr hlk rfl rfl dX6_seenBy_17
theorem fl_X6_seenMany_7 : Cond.fieldLink RX6 7 RX6 (TX6 0).2.1 (TX6 0).2.2.1 ∈ wsX6_seenMany := by decide +kernel
theorem in_X6_seenMany_X6 : ∀ w ∈ wsX60, w ∈ wsX6_seenMany := by decide +kernel
set_option maxHeartbeats 4000000 in
set_option maxRecDepth 100000 in
theorem c_X6_seenMany (l : Launch) (G : va_G) (cA : Nat → ClassId) (m : Nat → Nat) (pm : Nat) (ty : Nat) (z : Nat → Int32) (p : Nat) (hp : p < 3) : RO l yX6_seenMany wsX6_seenMany ({ frames := 0, cells := 0, slots := 0, locals := 0 }) G cA B0 [(m 0, .inr (6, [.ref (m 1), .ref (m 2), .ref (m 3), .ref (m 4), .int (nI pm), .ref (m 5), .ref (m 6), .int (nI ty), .ref (m 7)])), (m 1, .inl (cA 0, 345, .inl z))] [.ref (m 0), .int (nI p)] (z (267 + 26 * p + 1)) := by
  refine RO.mk (own := RX6) (by decide) rfl rfl (Nat.le_of_ble_eq_true rfl) (fun p_ e_ s_ m_ below meth c_ ls CX hr hlk hP hE hB hl => ?_)
  obtain ⟨hx, hb, hml, hown, hts⟩ := id CX
  have hl : lv_has ls 2 [(0, .ref (m 0)), (1, .int (nI p))] := hl
  refine lv_aload_n hx hb dX6_seenMany_0 rfl (lv_at hl 0 rfl) ?_
  refine rg (T := TX6) (N := 9) CX hE hP in_X6_seenMany_X6 0 rfl rfl 0 (by decide) fl_X6_seenMany_7 rfl rfl dX6_seenMany_1 ?_
  refine lv_sipush (v := (nI 267)) hx hb dX6_seenMany_4 ks_267 ?_
  refine lv_bipush (v := (nI 26)) hx hb dX6_seenMany_7 kb_26 ?_
  refine lv_iload_n hx hb dX6_seenMany_9 rfl (lv_at hl 1 rfl) ?_
  refine rn_imul hx hb dX6_seenMany_10 ?_
  refine rn_iadd hx hb dX6_seenMany_11 ?_
  refine rn_iconst hx hb 1 rfl dX6_seenMany_12 ?_
  refine rn_iadd hx hb dX6_seenMany_13 ?_
  refine rn_iald CX hE hP 1 rfl (j := ((267 + (26 * p)) + 1)) (by omega) (ltb rfl) dX6_seenMany_14 ?_
  exact ro_ret CX hr hlk rfl rfl dX6_seenMany_15
