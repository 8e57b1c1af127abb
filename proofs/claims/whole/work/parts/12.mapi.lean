theorem hdn_X6_leastOf : yX6_leastOf.cls ≠ "java/lang/invoke/MethodHandle" ∧ yX6_leastOf.cls ≠ "java/lang/invoke/VarHandle" ∧ (parseMethodDescriptor yX6_leastOf.desc).map (fun d => d.parameters.length) = some 1 := by decide +kernel
theorem hdn_X6_mostOf : yX6_mostOf.cls ≠ "java/lang/invoke/MethodHandle" ∧ yX6_mostOf.cls ≠ "java/lang/invoke/VarHandle" ∧ (parseMethodDescriptor yX6_mostOf.desc).map (fun d => d.parameters.length) = some 1 := by decide +kernel
theorem hdv_X6_record : yX6_record.cls = RX6 ∧ yX6_record.cls ≠ "java/lang/invoke/MethodHandle" ∧ yX6_record.cls ≠ "java/lang/invoke/VarHandle" ∧ (parseMethodDescriptor yX6_record.desc).map (fun d => d.parameters.length) = some 0 := by decide +kernel
theorem fl_X6_set_7 : Cond.fieldLink RX6 7 RX6 (TX6 0).2.1 (TX6 0).2.2.1 ∈ wsX6_set := by decide +kernel
theorem in_X6_set_X6 : ∀ w ∈ wsX60, w ∈ wsX6_set := by decide +kernel
set_option maxHeartbeats 4000000 in
set_option maxRecDepth 100000 in
theorem c_X6_set_k (l : Launch) (G : va_G) (cA : Nat → ClassId) (m : Nat → Nat) (pm : Nat) (ty : Nat) (z : Nat → Int32) (pa : Nat → Int32) (k : Nat) (v : Int32) (hpm : pm ≤ 6) (hk : k < 4) (hv : inP v (leastF (nI k)) (mostF (nI k))) : MUi l yX6_set wsX6_set ({ frames := 1, cells := 0, slots := 0, locals := 22 }) G cA BM0 [(m 0, .inr (6, [.ref (m 1), .ref (m 2), .ref (m 3), .ref (m 4), .int (nI pm), .ref (m 5), .ref (m 6), .int (nI ty), .ref (m 7)])), (m 1, .inl (cA 0, 345, .inl z)), (m 2, .inl (cA 0, 2070, .inl pa))] [.ref (m 0), .int (nI k), .int v] [(m 0, .inr (6, [.ref (m 1), .ref (m 2), .ref (m 3), .ref (m 4), .int (nI (rec1 pm + 1)), .ref (m 5), .ref (m 6), .int (nI ty), .ref (m 7)])), (m 1, .inl (cA 0, 345, .inl (upd z k v))), (m 2, .inl (cA 0, 2070, .inl (recP pa z pm)))] (z k) := by
  refine MUi.mk (own := RX6) (by decide) rfl rfl (Nat.le_of_ble_eq_true rfl) (fun p_ e_ s_ m_ below meth c_ ls A_ CX hr hlk hW hA hE hB hl => ?_)
  obtain ⟨hx, hb, hml, hown, hts⟩ := id CX
  have hl : lv_has ls 4 [(0, .ref (m 0)), (1, .int (nI k)), (2, .int v)] := hl
  have hW : wld G A_ [(m 0, .inr (6, [.ref (m 1), .ref (m 2), .ref (m 3), .ref (m 4), .int (nI pm), .ref (m 5), .ref (m 6), .int (nI ty), .ref (m 7)])), (m 1, .inl (cA 0, 345, .inl z)), (m 2, .inl (cA 0, 2070, .inl pa))] s_.heap s_.heap [] := hW
  refine lv_iload_n hx hb dX6_set_0 rfl (lv_at hl 1 rfl) ?_
  refine rn_iconst hx hb 0 rfl dX6_set_1 ?_
  refine rn_iconst hx hb 3 rfl dX6_set_2 ?_
  refine roS CX hE hW.1 (c_X6_in l G cA (nI k) (nI 0) (nI 3) ) (va_cwS 3 hts gX6_set_X6_in rfl rfl rfl hdn_X6_in ⟨Nat.le_of_ble_eq_true rfl, Nat.le_of_ble_eq_true rfl⟩) [] rfl B0_blind (fun _ _ _ => trivial) rfl hl.1 (rest := []) rfl (Nat.le_of_ble_eq_true rfl) dX6_set_3 ⟨Nat.zero_le _, Nat.zero_le _⟩ ?_
  refine rb_if_eq hx hb dX6_set_6 (by decide) (tgt := 24) (fun c_6 => ?_) (fun c_6 => ?_)
  · exact absurd (inP_nI (Nat.zero_le _) (by omega) (by decide)) c_6
  · refine lv_iload_n hx hb dX6_set_9 rfl (lv_at hl 2 rfl) ?_
    refine lv_iload_n hx hb dX6_set_10 rfl (lv_at hl 1 rfl) ?_
    refine roS CX hE hW.1 (c_X6_leastOf l G cA (nI k) ) (va_cwS 1 hts gX6_set_X6_leastOf rfl rfl rfl hdn_X6_leastOf ⟨Nat.le_of_ble_eq_true rfl, Nat.le_of_ble_eq_true rfl⟩) [] rfl B0_blind (fun _ _ _ => trivial) rfl hl.1 (rest := [.int v]) rfl (Nat.le_of_ble_eq_true rfl) dX6_set_11 ⟨Nat.zero_le _, Nat.zero_le _⟩ ?_
    refine lv_iload_n hx hb dX6_set_14 rfl (lv_at hl 1 rfl) ?_
    refine roS CX hE hW.1 (c_X6_mostOf l G cA (nI k) ) (va_cwS 1 hts gX6_set_X6_mostOf rfl rfl rfl hdn_X6_mostOf ⟨Nat.le_of_ble_eq_true rfl, Nat.le_of_ble_eq_true rfl⟩) [] rfl B0_blind (fun _ _ _ => trivial) rfl hl.1 (rest := [.int (leastF (nI k)), .int v]) rfl (Nat.le_of_ble_eq_true rfl) dX6_set_15 ⟨Nat.zero_le _, Nat.zero_le _⟩ ?_
    refine roS CX hE hW.1 (c_X6_in l G cA v (leastF (nI k)) (mostF (nI k)) ) (va_cwS 3 hts gX6_set_X6_in rfl rfl rfl hdn_X6_in ⟨Nat.le_of_ble_eq_true rfl, Nat.le_of_ble_eq_true rfl⟩) [] rfl B0_blind (fun _ _ _ => trivial) rfl hl.1 (rest := []) rfl (Nat.le_of_ble_eq_true rfl) dX6_set_18 ⟨Nat.zero_le _, Nat.zero_le _⟩ ?_
    refine rb_if_ne hx hb dX6_set_21 (by decide) (tgt := 27) (fun c_21 => ?_) (fun c_21 => ?_)
    · refine lv_aload_n hx hb dX6_set_27 rfl (lv_at hl 0 rfl) ?_
      refine muvV (ws' := [(m 0, .inr (6, [.ref (m 1), .ref (m 2), .ref (m 3), .ref (m 4), .int (nI (rec1 pm + 1)), .ref (m 5), .ref (m 6), .int (nI ty), .ref (m 7)])), (m 1, .inl (cA 0, 345, .inl z)), (m 2, .inl (cA 0, 2070, .inl (recP pa z pm)))]) CX hE hW hA (c_X6_record l G cA m pm ty z pa (by omega)) (cwV 0 hts gX6_set_X6_record rfl rfl rfl hdv_X6_record ⟨Nat.le_of_ble_eq_true rfl, Nat.le_of_ble_eq_true rfl⟩) [0, 1, 2] (by decide) rfl rfl rfl 0 rfl rfl rfl BM0_blind (fun _ _ _ _ => trivial) rfl hl.1 (rest := []) rfl (Nat.le_of_ble_eq_true rfl) dX6_set_28 ⟨Nat.zero_le _, Nat.zero_le _⟩ (fun H locs hW => ?_)
      refine lv_aload_n hx hb dX6_set_31 rfl (lv_at hl 0 rfl) ?_
      refine rg (T := TX6) (N := 9) CX hE hW.1 in_X6_set_X6 0 rfl rfl 0 (by decide) fl_X6_set_7 rfl rfl dX6_set_32 ?_
      refine lv_iload_n hx hb dX6_set_35 rfl (lv_at hl 1 rfl) ?_
      refine rn_iald CX hE hW.1 1 rfl (j := k) (by omega) (ltb rfl) dX6_set_36 ?_
      refine lv_istore_n (lv' := [(3, .int (z k)), (0, .ref (m 0)), (1, .int (nI k)), (2, .int v)]) hx hb dX6_set_37 rfl hl (by decide) rfl (fun ls hl => ?_)
      refine lv_aload_n hx hb dX6_set_38 rfl (lv_at hl 1 rfl) ?_
      refine rg (T := TX6) (N := 9) CX hE hW.1 in_X6_set_X6 0 rfl rfl 0 (by decide) fl_X6_set_7 rfl rfl dX6_set_39 ?_
      refine lv_iload_n hx hb dX6_set_42 rfl (lv_at hl 2 rfl) ?_
      refine lv_iload_n hx hb dX6_set_43 rfl (lv_at hl 3 rfl) ?_
      refine rn_iast (ws' := [(m 0, .inr (6, [.ref (m 1), .ref (m 2), .ref (m 3), .ref (m 4), .int (nI (rec1 pm + 1)), .ref (m 5), .ref (m 6), .int (nI ty), .ref (m 7)])), (m 1, .inl (cA 0, 345, .inl (upd z k v))), (m 2, .inl (cA 0, 2070, .inl (recP pa z pm)))]) CX hE hW 1 rfl (j := k) (by omega) (ltb rfl) rfl dX6_set_44 (fun H locs hW => ?_)
      refine lv_iload_n hx hb dX6_set_45 rfl (lv_at hl 0 rfl) ?_
      exact mu_reti CX hr hlk rfl rfl hW dX6_set_46
    · exact absurd hv c_21
theorem kb_m2 : (Int8.ofInt (-2)).toInt32 = (-2) := by decide +kernel
set_option maxHeartbeats 4000000 in
set_option maxRecDepth 100000 in
theorem c_X6_set_e (l : Launch) (G : va_G) (cA : Nat → ClassId) (m : Nat → Nat) (pm : Nat) (ty : Nat) (z : Nat → Int32) (a : Int32) (v : Int32) (hbad : ¬ okSet a v) : RO l yX6_set wsX6_set ({ frames := 1, cells := 0, slots := 0, locals := 22 }) G cA B0 [(m 0, .inr (6, [.ref (m 1), .ref (m 2), .ref (m 3), .ref (m 4), .int (nI pm), .ref (m 5), .ref (m 6), .int (nI ty), .ref (m 7)])), (m 1, .inl (cA 0, 345, .inl z))] [.ref (m 0), .int a, .int v] (-2) := by
  refine RO.mk (own := RX6) (by decide) rfl rfl (Nat.le_of_ble_eq_true rfl) (fun p_ e_ s_ m_ below meth c_ ls CX hr hlk hP hE hB hl => ?_)
  obtain ⟨hx, hb, hml, hown, hts⟩ := id CX
  have hl : lv_has ls 4 [(0, .ref (m 0)), (1, .int a), (2, .int v)] := hl
  refine lv_iload_n hx hb dX6_set_0 rfl (lv_at hl 1 rfl) ?_
  refine rn_iconst hx hb 0 rfl dX6_set_1 ?_
  refine rn_iconst hx hb 3 rfl dX6_set_2 ?_
  refine roS CX hE hP (c_X6_in l G cA a (nI 0) (nI 3) ) (va_cwS 3 hts gX6_set_X6_in rfl rfl rfl hdn_X6_in ⟨Nat.le_of_ble_eq_true rfl, Nat.le_of_ble_eq_true rfl⟩) [] rfl B0_blind (fun _ _ _ => trivial) rfl hl.1 (rest := []) rfl (Nat.le_of_ble_eq_true rfl) dX6_set_3 ⟨Nat.zero_le _, Nat.zero_le _⟩ ?_
  refine rb_if_eq hx hb dX6_set_6 (by decide) (tgt := 24) (fun c_6 => ?_) (fun c_6 => ?_)
  · refine lv_bipush (v := (-2)) hx hb dX6_set_24 kb_m2 ?_
    exact ro_ret CX hr hlk rfl rfl dX6_set_26
  · refine lv_iload_n hx hb dX6_set_9 rfl (lv_at hl 2 rfl) ?_
    refine lv_iload_n hx hb dX6_set_10 rfl (lv_at hl 1 rfl) ?_
    refine roS CX hE hP (c_X6_leastOf l G cA a ) (va_cwS 1 hts gX6_set_X6_leastOf rfl rfl rfl hdn_X6_leastOf ⟨Nat.le_of_ble_eq_true rfl, Nat.le_of_ble_eq_true rfl⟩) [] rfl B0_blind (fun _ _ _ => trivial) rfl hl.1 (rest := [.int v]) rfl (Nat.le_of_ble_eq_true rfl) dX6_set_11 ⟨Nat.zero_le _, Nat.zero_le _⟩ ?_
    refine lv_iload_n hx hb dX6_set_14 rfl (lv_at hl 1 rfl) ?_
    refine roS CX hE hP (c_X6_mostOf l G cA a ) (va_cwS 1 hts gX6_set_X6_mostOf rfl rfl rfl hdn_X6_mostOf ⟨Nat.le_of_ble_eq_true rfl, Nat.le_of_ble_eq_true rfl⟩) [] rfl B0_blind (fun _ _ _ => trivial) rfl hl.1 (rest := [.int (leastF a), .int v]) rfl (Nat.le_of_ble_eq_true rfl) dX6_set_15 ⟨Nat.zero_le _, Nat.zero_le _⟩ ?_
    refine roS CX hE hP (c_X6_in l G cA v (leastF a) (mostF a) ) (va_cwS 3 hts gX6_set_X6_in rfl rfl rfl hdn_X6_in ⟨Nat.le_of_ble_eq_true rfl, Nat.le_of_ble_eq_true rfl⟩) [] rfl B0_blind (fun _ _ _ => trivial) rfl hl.1 (rest := []) rfl (Nat.le_of_ble_eq_true rfl) dX6_set_18 ⟨Nat.zero_le _, Nat.zero_le _⟩ ?_
    refine rb_if_ne hx hb dX6_set_21 (by decide) (tgt := 27) (fun c_21 => ?_) (fun c_21 => ?_)
    · exact absurd ⟨c_6, c_21⟩ hbad
    · refine lv_bipush (v := (-2)) hx hb dX6_set_24 kb_m2 ?_
      exact ro_ret CX hr hlk rfl rfl dX6_set_26
theorem fl_X6_floor_7 : Cond.fieldLink RX6 7 RX6 (TX6 0).2.1 (TX6 0).2.2.1 ∈ wsX6_floor := by decide +kernel
theorem in_X6_floor_X6 : ∀ w ∈ wsX60, w ∈ wsX6_floor := by decide +kernel
set_option maxHeartbeats 4000000 in
set_option maxRecDepth 100000 in
theorem c_X6_floor_k (l : Launch) (G : va_G) (cA : Nat → ClassId) (m : Nat → Nat) (pm : Nat) (ty : Nat) (z : Nat → Int32) (pa : Nat → Int32) (kx : Nat) (ky : Nat) (f : Int32) (nd : Nat) (hpm : pm ≤ 6) (hkx : kx < 10) (hky : ky < 6) (hf : inP f (nI 0) (nI 3)) (hnd : nd ≤ 5) (hz : z 245 = nI nd) (hno : ¬ (f = nI 2 ∧ ¬ dinF z (ky * 10 + kx) nd = -6)) : MUi l yX6_floor wsX6_floor ({ frames := 2, cells := 0, slots := 0, locals := 45 }) G cA BM0 [(m 0, .inr (6, [.ref (m 1), .ref (m 2), .ref (m 3), .ref (m 4), .int (nI pm), .ref (m 5), .ref (m 6), .int (nI ty), .ref (m 7)])), (m 1, .inl (cA 0, 345, .inl z)), (m 2, .inl (cA 0, 2070, .inl pa))] [.ref (m 0), .int (nI kx), .int (nI ky), .int f] [(m 0, .inr (6, [.ref (m 1), .ref (m 2), .ref (m 3), .ref (m 4), .int (nI (rec1 pm + 1)), .ref (m 5), .ref (m 6), .int (nI ty), .ref (m 7)])), (m 1, .inl (cA 0, 345, .inl (flM z (ky * 10 + kx) f))), (m 2, .inl (cA 0, 2070, .inl (recP pa z pm)))] (z (5 + (ky * 10 + kx))) := by
  refine MUi.mk (own := RX6) (by decide) rfl rfl (Nat.le_of_ble_eq_true rfl) (fun p_ e_ s_ m_ below meth c_ ls A_ CX hr hlk hW hA hE hB hl => ?_)
  obtain ⟨hx, hb, hml, hown, hts⟩ := id CX
  have hl : lv_has ls 6 [(0, .ref (m 0)), (1, .int (nI kx)), (2, .int (nI ky)), (3, .int f)] := hl
  have hW : wld G A_ [(m 0, .inr (6, [.ref (m 1), .ref (m 2), .ref (m 3), .ref (m 4), .int (nI pm), .ref (m 5), .ref (m 6), .int (nI ty), .ref (m 7)])), (m 1, .inl (cA 0, 345, .inl z)), (m 2, .inl (cA 0, 2070, .inl pa))] s_.heap s_.heap [] := hW
  refine lv_iload_n hx hb dX6_floor_0 rfl (lv_at hl 1 rfl) ?_
  refine lv_iload_n hx hb dX6_floor_1 rfl (lv_at hl 2 rfl) ?_
  refine roS CX hE hW.1 (c_X6_isCell l G cA (nI kx) (nI ky) ) (va_cwS 2 hts gX6_floor_X6_isCell rfl rfl rfl hdn_X6_isCell ⟨Nat.le_of_ble_eq_true rfl, Nat.le_of_ble_eq_true rfl⟩) [] rfl B0_blind (fun _ _ _ => trivial) rfl hl.1 (rest := []) rfl (Nat.le_of_ble_eq_true rfl) dX6_floor_2 ⟨Nat.zero_le _, Nat.zero_le _⟩ ?_
  refine rb_if_ne hx hb dX6_floor_5 (by decide) (tgt := 10) (fun c_5 => ?_) (fun c_5 => ?_)
  · refine lv_iload_n hx hb dX6_floor_10 rfl (lv_at hl 3 rfl) ?_
    refine rn_iconst hx hb 0 rfl dX6_floor_11 ?_
    refine rn_iconst hx hb 3 rfl dX6_floor_12 ?_
    refine roS CX hE hW.1 (c_X6_in l G cA f (nI 0) (nI 3) ) (va_cwS 3 hts gX6_floor_X6_in rfl rfl rfl hdn_X6_in ⟨Nat.le_of_ble_eq_true rfl, Nat.le_of_ble_eq_true rfl⟩) [] rfl B0_blind (fun _ _ _ => trivial) rfl hl.1 (rest := []) rfl (Nat.le_of_ble_eq_true rfl) dX6_floor_13 ⟨Nat.zero_le _, Nat.zero_le _⟩ ?_
    refine rb_if_ne hx hb dX6_floor_16 (by decide) (tgt := 22) (fun c_16 => ?_) (fun c_16 => ?_)
    · refine lv_bipush (v := (nI 10)) hx hb dX6_floor_22 kb_10 ?_
      refine lv_iload_n hx hb dX6_floor_24 rfl (lv_at hl 2 rfl) ?_
      refine rn_imul hx hb dX6_floor_25 ?_
      refine lv_iload_n hx hb dX6_floor_26 rfl (lv_at hl 1 rfl) ?_
      refine rn_iadd hx hb dX6_floor_27 ?_
      refine rn_top (nI (ky * 10 + kx)) (by rw [Nat.mul_comm]) ?_
      refine lv_istore (lv' := [(4, .int (nI (ky * 10 + kx))), (0, .ref (m 0)), (1, .int (nI kx)), (2, .int (nI ky)), (3, .int f)]) hx hb dX6_floor_28 hl (by decide) rfl (fun ls hl => ?_)
      refine lv_iload_n hx hb dX6_floor_30 rfl (lv_at hl 4 rfl) ?_
      refine rn_iconst hx hb 2 rfl dX6_floor_31 ?_
      refine lv_icmp_ne hx hb dX6_floor_32 (by decide) (tgt := 49) (fun c_32 => ?_) (fun c_32 => ?_)
      · refine lv_aload_n hx hb dX6_floor_49 rfl (lv_at hl 1 rfl) ?_
        refine muvV (ws' := [(m 0, .inr (6, [.ref (m 1), .ref (m 2), .ref (m 3), .ref (m 4), .int (nI (rec1 pm + 1)), .ref (m 5), .ref (m 6), .int (nI ty), .ref (m 7)])), (m 1, .inl (cA 0, 345, .inl z)), (m 2, .inl (cA 0, 2070, .inl (recP pa z pm)))]) CX hE hW hA (c_X6_record l G cA m pm ty z pa (by omega)) (cwV 0 hts gX6_floor_X6_record rfl rfl rfl hdv_X6_record ⟨Nat.le_of_ble_eq_true rfl, Nat.le_of_ble_eq_true rfl⟩) [0, 1, 2] (by decide) rfl rfl rfl 0 rfl rfl rfl BM0_blind (fun _ _ _ _ => trivial) rfl hl.1 (rest := []) rfl (Nat.le_of_ble_eq_true rfl) dX6_floor_50 ⟨Nat.zero_le _, Nat.zero_le _⟩ (fun H locs hW => ?_)
        refine lv_aload_n hx hb dX6_floor_53 rfl (lv_at hl 1 rfl) ?_
        refine rg (T := TX6) (N := 9) CX hE hW.1 in_X6_floor_X6 0 rfl rfl 0 (by decide) fl_X6_floor_7 rfl rfl dX6_floor_54 ?_
        refine rn_iconst hx hb 5 rfl dX6_floor_57 ?_
        refine lv_iload hx hb dX6_floor_58 (lv_at hl 0 rfl) ?_
        refine rn_iadd hx hb dX6_floor_60 ?_
        refine rn_iald CX hE hW.1 1 rfl (j := (5 + (ky * 10 + kx))) (by omega) (ltb rfl) dX6_floor_61 ?_
        refine lv_istore (lv' := [(5, .int (z (5 + (ky * 10 + kx)))), (4, .int (nI (ky * 10 + kx))), (0, .ref (m 0)), (1, .int (nI kx)), (2, .int (nI ky)), (3, .int f)]) hx hb dX6_floor_62 hl (by decide) rfl (fun ls hl => ?_)
        refine lv_aload_n hx hb dX6_floor_64 rfl (lv_at hl 2 rfl) ?_
        refine rg (T := TX6) (N := 9) CX hE hW.1 in_X6_floor_X6 0 rfl rfl 0 (by decide) fl_X6_floor_7 rfl rfl dX6_floor_65 ?_
        refine rn_iconst hx hb 5 rfl dX6_floor_68 ?_
        refine lv_iload hx hb dX6_floor_69 (lv_at hl 1 rfl) ?_
        refine rn_iadd hx hb dX6_floor_71 ?_
        refine lv_iload_n hx hb dX6_floor_72 rfl (lv_at hl 5 rfl) ?_
        refine rn_iast (ws' := [(m 0, .inr (6, [.ref (m 1), .ref (m 2), .ref (m 3), .ref (m 4), .int (nI (rec1 pm + 1)), .ref (m 5), .ref (m 6), .int (nI ty), .ref (m 7)])), (m 1, .inl (cA 0, 345, .inl (upd z (5 + (ky * 10 + kx)) f))), (m 2, .inl (cA 0, 2070, .inl (recP pa z pm)))]) CX hE hW 1 rfl (j := (5 + (ky * 10 + kx))) (by omega) (ltb rfl) rfl dX6_floor_73 (fun H locs hW => ?_)
        refine lv_iload_n hx hb dX6_floor_74 rfl (lv_at hl 5 rfl) ?_
        refine rn_iconst hx hb 2 rfl dX6_floor_75 ?_
        refine lv_icmp_ne hx hb dX6_floor_76 (by decide) (tgt := 101) (fun c_76 => ?_) (fun c_76 => ?_)
        · refine lv_iload hx hb dX6_floor_101 (lv_at hl 0 rfl) ?_
          have hW := hW.ext (ws' := [(m 0, .inr (6, [.ref (m 1), .ref (m 2), .ref (m 3), .ref (m 4), .int (nI (rec1 pm + 1)), .ref (m 5), .ref (m 6), .int (nI ty), .ref (m 7)])), (m 1, .inl (cA 0, 345, .inl (flM z (ky * 10 + kx) f))), (m 2, .inl (cA 0, 2070, .inl (recP pa z pm)))]) 1 (g := (flM z (ky * 10 + kx) f)) rfl (fun _ _ => by unfold flM; first | rw [if_pos c_76] | rw [if_neg c_76]) rfl
          exact mu_reti CX hr hlk rfl rfl hW dX6_floor_103
        · refine lv_aload_n hx hb dX6_floor_79 rfl (lv_at hl 2 rfl) ?_
          refine rg (T := TX6) (N := 9) CX hE hW.1 in_X6_floor_X6 0 rfl rfl 0 (by decide) fl_X6_floor_7 rfl rfl dX6_floor_80 ?_
          refine lv_bipush (v := (nI 65)) hx hb dX6_floor_83 kb_65 ?_
          refine lv_iload hx hb dX6_floor_85 (lv_at hl 1 rfl) ?_
          refine rn_iadd hx hb dX6_floor_87 ?_
          refine rn_iconst hx hb 0 rfl dX6_floor_88 ?_
          refine rn_iast (ws' := [(m 0, .inr (6, [.ref (m 1), .ref (m 2), .ref (m 3), .ref (m 4), .int (nI (rec1 pm + 1)), .ref (m 5), .ref (m 6), .int (nI ty), .ref (m 7)])), (m 1, .inl (cA 0, 345, .inl (upd (upd z (5 + (ky * 10 + kx)) f) (65 + (ky * 10 + kx)) (nI 0)))), (m 2, .inl (cA 0, 2070, .inl (recP pa z pm)))]) CX hE hW 1 rfl (j := (65 + (ky * 10 + kx))) (by omega) (ltb rfl) rfl dX6_floor_89 (fun H locs hW => ?_)
          refine lv_aload_n hx hb dX6_floor_90 rfl (lv_at hl 2 rfl) ?_
          refine rg (T := TX6) (N := 9) CX hE hW.1 in_X6_floor_X6 0 rfl rfl 0 (by decide) fl_X6_floor_7 rfl rfl dX6_floor_91 ?_
          refine lv_bipush (v := (nI 125)) hx hb dX6_floor_94 kb_125 ?_
          refine lv_iload hx hb dX6_floor_96 (lv_at hl 1 rfl) ?_
          refine rn_iadd hx hb dX6_floor_98 ?_
          refine rn_iconst hx hb 0 rfl dX6_floor_99 ?_
          refine rn_iast (ws' := [(m 0, .inr (6, [.ref (m 1), .ref (m 2), .ref (m 3), .ref (m 4), .int (nI (rec1 pm + 1)), .ref (m 5), .ref (m 6), .int (nI ty), .ref (m 7)])), (m 1, .inl (cA 0, 345, .inl (upd (upd (upd z (5 + (ky * 10 + kx)) f) (65 + (ky * 10 + kx)) (nI 0)) (125 + (ky * 10 + kx)) (nI 0)))), (m 2, .inl (cA 0, 2070, .inl (recP pa z pm)))]) CX hE hW 1 rfl (j := (125 + (ky * 10 + kx))) (by omega) (ltb rfl) rfl dX6_floor_100 (fun H locs hW => ?_)
          refine lv_iload hx hb dX6_floor_101 (lv_at hl 0 rfl) ?_
          have hW := hW.ext (ws' := [(m 0, .inr (6, [.ref (m 1), .ref (m 2), .ref (m 3), .ref (m 4), .int (nI (rec1 pm + 1)), .ref (m 5), .ref (m 6), .int (nI ty), .ref (m 7)])), (m 1, .inl (cA 0, 345, .inl (flM z (ky * 10 + kx) f))), (m 2, .inl (cA 0, 2070, .inl (recP pa z pm)))]) 1 (g := (flM z (ky * 10 + kx) f)) rfl (fun _ _ => by unfold flM; first | rw [if_pos c_76] | rw [if_neg c_76]) rfl
          exact mu_reti CX hr hlk rfl rfl hW dX6_floor_103
      · refine lv_aload_n hx hb dX6_floor_35 rfl (lv_at hl 1 rfl) ?_
        refine lv_iload hx hb dX6_floor_36 (lv_at hl 0 rfl) ?_
        refine roV CX hE hW.1 (c_X6_dipperIn l G cA m pm ty z nd (ky * 10 + kx) (by omega) (by assumption)) (cwV 1 hts gX6_floor_X6_dipperIn rfl rfl rfl hdv_X6_dipperIn ⟨Nat.le_of_ble_eq_true rfl, Nat.le_of_ble_eq_true rfl⟩) [0, 1] rfl 0 rfl rfl rfl B0_blind (fun _ _ _ => trivial) rfl hl.1 (rest := []) rfl (Nat.le_of_ble_eq_true rfl) dX6_floor_38 ⟨Nat.zero_le _, Nat.zero_le _⟩ ?_
        refine lv_bipush (v := (-6)) hx hb dX6_floor_41 kb_m6 ?_
        refine lv_icmp_eq hx hb dX6_floor_43 (by decide) (tgt := 49) (fun c_43 => ?_) (fun c_43 => ?_)
        · refine lv_aload_n hx hb dX6_floor_49 rfl (lv_at hl 1 rfl) ?_
          refine muvV (ws' := [(m 0, .inr (6, [.ref (m 1), .ref (m 2), .ref (m 3), .ref (m 4), .int (nI (rec1 pm + 1)), .ref (m 5), .ref (m 6), .int (nI ty), .ref (m 7)])), (m 1, .inl (cA 0, 345, .inl z)), (m 2, .inl (cA 0, 2070, .inl (recP pa z pm)))]) CX hE hW hA (c_X6_record l G cA m pm ty z pa (by omega)) (cwV 0 hts gX6_floor_X6_record rfl rfl rfl hdv_X6_record ⟨Nat.le_of_ble_eq_true rfl, Nat.le_of_ble_eq_true rfl⟩) [0, 1, 2] (by decide) rfl rfl rfl 0 rfl rfl rfl BM0_blind (fun _ _ _ _ => trivial) rfl hl.1 (rest := []) rfl (Nat.le_of_ble_eq_true rfl) dX6_floor_50 ⟨Nat.zero_le _, Nat.zero_le _⟩ (fun H locs hW => ?_)
          refine lv_aload_n hx hb dX6_floor_53 rfl (lv_at hl 1 rfl) ?_
          refine rg (T := TX6) (N := 9) CX hE hW.1 in_X6_floor_X6 0 rfl rfl 0 (by decide) fl_X6_floor_7 rfl rfl dX6_floor_54 ?_
          refine rn_iconst hx hb 5 rfl dX6_floor_57 ?_
          refine lv_iload hx hb dX6_floor_58 (lv_at hl 0 rfl) ?_
          refine rn_iadd hx hb dX6_floor_60 ?_
          refine rn_iald CX hE hW.1 1 rfl (j := (5 + (ky * 10 + kx))) (by omega) (ltb rfl) dX6_floor_61 ?_
          refine lv_istore (lv' := [(5, .int (z (5 + (ky * 10 + kx)))), (4, .int (nI (ky * 10 + kx))), (0, .ref (m 0)), (1, .int (nI kx)), (2, .int (nI ky)), (3, .int f)]) hx hb dX6_floor_62 hl (by decide) rfl (fun ls hl => ?_)
          refine lv_aload_n hx hb dX6_floor_64 rfl (lv_at hl 2 rfl) ?_
          refine rg (T := TX6) (N := 9) CX hE hW.1 in_X6_floor_X6 0 rfl rfl 0 (by decide) fl_X6_floor_7 rfl rfl dX6_floor_65 ?_
          refine rn_iconst hx hb 5 rfl dX6_floor_68 ?_
          refine lv_iload hx hb dX6_floor_69 (lv_at hl 1 rfl) ?_
          refine rn_iadd hx hb dX6_floor_71 ?_
          refine lv_iload_n hx hb dX6_floor_72 rfl (lv_at hl 5 rfl) ?_
          refine rn_iast (ws' := [(m 0, .inr (6, [.ref (m 1), .ref (m 2), .ref (m 3), .ref (m 4), .int (nI (rec1 pm + 1)), .ref (m 5), .ref (m 6), .int (nI ty), .ref (m 7)])), (m 1, .inl (cA 0, 345, .inl (upd z (5 + (ky * 10 + kx)) f))), (m 2, .inl (cA 0, 2070, .inl (recP pa z pm)))]) CX hE hW 1 rfl (j := (5 + (ky * 10 + kx))) (by omega) (ltb rfl) rfl dX6_floor_73 (fun H locs hW => ?_)
          refine lv_iload_n hx hb dX6_floor_74 rfl (lv_at hl 5 rfl) ?_
          refine rn_iconst hx hb 2 rfl dX6_floor_75 ?_
          refine lv_icmp_ne hx hb dX6_floor_76 (by decide) (tgt := 101) (fun c_76 => ?_) (fun c_76 => ?_)
          · refine lv_iload hx hb dX6_floor_101 (lv_at hl 0 rfl) ?_
            have hW := hW.ext (ws' := [(m 0, .inr (6, [.ref (m 1), .ref (m 2), .ref (m 3), .ref (m 4), .int (nI (rec1 pm + 1)), .ref (m 5), .ref (m 6), .int (nI ty), .ref (m 7)])), (m 1, .inl (cA 0, 345, .inl (flM z (ky * 10 + kx) f))), (m 2, .inl (cA 0, 2070, .inl (recP pa z pm)))]) 1 (g := (flM z (ky * 10 + kx) f)) rfl (fun _ _ => by unfold flM; first | rw [if_pos c_76] | rw [if_neg c_76]) rfl
            exact mu_reti CX hr hlk rfl rfl hW dX6_floor_103
          · refine lv_aload_n hx hb dX6_floor_79 rfl (lv_at hl 2 rfl) ?_
            refine rg (T := TX6) (N := 9) CX hE hW.1 in_X6_floor_X6 0 rfl rfl 0 (by decide) fl_X6_floor_7 rfl rfl dX6_floor_80 ?_
            refine lv_bipush (v := (nI 65)) hx hb dX6_floor_83 kb_65 ?_
            refine lv_iload hx hb dX6_floor_85 (lv_at hl 1 rfl) ?_
            refine rn_iadd hx hb dX6_floor_87 ?_
            refine rn_iconst hx hb 0 rfl dX6_floor_88 ?_
            refine rn_iast (ws' := [(m 0, .inr (6, [.ref (m 1), .ref (m 2), .ref (m 3), .ref (m 4), .int (nI (rec1 pm + 1)), .ref (m 5), .ref (m 6), .int (nI ty), .ref (m 7)])), (m 1, .inl (cA 0, 345, .inl (upd (upd z (5 + (ky * 10 + kx)) f) (65 + (ky * 10 + kx)) (nI 0)))), (m 2, .inl (cA 0, 2070, .inl (recP pa z pm)))]) CX hE hW 1 rfl (j := (65 + (ky * 10 + kx))) (by omega) (ltb rfl) rfl dX6_floor_89 (fun H locs hW => ?_)
            refine lv_aload_n hx hb dX6_floor_90 rfl (lv_at hl 2 rfl) ?_
            refine rg (T := TX6) (N := 9) CX hE hW.1 in_X6_floor_X6 0 rfl rfl 0 (by decide) fl_X6_floor_7 rfl rfl dX6_floor_91 ?_
            refine lv_bipush (v := (nI 125)) hx hb dX6_floor_94 kb_125 ?_
            refine lv_iload hx hb dX6_floor_96 (lv_at hl 1 rfl) ?_
            refine rn_iadd hx hb dX6_floor_98 ?_
            refine rn_iconst hx hb 0 rfl dX6_floor_99 ?_
            refine rn_iast (ws' := [(m 0, .inr (6, [.ref (m 1), .ref (m 2), .ref (m 3), .ref (m 4), .int (nI (rec1 pm + 1)), .ref (m 5), .ref (m 6), .int (nI ty), .ref (m 7)])), (m 1, .inl (cA 0, 345, .inl (upd (upd (upd z (5 + (ky * 10 + kx)) f) (65 + (ky * 10 + kx)) (nI 0)) (125 + (ky * 10 + kx)) (nI 0)))), (m 2, .inl (cA 0, 2070, .inl (recP pa z pm)))]) CX hE hW 1 rfl (j := (125 + (ky * 10 + kx))) (by omega) (ltb rfl) rfl dX6_floor_100 (fun H locs hW => ?_)
            refine lv_iload hx hb dX6_floor_101 (lv_at hl 0 rfl) ?_
            have hW := hW.ext (ws' := [(m 0, .inr (6, [.ref (m 1), .ref (m 2), .ref (m 3), .ref (m 4), .int (nI (rec1 pm + 1)), .ref (m 5), .ref (m 6), .int (nI ty), .ref (m 7)])), (m 1, .inl (cA 0, 345, .inl (flM z (ky * 10 + kx) f))), (m 2, .inl (cA 0, 2070, .inl (recP pa z pm)))]) 1 (g := (flM z (ky * 10 + kx) f)) rfl (fun _ _ => by unfold flM; first | rw [if_pos c_76] | rw [if_neg c_76]) rfl
            exact mu_reti CX hr hlk rfl rfl hW dX6_floor_103
        · exact absurd ⟨c_32, c_43⟩ hno
    · exact absurd hf c_16
  · exact absurd (cellP_of hkx hky) c_5
theorem kb_m5 : (Int8.ofInt (-5)).toInt32 = (-5) := by decide +kernel
set_option maxHeartbeats 4000000 in
set_option maxRecDepth 100000 in
theorem c_X6_floor_e (l : Launch) (G : va_G) (cA : Nat → ClassId) (m : Nat → Nat) (pm : Nat) (ty : Nat) (z : Nat → Int32) (x : Int32) (y : Int32) (f : Int32) (nd : Nat) (hnd : nd ≤ 5) (hz : z 245 = nI nd) (hbad : ∀ i j, i < 10 → j < 6 → x = nI i → y = nI j → inP f (nI 0) (nI 3) → f = nI 2 ∧ ¬ dinF z (j * 10 + i) nd = -6) : RO l yX6_floor wsX6_floor ({ frames := 2, cells := 0, slots := 0, locals := 45 }) G cA B0 [(m 0, .inr (6, [.ref (m 1), .ref (m 2), .ref (m 3), .ref (m 4), .int (nI pm), .ref (m 5), .ref (m 6), .int (nI ty), .ref (m 7)])), (m 1, .inl (cA 0, 345, .inl z))] [.ref (m 0), .int x, .int y, .int f] (flE x y f) := by
  refine RO.mk (own := RX6) (by decide) rfl rfl (Nat.le_of_ble_eq_true rfl) (fun p_ e_ s_ m_ below meth c_ ls CX hr hlk hP hE hB hl => ?_)
  obtain ⟨hx, hb, hml, hown, hts⟩ := id CX
  have hl : lv_has ls 6 [(0, .ref (m 0)), (1, .int x), (2, .int y), (3, .int f)] := hl
  refine lv_iload_n hx hb dX6_floor_0 rfl (lv_at hl 1 rfl) ?_
  refine lv_iload_n hx hb dX6_floor_1 rfl (lv_at hl 2 rfl) ?_
  refine roS CX hE hP (c_X6_isCell l G cA x y ) (va_cwS 2 hts gX6_floor_X6_isCell rfl rfl rfl hdn_X6_isCell ⟨Nat.le_of_ble_eq_true rfl, Nat.le_of_ble_eq_true rfl⟩) [] rfl B0_blind (fun _ _ _ => trivial) rfl hl.1 (rest := []) rfl (Nat.le_of_ble_eq_true rfl) dX6_floor_2 ⟨Nat.zero_le _, Nat.zero_le _⟩ ?_
  refine rb_if_ne hx hb dX6_floor_5 (by decide) (tgt := 10) (fun c_5 => ?_) (fun c_5 => ?_)
  · obtain ⟨kx, ky, hkx, hky, ex, ey⟩ := cellP_nat c_5
    subst ex
    subst ey
    refine lv_iload_n hx hb dX6_floor_10 rfl (lv_at hl 3 rfl) ?_
    refine rn_iconst hx hb 0 rfl dX6_floor_11 ?_
    refine rn_iconst hx hb 3 rfl dX6_floor_12 ?_
    refine roS CX hE hP (c_X6_in l G cA f (nI 0) (nI 3) ) (va_cwS 3 hts gX6_floor_X6_in rfl rfl rfl hdn_X6_in ⟨Nat.le_of_ble_eq_true rfl, Nat.le_of_ble_eq_true rfl⟩) [] rfl B0_blind (fun _ _ _ => trivial) rfl hl.1 (rest := []) rfl (Nat.le_of_ble_eq_true rfl) dX6_floor_13 ⟨Nat.zero_le _, Nat.zero_le _⟩ ?_
    refine rb_if_ne hx hb dX6_floor_16 (by decide) (tgt := 22) (fun c_16 => ?_) (fun c_16 => ?_)
    · refine lv_bipush (v := (nI 10)) hx hb dX6_floor_22 kb_10 ?_
      refine lv_iload_n hx hb dX6_floor_24 rfl (lv_at hl 2 rfl) ?_
      refine rn_imul hx hb dX6_floor_25 ?_
      refine lv_iload_n hx hb dX6_floor_26 rfl (lv_at hl 1 rfl) ?_
      refine rn_iadd hx hb dX6_floor_27 ?_
      refine rn_top (nI (ky * 10 + kx)) (by rw [Nat.mul_comm]) ?_
      refine lv_istore (lv' := [(4, .int (nI (ky * 10 + kx))), (0, .ref (m 0)), (1, .int (nI kx)), (2, .int (nI ky)), (3, .int f)]) hx hb dX6_floor_28 hl (by decide) rfl (fun ls hl => ?_)
      refine lv_iload_n hx hb dX6_floor_30 rfl (lv_at hl 4 rfl) ?_
      refine rn_iconst hx hb 2 rfl dX6_floor_31 ?_
      refine lv_icmp_ne hx hb dX6_floor_32 (by decide) (tgt := 49) (fun c_32 => ?_) (fun c_32 => ?_)
      · exact absurd (hbad kx ky hkx hky rfl rfl c_16).1 c_32
      · refine lv_aload_n hx hb dX6_floor_35 rfl (lv_at hl 1 rfl) ?_
        refine lv_iload hx hb dX6_floor_36 (lv_at hl 0 rfl) ?_
        refine roV CX hE hP (c_X6_dipperIn l G cA m pm ty z nd (ky * 10 + kx) (by omega) (by assumption)) (cwV 1 hts gX6_floor_X6_dipperIn rfl rfl rfl hdv_X6_dipperIn ⟨Nat.le_of_ble_eq_true rfl, Nat.le_of_ble_eq_true rfl⟩) [0, 1] rfl 0 rfl rfl rfl B0_blind (fun _ _ _ => trivial) rfl hl.1 (rest := []) rfl (Nat.le_of_ble_eq_true rfl) dX6_floor_38 ⟨Nat.zero_le _, Nat.zero_le _⟩ ?_
        refine lv_bipush (v := (-6)) hx hb dX6_floor_41 kb_m6 ?_
        refine lv_icmp_eq hx hb dX6_floor_43 (by decide) (tgt := 49) (fun c_43 => ?_) (fun c_43 => ?_)
        · exact absurd c_43 (hbad kx ky hkx hky rfl rfl c_16).2
        · refine lv_bipush (v := (-5)) hx hb dX6_floor_46 kb_m5 ?_
          exact ro_ret CX hr hlk (flE3 (cellP_of hkx hky) c_16) rfl dX6_floor_48
    · refine lv_bipush (v := (-2)) hx hb dX6_floor_19 kb_m2 ?_
      exact ro_ret CX hr hlk (flE2 (cellP_of hkx hky) c_16) rfl dX6_floor_21
  · refine lv_iconst (v := (-1)) hx hb dX6_floor_8 (by decide) ?_
    exact ro_ret CX hr hlk (flE1 c_5) rfl dX6_floor_9
theorem hdv_X6_allSizes : yX6_allSizes.cls = RX6 ∧ yX6_allSizes.cls ≠ "java/lang/invoke/MethodHandle" ∧ yX6_allSizes.cls ≠ "java/lang/invoke/VarHandle" ∧ (parseMethodDescriptor yX6_allSizes.desc).map (fun d => d.parameters.length) = some 0 := by decide +kernel
theorem hdv_X6_calm : yX6_calm.cls = RX6 ∧ yX6_calm.cls ≠ "java/lang/invoke/MethodHandle" ∧ yX6_calm.cls ≠ "java/lang/invoke/VarHandle" ∧ (parseMethodDescriptor yX6_calm.desc).map (fun d => d.parameters.length) = some 0 := by decide +kernel
theorem fl_X6_clear_7 : Cond.fieldLink RX6 7 RX6 (TX6 0).2.1 (TX6 0).2.2.1 ∈ wsX6_clear := by decide +kernel
theorem in_X6_clear_X6 : ∀ w ∈ wsX60, w ∈ wsX6_clear := by decide +kernel
set_option maxHeartbeats 4000000 in
set_option maxRecDepth 100000 in
theorem c_X6_clear (l : Launch) (G : va_G) (cA : Nat → ClassId) (m : Nat → Nat) (pm : Nat) (ty : Nat) (z : Nat → Int32) (pa : Nat → Int32) (np : Nat) (hpm : pm ≤ 6) (hnp : np ≤ 3) (hz2 : z 266 = nI np) : MUi l yX6_clear wsX6_clear ({ frames := 2, cells := 0, slots := 0, locals := 43 }) G cA BM0 [(m 0, .inr (6, [.ref (m 1), .ref (m 2), .ref (m 3), .ref (m 4), .int (nI pm), .ref (m 5), .ref (m 6), .int (nI ty), .ref (m 7)])), (m 1, .inl (cA 0, 345, .inl z)), (m 2, .inl (cA 0, 2070, .inl pa))] [.ref (m 0)] [(m 0, .inr (6, [.ref (m 1), .ref (m 2), .ref (m 3), .ref (m 4), .int (nI (rec1 pm + 1)), .ref (m 5), .ref (m 6), .int (nI ty), .ref (m 7)])), (m 1, .inl (cA 0, 345, .inl (clrsM (calmM z) np))), (m 2, .inl (cA 0, 2070, .inl (recP pa z pm)))] (loudF (shf 65 z)) := by
  refine MUi.mk (own := RX6) (by decide) rfl rfl (Nat.le_of_ble_eq_true rfl) (fun p_ e_ s_ m_ below meth c_ ls A_ CX hr hlk hW hA hE hB hl => ?_)
  obtain ⟨hx, hb, hml, hown, hts⟩ := id CX
  have hl : lv_has ls 4 [(0, .ref (m 0))] := hl
  have hW : wld G A_ [(m 0, .inr (6, [.ref (m 1), .ref (m 2), .ref (m 3), .ref (m 4), .int (nI pm), .ref (m 5), .ref (m 6), .int (nI ty), .ref (m 7)])), (m 1, .inl (cA 0, 345, .inl z)), (m 2, .inl (cA 0, 2070, .inl pa))] s_.heap s_.heap [] := hW
  refine lv_aload_n hx hb dX6_clear_0 rfl (lv_at hl 0 rfl) ?_
  refine muvV (ws' := [(m 0, .inr (6, [.ref (m 1), .ref (m 2), .ref (m 3), .ref (m 4), .int (nI (rec1 pm + 1)), .ref (m 5), .ref (m 6), .int (nI ty), .ref (m 7)])), (m 1, .inl (cA 0, 345, .inl z)), (m 2, .inl (cA 0, 2070, .inl (recP pa z pm)))]) CX hE hW hA (c_X6_record l G cA m pm ty z pa (by omega)) (cwV 0 hts gX6_clear_X6_record rfl rfl rfl hdv_X6_record ⟨Nat.le_of_ble_eq_true rfl, Nat.le_of_ble_eq_true rfl⟩) [0, 1, 2] (by decide) rfl rfl rfl 0 rfl rfl rfl BM0_blind (fun _ _ _ _ => trivial) rfl hl.1 (rest := []) rfl (Nat.le_of_ble_eq_true rfl) dX6_clear_1 ⟨Nat.zero_le _, Nat.zero_le _⟩ (fun H locs hW => ?_)
  refine lv_aload_n hx hb dX6_clear_4 rfl (lv_at hl 0 rfl) ?_
  refine roV CX hE hW.1 (c_X6_allSizes l G cA m (rec1 pm + 1) ty z ) (cwV 0 hts gX6_clear_X6_allSizes rfl rfl rfl hdv_X6_allSizes ⟨Nat.le_of_ble_eq_true rfl, Nat.le_of_ble_eq_true rfl⟩) [0, 1] rfl 0 rfl rfl rfl B0_blind (fun _ _ _ => trivial) rfl hl.1 (rest := []) rfl (Nat.le_of_ble_eq_true rfl) dX6_clear_5 ⟨Nat.zero_le _, Nat.zero_le _⟩ ?_
  refine lv_istore_n (lv' := [(1, .int (loudF (shf 65 z))), (0, .ref (m 0))]) hx hb dX6_clear_8 rfl hl (by decide) rfl (fun ls hl => ?_)
  refine lv_aload_n hx hb dX6_clear_9 rfl (lv_at hl 1 rfl) ?_
  refine muvV (ws' := [(m 0, .inr (6, [.ref (m 1), .ref (m 2), .ref (m 3), .ref (m 4), .int (nI ((rec1 pm + 1))), .ref (m 5), .ref (m 6), .int (nI ty), .ref (m 7)])), (m 1, .inl (cA 0, 345, .inl (calmM z))), (m 2, .inl (cA 0, 2070, .inl (recP pa z pm)))]) CX hE hW hA (c_X6_calm l G cA m (rec1 pm + 1) ty z ) (cwV 0 hts gX6_clear_X6_calm rfl rfl rfl hdv_X6_calm ⟨Nat.le_of_ble_eq_true rfl, Nat.le_of_ble_eq_true rfl⟩) [0, 1] (by decide) rfl rfl rfl 0 rfl rfl rfl BM0_blind (fun _ _ _ _ => trivial) rfl hl.1 (rest := []) rfl (Nat.le_of_ble_eq_true rfl) dX6_clear_10 ⟨Nat.zero_le _, Nat.zero_le _⟩ (fun H locs hW => ?_)
  refine rn_iconst hx hb 0 rfl dX6_clear_13 ?_
  refine lv_istore_n (lv' := [(2, .int (nI 0)), (1, .int (loudF (shf 65 z))), (0, .ref (m 0))]) hx hb dX6_clear_14 rfl hl (by decide) rfl (fun ls hl => ?_)
  have LP_15 : ∀ (nn_ : Nat) (p : Nat) (zz : Nat → Int32), (np - p) < nn_ → (p ≤ np) → (zz = clrsM (calmM z) p) → ∀ (H : Heap) (locs : List Loc) (ls : Array Slot), wld G A_ [(m 0, .inr (6, [.ref (m 1), .ref (m 2), .ref (m 3), .ref (m 4), .int (nI ((rec1 pm + 1))), .ref (m 5), .ref (m 6), .int (nI ty), .ref (m 7)])), (m 1, .inl (cA 0, 345, .inl zz)), (m 2, .inl (cA 0, 2070, .inl (recP pa z pm)))] s_.heap H locs → lv_has ls 4 [(0, .ref (m 0)), (1, .int (loudF (shf 65 z))), (2, .int (nI p))] → W p_ l e_ ({ frames := 2, cells := 0, slots := 0, locals := 43 } : Room) s_ m_ ([.ref (m 0)] : List Value).toArray below meth c_ H locs 0 0 (MQ below (va_Qi (fun r_ (_ : Unit) => r_ = (loudF (shf 65 z))) (fun _ t_ => va_P G vwCl [(m 0, .inr (6, [.ref (m 1), .ref (m 2), .ref (m 3), .ref (m 4), .int (nI (rec1 pm + 1)), .ref (m 5), .ref (m 6), .int (nI ty), .ref (m 7)])), (m 1, .inl (cA 0, 345, .inl (clrsM (calmM z) np))), (m 2, .inl (cA 0, 2070, .inl (recP pa z pm)))] t_.heap ∧ va_D A_ [(m 0, .inr (6, [.ref (m 1), .ref (m 2), .ref (m 3), .ref (m 4), .int (nI (rec1 pm + 1)), .ref (m 5), .ref (m 6), .int (nI ty), .ref (m 7)])), (m 1, .inl (cA 0, 345, .inl (clrsM (calmM z) np))), (m 2, .inl (cA 0, 2070, .inl (recP pa z pm)))]) A_) ([.ref (m 0)] : List Value).toArray s_ 0 0 A_) (F0 m_ 15 ls []) := by
    intro nn_
    induction nn_ with
    | zero => intro p zz hmu; exact absurd hmu (Nat.not_lt_zero _)
    | succ nn_ ih =>
      have ih_15 := ih
      clear ih
      intro p zz hmu_15 hp hzz H locs ls hW hl
      refine lv_iload_n hx hb dX6_clear_15 rfl (lv_at hl 2 rfl) ?_
      refine lv_aload_n hx hb dX6_clear_16 rfl (lv_at hl 0 rfl) ?_
      refine rg (T := TX6) (N := 9) CX hE hW.1 in_X6_clear_X6 0 rfl rfl 0 (by decide) fl_X6_clear_7 rfl rfl dX6_clear_17 ?_
      refine lv_sipush (v := (nI 266)) hx hb dX6_clear_20 ks_266 ?_
      refine rn_iald CX hE hW.1 1 rfl (j := 266) (by omega) (ltb rfl) dX6_clear_23 ?_
      refine rn_top (nI np) (by rw [hzz, clrsM_lo (by omega), calmM_hi (by omega)]; exact hz2) ?_
      refine rn_icmp_ge hx hb (by omega) (by omega) dX6_clear_24 (by decide) (tgt := 63) (fun c_24 => ?_) (fun c_24 => ?_)
      · refine lv_iload_n hx hb dX6_clear_63 rfl (lv_at hl 1 rfl) ?_
        have hW := hW.ext (ws' := [(m 0, .inr (6, [.ref (m 1), .ref (m 2), .ref (m 3), .ref (m 4), .int (nI ((rec1 pm + 1))), .ref (m 5), .ref (m 6), .int (nI ty), .ref (m 7)])), (m 1, .inl (cA 0, 345, .inl (clrsM (calmM z) np))), (m 2, .inl (cA 0, 2070, .inl (recP pa z pm)))]) 1 (g := (clrsM (calmM z) np)) rfl (fun j _ => by rw [hzz, show p = np by omega]) rfl
        exact mu_reti CX hr hlk rfl rfl hW dX6_clear_64
      · refine rn_iconst hx hb 1 rfl dX6_clear_27 ?_
        refine lv_istore_n (lv' := [(3, .int (nI 1)), (0, .ref (m 0)), (1, .int (loudF (shf 65 z))), (2, .int (nI p))]) hx hb dX6_clear_28 rfl hl (by decide) rfl (fun ls hl => ?_)
        have LP_29 : ∀ (nn_ : Nat) (k : Nat) (qq : Nat → Int32), (26 - k) < nn_ → (1 ≤ k) → (k ≤ 26) → (qq = rgF (267 + 26 * p + 1) (k - 1) (fun _ => nI 0) zz) → ∀ (H : Heap) (locs : List Loc) (ls : Array Slot), wld G A_ [(m 0, .inr (6, [.ref (m 1), .ref (m 2), .ref (m 3), .ref (m 4), .int (nI ((rec1 pm + 1))), .ref (m 5), .ref (m 6), .int (nI ty), .ref (m 7)])), (m 1, .inl (cA 0, 345, .inl qq)), (m 2, .inl (cA 0, 2070, .inl (recP pa z pm)))] s_.heap H locs → lv_has ls 4 [(0, .ref (m 0)), (1, .int (loudF (shf 65 z))), (2, .int (nI p)), (3, .int (nI k))] → W p_ l e_ ({ frames := 2, cells := 0, slots := 0, locals := 43 } : Room) s_ m_ ([.ref (m 0)] : List Value).toArray below meth c_ H locs 0 0 (MQ below (va_Qi (fun r_ (_ : Unit) => r_ = (loudF (shf 65 z))) (fun _ t_ => va_P G vwCl [(m 0, .inr (6, [.ref (m 1), .ref (m 2), .ref (m 3), .ref (m 4), .int (nI (rec1 pm + 1)), .ref (m 5), .ref (m 6), .int (nI ty), .ref (m 7)])), (m 1, .inl (cA 0, 345, .inl (clrsM (calmM z) np))), (m 2, .inl (cA 0, 2070, .inl (recP pa z pm)))] t_.heap ∧ va_D A_ [(m 0, .inr (6, [.ref (m 1), .ref (m 2), .ref (m 3), .ref (m 4), .int (nI (rec1 pm + 1)), .ref (m 5), .ref (m 6), .int (nI ty), .ref (m 7)])), (m 1, .inl (cA 0, 345, .inl (clrsM (calmM z) np))), (m 2, .inl (cA 0, 2070, .inl (recP pa z pm)))]) A_) ([.ref (m 0)] : List Value).toArray s_ 0 0 A_) (F0 m_ 29 ls []) := by
          intro nn_
          induction nn_ with
          | zero => intro k qq hmu; exact absurd hmu (Nat.not_lt_zero _)
          | succ nn_ ih =>
            have ih_29 := ih
            clear ih
            intro k qq hmu_29 hk1 hk hqq H locs ls hW hl
            refine lv_iload_n hx hb dX6_clear_29 rfl (lv_at hl 3 rfl) ?_
            refine lv_bipush (v := (nI 26)) hx hb dX6_clear_30 kb_26 ?_
            refine rn_icmp_ge hx hb (by omega) (by omega) dX6_clear_32 (by decide) (tgt := 57) (fun c_32 => ?_) (fun c_32 => ?_)
            · refine rn_iinc hx hb (n := 1) (lv' := [(2, .int (nI (p + 1))), (0, .ref (m 0)), (1, .int (loudF (shf 65 z))), (3, .int (nI k))]) rfl dX6_clear_57 hl (k := 2) rfl (by decide) rfl (fun ls hl => ?_)
              refine lv_goto (tgt := 15) hx hb dX6_clear_60 (by decide) ?_
              exact ih_15 (p + 1) qq (by omega) (by omega) (by rw [hqq, hzz, show k - 1 = 25 by omega]; rfl) _ _ ls hW (lv_sub hl [1, 2, 0] rfl)
            · refine lv_aload_n hx hb dX6_clear_35 rfl (lv_at hl 0 rfl) ?_
              refine rg (T := TX6) (N := 9) CX hE hW.1 in_X6_clear_X6 0 rfl rfl 0 (by decide) fl_X6_clear_7 rfl rfl dX6_clear_36 ?_
              refine lv_sipush (v := (nI 267)) hx hb dX6_clear_39 ks_267 ?_
              refine lv_bipush (v := (nI 26)) hx hb dX6_clear_42 kb_26 ?_
              refine lv_iload_n hx hb dX6_clear_44 rfl (lv_at hl 2 rfl) ?_
              refine rn_imul hx hb dX6_clear_45 ?_
              refine rn_iadd hx hb dX6_clear_46 ?_
              refine lv_iload_n hx hb dX6_clear_47 rfl (lv_at hl 3 rfl) ?_
              refine rn_iadd hx hb dX6_clear_48 ?_
              refine rn_iconst hx hb 0 rfl dX6_clear_49 ?_
              refine rn_iast (ws' := [(m 0, .inr (6, [.ref (m 1), .ref (m 2), .ref (m 3), .ref (m 4), .int (nI ((rec1 pm + 1))), .ref (m 5), .ref (m 6), .int (nI ty), .ref (m 7)])), (m 1, .inl (cA 0, 345, .inl (upd qq ((267 + (26 * p)) + k) (nI 0)))), (m 2, .inl (cA 0, 2070, .inl (recP pa z pm)))]) CX hE hW 1 rfl (j := ((267 + (26 * p)) + k)) (by omega) (ltb rfl) rfl dX6_clear_50 (fun H locs hW => ?_)
              refine rn_iinc hx hb (n := 1) (lv' := [(3, .int (nI (k + 1))), (0, .ref (m 0)), (1, .int (loudF (shf 65 z))), (2, .int (nI p))]) rfl dX6_clear_51 hl (k := 3) rfl (by decide) rfl (fun ls hl => ?_)
              refine lv_goto (tgt := 29) hx hb dX6_clear_54 (by decide) ?_
              exact ih_29 (k + 1) (upd qq ((267 + (26 * p)) + k) (nI 0)) (by omega) (by omega) (by omega) (by have q := rgF_next hqq (show 267 + 26 * p + k = 267 + 26 * p + 1 + (k - 1) by omega) rfl; rw [show k - 1 + 1 = k + 1 - 1 by omega] at q; exact q) _ _ ls hW (lv_sub hl [1, 2, 3, 0] rfl)
        exact LP_29 _ 1 zz (Nat.lt_succ_self _) (by omega) (by omega) rgF_0 _ _ ls hW (lv_sub hl [1, 2, 3, 0] rfl)
  exact LP_15 _ 0 (calmM z) (Nat.lt_succ_self _) (by omega) rfl _ _ ls hW (lv_sub hl [2, 1, 0] rfl)
theorem kb_40 : (Int8.ofInt (40)).toInt32 = (nI 40) := by decide +kernel
theorem ks_900 : (Int16.ofInt (900)).toInt32 = (nI 900) := by decide +kernel
theorem fl_X6_dip_7 : Cond.fieldLink RX6 7 RX6 (TX6 0).2.1 (TX6 0).2.2.1 ∈ wsX6_dip := by decide +kernel
theorem in_X6_dip_X6 : ∀ w ∈ wsX60, w ∈ wsX6_dip := by decide +kernel
set_option maxHeartbeats 4000000 in
set_option maxRecDepth 100000 in
theorem c_X6_dip_k (l : Launch) (G : va_G) (cA : Nat → ClassId) (m : Nat → Nat) (pm : Nat) (ty : Nat) (z : Nat → Int32) (pa : Nat → Int32) (kx : Nat) (ky : Nat) (p : Nat) (sz : Nat) (sh : Nat) (nd : Nat) (hpm : pm ≤ 6) (hkx : kx < 10) (hky : ky < 6) (hp2 : 2 ≤ p) (hp : p ≤ 40) (hs1 : 1 ≤ sz) (hs : sz ≤ 900) (hsh : sh < p) (hw : ¬ shf 5 z (ky * 10 + kx) = nI 2) (hnd : nd < 5) (hz : z 245 = nI nd) : MUi l yX6_dip wsX6_dip ({ frames := 2, cells := 0, slots := 0, locals := 43 }) G cA BM0 [(m 0, .inr (6, [.ref (m 1), .ref (m 2), .ref (m 3), .ref (m 4), .int (nI pm), .ref (m 5), .ref (m 6), .int (nI ty), .ref (m 7)])), (m 1, .inl (cA 0, 345, .inl z)), (m 2, .inl (cA 0, 2070, .inl pa))] [.ref (m 0), .int (nI kx), .int (nI ky), .int (nI p), .int (nI sz), .int (nI sh)] [(m 0, .inr (6, [.ref (m 1), .ref (m 2), .ref (m 3), .ref (m 4), .int (nI (rec1 pm + 1)), .ref (m 5), .ref (m 6), .int (nI ty), .ref (m 7)])), (m 1, .inl (cA 0, 345, .inl (dipM z nd (ky * 10 + kx) p sz sh))), (m 2, .inl (cA 0, 2070, .inl (recP pa z pm)))] (nI nd) := by
  refine MUi.mk (own := RX6) (by decide) rfl rfl (Nat.le_of_ble_eq_true rfl) (fun p_ e_ s_ m_ below meth c_ ls A_ CX hr hlk hW hA hE hB hl => ?_)
  obtain ⟨hx, hb, hml, hown, hts⟩ := id CX
  have hl : lv_has ls 7 [(0, .ref (m 0)), (1, .int (nI kx)), (2, .int (nI ky)), (3, .int (nI p)), (4, .int (nI sz)), (5, .int (nI sh))] := hl
  have hW : wld G A_ [(m 0, .inr (6, [.ref (m 1), .ref (m 2), .ref (m 3), .ref (m 4), .int (nI pm), .ref (m 5), .ref (m 6), .int (nI ty), .ref (m 7)])), (m 1, .inl (cA 0, 345, .inl z)), (m 2, .inl (cA 0, 2070, .inl pa))] s_.heap s_.heap [] := hW
  refine lv_iload_n hx hb dX6_dip_0 rfl (lv_at hl 1 rfl) ?_
  refine lv_iload_n hx hb dX6_dip_1 rfl (lv_at hl 2 rfl) ?_
  refine roS CX hE hW.1 (c_X6_isCell l G cA (nI kx) (nI ky) ) (va_cwS 2 hts gX6_dip_X6_isCell rfl rfl rfl hdn_X6_isCell ⟨Nat.le_of_ble_eq_true rfl, Nat.le_of_ble_eq_true rfl⟩) [] rfl B0_blind (fun _ _ _ => trivial) rfl hl.1 (rest := []) rfl (Nat.le_of_ble_eq_true rfl) dX6_dip_2 ⟨Nat.zero_le _, Nat.zero_le _⟩ ?_
  refine rb_if_ne hx hb dX6_dip_5 (by decide) (tgt := 10) (fun c_5 => ?_) (fun c_5 => ?_)
  · refine lv_iload_n hx hb dX6_dip_10 rfl (lv_at hl 3 rfl) ?_
    refine rn_iconst hx hb 2 rfl dX6_dip_11 ?_
    refine lv_bipush (v := (nI 40)) hx hb dX6_dip_12 kb_40 ?_
    refine roS CX hE hW.1 (c_X6_in l G cA (nI p) (nI 2) (nI 40) ) (va_cwS 3 hts gX6_dip_X6_in rfl rfl rfl hdn_X6_in ⟨Nat.le_of_ble_eq_true rfl, Nat.le_of_ble_eq_true rfl⟩) [] rfl B0_blind (fun _ _ _ => trivial) rfl hl.1 (rest := []) rfl (Nat.le_of_ble_eq_true rfl) dX6_dip_14 ⟨Nat.zero_le _, Nat.zero_le _⟩ ?_
    refine rb_if_eq hx hb dX6_dip_17 (by decide) (tgt := 44) (fun c_17 => ?_) (fun c_17 => ?_)
    · exact absurd (inP_nI hp2 hp (by decide)) c_17
    · refine lv_iload hx hb dX6_dip_20 (lv_at hl 4 rfl) ?_
      refine rn_iconst hx hb 1 rfl dX6_dip_22 ?_
      refine lv_sipush (v := (nI 900)) hx hb dX6_dip_23 ks_900 ?_
      refine roS CX hE hW.1 (c_X6_in l G cA (nI sz) (nI 1) (nI 900) ) (va_cwS 3 hts gX6_dip_X6_in rfl rfl rfl hdn_X6_in ⟨Nat.le_of_ble_eq_true rfl, Nat.le_of_ble_eq_true rfl⟩) [] rfl B0_blind (fun _ _ _ => trivial) rfl hl.1 (rest := []) rfl (Nat.le_of_ble_eq_true rfl) dX6_dip_26 ⟨Nat.zero_le _, Nat.zero_le _⟩ ?_
      refine rb_if_eq hx hb dX6_dip_29 (by decide) (tgt := 44) (fun c_29 => ?_) (fun c_29 => ?_)
      · exact absurd (inP_nI hs1 hs (by decide)) c_29
      · refine lv_iload hx hb dX6_dip_32 (lv_at hl 5 rfl) ?_
        refine rn_iconst hx hb 0 rfl dX6_dip_34 ?_
        refine lv_iload_n hx hb dX6_dip_35 rfl (lv_at hl 3 rfl) ?_
        refine rn_iconst hx hb 1 rfl dX6_dip_36 ?_
        refine rn_isub hx hb (by omega) dX6_dip_37 ?_
        refine roS CX hE hW.1 (c_X6_in l G cA (nI sh) (nI 0) (nI (p - 1)) ) (va_cwS 3 hts gX6_dip_X6_in rfl rfl rfl hdn_X6_in ⟨Nat.le_of_ble_eq_true rfl, Nat.le_of_ble_eq_true rfl⟩) [] rfl B0_blind (fun _ _ _ => trivial) rfl hl.1 (rest := []) rfl (Nat.le_of_ble_eq_true rfl) dX6_dip_38 ⟨Nat.zero_le _, Nat.zero_le _⟩ ?_
        refine rb_if_ne hx hb dX6_dip_41 (by decide) (tgt := 47) (fun c_41 => ?_) (fun c_41 => ?_)
        · refine lv_aload_n hx hb dX6_dip_47 rfl (lv_at hl 0 rfl) ?_
          refine lv_bipush (v := (nI 10)) hx hb dX6_dip_48 kb_10 ?_
          refine lv_iload_n hx hb dX6_dip_50 rfl (lv_at hl 2 rfl) ?_
          refine rn_imul hx hb dX6_dip_51 ?_
          refine lv_iload_n hx hb dX6_dip_52 rfl (lv_at hl 1 rfl) ?_
          refine rn_iadd hx hb dX6_dip_53 ?_
          refine rn_top (nI (ky * 10 + kx)) (by rw [Nat.mul_comm]) ?_
          refine roV CX hE hW.1 (c_X6_isWall l G cA m pm ty z (ky * 10 + kx) (by omega)) (cwV 1 hts gX6_dip_X6_isWall rfl rfl rfl hdv_X6_isWall ⟨Nat.le_of_ble_eq_true rfl, Nat.le_of_ble_eq_true rfl⟩) [0, 1] rfl 0 rfl rfl rfl B0_blind (fun _ _ _ => trivial) rfl hl.1 (rest := []) rfl (Nat.le_of_ble_eq_true rfl) dX6_dip_54 ⟨Nat.zero_le _, Nat.zero_le _⟩ ?_
          refine rb_if_eq hx hb dX6_dip_57 (by decide) (tgt := 63) (fun c_57 => ?_) (fun c_57 => ?_)
          · refine lv_aload_n hx hb dX6_dip_63 rfl (lv_at hl 0 rfl) ?_
            refine rg (T := TX6) (N := 9) CX hE hW.1 in_X6_dip_X6 0 rfl rfl 0 (by decide) fl_X6_dip_7 rfl rfl dX6_dip_64 ?_
            refine lv_sipush (v := (nI 245)) hx hb dX6_dip_67 ks_245 ?_
            refine rn_iald CX hE hW.1 1 rfl (j := 245) (by omega) (ltb rfl) dX6_dip_70 ?_
            refine rn_top (nI nd) hz ?_
            refine rn_iconst hx hb 5 rfl dX6_dip_71 ?_
            refine rn_icmp_ne hx hb (by omega) (by omega) dX6_dip_72 (by decide) (tgt := 78) (fun c_72 => ?_) (fun c_72 => ?_)
            · refine lv_aload_n hx hb dX6_dip_78 rfl (lv_at hl 0 rfl) ?_
              refine muvV (ws' := [(m 0, .inr (6, [.ref (m 1), .ref (m 2), .ref (m 3), .ref (m 4), .int (nI (rec1 pm + 1)), .ref (m 5), .ref (m 6), .int (nI ty), .ref (m 7)])), (m 1, .inl (cA 0, 345, .inl z)), (m 2, .inl (cA 0, 2070, .inl (recP pa z pm)))]) CX hE hW hA (c_X6_record l G cA m pm ty z pa (by omega)) (cwV 0 hts gX6_dip_X6_record rfl rfl rfl hdv_X6_record ⟨Nat.le_of_ble_eq_true rfl, Nat.le_of_ble_eq_true rfl⟩) [0, 1, 2] (by decide) rfl rfl rfl 0 rfl rfl rfl BM0_blind (fun _ _ _ _ => trivial) rfl hl.1 (rest := []) rfl (Nat.le_of_ble_eq_true rfl) dX6_dip_79 ⟨Nat.zero_le _, Nat.zero_le _⟩ (fun H locs hW => ?_)
              refine lv_sipush (v := (nI 246)) hx hb dX6_dip_82 ks_246 ?_
              refine rn_iconst hx hb 4 rfl dX6_dip_85 ?_
              refine lv_aload_n hx hb dX6_dip_86 rfl (lv_at hl 0 rfl) ?_
              refine rg (T := TX6) (N := 9) CX hE hW.1 in_X6_dip_X6 0 rfl rfl 0 (by decide) fl_X6_dip_7 rfl rfl dX6_dip_87 ?_
              refine lv_sipush (v := (nI 245)) hx hb dX6_dip_90 ks_245 ?_
              refine rn_iald CX hE hW.1 1 rfl (j := 245) (by omega) (ltb rfl) dX6_dip_93 ?_
              refine rn_top (nI nd) hz ?_
              refine rn_imul hx hb dX6_dip_94 ?_
              refine rn_iadd hx hb dX6_dip_95 ?_
              refine lv_istore (lv' := [(6, .int (nI (246 + (4 * nd)))), (0, .ref (m 0)), (1, .int (nI kx)), (2, .int (nI ky)), (3, .int (nI p)), (4, .int (nI sz)), (5, .int (nI sh))]) hx hb dX6_dip_96 hl (by decide) rfl (fun ls hl => ?_)
              refine lv_aload_n hx hb dX6_dip_98 rfl (lv_at hl 1 rfl) ?_
              refine rg (T := TX6) (N := 9) CX hE hW.1 in_X6_dip_X6 0 rfl rfl 0 (by decide) fl_X6_dip_7 rfl rfl dX6_dip_99 ?_
              refine lv_iload hx hb dX6_dip_102 (lv_at hl 0 rfl) ?_
              refine lv_bipush (v := (nI 10)) hx hb dX6_dip_104 kb_10 ?_
              refine lv_iload_n hx hb dX6_dip_106 rfl (lv_at hl 3 rfl) ?_
              refine rn_imul hx hb dX6_dip_107 ?_
              refine lv_iload_n hx hb dX6_dip_108 rfl (lv_at hl 2 rfl) ?_
              refine rn_iadd hx hb dX6_dip_109 ?_
              refine rn_top (nI (ky * 10 + kx)) (by rw [Nat.mul_comm]) ?_
              refine rn_iast (ws' := [(m 0, .inr (6, [.ref (m 1), .ref (m 2), .ref (m 3), .ref (m 4), .int (nI (rec1 pm + 1)), .ref (m 5), .ref (m 6), .int (nI ty), .ref (m 7)])), (m 1, .inl (cA 0, 345, .inl (upd z (246 + (4 * nd)) (nI (ky * 10 + kx))))), (m 2, .inl (cA 0, 2070, .inl (recP pa z pm)))]) CX hE hW 1 rfl (j := (246 + (4 * nd))) (by omega) (ltb rfl) rfl dX6_dip_110 (fun H locs hW => ?_)
              refine lv_aload_n hx hb dX6_dip_111 rfl (lv_at hl 1 rfl) ?_
              refine rg (T := TX6) (N := 9) CX hE hW.1 in_X6_dip_X6 0 rfl rfl 0 (by decide) fl_X6_dip_7 rfl rfl dX6_dip_112 ?_
              refine lv_iload hx hb dX6_dip_115 (lv_at hl 0 rfl) ?_
              refine rn_iconst hx hb 1 rfl dX6_dip_117 ?_
              refine rn_iadd hx hb dX6_dip_118 ?_
              refine lv_iload_n hx hb dX6_dip_119 rfl (lv_at hl 4 rfl) ?_
              refine rn_iast (ws' := [(m 0, .inr (6, [.ref (m 1), .ref (m 2), .ref (m 3), .ref (m 4), .int (nI (rec1 pm + 1)), .ref (m 5), .ref (m 6), .int (nI ty), .ref (m 7)])), (m 1, .inl (cA 0, 345, .inl (upd (upd z (246 + (4 * nd)) (nI (ky * 10 + kx))) ((246 + (4 * nd)) + 1) (nI p)))), (m 2, .inl (cA 0, 2070, .inl (recP pa z pm)))]) CX hE hW 1 rfl (j := ((246 + (4 * nd)) + 1)) (by omega) (ltb rfl) rfl dX6_dip_120 (fun H locs hW => ?_)
              refine lv_aload_n hx hb dX6_dip_121 rfl (lv_at hl 1 rfl) ?_
              refine rg (T := TX6) (N := 9) CX hE hW.1 in_X6_dip_X6 0 rfl rfl 0 (by decide) fl_X6_dip_7 rfl rfl dX6_dip_122 ?_
              refine lv_iload hx hb dX6_dip_125 (lv_at hl 0 rfl) ?_
              refine rn_iconst hx hb 2 rfl dX6_dip_127 ?_
              refine rn_iadd hx hb dX6_dip_128 ?_
              refine lv_iload hx hb dX6_dip_129 (lv_at hl 5 rfl) ?_
              refine rn_iast (ws' := [(m 0, .inr (6, [.ref (m 1), .ref (m 2), .ref (m 3), .ref (m 4), .int (nI (rec1 pm + 1)), .ref (m 5), .ref (m 6), .int (nI ty), .ref (m 7)])), (m 1, .inl (cA 0, 345, .inl (upd (upd (upd z (246 + (4 * nd)) (nI (ky * 10 + kx))) ((246 + (4 * nd)) + 1) (nI p)) ((246 + (4 * nd)) + 2) (nI sz)))), (m 2, .inl (cA 0, 2070, .inl (recP pa z pm)))]) CX hE hW 1 rfl (j := ((246 + (4 * nd)) + 2)) (by omega) (ltb rfl) rfl dX6_dip_131 (fun H locs hW => ?_)
              refine lv_aload_n hx hb dX6_dip_132 rfl (lv_at hl 1 rfl) ?_
              refine rg (T := TX6) (N := 9) CX hE hW.1 in_X6_dip_X6 0 rfl rfl 0 (by decide) fl_X6_dip_7 rfl rfl dX6_dip_133 ?_
              refine lv_iload hx hb dX6_dip_136 (lv_at hl 0 rfl) ?_
              refine rn_iconst hx hb 3 rfl dX6_dip_138 ?_
              refine rn_iadd hx hb dX6_dip_139 ?_
              refine lv_iload hx hb dX6_dip_140 (lv_at hl 6 rfl) ?_
              refine rn_iast (ws' := [(m 0, .inr (6, [.ref (m 1), .ref (m 2), .ref (m 3), .ref (m 4), .int (nI (rec1 pm + 1)), .ref (m 5), .ref (m 6), .int (nI ty), .ref (m 7)])), (m 1, .inl (cA 0, 345, .inl (upd (upd (upd (upd z (246 + (4 * nd)) (nI (ky * 10 + kx))) ((246 + (4 * nd)) + 1) (nI p)) ((246 + (4 * nd)) + 2) (nI sz)) ((246 + (4 * nd)) + 3) (nI sh)))), (m 2, .inl (cA 0, 2070, .inl (recP pa z pm)))]) CX hE hW 1 rfl (j := ((246 + (4 * nd)) + 3)) (by omega) (ltb rfl) rfl dX6_dip_142 (fun H locs hW => ?_)
              refine lv_aload_n hx hb dX6_dip_143 rfl (lv_at hl 1 rfl) ?_
              refine rg (T := TX6) (N := 9) CX hE hW.1 in_X6_dip_X6 0 rfl rfl 0 (by decide) fl_X6_dip_7 rfl rfl dX6_dip_144 ?_
              refine lv_sipush (v := (nI 245)) hx hb dX6_dip_147 ks_245 ?_
              refine lv_dup2_11 hx hb dX6_dip_150 rfl rfl ?_
              refine rn_iald CX hE hW.1 1 rfl (j := 245) (by omega) (ltb rfl) dX6_dip_151 ?_
              refine rn_top (nI nd) (by rw [updN (by omega), updN (by omega), updN (by omega), updN (by omega)]; exact hz) ?_
              refine rn_iconst hx hb 1 rfl dX6_dip_152 ?_
              refine rn_iadd hx hb dX6_dip_153 ?_
              refine rn_iast (ws' := [(m 0, .inr (6, [.ref (m 1), .ref (m 2), .ref (m 3), .ref (m 4), .int (nI (rec1 pm + 1)), .ref (m 5), .ref (m 6), .int (nI ty), .ref (m 7)])), (m 1, .inl (cA 0, 345, .inl (upd (upd (upd (upd (upd z (246 + (4 * nd)) (nI (ky * 10 + kx))) ((246 + (4 * nd)) + 1) (nI p)) ((246 + (4 * nd)) + 2) (nI sz)) ((246 + (4 * nd)) + 3) (nI sh)) 245 (nI (nd + 1))))), (m 2, .inl (cA 0, 2070, .inl (recP pa z pm)))]) CX hE hW 1 rfl (j := 245) (by omega) (ltb rfl) rfl dX6_dip_154 (fun H locs hW => ?_)
              refine lv_aload_n hx hb dX6_dip_155 rfl (lv_at hl 1 rfl) ?_
              refine rg (T := TX6) (N := 9) CX hE hW.1 in_X6_dip_X6 0 rfl rfl 0 (by decide) fl_X6_dip_7 rfl rfl dX6_dip_156 ?_
              refine lv_sipush (v := (nI 245)) hx hb dX6_dip_159 ks_245 ?_
              refine rn_iald CX hE hW.1 1 rfl (j := 245) (by omega) (ltb rfl) dX6_dip_162 ?_
              refine rn_top (nI (nd + 1)) (updE rfl) ?_
              refine rn_iconst hx hb 1 rfl dX6_dip_163 ?_
              refine rn_isub hx hb (by omega) dX6_dip_164 ?_
              exact mu_reti CX hr hlk (by rw [Nat.add_sub_cancel]) rfl hW dX6_dip_165
            · exact absurd c_72 (by omega)
          · exact absurd c_57 hw
        · exact absurd (inP_nI (Nat.zero_le _) (by omega) (by omega)) c_41
  · exact absurd (cellP_of hkx hky) c_5
theorem kb_m4 : (Int8.ofInt (-4)).toInt32 = (-4) := by decide +kernel
set_option maxHeartbeats 4000000 in
set_option maxRecDepth 100000 in
theorem c_X6_dip_e (l : Launch) (G : va_G) (cA : Nat → ClassId) (m : Nat → Nat) (pm : Nat) (ty : Nat) (z : Nat → Int32) (x : Int32) (y : Int32) (p : Int32) (sz : Int32) (sh : Int32) (nd : Nat) (hz : z 245 = nI nd) (hnd : nd ≤ 5) (hbad : ∀ i j, i < 10 → j < 6 → x = nI i → y = nI j → okDip p sz sh → ¬ shf 5 z (j * 10 + i) = nI 2 → nd = 5) : RO l yX6_dip wsX6_dip ({ frames := 2, cells := 0, slots := 0, locals := 43 }) G cA B0 [(m 0, .inr (6, [.ref (m 1), .ref (m 2), .ref (m 3), .ref (m 4), .int (nI pm), .ref (m 5), .ref (m 6), .int (nI ty), .ref (m 7)])), (m 1, .inl (cA 0, 345, .inl z))] [.ref (m 0), .int x, .int y, .int p, .int sz, .int sh] (dipE z x y p sz sh) := by
  refine RO.mk (own := RX6) (by decide) rfl rfl (Nat.le_of_ble_eq_true rfl) (fun p_ e_ s_ m_ below meth c_ ls CX hr hlk hP hE hB hl => ?_)
  obtain ⟨hx, hb, hml, hown, hts⟩ := id CX
  have hl : lv_has ls 7 [(0, .ref (m 0)), (1, .int x), (2, .int y), (3, .int p), (4, .int sz), (5, .int sh)] := hl
  refine lv_iload_n hx hb dX6_dip_0 rfl (lv_at hl 1 rfl) ?_
  refine lv_iload_n hx hb dX6_dip_1 rfl (lv_at hl 2 rfl) ?_
  refine roS CX hE hP (c_X6_isCell l G cA x y ) (va_cwS 2 hts gX6_dip_X6_isCell rfl rfl rfl hdn_X6_isCell ⟨Nat.le_of_ble_eq_true rfl, Nat.le_of_ble_eq_true rfl⟩) [] rfl B0_blind (fun _ _ _ => trivial) rfl hl.1 (rest := []) rfl (Nat.le_of_ble_eq_true rfl) dX6_dip_2 ⟨Nat.zero_le _, Nat.zero_le _⟩ ?_
  refine rb_if_ne hx hb dX6_dip_5 (by decide) (tgt := 10) (fun c_5 => ?_) (fun c_5 => ?_)
  · obtain ⟨kx, ky, hkx, hky, ex, ey⟩ := cellP_nat c_5
    subst ex
    subst ey
    refine lv_iload_n hx hb dX6_dip_10 rfl (lv_at hl 3 rfl) ?_
    refine rn_iconst hx hb 2 rfl dX6_dip_11 ?_
    refine lv_bipush (v := (nI 40)) hx hb dX6_dip_12 kb_40 ?_
    refine roS CX hE hP (c_X6_in l G cA p (nI 2) (nI 40) ) (va_cwS 3 hts gX6_dip_X6_in rfl rfl rfl hdn_X6_in ⟨Nat.le_of_ble_eq_true rfl, Nat.le_of_ble_eq_true rfl⟩) [] rfl B0_blind (fun _ _ _ => trivial) rfl hl.1 (rest := []) rfl (Nat.le_of_ble_eq_true rfl) dX6_dip_14 ⟨Nat.zero_le _, Nat.zero_le _⟩ ?_
    refine rb_if_eq hx hb dX6_dip_17 (by decide) (tgt := 44) (fun c_17 => ?_) (fun c_17 => ?_)
    · refine lv_bipush (v := (-2)) hx hb dX6_dip_44 kb_m2 ?_
      exact ro_ret CX hr hlk (by first | exact dipE2 (cellP_of hkx hky) (fun q => c_17 q.1) | exact dipE2 (cellP_of hkx hky) (fun q => c_29 q.2.1) | exact dipE2 (cellP_of hkx hky) (fun q => c_41 q.2.2)) rfl dX6_dip_46
    · refine lv_iload hx hb dX6_dip_20 (lv_at hl 4 rfl) ?_
      refine rn_iconst hx hb 1 rfl dX6_dip_22 ?_
      refine lv_sipush (v := (nI 900)) hx hb dX6_dip_23 ks_900 ?_
      refine roS CX hE hP (c_X6_in l G cA sz (nI 1) (nI 900) ) (va_cwS 3 hts gX6_dip_X6_in rfl rfl rfl hdn_X6_in ⟨Nat.le_of_ble_eq_true rfl, Nat.le_of_ble_eq_true rfl⟩) [] rfl B0_blind (fun _ _ _ => trivial) rfl hl.1 (rest := []) rfl (Nat.le_of_ble_eq_true rfl) dX6_dip_26 ⟨Nat.zero_le _, Nat.zero_le _⟩ ?_
      refine rb_if_eq hx hb dX6_dip_29 (by decide) (tgt := 44) (fun c_29 => ?_) (fun c_29 => ?_)
      · refine lv_bipush (v := (-2)) hx hb dX6_dip_44 kb_m2 ?_
        exact ro_ret CX hr hlk (by first | exact dipE2 (cellP_of hkx hky) (fun q => c_17 q.1) | exact dipE2 (cellP_of hkx hky) (fun q => c_29 q.2.1) | exact dipE2 (cellP_of hkx hky) (fun q => c_41 q.2.2)) rfl dX6_dip_46
      · refine lv_iload hx hb dX6_dip_32 (lv_at hl 5 rfl) ?_
        refine rn_iconst hx hb 0 rfl dX6_dip_34 ?_
        refine lv_iload_n hx hb dX6_dip_35 rfl (lv_at hl 3 rfl) ?_
        refine rn_iconst hx hb 1 rfl dX6_dip_36 ?_
        refine lv_isub hx hb dX6_dip_37 ?_
        refine roS CX hE hP (c_X6_in l G cA sh (nI 0) (p - (nI 1)) ) (va_cwS 3 hts gX6_dip_X6_in rfl rfl rfl hdn_X6_in ⟨Nat.le_of_ble_eq_true rfl, Nat.le_of_ble_eq_true rfl⟩) [] rfl B0_blind (fun _ _ _ => trivial) rfl hl.1 (rest := []) rfl (Nat.le_of_ble_eq_true rfl) dX6_dip_38 ⟨Nat.zero_le _, Nat.zero_le _⟩ ?_
        refine rb_if_ne hx hb dX6_dip_41 (by decide) (tgt := 47) (fun c_41 => ?_) (fun c_41 => ?_)
        · refine lv_aload_n hx hb dX6_dip_47 rfl (lv_at hl 0 rfl) ?_
          refine lv_bipush (v := (nI 10)) hx hb dX6_dip_48 kb_10 ?_
          refine lv_iload_n hx hb dX6_dip_50 rfl (lv_at hl 2 rfl) ?_
          refine rn_imul hx hb dX6_dip_51 ?_
          refine lv_iload_n hx hb dX6_dip_52 rfl (lv_at hl 1 rfl) ?_
          refine rn_iadd hx hb dX6_dip_53 ?_
          refine rn_top (nI (ky * 10 + kx)) (by rw [Nat.mul_comm]) ?_
          refine roV CX hE hP (c_X6_isWall l G cA m pm ty z (ky * 10 + kx) (by omega)) (cwV 1 hts gX6_dip_X6_isWall rfl rfl rfl hdv_X6_isWall ⟨Nat.le_of_ble_eq_true rfl, Nat.le_of_ble_eq_true rfl⟩) [0, 1] rfl 0 rfl rfl rfl B0_blind (fun _ _ _ => trivial) rfl hl.1 (rest := []) rfl (Nat.le_of_ble_eq_true rfl) dX6_dip_54 ⟨Nat.zero_le _, Nat.zero_le _⟩ ?_
          refine rb_if_eq hx hb dX6_dip_57 (by decide) (tgt := 63) (fun c_57 => ?_) (fun c_57 => ?_)
          · refine lv_aload_n hx hb dX6_dip_63 rfl (lv_at hl 0 rfl) ?_
            refine rg (T := TX6) (N := 9) CX hE hP in_X6_dip_X6 0 rfl rfl 0 (by decide) fl_X6_dip_7 rfl rfl dX6_dip_64 ?_
            refine lv_sipush (v := (nI 245)) hx hb dX6_dip_67 ks_245 ?_
            refine rn_iald CX hE hP 1 rfl (j := 245) (by omega) (ltb rfl) dX6_dip_70 ?_
            refine rn_top (nI nd) hz ?_
            refine rn_iconst hx hb 5 rfl dX6_dip_71 ?_
            refine rn_icmp_ne hx hb (by omega) (by omega) dX6_dip_72 (by decide) (tgt := 78) (fun c_72 => ?_) (fun c_72 => ?_)
            · exact absurd (hbad kx ky hkx hky rfl rfl ⟨c_17, c_29, c_41⟩ c_57) c_72
            · refine lv_bipush (v := (-4)) hx hb dX6_dip_75 kb_m4 ?_
              exact ro_ret CX hr hlk (dipE4 hkx hky ⟨c_17, c_29, c_41⟩ c_57) rfl dX6_dip_77
          · refine lv_bipush (v := (-5)) hx hb dX6_dip_60 kb_m5 ?_
            exact ro_ret CX hr hlk (dipE3 hkx hky ⟨c_17, c_29, c_41⟩ c_57) rfl dX6_dip_62
        · refine lv_bipush (v := (-2)) hx hb dX6_dip_44 kb_m2 ?_
          exact ro_ret CX hr hlk (by first | exact dipE2 (cellP_of hkx hky) (fun q => c_17 q.1) | exact dipE2 (cellP_of hkx hky) (fun q => c_29 q.2.1) | exact dipE2 (cellP_of hkx hky) (fun q => c_41 q.2.2)) rfl dX6_dip_46
  · refine lv_iconst (v := (-1)) hx hb dX6_dip_8 (by decide) ?_
    exact ro_ret CX hr hlk (dipE1 c_5) rfl dX6_dip_9
theorem hdv_X6_isDipper : yX6_isDipper.cls = RX6 ∧ yX6_isDipper.cls ≠ "java/lang/invoke/MethodHandle" ∧ yX6_isDipper.cls ≠ "java/lang/invoke/VarHandle" ∧ (parseMethodDescriptor yX6_isDipper.desc).map (fun d => d.parameters.length) = some 1 := by decide +kernel
theorem fl_X6_takeOut_7 : Cond.fieldLink RX6 7 RX6 (TX6 0).2.1 (TX6 0).2.2.1 ∈ wsX6_takeOut := by decide +kernel
theorem in_X6_takeOut_X6 : ∀ w ∈ wsX60, w ∈ wsX6_takeOut := by decide +kernel
set_option maxHeartbeats 4000000 in
set_option maxRecDepth 100000 in
theorem c_X6_takeOut_k (l : Launch) (G : va_G) (cA : Nat → ClassId) (m : Nat → Nat) (pm : Nat) (ty : Nat) (z : Nat → Int32) (pa : Nat → Int32) (d : Nat) (nd : Nat) (hpm : pm ≤ 6) (hd : d < nd) (hnd : nd ≤ 5) (hz : z 245 = nI nd) : MUi l yX6_takeOut wsX6_takeOut ({ frames := 1, cells := 0, slots := 0, locals := 21 }) G cA BM0 [(m 0, .inr (6, [.ref (m 1), .ref (m 2), .ref (m 3), .ref (m 4), .int (nI pm), .ref (m 5), .ref (m 6), .int (nI ty), .ref (m 7)])), (m 1, .inl (cA 0, 345, .inl z)), (m 2, .inl (cA 0, 2070, .inl pa))] [.ref (m 0), .int (nI d)] [(m 0, .inr (6, [.ref (m 1), .ref (m 2), .ref (m 3), .ref (m 4), .int (nI (rec1 pm + 1)), .ref (m 5), .ref (m 6), .int (nI ty), .ref (m 7)])), (m 1, .inl (cA 0, 345, .inl (takeM z nd d))), (m 2, .inl (cA 0, 2070, .inl (recP pa z pm)))] (nI (nd - 1)) := by
  refine MUi.mk (own := RX6) (by decide) rfl rfl (Nat.le_of_ble_eq_true rfl) (fun p_ e_ s_ m_ below meth c_ ls A_ CX hr hlk hW hA hE hB hl => ?_)
  obtain ⟨hx, hb, hml, hown, hts⟩ := id CX
  have hl : lv_has ls 3 [(0, .ref (m 0)), (1, .int (nI d))] := hl
  have hW : wld G A_ [(m 0, .inr (6, [.ref (m 1), .ref (m 2), .ref (m 3), .ref (m 4), .int (nI pm), .ref (m 5), .ref (m 6), .int (nI ty), .ref (m 7)])), (m 1, .inl (cA 0, 345, .inl z)), (m 2, .inl (cA 0, 2070, .inl pa))] s_.heap s_.heap [] := hW
  refine lv_aload_n hx hb dX6_takeOut_0 rfl (lv_at hl 0 rfl) ?_
  refine lv_iload_n hx hb dX6_takeOut_1 rfl (lv_at hl 1 rfl) ?_
  refine roV CX hE hW.1 (c_X6_isDipper l G cA m pm ty z (nI d) ) (cwV 1 hts gX6_takeOut_X6_isDipper rfl rfl rfl hdv_X6_isDipper ⟨Nat.le_of_ble_eq_true rfl, Nat.le_of_ble_eq_true rfl⟩) [0, 1] rfl 0 rfl rfl rfl B0_blind (fun _ _ _ => trivial) rfl hl.1 (rest := []) rfl (Nat.le_of_ble_eq_true rfl) dX6_takeOut_2 ⟨Nat.zero_le _, Nat.zero_le _⟩ ?_
  refine rb_if_ne hx hb dX6_takeOut_5 (by decide) (tgt := 10) (fun c_5 => ?_) (fun c_5 => ?_)
  · refine lv_aload_n hx hb dX6_takeOut_10 rfl (lv_at hl 0 rfl) ?_
    refine muvV (ws' := [(m 0, .inr (6, [.ref (m 1), .ref (m 2), .ref (m 3), .ref (m 4), .int (nI (rec1 pm + 1)), .ref (m 5), .ref (m 6), .int (nI ty), .ref (m 7)])), (m 1, .inl (cA 0, 345, .inl z)), (m 2, .inl (cA 0, 2070, .inl (recP pa z pm)))]) CX hE hW hA (c_X6_record l G cA m pm ty z pa (by omega)) (cwV 0 hts gX6_takeOut_X6_record rfl rfl rfl hdv_X6_record ⟨Nat.le_of_ble_eq_true rfl, Nat.le_of_ble_eq_true rfl⟩) [0, 1, 2] (by decide) rfl rfl rfl 0 rfl rfl rfl BM0_blind (fun _ _ _ _ => trivial) rfl hl.1 (rest := []) rfl (Nat.le_of_ble_eq_true rfl) dX6_takeOut_11 ⟨Nat.zero_le _, Nat.zero_le _⟩ (fun H locs hW => ?_)
    refine lv_sipush (v := (nI 246)) hx hb dX6_takeOut_14 ks_246 ?_
    refine rn_iconst hx hb 4 rfl dX6_takeOut_17 ?_
    refine lv_iload_n hx hb dX6_takeOut_18 rfl (lv_at hl 1 rfl) ?_
    refine rn_imul hx hb dX6_takeOut_19 ?_
    refine rn_iadd hx hb dX6_takeOut_20 ?_
    refine lv_istore_n (lv' := [(2, .int (nI (246 + (4 * d)))), (0, .ref (m 0)), (1, .int (nI d))]) hx hb dX6_takeOut_21 rfl hl (by decide) rfl (fun ls hl => ?_)
    have LP_22 : ∀ (nn_ : Nat) (k : Nat) (zz : Nat → Int32), (262 - k) < nn_ → (246 + 4 * d ≤ k) → (k ≤ 262) → (zz = toM z d k) → ∀ (H : Heap) (locs : List Loc) (ls : Array Slot), wld G A_ [(m 0, .inr (6, [.ref (m 1), .ref (m 2), .ref (m 3), .ref (m 4), .int (nI (rec1 pm + 1)), .ref (m 5), .ref (m 6), .int (nI ty), .ref (m 7)])), (m 1, .inl (cA 0, 345, .inl zz)), (m 2, .inl (cA 0, 2070, .inl (recP pa z pm)))] s_.heap H locs → lv_has ls 3 [(0, .ref (m 0)), (1, .int (nI d)), (2, .int (nI k))] → W p_ l e_ ({ frames := 1, cells := 0, slots := 0, locals := 21 } : Room) s_ m_ ([.ref (m 0), .int (nI d)] : List Value).toArray below meth c_ H locs 0 0 (MQ below (va_Qi (fun r_ (_ : Unit) => r_ = (nI (nd - 1))) (fun _ t_ => va_P G vwCl [(m 0, .inr (6, [.ref (m 1), .ref (m 2), .ref (m 3), .ref (m 4), .int (nI (rec1 pm + 1)), .ref (m 5), .ref (m 6), .int (nI ty), .ref (m 7)])), (m 1, .inl (cA 0, 345, .inl (takeM z nd d))), (m 2, .inl (cA 0, 2070, .inl (recP pa z pm)))] t_.heap ∧ va_D A_ [(m 0, .inr (6, [.ref (m 1), .ref (m 2), .ref (m 3), .ref (m 4), .int (nI (rec1 pm + 1)), .ref (m 5), .ref (m 6), .int (nI ty), .ref (m 7)])), (m 1, .inl (cA 0, 345, .inl (takeM z nd d))), (m 2, .inl (cA 0, 2070, .inl (recP pa z pm)))]) A_) ([.ref (m 0), .int (nI d)] : List Value).toArray s_ 0 0 A_) (F0 m_ 22 ls []) := by
      intro nn_
      induction nn_ with
      | zero => intro k zz hmu; exact absurd hmu (Nat.not_lt_zero _)
      | succ nn_ ih =>
        have ih_22 := ih
        clear ih
        intro k zz hmu_22 hk1 hk hzz H locs ls hW hl
        refine lv_iload_n hx hb dX6_takeOut_22 rfl (lv_at hl 2 rfl) ?_
        refine rn_iconst hx hb 4 rfl dX6_takeOut_23 ?_
        refine rn_iadd hx hb dX6_takeOut_24 ?_
        refine lv_sipush (v := (nI 266)) hx hb dX6_takeOut_25 ks_266 ?_
        refine rn_icmp_ge hx hb (by omega) (by omega) dX6_takeOut_28 (by decide) (tgt := 51) (fun c_28 => ?_) (fun c_28 => ?_)
        · refine lv_aload_n hx hb dX6_takeOut_51 rfl (lv_at hl 0 rfl) ?_
          refine rg (T := TX6) (N := 9) CX hE hW.1 in_X6_takeOut_X6 0 rfl rfl 0 (by decide) fl_X6_takeOut_7 rfl rfl dX6_takeOut_52 ?_
          refine lv_sipush (v := (nI 245)) hx hb dX6_takeOut_55 ks_245 ?_
          refine lv_dup2_11 hx hb dX6_takeOut_58 rfl rfl ?_
          refine rn_iald CX hE hW.1 1 rfl (j := 245) (by omega) (ltb rfl) dX6_takeOut_59 ?_
          refine rn_top (nI nd) (by rw [hzz]; unfold toM; rw [if_neg (by omega)]; exact hz) ?_
          refine rn_iconst hx hb 1 rfl dX6_takeOut_60 ?_
          refine rn_isub hx hb (by omega) dX6_takeOut_61 ?_
          refine rn_iast (ws' := [(m 0, .inr (6, [.ref (m 1), .ref (m 2), .ref (m 3), .ref (m 4), .int (nI (rec1 pm + 1)), .ref (m 5), .ref (m 6), .int (nI ty), .ref (m 7)])), (m 1, .inl (cA 0, 345, .inl (upd zz 245 (nI (nd - 1))))), (m 2, .inl (cA 0, 2070, .inl (recP pa z pm)))]) CX hE hW 1 rfl (j := 245) (by omega) (ltb rfl) rfl dX6_takeOut_62 (fun H locs hW => ?_)
          refine lv_aload_n hx hb dX6_takeOut_63 rfl (lv_at hl 0 rfl) ?_
          refine rg (T := TX6) (N := 9) CX hE hW.1 in_X6_takeOut_X6 0 rfl rfl 0 (by decide) fl_X6_takeOut_7 rfl rfl dX6_takeOut_64 ?_
          refine lv_sipush (v := (nI 245)) hx hb dX6_takeOut_67 ks_245 ?_
          refine rn_iald CX hE hW.1 1 rfl (j := 245) (by omega) (ltb rfl) dX6_takeOut_70 ?_
          refine rn_top (nI (nd - 1)) (updE rfl) ?_
          have hW := hW.ext (ws' := [(m 0, .inr (6, [.ref (m 1), .ref (m 2), .ref (m 3), .ref (m 4), .int (nI (rec1 pm + 1)), .ref (m 5), .ref (m 6), .int (nI ty), .ref (m 7)])), (m 1, .inl (cA 0, 345, .inl (takeM z nd d))), (m 2, .inl (cA 0, 2070, .inl (recP pa z pm)))]) 1 (g := (takeM z nd d)) rfl (fun j _ => by unfold takeM; rw [hzz, show k = 262 by omega]) rfl
          exact mu_reti CX hr hlk rfl rfl hW dX6_takeOut_71
        · refine lv_aload_n hx hb dX6_takeOut_31 rfl (lv_at hl 0 rfl) ?_
          refine rg (T := TX6) (N := 9) CX hE hW.1 in_X6_takeOut_X6 0 rfl rfl 0 (by decide) fl_X6_takeOut_7 rfl rfl dX6_takeOut_32 ?_
          refine lv_iload_n hx hb dX6_takeOut_35 rfl (lv_at hl 2 rfl) ?_
          refine lv_aload_n hx hb dX6_takeOut_36 rfl (lv_at hl 0 rfl) ?_
          refine rg (T := TX6) (N := 9) CX hE hW.1 in_X6_takeOut_X6 0 rfl rfl 0 (by decide) fl_X6_takeOut_7 rfl rfl dX6_takeOut_37 ?_
          refine lv_iload_n hx hb dX6_takeOut_40 rfl (lv_at hl 2 rfl) ?_
          refine rn_iconst hx hb 4 rfl dX6_takeOut_41 ?_
          refine rn_iadd hx hb dX6_takeOut_42 ?_
          refine rn_iald CX hE hW.1 1 rfl (j := (k + 4)) (by omega) (ltb rfl) dX6_takeOut_43 ?_
          refine rn_iast (ws' := [(m 0, .inr (6, [.ref (m 1), .ref (m 2), .ref (m 3), .ref (m 4), .int (nI (rec1 pm + 1)), .ref (m 5), .ref (m 6), .int (nI ty), .ref (m 7)])), (m 1, .inl (cA 0, 345, .inl (upd zz k (zz (k + 4))))), (m 2, .inl (cA 0, 2070, .inl (recP pa z pm)))]) CX hE hW 1 rfl (j := k) (by omega) (ltb rfl) rfl dX6_takeOut_44 (fun H locs hW => ?_)
          refine rn_iinc hx hb (n := 1) (lv' := [(2, .int (nI (k + 1))), (0, .ref (m 0)), (1, .int (nI d))]) rfl dX6_takeOut_45 hl (k := 2) rfl (by decide) rfl (fun ls hl => ?_)
          refine lv_goto (tgt := 22) hx hb dX6_takeOut_48 (by decide) ?_
          exact ih_22 (k + 1) (upd zz k (zz (k + 4))) (by omega) (by omega) (by omega) (toM_next hzz hk1) _ _ ls hW (lv_sub hl [1, 2, 0] rfl)
    exact LP_22 _ (246 + (4 * d)) z (Nat.lt_succ_self _) (by omega) (by omega) toM_0 _ _ ls hW (lv_sub hl [1, 2, 0] rfl)
  · exact absurd ⟨nI_le (Nat.zero_le _) (by omega), by rw [hz]; exact nI_lt hd (by omega)⟩ c_5
set_option maxHeartbeats 4000000 in
set_option maxRecDepth 100000 in
theorem c_X6_takeOut_e (l : Launch) (G : va_G) (cA : Nat → ClassId) (m : Nat → Nat) (pm : Nat) (ty : Nat) (z : Nat → Int32) (d : Int32) (hbad : ¬ (0 ≤ d ∧ d < z 245)) : RO l yX6_takeOut wsX6_takeOut ({ frames := 1, cells := 0, slots := 0, locals := 21 }) G cA B0 [(m 0, .inr (6, [.ref (m 1), .ref (m 2), .ref (m 3), .ref (m 4), .int (nI pm), .ref (m 5), .ref (m 6), .int (nI ty), .ref (m 7)])), (m 1, .inl (cA 0, 345, .inl z))] [.ref (m 0), .int d] (-1) := by
  refine RO.mk (own := RX6) (by decide) rfl rfl (Nat.le_of_ble_eq_true rfl) (fun p_ e_ s_ m_ below meth c_ ls CX hr hlk hP hE hB hl => ?_)
  obtain ⟨hx, hb, hml, hown, hts⟩ := id CX
  have hl : lv_has ls 3 [(0, .ref (m 0)), (1, .int d)] := hl
  refine lv_aload_n hx hb dX6_takeOut_0 rfl (lv_at hl 0 rfl) ?_
  refine lv_iload_n hx hb dX6_takeOut_1 rfl (lv_at hl 1 rfl) ?_
  refine roV CX hE hP (c_X6_isDipper l G cA m pm ty z d ) (cwV 1 hts gX6_takeOut_X6_isDipper rfl rfl rfl hdv_X6_isDipper ⟨Nat.le_of_ble_eq_true rfl, Nat.le_of_ble_eq_true rfl⟩) [0, 1] rfl 0 rfl rfl rfl B0_blind (fun _ _ _ => trivial) rfl hl.1 (rest := []) rfl (Nat.le_of_ble_eq_true rfl) dX6_takeOut_2 ⟨Nat.zero_le _, Nat.zero_le _⟩ ?_
  refine rb_if_ne hx hb dX6_takeOut_5 (by decide) (tgt := 10) (fun c_5 => ?_) (fun c_5 => ?_)
  · exact absurd c_5 hbad
  · refine lv_iconst (v := (-1)) hx hb dX6_takeOut_8 (by decide) ?_
    exact ro_ret CX hr hlk rfl rfl dX6_takeOut_9
theorem ks_m999 : (Int16.ofInt (-999)).toInt32 = (-999) := by decide +kernel
theorem ks_999 : (Int16.ofInt (999)).toInt32 = (nI 999) := by decide +kernel
theorem fl_X6_drop_7 : Cond.fieldLink RX6 7 RX6 (TX6 0).2.1 (TX6 0).2.2.1 ∈ wsX6_drop := by decide +kernel
theorem in_X6_drop_X6 : ∀ w ∈ wsX60, w ∈ wsX6_drop := by decide +kernel
set_option maxHeartbeats 4000000 in
set_option maxRecDepth 100000 in
theorem c_X6_drop_k (l : Launch) (G : va_G) (cA : Nat → ClassId) (m : Nat → Nat) (pm : Nat) (ty : Nat) (z : Nat → Int32) (pa : Nat → Int32) (kx : Nat) (ky : Nat) (v : Int32) (hpm : pm ≤ 6) (hkx : kx < 10) (hky : ky < 6) (hv : inP v (-999) (nI 999)) (hw : ¬ shf 5 z (ky * 10 + kx) = nI 2) : MUi l yX6_drop wsX6_drop ({ frames := 2, cells := 0, slots := 0, locals := 43 }) G cA BM0 [(m 0, .inr (6, [.ref (m 1), .ref (m 2), .ref (m 3), .ref (m 4), .int (nI pm), .ref (m 5), .ref (m 6), .int (nI ty), .ref (m 7)])), (m 1, .inl (cA 0, 345, .inl z)), (m 2, .inl (cA 0, 2070, .inl pa))] [.ref (m 0), .int (nI kx), .int (nI ky), .int v] [(m 0, .inr (6, [.ref (m 1), .ref (m 2), .ref (m 3), .ref (m 4), .int (nI (rec1 pm + 1)), .ref (m 5), .ref (m 6), .int (nI ty), .ref (m 7)])), (m 1, .inl (cA 0, 345, .inl (upd z (65 + (ky * 10 + kx)) (boundF (shf 65 z (ky * 10 + kx) + v))))), (m 2, .inl (cA 0, 2070, .inl (recP pa z pm)))] (boundF (shf 65 z (ky * 10 + kx) + v) + nI 10000) := by
  refine MUi.mk (own := RX6) (by decide) rfl rfl (Nat.le_of_ble_eq_true rfl) (fun p_ e_ s_ m_ below meth c_ ls A_ CX hr hlk hW hA hE hB hl => ?_)
  obtain ⟨hx, hb, hml, hown, hts⟩ := id CX
  have hl : lv_has ls 5 [(0, .ref (m 0)), (1, .int (nI kx)), (2, .int (nI ky)), (3, .int v)] := hl
  have hW : wld G A_ [(m 0, .inr (6, [.ref (m 1), .ref (m 2), .ref (m 3), .ref (m 4), .int (nI pm), .ref (m 5), .ref (m 6), .int (nI ty), .ref (m 7)])), (m 1, .inl (cA 0, 345, .inl z)), (m 2, .inl (cA 0, 2070, .inl pa))] s_.heap s_.heap [] := hW
  refine lv_iload_n hx hb dX6_drop_0 rfl (lv_at hl 1 rfl) ?_
  refine lv_iload_n hx hb dX6_drop_1 rfl (lv_at hl 2 rfl) ?_
  refine roS CX hE hW.1 (c_X6_isCell l G cA (nI kx) (nI ky) ) (va_cwS 2 hts gX6_drop_X6_isCell rfl rfl rfl hdn_X6_isCell ⟨Nat.le_of_ble_eq_true rfl, Nat.le_of_ble_eq_true rfl⟩) [] rfl B0_blind (fun _ _ _ => trivial) rfl hl.1 (rest := []) rfl (Nat.le_of_ble_eq_true rfl) dX6_drop_2 ⟨Nat.zero_le _, Nat.zero_le _⟩ ?_
  refine rb_if_ne hx hb dX6_drop_5 (by decide) (tgt := 10) (fun c_5 => ?_) (fun c_5 => ?_)
  · refine lv_iload_n hx hb dX6_drop_10 rfl (lv_at hl 3 rfl) ?_
    refine lv_sipush (v := (-999)) hx hb dX6_drop_11 ks_m999 ?_
    refine lv_sipush (v := (nI 999)) hx hb dX6_drop_14 ks_999 ?_
    refine roS CX hE hW.1 (c_X6_in l G cA v (-999) (nI 999) ) (va_cwS 3 hts gX6_drop_X6_in rfl rfl rfl hdn_X6_in ⟨Nat.le_of_ble_eq_true rfl, Nat.le_of_ble_eq_true rfl⟩) [] rfl B0_blind (fun _ _ _ => trivial) rfl hl.1 (rest := []) rfl (Nat.le_of_ble_eq_true rfl) dX6_drop_17 ⟨Nat.zero_le _, Nat.zero_le _⟩ ?_
    refine rb_if_ne hx hb dX6_drop_20 (by decide) (tgt := 26) (fun c_20 => ?_) (fun c_20 => ?_)
    · refine lv_bipush (v := (nI 10)) hx hb dX6_drop_26 kb_10 ?_
      refine lv_iload_n hx hb dX6_drop_28 rfl (lv_at hl 2 rfl) ?_
      refine rn_imul hx hb dX6_drop_29 ?_
      refine lv_iload_n hx hb dX6_drop_30 rfl (lv_at hl 1 rfl) ?_
      refine rn_iadd hx hb dX6_drop_31 ?_
      refine rn_top (nI (ky * 10 + kx)) (by rw [Nat.mul_comm]) ?_
      refine lv_istore (lv' := [(4, .int (nI (ky * 10 + kx))), (0, .ref (m 0)), (1, .int (nI kx)), (2, .int (nI ky)), (3, .int v)]) hx hb dX6_drop_32 hl (by decide) rfl (fun ls hl => ?_)
      refine lv_aload_n hx hb dX6_drop_34 rfl (lv_at hl 1 rfl) ?_
      refine lv_iload hx hb dX6_drop_35 (lv_at hl 0 rfl) ?_
      refine roV CX hE hW.1 (c_X6_isWall l G cA m pm ty z (ky * 10 + kx) (by omega)) (cwV 1 hts gX6_drop_X6_isWall rfl rfl rfl hdv_X6_isWall ⟨Nat.le_of_ble_eq_true rfl, Nat.le_of_ble_eq_true rfl⟩) [0, 1] rfl 0 rfl rfl rfl B0_blind (fun _ _ _ => trivial) rfl hl.1 (rest := []) rfl (Nat.le_of_ble_eq_true rfl) dX6_drop_37 ⟨Nat.zero_le _, Nat.zero_le _⟩ ?_
      refine rb_if_eq hx hb dX6_drop_40 (by decide) (tgt := 46) (fun c_40 => ?_) (fun c_40 => ?_)
      · refine lv_aload_n hx hb dX6_drop_46 rfl (lv_at hl 1 rfl) ?_
        refine muvV (ws' := [(m 0, .inr (6, [.ref (m 1), .ref (m 2), .ref (m 3), .ref (m 4), .int (nI (rec1 pm + 1)), .ref (m 5), .ref (m 6), .int (nI ty), .ref (m 7)])), (m 1, .inl (cA 0, 345, .inl z)), (m 2, .inl (cA 0, 2070, .inl (recP pa z pm)))]) CX hE hW hA (c_X6_record l G cA m pm ty z pa (by omega)) (cwV 0 hts gX6_drop_X6_record rfl rfl rfl hdv_X6_record ⟨Nat.le_of_ble_eq_true rfl, Nat.le_of_ble_eq_true rfl⟩) [0, 1, 2] (by decide) rfl rfl rfl 0 rfl rfl rfl BM0_blind (fun _ _ _ _ => trivial) rfl hl.1 (rest := []) rfl (Nat.le_of_ble_eq_true rfl) dX6_drop_47 ⟨Nat.zero_le _, Nat.zero_le _⟩ (fun H locs hW => ?_)
        refine lv_aload_n hx hb dX6_drop_50 rfl (lv_at hl 1 rfl) ?_
        refine rg (T := TX6) (N := 9) CX hE hW.1 in_X6_drop_X6 0 rfl rfl 0 (by decide) fl_X6_drop_7 rfl rfl dX6_drop_51 ?_
        refine lv_bipush (v := (nI 65)) hx hb dX6_drop_54 kb_65 ?_
        refine lv_iload hx hb dX6_drop_56 (lv_at hl 0 rfl) ?_
        refine rn_iadd hx hb dX6_drop_58 ?_
        refine lv_aload_n hx hb dX6_drop_59 rfl (lv_at hl 1 rfl) ?_
        refine lv_iload hx hb dX6_drop_60 (lv_at hl 0 rfl) ?_
        refine roV CX hE hW.1 (c_X6_now l G cA m (rec1 pm + 1) ty z (ky * 10 + kx) (by omega)) (cwV 1 hts gX6_drop_X6_now rfl rfl rfl hdv_X6_now ⟨Nat.le_of_ble_eq_true rfl, Nat.le_of_ble_eq_true rfl⟩) [0, 1] rfl 0 rfl rfl rfl B0_blind (fun _ _ _ => trivial) rfl hl.1 (rest := [.int (nI (65 + (ky * 10 + kx))), .ref (m 1)]) rfl (Nat.le_of_ble_eq_true rfl) dX6_drop_62 ⟨Nat.zero_le _, Nat.zero_le _⟩ ?_
        refine lv_iload_n hx hb dX6_drop_65 rfl (lv_at hl 4 rfl) ?_
        refine lv_iadd hx hb dX6_drop_66 ?_
        refine roS CX hE hW.1 (c_X6_kept l G cA ((shf 65 z (ky * 10 + kx)) + v) ) (va_cwS 1 hts gX6_drop_X6_kept rfl rfl rfl hdn_X6_kept ⟨Nat.le_of_ble_eq_true rfl, Nat.le_of_ble_eq_true rfl⟩) [] rfl B0_blind (fun _ _ _ => trivial) rfl hl.1 (rest := [.int (nI (65 + (ky * 10 + kx))), .ref (m 1)]) rfl (Nat.le_of_ble_eq_true rfl) dX6_drop_67 ⟨Nat.zero_le _, Nat.zero_le _⟩ ?_
        refine rn_iast (ws' := [(m 0, .inr (6, [.ref (m 1), .ref (m 2), .ref (m 3), .ref (m 4), .int (nI (rec1 pm + 1)), .ref (m 5), .ref (m 6), .int (nI ty), .ref (m 7)])), (m 1, .inl (cA 0, 345, .inl (upd z (65 + (ky * 10 + kx)) (boundF ((shf 65 z (ky * 10 + kx)) + v))))), (m 2, .inl (cA 0, 2070, .inl (recP pa z pm)))]) CX hE hW 1 rfl (j := (65 + (ky * 10 + kx))) (by omega) (ltb rfl) rfl dX6_drop_70 (fun H locs hW => ?_)
        refine lv_aload_n hx hb dX6_drop_71 rfl (lv_at hl 1 rfl) ?_
        refine lv_iload hx hb dX6_drop_72 (lv_at hl 0 rfl) ?_
        refine roV CX hE hW.1 (c_X6_now l G cA m (rec1 pm + 1) ty (upd z (65 + (ky * 10 + kx)) (boundF ((shf 65 z (ky * 10 + kx)) + v))) (ky * 10 + kx) (by omega)) (cwV 1 hts gX6_drop_X6_now rfl rfl rfl hdv_X6_now ⟨Nat.le_of_ble_eq_true rfl, Nat.le_of_ble_eq_true rfl⟩) [0, 1] rfl 0 rfl rfl rfl B0_blind (fun _ _ _ => trivial) rfl hl.1 (rest := []) rfl (Nat.le_of_ble_eq_true rfl) dX6_drop_74 ⟨Nat.zero_le _, Nat.zero_le _⟩ ?_
        refine rn_top (boundF (shf 65 z (ky * 10 + kx) + v)) (updE rfl) ?_
        refine lv_sipush (v := (nI 10000)) hx hb dX6_drop_77 ks_10000 ?_
        refine lv_iadd hx hb dX6_drop_80 ?_
        exact mu_reti CX hr hlk rfl rfl hW dX6_drop_81
      · exact absurd c_40 hw
    · exact absurd hv c_20
  · exact absurd (cellP_of hkx hky) c_5
set_option maxHeartbeats 4000000 in
set_option maxRecDepth 100000 in
theorem c_X6_drop_e (l : Launch) (G : va_G) (cA : Nat → ClassId) (m : Nat → Nat) (pm : Nat) (ty : Nat) (z : Nat → Int32) (x : Int32) (y : Int32) (v : Int32) (hbad : ∀ i j, i < 10 → j < 6 → x = nI i → y = nI j → inP v (-999) (nI 999) → shf 5 z (j * 10 + i) = nI 2) : RO l yX6_drop wsX6_drop ({ frames := 2, cells := 0, slots := 0, locals := 43 }) G cA B0 [(m 0, .inr (6, [.ref (m 1), .ref (m 2), .ref (m 3), .ref (m 4), .int (nI pm), .ref (m 5), .ref (m 6), .int (nI ty), .ref (m 7)])), (m 1, .inl (cA 0, 345, .inl z))] [.ref (m 0), .int x, .int y, .int v] (dropE x y v) := by
  refine RO.mk (own := RX6) (by decide) rfl rfl (Nat.le_of_ble_eq_true rfl) (fun p_ e_ s_ m_ below meth c_ ls CX hr hlk hP hE hB hl => ?_)
  obtain ⟨hx, hb, hml, hown, hts⟩ := id CX
  have hl : lv_has ls 5 [(0, .ref (m 0)), (1, .int x), (2, .int y), (3, .int v)] := hl
  refine lv_iload_n hx hb dX6_drop_0 rfl (lv_at hl 1 rfl) ?_
  refine lv_iload_n hx hb dX6_drop_1 rfl (lv_at hl 2 rfl) ?_
  refine roS CX hE hP (c_X6_isCell l G cA x y ) (va_cwS 2 hts gX6_drop_X6_isCell rfl rfl rfl hdn_X6_isCell ⟨Nat.le_of_ble_eq_true rfl, Nat.le_of_ble_eq_true rfl⟩) [] rfl B0_blind (fun _ _ _ => trivial) rfl hl.1 (rest := []) rfl (Nat.le_of_ble_eq_true rfl) dX6_drop_2 ⟨Nat.zero_le _, Nat.zero_le _⟩ ?_
  refine rb_if_ne hx hb dX6_drop_5 (by decide) (tgt := 10) (fun c_5 => ?_) (fun c_5 => ?_)
  · obtain ⟨kx, ky, hkx, hky, ex, ey⟩ := cellP_nat c_5
    subst ex
    subst ey
    refine lv_iload_n hx hb dX6_drop_10 rfl (lv_at hl 3 rfl) ?_
    refine lv_sipush (v := (-999)) hx hb dX6_drop_11 ks_m999 ?_
    refine lv_sipush (v := (nI 999)) hx hb dX6_drop_14 ks_999 ?_
    refine roS CX hE hP (c_X6_in l G cA v (-999) (nI 999) ) (va_cwS 3 hts gX6_drop_X6_in rfl rfl rfl hdn_X6_in ⟨Nat.le_of_ble_eq_true rfl, Nat.le_of_ble_eq_true rfl⟩) [] rfl B0_blind (fun _ _ _ => trivial) rfl hl.1 (rest := []) rfl (Nat.le_of_ble_eq_true rfl) dX6_drop_17 ⟨Nat.zero_le _, Nat.zero_le _⟩ ?_
    refine rb_if_ne hx hb dX6_drop_20 (by decide) (tgt := 26) (fun c_20 => ?_) (fun c_20 => ?_)
    · refine lv_bipush (v := (nI 10)) hx hb dX6_drop_26 kb_10 ?_
      refine lv_iload_n hx hb dX6_drop_28 rfl (lv_at hl 2 rfl) ?_
      refine rn_imul hx hb dX6_drop_29 ?_
      refine lv_iload_n hx hb dX6_drop_30 rfl (lv_at hl 1 rfl) ?_
      refine rn_iadd hx hb dX6_drop_31 ?_
      refine rn_top (nI (ky * 10 + kx)) (by rw [Nat.mul_comm]) ?_
      refine lv_istore (lv' := [(4, .int (nI (ky * 10 + kx))), (0, .ref (m 0)), (1, .int (nI kx)), (2, .int (nI ky)), (3, .int v)]) hx hb dX6_drop_32 hl (by decide) rfl (fun ls hl => ?_)
      refine lv_aload_n hx hb dX6_drop_34 rfl (lv_at hl 1 rfl) ?_
      refine lv_iload hx hb dX6_drop_35 (lv_at hl 0 rfl) ?_
      refine roV CX hE hP (c_X6_isWall l G cA m pm ty z (ky * 10 + kx) (by omega)) (cwV 1 hts gX6_drop_X6_isWall rfl rfl rfl hdv_X6_isWall ⟨Nat.le_of_ble_eq_true rfl, Nat.le_of_ble_eq_true rfl⟩) [0, 1] rfl 0 rfl rfl rfl B0_blind (fun _ _ _ => trivial) rfl hl.1 (rest := []) rfl (Nat.le_of_ble_eq_true rfl) dX6_drop_37 ⟨Nat.zero_le _, Nat.zero_le _⟩ ?_
      refine rb_if_eq hx hb dX6_drop_40 (by decide) (tgt := 46) (fun c_40 => ?_) (fun c_40 => ?_)
      · exact absurd (hbad kx ky hkx hky rfl rfl c_20) c_40
      · refine lv_bipush (v := (-5)) hx hb dX6_drop_43 kb_m5 ?_
        exact ro_ret CX hr hlk (dropE3 (cellP_of hkx hky) c_20) rfl dX6_drop_45
    · refine lv_bipush (v := (-2)) hx hb dX6_drop_23 kb_m2 ?_
      exact ro_ret CX hr hlk (dropE2 (cellP_of hkx hky) c_20) rfl dX6_drop_25
  · refine lv_iconst (v := (-1)) hx hb dX6_drop_8 (by decide) ?_
    exact ro_ret CX hr hlk (dropE1 c_5) rfl dX6_drop_9
theorem fl_X6_probe_7 : Cond.fieldLink RX6 7 RX6 (TX6 0).2.1 (TX6 0).2.2.1 ∈ wsX6_probe := by decide +kernel
theorem in_X6_probe_X6 : ∀ w ∈ wsX60, w ∈ wsX6_probe := by decide +kernel
set_option maxHeartbeats 4000000 in
set_option maxRecDepth 100000 in
theorem c_X6_probe_k (l : Launch) (G : va_G) (cA : Nat → ClassId) (m : Nat → Nat) (pm : Nat) (ty : Nat) (z : Nat → Int32) (pa : Nat → Int32) (kx : Nat) (ky : Nat) (np : Nat) (hpm : pm ≤ 6) (hkx : kx < 10) (hky : ky < 6) (hnp : np < 3) (hz2 : z 266 = nI np) : MUi l yX6_probe wsX6_probe ({ frames := 2, cells := 0, slots := 0, locals := 43 }) G cA BM0 [(m 0, .inr (6, [.ref (m 1), .ref (m 2), .ref (m 3), .ref (m 4), .int (nI pm), .ref (m 5), .ref (m 6), .int (nI ty), .ref (m 7)])), (m 1, .inl (cA 0, 345, .inl z)), (m 2, .inl (cA 0, 2070, .inl pa))] [.ref (m 0), .int (nI kx), .int (nI ky)] [(m 0, .inr (6, [.ref (m 1), .ref (m 2), .ref (m 3), .ref (m 4), .int (nI (rec1 pm + 1)), .ref (m 5), .ref (m 6), .int (nI ty), .ref (m 7)])), (m 1, .inl (cA 0, 345, .inl (probM z np (ky * 10 + kx)))), (m 2, .inl (cA 0, 2070, .inl (recP pa z pm)))] (nI np) := by
  refine MUi.mk (own := RX6) (by decide) rfl rfl (Nat.le_of_ble_eq_true rfl) (fun p_ e_ s_ m_ below meth c_ ls A_ CX hr hlk hW hA hE hB hl => ?_)
  obtain ⟨hx, hb, hml, hown, hts⟩ := id CX
  have hl : lv_has ls 4 [(0, .ref (m 0)), (1, .int (nI kx)), (2, .int (nI ky))] := hl
  have hW : wld G A_ [(m 0, .inr (6, [.ref (m 1), .ref (m 2), .ref (m 3), .ref (m 4), .int (nI pm), .ref (m 5), .ref (m 6), .int (nI ty), .ref (m 7)])), (m 1, .inl (cA 0, 345, .inl z)), (m 2, .inl (cA 0, 2070, .inl pa))] s_.heap s_.heap [] := hW
  refine lv_iload_n hx hb dX6_probe_0 rfl (lv_at hl 1 rfl) ?_
  refine lv_iload_n hx hb dX6_probe_1 rfl (lv_at hl 2 rfl) ?_
  refine roS CX hE hW.1 (c_X6_isCell l G cA (nI kx) (nI ky) ) (va_cwS 2 hts gX6_probe_X6_isCell rfl rfl rfl hdn_X6_isCell ⟨Nat.le_of_ble_eq_true rfl, Nat.le_of_ble_eq_true rfl⟩) [] rfl B0_blind (fun _ _ _ => trivial) rfl hl.1 (rest := []) rfl (Nat.le_of_ble_eq_true rfl) dX6_probe_2 ⟨Nat.zero_le _, Nat.zero_le _⟩ ?_
  refine rb_if_ne hx hb dX6_probe_5 (by decide) (tgt := 10) (fun c_5 => ?_) (fun c_5 => ?_)
  · refine lv_aload_n hx hb dX6_probe_10 rfl (lv_at hl 0 rfl) ?_
    refine rg (T := TX6) (N := 9) CX hE hW.1 in_X6_probe_X6 0 rfl rfl 0 (by decide) fl_X6_probe_7 rfl rfl dX6_probe_11 ?_
    refine lv_sipush (v := (nI 266)) hx hb dX6_probe_14 ks_266 ?_
    refine rn_iald CX hE hW.1 1 rfl (j := 266) (by omega) (ltb rfl) dX6_probe_17 ?_
    refine rn_top (nI np) hz2 ?_
    refine rn_iconst hx hb 3 rfl dX6_probe_18 ?_
    refine rn_icmp_ne hx hb (by omega) (by omega) dX6_probe_19 (by decide) (tgt := 25) (fun c_19 => ?_) (fun c_19 => ?_)
    · refine lv_aload_n hx hb dX6_probe_25 rfl (lv_at hl 0 rfl) ?_
      refine muvV (ws' := [(m 0, .inr (6, [.ref (m 1), .ref (m 2), .ref (m 3), .ref (m 4), .int (nI (rec1 pm + 1)), .ref (m 5), .ref (m 6), .int (nI ty), .ref (m 7)])), (m 1, .inl (cA 0, 345, .inl z)), (m 2, .inl (cA 0, 2070, .inl (recP pa z pm)))]) CX hE hW hA (c_X6_record l G cA m pm ty z pa (by omega)) (cwV 0 hts gX6_probe_X6_record rfl rfl rfl hdv_X6_record ⟨Nat.le_of_ble_eq_true rfl, Nat.le_of_ble_eq_true rfl⟩) [0, 1, 2] (by decide) rfl rfl rfl 0 rfl rfl rfl BM0_blind (fun _ _ _ _ => trivial) rfl hl.1 (rest := []) rfl (Nat.le_of_ble_eq_true rfl) dX6_probe_26 ⟨Nat.zero_le _, Nat.zero_le _⟩ (fun H locs hW => ?_)
      refine rn_iconst hx hb 0 rfl dX6_probe_29 ?_
      refine lv_istore_n (lv' := [(3, .int (nI 0)), (0, .ref (m 0)), (1, .int (nI kx)), (2, .int (nI ky))]) hx hb dX6_probe_30 rfl hl (by decide) rfl (fun ls hl => ?_)
      have LP_31 : ∀ (nn_ : Nat) (k : Nat) (zz : Nat → Int32), (26 - k) < nn_ → (k ≤ 26) → (zz = rgF (267 + 26 * np) k (fun _ => nI 0) z) → ∀ (H : Heap) (locs : List Loc) (ls : Array Slot), wld G A_ [(m 0, .inr (6, [.ref (m 1), .ref (m 2), .ref (m 3), .ref (m 4), .int (nI (rec1 pm + 1)), .ref (m 5), .ref (m 6), .int (nI ty), .ref (m 7)])), (m 1, .inl (cA 0, 345, .inl zz)), (m 2, .inl (cA 0, 2070, .inl (recP pa z pm)))] s_.heap H locs → lv_has ls 4 [(0, .ref (m 0)), (1, .int (nI kx)), (2, .int (nI ky)), (3, .int (nI k))] → W p_ l e_ ({ frames := 2, cells := 0, slots := 0, locals := 43 } : Room) s_ m_ ([.ref (m 0), .int (nI kx), .int (nI ky)] : List Value).toArray below meth c_ H locs 0 0 (MQ below (va_Qi (fun r_ (_ : Unit) => r_ = (nI np)) (fun _ t_ => va_P G vwCl [(m 0, .inr (6, [.ref (m 1), .ref (m 2), .ref (m 3), .ref (m 4), .int (nI (rec1 pm + 1)), .ref (m 5), .ref (m 6), .int (nI ty), .ref (m 7)])), (m 1, .inl (cA 0, 345, .inl (probM z np (ky * 10 + kx)))), (m 2, .inl (cA 0, 2070, .inl (recP pa z pm)))] t_.heap ∧ va_D A_ [(m 0, .inr (6, [.ref (m 1), .ref (m 2), .ref (m 3), .ref (m 4), .int (nI (rec1 pm + 1)), .ref (m 5), .ref (m 6), .int (nI ty), .ref (m 7)])), (m 1, .inl (cA 0, 345, .inl (probM z np (ky * 10 + kx)))), (m 2, .inl (cA 0, 2070, .inl (recP pa z pm)))]) A_) ([.ref (m 0), .int (nI kx), .int (nI ky)] : List Value).toArray s_ 0 0 A_) (F0 m_ 31 ls []) := by
        intro nn_
        induction nn_ with
        | zero => intro k zz hmu; exact absurd hmu (Nat.not_lt_zero _)
        | succ nn_ ih =>
          have ih_31 := ih
          clear ih
          intro k zz hmu_31 hk hzz H locs ls hW hl
          refine lv_iload_n hx hb dX6_probe_31 rfl (lv_at hl 3 rfl) ?_
          refine lv_bipush (v := (nI 26)) hx hb dX6_probe_32 kb_26 ?_
          refine rn_icmp_ge hx hb (by omega) (by omega) dX6_probe_34 (by decide) (tgt := 66) (fun c_34 => ?_) (fun c_34 => ?_)
          · refine lv_aload_n hx hb dX6_probe_66 rfl (lv_at hl 0 rfl) ?_
            refine rg (T := TX6) (N := 9) CX hE hW.1 in_X6_probe_X6 0 rfl rfl 0 (by decide) fl_X6_probe_7 rfl rfl dX6_probe_67 ?_
            refine lv_sipush (v := (nI 267)) hx hb dX6_probe_70 ks_267 ?_
            refine lv_bipush (v := (nI 26)) hx hb dX6_probe_73 kb_26 ?_
            refine lv_aload_n hx hb dX6_probe_75 rfl (lv_at hl 0 rfl) ?_
            refine rg (T := TX6) (N := 9) CX hE hW.1 in_X6_probe_X6 0 rfl rfl 0 (by decide) fl_X6_probe_7 rfl rfl dX6_probe_76 ?_
            refine lv_sipush (v := (nI 266)) hx hb dX6_probe_79 ks_266 ?_
            refine rn_iald CX hE hW.1 1 rfl (j := 266) (by omega) (ltb rfl) dX6_probe_82 ?_
            refine rn_top (nI np) (by rw [hzz, rgF_out (by omega)]; exact hz2) ?_
            refine rn_imul hx hb dX6_probe_83 ?_
            refine rn_iadd hx hb dX6_probe_84 ?_
            refine lv_bipush (v := (nI 10)) hx hb dX6_probe_85 kb_10 ?_
            refine lv_iload_n hx hb dX6_probe_87 rfl (lv_at hl 2 rfl) ?_
            refine rn_imul hx hb dX6_probe_88 ?_
            refine lv_iload_n hx hb dX6_probe_89 rfl (lv_at hl 1 rfl) ?_
            refine rn_iadd hx hb dX6_probe_90 ?_
            refine rn_top (nI (ky * 10 + kx)) (by rw [Nat.mul_comm]) ?_
            refine rn_iast (ws' := [(m 0, .inr (6, [.ref (m 1), .ref (m 2), .ref (m 3), .ref (m 4), .int (nI (rec1 pm + 1)), .ref (m 5), .ref (m 6), .int (nI ty), .ref (m 7)])), (m 1, .inl (cA 0, 345, .inl (upd zz (267 + (26 * np)) (nI (ky * 10 + kx))))), (m 2, .inl (cA 0, 2070, .inl (recP pa z pm)))]) CX hE hW 1 rfl (j := (267 + (26 * np))) (by omega) (ltb rfl) rfl dX6_probe_91 (fun H locs hW => ?_)
            refine lv_aload_n hx hb dX6_probe_92 rfl (lv_at hl 0 rfl) ?_
            refine rg (T := TX6) (N := 9) CX hE hW.1 in_X6_probe_X6 0 rfl rfl 0 (by decide) fl_X6_probe_7 rfl rfl dX6_probe_93 ?_
            refine lv_sipush (v := (nI 266)) hx hb dX6_probe_96 ks_266 ?_
            refine lv_dup2_11 hx hb dX6_probe_99 rfl rfl ?_
            refine rn_iald CX hE hW.1 1 rfl (j := 266) (by omega) (ltb rfl) dX6_probe_100 ?_
            refine rn_top (nI np) (by rw [updN (by omega), hzz, rgF_out (by omega)]; exact hz2) ?_
            refine rn_iconst hx hb 1 rfl dX6_probe_101 ?_
            refine rn_iadd hx hb dX6_probe_102 ?_
            refine rn_iast (ws' := [(m 0, .inr (6, [.ref (m 1), .ref (m 2), .ref (m 3), .ref (m 4), .int (nI (rec1 pm + 1)), .ref (m 5), .ref (m 6), .int (nI ty), .ref (m 7)])), (m 1, .inl (cA 0, 345, .inl (upd (upd zz (267 + (26 * np)) (nI (ky * 10 + kx))) 266 (nI (np + 1))))), (m 2, .inl (cA 0, 2070, .inl (recP pa z pm)))]) CX hE hW 1 rfl (j := 266) (by omega) (ltb rfl) rfl dX6_probe_103 (fun H locs hW => ?_)
            refine lv_aload_n hx hb dX6_probe_104 rfl (lv_at hl 0 rfl) ?_
            refine rg (T := TX6) (N := 9) CX hE hW.1 in_X6_probe_X6 0 rfl rfl 0 (by decide) fl_X6_probe_7 rfl rfl dX6_probe_105 ?_
            refine lv_sipush (v := (nI 266)) hx hb dX6_probe_108 ks_266 ?_
            refine rn_iald CX hE hW.1 1 rfl (j := 266) (by omega) (ltb rfl) dX6_probe_111 ?_
            refine rn_top (nI (np + 1)) (updE rfl) ?_
            refine rn_iconst hx hb 1 rfl dX6_probe_112 ?_
            refine rn_isub hx hb (by omega) dX6_probe_113 ?_
            have hW := hW.ext (ws' := [(m 0, .inr (6, [.ref (m 1), .ref (m 2), .ref (m 3), .ref (m 4), .int (nI (rec1 pm + 1)), .ref (m 5), .ref (m 6), .int (nI ty), .ref (m 7)])), (m 1, .inl (cA 0, 345, .inl (probM z np (ky * 10 + kx)))), (m 2, .inl (cA 0, 2070, .inl (recP pa z pm)))]) 1 (g := (probM z np (ky * 10 + kx))) rfl (fun j _ => by unfold probM; rw [hzz, show k = 26 by omega]) rfl
            exact mu_reti CX hr hlk (by rw [Nat.add_sub_cancel]) rfl hW dX6_probe_114
          · refine lv_aload_n hx hb dX6_probe_37 rfl (lv_at hl 0 rfl) ?_
            refine rg (T := TX6) (N := 9) CX hE hW.1 in_X6_probe_X6 0 rfl rfl 0 (by decide) fl_X6_probe_7 rfl rfl dX6_probe_38 ?_
            refine lv_sipush (v := (nI 267)) hx hb dX6_probe_41 ks_267 ?_
            refine lv_bipush (v := (nI 26)) hx hb dX6_probe_44 kb_26 ?_
            refine lv_aload_n hx hb dX6_probe_46 rfl (lv_at hl 0 rfl) ?_
            refine rg (T := TX6) (N := 9) CX hE hW.1 in_X6_probe_X6 0 rfl rfl 0 (by decide) fl_X6_probe_7 rfl rfl dX6_probe_47 ?_
            refine lv_sipush (v := (nI 266)) hx hb dX6_probe_50 ks_266 ?_
            refine rn_iald CX hE hW.1 1 rfl (j := 266) (by omega) (ltb rfl) dX6_probe_53 ?_
            refine rn_top (nI np) (by rw [hzz, rgF_out (by omega)]; exact hz2) ?_
            refine rn_imul hx hb dX6_probe_54 ?_
            refine rn_iadd hx hb dX6_probe_55 ?_
            refine lv_iload_n hx hb dX6_probe_56 rfl (lv_at hl 3 rfl) ?_
            refine rn_iadd hx hb dX6_probe_57 ?_
            refine rn_iconst hx hb 0 rfl dX6_probe_58 ?_
            refine rn_iast (ws' := [(m 0, .inr (6, [.ref (m 1), .ref (m 2), .ref (m 3), .ref (m 4), .int (nI (rec1 pm + 1)), .ref (m 5), .ref (m 6), .int (nI ty), .ref (m 7)])), (m 1, .inl (cA 0, 345, .inl (upd zz ((267 + (26 * np)) + k) (nI 0)))), (m 2, .inl (cA 0, 2070, .inl (recP pa z pm)))]) CX hE hW 1 rfl (j := ((267 + (26 * np)) + k)) (by omega) (ltb rfl) rfl dX6_probe_59 (fun H locs hW => ?_)
            refine rn_iinc hx hb (n := 1) (lv' := [(3, .int (nI (k + 1))), (0, .ref (m 0)), (1, .int (nI kx)), (2, .int (nI ky))]) rfl dX6_probe_60 hl (k := 3) rfl (by decide) rfl (fun ls hl => ?_)
            refine lv_goto (tgt := 31) hx hb dX6_probe_63 (by decide) ?_
            exact ih_31 (k + 1) (upd zz ((267 + (26 * np)) + k) (nI 0)) (by omega) (by omega) (rgF_next hzz rfl rfl) _ _ ls hW (lv_sub hl [1, 2, 3, 0] rfl)
      exact LP_31 _ 0 z (Nat.lt_succ_self _) (by omega) rgF_0 _ _ ls hW (lv_sub hl [1, 2, 3, 0] rfl)
    · exact absurd c_19 (by omega)
  · exact absurd (cellP_of hkx hky) c_5
set_option maxHeartbeats 4000000 in
set_option maxRecDepth 100000 in
theorem c_X6_probe_e (l : Launch) (G : va_G) (cA : Nat → ClassId) (m : Nat → Nat) (pm : Nat) (ty : Nat) (z : Nat → Int32) (x : Int32) (y : Int32) (np : Nat) (hz2 : z 266 = nI np) (hnp : np ≤ 3) (hbad : ∀ i j, i < 10 → j < 6 → x = nI i → y = nI j → np = 3) : RO l yX6_probe wsX6_probe ({ frames := 2, cells := 0, slots := 0, locals := 43 }) G cA B0 [(m 0, .inr (6, [.ref (m 1), .ref (m 2), .ref (m 3), .ref (m 4), .int (nI pm), .ref (m 5), .ref (m 6), .int (nI ty), .ref (m 7)])), (m 1, .inl (cA 0, 345, .inl z))] [.ref (m 0), .int x, .int y] (if ¬ cellP x y then -1 else -4) := by
  refine RO.mk (own := RX6) (by decide) rfl rfl (Nat.le_of_ble_eq_true rfl) (fun p_ e_ s_ m_ below meth c_ ls CX hr hlk hP hE hB hl => ?_)
  obtain ⟨hx, hb, hml, hown, hts⟩ := id CX
  have hl : lv_has ls 4 [(0, .ref (m 0)), (1, .int x), (2, .int y)] := hl
  refine lv_iload_n hx hb dX6_probe_0 rfl (lv_at hl 1 rfl) ?_
  refine lv_iload_n hx hb dX6_probe_1 rfl (lv_at hl 2 rfl) ?_
  refine roS CX hE hP (c_X6_isCell l G cA x y ) (va_cwS 2 hts gX6_probe_X6_isCell rfl rfl rfl hdn_X6_isCell ⟨Nat.le_of_ble_eq_true rfl, Nat.le_of_ble_eq_true rfl⟩) [] rfl B0_blind (fun _ _ _ => trivial) rfl hl.1 (rest := []) rfl (Nat.le_of_ble_eq_true rfl) dX6_probe_2 ⟨Nat.zero_le _, Nat.zero_le _⟩ ?_
  refine rb_if_ne hx hb dX6_probe_5 (by decide) (tgt := 10) (fun c_5 => ?_) (fun c_5 => ?_)
  · obtain ⟨kx, ky, hkx, hky, ex, ey⟩ := cellP_nat c_5
    subst ex
    subst ey
    refine lv_aload_n hx hb dX6_probe_10 rfl (lv_at hl 0 rfl) ?_
    refine rg (T := TX6) (N := 9) CX hE hP in_X6_probe_X6 0 rfl rfl 0 (by decide) fl_X6_probe_7 rfl rfl dX6_probe_11 ?_
    refine lv_sipush (v := (nI 266)) hx hb dX6_probe_14 ks_266 ?_
    refine rn_iald CX hE hP 1 rfl (j := 266) (by omega) (ltb rfl) dX6_probe_17 ?_
    refine rn_top (nI np) hz2 ?_
    refine rn_iconst hx hb 3 rfl dX6_probe_18 ?_
    refine rn_icmp_ne hx hb (by omega) (by omega) dX6_probe_19 (by decide) (tgt := 25) (fun c_19 => ?_) (fun c_19 => ?_)
    · exact absurd (hbad kx ky hkx hky rfl rfl) c_19
    · refine lv_bipush (v := (-4)) hx hb dX6_probe_22 kb_m4 ?_
      exact ro_ret CX hr hlk ((if_neg (fun q => q (cellP_of hkx hky))).symm) rfl dX6_probe_24
  · refine lv_iconst (v := (-1)) hx hb dX6_probe_8 (by decide) ?_
    exact ro_ret CX hr hlk ((if_pos c_5).symm) rfl dX6_probe_9
theorem kb_100 : (Int8.ofInt (100)).toInt32 = (nI 100) := by decide +kernel
theorem fl_X6_pass_7 : Cond.fieldLink RX6 7 RX6 (TX6 0).2.1 (TX6 0).2.2.1 ∈ wsX6_pass := by decide +kernel
theorem in_X6_pass_X6 : ∀ w ∈ wsX60, w ∈ wsX6_pass := by decide +kernel
theorem w_X6_pass_cn123 : Cond.constant RX6 123 (100000) ∈ wsX6_pass := by decide +kernel
theorem kl_100000 : (100000 : Int32) = (nI 100000) := by decide +kernel
theorem hdv_X6_ticks : yX6_ticks.cls = RX6 ∧ yX6_ticks.cls ≠ "java/lang/invoke/MethodHandle" ∧ yX6_ticks.cls ≠ "java/lang/invoke/VarHandle" ∧ (parseMethodDescriptor yX6_ticks.desc).map (fun d => d.parameters.length) = some 1 := by decide +kernel
theorem hdv_X6_water : yX6_water.cls = RX6 ∧ yX6_water.cls ≠ "java/lang/invoke/MethodHandle" ∧ yX6_water.cls ≠ "java/lang/invoke/VarHandle" ∧ (parseMethodDescriptor yX6_water.desc).map (fun d => d.parameters.length) = some 0 := by decide +kernel
theorem hdv_X6_stillOnes : yX6_stillOnes.cls = RX6 ∧ yX6_stillOnes.cls ≠ "java/lang/invoke/MethodHandle" ∧ yX6_stillOnes.cls ≠ "java/lang/invoke/VarHandle" ∧ (parseMethodDescriptor yX6_stillOnes.desc).map (fun d => d.parameters.length) = some 0 := by decide +kernel
set_option maxHeartbeats 4000000 in
set_option maxRecDepth 100000 in
theorem c_X6_pass_k (l : Launch) (G : va_G) (cA : Nat → ClassId) (m : Nat → Nat) (pm : Nat) (ty : Nat) (z : Nat → Int32) (pa : Nat → Int32) (th : Nat → Int32) (n : Nat) (nd : Nat) (np : Nat) (tk : Nat) (hpm : pm ≤ 6) (hn1 : 1 ≤ n) (hn : n ≤ 100) (htk : z 4 = nI tk) (htn : tk + n ≤ 100000) (hok : okM z nd np) : MUi l yX6_pass wsX6_pass ({ frames := 7, cells := 0, slots := 0, locals := 156 }) G cA BM0 [(m 0, .inr (6, [.ref (m 1), .ref (m 2), .ref (m 3), .ref (m 4), .int (nI pm), .ref (m 5), .ref (m 6), .int (nI ty), .ref (m 7)])), (m 1, .inl (cA 0, 345, .inl z)), (m 2, .inl (cA 0, 2070, .inl pa)), (m 7, .inl (cA 0, 60, .inl th))] [.ref (m 0), .int (nI n)] [(m 0, .inr (6, [.ref (m 1), .ref (m 2), .ref (m 3), .ref (m 4), .int (nI (rec1 pm + 1)), .ref (m 5), .ref (m 6), .int (nI ty), .ref (m 7)])), (m 1, .inl (cA 0, 345, .inl (runM z nd np n))), (m 2, .inl (cA 0, 2070, .inl (recP pa z pm))), (m 7, .inl (cA 0, 60, .inl (thM z th nd np n)))] (openF (shf 5 (runM z nd np n)) - stillsF (runM z nd np n)) := by
  refine MUi.mk (own := RX6) (by decide) rfl rfl (Nat.le_of_ble_eq_true rfl) (fun p_ e_ s_ m_ below meth c_ ls A_ CX hr hlk hW hA hE hB hl => ?_)
  obtain ⟨hx, hb, hml, hown, hts⟩ := id CX
  have hl : lv_has ls 2 [(0, .ref (m 0)), (1, .int (nI n))] := hl
  have hW : wld G A_ [(m 0, .inr (6, [.ref (m 1), .ref (m 2), .ref (m 3), .ref (m 4), .int (nI pm), .ref (m 5), .ref (m 6), .int (nI ty), .ref (m 7)])), (m 1, .inl (cA 0, 345, .inl z)), (m 2, .inl (cA 0, 2070, .inl pa)), (m 7, .inl (cA 0, 60, .inl th))] s_.heap s_.heap [] := hW
  refine lv_iload_n hx hb dX6_pass_0 rfl (lv_at hl 1 rfl) ?_
  refine rn_iconst hx hb 1 rfl dX6_pass_1 ?_
  refine lv_bipush (v := (nI 100)) hx hb dX6_pass_2 kb_100 ?_
  refine roS CX hE hW.1 (c_X6_in l G cA (nI n) (nI 1) (nI 100) ) (va_cwS 3 hts gX6_pass_X6_in rfl rfl rfl hdn_X6_in ⟨Nat.le_of_ble_eq_true rfl, Nat.le_of_ble_eq_true rfl⟩) [] rfl B0_blind (fun _ _ _ => trivial) rfl hl.1 (rest := []) rfl (Nat.le_of_ble_eq_true rfl) dX6_pass_4 ⟨Nat.zero_le _, Nat.zero_le _⟩ ?_
  refine rb_if_ne hx hb dX6_pass_7 (by decide) (tgt := 13) (fun c_7 => ?_) (fun c_7 => ?_)
  · refine lv_aload_n hx hb dX6_pass_13 rfl (lv_at hl 0 rfl) ?_
    refine rg (T := TX6) (N := 9) CX hE hW.1 in_X6_pass_X6 0 rfl rfl 0 (by decide) fl_X6_pass_7 rfl rfl dX6_pass_14 ?_
    refine rn_iconst hx hb 4 rfl dX6_pass_17 ?_
    refine rn_iald CX hE hW.1 1 rfl (j := 4) (by omega) (ltb rfl) dX6_pass_18 ?_
    refine rn_top (nI tk) htk ?_
    refine lv_iload_n hx hb dX6_pass_19 rfl (lv_at hl 1 rfl) ?_
    refine rn_iadd hx hb dX6_pass_20 ?_
    refine lv_ldc (v := (100000)) hx hb hown (hts _ w_X6_pass_cn123) dX6_pass_21 ?_
    refine rn_top (nI 100000) kl_100000 ?_
    refine rn_icmp_le hx hb (by omega) (by omega) dX6_pass_23 (by decide) (tgt := 29) (fun c_23 => ?_) (fun c_23 => ?_)
    · refine lv_aload_n hx hb dX6_pass_29 rfl (lv_at hl 0 rfl) ?_
      refine muvV (ws' := [(m 0, .inr (6, [.ref (m 1), .ref (m 2), .ref (m 3), .ref (m 4), .int (nI (rec1 pm + 1)), .ref (m 5), .ref (m 6), .int (nI ty), .ref (m 7)])), (m 1, .inl (cA 0, 345, .inl z)), (m 2, .inl (cA 0, 2070, .inl (recP pa z pm))), (m 7, .inl (cA 0, 60, .inl th))]) CX hE hW hA (c_X6_record l G cA m pm ty z pa (by omega)) (cwV 0 hts gX6_pass_X6_record rfl rfl rfl hdv_X6_record ⟨Nat.le_of_ble_eq_true rfl, Nat.le_of_ble_eq_true rfl⟩) [0, 1, 2] (by decide) rfl rfl rfl 0 rfl rfl rfl BM0_blind (fun _ _ _ _ => trivial) rfl hl.1 (rest := []) rfl (Nat.le_of_ble_eq_true rfl) dX6_pass_30 ⟨Nat.zero_le _, Nat.zero_le _⟩ (fun H locs hW => ?_)
      refine lv_aload_n hx hb dX6_pass_33 rfl (lv_at hl 0 rfl) ?_
      refine lv_iload_n hx hb dX6_pass_34 rfl (lv_at hl 1 rfl) ?_
      refine muvV (ws' := [(m 0, .inr (6, [.ref (m 1), .ref (m 2), .ref (m 3), .ref (m 4), .int (nI ((rec1 pm + 1))), .ref (m 5), .ref (m 6), .int (nI ty), .ref (m 7)])), (m 1, .inl (cA 0, 345, .inl (runM z nd np n))), (m 2, .inl (cA 0, 2070, .inl (recP pa z pm))), (m 7, .inl (cA 0, 60, .inl (thM z th nd np n)))]) CX hE hW hA (c_X6_ticks l G cA m (rec1 pm + 1) ty z th nd np n (by omega) (by assumption)) (cwV 1 hts gX6_pass_X6_ticks rfl rfl rfl hdv_X6_ticks ⟨Nat.le_of_ble_eq_true rfl, Nat.le_of_ble_eq_true rfl⟩) [0, 1, 3] (by decide) rfl rfl rfl 0 rfl rfl rfl BM0_blind (fun _ _ _ _ => trivial) rfl hl.1 (rest := []) rfl (Nat.le_of_ble_eq_true rfl) dX6_pass_35 ⟨Nat.zero_le _, Nat.zero_le _⟩ (fun H locs hW => ?_)
      refine lv_aload_n hx hb dX6_pass_38 rfl (lv_at hl 0 rfl) ?_
      refine roV CX hE hW.1 (c_X6_water l G cA m (rec1 pm + 1) ty (runM z nd np n) ) (cwV 0 hts gX6_pass_X6_water rfl rfl rfl hdv_X6_water ⟨Nat.le_of_ble_eq_true rfl, Nat.le_of_ble_eq_true rfl⟩) [0, 1] rfl 0 rfl rfl rfl B0_blind (fun _ _ _ => trivial) rfl hl.1 (rest := []) rfl (Nat.le_of_ble_eq_true rfl) dX6_pass_39 ⟨Nat.zero_le _, Nat.zero_le _⟩ ?_
      refine lv_aload_n hx hb dX6_pass_42 rfl (lv_at hl 0 rfl) ?_
      refine roV CX hE hW.1 (c_X6_stillOnes l G cA m (rec1 pm + 1) ty (runM z nd np n) ) (cwV 0 hts gX6_pass_X6_stillOnes rfl rfl rfl hdv_X6_stillOnes ⟨Nat.le_of_ble_eq_true rfl, Nat.le_of_ble_eq_true rfl⟩) [0, 1] rfl 0 rfl rfl rfl B0_blind (fun _ _ _ => trivial) rfl hl.1 (rest := [.int (openF (shf 5 (runM z nd np n)))]) rfl (Nat.le_of_ble_eq_true rfl) dX6_pass_43 ⟨Nat.zero_le _, Nat.zero_le _⟩ ?_
      refine lv_isub hx hb dX6_pass_46 ?_
      exact mu_reti CX hr hlk rfl rfl hW dX6_pass_47
    · exact absurd c_23 (by omega)
  · exact absurd (inP_nI hn1 hn (by decide)) c_7
set_option maxHeartbeats 4000000 in
set_option maxRecDepth 100000 in
theorem c_X6_pass_e (l : Launch) (G : va_G) (cA : Nat → ClassId) (m : Nat → Nat) (pm : Nat) (ty : Nat) (z : Nat → Int32) (n : Int32) (tk : Nat) (htk : z 4 = nI tk) (htk2 : tk ≤ 100000) (hbad : ∀ k, 1 ≤ k → k ≤ 100 → n = nI k → 100000 < tk + k) : RO l yX6_pass wsX6_pass ({ frames := 1, cells := 0, slots := 0, locals := 22 }) G cA B0 [(m 0, .inr (6, [.ref (m 1), .ref (m 2), .ref (m 3), .ref (m 4), .int (nI pm), .ref (m 5), .ref (m 6), .int (nI ty), .ref (m 7)])), (m 1, .inl (cA 0, 345, .inl z))] [.ref (m 0), .int n] (if ¬ inP n (nI 1) (nI 100) then -2 else -4) := by
  refine RO.mk (own := RX6) (by decide) rfl rfl (Nat.le_of_ble_eq_true rfl) (fun p_ e_ s_ m_ below meth c_ ls CX hr hlk hP hE hB hl => ?_)
  obtain ⟨hx, hb, hml, hown, hts⟩ := id CX
  have hl : lv_has ls 2 [(0, .ref (m 0)), (1, .int n)] := hl
  refine lv_iload_n hx hb dX6_pass_0 rfl (lv_at hl 1 rfl) ?_
  refine rn_iconst hx hb 1 rfl dX6_pass_1 ?_
  refine lv_bipush (v := (nI 100)) hx hb dX6_pass_2 kb_100 ?_
  refine roS CX hE hP (c_X6_in l G cA n (nI 1) (nI 100) ) (va_cwS 3 hts gX6_pass_X6_in rfl rfl rfl hdn_X6_in ⟨Nat.le_of_ble_eq_true rfl, Nat.le_of_ble_eq_true rfl⟩) [] rfl B0_blind (fun _ _ _ => trivial) rfl hl.1 (rest := []) rfl (Nat.le_of_ble_eq_true rfl) dX6_pass_4 ⟨Nat.zero_le _, Nat.zero_le _⟩ ?_
  refine rb_if_ne hx hb dX6_pass_7 (by decide) (tgt := 13) (fun c_7 => ?_) (fun c_7 => ?_)
  · obtain ⟨k, hk1, hk, ek⟩ := inP_nat1 (by decide) c_7 (by decide)
    subst ek
    refine lv_aload_n hx hb dX6_pass_13 rfl (lv_at hl 0 rfl) ?_
    refine rg (T := TX6) (N := 9) CX hE hP in_X6_pass_X6 0 rfl rfl 0 (by decide) fl_X6_pass_7 rfl rfl dX6_pass_14 ?_
    refine rn_iconst hx hb 4 rfl dX6_pass_17 ?_
    refine rn_iald CX hE hP 1 rfl (j := 4) (by omega) (ltb rfl) dX6_pass_18 ?_
    refine rn_top (nI tk) htk ?_
    refine lv_iload_n hx hb dX6_pass_19 rfl (lv_at hl 1 rfl) ?_
    refine rn_iadd hx hb dX6_pass_20 ?_
    refine lv_ldc (v := (100000)) hx hb hown (hts _ w_X6_pass_cn123) dX6_pass_21 ?_
    refine rn_top (nI 100000) kl_100000 ?_
    refine rn_icmp_le hx hb (by omega) (by omega) dX6_pass_23 (by decide) (tgt := 29) (fun c_23 => ?_) (fun c_23 => ?_)
    · exact absurd (hbad k hk1 hk rfl) (by omega)
    · refine lv_bipush (v := (-4)) hx hb dX6_pass_26 kb_m4 ?_
      exact ro_ret CX hr hlk ((if_neg (fun q => q c_7)).symm) rfl dX6_pass_28
  · refine lv_bipush (v := (-2)) hx hb dX6_pass_10 kb_m2 ?_
    exact ro_ret CX hr hlk ((if_pos c_7).symm) rfl dX6_pass_12
