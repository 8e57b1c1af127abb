theorem w_J0_isLatin1_aae02_cs : Cond.fieldLink RJ0 38 "java/lang/String" "COMPACT_STRINGS" "Z" ∈ wsJ0_isLatin1_aae02 := by decide +kernel
theorem w_J0_isLatin1_aae02_cdr : Cond.fieldLink RJ0 15 "java/lang/String" "coder" "B" ∈ wsJ0_isLatin1_aae02 := by decide +kernel
set_option maxHeartbeats 4000000 in
set_option maxRecDepth 100000 in
theorem c_J0_isLatin1_aae02 (l : Launch) (G : va_G) (cA : Nat → ClassId) (q_ : Nat) (v_ : Nat)  : RO l yJ0_isLatin1_aae02 wsJ0_isLatin1_aae02 ({ frames := 0, cells := 0, slots := 0, locals := 0 }) G cA (BS q_ v_) [] [.ref q_] (nI 1) := by
  refine RO.mk (own := RJ0) (by decide) rfl rfl (Nat.le_of_ble_eq_true rfl) (fun p_ e_ s_ m_ below meth c_ ls CX hr hlk hP hE hB hl => ?_)
  obtain ⟨hx, hb, hml, hown, hts⟩ := id CX
  have hl : lv_has ls 1 [(0, .ref q_)] := hl
  refine rq_cs hx hb hB hown (hts _ w_J0_isLatin1_aae02_cs) dJ0_isLatin1_aae02_0 ?_
  refine rn_if_eq hx hb (by omega) dJ0_isLatin1_aae02_3 (by decide) (tgt := 17) (fun c_3 => ?_) (fun c_3 => ?_)
  · exact absurd c_3 (by decide)
  · refine lv_aload_n hx hb dJ0_isLatin1_aae02_6 rfl (lv_at hl 0 rfl) ?_
    refine rq_coder hx hb hB hown (hts _ w_J0_isLatin1_aae02_cdr) dJ0_isLatin1_aae02_7 ?_
    refine rn_if_ne hx hb (by omega) dJ0_isLatin1_aae02_10 (by decide) (tgt := 17) (fun c_10 => ?_) (fun c_10 => ?_)
    · exact absurd rfl c_10
    · refine rn_iconst hx hb 1 rfl dJ0_isLatin1_aae02_13 ?_
      refine lv_goto (tgt := 18) hx hb dJ0_isLatin1_aae02_14 (by decide) ?_
      exact ro_ret CX hr hlk rfl rfl dJ0_isLatin1_aae02_18
theorem w_J0_coder_7d493_cs : Cond.fieldLink RJ0 38 "java/lang/String" "COMPACT_STRINGS" "Z" ∈ wsJ0_coder_7d493 := by decide +kernel
theorem w_J0_coder_7d493_cdr : Cond.fieldLink RJ0 15 "java/lang/String" "coder" "B" ∈ wsJ0_coder_7d493 := by decide +kernel
set_option maxHeartbeats 4000000 in
set_option maxRecDepth 100000 in
theorem c_J0_coder_7d493 (l : Launch) (G : va_G) (cA : Nat → ClassId) (q_ : Nat) (v_ : Nat)  : RO l yJ0_coder_7d493 wsJ0_coder_7d493 ({ frames := 0, cells := 0, slots := 0, locals := 0 }) G cA (BS q_ v_) [] [.ref q_] (nI 0) := by
  refine RO.mk (own := RJ0) (by decide) rfl rfl (Nat.le_of_ble_eq_true rfl) (fun p_ e_ s_ m_ below meth c_ ls CX hr hlk hP hE hB hl => ?_)
  obtain ⟨hx, hb, hml, hown, hts⟩ := id CX
  have hl : lv_has ls 1 [(0, .ref q_)] := hl
  refine rq_cs hx hb hB hown (hts _ w_J0_coder_7d493_cs) dJ0_coder_7d493_0 ?_
  refine rn_if_eq hx hb (by omega) dJ0_coder_7d493_3 (by decide) (tgt := 13) (fun c_3 => ?_) (fun c_3 => ?_)
  · exact absurd c_3 (by decide)
  · refine lv_aload_n hx hb dJ0_coder_7d493_6 rfl (lv_at hl 0 rfl) ?_
    refine rq_coder hx hb hB hown (hts _ w_J0_coder_7d493_cdr) dJ0_coder_7d493_7 ?_
    refine lv_goto (tgt := 14) hx hb dJ0_coder_7d493_10 (by decide) ?_
    exact ro_ret CX hr hlk rfl rfl dJ0_coder_7d493_14
theorem w_J0_length_8abf5_val : Cond.fieldLink RJ0 9 "java/lang/String" "value" "[B" ∈ wsJ0_length_8abf5 := by decide +kernel
theorem hdv_J0_coder_7d493 : yJ0_coder_7d493.cls = RJ0 ∧ yJ0_coder_7d493.cls ≠ "java/lang/invoke/MethodHandle" ∧ yJ0_coder_7d493.cls ≠ "java/lang/invoke/VarHandle" ∧ (parseMethodDescriptor yJ0_coder_7d493.desc).map (fun d => d.parameters.length) = some 0 := by decide +kernel
set_option maxHeartbeats 4000000 in
set_option maxRecDepth 100000 in
theorem c_J0_length_8abf5 (l : Launch) (G : va_G) (cA : Nat → ClassId) (q_ : Nat) (v_ : Nat)  : RO l yJ0_length_8abf5 wsJ0_length_8abf5 ({ frames := 1, cells := 0, slots := 0, locals := 20 }) G cA (BS q_ v_) [] [.ref q_] (nI 4) := by
  refine RO.mk (own := RJ0) (by decide) rfl rfl (Nat.le_of_ble_eq_true rfl) (fun p_ e_ s_ m_ below meth c_ ls CX hr hlk hP hE hB hl => ?_)
  obtain ⟨hx, hb, hml, hown, hts⟩ := id CX
  have hl : lv_has ls 1 [(0, .ref q_)] := hl
  refine lv_aload_n hx hb dJ0_length_8abf5_0 rfl (lv_at hl 0 rfl) ?_
  refine rq_value hx hb hB hown (hts _ w_J0_length_8abf5_val) dJ0_length_8abf5_1 ?_
  refine rq_len hx hb hB dJ0_length_8abf5_4 ?_
  refine lv_aload_n hx hb dJ0_length_8abf5_5 rfl (lv_at hl 0 rfl) ?_
  refine roVq CX hE (c_J0_coder_7d493 l G cA q_ v_ ) (cwV 0 hts gJ0_length_8abf5_J0_coder_7d493 rfl rfl rfl hdv_J0_coder_7d493 ⟨Nat.le_of_ble_eq_true rfl, Nat.le_of_ble_eq_true rfl⟩) hB (BS_blind q_ v_) (fun U hU hW => hB.use rfl hU hW) rfl hl.1 (rest := [.int (nI 4)]) rfl (Nat.le_of_ble_eq_true rfl) dJ0_length_8abf5_6 ⟨Nat.zero_le _, Nat.zero_le _⟩ ?_
  refine lv_ishr hx hb dJ0_length_8abf5_9 ?_
  refine rn_top (nI 4) (by decide +kernel) ?_
  exact ro_ret CX hr hlk rfl rfl dJ0_length_8abf5_10
theorem ks_255 : (Int16.ofInt (255)).toInt32 = (nI 255) := by decide +kernel
set_option maxHeartbeats 4000000 in
set_option maxRecDepth 100000 in
theorem c_J1_canEncode_9a6ad (l : Launch) (G : va_G) (cA : Nat → ClassId) (c : Int32)  : RO l yJ1_canEncode_9a6ad wsJ1_canEncode_9a6ad ({ frames := 0, cells := 0, slots := 0, locals := 0 }) G cA B0 [] [.int c] (b2i (0 ≤ c ∧ c ≤ nI 255)) := by
  refine RO.mk (own := RJ1) (by decide) rfl rfl (Nat.le_of_ble_eq_true rfl) (fun p_ e_ s_ m_ below meth c_ ls CX hr hlk hP hE hB hl => ?_)
  obtain ⟨hx, hb, hml, hown, hts⟩ := id CX
  have hl : lv_has ls 1 [(0, .int c)] := hl
  refine lv_iload_n hx hb dJ1_canEncode_9a6ad_0 rfl (lv_at hl 0 rfl) ?_
  refine lv_if_lt hx hb dJ1_canEncode_9a6ad_1 (by decide) (tgt := 15) (fun c_1 => ?_) (fun c_1 => ?_)
  · refine rn_iconst hx hb 0 rfl dJ1_canEncode_9a6ad_15 ?_
    exact ro_ret CX hr hlk (by first | exact b2i_t ⟨Int32.not_lt.mp c_1, Int32.not_lt.mp c_8⟩ | exact b2i_f (fun h => absurd c_1 (Int32.not_lt.mpr h.1)) | exact b2i_f (fun h => absurd h.2 (Int32.not_le.mpr c_8))) rfl dJ1_canEncode_9a6ad_16
  · refine lv_iload_n hx hb dJ1_canEncode_9a6ad_4 rfl (lv_at hl 0 rfl) ?_
    refine lv_sipush (v := (nI 255)) hx hb dJ1_canEncode_9a6ad_5 ks_255 ?_
    refine lv_icmp_gt hx hb dJ1_canEncode_9a6ad_8 (by decide) (tgt := 15) (fun c_8 => ?_) (fun c_8 => ?_)
    · refine rn_iconst hx hb 0 rfl dJ1_canEncode_9a6ad_15 ?_
      exact ro_ret CX hr hlk (by first | exact b2i_t ⟨Int32.not_lt.mp c_1, Int32.not_lt.mp c_8⟩ | exact b2i_f (fun h => absurd c_1 (Int32.not_lt.mpr h.1)) | exact b2i_f (fun h => absurd h.2 (Int32.not_le.mpr c_8))) rfl dJ1_canEncode_9a6ad_16
    · refine rn_iconst hx hb 1 rfl dJ1_canEncode_9a6ad_11 ?_
      refine lv_goto (tgt := 16) hx hb dJ1_canEncode_9a6ad_12 (by decide) ?_
      exact ro_ret CX hr hlk (by first | exact b2i_t ⟨Int32.not_lt.mp c_1, Int32.not_lt.mp c_8⟩ | exact b2i_f (fun h => absurd c_1 (Int32.not_lt.mpr h.1)) | exact b2i_f (fun h => absurd h.2 (Int32.not_le.mpr c_8))) rfl dJ1_canEncode_9a6ad_16
set_option maxHeartbeats 4000000 in
set_option maxRecDepth 100000 in
theorem c_J1_indexOfChar_4cfef (l : Launch) (G : va_G) (cA : Nat → ClassId) (q_ : Nat) (v_ : Nat) (n : Nat) (hn : n < 256) : RO l yJ1_indexOfChar_4cfef wsJ1_indexOfChar_4cfef ({ frames := 0, cells := 0, slots := 0, locals := 0 }) G cA (BS q_ v_) [] [.ref v_, .int (nI n), .int (nI 0), .int (nI 4)] (idxF (nI n)) := by
  refine RO.mk (own := RJ1) (by decide) rfl rfl (Nat.le_of_ble_eq_true rfl) (fun p_ e_ s_ m_ below meth c_ ls CX hr hlk hP hE hB hl => ?_)
  obtain ⟨hx, hb, hml, hown, hts⟩ := id CX
  have hl : lv_has ls 6 [(0, .ref v_), (1, .int (nI n)), (2, .int (nI 0)), (3, .int (nI 4))] := hl
  refine lv_iload_n hx hb dJ1_indexOfChar_4cfef_0 rfl (lv_at hl 1 rfl) ?_
  refine lv_i2b hx hb dJ1_indexOfChar_4cfef_1 rfl ?_
  refine lv_istore (lv' := [(4, .int (((nI n)).toInt8.toInt32)), (0, .ref v_), (1, .int (nI n)), (2, .int (nI 0)), (3, .int (nI 4))]) hx hb dJ1_indexOfChar_4cfef_2 hl (by decide) rfl (fun ls hl => ?_)
  refine lv_iload_n hx hb dJ1_indexOfChar_4cfef_4 rfl (lv_at hl 3 rfl) ?_
  refine lv_istore (lv' := [(5, .int (nI 0)), (4, .int (((nI n)).toInt8.toInt32)), (0, .ref v_), (1, .int (nI n)), (2, .int (nI 0)), (3, .int (nI 4))]) hx hb dJ1_indexOfChar_4cfef_5 hl (by decide) rfl (fun ls hl => ?_)
  refine lv_iload hx hb dJ1_indexOfChar_4cfef_7 (lv_at hl 0 rfl) ?_
  refine lv_iload_n hx hb dJ1_indexOfChar_4cfef_9 rfl (lv_at hl 5 rfl) ?_
  refine rn_icmp_ge hx hb (by omega) (by omega) dJ1_indexOfChar_4cfef_10 (by decide) (tgt := 31) (fun c_10 => ?_) (fun c_10 => ?_)
  · exact absurd c_10 (by omega)
  · refine lv_aload_n hx hb dJ1_indexOfChar_4cfef_13 rfl (lv_at hl 2 rfl) ?_
    refine lv_iload hx hb dJ1_indexOfChar_4cfef_14 (lv_at hl 0 rfl) ?_
    refine rq_byte hx hb hB (j := 0) (by decide) (x := nI 46) (by decide +kernel) dJ1_indexOfChar_4cfef_16 ?_
    refine lv_iload hx hb dJ1_indexOfChar_4cfef_17 (lv_at hl 1 rfl) ?_
    refine lv_icmp_ne hx hb dJ1_indexOfChar_4cfef_19 (by decide) (tgt := 25) (fun c_19 => ?_) (fun c_19 => ?_)
    · refine rn_iinc hx hb (n := 1) (lv' := [(5, .int (nI 1)), (4, .int (((nI n)).toInt8.toInt32)), (0, .ref v_), (1, .int (nI n)), (2, .int (nI 0)), (3, .int (nI 4))]) rfl dJ1_indexOfChar_4cfef_25 hl (k := 0) rfl (by decide) rfl (fun ls hl => ?_)
      refine lv_goto (tgt := 7) hx hb dJ1_indexOfChar_4cfef_28 (by decide) ?_
      refine lv_iload hx hb dJ1_indexOfChar_4cfef_7 (lv_at hl 0 rfl) ?_
      refine lv_iload_n hx hb dJ1_indexOfChar_4cfef_9 rfl (lv_at hl 5 rfl) ?_
      refine rn_icmp_ge hx hb (by omega) (by omega) dJ1_indexOfChar_4cfef_10 (by decide) (tgt := 31) (fun c_10 => ?_) (fun c_10 => ?_)
      · exact absurd c_10 (by omega)
      · refine lv_aload_n hx hb dJ1_indexOfChar_4cfef_13 rfl (lv_at hl 2 rfl) ?_
        refine lv_iload hx hb dJ1_indexOfChar_4cfef_14 (lv_at hl 0 rfl) ?_
        refine rq_byte hx hb hB (j := 1) (by decide) (x := nI 45) (by decide +kernel) dJ1_indexOfChar_4cfef_16 ?_
        refine lv_iload hx hb dJ1_indexOfChar_4cfef_17 (lv_at hl 1 rfl) ?_
        refine lv_icmp_ne hx hb dJ1_indexOfChar_4cfef_19 (by decide) (tgt := 25) (fun c_19 => ?_) (fun c_19 => ?_)
        · refine rn_iinc hx hb (n := 1) (lv' := [(5, .int (nI 2)), (4, .int (((nI n)).toInt8.toInt32)), (0, .ref v_), (1, .int (nI n)), (2, .int (nI 0)), (3, .int (nI 4))]) rfl dJ1_indexOfChar_4cfef_25 hl (k := 0) rfl (by decide) rfl (fun ls hl => ?_)
          refine lv_goto (tgt := 7) hx hb dJ1_indexOfChar_4cfef_28 (by decide) ?_
          refine lv_iload hx hb dJ1_indexOfChar_4cfef_7 (lv_at hl 0 rfl) ?_
          refine lv_iload_n hx hb dJ1_indexOfChar_4cfef_9 rfl (lv_at hl 5 rfl) ?_
          refine rn_icmp_ge hx hb (by omega) (by omega) dJ1_indexOfChar_4cfef_10 (by decide) (tgt := 31) (fun c_10 => ?_) (fun c_10 => ?_)
          · exact absurd c_10 (by omega)
          · refine lv_aload_n hx hb dJ1_indexOfChar_4cfef_13 rfl (lv_at hl 2 rfl) ?_
            refine lv_iload hx hb dJ1_indexOfChar_4cfef_14 (lv_at hl 0 rfl) ?_
            refine rq_byte hx hb hB (j := 2) (by decide) (x := nI 35) (by decide +kernel) dJ1_indexOfChar_4cfef_16 ?_
            refine lv_iload hx hb dJ1_indexOfChar_4cfef_17 (lv_at hl 1 rfl) ?_
            refine lv_icmp_ne hx hb dJ1_indexOfChar_4cfef_19 (by decide) (tgt := 25) (fun c_19 => ?_) (fun c_19 => ?_)
            · refine rn_iinc hx hb (n := 1) (lv' := [(5, .int (nI 3)), (4, .int (((nI n)).toInt8.toInt32)), (0, .ref v_), (1, .int (nI n)), (2, .int (nI 0)), (3, .int (nI 4))]) rfl dJ1_indexOfChar_4cfef_25 hl (k := 0) rfl (by decide) rfl (fun ls hl => ?_)
              refine lv_goto (tgt := 7) hx hb dJ1_indexOfChar_4cfef_28 (by decide) ?_
              refine lv_iload hx hb dJ1_indexOfChar_4cfef_7 (lv_at hl 0 rfl) ?_
              refine lv_iload_n hx hb dJ1_indexOfChar_4cfef_9 rfl (lv_at hl 5 rfl) ?_
              refine rn_icmp_ge hx hb (by omega) (by omega) dJ1_indexOfChar_4cfef_10 (by decide) (tgt := 31) (fun c_10 => ?_) (fun c_10 => ?_)
              · exact absurd c_10 (by omega)
              · refine lv_aload_n hx hb dJ1_indexOfChar_4cfef_13 rfl (lv_at hl 2 rfl) ?_
                refine lv_iload hx hb dJ1_indexOfChar_4cfef_14 (lv_at hl 0 rfl) ?_
                refine rq_byte hx hb hB (j := 3) (by decide) (x := nI 126) (by decide +kernel) dJ1_indexOfChar_4cfef_16 ?_
                refine lv_iload hx hb dJ1_indexOfChar_4cfef_17 (lv_at hl 1 rfl) ?_
                refine lv_icmp_ne hx hb dJ1_indexOfChar_4cfef_19 (by decide) (tgt := 25) (fun c_19 => ?_) (fun c_19 => ?_)
                · refine rn_iinc hx hb (n := 1) (lv' := [(5, .int (nI 4)), (4, .int (((nI n)).toInt8.toInt32)), (0, .ref v_), (1, .int (nI n)), (2, .int (nI 0)), (3, .int (nI 4))]) rfl dJ1_indexOfChar_4cfef_25 hl (k := 0) rfl (by decide) rfl (fun ls hl => ?_)
                  refine lv_goto (tgt := 7) hx hb dJ1_indexOfChar_4cfef_28 (by decide) ?_
                  refine lv_iload hx hb dJ1_indexOfChar_4cfef_7 (lv_at hl 0 rfl) ?_
                  refine lv_iload_n hx hb dJ1_indexOfChar_4cfef_9 rfl (lv_at hl 5 rfl) ?_
                  refine rn_icmp_ge hx hb (by omega) (by omega) dJ1_indexOfChar_4cfef_10 (by decide) (tgt := 31) (fun c_10 => ?_) (fun c_10 => ?_)
                  · refine lv_iconst (v := (-1)) hx hb dJ1_indexOfChar_4cfef_31 (by decide) ?_
                    exact ro_ret CX hr hlk (by rw [idx_nat hn]; simp_all [by46, by45, by35, by126]) rfl dJ1_indexOfChar_4cfef_32
                  · exact absurd c_10 (by omega)
                · refine lv_iload hx hb dJ1_indexOfChar_4cfef_22 (lv_at hl 0 rfl) ?_
                  exact ro_ret CX hr hlk (by rw [idx_nat hn]; simp_all [by46, by45, by35, by126]) rfl dJ1_indexOfChar_4cfef_24
            · refine lv_iload hx hb dJ1_indexOfChar_4cfef_22 (lv_at hl 0 rfl) ?_
              exact ro_ret CX hr hlk (by rw [idx_nat hn]; simp_all [by46, by45, by35, by126]) rfl dJ1_indexOfChar_4cfef_24
        · refine lv_iload hx hb dJ1_indexOfChar_4cfef_22 (lv_at hl 0 rfl) ?_
          exact ro_ret CX hr hlk (by rw [idx_nat hn]; simp_all [by46, by45, by35, by126]) rfl dJ1_indexOfChar_4cfef_24
    · refine lv_iload hx hb dJ1_indexOfChar_4cfef_22 (lv_at hl 0 rfl) ?_
      exact ro_ret CX hr hlk (by rw [idx_nat hn]; simp_all [by46, by45, by35, by126]) rfl dJ1_indexOfChar_4cfef_24
theorem hdn_J1_canEncode_9a6ad : yJ1_canEncode_9a6ad.cls ≠ "java/lang/invoke/MethodHandle" ∧ yJ1_canEncode_9a6ad.cls ≠ "java/lang/invoke/VarHandle" ∧ (parseMethodDescriptor yJ1_canEncode_9a6ad.desc).map (fun d => d.parameters.length) = some 1 := by decide +kernel
theorem w_J1_indexOf_4cfef_mmaxl : Cond.methodLink RJ1 92 Lib.Math.max.name ∈ wsJ1_indexOf_4cfef := by decide +kernel
theorem w_J1_indexOf_4cfef_mmaxs : Cond.static Lib.Math.max.name ∈ wsJ1_indexOf_4cfef := by decide +kernel
theorem w_J1_indexOf_4cfef_mini : Cond.initialized "java/lang/Math" ∈ wsJ1_indexOf_4cfef := by decide +kernel
theorem w_J1_indexOf_4cfef_mmaxc : Cond.code Lib.Math.max.name Lib.Math.max.code 2 (some .int) ∈ wsJ1_indexOf_4cfef := by decide +kernel
theorem w_J1_indexOf_4cfef_mminl : Cond.methodLink RJ1 38 Lib.Math.min.name ∈ wsJ1_indexOf_4cfef := by decide +kernel
theorem w_J1_indexOf_4cfef_mmins : Cond.static Lib.Math.min.name ∈ wsJ1_indexOf_4cfef := by decide +kernel
theorem w_J1_indexOf_4cfef_mminc : Cond.code Lib.Math.min.name Lib.Math.min.code 2 (some .int) ∈ wsJ1_indexOf_4cfef := by decide +kernel
theorem hdn_J1_indexOfChar_4cfef : yJ1_indexOfChar_4cfef.cls ≠ "java/lang/invoke/MethodHandle" ∧ yJ1_indexOfChar_4cfef.cls ≠ "java/lang/invoke/VarHandle" ∧ (parseMethodDescriptor yJ1_indexOfChar_4cfef.desc).map (fun d => d.parameters.length) = some 4 := by decide +kernel
set_option maxHeartbeats 4000000 in
set_option maxRecDepth 100000 in
theorem c_J1_indexOf_4cfef (l : Launch) (G : va_G) (cA : Nat → ClassId) (q_ : Nat) (v_ : Nat) (c : Int32)  : RO l yJ1_indexOf_4cfef wsJ1_indexOf_4cfef ({ frames := 1, cells := 0, slots := 0, locals := 25 }) G cA (BS q_ v_) [] [.ref v_, .int c, .int (nI 0), .int (nI 4)] (idxF c) := by
  refine RO.mk (own := RJ1) (by decide) rfl rfl (Nat.le_of_ble_eq_true rfl) (fun p_ e_ s_ m_ below meth c_ ls CX hr hlk hP hE hB hl => ?_)
  obtain ⟨hx, hb, hml, hown, hts⟩ := id CX
  have hl : lv_has ls 4 [(0, .ref v_), (1, .int c), (2, .int (nI 0)), (3, .int (nI 4))] := hl
  refine lv_iload_n hx hb dJ1_indexOf_4cfef_0 rfl (lv_at hl 1 rfl) ?_
  refine roS CX hE hP (c_J1_canEncode_9a6ad l G cA c ) (va_cwS 1 hts gJ1_indexOf_4cfef_J1_canEncode_9a6ad rfl rfl rfl hdn_J1_canEncode_9a6ad ⟨Nat.le_of_ble_eq_true rfl, Nat.le_of_ble_eq_true rfl⟩) [] rfl B0_blind (fun _ _ _ => trivial) rfl hl.1 (rest := []) rfl (Nat.le_of_ble_eq_true rfl) dJ1_indexOf_4cfef_1 ⟨Nat.zero_le _, Nat.zero_le _⟩ ?_
  refine rb_if_ne hx hb dJ1_indexOf_4cfef_4 (by decide) (tgt := 9) (fun c_4 => ?_) (fun c_4 => ?_)
  · obtain ⟨n, hn, en⟩ := inD_nat (x := c) (n := 256) ⟨c_4.1, Int32.lt_of_le_of_lt c_4.2 (by decide +kernel)⟩ (by decide)
    subst en
    refine lv_iload_n hx hb dJ1_indexOf_4cfef_9 rfl (lv_at hl 2 rfl) ?_
    refine rn_iconst hx hb 0 rfl dJ1_indexOf_4cfef_10 ?_
    refine va_mmax hx hb (by rw [hml]; exact hl.1.symm) hown (hts _ w_J1_indexOf_4cfef_mmaxl) (hts _ w_J1_indexOf_4cfef_mmaxs) (hts _ w_J1_indexOf_4cfef_mini) (hts _ w_J1_indexOf_4cfef_mmaxc) (Nat.le_of_ble_eq_true rfl) (Nat.le_of_ble_eq_true rfl) (Nat.zero_le _) (Nat.zero_le _) dJ1_indexOf_4cfef_11 ?_
    refine rn_top (imax (nI 0) (nI 0)) rfl ?_
    refine rn_top (nI 0) (by decide +kernel) ?_
    refine lv_istore_n (lv' := [(2, .int (nI 0)), (0, .ref v_), (1, .int (nI n)), (3, .int (nI 4))]) hx hb dJ1_indexOf_4cfef_14 rfl hl (by decide) rfl (fun ls hl => ?_)
    refine lv_iload_n hx hb dJ1_indexOf_4cfef_15 rfl (lv_at hl 3 rfl) ?_
    refine lv_aload_n hx hb dJ1_indexOf_4cfef_16 rfl (lv_at hl 1 rfl) ?_
    refine rq_len hx hb hB dJ1_indexOf_4cfef_17 ?_
    refine va_mmin hx hb (by rw [hml]; exact hl.1.symm) hown (hts _ w_J1_indexOf_4cfef_mminl) (hts _ w_J1_indexOf_4cfef_mmins) (hts _ w_J1_indexOf_4cfef_mini) (hts _ w_J1_indexOf_4cfef_mminc) (Nat.le_of_ble_eq_true rfl) (Nat.le_of_ble_eq_true rfl) (Nat.zero_le _) (Nat.zero_le _) dJ1_indexOf_4cfef_18 ?_
    refine rn_top (imin (nI 4) (nI 4)) rfl ?_
    refine rn_top (nI 4) (by decide +kernel) ?_
    refine lv_istore_n (lv' := [(3, .int (nI 4)), (2, .int (nI 0)), (0, .ref v_), (1, .int (nI n))]) hx hb dJ1_indexOf_4cfef_21 rfl hl (by decide) rfl (fun ls hl => ?_)
    refine lv_iload_n hx hb dJ1_indexOf_4cfef_22 rfl (lv_at hl 1 rfl) ?_
    refine lv_iload_n hx hb dJ1_indexOf_4cfef_23 rfl (lv_at hl 0 rfl) ?_
    refine rn_icmp_lt hx hb (by omega) (by omega) dJ1_indexOf_4cfef_24 (by decide) (tgt := 29) (fun c_24 => ?_) (fun c_24 => ?_)
    · refine lv_aload_n hx hb dJ1_indexOf_4cfef_29 rfl (lv_at hl 2 rfl) ?_
      refine lv_iload_n hx hb dJ1_indexOf_4cfef_30 rfl (lv_at hl 3 rfl) ?_
      refine lv_iload_n hx hb dJ1_indexOf_4cfef_31 rfl (lv_at hl 1 rfl) ?_
      refine lv_iload_n hx hb dJ1_indexOf_4cfef_32 rfl (lv_at hl 0 rfl) ?_
      refine roS CX hE hP (c_J1_indexOfChar_4cfef l G cA q_ v_ n (by omega)) (va_cwS 4 hts gJ1_indexOf_4cfef_J1_indexOfChar_4cfef rfl rfl rfl hdn_J1_indexOfChar_4cfef ⟨Nat.le_of_ble_eq_true rfl, Nat.le_of_ble_eq_true rfl⟩) [] rfl (BS_blind q_ v_) (fun U hU hW => hB.use rfl hU hW) rfl hl.1 (rest := []) rfl (Nat.le_of_ble_eq_true rfl) dJ1_indexOf_4cfef_33 ⟨Nat.zero_le _, Nat.zero_le _⟩ ?_
      exact ro_ret CX hr hlk rfl rfl dJ1_indexOf_4cfef_36
    · exact absurd c_24 (by omega)
  · refine lv_iconst (v := (-1)) hx hb dJ1_indexOf_4cfef_7 (by decide) ?_
    exact ro_ret CX hr hlk ((idx_out c_4).symm) rfl dJ1_indexOf_4cfef_8
theorem hdv_J0_isLatin1_aae02 : yJ0_isLatin1_aae02.cls = RJ0 ∧ yJ0_isLatin1_aae02.cls ≠ "java/lang/invoke/MethodHandle" ∧ yJ0_isLatin1_aae02.cls ≠ "java/lang/invoke/VarHandle" ∧ (parseMethodDescriptor yJ0_isLatin1_aae02.desc).map (fun d => d.parameters.length) = some 0 := by decide +kernel
theorem w_J0_indexOf_7cf53_val : Cond.fieldLink RJ0 9 "java/lang/String" "value" "[B" ∈ wsJ0_indexOf_7cf53 := by decide +kernel
theorem hdv_J0_length_8abf5 : yJ0_length_8abf5.cls = RJ0 ∧ yJ0_length_8abf5.cls ≠ "java/lang/invoke/MethodHandle" ∧ yJ0_length_8abf5.cls ≠ "java/lang/invoke/VarHandle" ∧ (parseMethodDescriptor yJ0_length_8abf5.desc).map (fun d => d.parameters.length) = some 0 := by decide +kernel
theorem hdn_J1_indexOf_4cfef : yJ1_indexOf_4cfef.cls ≠ "java/lang/invoke/MethodHandle" ∧ yJ1_indexOf_4cfef.cls ≠ "java/lang/invoke/VarHandle" ∧ (parseMethodDescriptor yJ1_indexOf_4cfef.desc).map (fun d => d.parameters.length) = some 4 := by decide +kernel
set_option maxHeartbeats 4000000 in
set_option maxRecDepth 100000 in
theorem c_J0_indexOf_7cf53 (l : Launch) (G : va_G) (cA : Nat → ClassId) (q_ : Nat) (v_ : Nat) (c : Int32)  : RO l yJ0_indexOf_7cf53 wsJ0_indexOf_7cf53 ({ frames := 2, cells := 0, slots := 0, locals := 48 }) G cA (BS q_ v_) [] [.ref q_, .int c, .int (nI 0)] (idxF c) := by
  refine RO.mk (own := RJ0) (by decide) rfl rfl (Nat.le_of_ble_eq_true rfl) (fun p_ e_ s_ m_ below meth c_ ls CX hr hlk hP hE hB hl => ?_)
  obtain ⟨hx, hb, hml, hown, hts⟩ := id CX
  have hl : lv_has ls 3 [(0, .ref q_), (1, .int c), (2, .int (nI 0))] := hl
  refine lv_aload_n hx hb dJ0_indexOf_7cf53_0 rfl (lv_at hl 0 rfl) ?_
  refine roVq CX hE (c_J0_isLatin1_aae02 l G cA q_ v_ ) (cwV 0 hts gJ0_indexOf_7cf53_J0_isLatin1_aae02 rfl rfl rfl hdv_J0_isLatin1_aae02 ⟨Nat.le_of_ble_eq_true rfl, Nat.le_of_ble_eq_true rfl⟩) hB (BS_blind q_ v_) (fun U hU hW => hB.use rfl hU hW) rfl hl.1 (rest := []) rfl (Nat.le_of_ble_eq_true rfl) dJ0_indexOf_7cf53_1 ⟨Nat.zero_le _, Nat.zero_le _⟩ ?_
  refine rn_if_eq hx hb (by omega) dJ0_indexOf_7cf53_4 (by decide) (tgt := 23) (fun c_4 => ?_) (fun c_4 => ?_)
  · exact absurd c_4 (by decide)
  · refine lv_aload_n hx hb dJ0_indexOf_7cf53_7 rfl (lv_at hl 0 rfl) ?_
    refine rq_value hx hb hB hown (hts _ w_J0_indexOf_7cf53_val) dJ0_indexOf_7cf53_8 ?_
    refine lv_iload_n hx hb dJ0_indexOf_7cf53_11 rfl (lv_at hl 1 rfl) ?_
    refine lv_iload_n hx hb dJ0_indexOf_7cf53_12 rfl (lv_at hl 2 rfl) ?_
    refine lv_aload_n hx hb dJ0_indexOf_7cf53_13 rfl (lv_at hl 0 rfl) ?_
    refine roVq CX hE (c_J0_length_8abf5 l G cA q_ v_ ) (cwV 0 hts gJ0_indexOf_7cf53_J0_length_8abf5 rfl rfl rfl hdv_J0_length_8abf5 ⟨Nat.le_of_ble_eq_true rfl, Nat.le_of_ble_eq_true rfl⟩) hB (BS_blind q_ v_) (fun U hU hW => hB.use rfl hU hW) rfl hl.1 (rest := [.int (nI 0), .int c, .ref v_]) rfl (Nat.le_of_ble_eq_true rfl) dJ0_indexOf_7cf53_14 ⟨Nat.zero_le _, Nat.zero_le _⟩ ?_
    refine roS CX hE hP (c_J1_indexOf_4cfef l G cA q_ v_ c ) (va_cwS 4 hts gJ0_indexOf_7cf53_J1_indexOf_4cfef rfl rfl rfl hdn_J1_indexOf_4cfef ⟨Nat.le_of_ble_eq_true rfl, Nat.le_of_ble_eq_true rfl⟩) [] rfl (BS_blind q_ v_) (fun U hU hW => hB.use rfl hU hW) rfl hl.1 (rest := []) rfl (Nat.le_of_ble_eq_true rfl) dJ0_indexOf_7cf53_17 ⟨Nat.zero_le _, Nat.zero_le _⟩ ?_
    refine lv_goto (tgt := 36) hx hb dJ0_indexOf_7cf53_20 (by decide) ?_
    exact ro_ret CX hr hlk rfl rfl dJ0_indexOf_7cf53_36
theorem hdv_J0_indexOf_7cf53 : yJ0_indexOf_7cf53.cls = RJ0 ∧ yJ0_indexOf_7cf53.cls ≠ "java/lang/invoke/MethodHandle" ∧ yJ0_indexOf_7cf53.cls ≠ "java/lang/invoke/VarHandle" ∧ (parseMethodDescriptor yJ0_indexOf_7cf53.desc).map (fun d => d.parameters.length) = some 2 := by decide +kernel
set_option maxHeartbeats 4000000 in
set_option maxRecDepth 100000 in
theorem c_J0_indexOf_0f7a4 (l : Launch) (G : va_G) (cA : Nat → ClassId) (q_ : Nat) (v_ : Nat) (c : Int32)  : RO l yJ0_indexOf_0f7a4 wsJ0_indexOf_0f7a4 ({ frames := 3, cells := 0, slots := 0, locals := 70 }) G cA (BS q_ v_) [] [.ref q_, .int c] (idxF c) := by
  refine RO.mk (own := RJ0) (by decide) rfl rfl (Nat.le_of_ble_eq_true rfl) (fun p_ e_ s_ m_ below meth c_ ls CX hr hlk hP hE hB hl => ?_)
  obtain ⟨hx, hb, hml, hown, hts⟩ := id CX
  have hl : lv_has ls 2 [(0, .ref q_), (1, .int c)] := hl
  refine lv_aload_n hx hb dJ0_indexOf_0f7a4_0 rfl (lv_at hl 0 rfl) ?_
  refine lv_iload_n hx hb dJ0_indexOf_0f7a4_1 rfl (lv_at hl 1 rfl) ?_
  refine rn_iconst hx hb 0 rfl dJ0_indexOf_0f7a4_2 ?_
  refine roVq CX hE (c_J0_indexOf_7cf53 l G cA q_ v_ c ) (cwV 2 hts gJ0_indexOf_0f7a4_J0_indexOf_7cf53 rfl rfl rfl hdv_J0_indexOf_7cf53 ⟨Nat.le_of_ble_eq_true rfl, Nat.le_of_ble_eq_true rfl⟩) hB (BS_blind q_ v_) (fun U hU hW => hB.use rfl hU hW) rfl hl.1 (rest := []) rfl (Nat.le_of_ble_eq_true rfl) dJ0_indexOf_0f7a4_3 ⟨Nat.zero_le _, Nat.zero_le _⟩ ?_
  exact ro_ret CX hr hlk rfl rfl dJ0_indexOf_0f7a4_6
theorem hdv_J0_indexOf_0f7a4 : yJ0_indexOf_0f7a4.cls = RJ0 ∧ yJ0_indexOf_0f7a4.cls ≠ "java/lang/invoke/MethodHandle" ∧ yJ0_indexOf_0f7a4.cls ≠ "java/lang/invoke/VarHandle" ∧ (parseMethodDescriptor yJ0_indexOf_0f7a4.desc).map (fun d => d.parameters.length) = some 1 := by decide +kernel
set_option maxHeartbeats 4000000 in
set_option maxRecDepth 100000 in
theorem c_X2_canStand (l : Launch) (G : va_G) (cA : Nat → ClassId) (q_ : Nat) (v_ : Nat) (c : Int32) (k : Nat) (hk : k < 2147483648) : RO l yX2_canStand wsX2_canStand ({ frames := 4, cells := 0, slots := 0, locals := 91 }) G cA (BS q_ v_) [] [.int c, .int (nI k)] (b2i (k < 65 ∧ ((k % 11 = 10 ∧ c = nI 47) ∨ (¬ k % 11 = 10 ∧ ¬ floF c = -6)))) := by
  refine RO.mk (own := RX2) (by decide) rfl rfl (Nat.le_of_ble_eq_true rfl) (fun p_ e_ s_ m_ below meth c_ ls CX hr hlk hP hE hB hl => ?_)
  obtain ⟨hx, hb, hml, hown, hts⟩ := id CX
  have hl : lv_has ls 2 [(0, .int c), (1, .int (nI k))] := hl
  refine lv_iload_n hx hb dX2_canStand_0 rfl (lv_at hl 1 rfl) ?_
  refine lv_bipush (v := (nI 65)) hx hb dX2_canStand_1 kb_65 ?_
  refine rn_icmp_lt hx hb (by omega) (by omega) dX2_canStand_3 (by decide) (tgt := 8) (fun c_3 => ?_) (fun c_3 => ?_)
  · refine lv_iload_n hx hb dX2_canStand_8 rfl (lv_at hl 1 rfl) ?_
    refine lv_bipush (v := (nI 11)) hx hb dX2_canStand_9 kb_11 ?_
    refine rn_irem hx hb (by omega) (by omega) (by omega) dX2_canStand_11 ?_
    refine lv_bipush (v := (nI 10)) hx hb dX2_canStand_12 kb_10 ?_
    refine rn_icmp_ne hx hb (by omega) (by omega) dX2_canStand_14 (by decide) (tgt := 31) (fun c_14 => ?_) (fun c_14 => ?_)
    · refine va_ldcS hx hb hown hB.2.2 dX2_canStand_31 ?_
      refine lv_iload_n hx hb dX2_canStand_33 rfl (lv_at hl 0 rfl) ?_
      refine roVq CX hE (c_J0_indexOf_0f7a4 l G cA q_ v_ c ) (cwV 1 hts gX2_canStand_J0_indexOf_0f7a4 rfl rfl rfl hdv_J0_indexOf_0f7a4 ⟨Nat.le_of_ble_eq_true rfl, Nat.le_of_ble_eq_true rfl⟩) hB (BS_blind q_ v_) (fun U hU hW => hB.use rfl hU hW) rfl hl.1 (rest := []) rfl (Nat.le_of_ble_eq_true rfl) dX2_canStand_34 ⟨Nat.zero_le _, Nat.zero_le _⟩ ?_
      refine lv_if_lt hx hb dX2_canStand_37 (by decide) (tgt := 44) (fun c_37 => ?_) (fun c_37 => ?_)
      · refine rn_iconst hx hb 0 rfl dX2_canStand_44 ?_
        exact ro_ret CX hr hlk (by first | exact b2i_f (fun h => by omega) | exact b2i_t ⟨by omega, Or.inl ⟨c_14, c_20⟩⟩ | exact b2i_f (fun h => h.2.elim (fun z => c_20 z.2) (fun z => z.1 c_14)) | exact b2i_t ⟨by omega, Or.inr ⟨c_14, fun z => c_37 (idx_neg.mpr z)⟩⟩ | exact b2i_f (fun h => h.2.elim (fun z => c_14 z.1) (fun z => z.2 (idx_neg.mp c_37)))) rfl dX2_canStand_45
      · refine rn_iconst hx hb 1 rfl dX2_canStand_40 ?_
        refine lv_goto (tgt := 45) hx hb dX2_canStand_41 (by decide) ?_
        exact ro_ret CX hr hlk (by first | exact b2i_f (fun h => by omega) | exact b2i_t ⟨by omega, Or.inl ⟨c_14, c_20⟩⟩ | exact b2i_f (fun h => h.2.elim (fun z => c_20 z.2) (fun z => z.1 c_14)) | exact b2i_t ⟨by omega, Or.inr ⟨c_14, fun z => c_37 (idx_neg.mpr z)⟩⟩ | exact b2i_f (fun h => h.2.elim (fun z => c_14 z.1) (fun z => z.2 (idx_neg.mp c_37)))) rfl dX2_canStand_45
    · refine lv_iload_n hx hb dX2_canStand_17 rfl (lv_at hl 0 rfl) ?_
      refine lv_bipush (v := (nI 47)) hx hb dX2_canStand_18 kb_47 ?_
      refine lv_icmp_ne hx hb dX2_canStand_20 (by decide) (tgt := 27) (fun c_20 => ?_) (fun c_20 => ?_)
      · refine rn_iconst hx hb 0 rfl dX2_canStand_27 ?_
        refine lv_goto (tgt := 45) hx hb dX2_canStand_28 (by decide) ?_
        exact ro_ret CX hr hlk (by first | exact b2i_f (fun h => by omega) | exact b2i_t ⟨by omega, Or.inl ⟨c_14, c_20⟩⟩ | exact b2i_f (fun h => h.2.elim (fun z => c_20 z.2) (fun z => z.1 c_14)) | exact b2i_t ⟨by omega, Or.inr ⟨c_14, fun z => c_37 (idx_neg.mpr z)⟩⟩ | exact b2i_f (fun h => h.2.elim (fun z => c_14 z.1) (fun z => z.2 (idx_neg.mp c_37)))) rfl dX2_canStand_45
      · refine rn_iconst hx hb 1 rfl dX2_canStand_23 ?_
        refine lv_goto (tgt := 45) hx hb dX2_canStand_24 (by decide) ?_
        exact ro_ret CX hr hlk (by first | exact b2i_f (fun h => by omega) | exact b2i_t ⟨by omega, Or.inl ⟨c_14, c_20⟩⟩ | exact b2i_f (fun h => h.2.elim (fun z => c_20 z.2) (fun z => z.1 c_14)) | exact b2i_t ⟨by omega, Or.inr ⟨c_14, fun z => c_37 (idx_neg.mpr z)⟩⟩ | exact b2i_f (fun h => h.2.elim (fun z => c_14 z.1) (fun z => z.2 (idx_neg.mp c_37)))) rfl dX2_canStand_45
  · refine rn_iconst hx hb 0 rfl dX2_canStand_6 ?_
    exact ro_ret CX hr hlk (by first | exact b2i_f (fun h => by omega) | exact b2i_t ⟨by omega, Or.inl ⟨c_14, c_20⟩⟩ | exact b2i_f (fun h => h.2.elim (fun z => c_20 z.2) (fun z => z.1 c_14)) | exact b2i_t ⟨by omega, Or.inr ⟨c_14, fun z => c_37 (idx_neg.mpr z)⟩⟩ | exact b2i_f (fun h => h.2.elim (fun z => c_14 z.1) (fun z => z.2 (idx_neg.mp c_37)))) rfl dX2_canStand_7
theorem fl_X2_firstFault_15 : Cond.fieldLink RX2 15 RX2 (TX2 1).2.1 (TX2 1).2.2.1 ∈ wsX2_firstFault := by decide +kernel
theorem in_X2_firstFault_X2 : ∀ w ∈ wsX20, w ∈ wsX2_firstFault := by decide +kernel
theorem fl_X2_firstFault_9 : Cond.fieldLink RX2 9 RX2 (TX2 0).2.1 (TX2 0).2.2.1 ∈ wsX2_firstFault := by decide +kernel
theorem hdn_X2_canStand : yX2_canStand.cls ≠ "java/lang/invoke/MethodHandle" ∧ yX2_canStand.cls ≠ "java/lang/invoke/VarHandle" ∧ (parseMethodDescriptor yX2_canStand.desc).map (fun d => d.parameters.length) = some 2 := by decide +kernel
set_option maxHeartbeats 4000000 in
set_option maxRecDepth 100000 in
theorem c_X2_firstFault (l : Launch) (G : va_G) (cA : Nat → ClassId) (q_ : Nat) (v_ : Nat) (x : Nat → Nat) (ty : Nat) (pd : Nat → Int32) (hty : ty ≤ 72) : RO l yX2_firstFault wsX2_firstFault ({ frames := 5, cells := 0, slots := 0, locals := 112 }) G cA (BS q_ v_) [(x 5, .inr (2, [.ref (x 6), .int (nI ty)])), (x 6, .inl (cA 1, 72, .inl pd))] [.ref (x 5)] (badF pd ty) := by
  refine RO.mk (own := RX2) (by decide) rfl rfl (Nat.le_of_ble_eq_true rfl) (fun p_ e_ s_ m_ below meth c_ ls CX hr hlk hP hE hB hl => ?_)
  obtain ⟨hx, hb, hml, hown, hts⟩ := id CX
  have hl : lv_has ls 2 [(0, .ref (x 5))] := hl
  refine rn_iconst hx hb 0 rfl dX2_firstFault_0 ?_
  refine lv_istore_n (lv' := [(1, .int (nI 0)), (0, .ref (x 5))]) hx hb dX2_firstFault_1 rfl hl (by decide) rfl (fun ls hl => ?_)
  have LP_2 : ∀ (nn_ : Nat) (k : Nat), (ty - k) < nn_ → (k ≤ ty) → (∀ j, j < k → padOk pd j) → ∀ ls : Array Slot, lv_has ls 2 [(0, .ref (x 5)), (1, .int (nI k))] → W p_ l e_ ({ frames := 5, cells := 0, slots := 0, locals := 112 } : Room) s_ m_ ([.ref (x 5)] : List Value).toArray below meth c_ s_.heap [] 0 0 (MQ below (vp_Si (fun r_ => r_ = (badF pd ty))) ([.ref (x 5)] : List Value).toArray s_ 0 0 (fun _ => False)) (F0 m_ 2 ls []) := by
    intro nn_
    induction nn_ with
    | zero => intro k hmu; exact absurd hmu (Nat.not_lt_zero _)
    | succ nn_ ih =>
      have ih_2 := ih
      clear ih
      intro k hmu_2 hk hok ls hl
      refine lv_iload_n hx hb dX2_firstFault_2 rfl (lv_at hl 1 rfl) ?_
      refine lv_aload_n hx hb dX2_firstFault_3 rfl (lv_at hl 0 rfl) ?_
      refine rg (T := TX2) (N := 2) CX hE hP in_X2_firstFault_X2 0 rfl rfl 1 (by decide) fl_X2_firstFault_15 rfl rfl dX2_firstFault_4 ?_
      refine rn_icmp_ge hx hb (by omega) (by omega) dX2_firstFault_7 (by decide) (tgt := 31) (fun c_7 => ?_) (fun c_7 => ?_)
      · refine lv_aload_n hx hb dX2_firstFault_31 rfl (lv_at hl 0 rfl) ?_
        refine rg (T := TX2) (N := 2) CX hE hP in_X2_firstFault_X2 0 rfl rfl 1 (by decide) fl_X2_firstFault_15 rfl rfl dX2_firstFault_32 ?_
        refine lv_bipush (v := (nI 65)) hx hb dX2_firstFault_35 kb_65 ?_
        refine rn_icmp_ge hx hb (by omega) (by omega) dX2_firstFault_37 (by decide) (tgt := 47) (fun c_37 => ?_) (fun c_37 => ?_)
        · refine lv_bipush (v := (-6)) hx hb dX2_firstFault_47 kb_m6 ?_
          exact ro_ret CX hr hlk (by rw [← badF_all (n := ty) (fun j hj => hok j (by omega))]; first | exact (if_pos c_37).symm | exact (if_neg (by omega)).symm) rfl dX2_firstFault_49
        · refine lv_aload_n hx hb dX2_firstFault_40 rfl (lv_at hl 0 rfl) ?_
          refine rg (T := TX2) (N := 2) CX hE hP in_X2_firstFault_X2 0 rfl rfl 1 (by decide) fl_X2_firstFault_15 rfl rfl dX2_firstFault_41 ?_
          refine lv_goto (tgt := 49) hx hb dX2_firstFault_44 (by decide) ?_
          exact ro_ret CX hr hlk (by rw [← badF_all (n := ty) (fun j hj => hok j (by omega))]; first | exact (if_pos c_37).symm | exact (if_neg (by omega)).symm) rfl dX2_firstFault_49
      · refine lv_aload_n hx hb dX2_firstFault_10 rfl (lv_at hl 0 rfl) ?_
        refine rg (T := TX2) (N := 2) CX hE hP in_X2_firstFault_X2 0 rfl rfl 0 (by decide) fl_X2_firstFault_9 rfl rfl dX2_firstFault_11 ?_
        refine lv_iload_n hx hb dX2_firstFault_14 rfl (lv_at hl 1 rfl) ?_
        refine rn_cald CX hE hP 1 rfl (j := k) (by omega) (ltb rfl) dX2_firstFault_15 ?_
        refine lv_iload_n hx hb dX2_firstFault_16 rfl (lv_at hl 1 rfl) ?_
        refine roS CX hE hP (c_X2_canStand l G cA q_ v_ (pd k) k (by omega)) (va_cwS 2 hts gX2_firstFault_X2_canStand rfl rfl rfl hdn_X2_canStand ⟨Nat.le_of_ble_eq_true rfl, Nat.le_of_ble_eq_true rfl⟩) [] rfl (BS_blind q_ v_) (fun U hU hW => hB.use rfl hU hW) rfl hl.1 (rest := []) rfl (Nat.le_of_ble_eq_true rfl) dX2_firstFault_17 ⟨Nat.zero_le _, Nat.zero_le _⟩ ?_
        refine rb_if_ne hx hb dX2_firstFault_20 (by decide) (tgt := 25) (fun c_20 => ?_) (fun c_20 => ?_)
        · refine rn_iinc hx hb (n := 1) (lv' := [(1, .int (nI (k + 1))), (0, .ref (x 5))]) rfl dX2_firstFault_25 hl (k := 1) rfl (by decide) rfl (fun ls hl => ?_)
          refine lv_goto (tgt := 2) hx hb dX2_firstFault_28 (by decide) ?_
          exact ih_2 (k + 1) (by omega) (by omega) (fun j hj => by rcases Nat.lt_or_ge j k with z | z; exact hok j z; rw [show j = k by omega]; exact c_20) ls (lv_sub hl [1, 0] rfl)
        · refine lv_iload_n hx hb dX2_firstFault_23 rfl (lv_at hl 1 rfl) ?_
          exact ro_ret CX hr hlk (badF_at hok c_20 (by omega)) rfl dX2_firstFault_24
  exact LP_2 _ 0 (Nat.lt_succ_self _) (by omega) (fun j hj => absurd hj (Nat.not_lt_zero _)) ls (lv_sub hl [1, 0] rfl)
theorem fl_X2_floorOf_9 : Cond.fieldLink RX2 9 RX2 (TX2 0).2.1 (TX2 0).2.2.1 ∈ wsX2_floorOf := by decide +kernel
theorem in_X2_floorOf_X2 : ∀ w ∈ wsX20, w ∈ wsX2_floorOf := by decide +kernel
set_option maxHeartbeats 4000000 in
set_option maxRecDepth 100000 in
theorem c_X2_floorOf (l : Launch) (G : va_G) (cA : Nat → ClassId) (q_ : Nat) (v_ : Nat) (x : Nat → Nat) (ty : Nat) (pd : Nat → Int32) (c : Nat) (hc : c < 60) : RO l yX2_floorOf wsX2_floorOf ({ frames := 4, cells := 0, slots := 0, locals := 91 }) G cA (BS q_ v_) [(x 5, .inr (2, [.ref (x 6), .int (nI ty)])), (x 6, .inl (cA 1, 72, .inl pd))] [.ref (x 5), .int (nI c)] (idxF (pd (c / 10 * 11 + c % 10))) := by
  refine RO.mk (own := RX2) (by decide) rfl rfl (Nat.le_of_ble_eq_true rfl) (fun p_ e_ s_ m_ below meth c_ ls CX hr hlk hP hE hB hl => ?_)
  obtain ⟨hx, hb, hml, hown, hts⟩ := id CX
  have hl : lv_has ls 2 [(0, .ref (x 5)), (1, .int (nI c))] := hl
  refine va_ldcS hx hb hown hB.2.2 dX2_floorOf_0 ?_
  refine lv_aload_n hx hb dX2_floorOf_2 rfl (lv_at hl 0 rfl) ?_
  refine rg (T := TX2) (N := 2) CX hE hP in_X2_floorOf_X2 0 rfl rfl 0 (by decide) fl_X2_floorOf_9 rfl rfl dX2_floorOf_3 ?_
  refine lv_iload_n hx hb dX2_floorOf_6 rfl (lv_at hl 1 rfl) ?_
  refine lv_bipush (v := (nI 10)) hx hb dX2_floorOf_7 kb_10 ?_
  refine rn_idiv hx hb (by omega) (by omega) (by omega) dX2_floorOf_9 ?_
  refine lv_bipush (v := (nI 11)) hx hb dX2_floorOf_10 kb_11 ?_
  refine rn_imul hx hb dX2_floorOf_12 ?_
  refine lv_iload_n hx hb dX2_floorOf_13 rfl (lv_at hl 1 rfl) ?_
  refine lv_bipush (v := (nI 10)) hx hb dX2_floorOf_14 kb_10 ?_
  refine rn_irem hx hb (by omega) (by omega) (by omega) dX2_floorOf_16 ?_
  refine rn_iadd hx hb dX2_floorOf_17 ?_
  refine rn_cald CX hE hP 1 rfl (j := (((c / 10) * 11) + (c % 10))) (by omega) (ltb rfl) dX2_floorOf_18 ?_
  refine roVq CX hE (c_J0_indexOf_0f7a4 l G cA q_ v_ (pd (((c / 10) * 11) + (c % 10))) ) (cwV 1 hts gX2_floorOf_J0_indexOf_0f7a4 rfl rfl rfl hdv_J0_indexOf_0f7a4 ⟨Nat.le_of_ble_eq_true rfl, Nat.le_of_ble_eq_true rfl⟩) hB (BS_blind q_ v_) (fun U hU hW => hB.use rfl hU hW) rfl hl.1 (rest := []) rfl (Nat.le_of_ble_eq_true rfl) dX2_floorOf_19 ⟨Nat.zero_le _, Nat.zero_le _⟩ ?_
  exact ro_ret CX hr hlk rfl rfl dX2_floorOf_22
