theorem hdv_X5_cell : yX5_cell.cls = RX5 ∧ yX5_cell.cls ≠ "java/lang/invoke/MethodHandle" ∧ yX5_cell.cls ≠ "java/lang/invoke/VarHandle" ∧ (parseMethodDescriptor yX5_cell.desc).map (fun d => d.parameters.length) = some 3 := by decide +kernel
theorem w_L_cells_cn30 : Cond.constant RL 30 (100000) ∈ wsL_cells := by decide +kernel
theorem hdn_L_isStill : yL_isStill.cls ≠ "java/lang/invoke/MethodHandle" ∧ yL_isStill.cls ≠ "java/lang/invoke/VarHandle" ∧ (parseMethodDescriptor yL_isStill.desc).map (fun d => d.parameters.length) = some 5 := by decide +kernel
set_option maxHeartbeats 16000000 in
set_option maxRecDepth 100000 in
theorem c_L_cells (l : Launch) (G : va_G) (cA : Nat → ClassId) (x : Nat → Nat) (a : Nat → Nat) (b : Nat → Nat) (T : TV) (r : Nat → Nat) (hinv : inv T) (hfi : fiOK T) (htk : T.2 4 0 ≤ 100000) : RO l yL_cells wsL_cells ({ frames := 4, cells := 0, slots := 0, locals := 90 }) G cA B0 (([[(x 0, .inr (5, [.ref (a 0), .ref (b 0), .ref (x 3), .ref (x 1), .ref (x 2), .ref (x 5)]))], tkW cA a T, lawW cA r T] : List va_W).flatten) [.ref (x 0), .ref (r 0), .ref (r 1), .ref (r 2), .ref (r 3), .ref (r 4), .ref (r 6)] (nI 1) := by
  refine RO.mk (own := RL) (by decide) rfl rfl (Nat.le_of_ble_eq_true rfl) (fun p_ e_ s_ m_ below meth c_ ls CX hr hlk hP hE hB hl => ?_)
  obtain ⟨hx, hb, hml, hown, hts⟩ := id CX
  have hl : lv_has ls 12 [(0, .ref (x 0)), (1, .ref (r 0)), (2, .ref (r 1)), (3, .ref (r 2)), (4, .ref (r 3)), (5, .ref (r 4)), (6, .ref (r 6))] := hl
  have hP : ∀ (k : Nat) (w : va_W), ([[(x 0, .inr (5, [.ref (a 0), .ref (b 0), .ref (x 3), .ref (x 1), .ref (x 2), .ref (x 5)]))], tkW cA a T, lawW cA r T] : List va_W)[k]? = some w → va_P G vwCl w s_.heap := va_P_seg hP
  have hok := hinv.1
  have hdc := hok.1.2
  have hnd := hok.1.1
  have hnp := hok.2.1
  have hpc := hok.2.2
  refine rn_iconst hx hb 0 rfl dL_cells_0 ?_
  refine lv_istore (lv' := [(7, .int (nI 0)), (0, .ref (x 0)), (1, .ref (r 0)), (2, .ref (r 1)), (3, .ref (r 2)), (4, .ref (r 3)), (5, .ref (r 4)), (6, .ref (r 6))]) hx hb dL_cells_1 hl (by decide) rfl (fun ls hl => ?_)
  have LP_3 : ∀ (nn_ : Nat) (i : Nat), (60 - i) < nn_ → (i ≤ 60) → ∀ ls : Array Slot, lv_has ls 12 [(0, .ref (x 0)), (1, .ref (r 0)), (2, .ref (r 1)), (3, .ref (r 2)), (4, .ref (r 3)), (5, .ref (r 4)), (6, .ref (r 6)), (7, .int (nI i))] → W p_ l e_ ({ frames := 4, cells := 0, slots := 0, locals := 90 } : Room) s_ m_ ([.ref (x 0), .ref (r 0), .ref (r 1), .ref (r 2), .ref (r 3), .ref (r 4), .ref (r 6)] : List Value).toArray below meth c_ s_.heap [] 0 0 (MQ below (vp_Si (fun r_ => r_ = (nI 1))) ([.ref (x 0), .ref (r 0), .ref (r 1), .ref (r 2), .ref (r 3), .ref (r 4), .ref (r 6)] : List Value).toArray s_ 0 0 (fun _ => False)) (F0 m_ 3 ls []) := by
    intro nn_
    induction nn_ with
    | zero => intro i hmu; exact absurd hmu (Nat.not_lt_zero _)
    | succ nn_ ih =>
      have ih_3 := ih
      clear ih
      intro i hmu_3 hi ls hl
      refine lv_iload hx hb dL_cells_3 (lv_at hl 7 rfl) ?_
      refine lv_bipush (v := (nI 60)) hx hb dL_cells_5 kb_60 ?_
      refine rn_icmp_ge hx hb (by omega) (by omega) dL_cells_7 (by decide) (tgt := 240) (fun c_7 => ?_) (fun c_7 => ?_)
      · refine rn_iconst hx hb 1 rfl dL_cells_240 ?_
        exact ro_ret CX hr hlk rfl rfl dL_cells_241
      · have hi7 : i < 60 := c_7
        have stw := stl_wall hinv hi7
        have hgq := gF_nn ((hfi i hi7).imp id (fun ⟨n, a, b⟩ => ⟨n, by omega, b⟩))
        refine lv_bipush (v := (-6)) hx hb dL_cells_10 kb_m6 ?_
        refine lv_istore (lv' := [(8, .int (-6)), (0, .ref (x 0)), (1, .ref (r 0)), (2, .ref (r 1)), (3, .ref (r 2)), (4, .ref (r 3)), (5, .ref (r 4)), (6, .ref (r 6)), (7, .int (nI i))]) hx hb dL_cells_12 hl (by decide) rfl (fun ls hl => ?_)
        refine rn_iconst hx hb 0 rfl dL_cells_14 ?_
        refine lv_istore (lv' := [(9, .int (nI 0)), (8, .int (-6)), (0, .ref (x 0)), (1, .ref (r 0)), (2, .ref (r 1)), (3, .ref (r 2)), (4, .ref (r 3)), (5, .ref (r 4)), (6, .ref (r 6)), (7, .int (nI i))]) hx hb dL_cells_15 hl (by decide) rfl (fun ls hl => ?_)
        have LP_17 : ∀ (nn_ : Nat) (k : Nat) (ff : Int32), (T.2 4 1 - k) < nn_ → (k ≤ T.2 4 1) → (ff = lastF (T.2 0) i k) → ∀ ls : Array Slot, lv_has ls 12 [(0, .ref (x 0)), (1, .ref (r 0)), (2, .ref (r 1)), (3, .ref (r 2)), (4, .ref (r 3)), (5, .ref (r 4)), (6, .ref (r 6)), (7, .int (nI i)), (8, .int ff), (9, .int (nI k))] → W p_ l e_ ({ frames := 4, cells := 0, slots := 0, locals := 90 } : Room) s_ m_ ([.ref (x 0), .ref (r 0), .ref (r 1), .ref (r 2), .ref (r 3), .ref (r 4), .ref (r 6)] : List Value).toArray below meth c_ s_.heap [] 0 0 (MQ below (vp_Si (fun r_ => r_ = (nI 1))) ([.ref (x 0), .ref (r 0), .ref (r 1), .ref (r 2), .ref (r 3), .ref (r 4), .ref (r 6)] : List Value).toArray s_ 0 0 (fun _ => False)) (F0 m_ 17 ls []) := by
          intro nn_
          induction nn_ with
          | zero => intro k ff hmu; exact absurd hmu (Nat.not_lt_zero _)
          | succ nn_ ih =>
            have ih_17 := ih
            clear ih
            intro k ff hmu_17 hk hff ls hl
            refine lv_iload hx hb dL_cells_17 (lv_at hl 9 rfl) ?_
            refine lv_aload hx hb dL_cells_19 (lv_at hl 6 rfl) ?_
            refine rn_iconst hx hb 5 rfl dL_cells_21 ?_
            refine rn_iald CX hE (hP 2 _ rfl) 5 rfl (j := 5) (by omega) (ltb rfl) dL_cells_22 ?_
            refine rn_top (nI (T.2 4 1)) rfl ?_
            refine rn_icmp_ge hx hb (by omega) (by omega) dL_cells_23 (by decide) (tgt := 53) (fun c_23 => ?_) (fun c_23 => ?_)
            · refine lv_iload hx hb dL_cells_53 (lv_at hl 7 rfl) ?_
              refine lv_bipush (v := (nI 10)) hx hb dL_cells_55 kb_10 ?_
              refine rn_irem hx hb (by omega) (by omega) (by omega) dL_cells_57 ?_
              refine lv_istore (lv' := [(9, .int (nI (i % 10))), (0, .ref (x 0)), (1, .ref (r 0)), (2, .ref (r 1)), (3, .ref (r 2)), (4, .ref (r 3)), (5, .ref (r 4)), (6, .ref (r 6)), (7, .int (nI i)), (8, .int ff)]) hx hb dL_cells_58 hl (by decide) rfl (fun ls hl => ?_)
              refine lv_iload hx hb dL_cells_60 (lv_at hl 8 rfl) ?_
              refine lv_bipush (v := (nI 10)) hx hb dL_cells_62 kb_10 ?_
              refine rn_idiv hx hb (by omega) (by omega) (by omega) dL_cells_64 ?_
              refine lv_istore (lv' := [(10, .int (nI (i / 10))), (9, .int (nI (i % 10))), (0, .ref (x 0)), (1, .ref (r 0)), (2, .ref (r 1)), (3, .ref (r 2)), (4, .ref (r 3)), (5, .ref (r 4)), (6, .ref (r 6)), (7, .int (nI i)), (8, .int ff)]) hx hb dL_cells_65 hl (by decide) rfl (fun ls hl => ?_)
              refine lv_aload_n hx hb dL_cells_67 rfl (lv_at hl 2 rfl) ?_
              refine lv_iload hx hb dL_cells_68 (lv_at hl 1 rfl) ?_
              refine lv_iload hx hb dL_cells_70 (lv_at hl 0 rfl) ?_
              refine rn_iconst hx hb 0 rfl dL_cells_72 ?_
              refine roVg CX hE (va_P_segs hP [0, 1] rfl) (c_X5_cell_k l G cA x a b T (i % 10) (i / 10) (nI 0) (by assumption) (by omega) (by omega)) (cwV 3 hts gL_cells_X5_cell rfl rfl rfl hdv_X5_cell ⟨Nat.le_of_ble_eq_true rfl, Nat.le_of_ble_eq_true rfl⟩) (hP 0 _ rfl) 0 rfl rfl rfl B0_blind (fun _ _ _ => trivial) rfl hl.1 (rest := []) rfl (Nat.le_of_ble_eq_true rfl) dL_cells_73 ⟨Nat.zero_le _, Nat.zero_le _⟩ ?_
              refine rn_top (T.1 1 i) (cel_at (k := 0) (by decide +kernel)) ?_
              refine lv_aload_n hx hb dL_cells_76 rfl (lv_at hl 3 rfl) ?_
              refine lv_iload hx hb dL_cells_77 (lv_at hl 9 rfl) ?_
              refine rn_iald CX hE (hP 2 _ rfl) 0 rfl (j := i) (by omega) (ltb rfl) dL_cells_79 ?_
              refine lv_icmp_ne hx hb dL_cells_80 (by decide) (tgt := 224) (fun c_80 => ?_) (fun c_80 => ?_)
              · exact absurd rfl c_80
              · refine lv_aload_n hx hb dL_cells_83 rfl (lv_at hl 2 rfl) ?_
                refine lv_iload hx hb dL_cells_84 (lv_at hl 1 rfl) ?_
                refine lv_iload hx hb dL_cells_86 (lv_at hl 0 rfl) ?_
                refine rn_iconst hx hb 1 rfl dL_cells_88 ?_
                refine roVg CX hE (va_P_segs hP [0, 1] rfl) (c_X5_cell_k l G cA x a b T (i % 10) (i / 10) (nI 1) (by assumption) (by omega) (by omega)) (cwV 3 hts gL_cells_X5_cell rfl rfl rfl hdv_X5_cell ⟨Nat.le_of_ble_eq_true rfl, Nat.le_of_ble_eq_true rfl⟩) (hP 0 _ rfl) 0 rfl rfl rfl B0_blind (fun _ _ _ => trivial) rfl hl.1 (rest := []) rfl (Nat.le_of_ble_eq_true rfl) dL_cells_89 ⟨Nat.zero_le _, Nat.zero_le _⟩ ?_
                refine rn_top (T.1 2 i + nI 10000) (cel_at (k := 1) (by decide +kernel)) ?_
                refine lv_aload_n hx hb dL_cells_92 rfl (lv_at hl 4 rfl) ?_
                refine lv_iload hx hb dL_cells_93 (lv_at hl 9 rfl) ?_
                refine rn_iald CX hE (hP 2 _ rfl) 1 rfl (j := i) (by omega) (ltb rfl) dL_cells_95 ?_
                refine lv_sipush (v := (nI 10000)) hx hb dL_cells_96 ks_10000 ?_
                refine lv_iadd hx hb dL_cells_99 ?_
                refine lv_icmp_ne hx hb dL_cells_100 (by decide) (tgt := 224) (fun c_100 => ?_) (fun c_100 => ?_)
                · exact absurd rfl c_100
                · refine lv_aload_n hx hb dL_cells_103 rfl (lv_at hl 2 rfl) ?_
                  refine lv_iload hx hb dL_cells_104 (lv_at hl 1 rfl) ?_
                  refine lv_iload hx hb dL_cells_106 (lv_at hl 0 rfl) ?_
                  refine rn_iconst hx hb 2 rfl dL_cells_108 ?_
                  refine roVg CX hE (va_P_segs hP [0, 1] rfl) (c_X5_cell_k l G cA x a b T (i % 10) (i / 10) (nI 2) (by assumption) (by omega) (by omega)) (cwV 3 hts gL_cells_X5_cell rfl rfl rfl hdv_X5_cell ⟨Nat.le_of_ble_eq_true rfl, Nat.le_of_ble_eq_true rfl⟩) (hP 0 _ rfl) 0 rfl rfl rfl B0_blind (fun _ _ _ => trivial) rfl hl.1 (rest := []) rfl (Nat.le_of_ble_eq_true rfl) dL_cells_109 ⟨Nat.zero_le _, Nat.zero_le _⟩ ?_
                  refine rn_top (T.1 3 i + nI 10000) (cel_at (k := 2) (by decide +kernel)) ?_
                  refine lv_aload_n hx hb dL_cells_112 rfl (lv_at hl 5 rfl) ?_
                  refine lv_iload hx hb dL_cells_113 (lv_at hl 9 rfl) ?_
                  refine rn_iald CX hE (hP 2 _ rfl) 2 rfl (j := i) (by omega) (ltb rfl) dL_cells_115 ?_
                  refine lv_sipush (v := (nI 10000)) hx hb dL_cells_116 ks_10000 ?_
                  refine lv_iadd hx hb dL_cells_119 ?_
                  refine lv_icmp_ne hx hb dL_cells_120 (by decide) (tgt := 224) (fun c_120 => ?_) (fun c_120 => ?_)
                  · exact absurd rfl c_120
                  · refine lv_aload_n hx hb dL_cells_123 rfl (lv_at hl 2 rfl) ?_
                    refine lv_iload hx hb dL_cells_124 (lv_at hl 1 rfl) ?_
                    refine lv_iload hx hb dL_cells_126 (lv_at hl 0 rfl) ?_
                    refine rn_iconst hx hb 3 rfl dL_cells_128 ?_
                    refine roVg CX hE (va_P_segs hP [0, 1] rfl) (c_X5_cell_k l G cA x a b T (i % 10) (i / 10) (nI 3) (by assumption) (by omega) (by omega)) (cwV 3 hts gL_cells_X5_cell rfl rfl rfl hdv_X5_cell ⟨Nat.le_of_ble_eq_true rfl, Nat.le_of_ble_eq_true rfl⟩) (hP 0 _ rfl) 0 rfl rfl rfl B0_blind (fun _ _ _ => trivial) rfl hl.1 (rest := []) rfl (Nat.le_of_ble_eq_true rfl) dL_cells_129 ⟨Nat.zero_le _, Nat.zero_le _⟩ ?_
                    refine rn_top (slopeF (T.1 1) (T.1 2) i + nI 100000) (cel_at (k := 3) (by decide +kernel)) ?_
                    refine lv_aload_n hx hb dL_cells_132 rfl (lv_at hl 3 rfl) ?_
                    refine lv_aload_n hx hb dL_cells_133 rfl (lv_at hl 4 rfl) ?_
                    refine lv_iload hx hb dL_cells_134 (lv_at hl 9 rfl) ?_
                    refine roSg CX hE ((hP 2 _ rfl).sub [0, 1] rfl) (c_L_slope l G cA (r 0) (r 1) (T.1 1) (T.1 2) i (by omega)) (va_cwS 3 hts gL_cells_L_slope rfl rfl rfl hdn_L_slope ⟨Nat.le_of_ble_eq_true rfl, Nat.le_of_ble_eq_true rfl⟩) B0_blind (fun _ _ _ => trivial) rfl hl.1 (rest := [.int (slopeF (T.1 1) (T.1 2) i + nI 100000)]) rfl (Nat.le_of_ble_eq_true rfl) dL_cells_136 ⟨Nat.zero_le _, Nat.zero_le _⟩ ?_
                    refine lv_ldc (v := (100000)) hx hb hown (hts _ w_L_cells_cn30) dL_cells_139 ?_
                    refine rn_top (nI 100000) kl_100000 ?_
                    refine lv_iadd hx hb dL_cells_141 ?_
                    refine lv_icmp_ne hx hb dL_cells_142 (by decide) (tgt := 224) (fun c_142 => ?_) (fun c_142 => ?_)
                    · exact absurd rfl c_142
                    · refine lv_aload_n hx hb dL_cells_145 rfl (lv_at hl 2 rfl) ?_
                      refine lv_iload hx hb dL_cells_146 (lv_at hl 1 rfl) ?_
                      refine lv_iload hx hb dL_cells_148 (lv_at hl 0 rfl) ?_
                      refine rn_iconst hx hb 4 rfl dL_cells_150 ?_
                      refine roVg CX hE (va_P_segs hP [0, 1] rfl) (c_X5_cell_k l G cA x a b T (i % 10) (i / 10) (nI 4) (by assumption) (by omega) (by omega)) (cwV 3 hts gL_cells_X5_cell rfl rfl rfl hdv_X5_cell ⟨Nat.le_of_ble_eq_true rfl, Nat.le_of_ble_eq_true rfl⟩) (hP 0 _ rfl) 0 rfl rfl rfl B0_blind (fun _ _ _ => trivial) rfl hl.1 (rest := []) rfl (Nat.le_of_ble_eq_true rfl) dL_cells_151 ⟨Nat.zero_le _, Nat.zero_le _⟩ ?_
                      refine rn_top (b2i (stillP (T.1 0) (T.1 2) (T.1 3) i)) (cel_at (k := 4) (by decide +kernel)) ?_
                      refine lv_aload_n hx hb dL_cells_154 rfl (lv_at hl 3 rfl) ?_
                      refine lv_aload_n hx hb dL_cells_155 rfl (lv_at hl 4 rfl) ?_
                      refine lv_aload_n hx hb dL_cells_156 rfl (lv_at hl 5 rfl) ?_
                      refine lv_aload hx hb dL_cells_157 (lv_at hl 8 rfl) ?_
                      refine lv_iload hx hb dL_cells_159 (lv_at hl 9 rfl) ?_
                      refine roSg CX hE ((hP 2 _ rfl).sub [0, 1, 2, 5] rfl) (c_L_isStill l G cA (r 0) (r 1) (r 2) (r 6) (T.1 1) (T.1 2) (T.1 3) (tF T) i (by omega)) (va_cwS 5 hts gL_cells_L_isStill rfl rfl rfl hdn_L_isStill ⟨Nat.le_of_ble_eq_true rfl, Nat.le_of_ble_eq_true rfl⟩) B0_blind (fun _ _ _ => trivial) rfl hl.1 (rest := [.int (b2i (stillP (T.1 0) (T.1 2) (T.1 3) i))]) rfl (Nat.le_of_ble_eq_true rfl) dL_cells_161 ⟨Nat.zero_le _, Nat.zero_le _⟩ ?_
                      have J_172 : ∀ v : Int32, v = (b2i (stillP (T.1 0) (T.1 2) (T.1 3) i)) → W p_ l e_ ({ frames := 4, cells := 0, slots := 0, locals := 90 } : Room) s_ m_ ([.ref (x 0), .ref (r 0), .ref (r 1), .ref (r 2), .ref (r 3), .ref (r 4), .ref (r 6)] : List Value).toArray below meth c_ s_.heap [] 0 0 (MQ below (vp_Si (fun r_ => r_ = (nI 1))) ([.ref (x 0), .ref (r 0), .ref (r 1), .ref (r 2), .ref (r 3), .ref (r 4), .ref (r 6)] : List Value).toArray s_ 0 0 (fun _ => False)) (F0 m_ 172 ls [.int v, .int (b2i (stillP (T.1 0) (T.1 2) (T.1 3) i))]) := by
                        intro v hv
                        subst hv
                        refine lv_icmp_ne hx hb dL_cells_172 (by decide) (tgt := 224) (fun c_172 => ?_) (fun c_172 => ?_)
                        · exact absurd rfl c_172
                        · refine lv_aload_n hx hb dL_cells_175 rfl (lv_at hl 2 rfl) ?_
                          refine lv_iload hx hb dL_cells_176 (lv_at hl 1 rfl) ?_
                          refine lv_iload hx hb dL_cells_178 (lv_at hl 0 rfl) ?_
                          refine rn_iconst hx hb 5 rfl dL_cells_180 ?_
                          refine roVg CX hE (va_P_segs hP [0, 1] rfl) (c_X5_cell_k l G cA x a b T (i % 10) (i / 10) (nI 5) (by assumption) (by omega) (by omega)) (cwV 3 hts gL_cells_X5_cell rfl rfl rfl hdv_X5_cell ⟨Nat.le_of_ble_eq_true rfl, Nat.le_of_ble_eq_true rfl⟩) (hP 0 _ rfl) 0 rfl rfl rfl B0_blind (fun _ _ _ => trivial) rfl hl.1 (rest := []) rfl (Nat.le_of_ble_eq_true rfl) dL_cells_181 ⟨Nat.zero_le _, Nat.zero_le _⟩ ?_
                          refine rn_top (T.1 4 i) (cel_at (k := 5) (by decide +kernel)) ?_
                          refine lv_aload hx hb dL_cells_184 (lv_at hl 6 rfl) ?_
                          refine lv_iload hx hb dL_cells_186 (lv_at hl 9 rfl) ?_
                          refine rn_iald CX hE (hP 2 _ rfl) 3 rfl (j := i) (by omega) (ltb rfl) dL_cells_188 ?_
                          refine rn_top (gF (T.1 4 i)) rfl ?_
                          have J_202 : ∀ v : Int32, v = (T.1 4 i) → W p_ l e_ ({ frames := 4, cells := 0, slots := 0, locals := 90 } : Room) s_ m_ ([.ref (x 0), .ref (r 0), .ref (r 1), .ref (r 2), .ref (r 3), .ref (r 4), .ref (r 6)] : List Value).toArray below meth c_ s_.heap [] 0 0 (MQ below (vp_Si (fun r_ => r_ = (nI 1))) ([.ref (x 0), .ref (r 0), .ref (r 1), .ref (r 2), .ref (r 3), .ref (r 4), .ref (r 6)] : List Value).toArray s_ 0 0 (fun _ => False)) (F0 m_ 202 ls [.int v, .int (T.1 4 i)]) := by
                            intro v hv
                            subst hv
                            refine lv_icmp_ne hx hb dL_cells_202 (by decide) (tgt := 224) (fun c_202 => ?_) (fun c_202 => ?_)
                            · exact absurd rfl c_202
                            · refine lv_aload_n hx hb dL_cells_205 rfl (lv_at hl 2 rfl) ?_
                              refine lv_iload hx hb dL_cells_206 (lv_at hl 1 rfl) ?_
                              refine lv_iload hx hb dL_cells_208 (lv_at hl 0 rfl) ?_
                              refine lv_bipush (v := (nI 6)) hx hb dL_cells_210 kb_6 ?_
                              refine roVg CX hE (va_P_segs hP [0, 1] rfl) (c_X5_cell_k l G cA x a b T (i % 10) (i / 10) (nI 6) (by assumption) (by omega) (by omega)) (cwV 3 hts gL_cells_X5_cell rfl rfl rfl hdv_X5_cell ⟨Nat.le_of_ble_eq_true rfl, Nat.le_of_ble_eq_true rfl⟩) (hP 0 _ rfl) 0 rfl rfl rfl B0_blind (fun _ _ _ => trivial) rfl hl.1 (rest := []) rfl (Nat.le_of_ble_eq_true rfl) dL_cells_212 ⟨Nat.zero_le _, Nat.zero_le _⟩ ?_
                              refine rn_top (lastF (T.2 0) i (T.2 4 1)) (cel_at (k := 6) (by decide +kernel)) ?_
                              refine lv_iload hx hb dL_cells_215 (lv_at hl 10 rfl) ?_
                              refine lv_icmp_ne hx hb dL_cells_217 (by decide) (tgt := 224) (fun c_217 => ?_) (fun c_217 => ?_)
                              · exact absurd (by rw [hff, show k = T.2 4 1 by omega]) c_217
                              · refine rn_iconst hx hb 1 rfl dL_cells_220 ?_
                                refine lv_goto (tgt := 225) hx hb dL_cells_221 (by decide) ?_
                                refine lv_istore (lv' := [(11, .int (nI 1)), (10, .int (nI (i / 10))), (9, .int (nI (i % 10))), (0, .ref (x 0)), (1, .ref (r 0)), (2, .ref (r 1)), (3, .ref (r 2)), (4, .ref (r 3)), (5, .ref (r 4)), (6, .ref (r 6)), (7, .int (nI i)), (8, .int ff)]) hx hb dL_cells_225 hl (by decide) rfl (fun ls hl => ?_)
                                refine lv_iload hx hb dL_cells_227 (lv_at hl 0 rfl) ?_
                                refine rn_if_ne hx hb (by omega) dL_cells_229 (by decide) (tgt := 234) (fun c_229 => ?_) (fun c_229 => ?_)
                                · refine rn_iinc hx hb (n := 1) (lv' := [(7, .int (nI (i + 1))), (11, .int (nI 1)), (10, .int (nI (i / 10))), (9, .int (nI (i % 10))), (0, .ref (x 0)), (1, .ref (r 0)), (2, .ref (r 1)), (3, .ref (r 2)), (4, .ref (r 3)), (5, .ref (r 4)), (6, .ref (r 6)), (8, .int ff)]) rfl dL_cells_234 hl (k := 10) rfl (by decide) rfl (fun ls hl => ?_)
                                  refine lv_goto (tgt := 3) hx hb dL_cells_237 (by decide) ?_
                                  exact ih_3 (i + 1) (by omega) (by omega) ls (lv_sub hl [4, 5, 6, 7, 8, 9, 10, 0] rfl)
                                · exact absurd c_229 (by decide)
                          refine lv_if_ge hx hb dL_cells_189 (by decide) (tgt := 197) (fun c_189 => ?_) (fun c_189 => ?_)
                          · refine lv_aload hx hb dL_cells_197 (lv_at hl 6 rfl) ?_
                            refine lv_iload hx hb dL_cells_199 (lv_at hl 9 rfl) ?_
                            refine rn_iald CX hE (hP 2 _ rfl) 3 rfl (j := i) (by omega) (ltb rfl) dL_cells_201 ?_
                            exact J_202 _ (by first | exact hgq.2 (hgq.1.mp c_189) | exact (Decidable.not_not.mp (fun z => c_189 (hgq.1.mpr z))).symm)
                          · refine lv_bipush (v := (-6)) hx hb dL_cells_192 kb_m6 ?_
                            refine lv_goto (tgt := 202) hx hb dL_cells_194 (by decide) ?_
                            exact J_202 _ (by first | exact hgq.2 (hgq.1.mp c_189) | exact (Decidable.not_not.mp (fun z => c_189 (hgq.1.mpr z))).symm)
                      refine rb_if_eq hx hb dL_cells_164 (by decide) (tgt := 171) (fun c_164 => ?_) (fun c_164 => ?_)
                      · refine rn_iconst hx hb 0 rfl dL_cells_171 ?_
                        exact J_172 _ (by first | exact b2i_t (stw.mp c_164) | exact b2i_f (fun z => c_164 (stw.mpr z)))
                      · refine rn_iconst hx hb 1 rfl dL_cells_167 ?_
                        refine lv_goto (tgt := 172) hx hb dL_cells_168 (by decide) ?_
                        exact J_172 _ (by first | exact b2i_t (stw.mp c_164) | exact b2i_f (fun z => c_164 (stw.mpr z)))
            · have hdk := (hdc k (by omega)).1
              refine lv_aload hx hb dL_cells_26 (lv_at hl 5 rfl) ?_
              refine rn_iconst hx hb 4 rfl dL_cells_28 ?_
              refine lv_iload hx hb dL_cells_29 (lv_at hl 9 rfl) ?_
              refine rn_imul hx hb dL_cells_31 ?_
              refine rn_iald CX hE (hP 2 _ rfl) 4 rfl (j := (4 * k)) (by omega) (ltb rfl) dL_cells_32 ?_
              refine rn_top (nI (T.2 0 k)) dF_0 ?_
              refine lv_iload hx hb dL_cells_33 (lv_at hl 7 rfl) ?_
              have J_45 : ∀ v : Int32, v = (if T.2 0 k = i then nI k else ff) → W p_ l e_ ({ frames := 4, cells := 0, slots := 0, locals := 90 } : Room) s_ m_ ([.ref (x 0), .ref (r 0), .ref (r 1), .ref (r 2), .ref (r 3), .ref (r 4), .ref (r 6)] : List Value).toArray below meth c_ s_.heap [] 0 0 (MQ below (vp_Si (fun r_ => r_ = (nI 1))) ([.ref (x 0), .ref (r 0), .ref (r 1), .ref (r 2), .ref (r 3), .ref (r 4), .ref (r 6)] : List Value).toArray s_ 0 0 (fun _ => False)) (F0 m_ 45 ls [.int v]) := by
                intro v hv
                subst hv
                refine lv_istore (lv' := [(8, .int (if T.2 0 k = i then nI k else ff)), (0, .ref (x 0)), (1, .ref (r 0)), (2, .ref (r 1)), (3, .ref (r 2)), (4, .ref (r 3)), (5, .ref (r 4)), (6, .ref (r 6)), (7, .int (nI i)), (9, .int (nI k))]) hx hb dL_cells_45 hl (by decide) rfl (fun ls hl => ?_)
                refine rn_iinc hx hb (n := 1) (lv' := [(9, .int (nI (k + 1))), (8, .int (if T.2 0 k = i then nI k else ff)), (0, .ref (x 0)), (1, .ref (r 0)), (2, .ref (r 1)), (3, .ref (r 2)), (4, .ref (r 3)), (5, .ref (r 4)), (6, .ref (r 6)), (7, .int (nI i))]) rfl dL_cells_47 hl (k := 9) rfl (by decide) rfl (fun ls hl => ?_)
                refine lv_goto (tgt := 17) hx hb dL_cells_50 (by decide) ?_
                exact ih_17 (k + 1) (if T.2 0 k = i then nI k else ff) (by omega) (by omega) (by rw [hff]; rfl) ls (lv_sub hl [2, 3, 4, 5, 6, 7, 8, 9, 1, 0] rfl)
              refine rn_icmp_ne hx hb (by omega) (by omega) dL_cells_35 (by decide) (tgt := 43) (fun c_35 => ?_) (fun c_35 => ?_)
              · refine lv_iload hx hb dL_cells_43 (lv_at hl 8 rfl) ?_
                exact J_45 _ (by first | exact (if_pos c_35).symm | exact (if_neg c_35).symm)
              · refine lv_iload hx hb dL_cells_38 (lv_at hl 9 rfl) ?_
                refine lv_goto (tgt := 45) hx hb dL_cells_40 (by decide) ?_
                exact J_45 _ (by first | exact (if_pos c_35).symm | exact (if_neg c_35).symm)
        exact LP_17 _ 0 (-6) (Nat.lt_succ_self _) (Nat.zero_le _) rfl ls (lv_sub hl [2, 3, 4, 5, 6, 7, 8, 9, 1, 0] rfl)
  exact LP_3 _ 0 (Nat.lt_succ_self _) (by omega) ls (lv_sub hl [1, 2, 3, 4, 5, 6, 7, 0] rfl)
theorem kb_13 : (Int8.ofInt (13)).toInt32 = (nI 13) := by decide +kernel
theorem hdv_X5_seen : yX5_seen.cls = RX5 ∧ yX5_seen.cls ≠ "java/lang/invoke/MethodHandle" ∧ yX5_seen.cls ≠ "java/lang/invoke/VarHandle" ∧ (parseMethodDescriptor yX5_seen.desc).map (fun d => d.parameters.length) = some 2 := by decide +kernel
theorem hdv_X5_ofProbe : yX5_ofProbe.cls = RX5 ∧ yX5_ofProbe.cls ≠ "java/lang/invoke/MethodHandle" ∧ yX5_ofProbe.cls ≠ "java/lang/invoke/VarHandle" ∧ (parseMethodDescriptor yX5_ofProbe.desc).map (fun d => d.parameters.length) = some 2 := by decide +kernel
set_option maxHeartbeats 16000000 in
set_option maxRecDepth 100000 in
theorem c_L_probe (l : Launch) (G : va_G) (cA : Nat → ClassId) (x : Nat → Nat) (a : Nat → Nat) (b : Nat → Nat) (T : TV) (r : Nat → Nat) (hinv : inv T) (hp1 : 0 < T.2 4 2) : RO l yL_probe wsL_probe ({ frames := 4, cells := 0, slots := 0, locals := 96 }) G cA B0 (([[(x 0, .inr (5, [.ref (a 0), .ref (b 0), .ref (x 3), .ref (x 1), .ref (x 2), .ref (x 5)]))], tkW cA a T, [(r 5, .inl (cA 0, 24, .inl (T.1 7)))]] : List va_W).flatten) [.ref (x 0), .ref (r 5), .int (nI (T.2 3 0))] (nI 1) := by
  refine RO.mk (own := RL) (by decide) rfl rfl (Nat.le_of_ble_eq_true rfl) (fun p_ e_ s_ m_ below meth c_ ls CX hr hlk hP hE hB hl => ?_)
  obtain ⟨hx, hb, hml, hown, hts⟩ := id CX
  have hl : lv_has ls 9 [(0, .ref (x 0)), (1, .ref (r 5)), (2, .int (nI (T.2 3 0)))] := hl
  have hP : ∀ (k : Nat) (w : va_W), ([[(x 0, .inr (5, [.ref (a 0), .ref (b 0), .ref (x 3), .ref (x 1), .ref (x 2), .ref (x 5)]))], tkW cA a T, [(r 5, .inl (cA 0, 24, .inl (T.1 7)))]] : List va_W)[k]? = some w → va_P G vwCl w s_.heap := va_P_seg hP
  have hok := hinv.1
  have hdc := hok.1.2
  have hnd := hok.1.1
  have hnp := hok.2.1
  have hpc := hok.2.2
  have hp0 := (hpc 0 hp1).2
  refine lv_bipush (v := (-6)) hx hb dL_probe_0 kb_m6 ?_
  refine lv_istore_n (lv' := [(3, .int (-6)), (0, .ref (x 0)), (1, .ref (r 5)), (2, .int (nI (T.2 3 0)))]) hx hb dL_probe_2 rfl hl (by decide) rfl (fun ls hl => ?_)
  refine rn_iconst hx hb 0 rfl dL_probe_3 ?_
  refine lv_istore (lv' := [(4, .int (nI 0)), (3, .int (-6)), (0, .ref (x 0)), (1, .ref (r 5)), (2, .int (nI (T.2 3 0)))]) hx hb dL_probe_4 hl (by decide) rfl (fun ls hl => ?_)
  have LP_6 : ∀ (nn_ : Nat) (k1 : Nat) (ms : Int32), (T.2 3 0 - k1) < nn_ → (k1 ≤ T.2 3 0) → (ms = gsF (T.1 7) k1) → ∀ ls : Array Slot, lv_has ls 9 [(0, .ref (x 0)), (1, .ref (r 5)), (2, .int (nI (T.2 3 0))), (3, .int ms), (4, .int (nI k1))] → W p_ l e_ ({ frames := 4, cells := 0, slots := 0, locals := 96 } : Room) s_ m_ ([.ref (x 0), .ref (r 5), .int (nI (T.2 3 0))] : List Value).toArray below meth c_ s_.heap [] 0 0 (MQ below (vp_Si (fun r_ => r_ = (nI 1))) ([.ref (x 0), .ref (r 5), .int (nI (T.2 3 0))] : List Value).toArray s_ 0 0 (fun _ => False)) (F0 m_ 6 ls []) := by
    intro nn_
    induction nn_ with
    | zero => intro k1 ms hmu; exact absurd hmu (Nat.not_lt_zero _)
    | succ nn_ ih =>
      have ih_6 := ih
      clear ih
      intro k1 ms hmu_6 hk hms ls hl
      refine lv_iload hx hb dL_probe_6 (lv_at hl 4 rfl) ?_
      refine lv_iload_n hx hb dL_probe_8 rfl (lv_at hl 2 rfl) ?_
      refine rn_icmp_ge hx hb (by omega) (by omega) dL_probe_9 (by decide) (tgt := 63) (fun c_9 => ?_) (fun c_9 => ?_)
      · have ems : (if T.2 3 0 = 0 then -6 else mxF (T.1 7) (T.2 3 0) + nI 10000) = ms := by rw [hms, show k1 = T.2 3 0 by omega]; exact (gs_all (fun k hk_ => hinv.2.2.2.2 0 hp1 k hk_)).symm
        refine lv_bipush (v := (-6)) hx hb dL_probe_63 kb_m6 ?_
        refine lv_istore (lv' := [(4, .int (-6)), (0, .ref (x 0)), (1, .ref (r 5)), (2, .int (nI (T.2 3 0))), (3, .int ms)]) hx hb dL_probe_65 hl (by decide) rfl (fun ls hl => ?_)
        refine rn_iconst hx hb 0 rfl dL_probe_67 ?_
        refine lv_istore (lv' := [(5, .int (nI 0)), (4, .int (-6)), (0, .ref (x 0)), (1, .ref (r 5)), (2, .int (nI (T.2 3 0))), (3, .int ms)]) hx hb dL_probe_68 hl (by decide) rfl (fun ls hl => ?_)
        refine rn_iconst hx hb 2 rfl dL_probe_70 ?_
        refine lv_istore (lv' := [(6, .int (nI 2)), (5, .int (nI 0)), (4, .int (-6)), (0, .ref (x 0)), (1, .ref (r 5)), (2, .int (nI (T.2 3 0))), (3, .int ms)]) hx hb dL_probe_71 hl (by decide) rfl (fun ls hl => ?_)
        have LP_73 : ∀ (nn_ : Nat) (L : Nat) (bst : Int32) (lst : Int32), (13 - L) < nn_ → (2 ≤ L) → (L ≤ 13) → (bst = (bmF (T.1 7) L).1) → (lst = (bmF (T.1 7) L).2) → (T.2 3 0 = 24 ∨ L = 2) → ∀ ls : Array Slot, lv_has ls 9 [(0, .ref (x 0)), (1, .ref (r 5)), (2, .int (nI (T.2 3 0))), (3, .int ms), (4, .int bst), (5, .int lst), (6, .int (nI L))] → W p_ l e_ ({ frames := 4, cells := 0, slots := 0, locals := 96 } : Room) s_ m_ ([.ref (x 0), .ref (r 5), .int (nI (T.2 3 0))] : List Value).toArray below meth c_ s_.heap [] 0 0 (MQ below (vp_Si (fun r_ => r_ = (nI 1))) ([.ref (x 0), .ref (r 5), .int (nI (T.2 3 0))] : List Value).toArray s_ 0 0 (fun _ => False)) (F0 m_ 73 ls []) := by
          intro nn_
          induction nn_ with
          | zero => intro L bst lst hmu; exact absurd hmu (Nat.not_lt_zero _)
          | succ nn_ ih =>
            have ih_73 := ih
            clear ih
            intro L bst lst hmu_73 hL2 hL hb1 hb2 hL24 ls hl
            refine lv_iload hx hb dL_probe_73 (lv_at hl 6 rfl) ?_
            refine lv_bipush (v := (nI 13)) hx hb dL_probe_75 kb_13 ?_
            refine rn_icmp_ge hx hb (by omega) (by omega) dL_probe_77 (by decide) (tgt := 168) (fun c_77 => ?_) (fun c_77 => ?_)
            · have ebt : (if T.2 3 0 < 24 then -6 else nI (btF (T.1 7) 10).1) = bst := by rw [hb1, show L = 13 by omega, if_neg (by omega)]; rfl
              refine lv_aload_n hx hb dL_probe_168 rfl (lv_at hl 0 rfl) ?_
              refine rn_iconst hx hb 0 rfl dL_probe_169 ?_
              refine lv_iload_n hx hb dL_probe_170 rfl (lv_at hl 2 rfl) ?_
              refine roVg CX hE (va_P_segs hP [0, 1] rfl) (c_X5_seen_e l G cA x a b T (nI 0) (nI (T.2 3 0)) (by assumption) (seen_no hok)) (cwV 2 hts gL_probe_X5_seen rfl rfl rfl hdv_X5_seen ⟨Nat.le_of_ble_eq_true rfl, Nat.le_of_ble_eq_true rfl⟩) (hP 0 _ rfl) 0 rfl rfl rfl B0_blind (fun _ _ _ => trivial) rfl hl.1 (rest := []) rfl (Nat.le_of_ble_eq_true rfl) dL_probe_171 ⟨Nat.zero_le _, Nat.zero_le _⟩ ?_
              refine lv_iconst (v := (-1)) hx hb dL_probe_174 (by decide) ?_
              refine lv_icmp_ne hx hb dL_probe_175 (by decide) (tgt := 213) (fun c_175 => ?_) (fun c_175 => ?_)
              · exact absurd rfl c_175
              · refine lv_aload_n hx hb dL_probe_178 rfl (lv_at hl 0 rfl) ?_
                refine rn_iconst hx hb 0 rfl dL_probe_179 ?_
                refine rn_iconst hx hb 2 rfl dL_probe_180 ?_
                refine roVg CX hE (va_P_segs hP [0, 1] rfl) (c_X5_ofProbe_k l G cA x a b T 0 (nI 2) (by assumption) (by omega)) (cwV 2 hts gL_probe_X5_ofProbe rfl rfl rfl hdv_X5_ofProbe ⟨Nat.le_of_ble_eq_true rfl, Nat.le_of_ble_eq_true rfl⟩) (hP 0 _ rfl) 0 rfl rfl rfl B0_blind (fun _ _ _ => trivial) rfl hl.1 (rest := []) rfl (Nat.le_of_ble_eq_true rfl) dL_probe_181 ⟨Nat.zero_le _, Nat.zero_le _⟩ ?_
                refine rn_top (nI (T.2 3 0)) (prb_at (k := 2) (by decide +kernel)) ?_
                refine lv_iload_n hx hb dL_probe_184 rfl (lv_at hl 2 rfl) ?_
                refine rn_icmp_ne hx hb (by omega) (by omega) dL_probe_185 (by decide) (tgt := 213) (fun c_185 => ?_) (fun c_185 => ?_)
                · exact absurd rfl c_185
                · refine lv_aload_n hx hb dL_probe_188 rfl (lv_at hl 0 rfl) ?_
                  refine rn_iconst hx hb 0 rfl dL_probe_189 ?_
                  refine rn_iconst hx hb 3 rfl dL_probe_190 ?_
                  refine roVg CX hE (va_P_segs hP [0, 1] rfl) (c_X5_ofProbe_k l G cA x a b T 0 (nI 3) (by assumption) (by omega)) (cwV 2 hts gL_probe_X5_ofProbe rfl rfl rfl hdv_X5_ofProbe ⟨Nat.le_of_ble_eq_true rfl, Nat.le_of_ble_eq_true rfl⟩) (hP 0 _ rfl) 0 rfl rfl rfl B0_blind (fun _ _ _ => trivial) rfl hl.1 (rest := []) rfl (Nat.le_of_ble_eq_true rfl) dL_probe_191 ⟨Nat.zero_le _, Nat.zero_le _⟩ ?_
                  refine rn_top (if T.2 3 0 < 24 then -6 else nI (btF (T.1 7) 10).1) (prb_at (k := 3) (by decide +kernel)) ?_
                  refine lv_iload hx hb dL_probe_194 (lv_at hl 4 rfl) ?_
                  refine lv_icmp_ne hx hb dL_probe_196 (by decide) (tgt := 213) (fun c_196 => ?_) (fun c_196 => ?_)
                  · exact absurd ebt c_196
                  · refine lv_aload_n hx hb dL_probe_199 rfl (lv_at hl 0 rfl) ?_
                    refine rn_iconst hx hb 0 rfl dL_probe_200 ?_
                    refine rn_iconst hx hb 4 rfl dL_probe_201 ?_
                    refine roVg CX hE (va_P_segs hP [0, 1] rfl) (c_X5_ofProbe_k l G cA x a b T 0 (nI 4) (by assumption) (by omega)) (cwV 2 hts gL_probe_X5_ofProbe rfl rfl rfl hdv_X5_ofProbe ⟨Nat.le_of_ble_eq_true rfl, Nat.le_of_ble_eq_true rfl⟩) (hP 0 _ rfl) 0 rfl rfl rfl B0_blind (fun _ _ _ => trivial) rfl hl.1 (rest := []) rfl (Nat.le_of_ble_eq_true rfl) dL_probe_202 ⟨Nat.zero_le _, Nat.zero_le _⟩ ?_
                    refine rn_top (if T.2 3 0 = 0 then -6 else mxF (T.1 7) (T.2 3 0) + nI 10000) (prb_at (k := 4) (by decide +kernel)) ?_
                    refine lv_iload_n hx hb dL_probe_205 rfl (lv_at hl 3 rfl) ?_
                    refine lv_icmp_ne hx hb dL_probe_206 (by decide) (tgt := 213) (fun c_206 => ?_) (fun c_206 => ?_)
                    · exact absurd ems c_206
                    · refine rn_iconst hx hb 1 rfl dL_probe_209 ?_
                      refine lv_goto (tgt := 214) hx hb dL_probe_210 (by decide) ?_
                      exact ro_ret CX hr hlk rfl rfl dL_probe_214
            · refine lv_iload_n hx hb dL_probe_80 rfl (lv_at hl 2 rfl) ?_
              refine lv_bipush (v := (nI 24)) hx hb dL_probe_81 kb_24 ?_
              refine rn_icmp_ne hx hb (by omega) (by omega) dL_probe_83 (by decide) (tgt := 168) (fun c_83 => ?_) (fun c_83 => ?_)
              · have ebt : (if T.2 3 0 < 24 then -6 else nI (btF (T.1 7) 10).1) = bst := by rw [hb1, show L = 2 by omega, if_pos (by omega)]; rfl
                refine lv_aload_n hx hb dL_probe_168 rfl (lv_at hl 0 rfl) ?_
                refine rn_iconst hx hb 0 rfl dL_probe_169 ?_
                refine lv_iload_n hx hb dL_probe_170 rfl (lv_at hl 2 rfl) ?_
                refine roVg CX hE (va_P_segs hP [0, 1] rfl) (c_X5_seen_e l G cA x a b T (nI 0) (nI (T.2 3 0)) (by assumption) (seen_no hok)) (cwV 2 hts gL_probe_X5_seen rfl rfl rfl hdv_X5_seen ⟨Nat.le_of_ble_eq_true rfl, Nat.le_of_ble_eq_true rfl⟩) (hP 0 _ rfl) 0 rfl rfl rfl B0_blind (fun _ _ _ => trivial) rfl hl.1 (rest := []) rfl (Nat.le_of_ble_eq_true rfl) dL_probe_171 ⟨Nat.zero_le _, Nat.zero_le _⟩ ?_
                refine lv_iconst (v := (-1)) hx hb dL_probe_174 (by decide) ?_
                refine lv_icmp_ne hx hb dL_probe_175 (by decide) (tgt := 213) (fun c_175 => ?_) (fun c_175 => ?_)
                · exact absurd rfl c_175
                · refine lv_aload_n hx hb dL_probe_178 rfl (lv_at hl 0 rfl) ?_
                  refine rn_iconst hx hb 0 rfl dL_probe_179 ?_
                  refine rn_iconst hx hb 2 rfl dL_probe_180 ?_
                  refine roVg CX hE (va_P_segs hP [0, 1] rfl) (c_X5_ofProbe_k l G cA x a b T 0 (nI 2) (by assumption) (by omega)) (cwV 2 hts gL_probe_X5_ofProbe rfl rfl rfl hdv_X5_ofProbe ⟨Nat.le_of_ble_eq_true rfl, Nat.le_of_ble_eq_true rfl⟩) (hP 0 _ rfl) 0 rfl rfl rfl B0_blind (fun _ _ _ => trivial) rfl hl.1 (rest := []) rfl (Nat.le_of_ble_eq_true rfl) dL_probe_181 ⟨Nat.zero_le _, Nat.zero_le _⟩ ?_
                  refine rn_top (nI (T.2 3 0)) (prb_at (k := 2) (by decide +kernel)) ?_
                  refine lv_iload_n hx hb dL_probe_184 rfl (lv_at hl 2 rfl) ?_
                  refine rn_icmp_ne hx hb (by omega) (by omega) dL_probe_185 (by decide) (tgt := 213) (fun c_185 => ?_) (fun c_185 => ?_)
                  · exact absurd rfl c_185
                  · refine lv_aload_n hx hb dL_probe_188 rfl (lv_at hl 0 rfl) ?_
                    refine rn_iconst hx hb 0 rfl dL_probe_189 ?_
                    refine rn_iconst hx hb 3 rfl dL_probe_190 ?_
                    refine roVg CX hE (va_P_segs hP [0, 1] rfl) (c_X5_ofProbe_k l G cA x a b T 0 (nI 3) (by assumption) (by omega)) (cwV 2 hts gL_probe_X5_ofProbe rfl rfl rfl hdv_X5_ofProbe ⟨Nat.le_of_ble_eq_true rfl, Nat.le_of_ble_eq_true rfl⟩) (hP 0 _ rfl) 0 rfl rfl rfl B0_blind (fun _ _ _ => trivial) rfl hl.1 (rest := []) rfl (Nat.le_of_ble_eq_true rfl) dL_probe_191 ⟨Nat.zero_le _, Nat.zero_le _⟩ ?_
                    refine rn_top (if T.2 3 0 < 24 then -6 else nI (btF (T.1 7) 10).1) (prb_at (k := 3) (by decide +kernel)) ?_
                    refine lv_iload hx hb dL_probe_194 (lv_at hl 4 rfl) ?_
                    refine lv_icmp_ne hx hb dL_probe_196 (by decide) (tgt := 213) (fun c_196 => ?_) (fun c_196 => ?_)
                    · exact absurd ebt c_196
                    · refine lv_aload_n hx hb dL_probe_199 rfl (lv_at hl 0 rfl) ?_
                      refine rn_iconst hx hb 0 rfl dL_probe_200 ?_
                      refine rn_iconst hx hb 4 rfl dL_probe_201 ?_
                      refine roVg CX hE (va_P_segs hP [0, 1] rfl) (c_X5_ofProbe_k l G cA x a b T 0 (nI 4) (by assumption) (by omega)) (cwV 2 hts gL_probe_X5_ofProbe rfl rfl rfl hdv_X5_ofProbe ⟨Nat.le_of_ble_eq_true rfl, Nat.le_of_ble_eq_true rfl⟩) (hP 0 _ rfl) 0 rfl rfl rfl B0_blind (fun _ _ _ => trivial) rfl hl.1 (rest := []) rfl (Nat.le_of_ble_eq_true rfl) dL_probe_202 ⟨Nat.zero_le _, Nat.zero_le _⟩ ?_
                      refine rn_top (if T.2 3 0 = 0 then -6 else mxF (T.1 7) (T.2 3 0) + nI 10000) (prb_at (k := 4) (by decide +kernel)) ?_
                      refine lv_iload_n hx hb dL_probe_205 rfl (lv_at hl 3 rfl) ?_
                      refine lv_icmp_ne hx hb dL_probe_206 (by decide) (tgt := 213) (fun c_206 => ?_) (fun c_206 => ?_)
                      · exact absurd ems c_206
                      · refine rn_iconst hx hb 1 rfl dL_probe_209 ?_
                        refine lv_goto (tgt := 214) hx hb dL_probe_210 (by decide) ?_
                        exact ro_ret CX hr hlk rfl rfl dL_probe_214
              · refine rn_iconst hx hb 0 rfl dL_probe_86 ?_
                refine lv_istore (lv' := [(7, .int (nI 0)), (0, .ref (x 0)), (1, .ref (r 5)), (2, .int (nI (T.2 3 0))), (3, .int ms), (4, .int bst), (5, .int lst), (6, .int (nI L))]) hx hb dL_probe_87 hl (by decide) rfl (fun ls hl => ?_)
                refine rn_iconst hx hb 0 rfl dL_probe_89 ?_
                refine lv_istore (lv' := [(8, .int (nI 0)), (7, .int (nI 0)), (0, .ref (x 0)), (1, .ref (r 5)), (2, .int (nI (T.2 3 0))), (3, .int ms), (4, .int bst), (5, .int lst), (6, .int (nI L))]) hx hb dL_probe_90 hl (by decide) rfl (fun ls hl => ?_)
                have LP_92 : ∀ (nn_ : Nat) (k2 : Nat) (sm : Int32), (12 - k2) < nn_ → (k2 ≤ 12) → (sm = sumI k2 (fun j => iabs (T.1 7 j - T.1 7 (j + L)))) → ∀ ls : Array Slot, lv_has ls 9 [(0, .ref (x 0)), (1, .ref (r 5)), (2, .int (nI (T.2 3 0))), (3, .int ms), (4, .int bst), (5, .int lst), (6, .int (nI L)), (7, .int sm), (8, .int (nI k2))] → W p_ l e_ ({ frames := 4, cells := 0, slots := 0, locals := 96 } : Room) s_ m_ ([.ref (x 0), .ref (r 5), .int (nI (T.2 3 0))] : List Value).toArray below meth c_ s_.heap [] 0 0 (MQ below (vp_Si (fun r_ => r_ = (nI 1))) ([.ref (x 0), .ref (r 5), .int (nI (T.2 3 0))] : List Value).toArray s_ 0 0 (fun _ => False)) (F0 m_ 92 ls []) := by
                  intro nn_
                  induction nn_ with
                  | zero => intro k2 sm hmu; exact absurd hmu (Nat.not_lt_zero _)
                  | succ nn_ ih =>
                    have ih_92 := ih
                    clear ih
                    intro k2 sm hmu_92 hk2 hsm ls hl
                    refine lv_iload hx hb dL_probe_92 (lv_at hl 8 rfl) ?_
                    refine lv_bipush (v := (nI 12)) hx hb dL_probe_94 kb_12 ?_
                    refine rn_icmp_ge hx hb (by omega) (by omega) dL_probe_96 (by decide) (tgt := 125) (fun c_96 => ?_) (fun c_96 => ?_)
                    · refine lv_iload hx hb dL_probe_125 (lv_at hl 4 rfl) ?_
                      have hbn := bm_neg hL hb1
                      have J_144 : ∀ v : Int32, v = (if bst = -6 ∨ sm < lst then nI L else bst) → W p_ l e_ ({ frames := 4, cells := 0, slots := 0, locals := 96 } : Room) s_ m_ ([.ref (x 0), .ref (r 5), .int (nI (T.2 3 0))] : List Value).toArray below meth c_ s_.heap [] 0 0 (MQ below (vp_Si (fun r_ => r_ = (nI 1))) ([.ref (x 0), .ref (r 5), .int (nI (T.2 3 0))] : List Value).toArray s_ 0 0 (fun _ => False)) (F0 m_ 144 ls [.int v]) := by
                        intro v hv
                        subst hv
                        refine lv_istore (lv' := [(4, .int (if bst = -6 ∨ sm < lst then nI L else bst)), (0, .ref (x 0)), (1, .ref (r 5)), (2, .int (nI (T.2 3 0))), (3, .int ms), (5, .int lst), (6, .int (nI L)), (7, .int sm), (8, .int (nI k2))]) hx hb dL_probe_144 hl (by decide) rfl (fun ls hl => ?_)
                        refine lv_iload hx hb dL_probe_146 (lv_at hl 0 rfl) ?_
                        refine lv_iload hx hb dL_probe_148 (lv_at hl 6 rfl) ?_
                        have hbe := bm_if (P := bst = -6 ∨ sm < lst) hL hb1
                        have J_160 : ∀ v : Int32, v = (if bst = -6 ∨ sm < lst then sm else lst) → W p_ l e_ ({ frames := 4, cells := 0, slots := 0, locals := 96 } : Room) s_ m_ ([.ref (x 0), .ref (r 5), .int (nI (T.2 3 0))] : List Value).toArray below meth c_ s_.heap [] 0 0 (MQ below (vp_Si (fun r_ => r_ = (nI 1))) ([.ref (x 0), .ref (r 5), .int (nI (T.2 3 0))] : List Value).toArray s_ 0 0 (fun _ => False)) (F0 m_ 160 ls [.int v]) := by
                          intro v hv
                          subst hv
                          refine lv_istore (lv' := [(5, .int (if bst = -6 ∨ sm < lst then sm else lst)), (4, .int (if bst = -6 ∨ sm < lst then nI L else bst)), (0, .ref (x 0)), (1, .ref (r 5)), (2, .int (nI (T.2 3 0))), (3, .int ms), (6, .int (nI L)), (7, .int sm), (8, .int (nI k2))]) hx hb dL_probe_160 hl (by decide) rfl (fun ls hl => ?_)
                          refine rn_iinc hx hb (n := 1) (lv' := [(6, .int (nI (L + 1))), (5, .int (if bst = -6 ∨ sm < lst then sm else lst)), (4, .int (if bst = -6 ∨ sm < lst then nI L else bst)), (0, .ref (x 0)), (1, .ref (r 5)), (2, .int (nI (T.2 3 0))), (3, .int ms), (7, .int sm), (8, .int (nI k2))]) rfl dL_probe_162 hl (k := 6) rfl (by decide) rfl (fun ls hl => ?_)
                          refine lv_goto (tgt := 73) hx hb dL_probe_165 (by decide) ?_
                          have hsd : sm = diffF (T.1 7) L := by rw [hsm, show k2 = 12 by omega]; rfl
                          have hnn := bmF_next (r := T.1 7) hL2 (by omega)
                          rw [← hsd, ← hb1, ← hb2] at hnn
                          have hn1 := congrArg Prod.fst hnn
                          have hn2 := congrArg Prod.snd hnn
                          exact ih_73 (L + 1) (if bst = -6 ∨ sm < lst then nI L else bst) (if bst = -6 ∨ sm < lst then sm else lst) (by omega) (by omega) (by omega) hn1 hn2 (Or.inl c_83) ls (lv_sub hl [3, 4, 5, 6, 2, 1, 0] rfl)
                        refine lv_icmp_ne hx hb dL_probe_150 (by decide) (tgt := 158) (fun c_150 => ?_) (fun c_150 => ?_)
                        · refine lv_iload hx hb dL_probe_158 (lv_at hl 5 rfl) ?_
                          exact J_160 _ (by first | exact (if_pos (hbe.mp c_150)).symm | exact (if_neg (fun q => c_150 (hbe.mpr q))).symm)
                        · refine lv_iload hx hb dL_probe_153 (lv_at hl 7 rfl) ?_
                          refine lv_goto (tgt := 160) hx hb dL_probe_155 (by decide) ?_
                          exact J_160 _ (by first | exact (if_pos (hbe.mp c_150)).symm | exact (if_neg (fun q => c_150 (hbe.mpr q))).symm)
                      refine lv_if_lt hx hb dL_probe_127 (by decide) (tgt := 137) (fun c_127 => ?_) (fun c_127 => ?_)
                      · refine lv_iload hx hb dL_probe_137 (lv_at hl 6 rfl) ?_
                        refine lv_goto (tgt := 144) hx hb dL_probe_139 (by decide) ?_
                        exact J_144 _ (by first | exact (if_pos (Or.inl (hbn.mp c_127))).symm | exact (if_pos (Or.inr (Int32.not_le.mp c_134))).symm | exact (if_neg (fun h => h.elim (fun q => c_127 (hbn.mpr q)) (fun q => absurd c_134 (Int32.not_le.mpr q)))).symm)
                      · refine lv_iload hx hb dL_probe_130 (lv_at hl 7 rfl) ?_
                        refine lv_iload hx hb dL_probe_132 (lv_at hl 5 rfl) ?_
                        refine lv_icmp_ge hx hb dL_probe_134 (by decide) (tgt := 142) (fun c_134 => ?_) (fun c_134 => ?_)
                        · refine lv_iload hx hb dL_probe_142 (lv_at hl 4 rfl) ?_
                          exact J_144 _ (by first | exact (if_pos (Or.inl (hbn.mp c_127))).symm | exact (if_pos (Or.inr (Int32.not_le.mp c_134))).symm | exact (if_neg (fun h => h.elim (fun q => c_127 (hbn.mpr q)) (fun q => absurd c_134 (Int32.not_le.mpr q)))).symm)
                        · refine lv_iload hx hb dL_probe_137 (lv_at hl 6 rfl) ?_
                          refine lv_goto (tgt := 144) hx hb dL_probe_139 (by decide) ?_
                          exact J_144 _ (by first | exact (if_pos (Or.inl (hbn.mp c_127))).symm | exact (if_pos (Or.inr (Int32.not_le.mp c_134))).symm | exact (if_neg (fun h => h.elim (fun q => c_127 (hbn.mpr q)) (fun q => absurd c_134 (Int32.not_le.mpr q)))).symm)
                    · refine lv_iload hx hb dL_probe_99 (lv_at hl 7 rfl) ?_
                      refine lv_aload_n hx hb dL_probe_101 rfl (lv_at hl 1 rfl) ?_
                      refine lv_iload hx hb dL_probe_102 (lv_at hl 8 rfl) ?_
                      refine rn_iald CX hE (hP 2 _ rfl) 0 rfl (j := k2) (by omega) (ltb rfl) dL_probe_104 ?_
                      refine lv_aload_n hx hb dL_probe_105 rfl (lv_at hl 1 rfl) ?_
                      refine lv_iload hx hb dL_probe_106 (lv_at hl 8 rfl) ?_
                      refine lv_iload hx hb dL_probe_108 (lv_at hl 6 rfl) ?_
                      refine rn_iadd hx hb dL_probe_110 ?_
                      refine rn_iald CX hE (hP 2 _ rfl) 0 rfl (j := (k2 + L)) (by omega) (ltb rfl) dL_probe_111 ?_
                      refine lv_isub hx hb dL_probe_112 ?_
                      refine roS CX hE va_P_nil (c_L_amount l G cA (((T.1 7) k2) - ((T.1 7) (k2 + L))) ) (va_cwS 1 hts gL_probe_L_amount rfl rfl rfl hdn_L_amount ⟨Nat.le_of_ble_eq_true rfl, Nat.le_of_ble_eq_true rfl⟩) [] rfl B0_blind (fun _ _ _ => trivial) rfl hl.1 (rest := [.int sm]) rfl (Nat.le_of_ble_eq_true rfl) dL_probe_113 ⟨Nat.zero_le _, Nat.zero_le _⟩ ?_
                      refine lv_iadd hx hb dL_probe_116 ?_
                      refine lv_istore (lv' := [(7, .int (sm + (iabs (((T.1 7) k2) - ((T.1 7) (k2 + L)))))), (0, .ref (x 0)), (1, .ref (r 5)), (2, .int (nI (T.2 3 0))), (3, .int ms), (4, .int bst), (5, .int lst), (6, .int (nI L)), (8, .int (nI k2))]) hx hb dL_probe_117 hl (by decide) rfl (fun ls hl => ?_)
                      refine rn_iinc hx hb (n := 1) (lv' := [(8, .int (nI (k2 + 1))), (7, .int (sm + (iabs (((T.1 7) k2) - ((T.1 7) (k2 + L)))))), (0, .ref (x 0)), (1, .ref (r 5)), (2, .int (nI (T.2 3 0))), (3, .int ms), (4, .int bst), (5, .int lst), (6, .int (nI L))]) rfl dL_probe_119 hl (k := 8) rfl (by decide) rfl (fun ls hl => ?_)
                      refine lv_goto (tgt := 92) hx hb dL_probe_122 (by decide) ?_
                      exact ih_92 (k2 + 1) (sm + (iabs (((T.1 7) k2) - ((T.1 7) (k2 + L))))) (by omega) (by omega) (by rw [hsm]; rfl) ls (lv_sub hl [2, 3, 4, 5, 6, 7, 8, 1, 0] rfl)
                exact LP_92 _ 0 (nI 0) (Nat.lt_succ_self _) (by omega) rfl ls (lv_sub hl [2, 3, 4, 5, 6, 7, 8, 1, 0] rfl)
        exact LP_73 _ 2 (-6) (nI 0) (Nat.lt_succ_self _) (by omega) (by omega) rfl rfl (Or.inr rfl) ls (lv_sub hl [3, 4, 5, 6, 2, 1, 0] rfl)
      · refine lv_aload_n hx hb dL_probe_12 rfl (lv_at hl 0 rfl) ?_
        refine rn_iconst hx hb 0 rfl dL_probe_13 ?_
        refine lv_iload hx hb dL_probe_14 (lv_at hl 4 rfl) ?_
        refine roVg CX hE (va_P_segs hP [0, 1] rfl) (c_X5_seen_k l G cA x a b T 0 k1 (by assumption) (by omega) (by omega)) (cwV 2 hts gL_probe_X5_seen rfl rfl rfl hdv_X5_seen ⟨Nat.le_of_ble_eq_true rfl, Nat.le_of_ble_eq_true rfl⟩) (hP 0 _ rfl) 0 rfl rfl rfl B0_blind (fun _ _ _ => trivial) rfl hl.1 (rest := []) rfl (Nat.le_of_ble_eq_true rfl) dL_probe_16 ⟨Nat.zero_le _, Nat.zero_le _⟩ ?_
        refine rn_top (T.1 7 k1 + nI 10000) rfl ?_
        refine lv_aload_n hx hb dL_probe_19 rfl (lv_at hl 1 rfl) ?_
        refine lv_iload hx hb dL_probe_20 (lv_at hl 4 rfl) ?_
        refine rn_iald CX hE (hP 2 _ rfl) 0 rfl (j := k1) (by omega) (ltb rfl) dL_probe_22 ?_
        refine lv_sipush (v := (nI 10000)) hx hb dL_probe_23 ks_10000 ?_
        refine lv_iadd hx hb dL_probe_26 ?_
        refine lv_icmp_eq hx hb dL_probe_27 (by decide) (tgt := 32) (fun c_27 => ?_) (fun c_27 => ?_)
        · refine lv_aload_n hx hb dL_probe_32 rfl (lv_at hl 1 rfl) ?_
          refine lv_iload hx hb dL_probe_33 (lv_at hl 4 rfl) ?_
          refine rn_iald CX hE (hP 2 _ rfl) 0 rfl (j := k1) (by omega) (ltb rfl) dL_probe_35 ?_
          refine lv_sipush (v := (nI 10000)) hx hb dL_probe_36 ks_10000 ?_
          refine lv_iadd hx hb dL_probe_39 ?_
          refine lv_iload_n hx hb dL_probe_40 rfl (lv_at hl 3 rfl) ?_
          have J_56 : ∀ v : Int32, v = (if ms < T.1 7 k1 + nI 10000 then T.1 7 k1 + nI 10000 else ms) → W p_ l e_ ({ frames := 4, cells := 0, slots := 0, locals := 96 } : Room) s_ m_ ([.ref (x 0), .ref (r 5), .int (nI (T.2 3 0))] : List Value).toArray below meth c_ s_.heap [] 0 0 (MQ below (vp_Si (fun r_ => r_ = (nI 1))) ([.ref (x 0), .ref (r 5), .int (nI (T.2 3 0))] : List Value).toArray s_ 0 0 (fun _ => False)) (F0 m_ 56 ls [.int v]) := by
            intro v hv
            subst hv
            refine lv_istore_n (lv' := [(3, .int (if ms < T.1 7 k1 + nI 10000 then T.1 7 k1 + nI 10000 else ms)), (0, .ref (x 0)), (1, .ref (r 5)), (2, .int (nI (T.2 3 0))), (4, .int (nI k1))]) hx hb dL_probe_56 rfl hl (by decide) rfl (fun ls hl => ?_)
            refine rn_iinc hx hb (n := 1) (lv' := [(4, .int (nI (k1 + 1))), (3, .int (if ms < T.1 7 k1 + nI 10000 then T.1 7 k1 + nI 10000 else ms)), (0, .ref (x 0)), (1, .ref (r 5)), (2, .int (nI (T.2 3 0)))]) rfl dL_probe_57 hl (k := 4) rfl (by decide) rfl (fun ls hl => ?_)
            refine lv_goto (tgt := 6) hx hb dL_probe_60 (by decide) ?_
            exact ih_6 (k1 + 1) (if ms < T.1 7 k1 + nI 10000 then T.1 7 k1 + nI 10000 else ms) (by omega) (by omega) (by rw [hms]; rfl) ls (lv_sub hl [2, 3, 4, 1, 0] rfl)
          refine lv_icmp_le hx hb dL_probe_41 (by decide) (tgt := 55) (fun c_41 => ?_) (fun c_41 => ?_)
          · refine lv_iload_n hx hb dL_probe_55 rfl (lv_at hl 3 rfl) ?_
            exact J_56 _ (by first | exact (if_neg (Int32.not_lt.mpr c_41)).symm | exact (if_pos (Int32.not_le.mp c_41)).symm)
          · refine lv_aload_n hx hb dL_probe_44 rfl (lv_at hl 1 rfl) ?_
            refine lv_iload hx hb dL_probe_45 (lv_at hl 4 rfl) ?_
            refine rn_iald CX hE (hP 2 _ rfl) 0 rfl (j := k1) (by omega) (ltb rfl) dL_probe_47 ?_
            refine lv_sipush (v := (nI 10000)) hx hb dL_probe_48 ks_10000 ?_
            refine lv_iadd hx hb dL_probe_51 ?_
            refine lv_goto (tgt := 56) hx hb dL_probe_52 (by decide) ?_
            exact J_56 _ (by first | exact (if_neg (Int32.not_lt.mpr c_41)).symm | exact (if_pos (Int32.not_le.mp c_41)).symm)
        · exact absurd rfl c_27
  exact LP_6 _ 0 (-6) (Nat.lt_succ_self _) (Nat.zero_le _) rfl ls (lv_sub hl [2, 3, 4, 1, 0] rfl)
