theorem hdv_X5_loudest : yX5_loudest.cls = RX5 ∧ yX5_loudest.cls ≠ "java/lang/invoke/MethodHandle" ∧ yX5_loudest.cls ≠ "java/lang/invoke/VarHandle" ∧ (parseMethodDescriptor yX5_loudest.desc).map (fun d => d.parameters.length) = some 1 := by decide +kernel
theorem hdv_X5_count : yX5_count.cls = RX5 ∧ yX5_count.cls ≠ "java/lang/invoke/MethodHandle" ∧ yX5_count.cls ≠ "java/lang/invoke/VarHandle" ∧ (parseMethodDescriptor yX5_count.desc).map (fun d => d.parameters.length) = some 1 := by decide +kernel
theorem w_L_counts_cn44 : Cond.constant RL 44 (1000000) ∈ wsL_counts := by decide +kernel
theorem kb_7 : (Int8.ofInt (7)).toInt32 = (nI 7) := by decide +kernel
theorem kb_8 : (Int8.ofInt (8)).toInt32 = (nI 8) := by decide +kernel
theorem hdv_X5_crests : yX5_crests.cls = RX5 ∧ yX5_crests.cls ≠ "java/lang/invoke/MethodHandle" ∧ yX5_crests.cls ≠ "java/lang/invoke/VarHandle" ∧ (parseMethodDescriptor yX5_crests.desc).map (fun d => d.parameters.length) = some 1 := by decide +kernel
set_option maxHeartbeats 32000000 in
set_option maxRecDepth 100000 in
theorem c_L_counts (l : Launch) (G : va_G) (cA : Nat → ClassId) (x : Nat → Nat) (a : Nat → Nat) (b : Nat → Nat) (T : TV) (hn : Nat) (ha : Nat → Nat → Nat) (ty : Nat) (pd : Nat → Int32) (r : Nat → Nat) (hinv : inv T) (hfi : fiOK T) (htk : T.2 4 0 ≤ 100000) : RO l yL_counts wsL_counts ({ frames := 5, cells := 0, slots := 0, locals := 111 }) G cA B0 (([[(x 0, .inr (5, [.ref (a 0), .ref (b 0), .ref (x 3), .ref (x 1), .ref (x 2), .ref (x 5)]))], [(x 3, .inr (1, [.ref (x 4), .int (nI hn)])), (x 4, .inl (cA 3, 6, .inr (.inr (.inr (.inr (stR ha))))))], [(x 5, .inr (2, [.ref (x 6), .int (nI ty)])), (x 6, .inl (cA 1, 72, .inl pd))], tkW cA a T, lawW cA r T] : List va_W).flatten) [.ref (x 0), .ref (r 0), .ref (r 1), .ref (r 2), .ref (r 3), .ref (r 6)] (nI 1) := by
  refine RO.mk (own := RL) (by decide) rfl rfl (Nat.le_of_ble_eq_true rfl) (fun p_ e_ s_ m_ below meth c_ ls CX hr hlk hP hE hB hl => ?_)
  obtain ⟨hx, hb, hml, hown, hts⟩ := id CX
  have hl : lv_has ls 17 [(0, .ref (x 0)), (1, .ref (r 0)), (2, .ref (r 1)), (3, .ref (r 2)), (4, .ref (r 3)), (5, .ref (r 6))] := hl
  have hP : ∀ (k : Nat) (w : va_W), ([[(x 0, .inr (5, [.ref (a 0), .ref (b 0), .ref (x 3), .ref (x 1), .ref (x 2), .ref (x 5)]))], [(x 3, .inr (1, [.ref (x 4), .int (nI hn)])), (x 4, .inl (cA 3, 6, .inr (.inr (.inr (.inr (stR ha))))))], [(x 5, .inr (2, [.ref (x 6), .int (nI ty)])), (x 6, .inl (cA 1, 72, .inl pd))], tkW cA a T, lawW cA r T] : List va_W)[k]? = some w → va_P G vwCl w s_.heap := va_P_seg hP
  have hok := hinv.1
  have hdc := hok.1.2
  have hnd := hok.1.1
  have hnp := hok.2.1
  have hpc := hok.2.2
  refine rn_iconst hx hb 0 rfl dL_counts_0 ?_
  refine lv_istore (lv' := [(6, .int (nI 0)), (0, .ref (x 0)), (1, .ref (r 0)), (2, .ref (r 1)), (3, .ref (r 2)), (4, .ref (r 3)), (5, .ref (r 6))]) hx hb dL_counts_1 hl (by decide) rfl (fun ls hl => ?_)
  refine rn_iconst hx hb 0 rfl dL_counts_3 ?_
  refine lv_istore (lv' := [(7, .int (nI 0)), (6, .int (nI 0)), (0, .ref (x 0)), (1, .ref (r 0)), (2, .ref (r 1)), (3, .ref (r 2)), (4, .ref (r 3)), (5, .ref (r 6))]) hx hb dL_counts_4 hl (by decide) rfl (fun ls hl => ?_)
  refine rn_iconst hx hb 0 rfl dL_counts_6 ?_
  refine lv_istore (lv' := [(8, .int (nI 0)), (7, .int (nI 0)), (6, .int (nI 0)), (0, .ref (x 0)), (1, .ref (r 0)), (2, .ref (r 1)), (3, .ref (r 2)), (4, .ref (r 3)), (5, .ref (r 6))]) hx hb dL_counts_7 hl (by decide) rfl (fun ls hl => ?_)
  refine rn_iconst hx hb 0 rfl dL_counts_9 ?_
  refine lv_istore (lv' := [(9, .int (nI 0)), (8, .int (nI 0)), (7, .int (nI 0)), (6, .int (nI 0)), (0, .ref (x 0)), (1, .ref (r 0)), (2, .ref (r 1)), (3, .ref (r 2)), (4, .ref (r 3)), (5, .ref (r 6))]) hx hb dL_counts_10 hl (by decide) rfl (fun ls hl => ?_)
  refine rn_iconst hx hb 0 rfl dL_counts_12 ?_
  refine lv_istore (lv' := [(10, .int (nI 0)), (9, .int (nI 0)), (8, .int (nI 0)), (7, .int (nI 0)), (6, .int (nI 0)), (0, .ref (x 0)), (1, .ref (r 0)), (2, .ref (r 1)), (3, .ref (r 2)), (4, .ref (r 3)), (5, .ref (r 6))]) hx hb dL_counts_13 hl (by decide) rfl (fun ls hl => ?_)
  refine lv_iconst (v := (-1)) hx hb dL_counts_15 (by decide) ?_
  refine lv_istore (lv' := [(11, .int (-1)), (10, .int (nI 0)), (9, .int (nI 0)), (8, .int (nI 0)), (7, .int (nI 0)), (6, .int (nI 0)), (0, .ref (x 0)), (1, .ref (r 0)), (2, .ref (r 1)), (3, .ref (r 2)), (4, .ref (r 3)), (5, .ref (r 6))]) hx hb dL_counts_16 hl (by decide) rfl (fun ls hl => ?_)
  refine rn_iconst hx hb 0 rfl dL_counts_18 ?_
  refine lv_istore (lv' := [(12, .int (nI 0)), (11, .int (-1)), (10, .int (nI 0)), (9, .int (nI 0)), (8, .int (nI 0)), (7, .int (nI 0)), (6, .int (nI 0)), (0, .ref (x 0)), (1, .ref (r 0)), (2, .ref (r 1)), (3, .ref (r 2)), (4, .ref (r 3)), (5, .ref (r 6))]) hx hb dL_counts_19 hl (by decide) rfl (fun ls hl => ?_)
  refine rn_iconst hx hb 0 rfl dL_counts_21 ?_
  refine lv_istore (lv' := [(13, .int (nI 0)), (12, .int (nI 0)), (11, .int (-1)), (10, .int (nI 0)), (9, .int (nI 0)), (8, .int (nI 0)), (7, .int (nI 0)), (6, .int (nI 0)), (0, .ref (x 0)), (1, .ref (r 0)), (2, .ref (r 1)), (3, .ref (r 2)), (4, .ref (r 3)), (5, .ref (r 6))]) hx hb dL_counts_22 hl (by decide) rfl (fun ls hl => ?_)
  have LP_24 : ∀ (nn_ : Nat) (i : Nat) (w6 : Int32) (w7 : Int32) (w8 : Int32) (w9 : Int32) (w10 : Int32) (w11 : Int32) (w12 : Int32), (60 - i) < nn_ → (i ≤ 60) → (w6 = sumI i (fun j => if T.1 1 j = nI 2 then nI 0 else nI 1)) → (w7 = sumI i (fun j => if ¬ T.1 1 j = nI 2 ∧ stillP (T.1 0) (T.1 2) (T.1 3) j then nI 1 else nI 0)) → (w8 = sumI i (T.1 2)) → (w9 = sumI i (fun j => iabs (T.1 2 j))) → (w10 = grF (T.1 2) i) → (w11 = loI (T.1 2) i) → (w12 = sumI i (fun j => if T.1 4 j = -6 then nI 0 else nI 1)) → ∀ ls : Array Slot, lv_has ls 17 [(0, .ref (x 0)), (1, .ref (r 0)), (2, .ref (r 1)), (3, .ref (r 2)), (4, .ref (r 3)), (5, .ref (r 6)), (6, .int w6), (7, .int w7), (8, .int w8), (9, .int w9), (10, .int w10), (11, .int w11), (12, .int w12), (13, .int (nI i))] → W p_ l e_ ({ frames := 5, cells := 0, slots := 0, locals := 111 } : Room) s_ m_ ([.ref (x 0), .ref (r 0), .ref (r 1), .ref (r 2), .ref (r 3), .ref (r 6)] : List Value).toArray below meth c_ s_.heap [] 0 0 (MQ below (vp_Si (fun r_ => r_ = (nI 1))) ([.ref (x 0), .ref (r 0), .ref (r 1), .ref (r 2), .ref (r 3), .ref (r 6)] : List Value).toArray s_ 0 0 (fun _ => False)) (F0 m_ 24 ls []) := by
    intro nn_
    induction nn_ with
    | zero => intro i w6 w7 w8 w9 w10 w11 w12 hmu; exact absurd hmu (Nat.not_lt_zero _)
    | succ nn_ ih =>
      have ih_24 := ih
      clear ih
      intro i w6 w7 w8 w9 w10 w11 w12 hmu_24 hi h6 h7 h8 h9 h10 h11 h12 ls hl
      refine lv_iload hx hb dL_counts_24 (lv_at hl 13 rfl) ?_
      refine lv_bipush (v := (nI 60)) hx hb dL_counts_26 kb_60 ?_
      refine rn_icmp_ge hx hb (by omega) (by omega) dL_counts_28 (by decide) (tgt := 172) (fun c_28 => ?_) (fun c_28 => ?_)
      · have e6 : w6 = openF (T.1 1) := by rw [h6, show i = 60 by omega]; rfl
        have e7 : w7 = openF (T.1 1) - restF (T.1 0) (T.1 1) (T.1 2) (T.1 3) := by rw [h7, show i = 60 by omega]; exact st_cnt
        have e8 : w8 = sumI 60 (T.1 2) := by rw [h8, show i = 60 by omega]
        have e9 : w9 = loudF (T.1 2) := by rw [h9, show i = 60 by omega]; rfl
        have hab : ∀ j, j < 60 → 0 ≤ iabs (T.1 2 j) := fun j hj => iabs_nn (hinv.2.2.1 j hj).1
        have e10 : w10 = iabs (T.1 2 (ldF (T.1 2) 60)) := by rw [h10, show i = 60 by omega]; exact gr_ld 59 hab
        have e11 : w11 = if iabs (T.1 2 (ldF (T.1 2) 60)) = nI 0 then -1 else nI (ldF (T.1 2) 60) := by rw [h11, show i = 60 by omega]; exact lo_ld 59 hab
        have e12 : w12 = reachF (T.1 4) := by rw [h12, show i = 60 by omega]; rfl
        refine rn_iconst hx hb 0 rfl dL_counts_172 ?_
        refine lv_istore (lv' := [(13, .int (nI 0)), (0, .ref (x 0)), (1, .ref (r 0)), (2, .ref (r 1)), (3, .ref (r 2)), (4, .ref (r 3)), (5, .ref (r 6)), (6, .int w6), (7, .int w7), (8, .int w8), (9, .int w9), (10, .int w10), (11, .int w11), (12, .int w12)]) hx hb dL_counts_173 hl (by decide) rfl (fun ls hl => ?_)
        have LP_175 : ∀ (nn_ : Nat) (y : Nat), (6 - y) < nn_ → (y ≤ 6) → ∀ ls : Array Slot, lv_has ls 17 [(0, .ref (x 0)), (1, .ref (r 0)), (2, .ref (r 1)), (3, .ref (r 2)), (4, .ref (r 3)), (5, .ref (r 6)), (6, .int w6), (7, .int w7), (8, .int w8), (9, .int w9), (10, .int w10), (11, .int w11), (12, .int w12), (13, .int (nI y))] → W p_ l e_ ({ frames := 5, cells := 0, slots := 0, locals := 111 } : Room) s_ m_ ([.ref (x 0), .ref (r 0), .ref (r 1), .ref (r 2), .ref (r 3), .ref (r 6)] : List Value).toArray below meth c_ s_.heap [] 0 0 (MQ below (vp_Si (fun r_ => r_ = (nI 1))) ([.ref (x 0), .ref (r 0), .ref (r 1), .ref (r 2), .ref (r 3), .ref (r 6)] : List Value).toArray s_ 0 0 (fun _ => False)) (F0 m_ 175 ls []) := by
          intro nn_
          induction nn_ with
          | zero => intro y hmu; exact absurd hmu (Nat.not_lt_zero _)
          | succ nn_ ih =>
            have ih_175 := ih
            clear ih
            intro y hmu_175 hy ls hl
            refine lv_iload hx hb dL_counts_175 (lv_at hl 13 rfl) ?_
            refine lv_bipush (v := (nI 6)) hx hb dL_counts_177 kb_6 ?_
            refine rn_icmp_ge hx hb (by omega) (by omega) dL_counts_179 (by decide) (tgt := 293) (fun c_179 => ?_) (fun c_179 => ?_)
            · refine lv_aload_n hx hb dL_counts_293 rfl (lv_at hl 0 rfl) ?_
              refine rn_iconst hx hb 0 rfl dL_counts_294 ?_
              refine roVg CX hE (va_P_segs hP [0, 3] rfl) (c_X5_loudest_k l G cA x a b T (nI 0) (by assumption) (by decide +kernel)) (cwV 1 hts gL_counts_X5_loudest rfl rfl rfl hdv_X5_loudest ⟨Nat.le_of_ble_eq_true rfl, Nat.le_of_ble_eq_true rfl⟩) (hP 0 _ rfl) 0 rfl rfl rfl B0_blind (fun _ _ _ => trivial) rfl hl.1 (rest := []) rfl (Nat.le_of_ble_eq_true rfl) dL_counts_295 ⟨Nat.zero_le _, Nat.zero_le _⟩ ?_
              refine lv_iload hx hb dL_counts_298 (lv_at hl 11 rfl) ?_
              have J_313 : ∀ v : Int32, v = (louF (T.1 2) (nI 0)) → W p_ l e_ ({ frames := 5, cells := 0, slots := 0, locals := 111 } : Room) s_ m_ ([.ref (x 0), .ref (r 0), .ref (r 1), .ref (r 2), .ref (r 3), .ref (r 6)] : List Value).toArray below meth c_ s_.heap [] 0 0 (MQ below (vp_Si (fun r_ => r_ = (nI 1))) ([.ref (x 0), .ref (r 0), .ref (r 1), .ref (r 2), .ref (r 3), .ref (r 6)] : List Value).toArray s_ 0 0 (fun _ => False)) (F0 m_ 313 ls [.int v, .int (louF (T.1 2) (nI 0))]) := by
                intro v hv
                subst hv
                refine lv_icmp_ne hx hb dL_counts_313 (by decide) (tgt := 343) (fun c_313 => ?_) (fun c_313 => ?_)
                · exact absurd rfl c_313
                · refine lv_aload_n hx hb dL_counts_316 rfl (lv_at hl 0 rfl) ?_
                  refine rn_iconst hx hb 1 rfl dL_counts_317 ?_
                  refine roVg CX hE (va_P_segs hP [0, 3] rfl) (c_X5_loudest_k l G cA x a b T (nI 1) (by assumption) (by decide +kernel)) (cwV 1 hts gL_counts_X5_loudest rfl rfl rfl hdv_X5_loudest ⟨Nat.le_of_ble_eq_true rfl, Nat.le_of_ble_eq_true rfl⟩) (hP 0 _ rfl) 0 rfl rfl rfl B0_blind (fun _ _ _ => trivial) rfl hl.1 (rest := []) rfl (Nat.le_of_ble_eq_true rfl) dL_counts_318 ⟨Nat.zero_le _, Nat.zero_le _⟩ ?_
                  refine lv_iload hx hb dL_counts_321 (lv_at hl 11 rfl) ?_
                  have J_336 : ∀ v : Int32, v = (louF (T.1 2) (nI 1)) → W p_ l e_ ({ frames := 5, cells := 0, slots := 0, locals := 111 } : Room) s_ m_ ([.ref (x 0), .ref (r 0), .ref (r 1), .ref (r 2), .ref (r 3), .ref (r 6)] : List Value).toArray below meth c_ s_.heap [] 0 0 (MQ below (vp_Si (fun r_ => r_ = (nI 1))) ([.ref (x 0), .ref (r 0), .ref (r 1), .ref (r 2), .ref (r 3), .ref (r 6)] : List Value).toArray s_ 0 0 (fun _ => False)) (F0 m_ 336 ls [.int v, .int (louF (T.1 2) (nI 1))]) := by
                    intro v hv
                    subst hv
                    refine lv_icmp_ne hx hb dL_counts_336 (by decide) (tgt := 343) (fun c_336 => ?_) (fun c_336 => ?_)
                    · exact absurd rfl c_336
                    · refine rn_iconst hx hb 1 rfl dL_counts_339 ?_
                      refine lv_goto (tgt := 344) hx hb dL_counts_340 (by decide) ?_
                      refine lv_istore (lv' := [(13, .int (nI 1)), (0, .ref (x 0)), (1, .ref (r 0)), (2, .ref (r 1)), (3, .ref (r 2)), (4, .ref (r 3)), (5, .ref (r 6)), (6, .int w6), (7, .int w7), (8, .int w8), (9, .int w9), (10, .int w10), (11, .int w11), (12, .int w12)]) hx hb dL_counts_344 hl (by decide) rfl (fun ls hl => ?_)
                      refine lv_iload hx hb dL_counts_346 (lv_at hl 0 rfl) ?_
                      refine rn_if_eq hx hb (by omega) dL_counts_348 (by decide) (tgt := 458) (fun c_348 => ?_) (fun c_348 => ?_)
                      · exact absurd c_348 (by decide)
                      · refine lv_aload_n hx hb dL_counts_351 rfl (lv_at hl 1 rfl) ?_
                        refine rn_iconst hx hb 0 rfl dL_counts_352 ?_
                        refine roVg CX hE (va_P_segs hP [0, 1, 2, 3] rfl) (c_X5_count l G cA x a b T hn ha ty pd (nI 0) ) (cwV 1 hts gL_counts_X5_count rfl rfl rfl hdv_X5_count ⟨Nat.le_of_ble_eq_true rfl, Nat.le_of_ble_eq_true rfl⟩) (hP 0 _ rfl) 0 rfl rfl rfl B0_blind (fun _ _ _ => trivial) rfl hl.1 (rest := []) rfl (Nat.le_of_ble_eq_true rfl) dL_counts_353 ⟨Nat.zero_le _, Nat.zero_le _⟩ ?_
                        refine rn_top (nI (T.2 4 0)) (cnt_at (k := 0) (by decide +kernel)) ?_
                        refine lv_aload hx hb dL_counts_356 (lv_at hl 6 rfl) ?_
                        refine rn_iconst hx hb 4 rfl dL_counts_358 ?_
                        refine rn_iald CX hE (hP 4 _ rfl) 5 rfl (j := 4) (by omega) (ltb rfl) dL_counts_359 ?_
                        refine rn_top (nI (T.2 4 0)) rfl ?_
                        refine rn_icmp_ne hx hb (by omega) (by omega) dL_counts_360 (by decide) (tgt := 458) (fun c_360 => ?_) (fun c_360 => ?_)
                        · exact absurd rfl c_360
                        · refine lv_aload_n hx hb dL_counts_363 rfl (lv_at hl 1 rfl) ?_
                          refine rn_iconst hx hb 1 rfl dL_counts_364 ?_
                          refine roVg CX hE (va_P_segs hP [0, 1, 2, 3] rfl) (c_X5_count l G cA x a b T hn ha ty pd (nI 1) ) (cwV 1 hts gL_counts_X5_count rfl rfl rfl hdv_X5_count ⟨Nat.le_of_ble_eq_true rfl, Nat.le_of_ble_eq_true rfl⟩) (hP 0 _ rfl) 0 rfl rfl rfl B0_blind (fun _ _ _ => trivial) rfl hl.1 (rest := []) rfl (Nat.le_of_ble_eq_true rfl) dL_counts_365 ⟨Nat.zero_le _, Nat.zero_le _⟩ ?_
                          refine rn_top (openF (T.1 1)) (cnt_at (k := 1) (by decide +kernel)) ?_
                          refine lv_iload hx hb dL_counts_368 (lv_at hl 7 rfl) ?_
                          refine lv_icmp_ne hx hb dL_counts_370 (by decide) (tgt := 458) (fun c_370 => ?_) (fun c_370 => ?_)
                          · exact absurd e6.symm c_370
                          · refine lv_aload_n hx hb dL_counts_373 rfl (lv_at hl 1 rfl) ?_
                            refine rn_iconst hx hb 2 rfl dL_counts_374 ?_
                            refine roVg CX hE (va_P_segs hP [0, 1, 2, 3] rfl) (c_X5_count l G cA x a b T hn ha ty pd (nI 2) ) (cwV 1 hts gL_counts_X5_count rfl rfl rfl hdv_X5_count ⟨Nat.le_of_ble_eq_true rfl, Nat.le_of_ble_eq_true rfl⟩) (hP 0 _ rfl) 0 rfl rfl rfl B0_blind (fun _ _ _ => trivial) rfl hl.1 (rest := []) rfl (Nat.le_of_ble_eq_true rfl) dL_counts_375 ⟨Nat.zero_le _, Nat.zero_le _⟩ ?_
                            refine rn_top (openF (T.1 1) - restF (T.1 0) (T.1 1) (T.1 2) (T.1 3)) (cnt_at (k := 2) (by decide +kernel)) ?_
                            refine lv_iload hx hb dL_counts_378 (lv_at hl 8 rfl) ?_
                            refine lv_icmp_ne hx hb dL_counts_380 (by decide) (tgt := 458) (fun c_380 => ?_) (fun c_380 => ?_)
                            · exact absurd e7.symm c_380
                            · refine lv_aload_n hx hb dL_counts_383 rfl (lv_at hl 1 rfl) ?_
                              refine rn_iconst hx hb 3 rfl dL_counts_384 ?_
                              refine roVg CX hE (va_P_segs hP [0, 1, 2, 3] rfl) (c_X5_count l G cA x a b T hn ha ty pd (nI 3) ) (cwV 1 hts gL_counts_X5_count rfl rfl rfl hdv_X5_count ⟨Nat.le_of_ble_eq_true rfl, Nat.le_of_ble_eq_true rfl⟩) (hP 0 _ rfl) 0 rfl rfl rfl B0_blind (fun _ _ _ => trivial) rfl hl.1 (rest := []) rfl (Nat.le_of_ble_eq_true rfl) dL_counts_385 ⟨Nat.zero_le _, Nat.zero_le _⟩ ?_
                              refine rn_top (sumI 60 (T.1 2) + nI 1000000) (cnt_at (k := 3) (by decide +kernel)) ?_
                              refine lv_iload hx hb dL_counts_388 (lv_at hl 9 rfl) ?_
                              refine lv_ldc (v := (1000000)) hx hb hown (hts _ w_L_counts_cn44) dL_counts_390 ?_
                              refine rn_top (nI 1000000) kl_1000000 ?_
                              refine lv_iadd hx hb dL_counts_392 ?_
                              refine lv_icmp_ne hx hb dL_counts_393 (by decide) (tgt := 458) (fun c_393 => ?_) (fun c_393 => ?_)
                              · exact absurd (by rw [e8]) c_393
                              · refine lv_aload_n hx hb dL_counts_396 rfl (lv_at hl 1 rfl) ?_
                                refine rn_iconst hx hb 4 rfl dL_counts_397 ?_
                                refine roVg CX hE (va_P_segs hP [0, 1, 2, 3] rfl) (c_X5_count l G cA x a b T hn ha ty pd (nI 4) ) (cwV 1 hts gL_counts_X5_count rfl rfl rfl hdv_X5_count ⟨Nat.le_of_ble_eq_true rfl, Nat.le_of_ble_eq_true rfl⟩) (hP 0 _ rfl) 0 rfl rfl rfl B0_blind (fun _ _ _ => trivial) rfl hl.1 (rest := []) rfl (Nat.le_of_ble_eq_true rfl) dL_counts_398 ⟨Nat.zero_le _, Nat.zero_le _⟩ ?_
                                refine rn_top (loudF (T.1 2)) (cnt_at (k := 4) (by decide +kernel)) ?_
                                refine lv_iload hx hb dL_counts_401 (lv_at hl 10 rfl) ?_
                                refine lv_icmp_ne hx hb dL_counts_403 (by decide) (tgt := 458) (fun c_403 => ?_) (fun c_403 => ?_)
                                · exact absurd e9.symm c_403
                                · refine lv_aload_n hx hb dL_counts_406 rfl (lv_at hl 1 rfl) ?_
                                  refine rn_iconst hx hb 5 rfl dL_counts_407 ?_
                                  refine roVg CX hE (va_P_segs hP [0, 1, 2, 3] rfl) (c_X5_count l G cA x a b T hn ha ty pd (nI 5) ) (cwV 1 hts gL_counts_X5_count rfl rfl rfl hdv_X5_count ⟨Nat.le_of_ble_eq_true rfl, Nat.le_of_ble_eq_true rfl⟩) (hP 0 _ rfl) 0 rfl rfl rfl B0_blind (fun _ _ _ => trivial) rfl hl.1 (rest := []) rfl (Nat.le_of_ble_eq_true rfl) dL_counts_408 ⟨Nat.zero_le _, Nat.zero_le _⟩ ?_
                                  refine rn_top (iabs (T.1 2 (ldF (T.1 2) 60))) (cnt_at (k := 5) (by decide +kernel)) ?_
                                  refine lv_iload hx hb dL_counts_411 (lv_at hl 11 rfl) ?_
                                  refine lv_icmp_ne hx hb dL_counts_413 (by decide) (tgt := 458) (fun c_413 => ?_) (fun c_413 => ?_)
                                  · exact absurd e10.symm c_413
                                  · refine lv_aload_n hx hb dL_counts_416 rfl (lv_at hl 1 rfl) ?_
                                    refine lv_bipush (v := (nI 6)) hx hb dL_counts_417 kb_6 ?_
                                    refine roVg CX hE (va_P_segs hP [0, 1, 2, 3] rfl) (c_X5_count l G cA x a b T hn ha ty pd (nI 6) ) (cwV 1 hts gL_counts_X5_count rfl rfl rfl hdv_X5_count ⟨Nat.le_of_ble_eq_true rfl, Nat.le_of_ble_eq_true rfl⟩) (hP 0 _ rfl) 0 rfl rfl rfl B0_blind (fun _ _ _ => trivial) rfl hl.1 (rest := []) rfl (Nat.le_of_ble_eq_true rfl) dL_counts_419 ⟨Nat.zero_le _, Nat.zero_le _⟩ ?_
                                    refine rn_top (reachF (T.1 4)) (cnt_at (k := 6) (by decide +kernel)) ?_
                                    refine lv_iload hx hb dL_counts_422 (lv_at hl 13 rfl) ?_
                                    refine lv_icmp_ne hx hb dL_counts_424 (by decide) (tgt := 458) (fun c_424 => ?_) (fun c_424 => ?_)
                                    · exact absurd e12.symm c_424
                                    · refine lv_aload_n hx hb dL_counts_427 rfl (lv_at hl 1 rfl) ?_
                                      refine lv_bipush (v := (nI 7)) hx hb dL_counts_428 kb_7 ?_
                                      refine roVg CX hE (va_P_segs hP [0, 1, 2, 3] rfl) (c_X5_count l G cA x a b T hn ha ty pd (nI 7) ) (cwV 1 hts gL_counts_X5_count rfl rfl rfl hdv_X5_count ⟨Nat.le_of_ble_eq_true rfl, Nat.le_of_ble_eq_true rfl⟩) (hP 0 _ rfl) 0 rfl rfl rfl B0_blind (fun _ _ _ => trivial) rfl hl.1 (rest := []) rfl (Nat.le_of_ble_eq_true rfl) dL_counts_430 ⟨Nat.zero_le _, Nat.zero_le _⟩ ?_
                                      refine rn_top (nI (T.2 4 1)) (cnt_at (k := 7) (by decide +kernel)) ?_
                                      refine lv_aload hx hb dL_counts_433 (lv_at hl 6 rfl) ?_
                                      refine rn_iconst hx hb 5 rfl dL_counts_435 ?_
                                      refine rn_iald CX hE (hP 4 _ rfl) 5 rfl (j := 5) (by omega) (ltb rfl) dL_counts_436 ?_
                                      refine rn_top (nI (T.2 4 1)) rfl ?_
                                      refine rn_icmp_ne hx hb (by omega) (by omega) dL_counts_437 (by decide) (tgt := 458) (fun c_437 => ?_) (fun c_437 => ?_)
                                      · exact absurd rfl c_437
                                      · refine lv_aload_n hx hb dL_counts_440 rfl (lv_at hl 1 rfl) ?_
                                        refine lv_bipush (v := (nI 8)) hx hb dL_counts_441 kb_8 ?_
                                        refine roVg CX hE (va_P_segs hP [0, 1, 2, 3] rfl) (c_X5_count l G cA x a b T hn ha ty pd (nI 8) ) (cwV 1 hts gL_counts_X5_count rfl rfl rfl hdv_X5_count ⟨Nat.le_of_ble_eq_true rfl, Nat.le_of_ble_eq_true rfl⟩) (hP 0 _ rfl) 0 rfl rfl rfl B0_blind (fun _ _ _ => trivial) rfl hl.1 (rest := []) rfl (Nat.le_of_ble_eq_true rfl) dL_counts_443 ⟨Nat.zero_le _, Nat.zero_le _⟩ ?_
                                        refine rn_top (nI (T.2 4 2)) (cnt_at (k := 8) (by decide +kernel)) ?_
                                        refine lv_aload hx hb dL_counts_446 (lv_at hl 6 rfl) ?_
                                        refine lv_bipush (v := (nI 6)) hx hb dL_counts_448 kb_6 ?_
                                        refine rn_iald CX hE (hP 4 _ rfl) 5 rfl (j := 6) (by omega) (ltb rfl) dL_counts_450 ?_
                                        refine rn_top (nI (T.2 4 2)) rfl ?_
                                        refine rn_icmp_ne hx hb (by omega) (by omega) dL_counts_451 (by decide) (tgt := 458) (fun c_451 => ?_) (fun c_451 => ?_)
                                        · exact absurd rfl c_451
                                        · refine rn_iconst hx hb 1 rfl dL_counts_454 ?_
                                          refine lv_goto (tgt := 459) hx hb dL_counts_455 (by decide) ?_
                                          exact ro_ret CX hr hlk rfl rfl dL_counts_459
                  refine lv_if_ge hx hb dL_counts_323 (by decide) (tgt := 331) (fun c_323 => ?_) (fun c_323 => ?_)
                  · refine lv_iload hx hb dL_counts_331 (lv_at hl 11 rfl) ?_
                    refine lv_bipush (v := (nI 10)) hx hb dL_counts_333 kb_10 ?_
                    refine lv_idiv hx hb dL_counts_335 (by decide +kernel) ?_
                    exact J_336 _ (by first | exact lo_no e11 c_323 | exact lo_r1 e11 c_323)
                  · refine lv_bipush (v := (-6)) hx hb dL_counts_326 kb_m6 ?_
                    refine lv_goto (tgt := 336) hx hb dL_counts_328 (by decide) ?_
                    exact J_336 _ (by first | exact lo_no e11 c_323 | exact lo_r1 e11 c_323)
              refine lv_if_ge hx hb dL_counts_300 (by decide) (tgt := 308) (fun c_300 => ?_) (fun c_300 => ?_)
              · refine lv_iload hx hb dL_counts_308 (lv_at hl 11 rfl) ?_
                refine lv_bipush (v := (nI 10)) hx hb dL_counts_310 kb_10 ?_
                refine lv_irem hx hb dL_counts_312 (by decide +kernel) ?_
                exact J_313 _ (by first | exact lo_no e11 c_300 | exact lo_r0 e11 c_300)
              · refine lv_bipush (v := (-6)) hx hb dL_counts_303 kb_m6 ?_
                refine lv_goto (tgt := 313) hx hb dL_counts_305 (by decide) ?_
                exact J_313 _ (by first | exact lo_no e11 c_300 | exact lo_r0 e11 c_300)
            · have hy6 : y < 6 := c_179
              refine rn_iconst hx hb 0 rfl dL_counts_182 ?_
              refine lv_istore (lv' := [(14, .int (nI 0)), (0, .ref (x 0)), (1, .ref (r 0)), (2, .ref (r 1)), (3, .ref (r 2)), (4, .ref (r 3)), (5, .ref (r 6)), (6, .int w6), (7, .int w7), (8, .int w8), (9, .int w9), (10, .int w10), (11, .int w11), (12, .int w12), (13, .int (nI y))]) hx hb dL_counts_183 hl (by decide) rfl (fun ls hl => ?_)
              refine rn_iconst hx hb 0 rfl dL_counts_185 ?_
              refine lv_istore (lv' := [(15, .int (nI 0)), (14, .int (nI 0)), (0, .ref (x 0)), (1, .ref (r 0)), (2, .ref (r 1)), (3, .ref (r 2)), (4, .ref (r 3)), (5, .ref (r 6)), (6, .int w6), (7, .int w7), (8, .int w8), (9, .int w9), (10, .int w10), (11, .int w11), (12, .int w12), (13, .int (nI y))]) hx hb dL_counts_186 hl (by decide) rfl (fun ls hl => ?_)
              have LP_188 : ∀ (nn_ : Nat) (x_ : Nat) (cr : Int32), (10 - x_) < nn_ → (x_ ≤ 10) → (cr = creM (T.1 2) y x_) → ∀ ls : Array Slot, lv_has ls 17 [(0, .ref (x 0)), (1, .ref (r 0)), (2, .ref (r 1)), (3, .ref (r 2)), (4, .ref (r 3)), (5, .ref (r 6)), (6, .int w6), (7, .int w7), (8, .int w8), (9, .int w9), (10, .int w10), (11, .int w11), (12, .int w12), (13, .int (nI y)), (14, .int cr), (15, .int (nI x_))] → W p_ l e_ ({ frames := 5, cells := 0, slots := 0, locals := 111 } : Room) s_ m_ ([.ref (x 0), .ref (r 0), .ref (r 1), .ref (r 2), .ref (r 3), .ref (r 6)] : List Value).toArray below meth c_ s_.heap [] 0 0 (MQ below (vp_Si (fun r_ => r_ = (nI 1))) ([.ref (x 0), .ref (r 0), .ref (r 1), .ref (r 2), .ref (r 3), .ref (r 6)] : List Value).toArray s_ 0 0 (fun _ => False)) (F0 m_ 188 ls []) := by
                intro nn_
                induction nn_ with
                | zero => intro x_ cr hmu; exact absurd hmu (Nat.not_lt_zero _)
                | succ nn_ ih =>
                  have ih_188 := ih
                  clear ih
                  intro x_ cr hmu_188 hx_ hcr ls hl
                  refine lv_iload hx hb dL_counts_188 (lv_at hl 15 rfl) ?_
                  refine lv_bipush (v := (nI 10)) hx hb dL_counts_190 kb_10 ?_
                  refine rn_icmp_ge hx hb (by omega) (by omega) dL_counts_192 (by decide) (tgt := 274) (fun c_192 => ?_) (fun c_192 => ?_)
                  · refine lv_aload_n hx hb dL_counts_274 rfl (lv_at hl 0 rfl) ?_
                    refine lv_iload hx hb dL_counts_275 (lv_at hl 13 rfl) ?_
                    refine roVg CX hE (va_P_segs hP [0, 3] rfl) (c_X5_crests_k l G cA x a b T y (by assumption) (by omega)) (cwV 1 hts gL_counts_X5_crests rfl rfl rfl hdv_X5_crests ⟨Nat.le_of_ble_eq_true rfl, Nat.le_of_ble_eq_true rfl⟩) (hP 0 _ rfl) 0 rfl rfl rfl B0_blind (fun _ _ _ => trivial) rfl hl.1 (rest := []) rfl (Nat.le_of_ble_eq_true rfl) dL_counts_277 ⟨Nat.zero_le _, Nat.zero_le _⟩ ?_
                    refine lv_iload hx hb dL_counts_280 (lv_at hl 14 rfl) ?_
                    refine lv_icmp_eq hx hb dL_counts_282 (by decide) (tgt := 287) (fun c_282 => ?_) (fun c_282 => ?_)
                    · refine rn_iinc hx hb (n := 1) (lv' := [(13, .int (nI (y + 1))), (0, .ref (x 0)), (1, .ref (r 0)), (2, .ref (r 1)), (3, .ref (r 2)), (4, .ref (r 3)), (5, .ref (r 6)), (6, .int w6), (7, .int w7), (8, .int w8), (9, .int w9), (10, .int w10), (11, .int w11), (12, .int w12), (14, .int cr), (15, .int (nI x_))]) rfl dL_counts_287 hl (k := 13) rfl (by decide) rfl (fun ls hl => ?_)
                      refine lv_goto (tgt := 175) hx hb dL_counts_290 (by decide) ?_
                      exact ih_175 (y + 1) (by omega) (by omega) ls (lv_sub hl [1, 2, 3, 4, 5, 6, 7, 8, 9, 10, 11, 12, 13, 0] rfl)
                    · exact absurd (by rw [hcr, show x_ = 10 by omega]) c_282
                  · have hx10 : x_ < 10 := c_192
                    have hcq := crest_iff (h := T.1 2) hx10 hy6
                    refine lv_aload_n hx hb dL_counts_195 rfl (lv_at hl 2 rfl) ?_
                    refine lv_bipush (v := (nI 10)) hx hb dL_counts_196 kb_10 ?_
                    refine lv_iload hx hb dL_counts_198 (lv_at hl 13 rfl) ?_
                    refine rn_imul hx hb dL_counts_200 ?_
                    refine lv_iload hx hb dL_counts_201 (lv_at hl 15 rfl) ?_
                    refine rn_iadd hx hb dL_counts_203 ?_
                    refine rn_iald CX hE (hP 4 _ rfl) 1 rfl (j := ((10 * y) + x_)) (by omega) (ltb rfl) dL_counts_204 ?_
                    refine rn_top (heightAtF (T.1 2) (nI x_) (nI y)) (hAt hx10 hy6) ?_
                    refine lv_istore (lv' := [(16, .int (heightAtF (T.1 2) (nI x_) (nI y))), (0, .ref (x 0)), (1, .ref (r 0)), (2, .ref (r 1)), (3, .ref (r 2)), (4, .ref (r 3)), (5, .ref (r 6)), (6, .int w6), (7, .int w7), (8, .int w8), (9, .int w9), (10, .int w10), (11, .int w11), (12, .int w12), (13, .int (nI y)), (14, .int cr), (15, .int (nI x_))]) hx hb dL_counts_205 hl (by decide) rfl (fun ls hl => ?_)
                    refine lv_iload hx hb dL_counts_207 (lv_at hl 15 rfl) ?_
                    refine lv_iload hx hb dL_counts_209 (lv_at hl 0 rfl) ?_
                    have J_265 : ∀ v : Int32, v = (b2i (crestP (T.1 2) x_ y)) → W p_ l e_ ({ frames := 5, cells := 0, slots := 0, locals := 111 } : Room) s_ m_ ([.ref (x 0), .ref (r 0), .ref (r 1), .ref (r 2), .ref (r 3), .ref (r 6)] : List Value).toArray below meth c_ s_.heap [] 0 0 (MQ below (vp_Si (fun r_ => r_ = (nI 1))) ([.ref (x 0), .ref (r 0), .ref (r 1), .ref (r 2), .ref (r 3), .ref (r 6)] : List Value).toArray s_ 0 0 (fun _ => False)) (F0 m_ 265 ls [.int v, .int cr]) := by
                      intro v hv
                      subst hv
                      refine lv_iadd hx hb dL_counts_265 ?_
                      refine lv_istore (lv' := [(14, .int (cr + (b2i (crestP (T.1 2) x_ y)))), (16, .int (heightAtF (T.1 2) (nI x_) (nI y))), (0, .ref (x 0)), (1, .ref (r 0)), (2, .ref (r 1)), (3, .ref (r 2)), (4, .ref (r 3)), (5, .ref (r 6)), (6, .int w6), (7, .int w7), (8, .int w8), (9, .int w9), (10, .int w10), (11, .int w11), (12, .int w12), (13, .int (nI y)), (15, .int (nI x_))]) hx hb dL_counts_266 hl (by decide) rfl (fun ls hl => ?_)
                      refine rn_iinc hx hb (n := 1) (lv' := [(15, .int (nI (x_ + 1))), (14, .int (cr + (b2i (crestP (T.1 2) x_ y)))), (16, .int (heightAtF (T.1 2) (nI x_) (nI y))), (0, .ref (x 0)), (1, .ref (r 0)), (2, .ref (r 1)), (3, .ref (r 2)), (4, .ref (r 3)), (5, .ref (r 6)), (6, .int w6), (7, .int w7), (8, .int w8), (9, .int w9), (10, .int w10), (11, .int w11), (12, .int w12), (13, .int (nI y))]) rfl dL_counts_268 hl (k := 16) rfl (by decide) rfl (fun ls hl => ?_)
                      refine lv_goto (tgt := 188) hx hb dL_counts_271 (by decide) ?_
                      exact ih_188 (x_ + 1) (cr + (b2i (crestP (T.1 2) x_ y))) (by omega) (by omega) (by rw [hcr]; rfl) ls (lv_sub hl [3, 4, 5, 6, 7, 8, 9, 10, 11, 12, 13, 14, 15, 16, 1, 0] rfl)
                    refine lv_if_le hx hb dL_counts_211 (by decide) (tgt := 264) (fun c_211 => ?_) (fun c_211 => ?_)
                    · refine rn_iconst hx hb 0 rfl dL_counts_264 ?_
                      exact J_265 _ (by first | exact b2i_f (fun z => absurd c_211 (Int32.not_le.mpr z.1)) | exact b2i_f (fun z => (hcq.mp z).2.1.elim c_216 (fun q => absurd c_233 (Int32.not_le.mpr q))) | exact b2i_f (fun z => (hcq.mp z).2.2.elim c_240 (fun q => absurd c_257 (Int32.not_le.mpr q))) | exact b2i_t (hcq.mpr ⟨Int32.not_le.mp c_211, Or.inl c_216, Or.inl c_240⟩) | exact b2i_t (hcq.mpr ⟨Int32.not_le.mp c_211, Or.inl c_216, Or.inr (Int32.not_le.mp c_257)⟩) | exact b2i_t (hcq.mpr ⟨Int32.not_le.mp c_211, Or.inr (Int32.not_le.mp c_233), Or.inl c_240⟩) | exact b2i_t (hcq.mpr ⟨Int32.not_le.mp c_211, Or.inr (Int32.not_le.mp c_233), Or.inr (Int32.not_le.mp c_257)⟩))
                    · refine lv_iload hx hb dL_counts_214 (lv_at hl 16 rfl) ?_
                      refine rn_if_eq hx hb (by omega) dL_counts_216 (by decide) (tgt := 236) (fun c_216 => ?_) (fun c_216 => ?_)
                      · refine lv_iload hx hb dL_counts_236 (lv_at hl 16 rfl) ?_
                        refine lv_bipush (v := (nI 9)) hx hb dL_counts_238 kb_9 ?_
                        refine rn_icmp_eq hx hb (by omega) (by omega) dL_counts_240 (by decide) (tgt := 260) (fun c_240 => ?_) (fun c_240 => ?_)
                        · refine rn_iconst hx hb 1 rfl dL_counts_260 ?_
                          refine lv_goto (tgt := 265) hx hb dL_counts_261 (by decide) ?_
                          exact J_265 _ (by first | exact b2i_f (fun z => absurd c_211 (Int32.not_le.mpr z.1)) | exact b2i_f (fun z => (hcq.mp z).2.1.elim c_216 (fun q => absurd c_233 (Int32.not_le.mpr q))) | exact b2i_f (fun z => (hcq.mp z).2.2.elim c_240 (fun q => absurd c_257 (Int32.not_le.mpr q))) | exact b2i_t (hcq.mpr ⟨Int32.not_le.mp c_211, Or.inl c_216, Or.inl c_240⟩) | exact b2i_t (hcq.mpr ⟨Int32.not_le.mp c_211, Or.inl c_216, Or.inr (Int32.not_le.mp c_257)⟩) | exact b2i_t (hcq.mpr ⟨Int32.not_le.mp c_211, Or.inr (Int32.not_le.mp c_233), Or.inl c_240⟩) | exact b2i_t (hcq.mpr ⟨Int32.not_le.mp c_211, Or.inr (Int32.not_le.mp c_233), Or.inr (Int32.not_le.mp c_257)⟩))
                        · refine lv_aload_n hx hb dL_counts_243 rfl (lv_at hl 3 rfl) ?_
                          refine lv_bipush (v := (nI 10)) hx hb dL_counts_244 kb_10 ?_
                          refine lv_iload hx hb dL_counts_246 (lv_at hl 14 rfl) ?_
                          refine rn_imul hx hb dL_counts_248 ?_
                          refine lv_iload hx hb dL_counts_249 (lv_at hl 16 rfl) ?_
                          refine rn_iadd hx hb dL_counts_251 ?_
                          refine rn_iconst hx hb 1 rfl dL_counts_252 ?_
                          refine rn_iadd hx hb dL_counts_253 ?_
                          refine rn_iald CX hE (hP 4 _ rfl) 1 rfl (j := (((10 * y) + x_) + 1)) (by omega) (ltb rfl) dL_counts_254 ?_
                          refine lv_iload hx hb dL_counts_255 (lv_at hl 0 rfl) ?_
                          refine lv_icmp_ge hx hb dL_counts_257 (by decide) (tgt := 264) (fun c_257 => ?_) (fun c_257 => ?_)
                          · refine rn_iconst hx hb 0 rfl dL_counts_264 ?_
                            exact J_265 _ (by first | exact b2i_f (fun z => absurd c_211 (Int32.not_le.mpr z.1)) | exact b2i_f (fun z => (hcq.mp z).2.1.elim c_216 (fun q => absurd c_233 (Int32.not_le.mpr q))) | exact b2i_f (fun z => (hcq.mp z).2.2.elim c_240 (fun q => absurd c_257 (Int32.not_le.mpr q))) | exact b2i_t (hcq.mpr ⟨Int32.not_le.mp c_211, Or.inl c_216, Or.inl c_240⟩) | exact b2i_t (hcq.mpr ⟨Int32.not_le.mp c_211, Or.inl c_216, Or.inr (Int32.not_le.mp c_257)⟩) | exact b2i_t (hcq.mpr ⟨Int32.not_le.mp c_211, Or.inr (Int32.not_le.mp c_233), Or.inl c_240⟩) | exact b2i_t (hcq.mpr ⟨Int32.not_le.mp c_211, Or.inr (Int32.not_le.mp c_233), Or.inr (Int32.not_le.mp c_257)⟩))
                          · refine rn_iconst hx hb 1 rfl dL_counts_260 ?_
                            refine lv_goto (tgt := 265) hx hb dL_counts_261 (by decide) ?_
                            exact J_265 _ (by first | exact b2i_f (fun z => absurd c_211 (Int32.not_le.mpr z.1)) | exact b2i_f (fun z => (hcq.mp z).2.1.elim c_216 (fun q => absurd c_233 (Int32.not_le.mpr q))) | exact b2i_f (fun z => (hcq.mp z).2.2.elim c_240 (fun q => absurd c_257 (Int32.not_le.mpr q))) | exact b2i_t (hcq.mpr ⟨Int32.not_le.mp c_211, Or.inl c_216, Or.inl c_240⟩) | exact b2i_t (hcq.mpr ⟨Int32.not_le.mp c_211, Or.inl c_216, Or.inr (Int32.not_le.mp c_257)⟩) | exact b2i_t (hcq.mpr ⟨Int32.not_le.mp c_211, Or.inr (Int32.not_le.mp c_233), Or.inl c_240⟩) | exact b2i_t (hcq.mpr ⟨Int32.not_le.mp c_211, Or.inr (Int32.not_le.mp c_233), Or.inr (Int32.not_le.mp c_257)⟩))
                      · refine lv_aload_n hx hb dL_counts_219 rfl (lv_at hl 3 rfl) ?_
                        refine lv_bipush (v := (nI 10)) hx hb dL_counts_220 kb_10 ?_
                        refine lv_iload hx hb dL_counts_222 (lv_at hl 14 rfl) ?_
                        refine rn_imul hx hb dL_counts_224 ?_
                        refine lv_iload hx hb dL_counts_225 (lv_at hl 16 rfl) ?_
                        refine rn_iadd hx hb dL_counts_227 ?_
                        refine rn_iconst hx hb 1 rfl dL_counts_228 ?_
                        refine rn_isub hx hb (by omega) dL_counts_229 ?_
                        refine rn_iald CX hE (hP 4 _ rfl) 1 rfl (j := (((10 * y) + x_) - 1)) (by omega) (ltb rfl) dL_counts_230 ?_
                        refine lv_iload hx hb dL_counts_231 (lv_at hl 0 rfl) ?_
                        refine lv_icmp_ge hx hb dL_counts_233 (by decide) (tgt := 264) (fun c_233 => ?_) (fun c_233 => ?_)
                        · refine rn_iconst hx hb 0 rfl dL_counts_264 ?_
                          exact J_265 _ (by first | exact b2i_f (fun z => absurd c_211 (Int32.not_le.mpr z.1)) | exact b2i_f (fun z => (hcq.mp z).2.1.elim c_216 (fun q => absurd c_233 (Int32.not_le.mpr q))) | exact b2i_f (fun z => (hcq.mp z).2.2.elim c_240 (fun q => absurd c_257 (Int32.not_le.mpr q))) | exact b2i_t (hcq.mpr ⟨Int32.not_le.mp c_211, Or.inl c_216, Or.inl c_240⟩) | exact b2i_t (hcq.mpr ⟨Int32.not_le.mp c_211, Or.inl c_216, Or.inr (Int32.not_le.mp c_257)⟩) | exact b2i_t (hcq.mpr ⟨Int32.not_le.mp c_211, Or.inr (Int32.not_le.mp c_233), Or.inl c_240⟩) | exact b2i_t (hcq.mpr ⟨Int32.not_le.mp c_211, Or.inr (Int32.not_le.mp c_233), Or.inr (Int32.not_le.mp c_257)⟩))
                        · refine lv_iload hx hb dL_counts_236 (lv_at hl 16 rfl) ?_
                          refine lv_bipush (v := (nI 9)) hx hb dL_counts_238 kb_9 ?_
                          refine rn_icmp_eq hx hb (by omega) (by omega) dL_counts_240 (by decide) (tgt := 260) (fun c_240 => ?_) (fun c_240 => ?_)
                          · refine rn_iconst hx hb 1 rfl dL_counts_260 ?_
                            refine lv_goto (tgt := 265) hx hb dL_counts_261 (by decide) ?_
                            exact J_265 _ (by first | exact b2i_f (fun z => absurd c_211 (Int32.not_le.mpr z.1)) | exact b2i_f (fun z => (hcq.mp z).2.1.elim c_216 (fun q => absurd c_233 (Int32.not_le.mpr q))) | exact b2i_f (fun z => (hcq.mp z).2.2.elim c_240 (fun q => absurd c_257 (Int32.not_le.mpr q))) | exact b2i_t (hcq.mpr ⟨Int32.not_le.mp c_211, Or.inl c_216, Or.inl c_240⟩) | exact b2i_t (hcq.mpr ⟨Int32.not_le.mp c_211, Or.inl c_216, Or.inr (Int32.not_le.mp c_257)⟩) | exact b2i_t (hcq.mpr ⟨Int32.not_le.mp c_211, Or.inr (Int32.not_le.mp c_233), Or.inl c_240⟩) | exact b2i_t (hcq.mpr ⟨Int32.not_le.mp c_211, Or.inr (Int32.not_le.mp c_233), Or.inr (Int32.not_le.mp c_257)⟩))
                          · refine lv_aload_n hx hb dL_counts_243 rfl (lv_at hl 3 rfl) ?_
                            refine lv_bipush (v := (nI 10)) hx hb dL_counts_244 kb_10 ?_
                            refine lv_iload hx hb dL_counts_246 (lv_at hl 14 rfl) ?_
                            refine rn_imul hx hb dL_counts_248 ?_
                            refine lv_iload hx hb dL_counts_249 (lv_at hl 16 rfl) ?_
                            refine rn_iadd hx hb dL_counts_251 ?_
                            refine rn_iconst hx hb 1 rfl dL_counts_252 ?_
                            refine rn_iadd hx hb dL_counts_253 ?_
                            refine rn_iald CX hE (hP 4 _ rfl) 1 rfl (j := (((10 * y) + x_) + 1)) (by omega) (ltb rfl) dL_counts_254 ?_
                            refine lv_iload hx hb dL_counts_255 (lv_at hl 0 rfl) ?_
                            refine lv_icmp_ge hx hb dL_counts_257 (by decide) (tgt := 264) (fun c_257 => ?_) (fun c_257 => ?_)
                            · refine rn_iconst hx hb 0 rfl dL_counts_264 ?_
                              exact J_265 _ (by first | exact b2i_f (fun z => absurd c_211 (Int32.not_le.mpr z.1)) | exact b2i_f (fun z => (hcq.mp z).2.1.elim c_216 (fun q => absurd c_233 (Int32.not_le.mpr q))) | exact b2i_f (fun z => (hcq.mp z).2.2.elim c_240 (fun q => absurd c_257 (Int32.not_le.mpr q))) | exact b2i_t (hcq.mpr ⟨Int32.not_le.mp c_211, Or.inl c_216, Or.inl c_240⟩) | exact b2i_t (hcq.mpr ⟨Int32.not_le.mp c_211, Or.inl c_216, Or.inr (Int32.not_le.mp c_257)⟩) | exact b2i_t (hcq.mpr ⟨Int32.not_le.mp c_211, Or.inr (Int32.not_le.mp c_233), Or.inl c_240⟩) | exact b2i_t (hcq.mpr ⟨Int32.not_le.mp c_211, Or.inr (Int32.not_le.mp c_233), Or.inr (Int32.not_le.mp c_257)⟩))
                            · refine rn_iconst hx hb 1 rfl dL_counts_260 ?_
                              refine lv_goto (tgt := 265) hx hb dL_counts_261 (by decide) ?_
                              exact J_265 _ (by first | exact b2i_f (fun z => absurd c_211 (Int32.not_le.mpr z.1)) | exact b2i_f (fun z => (hcq.mp z).2.1.elim c_216 (fun q => absurd c_233 (Int32.not_le.mpr q))) | exact b2i_f (fun z => (hcq.mp z).2.2.elim c_240 (fun q => absurd c_257 (Int32.not_le.mpr q))) | exact b2i_t (hcq.mpr ⟨Int32.not_le.mp c_211, Or.inl c_216, Or.inl c_240⟩) | exact b2i_t (hcq.mpr ⟨Int32.not_le.mp c_211, Or.inl c_216, Or.inr (Int32.not_le.mp c_257)⟩) | exact b2i_t (hcq.mpr ⟨Int32.not_le.mp c_211, Or.inr (Int32.not_le.mp c_233), Or.inl c_240⟩) | exact b2i_t (hcq.mpr ⟨Int32.not_le.mp c_211, Or.inr (Int32.not_le.mp c_233), Or.inr (Int32.not_le.mp c_257)⟩))
              exact LP_188 _ 0 (nI 0) (Nat.lt_succ_self _) (by omega) rfl ls (lv_sub hl [2, 3, 4, 5, 6, 7, 8, 9, 10, 11, 12, 13, 14, 15, 1, 0] rfl)
        exact LP_175 _ 0 (Nat.lt_succ_self _) (by omega) ls (lv_sub hl [1, 2, 3, 4, 5, 6, 7, 8, 9, 10, 11, 12, 13, 0] rfl)
      · have hi7 : i < 60 := c_28
        have stw := stl_wall hinv hi7
        have hgq := (gF_nn ((hfi i hi7).imp id (fun ⟨n, a, b⟩ => ⟨n, by omega, b⟩))).1
        refine lv_iload hx hb dL_counts_31 (lv_at hl 6 rfl) ?_
        refine lv_aload_n hx hb dL_counts_33 rfl (lv_at hl 1 rfl) ?_
        refine lv_iload hx hb dL_counts_34 (lv_at hl 13 rfl) ?_
        refine rn_iald CX hE (hP 4 _ rfl) 0 rfl (j := i) (by omega) (ltb rfl) dL_counts_36 ?_
        refine rn_iconst hx hb 2 rfl dL_counts_37 ?_
        have J_46 : ∀ v : Int32, v = (if T.1 1 i = nI 2 then nI 0 else nI 1) → W p_ l e_ ({ frames := 5, cells := 0, slots := 0, locals := 111 } : Room) s_ m_ ([.ref (x 0), .ref (r 0), .ref (r 1), .ref (r 2), .ref (r 3), .ref (r 6)] : List Value).toArray below meth c_ s_.heap [] 0 0 (MQ below (vp_Si (fun r_ => r_ = (nI 1))) ([.ref (x 0), .ref (r 0), .ref (r 1), .ref (r 2), .ref (r 3), .ref (r 6)] : List Value).toArray s_ 0 0 (fun _ => False)) (F0 m_ 46 ls [.int v, .int w6]) := by
          intro v hv
          subst hv
          refine lv_iadd hx hb dL_counts_46 ?_
          refine lv_istore (lv' := [(6, .int (w6 + (if T.1 1 i = nI 2 then nI 0 else nI 1))), (0, .ref (x 0)), (1, .ref (r 0)), (2, .ref (r 1)), (3, .ref (r 2)), (4, .ref (r 3)), (5, .ref (r 6)), (7, .int w7), (8, .int w8), (9, .int w9), (10, .int w10), (11, .int w11), (12, .int w12), (13, .int (nI i))]) hx hb dL_counts_47 hl (by decide) rfl (fun ls hl => ?_)
          refine lv_iload hx hb dL_counts_49 (lv_at hl 7 rfl) ?_
          refine lv_aload_n hx hb dL_counts_51 rfl (lv_at hl 2 rfl) ?_
          refine lv_iload hx hb dL_counts_52 (lv_at hl 13 rfl) ?_
          refine rn_iald CX hE (hP 4 _ rfl) 0 rfl (j := i) (by omega) (ltb rfl) dL_counts_54 ?_
          refine rn_iconst hx hb 2 rfl dL_counts_55 ?_
          have J_77 : ∀ v : Int32, v = (if ¬ T.1 1 i = nI 2 ∧ stillP (T.1 0) (T.1 2) (T.1 3) i then nI 1 else nI 0) → W p_ l e_ ({ frames := 5, cells := 0, slots := 0, locals := 111 } : Room) s_ m_ ([.ref (x 0), .ref (r 0), .ref (r 1), .ref (r 2), .ref (r 3), .ref (r 6)] : List Value).toArray below meth c_ s_.heap [] 0 0 (MQ below (vp_Si (fun r_ => r_ = (nI 1))) ([.ref (x 0), .ref (r 0), .ref (r 1), .ref (r 2), .ref (r 3), .ref (r 6)] : List Value).toArray s_ 0 0 (fun _ => False)) (F0 m_ 77 ls [.int v, .int w7]) := by
            intro v hv
            subst hv
            refine lv_iadd hx hb dL_counts_77 ?_
            refine lv_istore (lv' := [(7, .int (w7 + (if ¬ T.1 1 i = nI 2 ∧ stillP (T.1 0) (T.1 2) (T.1 3) i then nI 1 else nI 0))), (6, .int (w6 + (if T.1 1 i = nI 2 then nI 0 else nI 1))), (0, .ref (x 0)), (1, .ref (r 0)), (2, .ref (r 1)), (3, .ref (r 2)), (4, .ref (r 3)), (5, .ref (r 6)), (8, .int w8), (9, .int w9), (10, .int w10), (11, .int w11), (12, .int w12), (13, .int (nI i))]) hx hb dL_counts_78 hl (by decide) rfl (fun ls hl => ?_)
            refine lv_iload hx hb dL_counts_80 (lv_at hl 8 rfl) ?_
            refine lv_aload_n hx hb dL_counts_82 rfl (lv_at hl 4 rfl) ?_
            refine lv_iload hx hb dL_counts_83 (lv_at hl 13 rfl) ?_
            refine rn_iald CX hE (hP 4 _ rfl) 1 rfl (j := i) (by omega) (ltb rfl) dL_counts_85 ?_
            refine lv_iadd hx hb dL_counts_86 ?_
            refine lv_istore (lv' := [(8, .int (w8 + ((T.1 2) i))), (7, .int (w7 + (if ¬ T.1 1 i = nI 2 ∧ stillP (T.1 0) (T.1 2) (T.1 3) i then nI 1 else nI 0))), (6, .int (w6 + (if T.1 1 i = nI 2 then nI 0 else nI 1))), (0, .ref (x 0)), (1, .ref (r 0)), (2, .ref (r 1)), (3, .ref (r 2)), (4, .ref (r 3)), (5, .ref (r 6)), (9, .int w9), (10, .int w10), (11, .int w11), (12, .int w12), (13, .int (nI i))]) hx hb dL_counts_87 hl (by decide) rfl (fun ls hl => ?_)
            refine lv_iload hx hb dL_counts_89 (lv_at hl 9 rfl) ?_
            refine lv_aload_n hx hb dL_counts_91 rfl (lv_at hl 5 rfl) ?_
            refine lv_iload hx hb dL_counts_92 (lv_at hl 13 rfl) ?_
            refine rn_iald CX hE (hP 4 _ rfl) 1 rfl (j := i) (by omega) (ltb rfl) dL_counts_94 ?_
            refine roS CX hE va_P_nil (c_L_amount l G cA ((T.1 2) i) ) (va_cwS 1 hts gL_counts_L_amount rfl rfl rfl hdn_L_amount ⟨Nat.le_of_ble_eq_true rfl, Nat.le_of_ble_eq_true rfl⟩) [] rfl B0_blind (fun _ _ _ => trivial) rfl hl.1 (rest := [.int w9]) rfl (Nat.le_of_ble_eq_true rfl) dL_counts_95 ⟨Nat.zero_le _, Nat.zero_le _⟩ ?_
            refine lv_iadd hx hb dL_counts_98 ?_
            refine lv_istore (lv' := [(9, .int (w9 + (iabs ((T.1 2) i)))), (8, .int (w8 + ((T.1 2) i))), (7, .int (w7 + (if ¬ T.1 1 i = nI 2 ∧ stillP (T.1 0) (T.1 2) (T.1 3) i then nI 1 else nI 0))), (6, .int (w6 + (if T.1 1 i = nI 2 then nI 0 else nI 1))), (0, .ref (x 0)), (1, .ref (r 0)), (2, .ref (r 1)), (3, .ref (r 2)), (4, .ref (r 3)), (5, .ref (r 6)), (10, .int w10), (11, .int w11), (12, .int w12), (13, .int (nI i))]) hx hb dL_counts_99 hl (by decide) rfl (fun ls hl => ?_)
            refine lv_aload_n hx hb dL_counts_101 rfl (lv_at hl 6 rfl) ?_
            refine lv_iload hx hb dL_counts_102 (lv_at hl 13 rfl) ?_
            refine rn_iald CX hE (hP 4 _ rfl) 1 rfl (j := i) (by omega) (ltb rfl) dL_counts_104 ?_
            refine roS CX hE va_P_nil (c_L_amount l G cA ((T.1 2) i) ) (va_cwS 1 hts gL_counts_L_amount rfl rfl rfl hdn_L_amount ⟨Nat.le_of_ble_eq_true rfl, Nat.le_of_ble_eq_true rfl⟩) [] rfl B0_blind (fun _ _ _ => trivial) rfl hl.1 (rest := []) rfl (Nat.le_of_ble_eq_true rfl) dL_counts_105 ⟨Nat.zero_le _, Nat.zero_le _⟩ ?_
            refine lv_iload hx hb dL_counts_108 (lv_at hl 10 rfl) ?_
            have J_120 : ∀ v : Int32, v = (if w10 < iabs (T.1 2 i) then nI i else w11) → W p_ l e_ ({ frames := 5, cells := 0, slots := 0, locals := 111 } : Room) s_ m_ ([.ref (x 0), .ref (r 0), .ref (r 1), .ref (r 2), .ref (r 3), .ref (r 6)] : List Value).toArray below meth c_ s_.heap [] 0 0 (MQ below (vp_Si (fun r_ => r_ = (nI 1))) ([.ref (x 0), .ref (r 0), .ref (r 1), .ref (r 2), .ref (r 3), .ref (r 6)] : List Value).toArray s_ 0 0 (fun _ => False)) (F0 m_ 120 ls [.int v]) := by
              intro v hv
              subst hv
              refine lv_istore (lv' := [(11, .int (if w10 < iabs (T.1 2 i) then nI i else w11)), (9, .int (w9 + (iabs ((T.1 2) i)))), (8, .int (w8 + ((T.1 2) i))), (7, .int (w7 + (if ¬ T.1 1 i = nI 2 ∧ stillP (T.1 0) (T.1 2) (T.1 3) i then nI 1 else nI 0))), (6, .int (w6 + (if T.1 1 i = nI 2 then nI 0 else nI 1))), (0, .ref (x 0)), (1, .ref (r 0)), (2, .ref (r 1)), (3, .ref (r 2)), (4, .ref (r 3)), (5, .ref (r 6)), (10, .int w10), (12, .int w12), (13, .int (nI i))]) hx hb dL_counts_120 hl (by decide) rfl (fun ls hl => ?_)
              refine lv_aload_n hx hb dL_counts_122 rfl (lv_at hl 7 rfl) ?_
              refine lv_iload hx hb dL_counts_123 (lv_at hl 13 rfl) ?_
              refine rn_iald CX hE (hP 4 _ rfl) 1 rfl (j := i) (by omega) (ltb rfl) dL_counts_125 ?_
              refine roS CX hE va_P_nil (c_L_amount l G cA ((T.1 2) i) ) (va_cwS 1 hts gL_counts_L_amount rfl rfl rfl hdn_L_amount ⟨Nat.le_of_ble_eq_true rfl, Nat.le_of_ble_eq_true rfl⟩) [] rfl B0_blind (fun _ _ _ => trivial) rfl hl.1 (rest := []) rfl (Nat.le_of_ble_eq_true rfl) dL_counts_126 ⟨Nat.zero_le _, Nat.zero_le _⟩ ?_
              refine lv_iload hx hb dL_counts_129 (lv_at hl 11 rfl) ?_
              have J_146 : ∀ v : Int32, v = (if w10 < iabs (T.1 2 i) then iabs (T.1 2 i) else w10) → W p_ l e_ ({ frames := 5, cells := 0, slots := 0, locals := 111 } : Room) s_ m_ ([.ref (x 0), .ref (r 0), .ref (r 1), .ref (r 2), .ref (r 3), .ref (r 6)] : List Value).toArray below meth c_ s_.heap [] 0 0 (MQ below (vp_Si (fun r_ => r_ = (nI 1))) ([.ref (x 0), .ref (r 0), .ref (r 1), .ref (r 2), .ref (r 3), .ref (r 6)] : List Value).toArray s_ 0 0 (fun _ => False)) (F0 m_ 146 ls [.int v]) := by
                intro v hv
                subst hv
                refine lv_istore (lv' := [(10, .int (if w10 < iabs (T.1 2 i) then iabs (T.1 2 i) else w10)), (11, .int (if w10 < iabs (T.1 2 i) then nI i else w11)), (9, .int (w9 + (iabs ((T.1 2) i)))), (8, .int (w8 + ((T.1 2) i))), (7, .int (w7 + (if ¬ T.1 1 i = nI 2 ∧ stillP (T.1 0) (T.1 2) (T.1 3) i then nI 1 else nI 0))), (6, .int (w6 + (if T.1 1 i = nI 2 then nI 0 else nI 1))), (0, .ref (x 0)), (1, .ref (r 0)), (2, .ref (r 1)), (3, .ref (r 2)), (4, .ref (r 3)), (5, .ref (r 6)), (12, .int w12), (13, .int (nI i))]) hx hb dL_counts_146 hl (by decide) rfl (fun ls hl => ?_)
                refine lv_iload hx hb dL_counts_148 (lv_at hl 12 rfl) ?_
                refine lv_aload hx hb dL_counts_150 (lv_at hl 10 rfl) ?_
                refine lv_iload hx hb dL_counts_152 (lv_at hl 13 rfl) ?_
                refine rn_iald CX hE (hP 4 _ rfl) 3 rfl (j := i) (by omega) (ltb rfl) dL_counts_154 ?_
                refine rn_top (gF (T.1 4 i)) rfl ?_
                have J_163 : ∀ v : Int32, v = (if T.1 4 i = -6 then nI 0 else nI 1) → W p_ l e_ ({ frames := 5, cells := 0, slots := 0, locals := 111 } : Room) s_ m_ ([.ref (x 0), .ref (r 0), .ref (r 1), .ref (r 2), .ref (r 3), .ref (r 6)] : List Value).toArray below meth c_ s_.heap [] 0 0 (MQ below (vp_Si (fun r_ => r_ = (nI 1))) ([.ref (x 0), .ref (r 0), .ref (r 1), .ref (r 2), .ref (r 3), .ref (r 6)] : List Value).toArray s_ 0 0 (fun _ => False)) (F0 m_ 163 ls [.int v, .int w12]) := by
                  intro v hv
                  subst hv
                  refine lv_iadd hx hb dL_counts_163 ?_
                  refine lv_istore (lv' := [(12, .int (w12 + (if T.1 4 i = -6 then nI 0 else nI 1))), (10, .int (if w10 < iabs (T.1 2 i) then iabs (T.1 2 i) else w10)), (11, .int (if w10 < iabs (T.1 2 i) then nI i else w11)), (9, .int (w9 + (iabs ((T.1 2) i)))), (8, .int (w8 + ((T.1 2) i))), (7, .int (w7 + (if ¬ T.1 1 i = nI 2 ∧ stillP (T.1 0) (T.1 2) (T.1 3) i then nI 1 else nI 0))), (6, .int (w6 + (if T.1 1 i = nI 2 then nI 0 else nI 1))), (0, .ref (x 0)), (1, .ref (r 0)), (2, .ref (r 1)), (3, .ref (r 2)), (4, .ref (r 3)), (5, .ref (r 6)), (13, .int (nI i))]) hx hb dL_counts_164 hl (by decide) rfl (fun ls hl => ?_)
                  refine rn_iinc hx hb (n := 1) (lv' := [(13, .int (nI (i + 1))), (12, .int (w12 + (if T.1 4 i = -6 then nI 0 else nI 1))), (10, .int (if w10 < iabs (T.1 2 i) then iabs (T.1 2 i) else w10)), (11, .int (if w10 < iabs (T.1 2 i) then nI i else w11)), (9, .int (w9 + (iabs ((T.1 2) i)))), (8, .int (w8 + ((T.1 2) i))), (7, .int (w7 + (if ¬ T.1 1 i = nI 2 ∧ stillP (T.1 0) (T.1 2) (T.1 3) i then nI 1 else nI 0))), (6, .int (w6 + (if T.1 1 i = nI 2 then nI 0 else nI 1))), (0, .ref (x 0)), (1, .ref (r 0)), (2, .ref (r 1)), (3, .ref (r 2)), (4, .ref (r 3)), (5, .ref (r 6))]) rfl dL_counts_166 hl (k := 13) rfl (by decide) rfl (fun ls hl => ?_)
                  refine lv_goto (tgt := 24) hx hb dL_counts_169 (by decide) ?_
                  exact ih_24 (i + 1) (w6 + (if T.1 1 i = nI 2 then nI 0 else nI 1)) (w7 + (if ¬ T.1 1 i = nI 2 ∧ stillP (T.1 0) (T.1 2) (T.1 3) i then nI 1 else nI 0)) (w8 + ((T.1 2) i)) (w9 + (iabs ((T.1 2) i))) (if w10 < iabs (T.1 2 i) then iabs (T.1 2 i) else w10) (if w10 < iabs (T.1 2 i) then nI i else w11) (w12 + (if T.1 4 i = -6 then nI 0 else nI 1)) (by omega) (by omega) (by rw [h6]; rfl) (by rw [h7]; rfl) (by rw [h8]; rfl) (by rw [h9]; rfl) (by rw [h10]; rfl) (by rw [h10, h11]; rfl) (by rw [h12]; rfl) ls (lv_sub hl [8, 9, 10, 11, 12, 13, 7, 6, 5, 4, 2, 3, 1, 0] rfl)
                refine lv_if_ge hx hb dL_counts_155 (by decide) (tgt := 162) (fun c_155 => ?_) (fun c_155 => ?_)
                · refine rn_iconst hx hb 1 rfl dL_counts_162 ?_
                  exact J_163 _ (by first | exact (if_neg (hgq.mp c_155)).symm | exact (if_pos (Decidable.not_not.mp (fun z => c_155 (hgq.mpr z)))).symm)
                · refine rn_iconst hx hb 0 rfl dL_counts_158 ?_
                  refine lv_goto (tgt := 163) hx hb dL_counts_159 (by decide) ?_
                  exact J_163 _ (by first | exact (if_neg (hgq.mp c_155)).symm | exact (if_pos (Decidable.not_not.mp (fun z => c_155 (hgq.mpr z)))).symm)
              refine lv_icmp_le hx hb dL_counts_131 (by decide) (tgt := 144) (fun c_131 => ?_) (fun c_131 => ?_)
              · refine lv_iload hx hb dL_counts_144 (lv_at hl 11 rfl) ?_
                exact J_146 _ (by first | exact (if_pos (Int32.not_le.mp c_131)).symm | exact (if_neg (Int32.not_lt.mpr c_131)).symm)
              · refine lv_aload_n hx hb dL_counts_134 rfl (lv_at hl 7 rfl) ?_
                refine lv_iload hx hb dL_counts_135 (lv_at hl 13 rfl) ?_
                refine rn_iald CX hE (hP 4 _ rfl) 1 rfl (j := i) (by omega) (ltb rfl) dL_counts_137 ?_
                refine roS CX hE va_P_nil (c_L_amount l G cA ((T.1 2) i) ) (va_cwS 1 hts gL_counts_L_amount rfl rfl rfl hdn_L_amount ⟨Nat.le_of_ble_eq_true rfl, Nat.le_of_ble_eq_true rfl⟩) [] rfl B0_blind (fun _ _ _ => trivial) rfl hl.1 (rest := []) rfl (Nat.le_of_ble_eq_true rfl) dL_counts_138 ⟨Nat.zero_le _, Nat.zero_le _⟩ ?_
                refine lv_goto (tgt := 146) hx hb dL_counts_141 (by decide) ?_
                exact J_146 _ (by first | exact (if_pos (Int32.not_le.mp c_131)).symm | exact (if_neg (Int32.not_lt.mpr c_131)).symm)
            refine lv_icmp_le hx hb dL_counts_110 (by decide) (tgt := 118) (fun c_110 => ?_) (fun c_110 => ?_)
            · refine lv_iload hx hb dL_counts_118 (lv_at hl 11 rfl) ?_
              exact J_120 _ (by first | exact (if_pos (Int32.not_le.mp c_110)).symm | exact (if_neg (Int32.not_lt.mpr c_110)).symm)
            · refine lv_iload hx hb dL_counts_113 (lv_at hl 13 rfl) ?_
              refine lv_goto (tgt := 120) hx hb dL_counts_115 (by decide) ?_
              exact J_120 _ (by first | exact (if_pos (Int32.not_le.mp c_110)).symm | exact (if_neg (Int32.not_lt.mpr c_110)).symm)
          refine lv_icmp_eq hx hb dL_counts_56 (by decide) (tgt := 76) (fun c_56 => ?_) (fun c_56 => ?_)
          · refine rn_iconst hx hb 0 rfl dL_counts_76 ?_
            exact J_77 _ (by first | exact (if_neg (fun z => c_69 (stw.mpr z.2))).symm | exact (if_neg (fun z => z.1 c_56)).symm | exact (if_pos ⟨c_56, stw.mp c_69⟩).symm)
          · refine lv_aload_n hx hb dL_counts_59 rfl (lv_at hl 2 rfl) ?_
            refine lv_aload_n hx hb dL_counts_60 rfl (lv_at hl 3 rfl) ?_
            refine lv_aload_n hx hb dL_counts_61 rfl (lv_at hl 4 rfl) ?_
            refine lv_aload hx hb dL_counts_62 (lv_at hl 6 rfl) ?_
            refine lv_iload hx hb dL_counts_64 (lv_at hl 13 rfl) ?_
            refine roSg CX hE ((hP 4 _ rfl).sub [0, 1, 2, 5] rfl) (c_L_isStill l G cA (r 0) (r 1) (r 2) (r 6) (T.1 1) (T.1 2) (T.1 3) (tF T) i (by omega)) (va_cwS 5 hts gL_counts_L_isStill rfl rfl rfl hdn_L_isStill ⟨Nat.le_of_ble_eq_true rfl, Nat.le_of_ble_eq_true rfl⟩) B0_blind (fun _ _ _ => trivial) rfl hl.1 (rest := [.int w7]) rfl (Nat.le_of_ble_eq_true rfl) dL_counts_66 ⟨Nat.zero_le _, Nat.zero_le _⟩ ?_
            refine rb_if_eq hx hb dL_counts_69 (by decide) (tgt := 76) (fun c_69 => ?_) (fun c_69 => ?_)
            · refine rn_iconst hx hb 0 rfl dL_counts_76 ?_
              exact J_77 _ (by first | exact (if_neg (fun z => c_69 (stw.mpr z.2))).symm | exact (if_neg (fun z => z.1 c_56)).symm | exact (if_pos ⟨c_56, stw.mp c_69⟩).symm)
            · refine rn_iconst hx hb 1 rfl dL_counts_72 ?_
              refine lv_goto (tgt := 77) hx hb dL_counts_73 (by decide) ?_
              exact J_77 _ (by first | exact (if_neg (fun z => c_69 (stw.mpr z.2))).symm | exact (if_neg (fun z => z.1 c_56)).symm | exact (if_pos ⟨c_56, stw.mp c_69⟩).symm)
        refine lv_icmp_ne hx hb dL_counts_38 (by decide) (tgt := 45) (fun c_38 => ?_) (fun c_38 => ?_)
        · refine rn_iconst hx hb 1 rfl dL_counts_45 ?_
          exact J_46 _ (by first | exact (if_pos c_38).symm | exact (if_neg c_38).symm)
        · refine rn_iconst hx hb 0 rfl dL_counts_41 ?_
          refine lv_goto (tgt := 46) hx hb dL_counts_42 (by decide) ?_
          exact J_46 _ (by first | exact (if_pos c_38).symm | exact (if_neg c_38).symm)
  exact LP_24 _ 0 (nI 0) (nI 0) (nI 0) (nI 0) (nI 0) (-1) (nI 0) (Nat.lt_succ_self _) (by omega) rfl rfl rfl rfl rfl rfl rfl ls (lv_sub hl [8, 9, 10, 11, 12, 13, 7, 6, 5, 4, 3, 2, 1, 0] rfl)
