theorem fl_X5_ifPassed_16 : Cond.fieldLink RX5 16 RX5 (TX5 1).2.1 (TX5 1).2.2.1 ∈ wsX5_ifPassed := by decide +kernel
theorem in_X5_ifPassed_X5 : ∀ w ∈ wsX50, w ∈ wsX5_ifPassed := by decide +kernel
theorem fl_X5_ifPassed_12 : Cond.fieldLink RX5 12 RX5 (TX5 0).2.1 (TX5 0).2.2.1 ∈ wsX5_ifPassed := by decide +kernel
theorem fl_X5_ifPassed_120 : Cond.fieldLink RX5 120 RX4 (TX4 2).2.1 (TX4 2).2.2.1 ∈ wsX5_ifPassed := by decide +kernel
theorem in_X5_ifPassed_X4 : ∀ w ∈ wsX40, w ∈ wsX5_ifPassed := by decide +kernel
set_option maxHeartbeats 8000000 in
set_option maxRecDepth 100000 in
theorem c_X5_ifPassed_k (l : Launch) (G : va_G) (cA : Nat → ClassId) (x : Nat → Nat) (a : Nat → Nat) (b : Nat → Nat) (T : TV) (S : TV) (kx : Nat) (ky : Nat) (n : Nat) (hok : okT T) (hkx : kx < 10) (hky : ky < 6) (hn1 : 1 ≤ n) (hn : n ≤ 60) : MUi l yX5_ifPassed wsX5_ifPassed ({ frames := 5, cells := 0, slots := 0, locals := 130 }) G cA BM0 (([[(x 0, .inr (5, [.ref (a 0), .ref (b 0), .ref (x 3), .ref (x 1), .ref (x 2), .ref (x 5)]))], tkW cA a T, tkW cA b S] : List va_W).flatten) [.ref (x 0), .int (nI kx), .int (nI ky), .int (nI n)] (([[(x 0, .inr (5, [.ref (a 0), .ref ((runA b n) 0), .ref (x 3), .ref (x 1), .ref (x 2), .ref (x 5)]))], tkW cA a T, tkW cA (runA b n) (runT T n)] : List va_W).flatten) ((runT T n).1 2 (ky * 10 + kx) + nI 10000) := by
  refine MUi.mk (own := RX5) (by decide) rfl rfl (Nat.le_of_ble_eq_true rfl) (fun p_ e_ s_ m_ below meth c_ ls A_ CX hr hlk hW hA hE hB hl => ?_)
  obtain ⟨hx, hb, hml, hown, hts⟩ := id CX
  have hl : lv_has ls 4 [(0, .ref (x 0)), (1, .int (nI kx)), (2, .int (nI ky)), (3, .int (nI n))] := hl
  have hW : wldS G A_ [[(x 0, .inr (5, [.ref (a 0), .ref (b 0), .ref (x 3), .ref (x 1), .ref (x 2), .ref (x 5)]))], tkW cA a T, tkW cA b S] s_.heap s_.heap [] := wldS.of hW
  refine lv_iload_n hx hb dX5_ifPassed_0 rfl (lv_at hl 1 rfl) ?_
  refine lv_iload_n hx hb dX5_ifPassed_1 rfl (lv_at hl 2 rfl) ?_
  refine roS CX hE va_P_nil (c_X5_isCell l G cA (nI kx) (nI ky) ) (va_cwS 2 hts gX5_ifPassed_X5_isCell rfl rfl rfl hdn_X5_isCell ⟨Nat.le_of_ble_eq_true rfl, Nat.le_of_ble_eq_true rfl⟩) [] rfl B0_blind (fun _ _ _ => trivial) rfl hl.1 (rest := []) rfl (Nat.le_of_ble_eq_true rfl) dX5_ifPassed_2 ⟨Nat.zero_le _, Nat.zero_le _⟩ ?_
  refine rb_if_ne hx hb dX5_ifPassed_5 (by decide) (tgt := 10) (fun c_5 => ?_) (fun c_5 => ?_)
  · refine lv_iload_n hx hb dX5_ifPassed_10 rfl (lv_at hl 3 rfl) ?_
    refine rn_iconst hx hb 1 rfl dX5_ifPassed_11 ?_
    refine lv_bipush (v := (nI 60)) hx hb dX5_ifPassed_12 kb_60 ?_
    refine roS CX hE va_P_nil (c_X5_isIn l G cA (nI n) (nI 1) (nI 60) ) (va_cwS 3 hts gX5_ifPassed_X5_isIn rfl rfl rfl hdn_X5_isIn ⟨Nat.le_of_ble_eq_true rfl, Nat.le_of_ble_eq_true rfl⟩) [] rfl B0_blind (fun _ _ _ => trivial) rfl hl.1 (rest := []) rfl (Nat.le_of_ble_eq_true rfl) dX5_ifPassed_14 ⟨Nat.zero_le _, Nat.zero_le _⟩ ?_
    refine rb_if_ne hx hb dX5_ifPassed_17 (by decide) (tgt := 23) (fun c_17 => ?_) (fun c_17 => ?_)
    · refine lv_aload_n hx hb dX5_ifPassed_23 rfl (lv_at hl 0 rfl) ?_
      refine rg (T := TX5) (N := 6) CX hE (hW.hP 0 rfl) in_X5_ifPassed_X5 0 rfl rfl 1 (by decide) fl_X5_ifPassed_16 rfl rfl dX5_ifPassed_24 ?_
      refine lv_aload_n hx hb dX5_ifPassed_27 rfl (lv_at hl 0 rfl) ?_
      refine rg (T := TX5) (N := 6) CX hE (hW.hP 0 rfl) in_X5_ifPassed_X5 0 rfl rfl 0 (by decide) fl_X5_ifPassed_12 rfl rfl dX5_ifPassed_28 ?_
      refine muvVS (segs' := [[(x 0, .inr (5, [.ref (a 0), .ref (b 0), .ref (x 3), .ref (x 1), .ref (x 2), .ref (x 5)]))], tkW cA a T, tkW cA b T]) CX hE hW hA (c_X4_becomeS l G cA b S a T ) (cwV 1 hts gX5_ifPassed_X4_become rfl rfl rfl hdv_X4_become ⟨Nat.le_of_ble_eq_true rfl, Nat.le_of_ble_eq_true rfl⟩) [2, 1] (by decide) rfl rfl rfl (hW.hP 2 rfl) 0 rfl rfl rfl BM0_blind (fun _ _ _ _ => trivial) rfl hl.1 (rest := []) rfl (Nat.le_of_ble_eq_true rfl) dX5_ifPassed_31 ⟨Nat.zero_le _, Nat.zero_le _⟩ (fun H locs hW => ?_)
      refine lv_aload_n hx hb dX5_ifPassed_34 rfl (lv_at hl 0 rfl) ?_
      refine rg (T := TX5) (N := 6) CX hE (hW.hP 0 rfl) in_X5_ifPassed_X5 0 rfl rfl 1 (by decide) fl_X5_ifPassed_16 rfl rfl dX5_ifPassed_35 ?_
      refine lv_iload_n hx hb dX5_ifPassed_38 rfl (lv_at hl 3 rfl) ?_
      refine muvVP (w' := tkW cA (runA b n) (runT T n)) (segs' := [[(x 0, .inr (5, [.ref (a 0), .ref (b 0), .ref (x 3), .ref (x 1), .ref (x 2), .ref (x 5)]))], tkW cA a T, tkW cA (runA b n) (runT T n)]) CX hE hW hA (c_X4_run l G cA b T n hok (by omega)) (cwV 1 hts gX5_ifPassed_X4_run rfl rfl rfl hdv_X4_run ⟨Nat.le_of_ble_eq_true rfl, Nat.le_of_ble_eq_true rfl⟩) 2 rfl [0, 1, 2, 3, 4, 5, 6, 7, 8, 9, 10, 11, 12, 13, 14, 15, 16, 17] (by decide) rfl rfl rfl rfl 0 rfl rfl rfl BM0_blind (fun _ _ _ _ => trivial) rfl hl.1 (rest := []) rfl (Nat.le_of_ble_eq_true rfl) dX5_ifPassed_39 ⟨Nat.zero_le _, Nat.zero_le _⟩ (fun H locs hW => ?_)
      have hW : wldS G A_ [[(x 0, .inr (5, [.ref (a 0), .ref ((runA b n) 0), .ref (x 3), .ref (x 1), .ref (x 2), .ref (x 5)]))], tkW cA a T, tkW cA (runA b n) (runT T n)] s_.heap H locs := hW
      refine lv_aload_n hx hb dX5_ifPassed_42 rfl (lv_at hl 0 rfl) ?_
      refine rg (T := TX5) (N := 6) CX hE (hW.hP 0 rfl) in_X5_ifPassed_X5 0 rfl rfl 1 (by decide) fl_X5_ifPassed_16 rfl rfl dX5_ifPassed_43 ?_
      refine rg (T := TX4) (N := 8) CX hE (hW.hP 2 rfl) in_X5_ifPassed_X4 0 rfl rfl 2 (by decide) fl_X5_ifPassed_120 rfl rfl dX5_ifPassed_46 ?_
      refine lv_iload_n hx hb dX5_ifPassed_49 rfl (lv_at hl 1 rfl) ?_
      refine lv_iload_n hx hb dX5_ifPassed_50 rfl (lv_at hl 2 rfl) ?_
      refine roS CX hE va_P_nil (c_X5_placeOf l G cA kx ky ) (va_cwS 2 hts gX5_ifPassed_X5_placeOf rfl rfl rfl hdn_X5_placeOf ⟨Nat.le_of_ble_eq_true rfl, Nat.le_of_ble_eq_true rfl⟩) [] rfl B0_blind (fun _ _ _ => trivial) rfl hl.1 (rest := [.ref ((runA b n) 3)]) rfl (Nat.le_of_ble_eq_true rfl) dX5_ifPassed_51 ⟨Nat.zero_le _, Nat.zero_le _⟩ ?_
      refine rn_iald CX hE (hW.hP 2 rfl) 3 rfl (j := (ky * 10 + kx)) (by omega) (ltb rfl) dX5_ifPassed_54 ?_
      refine lv_sipush (v := (nI 10000)) hx hb dX5_ifPassed_55 ks_10000 ?_
      refine lv_iadd hx hb dX5_ifPassed_58 ?_
      exact mu_reti CX hr hlk rfl rfl hW.flat dX5_ifPassed_59
    · exact absurd (inP_nI hn1 hn (by decide)) c_17
  · exact absurd (cellP_of hkx hky) c_5
set_option maxHeartbeats 4000000 in
set_option maxRecDepth 100000 in
theorem c_X5_ifPassed_e (l : Launch) (G : va_G) (cA : Nat → ClassId) (x : Nat → Nat) (a : Nat → Nat) (b : Nat → Nat) (T : TV) (x_ : Int32) (y : Int32) (n : Int32) (hbad : cellP x_ y → ¬ inP n (nI 1) (nI 60)) : RO l yX5_ifPassed wsX5_ifPassed ({ frames := 2, cells := 0, slots := 0, locals := 43 }) G cA B0 (([[(x 0, .inr (5, [.ref (a 0), .ref (b 0), .ref (x 3), .ref (x 1), .ref (x 2), .ref (x 5)]))], tkW cA a T] : List va_W).flatten) [.ref (x 0), .int x_, .int y, .int n] (if ¬ cellP x_ y then -1 else -2) := by
  refine RO.mk (own := RX5) (by decide) rfl rfl (Nat.le_of_ble_eq_true rfl) (fun p_ e_ s_ m_ below meth c_ ls CX hr hlk hP hE hB hl => ?_)
  obtain ⟨hx, hb, hml, hown, hts⟩ := id CX
  have hl : lv_has ls 4 [(0, .ref (x 0)), (1, .int x_), (2, .int y), (3, .int n)] := hl
  have hP : ∀ (k : Nat) (w : va_W), ([[(x 0, .inr (5, [.ref (a 0), .ref (b 0), .ref (x 3), .ref (x 1), .ref (x 2), .ref (x 5)]))], tkW cA a T] : List va_W)[k]? = some w → va_P G vwCl w s_.heap := va_P_seg hP
  refine lv_iload_n hx hb dX5_ifPassed_0 rfl (lv_at hl 1 rfl) ?_
  refine lv_iload_n hx hb dX5_ifPassed_1 rfl (lv_at hl 2 rfl) ?_
  refine roS CX hE va_P_nil (c_X5_isCell l G cA x_ y ) (va_cwS 2 hts gX5_ifPassed_X5_isCell rfl rfl rfl hdn_X5_isCell ⟨Nat.le_of_ble_eq_true rfl, Nat.le_of_ble_eq_true rfl⟩) [] rfl B0_blind (fun _ _ _ => trivial) rfl hl.1 (rest := []) rfl (Nat.le_of_ble_eq_true rfl) dX5_ifPassed_2 ⟨Nat.zero_le _, Nat.zero_le _⟩ ?_
  refine rb_if_ne hx hb dX5_ifPassed_5 (by decide) (tgt := 10) (fun c_5 => ?_) (fun c_5 => ?_)
  · refine lv_iload_n hx hb dX5_ifPassed_10 rfl (lv_at hl 3 rfl) ?_
    refine rn_iconst hx hb 1 rfl dX5_ifPassed_11 ?_
    refine lv_bipush (v := (nI 60)) hx hb dX5_ifPassed_12 kb_60 ?_
    refine roS CX hE va_P_nil (c_X5_isIn l G cA n (nI 1) (nI 60) ) (va_cwS 3 hts gX5_ifPassed_X5_isIn rfl rfl rfl hdn_X5_isIn ⟨Nat.le_of_ble_eq_true rfl, Nat.le_of_ble_eq_true rfl⟩) [] rfl B0_blind (fun _ _ _ => trivial) rfl hl.1 (rest := []) rfl (Nat.le_of_ble_eq_true rfl) dX5_ifPassed_14 ⟨Nat.zero_le _, Nat.zero_le _⟩ ?_
    refine rb_if_ne hx hb dX5_ifPassed_17 (by decide) (tgt := 23) (fun c_17 => ?_) (fun c_17 => ?_)
    · exact absurd c_17 (hbad c_5)
    · refine lv_bipush (v := (-2)) hx hb dX5_ifPassed_20 kb_m2 ?_
      exact ro_ret CX hr hlk ((if_neg (fun q => q c_5)).symm) rfl dX5_ifPassed_22
  · refine lv_iconst (v := (-1)) hx hb dX5_ifPassed_8 (by decide) ?_
    exact ro_ret CX hr hlk ((if_pos c_5).symm) rfl dX5_ifPassed_9
theorem fl_X5_comes_12 : Cond.fieldLink RX5 12 RX5 (TX5 0).2.1 (TX5 0).2.2.1 ∈ wsX5_comes := by decide +kernel
theorem in_X5_comes_X5 : ∀ w ∈ wsX50, w ∈ wsX5_comes := by decide +kernel
theorem fl_X5_comes_16 : Cond.fieldLink RX5 16 RX5 (TX5 1).2.1 (TX5 1).2.2.1 ∈ wsX5_comes := by decide +kernel
set_option maxHeartbeats 8000000 in
set_option maxRecDepth 100000 in
theorem c_X5_comes_k (l : Launch) (G : va_G) (cA : Nat → ClassId) (x : Nat → Nat) (a : Nat → Nat) (b : Nat → Nat) (T : TV) (S : TV) (kx : Nat) (ky : Nat) (hok : okT T) (hkx : kx < 10) (hky : ky < 6) (hst : stillP (T.1 0) (T.1 2) (T.1 3) (ky * 10 + kx)) : MUi l yX5_comes wsX5_comes ({ frames := 4, cells := 0, slots := 0, locals := 108 }) G cA BM0 (([[(x 0, .inr (5, [.ref (a 0), .ref (b 0), .ref (x 3), .ref (x 1), .ref (x 2), .ref (x 5)]))], tkW cA a T, tkW cA b S] : List va_W).flatten) [.ref (x 0), .int (nI kx), .int (nI ky)] (([[(x 0, .inr (5, [.ref (a 0), .ref ((runA b (comKT T (ky * 10 + kx) 80)) 0), .ref (x 3), .ref (x 1), .ref (x 2), .ref (x 5)]))], tkW cA a T, tkW cA (runA b (comKT T (ky * 10 + kx) 80)) (runT T (comKT T (ky * 10 + kx) 80))] : List va_W).flatten) (comRT T (ky * 10 + kx) 80) := by
  refine MUi.mk (own := RX5) (by decide) rfl rfl (Nat.le_of_ble_eq_true rfl) (fun p_ e_ s_ m_ below meth c_ ls A_ CX hr hlk hW hA hE hB hl => ?_)
  obtain ⟨hx, hb, hml, hown, hts⟩ := id CX
  have hl : lv_has ls 5 [(0, .ref (x 0)), (1, .int (nI kx)), (2, .int (nI ky))] := hl
  have hW : wldS G A_ [[(x 0, .inr (5, [.ref (a 0), .ref (b 0), .ref (x 3), .ref (x 1), .ref (x 2), .ref (x 5)]))], tkW cA a T, tkW cA b S] s_.heap s_.heap [] := wldS.of hW
  refine lv_iload_n hx hb dX5_comes_0 rfl (lv_at hl 1 rfl) ?_
  refine lv_iload_n hx hb dX5_comes_1 rfl (lv_at hl 2 rfl) ?_
  refine roS CX hE va_P_nil (c_X5_isCell l G cA (nI kx) (nI ky) ) (va_cwS 2 hts gX5_comes_X5_isCell rfl rfl rfl hdn_X5_isCell ⟨Nat.le_of_ble_eq_true rfl, Nat.le_of_ble_eq_true rfl⟩) [] rfl B0_blind (fun _ _ _ => trivial) rfl hl.1 (rest := []) rfl (Nat.le_of_ble_eq_true rfl) dX5_comes_2 ⟨Nat.zero_le _, Nat.zero_le _⟩ ?_
  refine rb_if_ne hx hb dX5_comes_5 (by decide) (tgt := 10) (fun c_5 => ?_) (fun c_5 => ?_)
  · refine lv_iload_n hx hb dX5_comes_10 rfl (lv_at hl 1 rfl) ?_
    refine lv_iload_n hx hb dX5_comes_11 rfl (lv_at hl 2 rfl) ?_
    refine roS CX hE va_P_nil (c_X5_placeOf l G cA kx ky ) (va_cwS 2 hts gX5_comes_X5_placeOf rfl rfl rfl hdn_X5_placeOf ⟨Nat.le_of_ble_eq_true rfl, Nat.le_of_ble_eq_true rfl⟩) [] rfl B0_blind (fun _ _ _ => trivial) rfl hl.1 (rest := []) rfl (Nat.le_of_ble_eq_true rfl) dX5_comes_12 ⟨Nat.zero_le _, Nat.zero_le _⟩ ?_
    refine lv_istore_n (lv' := [(3, .int (nI (ky * 10 + kx))), (0, .ref (x 0)), (1, .int (nI kx)), (2, .int (nI ky))]) hx hb dX5_comes_15 rfl hl (by decide) rfl (fun ls hl => ?_)
    refine lv_aload_n hx hb dX5_comes_16 rfl (lv_at hl 1 rfl) ?_
    refine rg (T := TX5) (N := 6) CX hE (hW.hP 0 rfl) in_X5_comes_X5 0 rfl rfl 0 (by decide) fl_X5_comes_12 rfl rfl dX5_comes_17 ?_
    refine lv_iload_n hx hb dX5_comes_20 rfl (lv_at hl 0 rfl) ?_
    refine roVg CX hE ((hW.hP 1 rfl).sub [0, 1, 3, 4] rfl) (c_X4_isStill l G cA a (T.2 4 0) (T.1 0) (T.1 2) (T.1 3) (ky * 10 + kx) (by omega)) (cwV 1 hts gX5_comes_X4_isStill rfl rfl rfl hdv_X4_isStill ⟨Nat.le_of_ble_eq_true rfl, Nat.le_of_ble_eq_true rfl⟩) (hW.hP 1 rfl) 0 rfl rfl rfl B0_blind (fun _ _ _ => trivial) rfl hl.1 (rest := []) rfl (Nat.le_of_ble_eq_true rfl) dX5_comes_21 ⟨Nat.zero_le _, Nat.zero_le _⟩ ?_
    refine rb_if_ne hx hb dX5_comes_24 (by decide) (tgt := 30) (fun c_24 => ?_) (fun c_24 => ?_)
    · refine lv_aload_n hx hb dX5_comes_30 rfl (lv_at hl 1 rfl) ?_
      refine rg (T := TX5) (N := 6) CX hE (hW.hP 0 rfl) in_X5_comes_X5 0 rfl rfl 1 (by decide) fl_X5_comes_16 rfl rfl dX5_comes_31 ?_
      refine lv_aload_n hx hb dX5_comes_34 rfl (lv_at hl 1 rfl) ?_
      refine rg (T := TX5) (N := 6) CX hE (hW.hP 0 rfl) in_X5_comes_X5 0 rfl rfl 0 (by decide) fl_X5_comes_12 rfl rfl dX5_comes_35 ?_
      refine muvVS (segs' := [[(x 0, .inr (5, [.ref (a 0), .ref (b 0), .ref (x 3), .ref (x 1), .ref (x 2), .ref (x 5)]))], tkW cA a T, tkW cA b T]) CX hE hW hA (c_X4_becomeS l G cA b S a T ) (cwV 1 hts gX5_comes_X4_become rfl rfl rfl hdv_X4_become ⟨Nat.le_of_ble_eq_true rfl, Nat.le_of_ble_eq_true rfl⟩) [2, 1] (by decide) rfl rfl rfl (hW.hP 2 rfl) 0 rfl rfl rfl BM0_blind (fun _ _ _ _ => trivial) rfl hl.1 (rest := []) rfl (Nat.le_of_ble_eq_true rfl) dX5_comes_38 ⟨Nat.zero_le _, Nat.zero_le _⟩ (fun H locs hW => ?_)
      refine rn_iconst hx hb 1 rfl dX5_comes_41 ?_
      refine lv_istore (lv' := [(4, .int (nI 1)), (3, .int (nI (ky * 10 + kx))), (0, .ref (x 0)), (1, .int (nI kx)), (2, .int (nI ky))]) hx hb dX5_comes_42 hl (by decide) rfl (fun ls hl => ?_)
      have LP_44 : ∀ (nn_ : Nat) (k : Nat) (bb : Nat → Nat) (SS : TV), (81 - k) < nn_ → (1 ≤ k) → (k ≤ 81) → (bb = runA b (k - 1)) → (SS = runT T (k - 1)) → (comRT T (ky * 10 + kx) (k - 1) = -6) → (comKT T (ky * 10 + kx) (k - 1) = k - 1) → ∀ (H : Heap) (locs : List Loc) (ls : Array Slot), wldS G A_ [[(x 0, .inr (5, [.ref (a 0), .ref (bb 0), .ref (x 3), .ref (x 1), .ref (x 2), .ref (x 5)]))], tkW cA a T, tkW cA bb SS] s_.heap H locs → lv_has ls 5 [(0, .ref (x 0)), (1, .int (nI kx)), (2, .int (nI ky)), (3, .int (nI (ky * 10 + kx))), (4, .int (nI k))] → W p_ l e_ ({ frames := 4, cells := 0, slots := 0, locals := 108 } : Room) s_ m_ ([.ref (x 0), .int (nI kx), .int (nI ky)] : List Value).toArray below meth c_ H locs 0 0 (MQ below (va_Qi (fun r_ (_ : Unit) => r_ = (comRT T (ky * 10 + kx) 80)) (fun _ t_ => va_P G vwCl (([[(x 0, .inr (5, [.ref (a 0), .ref ((runA b (comKT T (ky * 10 + kx) 80)) 0), .ref (x 3), .ref (x 1), .ref (x 2), .ref (x 5)]))], tkW cA a T, tkW cA (runA b (comKT T (ky * 10 + kx) 80)) (runT T (comKT T (ky * 10 + kx) 80))] : List va_W).flatten) t_.heap ∧ va_D A_ (([[(x 0, .inr (5, [.ref (a 0), .ref ((runA b (comKT T (ky * 10 + kx) 80)) 0), .ref (x 3), .ref (x 1), .ref (x 2), .ref (x 5)]))], tkW cA a T, tkW cA (runA b (comKT T (ky * 10 + kx) 80)) (runT T (comKT T (ky * 10 + kx) 80))] : List va_W).flatten)) A_) ([.ref (x 0), .int (nI kx), .int (nI ky)] : List Value).toArray s_ 0 0 A_) (F0 m_ 44 ls []) := by
        intro nn_
        induction nn_ with
        | zero => intro k bb SS hmu; exact absurd hmu (Nat.not_lt_zero _)
        | succ nn_ ih =>
          have ih_44 := ih
          clear ih
          intro k bb SS hmu_44 hk1 hk hbb hSS hcr hck H locs ls hW hl
          refine lv_iload hx hb dX5_comes_44 (lv_at hl 4 rfl) ?_
          refine lv_bipush (v := (nI 80)) hx hb dX5_comes_46 kb_80 ?_
          refine rn_icmp_gt hx hb (by omega) (by omega) dX5_comes_48 (by decide) (tgt := 78) (fun c_48 => ?_) (fun c_48 => ?_)
          · have e80 : k - 1 = 80 := by omega
            rw [e80] at hcr hck hbb hSS
            have hW : wldS G A_ [[(x 0, .inr (5, [.ref (a 0), .ref ((runA b (comKT T (ky * 10 + kx) 80)) 0), .ref (x 3), .ref (x 1), .ref (x 2), .ref (x 5)]))], tkW cA a T, tkW cA (runA b (comKT T (ky * 10 + kx) 80)) (runT T (comKT T (ky * 10 + kx) 80))] s_.heap H locs := by rw [hck, ← hbb, ← hSS]; exact hW
            refine lv_bipush (v := (-6)) hx hb dX5_comes_78 kb_m6 ?_
            exact mu_reti CX hr hlk hcr.symm rfl hW.flat dX5_comes_80
          · have hok3 : okT SS := by rw [hSS]; exact hok.run (k - 1)
            have hA2 : swp bb = runA b k := by rw [hbb, show runA b k = runA b (k - 1 + 1) by rw [show k - 1 + 1 = k by omega]]; exact runA_next
            have hS2 : stepT SS = runT T k := by rw [hSS, show runT T k = runT T (k - 1 + 1) by rw [show k - 1 + 1 = k by omega]]; rfl
            have hcs := comRT_step (c := ky * 10 + kx) hk1 hSS hcr
            refine lv_aload_n hx hb dX5_comes_51 rfl (lv_at hl 0 rfl) ?_
            refine rg (T := TX5) (N := 6) CX hE (hW.hP 0 rfl) in_X5_comes_X5 0 rfl rfl 1 (by decide) fl_X5_comes_16 rfl rfl dX5_comes_52 ?_
            refine muvVP (w' := tkW cA (swp bb) (stepT SS)) (segs' := [[(x 0, .inr (5, [.ref (a 0), .ref (bb 0), .ref (x 3), .ref (x 1), .ref (x 2), .ref (x 5)]))], tkW cA a T, tkW cA (swp bb) (stepT SS)]) CX hE hW hA (c_X4_step l G cA bb SS hok3) (cwV 0 hts gX5_comes_X4_step rfl rfl rfl hdv_X4_step ⟨Nat.le_of_ble_eq_true rfl, Nat.le_of_ble_eq_true rfl⟩) 2 rfl [0, 1, 2, 3, 4, 5, 6, 7, 8, 9, 10, 11, 12, 13, 14, 15, 16, 17] (by decide) rfl rfl rfl rfl 0 rfl rfl rfl BM0_blind (fun _ _ _ _ => trivial) rfl hl.1 (rest := []) rfl (Nat.le_of_ble_eq_true rfl) dX5_comes_55 ⟨Nat.zero_le _, Nat.zero_le _⟩ (fun H locs hW => ?_)
            have hW : wldS G A_ [[(x 0, .inr (5, [.ref (a 0), .ref ((swp bb) 0), .ref (x 3), .ref (x 1), .ref (x 2), .ref (x 5)]))], tkW cA a T, tkW cA (swp bb) (stepT SS)] s_.heap H locs := hW
            refine lv_aload_n hx hb dX5_comes_58 rfl (lv_at hl 0 rfl) ?_
            refine rg (T := TX5) (N := 6) CX hE (hW.hP 0 rfl) in_X5_comes_X5 0 rfl rfl 1 (by decide) fl_X5_comes_16 rfl rfl dX5_comes_59 ?_
            refine lv_iload_n hx hb dX5_comes_62 rfl (lv_at hl 3 rfl) ?_
            refine roVg CX hE ((hW.hP 2 rfl).sub [0, 1, 3, 4] rfl) (c_X4_isStill l G cA (swp bb) ((stepT SS).2 4 0) ((stepT SS).1 0) ((stepT SS).1 2) ((stepT SS).1 3) (ky * 10 + kx) (by omega)) (cwV 1 hts gX5_comes_X4_isStill rfl rfl rfl hdv_X4_isStill ⟨Nat.le_of_ble_eq_true rfl, Nat.le_of_ble_eq_true rfl⟩) (hW.hP 2 rfl) 0 rfl rfl rfl B0_blind (fun _ _ _ => trivial) rfl hl.1 (rest := []) rfl (Nat.le_of_ble_eq_true rfl) dX5_comes_63 ⟨Nat.zero_le _, Nat.zero_le _⟩ ?_
            refine rb_if_ne hx hb dX5_comes_66 (by decide) (tgt := 72) (fun c_66 => ?_) (fun c_66 => ?_)
            · refine rn_iinc hx hb (n := 1) (lv' := [(4, .int (nI (k + 1))), (0, .ref (x 0)), (1, .int (nI kx)), (2, .int (nI ky)), (3, .int (nI (ky * 10 + kx)))]) rfl dX5_comes_72 hl (k := 4) rfl (by decide) rfl (fun ls hl => ?_)
              refine lv_goto (tgt := 44) hx hb dX5_comes_75 (by decide) ?_
              exact ih_44 (k + 1) (swp bb) (stepT SS) (by omega) (by omega) (by omega) (by rw [hA2, Nat.add_sub_cancel]) (by rw [hS2, Nat.add_sub_cancel]) (by rw [Nat.add_sub_cancel, hcs, if_pos c_66]) (by rw [Nat.add_sub_cancel]; exact comKT_step hk1 hcr) _ _ ls hW (lv_sub hl [1, 2, 3, 4, 0] rfl)
            · have hend := comT_here (by omega) hk1 (by rw [hcs, if_neg c_66]) (comKT_step hk1 hcr)
              have hW : wldS G A_ [[(x 0, .inr (5, [.ref (a 0), .ref ((runA b (comKT T (ky * 10 + kx) 80)) 0), .ref (x 3), .ref (x 1), .ref (x 2), .ref (x 5)]))], tkW cA a T, tkW cA (runA b (comKT T (ky * 10 + kx) 80)) (runT T (comKT T (ky * 10 + kx) 80))] s_.heap H locs := by rw [hend.2, ← hA2, ← hS2]; exact hW
              refine lv_iload hx hb dX5_comes_69 (lv_at hl 4 rfl) ?_
              exact mu_reti CX hr hlk hend.1 rfl hW.flat dX5_comes_71
      exact LP_44 _ 1 b T (Nat.lt_succ_self _) (by omega) (by omega) runA_0 rfl rfl rfl _ _ ls hW (lv_sub hl [2, 3, 4, 1, 0] rfl)
    · exact absurd hst c_24
  · exact absurd (cellP_of hkx hky) c_5
set_option maxHeartbeats 4000000 in
set_option maxRecDepth 100000 in
theorem c_X5_comes_e (l : Launch) (G : va_G) (cA : Nat → ClassId) (x : Nat → Nat) (a : Nat → Nat) (b : Nat → Nat) (T : TV) (x_ : Int32) (y : Int32) (hbad : ∀ i j, i < 10 → j < 6 → x_ = nI i → y = nI j → ¬ stillP (T.1 0) (T.1 2) (T.1 3) (j * 10 + i)) : RO l yX5_comes wsX5_comes ({ frames := 3, cells := 0, slots := 0, locals := 66 }) G cA B0 (([[(x 0, .inr (5, [.ref (a 0), .ref (b 0), .ref (x 3), .ref (x 1), .ref (x 2), .ref (x 5)]))], tkW cA a T] : List va_W).flatten) [.ref (x 0), .int x_, .int y] (if ¬ cellP x_ y then -1 else -5) := by
  refine RO.mk (own := RX5) (by decide) rfl rfl (Nat.le_of_ble_eq_true rfl) (fun p_ e_ s_ m_ below meth c_ ls CX hr hlk hP hE hB hl => ?_)
  obtain ⟨hx, hb, hml, hown, hts⟩ := id CX
  have hl : lv_has ls 5 [(0, .ref (x 0)), (1, .int x_), (2, .int y)] := hl
  have hP : ∀ (k : Nat) (w : va_W), ([[(x 0, .inr (5, [.ref (a 0), .ref (b 0), .ref (x 3), .ref (x 1), .ref (x 2), .ref (x 5)]))], tkW cA a T] : List va_W)[k]? = some w → va_P G vwCl w s_.heap := va_P_seg hP
  refine lv_iload_n hx hb dX5_comes_0 rfl (lv_at hl 1 rfl) ?_
  refine lv_iload_n hx hb dX5_comes_1 rfl (lv_at hl 2 rfl) ?_
  refine roS CX hE va_P_nil (c_X5_isCell l G cA x_ y ) (va_cwS 2 hts gX5_comes_X5_isCell rfl rfl rfl hdn_X5_isCell ⟨Nat.le_of_ble_eq_true rfl, Nat.le_of_ble_eq_true rfl⟩) [] rfl B0_blind (fun _ _ _ => trivial) rfl hl.1 (rest := []) rfl (Nat.le_of_ble_eq_true rfl) dX5_comes_2 ⟨Nat.zero_le _, Nat.zero_le _⟩ ?_
  refine rb_if_ne hx hb dX5_comes_5 (by decide) (tgt := 10) (fun c_5 => ?_) (fun c_5 => ?_)
  · obtain ⟨kx, ky, hkx, hky, ex, ey⟩ := cellP_nat c_5
    subst ex
    subst ey
    refine lv_iload_n hx hb dX5_comes_10 rfl (lv_at hl 1 rfl) ?_
    refine lv_iload_n hx hb dX5_comes_11 rfl (lv_at hl 2 rfl) ?_
    refine roS CX hE va_P_nil (c_X5_placeOf l G cA kx ky ) (va_cwS 2 hts gX5_comes_X5_placeOf rfl rfl rfl hdn_X5_placeOf ⟨Nat.le_of_ble_eq_true rfl, Nat.le_of_ble_eq_true rfl⟩) [] rfl B0_blind (fun _ _ _ => trivial) rfl hl.1 (rest := []) rfl (Nat.le_of_ble_eq_true rfl) dX5_comes_12 ⟨Nat.zero_le _, Nat.zero_le _⟩ ?_
    refine lv_istore_n (lv' := [(3, .int (nI (ky * 10 + kx))), (0, .ref (x 0)), (1, .int (nI kx)), (2, .int (nI ky))]) hx hb dX5_comes_15 rfl hl (by decide) rfl (fun ls hl => ?_)
    refine lv_aload_n hx hb dX5_comes_16 rfl (lv_at hl 1 rfl) ?_
    refine rg (T := TX5) (N := 6) CX hE (hP 0 _ rfl) in_X5_comes_X5 0 rfl rfl 0 (by decide) fl_X5_comes_12 rfl rfl dX5_comes_17 ?_
    refine lv_iload_n hx hb dX5_comes_20 rfl (lv_at hl 0 rfl) ?_
    refine roVg CX hE ((hP 1 _ rfl).sub [0, 1, 3, 4] rfl) (c_X4_isStill l G cA a (T.2 4 0) (T.1 0) (T.1 2) (T.1 3) (ky * 10 + kx) (by omega)) (cwV 1 hts gX5_comes_X4_isStill rfl rfl rfl hdv_X4_isStill ⟨Nat.le_of_ble_eq_true rfl, Nat.le_of_ble_eq_true rfl⟩) (hP 1 _ rfl) 0 rfl rfl rfl B0_blind (fun _ _ _ => trivial) rfl hl.1 (rest := []) rfl (Nat.le_of_ble_eq_true rfl) dX5_comes_21 ⟨Nat.zero_le _, Nat.zero_le _⟩ ?_
    refine rb_if_ne hx hb dX5_comes_24 (by decide) (tgt := 30) (fun c_24 => ?_) (fun c_24 => ?_)
    · exact absurd c_24 (hbad kx ky hkx hky rfl rfl)
    · refine lv_bipush (v := (-5)) hx hb dX5_comes_27 kb_m5 ?_
      exact ro_ret CX hr hlk ((if_neg (fun q => q (cellP_of hkx hky))).symm) rfl dX5_comes_29
  · refine lv_iconst (v := (-1)) hx hb dX5_comes_8 (by decide) ?_
    exact ro_ret CX hr hlk ((if_pos c_5).symm) rfl dX5_comes_9
theorem fl_X5_loudnessWith_16 : Cond.fieldLink RX5 16 RX5 (TX5 1).2.1 (TX5 1).2.2.1 ∈ wsX5_loudnessWith := by decide +kernel
theorem in_X5_loudnessWith_X5 : ∀ w ∈ wsX50, w ∈ wsX5_loudnessWith := by decide +kernel
theorem fl_X5_loudnessWith_12 : Cond.fieldLink RX5 12 RX5 (TX5 0).2.1 (TX5 0).2.2.1 ∈ wsX5_loudnessWith := by decide +kernel
theorem fl_X5_loudnessWith_63 : Cond.fieldLink RX5 63 RX4 (TX4 5).2.1 (TX4 5).2.2.1 ∈ wsX5_loudnessWith := by decide +kernel
theorem in_X5_loudnessWith_X4 : ∀ w ∈ wsX40, w ∈ wsX5_loudnessWith := by decide +kernel
theorem fl_X5_loudnessWith_166 : Cond.fieldLink RX5 166 RX0 (TX0 3).2.1 (TX0 3).2.2.1 ∈ wsX5_loudnessWith := by decide +kernel
theorem in_X5_loudnessWith_X0 : ∀ w ∈ wsX00, w ∈ wsX5_loudnessWith := by decide +kernel
set_option maxHeartbeats 8000000 in
set_option maxRecDepth 100000 in
theorem c_X5_loudnessWith (l : Launch) (G : va_G) (cA : Nat → ClassId) (x : Nat → Nat) (a : Nat → Nat) (b : Nat → Nat) (T : TV) (S : TV) (d : Nat) (s : Nat) (c : Nat) (n : Nat) (hok : okT T) (hd : d < 5) (hc : c < 60) (hn : n ≤ 30) : MUi l yX5_loudnessWith wsX5_loudnessWith ({ frames := 5, cells := 0, slots := 0, locals := 130 }) G cA BM0 (([[(x 0, .inr (5, [.ref (a 0), .ref (b 0), .ref (x 3), .ref (x 1), .ref (x 2), .ref (x 5)]))], tkW cA a T, tkW cA b S] : List va_W).flatten) [.ref (x 0), .int (nI d), .int (nI s), .int (nI c), .int (nI n)] (([[(x 0, .inr (5, [.ref (a 0), .ref ((runA b n) 0), .ref (x 3), .ref (x 1), .ref (x 2), .ref (x 5)]))], tkW cA a T, tkW cA (runA b n) (runT (shT T d s) n)] : List va_W).flatten) (hushL T d c n s) := by
  refine MUi.mk (own := RX5) (by decide) rfl rfl (Nat.le_of_ble_eq_true rfl) (fun p_ e_ s_ m_ below meth c_ ls A_ CX hr hlk hW hA hE hB hl => ?_)
  obtain ⟨hx, hb, hml, hown, hts⟩ := id CX
  have hl : lv_has ls 5 [(0, .ref (x 0)), (1, .int (nI d)), (2, .int (nI s)), (3, .int (nI c)), (4, .int (nI n))] := hl
  have hW : wldS G A_ [[(x 0, .inr (5, [.ref (a 0), .ref (b 0), .ref (x 3), .ref (x 1), .ref (x 2), .ref (x 5)]))], tkW cA a T, tkW cA b S] s_.heap s_.heap [] := wldS.of hW
  refine lv_aload_n hx hb dX5_loudnessWith_0 rfl (lv_at hl 0 rfl) ?_
  refine rg (T := TX5) (N := 6) CX hE (hW.hP 0 rfl) in_X5_loudnessWith_X5 0 rfl rfl 1 (by decide) fl_X5_loudnessWith_16 rfl rfl dX5_loudnessWith_1 ?_
  refine lv_aload_n hx hb dX5_loudnessWith_4 rfl (lv_at hl 0 rfl) ?_
  refine rg (T := TX5) (N := 6) CX hE (hW.hP 0 rfl) in_X5_loudnessWith_X5 0 rfl rfl 0 (by decide) fl_X5_loudnessWith_12 rfl rfl dX5_loudnessWith_5 ?_
  refine muvVS (segs' := [[(x 0, .inr (5, [.ref (a 0), .ref (b 0), .ref (x 3), .ref (x 1), .ref (x 2), .ref (x 5)]))], tkW cA a T, tkW cA b T]) CX hE hW hA (c_X4_becomeS l G cA b S a T ) (cwV 1 hts gX5_loudnessWith_X4_become rfl rfl rfl hdv_X4_become ⟨Nat.le_of_ble_eq_true rfl, Nat.le_of_ble_eq_true rfl⟩) [2, 1] (by decide) rfl rfl rfl (hW.hP 2 rfl) 0 rfl rfl rfl BM0_blind (fun _ _ _ _ => trivial) rfl hl.1 (rest := []) rfl (Nat.le_of_ble_eq_true rfl) dX5_loudnessWith_8 ⟨Nat.zero_le _, Nat.zero_le _⟩ (fun H locs hW => ?_)
  refine lv_aload_n hx hb dX5_loudnessWith_11 rfl (lv_at hl 0 rfl) ?_
  refine rg (T := TX5) (N := 6) CX hE (hW.hP 0 rfl) in_X5_loudnessWith_X5 0 rfl rfl 1 (by decide) fl_X5_loudnessWith_16 rfl rfl dX5_loudnessWith_12 ?_
  refine rg (T := TX4) (N := 8) CX hE (hW.hP 2 rfl) in_X5_loudnessWith_X4 0 rfl rfl 5 (by decide) fl_X5_loudnessWith_63 rfl rfl dX5_loudnessWith_15 ?_
  refine rg (T := TX0) (N := 5) CX hE (hW.hP 2 rfl) in_X5_loudnessWith_X0 6 rfl rfl 3 (by decide) fl_X5_loudnessWith_166 rfl rfl dX5_loudnessWith_18 ?_
  refine lv_iload_n hx hb dX5_loudnessWith_21 rfl (lv_at hl 1 rfl) ?_
  refine lv_iload_n hx hb dX5_loudnessWith_22 rfl (lv_at hl 2 rfl) ?_
  refine rn_iastS (w' := [(b 0, .inr (4, [.ref (b 1), .ref (b 2), .ref (b 3), .ref (b 4), .ref (b 5), .ref (b 6), .ref (b 11), .int (nI (T.2 4 0))])), (b 1, .inl (cA 0, 4, .inl (T.1 0))), (b 2, .inl (cA 0, 60, .inl (T.1 1))), (b 3, .inl (cA 0, 60, .inl (T.1 2))), (b 4, .inl (cA 0, 60, .inl (T.1 3))), (b 5, .inl (cA 0, 60, .inl (T.1 4))), (b 6, .inr (0, [.ref (b 7), .ref (b 8), .ref (b 9), .ref (b 10), .int (nI (T.2 4 1))])), (b 7, .inl (cA 0, 5, .inl (fun k => nI ((T.2 0) k)))), (b 8, .inl (cA 0, 5, .inl (fun k => nI ((T.2 1) k)))), (b 9, .inl (cA 0, 5, .inl (T.1 5))), (b 10, .inl (cA 0, 5, .inl (upd (T.1 6) d (nI s)))), (b 11, .inr (3, [.ref (b 12), .ref (b 13), .ref (b 14), .int (nI (T.2 4 2))])), (b 12, .inl (cA 0, 3, .inl (fun k => nI ((T.2 2) k)))), (b 13, .inl (cA 0, 3, .inl (fun k => nI ((T.2 3) k)))), (b 14, .inl (cA 4, 3, .inr (.inr (.inr (.inr (row3 (b 15) (b 16) (b 17))))))), (b 15, .inl (cA 0, 24, .inl (T.1 7))), (b 16, .inl (cA 0, 24, .inl (T.1 8))), (b 17, .inl (cA 0, 24, .inl (T.1 9)))]) (segs' := [[(x 0, .inr (5, [.ref (a 0), .ref (b 0), .ref (x 3), .ref (x 1), .ref (x 2), .ref (x 5)]))], tkW cA a T, [(b 0, .inr (4, [.ref (b 1), .ref (b 2), .ref (b 3), .ref (b 4), .ref (b 5), .ref (b 6), .ref (b 11), .int (nI (T.2 4 0))])), (b 1, .inl (cA 0, 4, .inl (T.1 0))), (b 2, .inl (cA 0, 60, .inl (T.1 1))), (b 3, .inl (cA 0, 60, .inl (T.1 2))), (b 4, .inl (cA 0, 60, .inl (T.1 3))), (b 5, .inl (cA 0, 60, .inl (T.1 4))), (b 6, .inr (0, [.ref (b 7), .ref (b 8), .ref (b 9), .ref (b 10), .int (nI (T.2 4 1))])), (b 7, .inl (cA 0, 5, .inl (fun k => nI ((T.2 0) k)))), (b 8, .inl (cA 0, 5, .inl (fun k => nI ((T.2 1) k)))), (b 9, .inl (cA 0, 5, .inl (T.1 5))), (b 10, .inl (cA 0, 5, .inl (upd (T.1 6) d (nI s)))), (b 11, .inr (3, [.ref (b 12), .ref (b 13), .ref (b 14), .int (nI (T.2 4 2))])), (b 12, .inl (cA 0, 3, .inl (fun k => nI ((T.2 2) k)))), (b 13, .inl (cA 0, 3, .inl (fun k => nI ((T.2 3) k)))), (b 14, .inl (cA 4, 3, .inr (.inr (.inr (.inr (row3 (b 15) (b 16) (b 17))))))), (b 15, .inl (cA 0, 24, .inl (T.1 7))), (b 16, .inl (cA 0, 24, .inl (T.1 8))), (b 17, .inl (cA 0, 24, .inl (T.1 9)))]]) CX hE hW 2 rfl 10 rfl (j := d) (by omega) (ltb rfl) rfl rfl dX5_loudnessWith_23 (fun H locs hW => ?_)
  have hW : wldS G A_ [[(x 0, .inr (5, [.ref (a 0), .ref (b 0), .ref (x 3), .ref (x 1), .ref (x 2), .ref (x 5)]))], tkW cA a T, tkW cA b (shT T d s)] s_.heap H locs := hW
  refine lv_aload_n hx hb dX5_loudnessWith_24 rfl (lv_at hl 0 rfl) ?_
  refine rg (T := TX5) (N := 6) CX hE (hW.hP 0 rfl) in_X5_loudnessWith_X5 0 rfl rfl 1 (by decide) fl_X5_loudnessWith_16 rfl rfl dX5_loudnessWith_25 ?_
  refine lv_iload hx hb dX5_loudnessWith_28 (lv_at hl 4 rfl) ?_
  refine muvVP (w' := tkW cA (runA b n) (runT (shT T d s) n)) (segs' := [[(x 0, .inr (5, [.ref (a 0), .ref (b 0), .ref (x 3), .ref (x 1), .ref (x 2), .ref (x 5)]))], tkW cA a T, tkW cA (runA b n) (runT (shT T d s) n)]) CX hE hW hA (c_X4_run l G cA b (shT T d s) n (okT.sh hok d s) (by omega)) (cwV 1 hts gX5_loudnessWith_X4_run rfl rfl rfl hdv_X4_run ⟨Nat.le_of_ble_eq_true rfl, Nat.le_of_ble_eq_true rfl⟩) 2 rfl [0, 1, 2, 3, 4, 5, 6, 7, 8, 9, 10, 11, 12, 13, 14, 15, 16, 17] (by decide) rfl rfl rfl rfl 0 rfl rfl rfl BM0_blind (fun _ _ _ _ => trivial) rfl hl.1 (rest := []) rfl (Nat.le_of_ble_eq_true rfl) dX5_loudnessWith_30 ⟨Nat.zero_le _, Nat.zero_le _⟩ (fun H locs hW => ?_)
  have hW : wldS G A_ [[(x 0, .inr (5, [.ref (a 0), .ref ((runA b n) 0), .ref (x 3), .ref (x 1), .ref (x 2), .ref (x 5)]))], tkW cA a T, tkW cA (runA b n) (runT (shT T d s) n)] s_.heap H locs := hW
  refine lv_aload_n hx hb dX5_loudnessWith_33 rfl (lv_at hl 0 rfl) ?_
  refine rg (T := TX5) (N := 6) CX hE (hW.hP 0 rfl) in_X5_loudnessWith_X5 0 rfl rfl 1 (by decide) fl_X5_loudnessWith_16 rfl rfl dX5_loudnessWith_34 ?_
  refine lv_iload_n hx hb dX5_loudnessWith_37 rfl (lv_at hl 3 rfl) ?_
  refine roVg CX hE ((hW.hP 2 rfl).sub [0, 3] rfl) (c_X4_loudnessOf l G cA (runA b n) ((runT (shT T d s) n).2 4 0) ((runT (shT T d s) n).1 2) c (by omega)) (cwV 1 hts gX5_loudnessWith_X4_loudnessOf rfl rfl rfl hdv_X4_loudnessOf ⟨Nat.le_of_ble_eq_true rfl, Nat.le_of_ble_eq_true rfl⟩) (hW.hP 2 rfl) 0 rfl rfl rfl B0_blind (fun _ _ _ => trivial) rfl hl.1 (rest := []) rfl (Nat.le_of_ble_eq_true rfl) dX5_loudnessWith_38 ⟨Nat.zero_le _, Nat.zero_le _⟩ ?_
  exact mu_reti CX hr hlk rfl rfl hW.flat dX5_loudnessWith_41
theorem hdv_X5_loudnessWith : yX5_loudnessWith.cls = RX5 ∧ yX5_loudnessWith.cls ≠ "java/lang/invoke/MethodHandle" ∧ yX5_loudnessWith.cls ≠ "java/lang/invoke/VarHandle" ∧ (parseMethodDescriptor yX5_loudnessWith.desc).map (fun d => d.parameters.length) = some 4 := by decide +kernel
theorem fl_X5_hush_12 : Cond.fieldLink RX5 12 RX5 (TX5 0).2.1 (TX5 0).2.2.1 ∈ wsX5_hush := by decide +kernel
theorem in_X5_hush_X5 : ∀ w ∈ wsX50, w ∈ wsX5_hush := by decide +kernel
theorem fl_X5_hush_63 : Cond.fieldLink RX5 63 RX4 (TX4 5).2.1 (TX4 5).2.2.1 ∈ wsX5_hush := by decide +kernel
theorem in_X5_hush_X4 : ∀ w ∈ wsX40, w ∈ wsX5_hush := by decide +kernel
theorem fl_X5_hush_160 : Cond.fieldLink RX5 160 RX0 (TX0 1).2.1 (TX0 1).2.2.1 ∈ wsX5_hush := by decide +kernel
theorem in_X5_hush_X0 : ∀ w ∈ wsX00, w ∈ wsX5_hush := by decide +kernel
set_option maxHeartbeats 8000000 in
set_option maxRecDepth 100000 in
theorem c_X5_hush_k (l : Launch) (G : va_G) (cA : Nat → ClassId) (x : Nat → Nat) (a : Nat → Nat) (b : Nat → Nat) (T : TV) (S : TV) (d : Nat) (kx : Nat) (ky : Nat) (n : Nat) (w : Int32) (hok : okT T) (hd : d < T.2 4 1) (hkx : kx < 10) (hky : ky < 6) (hn1 : 1 ≤ n) (hn : n ≤ 30) (hw : inP w (nI 0) (nI 1)) (hpe : 1 ≤ T.2 1 d) : MUi l yX5_hush wsX5_hush ({ frames := 6, cells := 0, slots := 0, locals := 154 }) G cA BM0 (([[(x 0, .inr (5, [.ref (a 0), .ref (b 0), .ref (x 3), .ref (x 1), .ref (x 2), .ref (x 5)]))], tkW cA a T, tkW cA b S] : List va_W).flatten) [.ref (x 0), .int (nI d), .int (nI kx), .int (nI ky), .int (nI n), .int w] (([[(x 0, .inr (5, [.ref (a 0), .ref ((hushA b n (T.2 1 d - 1)) 0), .ref (x 3), .ref (x 1), .ref (x 2), .ref (x 5)]))], tkW cA a T, tkW cA (hushA b n (T.2 1 d - 1)) (runT (shT T d (T.2 1 d - 1)) n)] : List va_W).flatten) (if w = nI 0 then (hushQ T d (ky * 10 + kx) n (T.2 1 d - 1)).1 else (hushQ T d (ky * 10 + kx) n (T.2 1 d - 1)).2) := by
  refine MUi.mk (own := RX5) (by decide) rfl rfl (Nat.le_of_ble_eq_true rfl) (fun p_ e_ s_ m_ below meth c_ ls A_ CX hr hlk hW hA hE hB hl => ?_)
  obtain ⟨hx, hb, hml, hown, hts⟩ := id CX
  have hl : lv_has ls 11 [(0, .ref (x 0)), (1, .int (nI d)), (2, .int (nI kx)), (3, .int (nI ky)), (4, .int (nI n)), (5, .int w)] := hl
  have hW : wldS G A_ [[(x 0, .inr (5, [.ref (a 0), .ref (b 0), .ref (x 3), .ref (x 1), .ref (x 2), .ref (x 5)]))], tkW cA a T, tkW cA b S] s_.heap s_.heap [] := wldS.of hW
  have hdc := hok.1.2
  have hnd := hok.1.1
  have hnp := hok.2.1
  have hpc := hok.2.2
  have hd5 : d < 5 := by omega
  have hp40 := (hdc d hd).2
  refine lv_aload_n hx hb dX5_hush_0 rfl (lv_at hl 0 rfl) ?_
  refine lv_iload_n hx hb dX5_hush_1 rfl (lv_at hl 1 rfl) ?_
  refine roVg CX hE (va_P_segs (fun _ _ h => hW.hP _ h) [0, 1] rfl) (c_X5_isDipper l G cA x a b T (nI d) (by assumption)) (cwV 1 hts gX5_hush_X5_isDipper rfl rfl rfl hdv_X5_isDipper ⟨Nat.le_of_ble_eq_true rfl, Nat.le_of_ble_eq_true rfl⟩) (hW.hP 0 rfl) 0 rfl rfl rfl B0_blind (fun _ _ _ => trivial) rfl hl.1 (rest := []) rfl (Nat.le_of_ble_eq_true rfl) dX5_hush_2 ⟨Nat.zero_le _, Nat.zero_le _⟩ ?_
  refine rb_if_eq hx hb dX5_hush_5 (by decide) (tgt := 16) (fun c_5 => ?_) (fun c_5 => ?_)
  · exact absurd (inD_of hd (by omega)) c_5
  · refine lv_iload_n hx hb dX5_hush_8 rfl (lv_at hl 2 rfl) ?_
    refine lv_iload_n hx hb dX5_hush_9 rfl (lv_at hl 3 rfl) ?_
    refine roS CX hE va_P_nil (c_X5_isCell l G cA (nI kx) (nI ky) ) (va_cwS 2 hts gX5_hush_X5_isCell rfl rfl rfl hdn_X5_isCell ⟨Nat.le_of_ble_eq_true rfl, Nat.le_of_ble_eq_true rfl⟩) [] rfl B0_blind (fun _ _ _ => trivial) rfl hl.1 (rest := []) rfl (Nat.le_of_ble_eq_true rfl) dX5_hush_10 ⟨Nat.zero_le _, Nat.zero_le _⟩ ?_
    refine rb_if_ne hx hb dX5_hush_13 (by decide) (tgt := 18) (fun c_13 => ?_) (fun c_13 => ?_)
    · refine lv_iload hx hb dX5_hush_18 (lv_at hl 4 rfl) ?_
      refine rn_iconst hx hb 1 rfl dX5_hush_20 ?_
      refine lv_bipush (v := (nI 30)) hx hb dX5_hush_21 kb_30 ?_
      refine roS CX hE va_P_nil (c_X5_isIn l G cA (nI n) (nI 1) (nI 30) ) (va_cwS 3 hts gX5_hush_X5_isIn rfl rfl rfl hdn_X5_isIn ⟨Nat.le_of_ble_eq_true rfl, Nat.le_of_ble_eq_true rfl⟩) [] rfl B0_blind (fun _ _ _ => trivial) rfl hl.1 (rest := []) rfl (Nat.le_of_ble_eq_true rfl) dX5_hush_23 ⟨Nat.zero_le _, Nat.zero_le _⟩ ?_
      refine rb_if_eq hx hb dX5_hush_26 (by decide) (tgt := 39) (fun c_26 => ?_) (fun c_26 => ?_)
      · exact absurd (inP_nI hn1 hn (by decide)) c_26
      · refine lv_iload hx hb dX5_hush_29 (lv_at hl 5 rfl) ?_
        refine rn_iconst hx hb 0 rfl dX5_hush_31 ?_
        refine rn_iconst hx hb 1 rfl dX5_hush_32 ?_
        refine roS CX hE va_P_nil (c_X5_isIn l G cA w (nI 0) (nI 1) ) (va_cwS 3 hts gX5_hush_X5_isIn rfl rfl rfl hdn_X5_isIn ⟨Nat.le_of_ble_eq_true rfl, Nat.le_of_ble_eq_true rfl⟩) [] rfl B0_blind (fun _ _ _ => trivial) rfl hl.1 (rest := []) rfl (Nat.le_of_ble_eq_true rfl) dX5_hush_33 ⟨Nat.zero_le _, Nat.zero_le _⟩ ?_
        refine rb_if_ne hx hb dX5_hush_36 (by decide) (tgt := 42) (fun c_36 => ?_) (fun c_36 => ?_)
        · refine lv_iload_n hx hb dX5_hush_42 rfl (lv_at hl 2 rfl) ?_
          refine lv_iload_n hx hb dX5_hush_43 rfl (lv_at hl 3 rfl) ?_
          refine roS CX hE va_P_nil (c_X5_placeOf l G cA kx ky ) (va_cwS 2 hts gX5_hush_X5_placeOf rfl rfl rfl hdn_X5_placeOf ⟨Nat.le_of_ble_eq_true rfl, Nat.le_of_ble_eq_true rfl⟩) [] rfl B0_blind (fun _ _ _ => trivial) rfl hl.1 (rest := []) rfl (Nat.le_of_ble_eq_true rfl) dX5_hush_44 ⟨Nat.zero_le _, Nat.zero_le _⟩ ?_
          refine lv_istore (lv' := [(6, .int (nI (ky * 10 + kx))), (0, .ref (x 0)), (1, .int (nI d)), (2, .int (nI kx)), (3, .int (nI ky)), (4, .int (nI n)), (5, .int w)]) hx hb dX5_hush_47 hl (by decide) rfl (fun ls hl => ?_)
          refine rn_iconst hx hb 0 rfl dX5_hush_49 ?_
          refine lv_istore (lv' := [(7, .int (nI 0)), (6, .int (nI (ky * 10 + kx))), (0, .ref (x 0)), (1, .int (nI d)), (2, .int (nI kx)), (3, .int (nI ky)), (4, .int (nI n)), (5, .int w)]) hx hb dX5_hush_50 hl (by decide) rfl (fun ls hl => ?_)
          refine lv_aload_n hx hb dX5_hush_52 rfl (lv_at hl 2 rfl) ?_
          refine lv_iload_n hx hb dX5_hush_53 rfl (lv_at hl 3 rfl) ?_
          refine rn_iconst hx hb 0 rfl dX5_hush_54 ?_
          refine lv_iload hx hb dX5_hush_55 (lv_at hl 1 rfl) ?_
          refine lv_iload hx hb dX5_hush_57 (lv_at hl 6 rfl) ?_
          refine muiVS (segs' := [[(x 0, .inr (5, [.ref (a 0), .ref ((runA b n) 0), .ref (x 3), .ref (x 1), .ref (x 2), .ref (x 5)]))], tkW cA a T, tkW cA (runA b n) (runT (shT T d 0) n)]) CX hE hW hA (c_X5_loudnessWith l G cA x a b T S d 0 (ky * 10 + kx) n (by assumption) hd5 (by omega) hn) (cwV 4 hts gX5_hush_X5_loudnessWith rfl rfl rfl hdv_X5_loudnessWith ⟨Nat.le_of_ble_eq_true rfl, Nat.le_of_ble_eq_true rfl⟩) [0, 1, 2] (by decide) rfl rfl rfl (hW.hP 0 rfl) 0 rfl rfl rfl BM0_blind (fun _ _ _ _ => trivial) rfl hl.1 (rest := []) rfl (Nat.le_of_ble_eq_true rfl) dX5_hush_59 ⟨Nat.zero_le _, Nat.zero_le _⟩ (fun H locs hW => ?_)
          refine lv_istore (lv' := [(8, .int (hushL T d (ky * 10 + kx) n 0)), (7, .int (nI 0)), (6, .int (nI (ky * 10 + kx))), (0, .ref (x 0)), (1, .int (nI d)), (2, .int (nI kx)), (3, .int (nI ky)), (4, .int (nI n)), (5, .int w)]) hx hb dX5_hush_62 hl (by decide) rfl (fun ls hl => ?_)
          refine rn_iconst hx hb 1 rfl dX5_hush_64 ?_
          refine lv_istore (lv' := [(9, .int (nI 1)), (8, .int (hushL T d (ky * 10 + kx) n 0)), (7, .int (nI 0)), (6, .int (nI (ky * 10 + kx))), (0, .ref (x 0)), (1, .int (nI d)), (2, .int (nI kx)), (3, .int (nI ky)), (4, .int (nI n)), (5, .int w)]) hx hb dX5_hush_65 hl (by decide) rfl (fun ls hl => ?_)
          have LP_67 : ∀ (nn_ : Nat) (s : Nat) (bst : Int32) (lst : Int32) (bb : Nat → Nat) (SS : TV), (T.2 1 d - s) < nn_ → (1 ≤ s) → (s ≤ T.2 1 d) → (bst = (hushQ T d (ky * 10 + kx) n (s - 1)).1) → (lst = (hushQ T d (ky * 10 + kx) n (s - 1)).2) → (bb = hushA b n (s - 1)) → (SS = runT (shT T d (s - 1)) n) → ∀ (H : Heap) (locs : List Loc) (ls : Array Slot), wldS G A_ [[(x 0, .inr (5, [.ref (a 0), .ref (bb 0), .ref (x 3), .ref (x 1), .ref (x 2), .ref (x 5)]))], tkW cA a T, tkW cA bb SS] s_.heap H locs → lv_has ls 11 [(0, .ref (x 0)), (1, .int (nI d)), (2, .int (nI kx)), (3, .int (nI ky)), (4, .int (nI n)), (5, .int w), (6, .int (nI (ky * 10 + kx))), (7, .int bst), (8, .int lst), (9, .int (nI s))] → W p_ l e_ ({ frames := 6, cells := 0, slots := 0, locals := 154 } : Room) s_ m_ ([.ref (x 0), .int (nI d), .int (nI kx), .int (nI ky), .int (nI n), .int w] : List Value).toArray below meth c_ H locs 0 0 (MQ below (va_Qi (fun r_ (_ : Unit) => r_ = (if w = nI 0 then (hushQ T d (ky * 10 + kx) n (T.2 1 d - 1)).1 else (hushQ T d (ky * 10 + kx) n (T.2 1 d - 1)).2)) (fun _ t_ => va_P G vwCl (([[(x 0, .inr (5, [.ref (a 0), .ref ((hushA b n (T.2 1 d - 1)) 0), .ref (x 3), .ref (x 1), .ref (x 2), .ref (x 5)]))], tkW cA a T, tkW cA (hushA b n (T.2 1 d - 1)) (runT (shT T d (T.2 1 d - 1)) n)] : List va_W).flatten) t_.heap ∧ va_D A_ (([[(x 0, .inr (5, [.ref (a 0), .ref ((hushA b n (T.2 1 d - 1)) 0), .ref (x 3), .ref (x 1), .ref (x 2), .ref (x 5)]))], tkW cA a T, tkW cA (hushA b n (T.2 1 d - 1)) (runT (shT T d (T.2 1 d - 1)) n)] : List va_W).flatten)) A_) ([.ref (x 0), .int (nI d), .int (nI kx), .int (nI ky), .int (nI n), .int w] : List Value).toArray s_ 0 0 A_) (F0 m_ 67 ls []) := by
            intro nn_
            induction nn_ with
            | zero => intro s bst lst bb SS hmu; exact absurd hmu (Nat.not_lt_zero _)
            | succ nn_ ih =>
              have ih_67 := ih
              clear ih
              intro s bst lst bb SS hmu_67 hs1 hs hbst hlst hbb hSS H locs ls hW hl
              refine lv_iload hx hb dX5_hush_67 (lv_at hl 9 rfl) ?_
              refine lv_aload_n hx hb dX5_hush_69 rfl (lv_at hl 0 rfl) ?_
              refine rg (T := TX5) (N := 6) CX hE (hW.hP 0 rfl) in_X5_hush_X5 0 rfl rfl 0 (by decide) fl_X5_hush_12 rfl rfl dX5_hush_70 ?_
              refine rg (T := TX4) (N := 8) CX hE (hW.hP 1 rfl) in_X5_hush_X4 0 rfl rfl 5 (by decide) fl_X5_hush_63 rfl rfl dX5_hush_73 ?_
              refine rg (T := TX0) (N := 5) CX hE (hW.hP 1 rfl) in_X5_hush_X0 6 rfl rfl 1 (by decide) fl_X5_hush_160 rfl rfl dX5_hush_76 ?_
              refine lv_iload_n hx hb dX5_hush_79 rfl (lv_at hl 1 rfl) ?_
              refine rn_iald CX hE (hW.hP 1 rfl) 8 rfl (j := d) (by omega) (ltb rfl) dX5_hush_80 ?_
              refine rn_icmp_ge hx hb (by omega) (by omega) dX5_hush_81 (by decide) (tgt := 118) (fun c_81 => ?_) (fun c_81 => ?_)
              · have es : s = T.2 1 d := by omega
                rw [es] at hbst hlst hbb hSS
                have hW : wldS G A_ [[(x 0, .inr (5, [.ref (a 0), .ref ((hushA b n (T.2 1 d - 1)) 0), .ref (x 3), .ref (x 1), .ref (x 2), .ref (x 5)]))], tkW cA a T, tkW cA (hushA b n (T.2 1 d - 1)) (runT (shT T d (T.2 1 d - 1)) n)] s_.heap H locs := by rw [← hbb, ← hSS]; exact hW
                refine lv_iload hx hb dX5_hush_118 (lv_at hl 5 rfl) ?_
                refine lv_if_ne hx hb dX5_hush_120 (by decide) (tgt := 128) (fun c_120 => ?_) (fun c_120 => ?_)
                · refine lv_iload hx hb dX5_hush_128 (lv_at hl 8 rfl) ?_
                  exact mu_reti CX hr hlk (by first | (rw [if_pos (show w = nI 0 from c_120)]; exact hbst) | (rw [if_neg (show ¬ w = nI 0 from c_120)]; exact hlst)) rfl hW.flat dX5_hush_130
                · refine lv_iload hx hb dX5_hush_123 (lv_at hl 7 rfl) ?_
                  refine lv_goto (tgt := 130) hx hb dX5_hush_125 (by decide) ?_
                  exact mu_reti CX hr hlk (by first | (rw [if_pos (show w = nI 0 from c_120)]; exact hbst) | (rw [if_neg (show ¬ w = nI 0 from c_120)]; exact hlst)) rfl hW.flat dX5_hush_130
              · refine lv_aload_n hx hb dX5_hush_84 rfl (lv_at hl 0 rfl) ?_
                refine lv_iload_n hx hb dX5_hush_85 rfl (lv_at hl 1 rfl) ?_
                refine lv_iload hx hb dX5_hush_86 (lv_at hl 9 rfl) ?_
                refine lv_iload hx hb dX5_hush_88 (lv_at hl 6 rfl) ?_
                refine lv_iload hx hb dX5_hush_90 (lv_at hl 4 rfl) ?_
                refine muiVS (segs' := [[(x 0, .inr (5, [.ref (a 0), .ref ((runA bb n) 0), .ref (x 3), .ref (x 1), .ref (x 2), .ref (x 5)]))], tkW cA a T, tkW cA (runA bb n) (runT (shT T d s) n)]) CX hE hW hA (c_X5_loudnessWith l G cA x a bb T SS d s (ky * 10 + kx) n (by assumption) hd5 (by omega) hn) (cwV 4 hts gX5_hush_X5_loudnessWith rfl rfl rfl hdv_X5_loudnessWith ⟨Nat.le_of_ble_eq_true rfl, Nat.le_of_ble_eq_true rfl⟩) [0, 1, 2] (by decide) rfl rfl rfl (hW.hP 0 rfl) 0 rfl rfl rfl BM0_blind (fun _ _ _ _ => trivial) rfl hl.1 (rest := []) rfl (Nat.le_of_ble_eq_true rfl) dX5_hush_92 ⟨Nat.zero_le _, Nat.zero_le _⟩ (fun H locs hW => ?_)
                refine lv_istore (lv' := [(10, .int (hushL T d (ky * 10 + kx) n s)), (0, .ref (x 0)), (1, .int (nI d)), (2, .int (nI kx)), (3, .int (nI ky)), (4, .int (nI n)), (5, .int w), (6, .int (nI (ky * 10 + kx))), (7, .int bst), (8, .int lst), (9, .int (nI s))]) hx hb dX5_hush_95 hl (by decide) rfl (fun ls hl => ?_)
                refine lv_iload hx hb dX5_hush_97 (lv_at hl 0 rfl) ?_
                refine lv_iload hx hb dX5_hush_99 (lv_at hl 9 rfl) ?_
                refine lv_icmp_ge hx hb dX5_hush_101 (by decide) (tgt := 112) (fun c_101 => ?_) (fun c_101 => ?_)
                · refine rn_iinc hx hb (n := 1) (lv' := [(9, .int (nI (s + 1))), (10, .int (hushL T d (ky * 10 + kx) n s)), (0, .ref (x 0)), (1, .int (nI d)), (2, .int (nI kx)), (3, .int (nI ky)), (4, .int (nI n)), (5, .int w), (6, .int (nI (ky * 10 + kx))), (7, .int bst), (8, .int lst)]) rfl dX5_hush_112 hl (k := 10) rfl (by decide) rfl (fun ls hl => ?_)
                  refine lv_goto (tgt := 67) hx hb dX5_hush_115 (by decide) ?_
                  exact ih_67 (s + 1) bst lst (runA bb n) (runT (shT T d s) n) (by omega) (by omega) (by omega) (by rw [Nat.add_sub_cancel]; first | (rw [← hushQ_keep hs1 (by rw [← hlst]; exact c_101)]; exact hbst) | rw [← hushQ_take hs1 (by rw [← hlst]; exact Int32.not_le.mp c_101)]) (by rw [Nat.add_sub_cancel]; first | (rw [← hushQ_keep hs1 (by rw [← hlst]; exact c_101)]; exact hlst) | rw [← hushQ_take hs1 (by rw [← hlst]; exact Int32.not_le.mp c_101)]) (by rw [Nat.add_sub_cancel, hbb]; exact hushA_next hs1) (by rw [Nat.add_sub_cancel]) _ _ ls hW (lv_sub hl [2, 3, 4, 5, 6, 7, 8, 9, 10, 0] rfl)
                · refine lv_iload hx hb dX5_hush_104 (lv_at hl 10 rfl) ?_
                  refine lv_istore (lv' := [(7, .int (nI s)), (10, .int (hushL T d (ky * 10 + kx) n s)), (0, .ref (x 0)), (1, .int (nI d)), (2, .int (nI kx)), (3, .int (nI ky)), (4, .int (nI n)), (5, .int w), (6, .int (nI (ky * 10 + kx))), (8, .int lst), (9, .int (nI s))]) hx hb dX5_hush_106 hl (by decide) rfl (fun ls hl => ?_)
                  refine lv_iload hx hb dX5_hush_108 (lv_at hl 1 rfl) ?_
                  refine lv_istore (lv' := [(8, .int (hushL T d (ky * 10 + kx) n s)), (7, .int (nI s)), (10, .int (hushL T d (ky * 10 + kx) n s)), (0, .ref (x 0)), (1, .int (nI d)), (2, .int (nI kx)), (3, .int (nI ky)), (4, .int (nI n)), (5, .int w), (6, .int (nI (ky * 10 + kx))), (9, .int (nI s))]) hx hb dX5_hush_110 hl (by decide) rfl (fun ls hl => ?_)
                  refine rn_iinc hx hb (n := 1) (lv' := [(9, .int (nI (s + 1))), (8, .int (hushL T d (ky * 10 + kx) n s)), (7, .int (nI s)), (10, .int (hushL T d (ky * 10 + kx) n s)), (0, .ref (x 0)), (1, .int (nI d)), (2, .int (nI kx)), (3, .int (nI ky)), (4, .int (nI n)), (5, .int w), (6, .int (nI (ky * 10 + kx)))]) rfl dX5_hush_112 hl (k := 10) rfl (by decide) rfl (fun ls hl => ?_)
                  refine lv_goto (tgt := 67) hx hb dX5_hush_115 (by decide) ?_
                  exact ih_67 (s + 1) (nI s) (hushL T d (ky * 10 + kx) n s) (runA bb n) (runT (shT T d s) n) (by omega) (by omega) (by omega) (by rw [Nat.add_sub_cancel]; first | (rw [← hushQ_keep hs1 (by rw [← hlst]; exact c_101)]; exact hbst) | rw [← hushQ_take hs1 (by rw [← hlst]; exact Int32.not_le.mp c_101)]) (by rw [Nat.add_sub_cancel]; first | (rw [← hushQ_keep hs1 (by rw [← hlst]; exact c_101)]; exact hlst) | rw [← hushQ_take hs1 (by rw [← hlst]; exact Int32.not_le.mp c_101)]) (by rw [Nat.add_sub_cancel, hbb]; exact hushA_next hs1) (by rw [Nat.add_sub_cancel]) _ _ ls hW (lv_sub hl [4, 5, 6, 7, 8, 9, 10, 2, 1, 0] rfl)
          exact LP_67 _ 1 (nI 0) (hushL T d (ky * 10 + kx) n 0) (runA b n) (runT (shT T d 0) n) (Nat.lt_succ_self _) (by omega) (by omega) rfl rfl rfl rfl _ _ ls hW (lv_sub hl [4, 5, 6, 7, 8, 9, 3, 2, 1, 0] rfl)
        · exact absurd hw c_36
    · exact absurd (cellP_of hkx hky) c_13
set_option maxHeartbeats 4000000 in
set_option maxRecDepth 100000 in
theorem c_X5_hush_e (l : Launch) (G : va_G) (cA : Nat → ClassId) (x : Nat → Nat) (a : Nat → Nat) (b : Nat → Nat) (T : TV) (d : Int32) (x_ : Int32) (y : Int32) (n : Int32) (w : Int32) (hok : okT T) (hbad : 0 ≤ d ∧ d < nI (T.2 4 1) → cellP x_ y → inP n (nI 1) (nI 30) → ¬ inP w (nI 0) (nI 1)) : RO l yX5_hush wsX5_hush ({ frames := 2, cells := 0, slots := 0, locals := 43 }) G cA B0 (([[(x 0, .inr (5, [.ref (a 0), .ref (b 0), .ref (x 3), .ref (x 1), .ref (x 2), .ref (x 5)]))], tkW cA a T] : List va_W).flatten) [.ref (x 0), .int d, .int x_, .int y, .int n, .int w] (if 0 ≤ d ∧ d < nI (T.2 4 1) ∧ cellP x_ y then -2 else -1) := by
  refine RO.mk (own := RX5) (by decide) rfl rfl (Nat.le_of_ble_eq_true rfl) (fun p_ e_ s_ m_ below meth c_ ls CX hr hlk hP hE hB hl => ?_)
  obtain ⟨hx, hb, hml, hown, hts⟩ := id CX
  have hl : lv_has ls 11 [(0, .ref (x 0)), (1, .int d), (2, .int x_), (3, .int y), (4, .int n), (5, .int w)] := hl
  have hP : ∀ (k : Nat) (w : va_W), ([[(x 0, .inr (5, [.ref (a 0), .ref (b 0), .ref (x 3), .ref (x 1), .ref (x 2), .ref (x 5)]))], tkW cA a T] : List va_W)[k]? = some w → va_P G vwCl w s_.heap := va_P_seg hP
  refine lv_aload_n hx hb dX5_hush_0 rfl (lv_at hl 0 rfl) ?_
  refine lv_iload_n hx hb dX5_hush_1 rfl (lv_at hl 1 rfl) ?_
  refine roVg CX hE (va_P_segs hP [0, 1] rfl) (c_X5_isDipper l G cA x a b T d (by assumption)) (cwV 1 hts gX5_hush_X5_isDipper rfl rfl rfl hdv_X5_isDipper ⟨Nat.le_of_ble_eq_true rfl, Nat.le_of_ble_eq_true rfl⟩) (hP 0 _ rfl) 0 rfl rfl rfl B0_blind (fun _ _ _ => trivial) rfl hl.1 (rest := []) rfl (Nat.le_of_ble_eq_true rfl) dX5_hush_2 ⟨Nat.zero_le _, Nat.zero_le _⟩ ?_
  refine rb_if_eq hx hb dX5_hush_5 (by decide) (tgt := 16) (fun c_5 => ?_) (fun c_5 => ?_)
  · refine lv_iconst (v := (-1)) hx hb dX5_hush_16 (by decide) ?_
    exact ro_ret CX hr hlk (by first | exact (if_neg (fun q => c_5 ⟨q.1, q.2.1⟩)).symm | exact (if_neg (fun q => c_13 q.2.2)).symm) rfl dX5_hush_17
  · refine lv_iload_n hx hb dX5_hush_8 rfl (lv_at hl 2 rfl) ?_
    refine lv_iload_n hx hb dX5_hush_9 rfl (lv_at hl 3 rfl) ?_
    refine roS CX hE va_P_nil (c_X5_isCell l G cA x_ y ) (va_cwS 2 hts gX5_hush_X5_isCell rfl rfl rfl hdn_X5_isCell ⟨Nat.le_of_ble_eq_true rfl, Nat.le_of_ble_eq_true rfl⟩) [] rfl B0_blind (fun _ _ _ => trivial) rfl hl.1 (rest := []) rfl (Nat.le_of_ble_eq_true rfl) dX5_hush_10 ⟨Nat.zero_le _, Nat.zero_le _⟩ ?_
    refine rb_if_ne hx hb dX5_hush_13 (by decide) (tgt := 18) (fun c_13 => ?_) (fun c_13 => ?_)
    · refine lv_iload hx hb dX5_hush_18 (lv_at hl 4 rfl) ?_
      refine rn_iconst hx hb 1 rfl dX5_hush_20 ?_
      refine lv_bipush (v := (nI 30)) hx hb dX5_hush_21 kb_30 ?_
      refine roS CX hE va_P_nil (c_X5_isIn l G cA n (nI 1) (nI 30) ) (va_cwS 3 hts gX5_hush_X5_isIn rfl rfl rfl hdn_X5_isIn ⟨Nat.le_of_ble_eq_true rfl, Nat.le_of_ble_eq_true rfl⟩) [] rfl B0_blind (fun _ _ _ => trivial) rfl hl.1 (rest := []) rfl (Nat.le_of_ble_eq_true rfl) dX5_hush_23 ⟨Nat.zero_le _, Nat.zero_le _⟩ ?_
      refine rb_if_eq hx hb dX5_hush_26 (by decide) (tgt := 39) (fun c_26 => ?_) (fun c_26 => ?_)
      · refine lv_bipush (v := (-2)) hx hb dX5_hush_39 kb_m2 ?_
        exact ro_ret CX hr hlk ((if_pos ⟨c_5.1, c_5.2, c_13⟩).symm) rfl dX5_hush_41
      · refine lv_iload hx hb dX5_hush_29 (lv_at hl 5 rfl) ?_
        refine rn_iconst hx hb 0 rfl dX5_hush_31 ?_
        refine rn_iconst hx hb 1 rfl dX5_hush_32 ?_
        refine roS CX hE va_P_nil (c_X5_isIn l G cA w (nI 0) (nI 1) ) (va_cwS 3 hts gX5_hush_X5_isIn rfl rfl rfl hdn_X5_isIn ⟨Nat.le_of_ble_eq_true rfl, Nat.le_of_ble_eq_true rfl⟩) [] rfl B0_blind (fun _ _ _ => trivial) rfl hl.1 (rest := []) rfl (Nat.le_of_ble_eq_true rfl) dX5_hush_33 ⟨Nat.zero_le _, Nat.zero_le _⟩ ?_
        refine rb_if_ne hx hb dX5_hush_36 (by decide) (tgt := 42) (fun c_36 => ?_) (fun c_36 => ?_)
        · exact absurd c_36 (hbad c_5 c_13 c_26)
        · refine lv_bipush (v := (-2)) hx hb dX5_hush_39 kb_m2 ?_
          exact ro_ret CX hr hlk ((if_pos ⟨c_5.1, c_5.2, c_13⟩).symm) rfl dX5_hush_41
    · refine lv_iconst (v := (-1)) hx hb dX5_hush_16 (by decide) ?_
      exact ro_ret CX hr hlk (by first | exact (if_neg (fun q => c_5 ⟨q.1, q.2.1⟩)).symm | exact (if_neg (fun q => c_13 q.2.2)).symm) rfl dX5_hush_17
theorem hdn_X2_charactersIn : yX2_charactersIn.cls ≠ "java/lang/invoke/MethodHandle" ∧ yX2_charactersIn.cls ≠ "java/lang/invoke/VarHandle" ∧ (parseMethodDescriptor yX2_charactersIn.desc).map (fun d => d.parameters.length) = some 1 := by decide +kernel
theorem fl_X5_put_37 : Cond.fieldLink RX5 37 RX5 (TX5 5).2.1 (TX5 5).2.2.1 ∈ wsX5_put := by decide +kernel
theorem in_X5_put_X5 : ∀ w ∈ wsX50, w ∈ wsX5_put := by decide +kernel
theorem fl_X5_put_88 : Cond.fieldLink RX5 88 RX2 (TX2 1).2.1 (TX2 1).2.2.1 ∈ wsX5_put := by decide +kernel
theorem in_X5_put_X2 : ∀ w ∈ wsX20, w ∈ wsX5_put := by decide +kernel
theorem hdv_X2_append : yX2_append.cls = RX2 ∧ yX2_append.cls ≠ "java/lang/invoke/MethodHandle" ∧ yX2_append.cls ≠ "java/lang/invoke/VarHandle" ∧ (parseMethodDescriptor yX2_append.desc).map (fun d => d.parameters.length) = some 2 := by decide +kernel
set_option maxHeartbeats 4000000 in
set_option maxRecDepth 100000 in
theorem c_X5_put_k (l : Launch) (G : va_G) (cA : Nat → ClassId) (x : Nat → Nat) (a : Nat → Nat) (b : Nat → Nat) (ty : Nat) (pd : Nat → Int32) (n : Nat) (ct : Nat) (hn64 : n < 2 ^ 64) (hct : chF 8 n 0 = ct) (hct1 : 1 ≤ ct) (hct8 : ct ≤ 8) (htc : ty + ct ≤ 72) : MUi l yX5_put wsX5_put ({ frames := 2, cells := 0, slots := 0, locals := 46 }) G cA BM0 (([[(x 0, .inr (5, [.ref (a 0), .ref (b 0), .ref (x 3), .ref (x 1), .ref (x 2), .ref (x 5)]))], [(x 5, .inr (2, [.ref (x 6), .int (nI ty)])), (x 6, .inl (cA 1, 72, .inl pd))]] : List va_W).flatten) [.ref (x 0), .long (lN n)] (([[(x 0, .inr (5, [.ref (a 0), .ref (b 0), .ref (x 3), .ref (x 1), .ref (x 2), .ref (x 5)]))], [(x 5, .inr (2, [.ref (x 6), .int (nI (ty + ct))])), (x 6, .inl (cA 1, 72, .inl (padF pd n ty ct ct)))]] : List va_W).flatten) (nI (ty + ct)) := by
  refine MUi.mk (own := RX5) (by decide) rfl rfl (Nat.le_of_ble_eq_true rfl) (fun p_ e_ s_ m_ below meth c_ ls A_ CX hr hlk hW hA hE hB hl => ?_)
  obtain ⟨hx, hb, hml, hown, hts⟩ := id CX
  have hl : lv_has ls 4 [(0, .ref (x 0)), (1, .long (lN n))] := hl
  have hW : wldS G A_ [[(x 0, .inr (5, [.ref (a 0), .ref (b 0), .ref (x 3), .ref (x 1), .ref (x 2), .ref (x 5)]))], [(x 5, .inr (2, [.ref (x 6), .int (nI ty)])), (x 6, .inl (cA 1, 72, .inl pd))]] s_.heap s_.heap [] := wldS.of hW
  refine lv_lload_n hx hb dX5_put_0 rfl (lv_at hl 1 rfl) ?_
  refine roS CX hE va_P_nil (c_X2_charactersIn l G cA n (by omega)) (va_cwS 1 hts gX5_put_X2_charactersIn rfl rfl rfl hdn_X2_charactersIn ⟨Nat.le_of_ble_eq_true rfl, Nat.le_of_ble_eq_true rfl⟩) [] rfl B0_blind (fun _ _ _ => trivial) rfl hl.1 (rest := []) rfl (Nat.le_of_ble_eq_true rfl) dX5_put_1 ⟨Nat.zero_le _, Nat.zero_le _⟩ ?_
  refine rn_top (nI ct) (congrArg nI hct) ?_
  refine lv_istore_n (lv' := [(3, .int (nI ct)), (0, .ref (x 0)), (1, .long (lN n))]) hx hb dX5_put_4 rfl hl (by decide) rfl (fun ls hl => ?_)
  refine lv_iload_n hx hb dX5_put_5 rfl (lv_at hl 0 rfl) ?_
  refine rn_if_ne hx hb (by omega) dX5_put_6 (by decide) (tgt := 12) (fun c_6 => ?_) (fun c_6 => ?_)
  · refine lv_aload_n hx hb dX5_put_12 rfl (lv_at hl 1 rfl) ?_
    refine rg (T := TX5) (N := 6) CX hE (hW.hP 0 rfl) in_X5_put_X5 0 rfl rfl 5 (by decide) fl_X5_put_37 rfl rfl dX5_put_13 ?_
    refine rg (T := TX2) (N := 2) CX hE (hW.hP 1 rfl) in_X5_put_X2 0 rfl rfl 1 (by decide) fl_X5_put_88 rfl rfl dX5_put_16 ?_
    refine lv_iload_n hx hb dX5_put_19 rfl (lv_at hl 0 rfl) ?_
    refine rn_iadd hx hb dX5_put_20 ?_
    refine lv_bipush (v := (nI 72)) hx hb dX5_put_21 kb_72 ?_
    refine rn_icmp_le hx hb (by omega) (by omega) dX5_put_23 (by decide) (tgt := 29) (fun c_23 => ?_) (fun c_23 => ?_)
    · refine lv_aload_n hx hb dX5_put_29 rfl (lv_at hl 1 rfl) ?_
      refine rg (T := TX5) (N := 6) CX hE (hW.hP 0 rfl) in_X5_put_X5 0 rfl rfl 5 (by decide) fl_X5_put_37 rfl rfl dX5_put_30 ?_
      refine lv_lload_n hx hb dX5_put_33 rfl (lv_at hl 2 rfl) ?_
      refine lv_iload_n hx hb dX5_put_34 rfl (lv_at hl 0 rfl) ?_
      refine muvVP (w' := [(x 5, .inr (2, [.ref (x 6), .int (nI (ty + ct))])), (x 6, .inl (cA 1, 72, .inl (padF pd n ty ct ct)))]) (segs' := [[(x 0, .inr (5, [.ref (a 0), .ref (b 0), .ref (x 3), .ref (x 1), .ref (x 2), .ref (x 5)]))], [(x 5, .inr (2, [.ref (x 6), .int (nI (ty + ct))])), (x 6, .inl (cA 1, 72, .inl (padF pd n ty ct ct)))]]) CX hE hW hA (c_X2_append l G cA x ty pd n ct (by omega) hct8 (by omega)) (cwV 2 hts gX5_put_X2_append rfl rfl rfl hdv_X2_append ⟨Nat.le_of_ble_eq_true rfl, Nat.le_of_ble_eq_true rfl⟩) 1 rfl [0, 1] (by decide) rfl rfl rfl rfl 0 rfl rfl rfl BM0_blind (fun _ _ _ _ => trivial) rfl hl.1 (rest := []) rfl (Nat.le_of_ble_eq_true rfl) dX5_put_35 ⟨Nat.zero_le _, Nat.zero_le _⟩ (fun H locs hW => ?_)
      refine lv_aload_n hx hb dX5_put_38 rfl (lv_at hl 1 rfl) ?_
      refine rg (T := TX5) (N := 6) CX hE (hW.hP 0 rfl) in_X5_put_X5 0 rfl rfl 5 (by decide) fl_X5_put_37 rfl rfl dX5_put_39 ?_
      refine rg (T := TX2) (N := 2) CX hE (hW.hP 1 rfl) in_X5_put_X2 0 rfl rfl 1 (by decide) fl_X5_put_88 rfl rfl dX5_put_42 ?_
      exact mu_reti CX hr hlk rfl rfl hW.flat dX5_put_45
    · exact absurd htc (by omega)
  · exact absurd c_6 (by omega)
set_option maxHeartbeats 4000000 in
set_option maxRecDepth 100000 in
theorem c_X5_put_e (l : Launch) (G : va_G) (cA : Nat → ClassId) (x : Nat → Nat) (a : Nat → Nat) (b : Nat → Nat) (ty : Nat) (pd : Nat → Int32) (n : Nat) (hn64 : n < 2 ^ 64) (hty : ty ≤ 72) (hc8 : chF 8 n 0 ≤ 8) (hbad : chF 8 n 0 = 0 ∨ 72 < ty + chF 8 n 0) : RO l yX5_put wsX5_put ({ frames := 2, cells := 0, slots := 0, locals := 46 }) G cA B0 (([[(x 0, .inr (5, [.ref (a 0), .ref (b 0), .ref (x 3), .ref (x 1), .ref (x 2), .ref (x 5)]))], [(x 5, .inr (2, [.ref (x 6), .int (nI ty)])), (x 6, .inl (cA 1, 72, .inl pd))]] : List va_W).flatten) [.ref (x 0), .long (lN n)] (if chF 8 n 0 = 0 then -2 else -4) := by
  refine RO.mk (own := RX5) (by decide) rfl rfl (Nat.le_of_ble_eq_true rfl) (fun p_ e_ s_ m_ below meth c_ ls CX hr hlk hP hE hB hl => ?_)
  obtain ⟨hx, hb, hml, hown, hts⟩ := id CX
  have hl : lv_has ls 4 [(0, .ref (x 0)), (1, .long (lN n))] := hl
  have hP : ∀ (k : Nat) (w : va_W), ([[(x 0, .inr (5, [.ref (a 0), .ref (b 0), .ref (x 3), .ref (x 1), .ref (x 2), .ref (x 5)]))], [(x 5, .inr (2, [.ref (x 6), .int (nI ty)])), (x 6, .inl (cA 1, 72, .inl pd))]] : List va_W)[k]? = some w → va_P G vwCl w s_.heap := va_P_seg hP
  refine lv_lload_n hx hb dX5_put_0 rfl (lv_at hl 1 rfl) ?_
  refine roS CX hE va_P_nil (c_X2_charactersIn l G cA n (by omega)) (va_cwS 1 hts gX5_put_X2_charactersIn rfl rfl rfl hdn_X2_charactersIn ⟨Nat.le_of_ble_eq_true rfl, Nat.le_of_ble_eq_true rfl⟩) [] rfl B0_blind (fun _ _ _ => trivial) rfl hl.1 (rest := []) rfl (Nat.le_of_ble_eq_true rfl) dX5_put_1 ⟨Nat.zero_le _, Nat.zero_le _⟩ ?_
  refine lv_istore_n (lv' := [(3, .int (nI (chF 8 n 0))), (0, .ref (x 0)), (1, .long (lN n))]) hx hb dX5_put_4 rfl hl (by decide) rfl (fun ls hl => ?_)
  refine lv_iload_n hx hb dX5_put_5 rfl (lv_at hl 0 rfl) ?_
  refine rn_if_ne hx hb (by omega) dX5_put_6 (by decide) (tgt := 12) (fun c_6 => ?_) (fun c_6 => ?_)
  · refine lv_aload_n hx hb dX5_put_12 rfl (lv_at hl 1 rfl) ?_
    refine rg (T := TX5) (N := 6) CX hE (hP 0 _ rfl) in_X5_put_X5 0 rfl rfl 5 (by decide) fl_X5_put_37 rfl rfl dX5_put_13 ?_
    refine rg (T := TX2) (N := 2) CX hE (hP 1 _ rfl) in_X5_put_X2 0 rfl rfl 1 (by decide) fl_X5_put_88 rfl rfl dX5_put_16 ?_
    refine lv_iload_n hx hb dX5_put_19 rfl (lv_at hl 0 rfl) ?_
    refine rn_iadd hx hb dX5_put_20 ?_
    refine lv_bipush (v := (nI 72)) hx hb dX5_put_21 kb_72 ?_
    refine rn_icmp_le hx hb (by omega) (by omega) dX5_put_23 (by decide) (tgt := 29) (fun c_23 => ?_) (fun c_23 => ?_)
    · exact absurd c_23 (by rcases hbad with q | q <;> omega)
    · refine lv_bipush (v := (-4)) hx hb dX5_put_26 kb_m4 ?_
      exact ro_ret CX hr hlk ((if_neg c_6).symm) rfl dX5_put_28
  · refine lv_bipush (v := (-2)) hx hb dX5_put_9 kb_m2 ?_
    exact ro_ret CX hr hlk ((if_pos c_6).symm) rfl dX5_put_11
theorem fl_X5_wipe_37 : Cond.fieldLink RX5 37 RX5 (TX5 5).2.1 (TX5 5).2.2.1 ∈ wsX5_wipe := by decide +kernel
theorem in_X5_wipe_X5 : ∀ w ∈ wsX50, w ∈ wsX5_wipe := by decide +kernel
theorem fl_X5_wipe_88 : Cond.fieldLink RX5 88 RX2 (TX2 1).2.1 (TX2 1).2.2.1 ∈ wsX5_wipe := by decide +kernel
theorem in_X5_wipe_X2 : ∀ w ∈ wsX20, w ∈ wsX5_wipe := by decide +kernel
set_option maxHeartbeats 4000000 in
set_option maxRecDepth 100000 in
theorem c_X5_wipe (l : Launch) (G : va_G) (cA : Nat → ClassId) (x : Nat → Nat) (a : Nat → Nat) (b : Nat → Nat) (ty : Nat) (pd : Nat → Int32)  : MUi l yX5_wipe wsX5_wipe ({ frames := 0, cells := 0, slots := 0, locals := 0 }) G cA BM0 (([[(x 0, .inr (5, [.ref (a 0), .ref (b 0), .ref (x 3), .ref (x 1), .ref (x 2), .ref (x 5)]))], [(x 5, .inr (2, [.ref (x 6), .int (nI ty)])), (x 6, .inl (cA 1, 72, .inl pd))]] : List va_W).flatten) [.ref (x 0)] (([[(x 0, .inr (5, [.ref (a 0), .ref (b 0), .ref (x 3), .ref (x 1), .ref (x 2), .ref (x 5)]))], [(x 5, .inr (2, [.ref (x 6), .int (nI 0)])), (x 6, .inl (cA 1, 72, .inl pd))]] : List va_W).flatten) (nI ty) := by
  refine MUi.mk (own := RX5) (by decide) rfl rfl (Nat.le_of_ble_eq_true rfl) (fun p_ e_ s_ m_ below meth c_ ls A_ CX hr hlk hW hA hE hB hl => ?_)
  obtain ⟨hx, hb, hml, hown, hts⟩ := id CX
  have hl : lv_has ls 2 [(0, .ref (x 0))] := hl
  have hW : wldS G A_ [[(x 0, .inr (5, [.ref (a 0), .ref (b 0), .ref (x 3), .ref (x 1), .ref (x 2), .ref (x 5)]))], [(x 5, .inr (2, [.ref (x 6), .int (nI ty)])), (x 6, .inl (cA 1, 72, .inl pd))]] s_.heap s_.heap [] := wldS.of hW
  refine lv_aload_n hx hb dX5_wipe_0 rfl (lv_at hl 0 rfl) ?_
  refine rg (T := TX5) (N := 6) CX hE (hW.hP 0 rfl) in_X5_wipe_X5 0 rfl rfl 5 (by decide) fl_X5_wipe_37 rfl rfl dX5_wipe_1 ?_
  refine rg (T := TX2) (N := 2) CX hE (hW.hP 1 rfl) in_X5_wipe_X2 0 rfl rfl 1 (by decide) fl_X5_wipe_88 rfl rfl dX5_wipe_4 ?_
  refine lv_istore_n (lv' := [(1, .int (nI ty)), (0, .ref (x 0))]) hx hb dX5_wipe_7 rfl hl (by decide) rfl (fun ls hl => ?_)
  refine lv_aload_n hx hb dX5_wipe_8 rfl (lv_at hl 1 rfl) ?_
  refine rg (T := TX5) (N := 6) CX hE (hW.hP 0 rfl) in_X5_wipe_X5 0 rfl rfl 5 (by decide) fl_X5_wipe_37 rfl rfl dX5_wipe_9 ?_
  refine rn_iconst hx hb 0 rfl dX5_wipe_12 ?_
  refine rpS (T := TX2) (N := 2) (w' := [(x 5, .inr (2, [.ref (x 6), .int (nI 0)])), (x 6, .inl (cA 1, 72, .inl pd))]) (segs' := [[(x 0, .inr (5, [.ref (a 0), .ref (b 0), .ref (x 3), .ref (x 1), .ref (x 2), .ref (x 5)]))], [(x 5, .inr (2, [.ref (x 6), .int (nI 0)])), (x 6, .inl (cA 1, 72, .inl pd))]]) CX hE hW 1 rfl in_X5_wipe_X2 tyX2 tyX2_ok nmX2 0 rfl rfl 1 (by decide) fl_X5_wipe_88 rfl rfl rfl rfl (Nat.le_of_ble_eq_true rfl) rfl rfl dX5_wipe_13 (fun H locs hW => ?_)
  refine lv_iload_n hx hb dX5_wipe_16 rfl (lv_at hl 0 rfl) ?_
  exact mu_reti CX hr hlk rfl rfl hW.flat dX5_wipe_17
theorem fl_X5_undo_22 : Cond.fieldLink RX5 22 RX5 (TX5 2).2.1 (TX5 2).2.2.1 ∈ wsX5_undo := by decide +kernel
theorem in_X5_undo_X5 : ∀ w ∈ wsX50, w ∈ wsX5_undo := by decide +kernel
theorem fl_X5_undo_201 : Cond.fieldLink RX5 201 RX1 (TX1 1).2.1 (TX1 1).2.2.1 ∈ wsX5_undo := by decide +kernel
theorem in_X5_undo_X1 : ∀ w ∈ wsX10, w ∈ wsX5_undo := by decide +kernel
theorem fl_X5_undo_12 : Cond.fieldLink RX5 12 RX5 (TX5 0).2.1 (TX5 0).2.2.1 ∈ wsX5_undo := by decide +kernel
theorem hdv_X1_giveBack : yX1_giveBack.cls = RX1 ∧ yX1_giveBack.cls ≠ "java/lang/invoke/MethodHandle" ∧ yX1_giveBack.cls ≠ "java/lang/invoke/VarHandle" ∧ (parseMethodDescriptor yX1_giveBack.desc).map (fun d => d.parameters.length) = some 1 := by decide +kernel
set_option maxHeartbeats 8000000 in
set_option maxRecDepth 100000 in
theorem c_X5_undo_k (l : Launch) (G : va_G) (cA : Nat → ClassId) (x : Nat → Nat) (a : Nat → Nat) (b : Nat → Nat) (T : TV) (hn : Nat) (ha : Nat → Nat → Nat) (hT : Nat → TV) (hh1 : 1 ≤ hn) (hhn : hn ≤ 6) : MUi l yX5_undo wsX5_undo ({ frames := 4, cells := 0, slots := 0, locals := 128 }) G cA BM0 (([[(x 0, .inr (5, [.ref (a 0), .ref (b 0), .ref (x 3), .ref (x 1), .ref (x 2), .ref (x 5)]))], [(x 3, .inr (1, [.ref (x 4), .int (nI hn)])), (x 4, .inl (cA 3, 6, .inr (.inr (.inr (.inr (stR ha))))))], tkW cA (ha 0) (hT 0), tkW cA (ha 1) (hT 1), tkW cA (ha 2) (hT 2), tkW cA (ha 3) (hT 3), tkW cA (ha 4) (hT 4), tkW cA (ha 5) (hT 5), tkW cA a T] : List va_W).flatten) [.ref (x 0)] (([[(x 0, .inr (5, [.ref (a 0), .ref (b 0), .ref (x 3), .ref (x 1), .ref (x 2), .ref (x 5)]))], [(x 3, .inr (1, [.ref (x 4), .int (nI (hn - 1))])), (x 4, .inl (cA 3, 6, .inr (.inr (.inr (.inr (stR ha))))))], tkW cA (ha 0) (hT 0), tkW cA (ha 1) (hT 1), tkW cA (ha 2) (hT 2), tkW cA (ha 3) (hT 3), tkW cA (ha 4) (hT 4), tkW cA (ha 5) (hT 5), tkW cA a (hT (hn - 1))] : List va_W).flatten) (nI (hn - 1)) := by
  refine MUi.mk (own := RX5) (by decide) rfl rfl (Nat.le_of_ble_eq_true rfl) (fun p_ e_ s_ m_ below meth c_ ls A_ CX hr hlk hW hA hE hB hl => ?_)
  obtain ⟨hx, hb, hml, hown, hts⟩ := id CX
  have hl : lv_has ls 1 [(0, .ref (x 0))] := hl
  have hW : wldS G A_ [[(x 0, .inr (5, [.ref (a 0), .ref (b 0), .ref (x 3), .ref (x 1), .ref (x 2), .ref (x 5)]))], [(x 3, .inr (1, [.ref (x 4), .int (nI hn)])), (x 4, .inl (cA 3, 6, .inr (.inr (.inr (.inr (stR ha))))))], tkW cA (ha 0) (hT 0), tkW cA (ha 1) (hT 1), tkW cA (ha 2) (hT 2), tkW cA (ha 3) (hT 3), tkW cA (ha 4) (hT 4), tkW cA (ha 5) (hT 5), tkW cA a T] s_.heap s_.heap [] := wldS.of hW
  refine lv_aload_n hx hb dX5_undo_0 rfl (lv_at hl 0 rfl) ?_
  refine rg (T := TX5) (N := 6) CX hE (hW.hP 0 rfl) in_X5_undo_X5 0 rfl rfl 2 (by decide) fl_X5_undo_22 rfl rfl dX5_undo_1 ?_
  refine rg (T := TX1) (N := 2) CX hE (hW.hP 1 rfl) in_X5_undo_X1 0 rfl rfl 1 (by decide) fl_X5_undo_201 rfl rfl dX5_undo_4 ?_
  refine rn_if_ne hx hb (by omega) dX5_undo_7 (by decide) (tgt := 13) (fun c_7 => ?_) (fun c_7 => ?_)
  · refine lv_aload_n hx hb dX5_undo_13 rfl (lv_at hl 0 rfl) ?_
    refine rg (T := TX5) (N := 6) CX hE (hW.hP 0 rfl) in_X5_undo_X5 0 rfl rfl 2 (by decide) fl_X5_undo_22 rfl rfl dX5_undo_14 ?_
    refine lv_aload_n hx hb dX5_undo_17 rfl (lv_at hl 0 rfl) ?_
    refine rg (T := TX5) (N := 6) CX hE (hW.hP 0 rfl) in_X5_undo_X5 0 rfl rfl 0 (by decide) fl_X5_undo_12 rfl rfl dX5_undo_18 ?_
    refine muvVS (segs' := [[(x 0, .inr (5, [.ref (a 0), .ref (b 0), .ref (x 3), .ref (x 1), .ref (x 2), .ref (x 5)]))], [(x 3, .inr (1, [.ref (x 4), .int (nI (hn - 1))])), (x 4, .inl (cA 3, 6, .inr (.inr (.inr (.inr (stR ha))))))], tkW cA (ha 0) (hT 0), tkW cA (ha 1) (hT 1), tkW cA (ha 2) (hT 2), tkW cA (ha 3) (hT 3), tkW cA (ha 4) (hT 4), tkW cA (ha 5) (hT 5), tkW cA a (hT (hn - 1))]) CX hE hW hA (c_X1_giveBack l G cA x hn ha hT a T hh1 hhn) (cwV 1 hts gX5_undo_X1_giveBack rfl rfl rfl hdv_X1_giveBack ⟨Nat.le_of_ble_eq_true rfl, Nat.le_of_ble_eq_true rfl⟩) [1, 2, 3, 4, 5, 6, 7, 8] (by decide) rfl rfl rfl (hW.hP 1 rfl) 0 rfl rfl rfl BM0_blind (fun _ _ _ _ => trivial) rfl hl.1 (rest := []) rfl (Nat.le_of_ble_eq_true rfl) dX5_undo_21 ⟨Nat.zero_le _, Nat.zero_le _⟩ (fun H locs hW => ?_)
    refine lv_aload_n hx hb dX5_undo_24 rfl (lv_at hl 0 rfl) ?_
    refine rg (T := TX5) (N := 6) CX hE (hW.hP 0 rfl) in_X5_undo_X5 0 rfl rfl 2 (by decide) fl_X5_undo_22 rfl rfl dX5_undo_25 ?_
    refine rg (T := TX1) (N := 2) CX hE (hW.hP 1 rfl) in_X5_undo_X1 0 rfl rfl 1 (by decide) fl_X5_undo_201 rfl rfl dX5_undo_28 ?_
    exact mu_reti CX hr hlk rfl rfl hW.flat dX5_undo_31
  · exact absurd c_7 (by omega)
set_option maxHeartbeats 4000000 in
set_option maxRecDepth 100000 in
theorem c_X5_undo_e (l : Launch) (G : va_G) (cA : Nat → ClassId) (x : Nat → Nat) (a : Nat → Nat) (b : Nat → Nat) (ha : Nat → Nat → Nat)  : RO l yX5_undo wsX5_undo ({ frames := 0, cells := 0, slots := 0, locals := 0 }) G cA B0 (([[(x 0, .inr (5, [.ref (a 0), .ref (b 0), .ref (x 3), .ref (x 1), .ref (x 2), .ref (x 5)]))], [(x 3, .inr (1, [.ref (x 4), .int (nI 0)])), (x 4, .inl (cA 3, 6, .inr (.inr (.inr (.inr (stR ha))))))]] : List va_W).flatten) [.ref (x 0)] (-5) := by
  refine RO.mk (own := RX5) (by decide) rfl rfl (Nat.le_of_ble_eq_true rfl) (fun p_ e_ s_ m_ below meth c_ ls CX hr hlk hP hE hB hl => ?_)
  obtain ⟨hx, hb, hml, hown, hts⟩ := id CX
  have hl : lv_has ls 1 [(0, .ref (x 0))] := hl
  have hP : ∀ (k : Nat) (w : va_W), ([[(x 0, .inr (5, [.ref (a 0), .ref (b 0), .ref (x 3), .ref (x 1), .ref (x 2), .ref (x 5)]))], [(x 3, .inr (1, [.ref (x 4), .int (nI 0)])), (x 4, .inl (cA 3, 6, .inr (.inr (.inr (.inr (stR ha))))))]] : List va_W)[k]? = some w → va_P G vwCl w s_.heap := va_P_seg hP
  refine lv_aload_n hx hb dX5_undo_0 rfl (lv_at hl 0 rfl) ?_
  refine rg (T := TX5) (N := 6) CX hE (hP 0 _ rfl) in_X5_undo_X5 0 rfl rfl 2 (by decide) fl_X5_undo_22 rfl rfl dX5_undo_1 ?_
  refine rg (T := TX1) (N := 2) CX hE (hP 1 _ rfl) in_X5_undo_X1 0 rfl rfl 1 (by decide) fl_X5_undo_201 rfl rfl dX5_undo_4 ?_
  refine rn_if_ne hx hb (by omega) dX5_undo_7 (by decide) (tgt := 13) (fun c_7 => ?_) (fun c_7 => ?_)
  · exact absurd rfl c_7
  · refine lv_bipush (v := (-5)) hx hb dX5_undo_10 kb_m5 ?_
    exact ro_ret CX hr hlk rfl rfl dX5_undo_12
theorem fl_X5_save_26 : Cond.fieldLink RX5 26 RX5 (TX5 3).2.1 (TX5 3).2.2.1 ∈ wsX5_save := by decide +kernel
theorem in_X5_save_X5 : ∀ w ∈ wsX50, w ∈ wsX5_save := by decide +kernel
theorem fl_X5_save_12 : Cond.fieldLink RX5 12 RX5 (TX5 0).2.1 (TX5 0).2.2.1 ∈ wsX5_save := by decide +kernel
theorem fl_X5_save_30 : Cond.fieldLink RX5 30 RX5 (TX5 4).2.1 (TX5 4).2.2.1 ∈ wsX5_save := by decide +kernel
theorem fl_X5_save_135 : Cond.fieldLink RX5 135 RX4 (TX4 7).2.1 (TX4 7).2.2.1 ∈ wsX5_save := by decide +kernel
theorem in_X5_save_X4 : ∀ w ∈ wsX40, w ∈ wsX5_save := by decide +kernel
set_option maxHeartbeats 8000000 in
set_option maxRecDepth 100000 in
theorem c_X5_save_0 (l : Launch) (G : va_G) (cA : Nat → ClassId) (x : Nat → Nat) (a : Nat → Nat) (b : Nat → Nat) (T : TV) (sv : Nat → Int32) (g : Nat → Nat) (U : TV) (h : Nat → Nat) (V : TV)  : MUi l yX5_save wsX5_save ({ frames := 3, cells := 0, slots := 0, locals := 107 }) G cA BM0 (([[(x 0, .inr (5, [.ref (a 0), .ref (b 0), .ref (x 3), .ref (x 1), .ref (x 2), .ref (x 5)]))], [(x 1, .inl (cA 3, 2, .inr (.inr (.inr (.inr (sl2 (g 0) (h 0))))))), (x 2, .inl (cA 2, 2, .inl sv))], tkW cA a T, tkW cA g U, tkW cA h V] : List va_W).flatten) [.ref (x 0), .int (nI 0)] (([[(x 0, .inr (5, [.ref (a 0), .ref (b 0), .ref (x 3), .ref (x 1), .ref (x 2), .ref (x 5)]))], [(x 1, .inl (cA 3, 2, .inr (.inr (.inr (.inr (sl2 (g 0) (h 0))))))), (x 2, .inl (cA 2, 2, .inl (upd sv 0 (nI 1))))], tkW cA a T, tkW cA g T, tkW cA h V] : List va_W).flatten) (nI (T.2 4 0)) := by
  refine MUi.mk (own := RX5) (by decide) rfl rfl (Nat.le_of_ble_eq_true rfl) (fun p_ e_ s_ m_ below meth c_ ls A_ CX hr hlk hW hA hE hB hl => ?_)
  obtain ⟨hx, hb, hml, hown, hts⟩ := id CX
  have hl : lv_has ls 2 [(0, .ref (x 0)), (1, .int (nI 0))] := hl
  have hW : wldS G A_ [[(x 0, .inr (5, [.ref (a 0), .ref (b 0), .ref (x 3), .ref (x 1), .ref (x 2), .ref (x 5)]))], [(x 1, .inl (cA 3, 2, .inr (.inr (.inr (.inr (sl2 (g 0) (h 0))))))), (x 2, .inl (cA 2, 2, .inl sv))], tkW cA a T, tkW cA g U, tkW cA h V] s_.heap s_.heap [] := wldS.of hW
  refine lv_iload_n hx hb dX5_save_0 rfl (lv_at hl 1 rfl) ?_
  refine rn_iconst hx hb 0 rfl dX5_save_1 ?_
  refine rn_iconst hx hb 1 rfl dX5_save_2 ?_
  refine roS CX hE va_P_nil (c_X5_isIn l G cA (nI 0) (nI 0) (nI 1) ) (va_cwS 3 hts gX5_save_X5_isIn rfl rfl rfl hdn_X5_isIn ⟨Nat.le_of_ble_eq_true rfl, Nat.le_of_ble_eq_true rfl⟩) [] rfl B0_blind (fun _ _ _ => trivial) rfl hl.1 (rest := []) rfl (Nat.le_of_ble_eq_true rfl) dX5_save_3 ⟨Nat.zero_le _, Nat.zero_le _⟩ ?_
  refine rb_if_ne hx hb dX5_save_6 (by decide) (tgt := 12) (fun c_6 => ?_) (fun c_6 => ?_)
  · refine lv_aload_n hx hb dX5_save_12 rfl (lv_at hl 0 rfl) ?_
    refine rg (T := TX5) (N := 6) CX hE (hW.hP 0 rfl) in_X5_save_X5 0 rfl rfl 3 (by decide) fl_X5_save_26 rfl rfl dX5_save_13 ?_
    refine lv_iload_n hx hb dX5_save_16 rfl (lv_at hl 1 rfl) ?_
    refine rn_aald3 CX hE (hW.hP 1 rfl) 0 rfl (j := 0) (by omega) (ltb rfl) (r := (g 0)) rfl dX5_save_17 ?_
    refine lv_aload_n hx hb dX5_save_18 rfl (lv_at hl 0 rfl) ?_
    refine rg (T := TX5) (N := 6) CX hE (hW.hP 0 rfl) in_X5_save_X5 0 rfl rfl 0 (by decide) fl_X5_save_12 rfl rfl dX5_save_19 ?_
    refine muvVS (segs' := [[(x 0, .inr (5, [.ref (a 0), .ref (b 0), .ref (x 3), .ref (x 1), .ref (x 2), .ref (x 5)]))], [(x 1, .inl (cA 3, 2, .inr (.inr (.inr (.inr (sl2 (g 0) (h 0))))))), (x 2, .inl (cA 2, 2, .inl sv))], tkW cA a T, tkW cA g T, tkW cA h V]) CX hE hW hA (c_X4_becomeS l G cA g U a T ) (cwV 1 hts gX5_save_X4_become rfl rfl rfl hdv_X4_become ⟨Nat.le_of_ble_eq_true rfl, Nat.le_of_ble_eq_true rfl⟩) [3, 2] (by decide) rfl rfl rfl (hW.hP 3 rfl) 0 rfl rfl rfl BM0_blind (fun _ _ _ _ => trivial) rfl hl.1 (rest := []) rfl (Nat.le_of_ble_eq_true rfl) dX5_save_22 ⟨Nat.zero_le _, Nat.zero_le _⟩ (fun H locs hW => ?_)
    refine lv_aload_n hx hb dX5_save_25 rfl (lv_at hl 0 rfl) ?_
    refine rg (T := TX5) (N := 6) CX hE (hW.hP 0 rfl) in_X5_save_X5 0 rfl rfl 4 (by decide) fl_X5_save_30 rfl rfl dX5_save_26 ?_
    refine lv_iload_n hx hb dX5_save_29 rfl (lv_at hl 1 rfl) ?_
    refine rn_iconst hx hb 1 rfl dX5_save_30 ?_
    refine rn_zastS (w' := [(x 1, .inl (cA 3, 2, .inr (.inr (.inr (.inr (sl2 (g 0) (h 0))))))), (x 2, .inl (cA 2, 2, .inl (upd sv 0 (vp_nar .boolean (nI 1)))))]) (segs' := [[(x 0, .inr (5, [.ref (a 0), .ref (b 0), .ref (x 3), .ref (x 1), .ref (x 2), .ref (x 5)]))], [(x 1, .inl (cA 3, 2, .inr (.inr (.inr (.inr (sl2 (g 0) (h 0))))))), (x 2, .inl (cA 2, 2, .inl (upd sv 0 (vp_nar .boolean (nI 1)))))], tkW cA a T, tkW cA g T, tkW cA h V]) CX hE hW 1 rfl 1 rfl (j := 0) (by omega) (ltb rfl) rfl rfl dX5_save_31 (fun H locs hW => ?_)
    refine lv_aload_n hx hb dX5_save_32 rfl (lv_at hl 0 rfl) ?_
    refine rg (T := TX5) (N := 6) CX hE (hW.hP 0 rfl) in_X5_save_X5 0 rfl rfl 0 (by decide) fl_X5_save_12 rfl rfl dX5_save_33 ?_
    refine rg (T := TX4) (N := 8) CX hE (hW.hP 2 rfl) in_X5_save_X4 0 rfl rfl 7 (by decide) fl_X5_save_135 rfl rfl dX5_save_36 ?_
    have hW := wldS.ext hW (w' := [(x 1, .inl (cA 3, 2, .inr (.inr (.inr (.inr (sl2 (g 0) (h 0))))))), (x 2, .inl (cA 2, 2, .inl (upd sv 0 (nI 1))))]) (segs' := [[(x 0, .inr (5, [.ref (a 0), .ref (b 0), .ref (x 3), .ref (x 1), .ref (x 2), .ref (x 5)]))], [(x 1, .inl (cA 3, 2, .inr (.inr (.inr (.inr (sl2 (g 0) (h 0))))))), (x 2, .inl (cA 2, 2, .inl (upd sv 0 (nI 1))))], tkW cA a T, tkW cA g T, tkW cA h V]) 1 rfl 1 (g := (upd sv 0 (nI 1))) rfl (fun _ _ => rfl) rfl rfl
    exact mu_reti CX hr hlk rfl rfl hW.flat dX5_save_39
  · exact absurd (inP_nI (Nat.zero_le _) (by omega) (by decide)) c_6
set_option maxHeartbeats 8000000 in
set_option maxRecDepth 100000 in
theorem c_X5_save_1 (l : Launch) (G : va_G) (cA : Nat → ClassId) (x : Nat → Nat) (a : Nat → Nat) (b : Nat → Nat) (T : TV) (sv : Nat → Int32) (g : Nat → Nat) (U : TV) (h : Nat → Nat) (V : TV)  : MUi l yX5_save wsX5_save ({ frames := 3, cells := 0, slots := 0, locals := 107 }) G cA BM0 (([[(x 0, .inr (5, [.ref (a 0), .ref (b 0), .ref (x 3), .ref (x 1), .ref (x 2), .ref (x 5)]))], [(x 1, .inl (cA 3, 2, .inr (.inr (.inr (.inr (sl2 (g 0) (h 0))))))), (x 2, .inl (cA 2, 2, .inl sv))], tkW cA a T, tkW cA g U, tkW cA h V] : List va_W).flatten) [.ref (x 0), .int (nI 1)] (([[(x 0, .inr (5, [.ref (a 0), .ref (b 0), .ref (x 3), .ref (x 1), .ref (x 2), .ref (x 5)]))], [(x 1, .inl (cA 3, 2, .inr (.inr (.inr (.inr (sl2 (g 0) (h 0))))))), (x 2, .inl (cA 2, 2, .inl (upd sv 1 (nI 1))))], tkW cA a T, tkW cA g U, tkW cA h T] : List va_W).flatten) (nI (T.2 4 0)) := by
  refine MUi.mk (own := RX5) (by decide) rfl rfl (Nat.le_of_ble_eq_true rfl) (fun p_ e_ s_ m_ below meth c_ ls A_ CX hr hlk hW hA hE hB hl => ?_)
  obtain ⟨hx, hb, hml, hown, hts⟩ := id CX
  have hl : lv_has ls 2 [(0, .ref (x 0)), (1, .int (nI 1))] := hl
  have hW : wldS G A_ [[(x 0, .inr (5, [.ref (a 0), .ref (b 0), .ref (x 3), .ref (x 1), .ref (x 2), .ref (x 5)]))], [(x 1, .inl (cA 3, 2, .inr (.inr (.inr (.inr (sl2 (g 0) (h 0))))))), (x 2, .inl (cA 2, 2, .inl sv))], tkW cA a T, tkW cA g U, tkW cA h V] s_.heap s_.heap [] := wldS.of hW
  refine lv_iload_n hx hb dX5_save_0 rfl (lv_at hl 1 rfl) ?_
  refine rn_iconst hx hb 0 rfl dX5_save_1 ?_
  refine rn_iconst hx hb 1 rfl dX5_save_2 ?_
  refine roS CX hE va_P_nil (c_X5_isIn l G cA (nI 1) (nI 0) (nI 1) ) (va_cwS 3 hts gX5_save_X5_isIn rfl rfl rfl hdn_X5_isIn ⟨Nat.le_of_ble_eq_true rfl, Nat.le_of_ble_eq_true rfl⟩) [] rfl B0_blind (fun _ _ _ => trivial) rfl hl.1 (rest := []) rfl (Nat.le_of_ble_eq_true rfl) dX5_save_3 ⟨Nat.zero_le _, Nat.zero_le _⟩ ?_
  refine rb_if_ne hx hb dX5_save_6 (by decide) (tgt := 12) (fun c_6 => ?_) (fun c_6 => ?_)
  · refine lv_aload_n hx hb dX5_save_12 rfl (lv_at hl 0 rfl) ?_
    refine rg (T := TX5) (N := 6) CX hE (hW.hP 0 rfl) in_X5_save_X5 0 rfl rfl 3 (by decide) fl_X5_save_26 rfl rfl dX5_save_13 ?_
    refine lv_iload_n hx hb dX5_save_16 rfl (lv_at hl 1 rfl) ?_
    refine rn_aald3 CX hE (hW.hP 1 rfl) 0 rfl (j := 1) (by omega) (ltb rfl) (r := (h 0)) rfl dX5_save_17 ?_
    refine lv_aload_n hx hb dX5_save_18 rfl (lv_at hl 0 rfl) ?_
    refine rg (T := TX5) (N := 6) CX hE (hW.hP 0 rfl) in_X5_save_X5 0 rfl rfl 0 (by decide) fl_X5_save_12 rfl rfl dX5_save_19 ?_
    refine muvVS (segs' := [[(x 0, .inr (5, [.ref (a 0), .ref (b 0), .ref (x 3), .ref (x 1), .ref (x 2), .ref (x 5)]))], [(x 1, .inl (cA 3, 2, .inr (.inr (.inr (.inr (sl2 (g 0) (h 0))))))), (x 2, .inl (cA 2, 2, .inl sv))], tkW cA a T, tkW cA g U, tkW cA h T]) CX hE hW hA (c_X4_becomeS l G cA h V a T ) (cwV 1 hts gX5_save_X4_become rfl rfl rfl hdv_X4_become ⟨Nat.le_of_ble_eq_true rfl, Nat.le_of_ble_eq_true rfl⟩) [4, 2] (by decide) rfl rfl rfl (hW.hP 4 rfl) 0 rfl rfl rfl BM0_blind (fun _ _ _ _ => trivial) rfl hl.1 (rest := []) rfl (Nat.le_of_ble_eq_true rfl) dX5_save_22 ⟨Nat.zero_le _, Nat.zero_le _⟩ (fun H locs hW => ?_)
    refine lv_aload_n hx hb dX5_save_25 rfl (lv_at hl 0 rfl) ?_
    refine rg (T := TX5) (N := 6) CX hE (hW.hP 0 rfl) in_X5_save_X5 0 rfl rfl 4 (by decide) fl_X5_save_30 rfl rfl dX5_save_26 ?_
    refine lv_iload_n hx hb dX5_save_29 rfl (lv_at hl 1 rfl) ?_
    refine rn_iconst hx hb 1 rfl dX5_save_30 ?_
    refine rn_zastS (w' := [(x 1, .inl (cA 3, 2, .inr (.inr (.inr (.inr (sl2 (g 0) (h 0))))))), (x 2, .inl (cA 2, 2, .inl (upd sv 1 (vp_nar .boolean (nI 1)))))]) (segs' := [[(x 0, .inr (5, [.ref (a 0), .ref (b 0), .ref (x 3), .ref (x 1), .ref (x 2), .ref (x 5)]))], [(x 1, .inl (cA 3, 2, .inr (.inr (.inr (.inr (sl2 (g 0) (h 0))))))), (x 2, .inl (cA 2, 2, .inl (upd sv 1 (vp_nar .boolean (nI 1)))))], tkW cA a T, tkW cA g U, tkW cA h T]) CX hE hW 1 rfl 1 rfl (j := 1) (by omega) (ltb rfl) rfl rfl dX5_save_31 (fun H locs hW => ?_)
    refine lv_aload_n hx hb dX5_save_32 rfl (lv_at hl 0 rfl) ?_
    refine rg (T := TX5) (N := 6) CX hE (hW.hP 0 rfl) in_X5_save_X5 0 rfl rfl 0 (by decide) fl_X5_save_12 rfl rfl dX5_save_33 ?_
    refine rg (T := TX4) (N := 8) CX hE (hW.hP 2 rfl) in_X5_save_X4 0 rfl rfl 7 (by decide) fl_X5_save_135 rfl rfl dX5_save_36 ?_
    have hW := wldS.ext hW (w' := [(x 1, .inl (cA 3, 2, .inr (.inr (.inr (.inr (sl2 (g 0) (h 0))))))), (x 2, .inl (cA 2, 2, .inl (upd sv 1 (nI 1))))]) (segs' := [[(x 0, .inr (5, [.ref (a 0), .ref (b 0), .ref (x 3), .ref (x 1), .ref (x 2), .ref (x 5)]))], [(x 1, .inl (cA 3, 2, .inr (.inr (.inr (.inr (sl2 (g 0) (h 0))))))), (x 2, .inl (cA 2, 2, .inl (upd sv 1 (nI 1))))], tkW cA a T, tkW cA g U, tkW cA h T]) 1 rfl 1 (g := (upd sv 1 (nI 1))) rfl (fun _ _ => rfl) rfl rfl
    exact mu_reti CX hr hlk rfl rfl hW.flat dX5_save_39
  · exact absurd (inP_nI (Nat.zero_le _) (by omega) (by decide)) c_6
set_option maxHeartbeats 4000000 in
set_option maxRecDepth 100000 in
theorem c_X5_save_e (l : Launch) (G : va_G) (cA : Nat → ClassId) (x : Nat → Nat) (a : Nat → Nat) (b : Nat → Nat) (k : Int32) (hbad : ¬ inP k (nI 0) (nI 1)) : RO l yX5_save wsX5_save ({ frames := 1, cells := 0, slots := 0, locals := 22 }) G cA B0 (([[(x 0, .inr (5, [.ref (a 0), .ref (b 0), .ref (x 3), .ref (x 1), .ref (x 2), .ref (x 5)]))]] : List va_W).flatten) [.ref (x 0), .int k] (-2) := by
  refine RO.mk (own := RX5) (by decide) rfl rfl (Nat.le_of_ble_eq_true rfl) (fun p_ e_ s_ m_ below meth c_ ls CX hr hlk hP hE hB hl => ?_)
  obtain ⟨hx, hb, hml, hown, hts⟩ := id CX
  have hl : lv_has ls 2 [(0, .ref (x 0)), (1, .int k)] := hl
  have hP : ∀ (k : Nat) (w : va_W), ([[(x 0, .inr (5, [.ref (a 0), .ref (b 0), .ref (x 3), .ref (x 1), .ref (x 2), .ref (x 5)]))]] : List va_W)[k]? = some w → va_P G vwCl w s_.heap := va_P_seg hP
  refine lv_iload_n hx hb dX5_save_0 rfl (lv_at hl 1 rfl) ?_
  refine rn_iconst hx hb 0 rfl dX5_save_1 ?_
  refine rn_iconst hx hb 1 rfl dX5_save_2 ?_
  refine roS CX hE va_P_nil (c_X5_isIn l G cA k (nI 0) (nI 1) ) (va_cwS 3 hts gX5_save_X5_isIn rfl rfl rfl hdn_X5_isIn ⟨Nat.le_of_ble_eq_true rfl, Nat.le_of_ble_eq_true rfl⟩) [] rfl B0_blind (fun _ _ _ => trivial) rfl hl.1 (rest := []) rfl (Nat.le_of_ble_eq_true rfl) dX5_save_3 ⟨Nat.zero_le _, Nat.zero_le _⟩ ?_
  refine rb_if_ne hx hb dX5_save_6 (by decide) (tgt := 12) (fun c_6 => ?_) (fun c_6 => ?_)
  · exact absurd c_6 hbad
  · refine lv_bipush (v := (-2)) hx hb dX5_save_9 kb_m2 ?_
    exact ro_ret CX hr hlk rfl rfl dX5_save_11
theorem fl_X5_restore_30 : Cond.fieldLink RX5 30 RX5 (TX5 4).2.1 (TX5 4).2.2.1 ∈ wsX5_restore := by decide +kernel
theorem in_X5_restore_X5 : ∀ w ∈ wsX50, w ∈ wsX5_restore := by decide +kernel
theorem fl_X5_restore_22 : Cond.fieldLink RX5 22 RX5 (TX5 2).2.1 (TX5 2).2.2.1 ∈ wsX5_restore := by decide +kernel
theorem fl_X5_restore_12 : Cond.fieldLink RX5 12 RX5 (TX5 0).2.1 (TX5 0).2.2.1 ∈ wsX5_restore := by decide +kernel
theorem fl_X5_restore_26 : Cond.fieldLink RX5 26 RX5 (TX5 3).2.1 (TX5 3).2.2.1 ∈ wsX5_restore := by decide +kernel
theorem fl_X5_restore_135 : Cond.fieldLink RX5 135 RX4 (TX4 7).2.1 (TX4 7).2.2.1 ∈ wsX5_restore := by decide +kernel
theorem in_X5_restore_X4 : ∀ w ∈ wsX40, w ∈ wsX5_restore := by decide +kernel
set_option maxHeartbeats 8000000 in
set_option maxRecDepth 100000 in
theorem c_X5_restore_0 (l : Launch) (G : va_G) (cA : Nat → ClassId) (x : Nat → Nat) (a : Nat → Nat) (b : Nat → Nat) (T : TV) (hn : Nat) (ha : Nat → Nat → Nat) (hT : Nat → TV) (sv : Nat → Int32) (g : Nat → Nat) (U : TV) (h : Nat → Nat) (V : TV) (hhn : hn ≤ 6) (hsv : ¬ sv 0 = 0) : MUi l yX5_restore wsX5_restore ({ frames := 4, cells := 0, slots := 0, locals := 128 }) G cA BM0 (([[(x 0, .inr (5, [.ref (a 0), .ref (b 0), .ref (x 3), .ref (x 1), .ref (x 2), .ref (x 5)]))], [(x 1, .inl (cA 3, 2, .inr (.inr (.inr (.inr (sl2 (g 0) (h 0))))))), (x 2, .inl (cA 2, 2, .inl sv))], [(x 3, .inr (1, [.ref (x 4), .int (nI hn)])), (x 4, .inl (cA 3, 6, .inr (.inr (.inr (.inr (stR ha))))))], tkW cA (ha 0) (hT 0), tkW cA (ha 1) (hT 1), tkW cA (ha 2) (hT 2), tkW cA (ha 3) (hT 3), tkW cA (ha 4) (hT 4), tkW cA (ha 5) (hT 5), tkW cA a T, tkW cA g U, tkW cA h V] : List va_W).flatten) [.ref (x 0), .int (nI 0)] (([[(x 0, .inr (5, [.ref (a 0), .ref (b 0), .ref (x 3), .ref (x 1), .ref (x 2), .ref (x 5)]))], [(x 1, .inl (cA 3, 2, .inr (.inr (.inr (.inr (sl2 (g 0) (h 0))))))), (x 2, .inl (cA 2, 2, .inl sv))], [(x 3, .inr (1, [.ref (x 4), .int (nI (keepN hn))])), (x 4, .inl (cA 3, 6, .inr (.inr (.inr (.inr (stR (keepA ha hn)))))))], tkW cA ((keepA ha hn) 0) ((keepT hT hn T) 0), tkW cA ((keepA ha hn) 1) ((keepT hT hn T) 1), tkW cA ((keepA ha hn) 2) ((keepT hT hn T) 2), tkW cA ((keepA ha hn) 3) ((keepT hT hn T) 3), tkW cA ((keepA ha hn) 4) ((keepT hT hn T) 4), tkW cA ((keepA ha hn) 5) ((keepT hT hn T) 5), tkW cA a U, tkW cA g U, tkW cA h V] : List va_W).flatten) (nI (U.2 4 0)) := by
  refine MUi.mk (own := RX5) (by decide) rfl rfl (Nat.le_of_ble_eq_true rfl) (fun p_ e_ s_ m_ below meth c_ ls A_ CX hr hlk hW hA hE hB hl => ?_)
  obtain ⟨hx, hb, hml, hown, hts⟩ := id CX
  have hl : lv_has ls 2 [(0, .ref (x 0)), (1, .int (nI 0))] := hl
  have hW : wldS G A_ [[(x 0, .inr (5, [.ref (a 0), .ref (b 0), .ref (x 3), .ref (x 1), .ref (x 2), .ref (x 5)]))], [(x 1, .inl (cA 3, 2, .inr (.inr (.inr (.inr (sl2 (g 0) (h 0))))))), (x 2, .inl (cA 2, 2, .inl sv))], [(x 3, .inr (1, [.ref (x 4), .int (nI hn)])), (x 4, .inl (cA 3, 6, .inr (.inr (.inr (.inr (stR ha))))))], tkW cA (ha 0) (hT 0), tkW cA (ha 1) (hT 1), tkW cA (ha 2) (hT 2), tkW cA (ha 3) (hT 3), tkW cA (ha 4) (hT 4), tkW cA (ha 5) (hT 5), tkW cA a T, tkW cA g U, tkW cA h V] s_.heap s_.heap [] := wldS.of hW
  refine lv_iload_n hx hb dX5_restore_0 rfl (lv_at hl 1 rfl) ?_
  refine rn_iconst hx hb 0 rfl dX5_restore_1 ?_
  refine rn_iconst hx hb 1 rfl dX5_restore_2 ?_
  refine roS CX hE va_P_nil (c_X5_isIn l G cA (nI 0) (nI 0) (nI 1) ) (va_cwS 3 hts gX5_restore_X5_isIn rfl rfl rfl hdn_X5_isIn ⟨Nat.le_of_ble_eq_true rfl, Nat.le_of_ble_eq_true rfl⟩) [] rfl B0_blind (fun _ _ _ => trivial) rfl hl.1 (rest := []) rfl (Nat.le_of_ble_eq_true rfl) dX5_restore_3 ⟨Nat.zero_le _, Nat.zero_le _⟩ ?_
  refine rb_if_ne hx hb dX5_restore_6 (by decide) (tgt := 12) (fun c_6 => ?_) (fun c_6 => ?_)
  · refine lv_aload_n hx hb dX5_restore_12 rfl (lv_at hl 0 rfl) ?_
    refine rg (T := TX5) (N := 6) CX hE (hW.hP 0 rfl) in_X5_restore_X5 0 rfl rfl 4 (by decide) fl_X5_restore_30 rfl rfl dX5_restore_13 ?_
    refine lv_iload_n hx hb dX5_restore_16 rfl (lv_at hl 1 rfl) ?_
    refine rn_zald CX hE (hW.hP 1 rfl) 1 rfl (j := 0) (by omega) (ltb rfl) dX5_restore_17 ?_
    refine lv_if_ne hx hb dX5_restore_18 (by decide) (tgt := 24) (fun c_18 => ?_) (fun c_18 => ?_)
    · refine lv_aload_n hx hb dX5_restore_24 rfl (lv_at hl 0 rfl) ?_
      refine rg (T := TX5) (N := 6) CX hE (hW.hP 0 rfl) in_X5_restore_X5 0 rfl rfl 2 (by decide) fl_X5_restore_22 rfl rfl dX5_restore_25 ?_
      refine lv_aload_n hx hb dX5_restore_28 rfl (lv_at hl 0 rfl) ?_
      refine rg (T := TX5) (N := 6) CX hE (hW.hP 0 rfl) in_X5_restore_X5 0 rfl rfl 0 (by decide) fl_X5_restore_12 rfl rfl dX5_restore_29 ?_
      refine muvVS (segs' := [[(x 0, .inr (5, [.ref (a 0), .ref (b 0), .ref (x 3), .ref (x 1), .ref (x 2), .ref (x 5)]))], [(x 1, .inl (cA 3, 2, .inr (.inr (.inr (.inr (sl2 (g 0) (h 0))))))), (x 2, .inl (cA 2, 2, .inl sv))], [(x 3, .inr (1, [.ref (x 4), .int (nI (keepN hn))])), (x 4, .inl (cA 3, 6, .inr (.inr (.inr (.inr (stR (keepA ha hn)))))))], tkW cA ((keepA ha hn) 0) ((keepT hT hn T) 0), tkW cA ((keepA ha hn) 1) ((keepT hT hn T) 1), tkW cA ((keepA ha hn) 2) ((keepT hT hn T) 2), tkW cA ((keepA ha hn) 3) ((keepT hT hn T) 3), tkW cA ((keepA ha hn) 4) ((keepT hT hn T) 4), tkW cA ((keepA ha hn) 5) ((keepT hT hn T) 5), tkW cA a T, tkW cA g U, tkW cA h V]) CX hE hW hA (c_X1_keep l G cA x hn ha hT a T hhn) (cwV 1 hts gX5_restore_X1_keep rfl rfl rfl hdv_X1_keep ⟨Nat.le_of_ble_eq_true rfl, Nat.le_of_ble_eq_true rfl⟩) [2, 3, 4, 5, 6, 7, 8, 9] (by decide) rfl rfl rfl (hW.hP 2 rfl) 0 rfl rfl rfl BM0_blind (fun _ _ _ _ => trivial) rfl hl.1 (rest := []) rfl (Nat.le_of_ble_eq_true rfl) dX5_restore_32 ⟨Nat.zero_le _, Nat.zero_le _⟩ (fun H locs hW => ?_)
      refine lv_aload_n hx hb dX5_restore_35 rfl (lv_at hl 0 rfl) ?_
      refine rg (T := TX5) (N := 6) CX hE (hW.hP 0 rfl) in_X5_restore_X5 0 rfl rfl 0 (by decide) fl_X5_restore_12 rfl rfl dX5_restore_36 ?_
      refine lv_aload_n hx hb dX5_restore_39 rfl (lv_at hl 0 rfl) ?_
      refine rg (T := TX5) (N := 6) CX hE (hW.hP 0 rfl) in_X5_restore_X5 0 rfl rfl 3 (by decide) fl_X5_restore_26 rfl rfl dX5_restore_40 ?_
      refine lv_iload_n hx hb dX5_restore_43 rfl (lv_at hl 1 rfl) ?_
      refine rn_aald3 CX hE (hW.hP 1 rfl) 0 rfl (j := 0) (by omega) (ltb rfl) (r := (g 0)) rfl dX5_restore_44 ?_
      refine muvVS (segs' := [[(x 0, .inr (5, [.ref (a 0), .ref (b 0), .ref (x 3), .ref (x 1), .ref (x 2), .ref (x 5)]))], [(x 1, .inl (cA 3, 2, .inr (.inr (.inr (.inr (sl2 (g 0) (h 0))))))), (x 2, .inl (cA 2, 2, .inl sv))], [(x 3, .inr (1, [.ref (x 4), .int (nI (keepN hn))])), (x 4, .inl (cA 3, 6, .inr (.inr (.inr (.inr (stR (keepA ha hn)))))))], tkW cA ((keepA ha hn) 0) ((keepT hT hn T) 0), tkW cA ((keepA ha hn) 1) ((keepT hT hn T) 1), tkW cA ((keepA ha hn) 2) ((keepT hT hn T) 2), tkW cA ((keepA ha hn) 3) ((keepT hT hn T) 3), tkW cA ((keepA ha hn) 4) ((keepT hT hn T) 4), tkW cA ((keepA ha hn) 5) ((keepT hT hn T) 5), tkW cA a U, tkW cA g U, tkW cA h V]) CX hE hW hA (c_X4_becomeS l G cA a T g U ) (cwV 1 hts gX5_restore_X4_become rfl rfl rfl hdv_X4_become ⟨Nat.le_of_ble_eq_true rfl, Nat.le_of_ble_eq_true rfl⟩) [9, 10] (by decide) rfl rfl rfl (hW.hP 9 rfl) 0 rfl rfl rfl BM0_blind (fun _ _ _ _ => trivial) rfl hl.1 (rest := []) rfl (Nat.le_of_ble_eq_true rfl) dX5_restore_45 ⟨Nat.zero_le _, Nat.zero_le _⟩ (fun H locs hW => ?_)
      refine lv_aload_n hx hb dX5_restore_48 rfl (lv_at hl 0 rfl) ?_
      refine rg (T := TX5) (N := 6) CX hE (hW.hP 0 rfl) in_X5_restore_X5 0 rfl rfl 0 (by decide) fl_X5_restore_12 rfl rfl dX5_restore_49 ?_
      refine rg (T := TX4) (N := 8) CX hE (hW.hP 9 rfl) in_X5_restore_X4 0 rfl rfl 7 (by decide) fl_X5_restore_135 rfl rfl dX5_restore_52 ?_
      exact mu_reti CX hr hlk rfl rfl hW.flat dX5_restore_55
    · exact absurd c_18 hsv
  · exact absurd (inP_nI (Nat.zero_le _) (by omega) (by decide)) c_6
set_option maxHeartbeats 8000000 in
set_option maxRecDepth 100000 in
theorem c_X5_restore_1 (l : Launch) (G : va_G) (cA : Nat → ClassId) (x : Nat → Nat) (a : Nat → Nat) (b : Nat → Nat) (T : TV) (hn : Nat) (ha : Nat → Nat → Nat) (hT : Nat → TV) (sv : Nat → Int32) (g : Nat → Nat) (U : TV) (h : Nat → Nat) (V : TV) (hhn : hn ≤ 6) (hsv : ¬ sv 1 = 0) : MUi l yX5_restore wsX5_restore ({ frames := 4, cells := 0, slots := 0, locals := 128 }) G cA BM0 (([[(x 0, .inr (5, [.ref (a 0), .ref (b 0), .ref (x 3), .ref (x 1), .ref (x 2), .ref (x 5)]))], [(x 1, .inl (cA 3, 2, .inr (.inr (.inr (.inr (sl2 (g 0) (h 0))))))), (x 2, .inl (cA 2, 2, .inl sv))], [(x 3, .inr (1, [.ref (x 4), .int (nI hn)])), (x 4, .inl (cA 3, 6, .inr (.inr (.inr (.inr (stR ha))))))], tkW cA (ha 0) (hT 0), tkW cA (ha 1) (hT 1), tkW cA (ha 2) (hT 2), tkW cA (ha 3) (hT 3), tkW cA (ha 4) (hT 4), tkW cA (ha 5) (hT 5), tkW cA a T, tkW cA g U, tkW cA h V] : List va_W).flatten) [.ref (x 0), .int (nI 1)] (([[(x 0, .inr (5, [.ref (a 0), .ref (b 0), .ref (x 3), .ref (x 1), .ref (x 2), .ref (x 5)]))], [(x 1, .inl (cA 3, 2, .inr (.inr (.inr (.inr (sl2 (g 0) (h 0))))))), (x 2, .inl (cA 2, 2, .inl sv))], [(x 3, .inr (1, [.ref (x 4), .int (nI (keepN hn))])), (x 4, .inl (cA 3, 6, .inr (.inr (.inr (.inr (stR (keepA ha hn)))))))], tkW cA ((keepA ha hn) 0) ((keepT hT hn T) 0), tkW cA ((keepA ha hn) 1) ((keepT hT hn T) 1), tkW cA ((keepA ha hn) 2) ((keepT hT hn T) 2), tkW cA ((keepA ha hn) 3) ((keepT hT hn T) 3), tkW cA ((keepA ha hn) 4) ((keepT hT hn T) 4), tkW cA ((keepA ha hn) 5) ((keepT hT hn T) 5), tkW cA a V, tkW cA g U, tkW cA h V] : List va_W).flatten) (nI (V.2 4 0)) := by
  refine MUi.mk (own := RX5) (by decide) rfl rfl (Nat.le_of_ble_eq_true rfl) (fun p_ e_ s_ m_ below meth c_ ls A_ CX hr hlk hW hA hE hB hl => ?_)
  obtain ⟨hx, hb, hml, hown, hts⟩ := id CX
  have hl : lv_has ls 2 [(0, .ref (x 0)), (1, .int (nI 1))] := hl
  have hW : wldS G A_ [[(x 0, .inr (5, [.ref (a 0), .ref (b 0), .ref (x 3), .ref (x 1), .ref (x 2), .ref (x 5)]))], [(x 1, .inl (cA 3, 2, .inr (.inr (.inr (.inr (sl2 (g 0) (h 0))))))), (x 2, .inl (cA 2, 2, .inl sv))], [(x 3, .inr (1, [.ref (x 4), .int (nI hn)])), (x 4, .inl (cA 3, 6, .inr (.inr (.inr (.inr (stR ha))))))], tkW cA (ha 0) (hT 0), tkW cA (ha 1) (hT 1), tkW cA (ha 2) (hT 2), tkW cA (ha 3) (hT 3), tkW cA (ha 4) (hT 4), tkW cA (ha 5) (hT 5), tkW cA a T, tkW cA g U, tkW cA h V] s_.heap s_.heap [] := wldS.of hW
  refine lv_iload_n hx hb dX5_restore_0 rfl (lv_at hl 1 rfl) ?_
  refine rn_iconst hx hb 0 rfl dX5_restore_1 ?_
  refine rn_iconst hx hb 1 rfl dX5_restore_2 ?_
  refine roS CX hE va_P_nil (c_X5_isIn l G cA (nI 1) (nI 0) (nI 1) ) (va_cwS 3 hts gX5_restore_X5_isIn rfl rfl rfl hdn_X5_isIn ⟨Nat.le_of_ble_eq_true rfl, Nat.le_of_ble_eq_true rfl⟩) [] rfl B0_blind (fun _ _ _ => trivial) rfl hl.1 (rest := []) rfl (Nat.le_of_ble_eq_true rfl) dX5_restore_3 ⟨Nat.zero_le _, Nat.zero_le _⟩ ?_
  refine rb_if_ne hx hb dX5_restore_6 (by decide) (tgt := 12) (fun c_6 => ?_) (fun c_6 => ?_)
  · refine lv_aload_n hx hb dX5_restore_12 rfl (lv_at hl 0 rfl) ?_
    refine rg (T := TX5) (N := 6) CX hE (hW.hP 0 rfl) in_X5_restore_X5 0 rfl rfl 4 (by decide) fl_X5_restore_30 rfl rfl dX5_restore_13 ?_
    refine lv_iload_n hx hb dX5_restore_16 rfl (lv_at hl 1 rfl) ?_
    refine rn_zald CX hE (hW.hP 1 rfl) 1 rfl (j := 1) (by omega) (ltb rfl) dX5_restore_17 ?_
    refine lv_if_ne hx hb dX5_restore_18 (by decide) (tgt := 24) (fun c_18 => ?_) (fun c_18 => ?_)
    · refine lv_aload_n hx hb dX5_restore_24 rfl (lv_at hl 0 rfl) ?_
      refine rg (T := TX5) (N := 6) CX hE (hW.hP 0 rfl) in_X5_restore_X5 0 rfl rfl 2 (by decide) fl_X5_restore_22 rfl rfl dX5_restore_25 ?_
      refine lv_aload_n hx hb dX5_restore_28 rfl (lv_at hl 0 rfl) ?_
      refine rg (T := TX5) (N := 6) CX hE (hW.hP 0 rfl) in_X5_restore_X5 0 rfl rfl 0 (by decide) fl_X5_restore_12 rfl rfl dX5_restore_29 ?_
      refine muvVS (segs' := [[(x 0, .inr (5, [.ref (a 0), .ref (b 0), .ref (x 3), .ref (x 1), .ref (x 2), .ref (x 5)]))], [(x 1, .inl (cA 3, 2, .inr (.inr (.inr (.inr (sl2 (g 0) (h 0))))))), (x 2, .inl (cA 2, 2, .inl sv))], [(x 3, .inr (1, [.ref (x 4), .int (nI (keepN hn))])), (x 4, .inl (cA 3, 6, .inr (.inr (.inr (.inr (stR (keepA ha hn)))))))], tkW cA ((keepA ha hn) 0) ((keepT hT hn T) 0), tkW cA ((keepA ha hn) 1) ((keepT hT hn T) 1), tkW cA ((keepA ha hn) 2) ((keepT hT hn T) 2), tkW cA ((keepA ha hn) 3) ((keepT hT hn T) 3), tkW cA ((keepA ha hn) 4) ((keepT hT hn T) 4), tkW cA ((keepA ha hn) 5) ((keepT hT hn T) 5), tkW cA a T, tkW cA g U, tkW cA h V]) CX hE hW hA (c_X1_keep l G cA x hn ha hT a T hhn) (cwV 1 hts gX5_restore_X1_keep rfl rfl rfl hdv_X1_keep ⟨Nat.le_of_ble_eq_true rfl, Nat.le_of_ble_eq_true rfl⟩) [2, 3, 4, 5, 6, 7, 8, 9] (by decide) rfl rfl rfl (hW.hP 2 rfl) 0 rfl rfl rfl BM0_blind (fun _ _ _ _ => trivial) rfl hl.1 (rest := []) rfl (Nat.le_of_ble_eq_true rfl) dX5_restore_32 ⟨Nat.zero_le _, Nat.zero_le _⟩ (fun H locs hW => ?_)
      refine lv_aload_n hx hb dX5_restore_35 rfl (lv_at hl 0 rfl) ?_
      refine rg (T := TX5) (N := 6) CX hE (hW.hP 0 rfl) in_X5_restore_X5 0 rfl rfl 0 (by decide) fl_X5_restore_12 rfl rfl dX5_restore_36 ?_
      refine lv_aload_n hx hb dX5_restore_39 rfl (lv_at hl 0 rfl) ?_
      refine rg (T := TX5) (N := 6) CX hE (hW.hP 0 rfl) in_X5_restore_X5 0 rfl rfl 3 (by decide) fl_X5_restore_26 rfl rfl dX5_restore_40 ?_
      refine lv_iload_n hx hb dX5_restore_43 rfl (lv_at hl 1 rfl) ?_
      refine rn_aald3 CX hE (hW.hP 1 rfl) 0 rfl (j := 1) (by omega) (ltb rfl) (r := (h 0)) rfl dX5_restore_44 ?_
      refine muvVS (segs' := [[(x 0, .inr (5, [.ref (a 0), .ref (b 0), .ref (x 3), .ref (x 1), .ref (x 2), .ref (x 5)]))], [(x 1, .inl (cA 3, 2, .inr (.inr (.inr (.inr (sl2 (g 0) (h 0))))))), (x 2, .inl (cA 2, 2, .inl sv))], [(x 3, .inr (1, [.ref (x 4), .int (nI (keepN hn))])), (x 4, .inl (cA 3, 6, .inr (.inr (.inr (.inr (stR (keepA ha hn)))))))], tkW cA ((keepA ha hn) 0) ((keepT hT hn T) 0), tkW cA ((keepA ha hn) 1) ((keepT hT hn T) 1), tkW cA ((keepA ha hn) 2) ((keepT hT hn T) 2), tkW cA ((keepA ha hn) 3) ((keepT hT hn T) 3), tkW cA ((keepA ha hn) 4) ((keepT hT hn T) 4), tkW cA ((keepA ha hn) 5) ((keepT hT hn T) 5), tkW cA a V, tkW cA g U, tkW cA h V]) CX hE hW hA (c_X4_becomeS l G cA a T h V ) (cwV 1 hts gX5_restore_X4_become rfl rfl rfl hdv_X4_become ⟨Nat.le_of_ble_eq_true rfl, Nat.le_of_ble_eq_true rfl⟩) [9, 11] (by decide) rfl rfl rfl (hW.hP 9 rfl) 0 rfl rfl rfl BM0_blind (fun _ _ _ _ => trivial) rfl hl.1 (rest := []) rfl (Nat.le_of_ble_eq_true rfl) dX5_restore_45 ⟨Nat.zero_le _, Nat.zero_le _⟩ (fun H locs hW => ?_)
      refine lv_aload_n hx hb dX5_restore_48 rfl (lv_at hl 0 rfl) ?_
      refine rg (T := TX5) (N := 6) CX hE (hW.hP 0 rfl) in_X5_restore_X5 0 rfl rfl 0 (by decide) fl_X5_restore_12 rfl rfl dX5_restore_49 ?_
      refine rg (T := TX4) (N := 8) CX hE (hW.hP 9 rfl) in_X5_restore_X4 0 rfl rfl 7 (by decide) fl_X5_restore_135 rfl rfl dX5_restore_52 ?_
      exact mu_reti CX hr hlk rfl rfl hW.flat dX5_restore_55
    · exact absurd c_18 hsv
  · exact absurd (inP_nI (Nat.zero_le _) (by omega) (by decide)) c_6
set_option maxHeartbeats 4000000 in
set_option maxRecDepth 100000 in
theorem c_X5_restore_e (l : Launch) (G : va_G) (cA : Nat → ClassId) (x : Nat → Nat) (a : Nat → Nat) (b : Nat → Nat) (g : Nat → Nat) (h : Nat → Nat) (sv : Nat → Int32) (k : Int32) (hbad : ∀ i, i < 2 → k = nI i → sv i = 0) : RO l yX5_restore wsX5_restore ({ frames := 1, cells := 0, slots := 0, locals := 22 }) G cA B0 (([[(x 0, .inr (5, [.ref (a 0), .ref (b 0), .ref (x 3), .ref (x 1), .ref (x 2), .ref (x 5)]))], [(x 1, .inl (cA 3, 2, .inr (.inr (.inr (.inr (sl2 (g 0) (h 0))))))), (x 2, .inl (cA 2, 2, .inl sv))]] : List va_W).flatten) [.ref (x 0), .int k] (if ¬ inP k (nI 0) (nI 1) then -2 else -5) := by
  refine RO.mk (own := RX5) (by decide) rfl rfl (Nat.le_of_ble_eq_true rfl) (fun p_ e_ s_ m_ below meth c_ ls CX hr hlk hP hE hB hl => ?_)
  obtain ⟨hx, hb, hml, hown, hts⟩ := id CX
  have hl : lv_has ls 2 [(0, .ref (x 0)), (1, .int k)] := hl
  have hP : ∀ (k : Nat) (w : va_W), ([[(x 0, .inr (5, [.ref (a 0), .ref (b 0), .ref (x 3), .ref (x 1), .ref (x 2), .ref (x 5)]))], [(x 1, .inl (cA 3, 2, .inr (.inr (.inr (.inr (sl2 (g 0) (h 0))))))), (x 2, .inl (cA 2, 2, .inl sv))]] : List va_W)[k]? = some w → va_P G vwCl w s_.heap := va_P_seg hP
  refine lv_iload_n hx hb dX5_restore_0 rfl (lv_at hl 1 rfl) ?_
  refine rn_iconst hx hb 0 rfl dX5_restore_1 ?_
  refine rn_iconst hx hb 1 rfl dX5_restore_2 ?_
  refine roS CX hE va_P_nil (c_X5_isIn l G cA k (nI 0) (nI 1) ) (va_cwS 3 hts gX5_restore_X5_isIn rfl rfl rfl hdn_X5_isIn ⟨Nat.le_of_ble_eq_true rfl, Nat.le_of_ble_eq_true rfl⟩) [] rfl B0_blind (fun _ _ _ => trivial) rfl hl.1 (rest := []) rfl (Nat.le_of_ble_eq_true rfl) dX5_restore_3 ⟨Nat.zero_le _, Nat.zero_le _⟩ ?_
  refine rb_if_ne hx hb dX5_restore_6 (by decide) (tgt := 12) (fun c_6 => ?_) (fun c_6 => ?_)
  · obtain ⟨i, hi, ei⟩ := inP_nat (by decide) c_6
    have hi2 : i < 2 := by omega
    subst ei
    refine lv_aload_n hx hb dX5_restore_12 rfl (lv_at hl 0 rfl) ?_
    refine rg (T := TX5) (N := 6) CX hE (hP 0 _ rfl) in_X5_restore_X5 0 rfl rfl 4 (by decide) fl_X5_restore_30 rfl rfl dX5_restore_13 ?_
    refine lv_iload_n hx hb dX5_restore_16 rfl (lv_at hl 1 rfl) ?_
    refine rn_zald CX hE (hP 1 _ rfl) 1 rfl (j := i) (by omega) (ltb rfl) dX5_restore_17 ?_
    refine lv_if_ne hx hb dX5_restore_18 (by decide) (tgt := 24) (fun c_18 => ?_) (fun c_18 => ?_)
    · exact absurd (hbad i hi2 rfl) c_18
    · refine lv_bipush (v := (-5)) hx hb dX5_restore_21 kb_m5 ?_
      exact ro_ret CX hr hlk ((if_neg (fun q => q c_6)).symm) rfl dX5_restore_23
  · refine lv_bipush (v := (-2)) hx hb dX5_restore_9 kb_m2 ?_
    exact ro_ret CX hr hlk ((if_pos c_6).symm) rfl dX5_restore_11
