theorem w_X5_set_st41 : Cond.fieldLink RX5 41 "DippedWaves" "LEAST_SETTINGS" "[I" ∈ wsX5_set := by decide +kernel
theorem w_X5_set_st45 : Cond.fieldLink RX5 45 "DippedWaves" "MOST_SETTINGS" "[I" ∈ wsX5_set := by decide +kernel
theorem fl_X5_set_22 : Cond.fieldLink RX5 22 RX5 (TX5 2).2.1 (TX5 2).2.2.1 ∈ wsX5_set := by decide +kernel
theorem in_X5_set_X5 : ∀ w ∈ wsX50, w ∈ wsX5_set := by decide +kernel
theorem fl_X5_set_12 : Cond.fieldLink RX5 12 RX5 (TX5 0).2.1 (TX5 0).2.2.1 ∈ wsX5_set := by decide +kernel
theorem fl_X5_set_52 : Cond.fieldLink RX5 52 RX4 (TX4 0).2.1 (TX4 0).2.2.1 ∈ wsX5_set := by decide +kernel
theorem in_X5_set_X4 : ∀ w ∈ wsX40, w ∈ wsX5_set := by decide +kernel
set_option maxHeartbeats 8000000 in
set_option maxRecDepth 100000 in
theorem c_X5_set_k (l : Launch) (G : va_G) (cA : Nat → ClassId) (tl_ : Nat) (tm_ : Nat) (x : Nat → Nat) (a : Nat → Nat) (b : Nat → Nat) (T : TV) (hn : Nat) (ha : Nat → Nat → Nat) (hT : Nat → TV) (k : Nat) (v : Int32) (hhn : hn ≤ 6) (hok : okT T) (hk : k < 4) (hv : inP v (leastF (nI k)) (mostF (nI k))) : MUi l yX5_set wsX5_set ({ frames := 4, cells := 0, slots := 0, locals := 128 }) G cA (KSM tl_ tm_) (([[(x 0, .inr (5, [.ref (a 0), .ref (b 0), .ref (x 3), .ref (x 1), .ref (x 2), .ref (x 5)]))], [(x 3, .inr (1, [.ref (x 4), .int (nI hn)])), (x 4, .inl (cA 3, 6, .inr (.inr (.inr (.inr (stR ha))))))], tkW cA (ha 0) (hT 0), tkW cA (ha 1) (hT 1), tkW cA (ha 2) (hT 2), tkW cA (ha 3) (hT 3), tkW cA (ha 4) (hT 4), tkW cA (ha 5) (hT 5), tkW cA a T] : List va_W).flatten) [.ref (x 0), .int (nI k), .int v] (([[(x 0, .inr (5, [.ref (a 0), .ref (b 0), .ref (x 3), .ref (x 1), .ref (x 2), .ref (x 5)]))], [(x 3, .inr (1, [.ref (x 4), .int (nI (keepN hn))])), (x 4, .inl (cA 3, 6, .inr (.inr (.inr (.inr (stR (keepA ha hn)))))))], tkW cA ((keepA ha hn) 0) ((keepT hT hn T) 0), tkW cA ((keepA ha hn) 1) ((keepT hT hn T) 1), tkW cA ((keepA ha hn) 2) ((keepT hT hn T) 2), tkW cA ((keepA ha hn) 3) ((keepT hT hn T) 3), tkW cA ((keepA ha hn) 4) ((keepT hT hn T) 4), tkW cA ((keepA ha hn) 5) ((keepT hT hn T) 5), tkW cA a (setT T k v)] : List va_W).flatten) (T.1 0 k) := by
  refine MUi.mk (own := RX5) (by decide) rfl rfl (Nat.le_of_ble_eq_true rfl) (fun p_ e_ s_ m_ below meth c_ ls A_ CX hr hlk hW hA hE hB hl => ?_)
  obtain ⟨hx, hb, hml, hown, hts⟩ := id CX
  have hl : lv_has ls 4 [(0, .ref (x 0)), (1, .int (nI k)), (2, .int v)] := hl
  have hW : wldS G A_ [[(x 0, .inr (5, [.ref (a 0), .ref (b 0), .ref (x 3), .ref (x 1), .ref (x 2), .ref (x 5)]))], [(x 3, .inr (1, [.ref (x 4), .int (nI hn)])), (x 4, .inl (cA 3, 6, .inr (.inr (.inr (.inr (stR ha))))))], tkW cA (ha 0) (hT 0), tkW cA (ha 1) (hT 1), tkW cA (ha 2) (hT 2), tkW cA (ha 3) (hT 3), tkW cA (ha 4) (hT 4), tkW cA (ha 5) (hT 5), tkW cA a T] s_.heap s_.heap [] := wldS.of hW
  refine lv_iload_n hx hb dX5_set_0 rfl (lv_at hl 1 rfl) ?_
  refine rn_if_lt hx hb (by omega) dX5_set_1 (by decide) (tgt := 9) (fun c_1 => ?_) (fun c_1 => ?_)
  · exact c_1.elim
  · refine lv_iload_n hx hb dX5_set_4 rfl (lv_at hl 1 rfl) ?_
    refine rn_iconst hx hb 4 rfl dX5_set_5 ?_
    refine rn_icmp_lt hx hb (by omega) (by omega) dX5_set_6 (by decide) (tgt := 12) (fun c_6 => ?_) (fun c_6 => ?_)
    · refine lv_iload_n hx hb dX5_set_12 rfl (lv_at hl 2 rfl) ?_
      refine rs_static hx hb hB.1 hW.flat.2.2 hown (hts _ w_X5_set_st41) dX5_set_13 ?_
      refine lv_iload_n hx hb dX5_set_16 rfl (lv_at hl 1 rfl) ?_
      refine rs_elem (f := fun j => leastF (nI j)) hx hb hB.2.1 hW.flat.2.2 (j := k) (by omega) (by decide) dX5_set_17 ?_
      refine lv_icmp_lt hx hb dX5_set_18 (by decide) (tgt := 30) (fun c_18 => ?_) (fun c_18 => ?_)
      · exact absurd c_18 (Int32.not_lt.mpr hv.1)
      · refine lv_iload_n hx hb dX5_set_21 rfl (lv_at hl 2 rfl) ?_
        refine rs_static hx hb hB.2.2.1 hW.flat.2.2 hown (hts _ w_X5_set_st45) dX5_set_22 ?_
        refine lv_iload_n hx hb dX5_set_25 rfl (lv_at hl 1 rfl) ?_
        refine rs_elem (f := fun j => mostF (nI j)) hx hb hB.2.2.2 hW.flat.2.2 (j := k) (by omega) (by decide) dX5_set_26 ?_
        refine lv_icmp_le hx hb dX5_set_27 (by decide) (tgt := 33) (fun c_27 => ?_) (fun c_27 => ?_)
        · refine lv_aload_n hx hb dX5_set_33 rfl (lv_at hl 0 rfl) ?_
          refine rg (T := TX5) (N := 6) CX hE (hW.hP 0 rfl) in_X5_set_X5 0 rfl rfl 2 (by decide) fl_X5_set_22 rfl rfl dX5_set_34 ?_
          refine lv_aload_n hx hb dX5_set_37 rfl (lv_at hl 0 rfl) ?_
          refine rg (T := TX5) (N := 6) CX hE (hW.hP 0 rfl) in_X5_set_X5 0 rfl rfl 0 (by decide) fl_X5_set_12 rfl rfl dX5_set_38 ?_
          refine muvVS (segs' := [[(x 0, .inr (5, [.ref (a 0), .ref (b 0), .ref (x 3), .ref (x 1), .ref (x 2), .ref (x 5)]))], [(x 3, .inr (1, [.ref (x 4), .int (nI (keepN hn))])), (x 4, .inl (cA 3, 6, .inr (.inr (.inr (.inr (stR (keepA ha hn)))))))], tkW cA ((keepA ha hn) 0) ((keepT hT hn T) 0), tkW cA ((keepA ha hn) 1) ((keepT hT hn T) 1), tkW cA ((keepA ha hn) 2) ((keepT hT hn T) 2), tkW cA ((keepA ha hn) 3) ((keepT hT hn T) 3), tkW cA ((keepA ha hn) 4) ((keepT hT hn T) 4), tkW cA ((keepA ha hn) 5) ((keepT hT hn T) 5), tkW cA a T]) CX hE hW hA (c_X1_keep l G cA x hn ha hT a T hhn) (cwV 1 hts gX5_set_X1_keep rfl rfl rfl hdv_X1_keep ⟨Nat.le_of_ble_eq_true rfl, Nat.le_of_ble_eq_true rfl⟩) [1, 2, 3, 4, 5, 6, 7, 8] (by decide) rfl rfl rfl (hW.hP 1 rfl) 0 rfl rfl rfl BM0_blind (fun _ _ _ _ => trivial) rfl hl.1 (rest := []) rfl (Nat.le_of_ble_eq_true rfl) dX5_set_41 ⟨Nat.zero_le _, Nat.zero_le _⟩ (fun H locs hW => ?_)
          refine lv_aload_n hx hb dX5_set_44 rfl (lv_at hl 0 rfl) ?_
          refine rg (T := TX5) (N := 6) CX hE (hW.hP 0 rfl) in_X5_set_X5 0 rfl rfl 0 (by decide) fl_X5_set_12 rfl rfl dX5_set_45 ?_
          refine rg (T := TX4) (N := 8) CX hE (hW.hP 8 rfl) in_X5_set_X4 0 rfl rfl 0 (by decide) fl_X5_set_52 rfl rfl dX5_set_48 ?_
          refine lv_iload_n hx hb dX5_set_51 rfl (lv_at hl 1 rfl) ?_
          refine rn_iald CX hE (hW.hP 8 rfl) 1 rfl (j := k) (by omega) (ltb rfl) dX5_set_52 ?_
          refine lv_istore_n (lv' := [(3, .int ((T.1 0) k)), (0, .ref (x 0)), (1, .int (nI k)), (2, .int v)]) hx hb dX5_set_53 rfl hl (by decide) rfl (fun ls hl => ?_)
          refine lv_aload_n hx hb dX5_set_54 rfl (lv_at hl 1 rfl) ?_
          refine rg (T := TX5) (N := 6) CX hE (hW.hP 0 rfl) in_X5_set_X5 0 rfl rfl 0 (by decide) fl_X5_set_12 rfl rfl dX5_set_55 ?_
          refine rg (T := TX4) (N := 8) CX hE (hW.hP 8 rfl) in_X5_set_X4 0 rfl rfl 0 (by decide) fl_X5_set_52 rfl rfl dX5_set_58 ?_
          refine lv_iload_n hx hb dX5_set_61 rfl (lv_at hl 2 rfl) ?_
          refine lv_iload_n hx hb dX5_set_62 rfl (lv_at hl 3 rfl) ?_
          refine rn_iastS (w' := [(a 0, .inr (4, [.ref (a 1), .ref (a 2), .ref (a 3), .ref (a 4), .ref (a 5), .ref (a 6), .ref (a 11), .int (nI (T.2 4 0))])), (a 1, .inl (cA 0, 4, .inl (upd (T.1 0) k v))), (a 2, .inl (cA 0, 60, .inl (T.1 1))), (a 3, .inl (cA 0, 60, .inl (T.1 2))), (a 4, .inl (cA 0, 60, .inl (T.1 3))), (a 5, .inl (cA 0, 60, .inl (T.1 4))), (a 6, .inr (0, [.ref (a 7), .ref (a 8), .ref (a 9), .ref (a 10), .int (nI (T.2 4 1))])), (a 7, .inl (cA 0, 5, .inl (fun k => nI ((T.2 0) k)))), (a 8, .inl (cA 0, 5, .inl (fun k => nI ((T.2 1) k)))), (a 9, .inl (cA 0, 5, .inl (T.1 5))), (a 10, .inl (cA 0, 5, .inl (T.1 6))), (a 11, .inr (3, [.ref (a 12), .ref (a 13), .ref (a 14), .int (nI (T.2 4 2))])), (a 12, .inl (cA 0, 3, .inl (fun k => nI ((T.2 2) k)))), (a 13, .inl (cA 0, 3, .inl (fun k => nI ((T.2 3) k)))), (a 14, .inl (cA 4, 3, .inr (.inr (.inr (.inr (row3 (a 15) (a 16) (a 17))))))), (a 15, .inl (cA 0, 24, .inl (T.1 7))), (a 16, .inl (cA 0, 24, .inl (T.1 8))), (a 17, .inl (cA 0, 24, .inl (T.1 9)))]) (segs' := [[(x 0, .inr (5, [.ref (a 0), .ref (b 0), .ref (x 3), .ref (x 1), .ref (x 2), .ref (x 5)]))], [(x 3, .inr (1, [.ref (x 4), .int (nI (keepN hn))])), (x 4, .inl (cA 3, 6, .inr (.inr (.inr (.inr (stR (keepA ha hn)))))))], tkW cA ((keepA ha hn) 0) ((keepT hT hn T) 0), tkW cA ((keepA ha hn) 1) ((keepT hT hn T) 1), tkW cA ((keepA ha hn) 2) ((keepT hT hn T) 2), tkW cA ((keepA ha hn) 3) ((keepT hT hn T) 3), tkW cA ((keepA ha hn) 4) ((keepT hT hn T) 4), tkW cA ((keepA ha hn) 5) ((keepT hT hn T) 5), [(a 0, .inr (4, [.ref (a 1), .ref (a 2), .ref (a 3), .ref (a 4), .ref (a 5), .ref (a 6), .ref (a 11), .int (nI (T.2 4 0))])), (a 1, .inl (cA 0, 4, .inl (upd (T.1 0) k v))), (a 2, .inl (cA 0, 60, .inl (T.1 1))), (a 3, .inl (cA 0, 60, .inl (T.1 2))), (a 4, .inl (cA 0, 60, .inl (T.1 3))), (a 5, .inl (cA 0, 60, .inl (T.1 4))), (a 6, .inr (0, [.ref (a 7), .ref (a 8), .ref (a 9), .ref (a 10), .int (nI (T.2 4 1))])), (a 7, .inl (cA 0, 5, .inl (fun k => nI ((T.2 0) k)))), (a 8, .inl (cA 0, 5, .inl (fun k => nI ((T.2 1) k)))), (a 9, .inl (cA 0, 5, .inl (T.1 5))), (a 10, .inl (cA 0, 5, .inl (T.1 6))), (a 11, .inr (3, [.ref (a 12), .ref (a 13), .ref (a 14), .int (nI (T.2 4 2))])), (a 12, .inl (cA 0, 3, .inl (fun k => nI ((T.2 2) k)))), (a 13, .inl (cA 0, 3, .inl (fun k => nI ((T.2 3) k)))), (a 14, .inl (cA 4, 3, .inr (.inr (.inr (.inr (row3 (a 15) (a 16) (a 17))))))), (a 15, .inl (cA 0, 24, .inl (T.1 7))), (a 16, .inl (cA 0, 24, .inl (T.1 8))), (a 17, .inl (cA 0, 24, .inl (T.1 9)))]]) CX hE hW 8 rfl 1 rfl (j := k) (by omega) (ltb rfl) rfl rfl dX5_set_63 (fun H locs hW => ?_)
          refine lv_iload_n hx hb dX5_set_64 rfl (lv_at hl 0 rfl) ?_
          have hW : wldS G A_ [[(x 0, .inr (5, [.ref (a 0), .ref (b 0), .ref (x 3), .ref (x 1), .ref (x 2), .ref (x 5)]))], [(x 3, .inr (1, [.ref (x 4), .int (nI (keepN hn))])), (x 4, .inl (cA 3, 6, .inr (.inr (.inr (.inr (stR (keepA ha hn)))))))], tkW cA ((keepA ha hn) 0) ((keepT hT hn T) 0), tkW cA ((keepA ha hn) 1) ((keepT hT hn T) 1), tkW cA ((keepA ha hn) 2) ((keepT hT hn T) 2), tkW cA ((keepA ha hn) 3) ((keepT hT hn T) 3), tkW cA ((keepA ha hn) 4) ((keepT hT hn T) 4), tkW cA ((keepA ha hn) 5) ((keepT hT hn T) 5), tkW cA a (setT T k v)] s_.heap H locs := hW
          exact mu_reti CX hr hlk rfl rfl hW.flat dX5_set_65
        · exact absurd hv.2 c_27
    · exact absurd hk (by omega)
