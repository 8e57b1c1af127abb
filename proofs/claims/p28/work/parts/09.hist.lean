theorem c_X4_becomeS (l : Launch) (G : va_G) (cA : Nat → ClassId) (a : Nat → Nat) (T : TV) (b : Nat → Nat) (S : TV) : MUv l yX4_become wsX4_become ({ frames := 2, cells := 0, slots := 0, locals := 86 }) G cA BM0 ([tkW cA a T, tkW cA b S] : List va_W).flatten [.ref (a 0), .ref (b 0)] ([tkW cA a S, tkW cA b S] : List va_W).flatten := (c_X4_become l G cA a T b S).seg2
theorem fl_X1_loseOldest_11 : Cond.fieldLink RX1 11 RX1 (TX1 0).2.1 (TX1 0).2.2.1 ∈ wsX1_loseOldest := by decide +kernel
theorem in_X1_loseOldest_X1 : ∀ w ∈ wsX10, w ∈ wsX1_loseOldest := by decide +kernel
theorem kb_6 : (Int8.ofInt (6)).toInt32 = (nI 6) := by decide +kernel
theorem fl_X1_loseOldest_17 : Cond.fieldLink RX1 17 RX1 (TX1 1).2.1 (TX1 1).2.2.1 ∈ wsX1_loseOldest := by decide +kernel
set_option maxHeartbeats 8000000 in
set_option maxRecDepth 100000 in
theorem c_X1_loseOldest (l : Launch) (G : va_G) (cA : Nat → ClassId) (x : Nat → Nat) (hn : Nat) (ha : Nat → Nat → Nat) (hT : Nat → TV)  : MUv l yX1_loseOldest wsX1_loseOldest ({ frames := 0, cells := 0, slots := 0, locals := 0 }) G cA BM0 (([[(x 3, .inr (1, [.ref (x 4), .int (nI hn)])), (x 4, .inl (cA 3, 6, .inr (.inr (.inr (.inr (stR ha))))))], tkW cA (ha 0) (hT 0), tkW cA (ha 1) (hT 1), tkW cA (ha 2) (hT 2), tkW cA (ha 3) (hT 3), tkW cA (ha 4) (hT 4), tkW cA (ha 5) (hT 5)] : List va_W).flatten) [.ref (x 3)] (([[(x 3, .inr (1, [.ref (x 4), .int (nI 5)])), (x 4, .inl (cA 3, 6, .inr (.inr (.inr (.inr (stR (rot ha)))))))], tkW cA ((rot ha) 0) ((rot hT) 0), tkW cA ((rot ha) 1) ((rot hT) 1), tkW cA ((rot ha) 2) ((rot hT) 2), tkW cA ((rot ha) 3) ((rot hT) 3), tkW cA ((rot ha) 4) ((rot hT) 4), tkW cA ((rot ha) 5) ((rot hT) 5)] : List va_W).flatten) := by
  refine MUv.mk (own := RX1) (by decide) rfl rfl (Nat.le_of_ble_eq_true rfl) (fun p_ e_ s_ m_ below meth c_ ls A_ CX hr hlk hW hA hE hB hl => ?_)
  obtain ⟨hx, hb, hml, hown, hts⟩ := id CX
  have hl : lv_has ls 3 [(0, .ref (x 3))] := hl
  have hW : wldS G A_ [[(x 3, .inr (1, [.ref (x 4), .int (nI hn)])), (x 4, .inl (cA 3, 6, .inr (.inr (.inr (.inr (stR ha))))))], tkW cA (ha 0) (hT 0), tkW cA (ha 1) (hT 1), tkW cA (ha 2) (hT 2), tkW cA (ha 3) (hT 3), tkW cA (ha 4) (hT 4), tkW cA (ha 5) (hT 5)] s_.heap s_.heap [] := wldS.of hW
  refine lv_aload_n hx hb dX1_loseOldest_0 rfl (lv_at hl 0 rfl) ?_
  refine rg (T := TX1) (N := 2) CX hE (hW.hP 0 rfl) in_X1_loseOldest_X1 0 rfl rfl 0 (by decide) fl_X1_loseOldest_11 rfl rfl dX1_loseOldest_1 ?_
  refine rn_iconst hx hb 0 rfl dX1_loseOldest_4 ?_
  refine rn_aald3 CX hE (hW.hP 0 rfl) 1 rfl (j := 0) (by omega) (ltb rfl) (r := ((ha 0) 0)) rfl dX1_loseOldest_5 ?_
  refine lv_astore_n (lv' := [(1, .ref ((ha 0) 0)), (0, .ref (x 3))]) hx hb dX1_loseOldest_6 rfl hl (by decide) rfl (fun ls hl => ?_)
  refine rn_iconst hx hb 1 rfl dX1_loseOldest_7 ?_
  refine lv_istore_n (lv' := [(2, .int (nI 1)), (1, .ref ((ha 0) 0)), (0, .ref (x 3))]) hx hb dX1_loseOldest_8 rfl hl (by decide) rfl (fun ls hl => ?_)
  refine lv_iload_n hx hb dX1_loseOldest_9 rfl (lv_at hl 0 rfl) ?_
  refine lv_bipush (v := (nI 6)) hx hb dX1_loseOldest_10 kb_6 ?_
  refine rn_icmp_ge hx hb (by omega) (by omega) dX1_loseOldest_12 (by decide) (tgt := 35) (fun c_12 => ?_) (fun c_12 => ?_)
  · exact absurd c_12 (by omega)
  · refine lv_aload_n hx hb dX1_loseOldest_15 rfl (lv_at hl 2 rfl) ?_
    refine rg (T := TX1) (N := 2) CX hE (hW.hP 0 rfl) in_X1_loseOldest_X1 0 rfl rfl 0 (by decide) fl_X1_loseOldest_11 rfl rfl dX1_loseOldest_16 ?_
    refine lv_iload_n hx hb dX1_loseOldest_19 rfl (lv_at hl 0 rfl) ?_
    refine rn_iconst hx hb 1 rfl dX1_loseOldest_20 ?_
    refine rn_isub hx hb (by omega) dX1_loseOldest_21 ?_
    refine lv_aload_n hx hb dX1_loseOldest_22 rfl (lv_at hl 2 rfl) ?_
    refine rg (T := TX1) (N := 2) CX hE (hW.hP 0 rfl) in_X1_loseOldest_X1 0 rfl rfl 0 (by decide) fl_X1_loseOldest_11 rfl rfl dX1_loseOldest_23 ?_
    refine lv_iload_n hx hb dX1_loseOldest_26 rfl (lv_at hl 0 rfl) ?_
    refine rn_aald3 CX hE (hW.hP 0 rfl) 1 rfl (j := 1) (by omega) (ltb rfl) (r := ((ha 1) 0)) rfl dX1_loseOldest_27 ?_
    refine rn_aast3S (w' := [(x 3, .inr (1, [.ref (x 4), .int (nI hn)])), (x 4, .inl (cA 3, 6, .inr (.inr (.inr (.inr (va_up (stR ha) 0 (some ((ha 1) 0))))))))]) (segs' := [[(x 3, .inr (1, [.ref (x 4), .int (nI hn)])), (x 4, .inl (cA 3, 6, .inr (.inr (.inr (.inr (va_up (stR ha) 0 (some ((ha 1) 0))))))))], tkW cA (ha 0) (hT 0), tkW cA (ha 1) (hT 1), tkW cA (ha 2) (hT 2), tkW cA (ha 3) (hT 3), tkW cA (ha 4) (hT 4), tkW cA (ha 5) (hT 5)]) CX hE hW 0 rfl 1 rfl 2 rfl 0 rfl (j := 0) (by omega) (ltb rfl) rfl rfl dX1_loseOldest_28 (fun H locs hW => ?_)
    refine rn_iinc hx hb (n := 1) (lv' := [(2, .int (nI 2)), (1, .ref ((ha 0) 0)), (0, .ref (x 3))]) rfl dX1_loseOldest_29 hl (k := 0) rfl (by decide) rfl (fun ls hl => ?_)
    refine lv_goto (tgt := 9) hx hb dX1_loseOldest_32 (by decide) ?_
    refine lv_iload_n hx hb dX1_loseOldest_9 rfl (lv_at hl 0 rfl) ?_
    refine lv_bipush (v := (nI 6)) hx hb dX1_loseOldest_10 kb_6 ?_
    refine rn_icmp_ge hx hb (by omega) (by omega) dX1_loseOldest_12 (by decide) (tgt := 35) (fun c_12 => ?_) (fun c_12 => ?_)
    · exact absurd c_12 (by omega)
    · refine lv_aload_n hx hb dX1_loseOldest_15 rfl (lv_at hl 2 rfl) ?_
      refine rg (T := TX1) (N := 2) CX hE (hW.hP 0 rfl) in_X1_loseOldest_X1 0 rfl rfl 0 (by decide) fl_X1_loseOldest_11 rfl rfl dX1_loseOldest_16 ?_
      refine lv_iload_n hx hb dX1_loseOldest_19 rfl (lv_at hl 0 rfl) ?_
      refine rn_iconst hx hb 1 rfl dX1_loseOldest_20 ?_
      refine rn_isub hx hb (by omega) dX1_loseOldest_21 ?_
      refine lv_aload_n hx hb dX1_loseOldest_22 rfl (lv_at hl 2 rfl) ?_
      refine rg (T := TX1) (N := 2) CX hE (hW.hP 0 rfl) in_X1_loseOldest_X1 0 rfl rfl 0 (by decide) fl_X1_loseOldest_11 rfl rfl dX1_loseOldest_23 ?_
      refine lv_iload_n hx hb dX1_loseOldest_26 rfl (lv_at hl 0 rfl) ?_
      refine rn_aald3 CX hE (hW.hP 0 rfl) 1 rfl (j := 2) (by omega) (ltb rfl) (r := ((ha 2) 0)) rfl dX1_loseOldest_27 ?_
      refine rn_aast3S (w' := [(x 3, .inr (1, [.ref (x 4), .int (nI hn)])), (x 4, .inl (cA 3, 6, .inr (.inr (.inr (.inr (va_up (va_up (stR ha) 0 (some ((ha 1) 0))) 1 (some ((ha 2) 0))))))))]) (segs' := [[(x 3, .inr (1, [.ref (x 4), .int (nI hn)])), (x 4, .inl (cA 3, 6, .inr (.inr (.inr (.inr (va_up (va_up (stR ha) 0 (some ((ha 1) 0))) 1 (some ((ha 2) 0))))))))], tkW cA (ha 0) (hT 0), tkW cA (ha 1) (hT 1), tkW cA (ha 2) (hT 2), tkW cA (ha 3) (hT 3), tkW cA (ha 4) (hT 4), tkW cA (ha 5) (hT 5)]) CX hE hW 0 rfl 1 rfl 3 rfl 0 rfl (j := 1) (by omega) (ltb rfl) rfl rfl dX1_loseOldest_28 (fun H locs hW => ?_)
      refine rn_iinc hx hb (n := 1) (lv' := [(2, .int (nI 3)), (1, .ref ((ha 0) 0)), (0, .ref (x 3))]) rfl dX1_loseOldest_29 hl (k := 0) rfl (by decide) rfl (fun ls hl => ?_)
      refine lv_goto (tgt := 9) hx hb dX1_loseOldest_32 (by decide) ?_
      refine lv_iload_n hx hb dX1_loseOldest_9 rfl (lv_at hl 0 rfl) ?_
      refine lv_bipush (v := (nI 6)) hx hb dX1_loseOldest_10 kb_6 ?_
      refine rn_icmp_ge hx hb (by omega) (by omega) dX1_loseOldest_12 (by decide) (tgt := 35) (fun c_12 => ?_) (fun c_12 => ?_)
      · exact absurd c_12 (by omega)
      · refine lv_aload_n hx hb dX1_loseOldest_15 rfl (lv_at hl 2 rfl) ?_
        refine rg (T := TX1) (N := 2) CX hE (hW.hP 0 rfl) in_X1_loseOldest_X1 0 rfl rfl 0 (by decide) fl_X1_loseOldest_11 rfl rfl dX1_loseOldest_16 ?_
        refine lv_iload_n hx hb dX1_loseOldest_19 rfl (lv_at hl 0 rfl) ?_
        refine rn_iconst hx hb 1 rfl dX1_loseOldest_20 ?_
        refine rn_isub hx hb (by omega) dX1_loseOldest_21 ?_
        refine lv_aload_n hx hb dX1_loseOldest_22 rfl (lv_at hl 2 rfl) ?_
        refine rg (T := TX1) (N := 2) CX hE (hW.hP 0 rfl) in_X1_loseOldest_X1 0 rfl rfl 0 (by decide) fl_X1_loseOldest_11 rfl rfl dX1_loseOldest_23 ?_
        refine lv_iload_n hx hb dX1_loseOldest_26 rfl (lv_at hl 0 rfl) ?_
        refine rn_aald3 CX hE (hW.hP 0 rfl) 1 rfl (j := 3) (by omega) (ltb rfl) (r := ((ha 3) 0)) rfl dX1_loseOldest_27 ?_
        refine rn_aast3S (w' := [(x 3, .inr (1, [.ref (x 4), .int (nI hn)])), (x 4, .inl (cA 3, 6, .inr (.inr (.inr (.inr (va_up (va_up (va_up (stR ha) 0 (some ((ha 1) 0))) 1 (some ((ha 2) 0))) 2 (some ((ha 3) 0))))))))]) (segs' := [[(x 3, .inr (1, [.ref (x 4), .int (nI hn)])), (x 4, .inl (cA 3, 6, .inr (.inr (.inr (.inr (va_up (va_up (va_up (stR ha) 0 (some ((ha 1) 0))) 1 (some ((ha 2) 0))) 2 (some ((ha 3) 0))))))))], tkW cA (ha 0) (hT 0), tkW cA (ha 1) (hT 1), tkW cA (ha 2) (hT 2), tkW cA (ha 3) (hT 3), tkW cA (ha 4) (hT 4), tkW cA (ha 5) (hT 5)]) CX hE hW 0 rfl 1 rfl 4 rfl 0 rfl (j := 2) (by omega) (ltb rfl) rfl rfl dX1_loseOldest_28 (fun H locs hW => ?_)
        refine rn_iinc hx hb (n := 1) (lv' := [(2, .int (nI 4)), (1, .ref ((ha 0) 0)), (0, .ref (x 3))]) rfl dX1_loseOldest_29 hl (k := 0) rfl (by decide) rfl (fun ls hl => ?_)
        refine lv_goto (tgt := 9) hx hb dX1_loseOldest_32 (by decide) ?_
        refine lv_iload_n hx hb dX1_loseOldest_9 rfl (lv_at hl 0 rfl) ?_
        refine lv_bipush (v := (nI 6)) hx hb dX1_loseOldest_10 kb_6 ?_
        refine rn_icmp_ge hx hb (by omega) (by omega) dX1_loseOldest_12 (by decide) (tgt := 35) (fun c_12 => ?_) (fun c_12 => ?_)
        · exact absurd c_12 (by omega)
        · refine lv_aload_n hx hb dX1_loseOldest_15 rfl (lv_at hl 2 rfl) ?_
          refine rg (T := TX1) (N := 2) CX hE (hW.hP 0 rfl) in_X1_loseOldest_X1 0 rfl rfl 0 (by decide) fl_X1_loseOldest_11 rfl rfl dX1_loseOldest_16 ?_
          refine lv_iload_n hx hb dX1_loseOldest_19 rfl (lv_at hl 0 rfl) ?_
          refine rn_iconst hx hb 1 rfl dX1_loseOldest_20 ?_
          refine rn_isub hx hb (by omega) dX1_loseOldest_21 ?_
          refine lv_aload_n hx hb dX1_loseOldest_22 rfl (lv_at hl 2 rfl) ?_
          refine rg (T := TX1) (N := 2) CX hE (hW.hP 0 rfl) in_X1_loseOldest_X1 0 rfl rfl 0 (by decide) fl_X1_loseOldest_11 rfl rfl dX1_loseOldest_23 ?_
          refine lv_iload_n hx hb dX1_loseOldest_26 rfl (lv_at hl 0 rfl) ?_
          refine rn_aald3 CX hE (hW.hP 0 rfl) 1 rfl (j := 4) (by omega) (ltb rfl) (r := ((ha 4) 0)) rfl dX1_loseOldest_27 ?_
          refine rn_aast3S (w' := [(x 3, .inr (1, [.ref (x 4), .int (nI hn)])), (x 4, .inl (cA 3, 6, .inr (.inr (.inr (.inr (va_up (va_up (va_up (va_up (stR ha) 0 (some ((ha 1) 0))) 1 (some ((ha 2) 0))) 2 (some ((ha 3) 0))) 3 (some ((ha 4) 0))))))))]) (segs' := [[(x 3, .inr (1, [.ref (x 4), .int (nI hn)])), (x 4, .inl (cA 3, 6, .inr (.inr (.inr (.inr (va_up (va_up (va_up (va_up (stR ha) 0 (some ((ha 1) 0))) 1 (some ((ha 2) 0))) 2 (some ((ha 3) 0))) 3 (some ((ha 4) 0))))))))], tkW cA (ha 0) (hT 0), tkW cA (ha 1) (hT 1), tkW cA (ha 2) (hT 2), tkW cA (ha 3) (hT 3), tkW cA (ha 4) (hT 4), tkW cA (ha 5) (hT 5)]) CX hE hW 0 rfl 1 rfl 5 rfl 0 rfl (j := 3) (by omega) (ltb rfl) rfl rfl dX1_loseOldest_28 (fun H locs hW => ?_)
          refine rn_iinc hx hb (n := 1) (lv' := [(2, .int (nI 5)), (1, .ref ((ha 0) 0)), (0, .ref (x 3))]) rfl dX1_loseOldest_29 hl (k := 0) rfl (by decide) rfl (fun ls hl => ?_)
          refine lv_goto (tgt := 9) hx hb dX1_loseOldest_32 (by decide) ?_
          refine lv_iload_n hx hb dX1_loseOldest_9 rfl (lv_at hl 0 rfl) ?_
          refine lv_bipush (v := (nI 6)) hx hb dX1_loseOldest_10 kb_6 ?_
          refine rn_icmp_ge hx hb (by omega) (by omega) dX1_loseOldest_12 (by decide) (tgt := 35) (fun c_12 => ?_) (fun c_12 => ?_)
          · exact absurd c_12 (by omega)
          · refine lv_aload_n hx hb dX1_loseOldest_15 rfl (lv_at hl 2 rfl) ?_
            refine rg (T := TX1) (N := 2) CX hE (hW.hP 0 rfl) in_X1_loseOldest_X1 0 rfl rfl 0 (by decide) fl_X1_loseOldest_11 rfl rfl dX1_loseOldest_16 ?_
            refine lv_iload_n hx hb dX1_loseOldest_19 rfl (lv_at hl 0 rfl) ?_
            refine rn_iconst hx hb 1 rfl dX1_loseOldest_20 ?_
            refine rn_isub hx hb (by omega) dX1_loseOldest_21 ?_
            refine lv_aload_n hx hb dX1_loseOldest_22 rfl (lv_at hl 2 rfl) ?_
            refine rg (T := TX1) (N := 2) CX hE (hW.hP 0 rfl) in_X1_loseOldest_X1 0 rfl rfl 0 (by decide) fl_X1_loseOldest_11 rfl rfl dX1_loseOldest_23 ?_
            refine lv_iload_n hx hb dX1_loseOldest_26 rfl (lv_at hl 0 rfl) ?_
            refine rn_aald3 CX hE (hW.hP 0 rfl) 1 rfl (j := 5) (by omega) (ltb rfl) (r := ((ha 5) 0)) rfl dX1_loseOldest_27 ?_
            refine rn_aast3S (w' := [(x 3, .inr (1, [.ref (x 4), .int (nI hn)])), (x 4, .inl (cA 3, 6, .inr (.inr (.inr (.inr (va_up (va_up (va_up (va_up (va_up (stR ha) 0 (some ((ha 1) 0))) 1 (some ((ha 2) 0))) 2 (some ((ha 3) 0))) 3 (some ((ha 4) 0))) 4 (some ((ha 5) 0))))))))]) (segs' := [[(x 3, .inr (1, [.ref (x 4), .int (nI hn)])), (x 4, .inl (cA 3, 6, .inr (.inr (.inr (.inr (va_up (va_up (va_up (va_up (va_up (stR ha) 0 (some ((ha 1) 0))) 1 (some ((ha 2) 0))) 2 (some ((ha 3) 0))) 3 (some ((ha 4) 0))) 4 (some ((ha 5) 0))))))))], tkW cA (ha 0) (hT 0), tkW cA (ha 1) (hT 1), tkW cA (ha 2) (hT 2), tkW cA (ha 3) (hT 3), tkW cA (ha 4) (hT 4), tkW cA (ha 5) (hT 5)]) CX hE hW 0 rfl 1 rfl 6 rfl 0 rfl (j := 4) (by omega) (ltb rfl) rfl rfl dX1_loseOldest_28 (fun H locs hW => ?_)
            refine rn_iinc hx hb (n := 1) (lv' := [(2, .int (nI 6)), (1, .ref ((ha 0) 0)), (0, .ref (x 3))]) rfl dX1_loseOldest_29 hl (k := 0) rfl (by decide) rfl (fun ls hl => ?_)
            refine lv_goto (tgt := 9) hx hb dX1_loseOldest_32 (by decide) ?_
            refine lv_iload_n hx hb dX1_loseOldest_9 rfl (lv_at hl 0 rfl) ?_
            refine lv_bipush (v := (nI 6)) hx hb dX1_loseOldest_10 kb_6 ?_
            refine rn_icmp_ge hx hb (by omega) (by omega) dX1_loseOldest_12 (by decide) (tgt := 35) (fun c_12 => ?_) (fun c_12 => ?_)
            · refine lv_aload_n hx hb dX1_loseOldest_35 rfl (lv_at hl 2 rfl) ?_
              refine rg (T := TX1) (N := 2) CX hE (hW.hP 0 rfl) in_X1_loseOldest_X1 0 rfl rfl 0 (by decide) fl_X1_loseOldest_11 rfl rfl dX1_loseOldest_36 ?_
              refine rn_iconst hx hb 5 rfl dX1_loseOldest_39 ?_
              refine lv_aload_n hx hb dX1_loseOldest_40 rfl (lv_at hl 1 rfl) ?_
              refine rn_aast3S (w' := [(x 3, .inr (1, [.ref (x 4), .int (nI hn)])), (x 4, .inl (cA 3, 6, .inr (.inr (.inr (.inr (va_up (va_up (va_up (va_up (va_up (va_up (stR ha) 0 (some ((ha 1) 0))) 1 (some ((ha 2) 0))) 2 (some ((ha 3) 0))) 3 (some ((ha 4) 0))) 4 (some ((ha 5) 0))) 5 (some ((ha 0) 0))))))))]) (segs' := [[(x 3, .inr (1, [.ref (x 4), .int (nI hn)])), (x 4, .inl (cA 3, 6, .inr (.inr (.inr (.inr (va_up (va_up (va_up (va_up (va_up (va_up (stR ha) 0 (some ((ha 1) 0))) 1 (some ((ha 2) 0))) 2 (some ((ha 3) 0))) 3 (some ((ha 4) 0))) 4 (some ((ha 5) 0))) 5 (some ((ha 0) 0))))))))], tkW cA (ha 0) (hT 0), tkW cA (ha 1) (hT 1), tkW cA (ha 2) (hT 2), tkW cA (ha 3) (hT 3), tkW cA (ha 4) (hT 4), tkW cA (ha 5) (hT 5)]) CX hE hW 0 rfl 1 rfl 1 rfl 0 rfl (j := 5) (by omega) (ltb rfl) rfl rfl dX1_loseOldest_41 (fun H locs hW => ?_)
              refine lv_aload_n hx hb dX1_loseOldest_42 rfl (lv_at hl 2 rfl) ?_
              refine rn_iconst hx hb 5 rfl dX1_loseOldest_43 ?_
              refine rpS (T := TX1) (N := 2) (w' := [(x 3, .inr (1, [.ref (x 4), .int (nI 5)])), (x 4, .inl (cA 3, 6, .inr (.inr (.inr (.inr (va_up (va_up (va_up (va_up (va_up (va_up (stR ha) 0 (some ((ha 1) 0))) 1 (some ((ha 2) 0))) 2 (some ((ha 3) 0))) 3 (some ((ha 4) 0))) 4 (some ((ha 5) 0))) 5 (some ((ha 0) 0))))))))]) (segs' := [[(x 3, .inr (1, [.ref (x 4), .int (nI 5)])), (x 4, .inl (cA 3, 6, .inr (.inr (.inr (.inr (va_up (va_up (va_up (va_up (va_up (va_up (stR ha) 0 (some ((ha 1) 0))) 1 (some ((ha 2) 0))) 2 (some ((ha 3) 0))) 3 (some ((ha 4) 0))) 4 (some ((ha 5) 0))) 5 (some ((ha 0) 0))))))))], tkW cA (ha 0) (hT 0), tkW cA (ha 1) (hT 1), tkW cA (ha 2) (hT 2), tkW cA (ha 3) (hT 3), tkW cA (ha 4) (hT 4), tkW cA (ha 5) (hT 5)]) CX hE hW 0 rfl in_X1_loseOldest_X1 tyX1 tyX1_ok nmX1 0 rfl rfl 1 (by decide) fl_X1_loseOldest_17 rfl rfl rfl rfl (Nat.le_of_ble_eq_true rfl) rfl rfl dX1_loseOldest_44 (fun H locs hW => ?_)
              have hW := wldS.extq hW (w' := [(x 3, .inr (1, [.ref (x 4), .int (nI 5)])), (x 4, .inl (cA 3, 6, .inr (.inr (.inr (.inr (stR (rot ha)))))))]) (segs' := [[(x 3, .inr (1, [.ref (x 4), .int (nI 5)])), (x 4, .inl (cA 3, 6, .inr (.inr (.inr (.inr (stR (rot ha)))))))], tkW cA (ha 0) (hT 0), tkW cA (ha 1) (hT 1), tkW cA (ha 2) (hT 2), tkW cA (ha 3) (hT 3), tkW cA (ha 4) (hT 4), tkW cA (ha 5) (hT 5)]) 0 rfl 1 (g := (stR (rot ha))) rfl (six rfl rfl rfl rfl rfl rfl) rfl rfl
              have hW := hW.sub (wc := [[(x 3, .inr (1, [.ref (x 4), .int (nI 5)])), (x 4, .inl (cA 3, 6, .inr (.inr (.inr (.inr (stR (rot ha)))))))], tkW cA (ha 1) (hT 1), tkW cA (ha 2) (hT 2), tkW cA (ha 3) (hT 3), tkW cA (ha 4) (hT 4), tkW cA (ha 5) (hT 5), tkW cA (ha 0) (hT 0)]) [0, 2, 3, 4, 5, 6, 1] (by decide) rfl
              exact mu_retv CX hr hlk hW.flat dX1_loseOldest_47
            · exact absurd c_12 (by omega)
theorem fl_X1_keep_17 : Cond.fieldLink RX1 17 RX1 (TX1 1).2.1 (TX1 1).2.2.1 ∈ wsX1_keep := by decide +kernel
theorem in_X1_keep_X1 : ∀ w ∈ wsX10, w ∈ wsX1_keep := by decide +kernel
theorem fl_X1_keep_11 : Cond.fieldLink RX1 11 RX1 (TX1 0).2.1 (TX1 0).2.2.1 ∈ wsX1_keep := by decide +kernel
theorem hdv_X4_become : yX4_become.cls = RX4 ∧ yX4_become.cls ≠ "java/lang/invoke/MethodHandle" ∧ yX4_become.cls ≠ "java/lang/invoke/VarHandle" ∧ (parseMethodDescriptor yX4_become.desc).map (fun d => d.parameters.length) = some 1 := by decide +kernel
theorem hdv_X1_loseOldest : yX1_loseOldest.cls = RX1 ∧ yX1_loseOldest.cls ≠ "java/lang/invoke/MethodHandle" ∧ yX1_loseOldest.cls ≠ "java/lang/invoke/VarHandle" ∧ (parseMethodDescriptor yX1_loseOldest.desc).map (fun d => d.parameters.length) = some 0 := by decide +kernel
set_option maxHeartbeats 16000000 in
set_option maxRecDepth 100000 in
theorem c_X1_keep (l : Launch) (G : va_G) (cA : Nat → ClassId) (x : Nat → Nat) (hn : Nat) (ha : Nat → Nat → Nat) (hT : Nat → TV) (a : Nat → Nat) (T : TV) (hhn : hn ≤ 6) : MUv l yX1_keep wsX1_keep ({ frames := 3, cells := 0, slots := 0, locals := 107 }) G cA BM0 (([[(x 3, .inr (1, [.ref (x 4), .int (nI hn)])), (x 4, .inl (cA 3, 6, .inr (.inr (.inr (.inr (stR ha))))))], tkW cA (ha 0) (hT 0), tkW cA (ha 1) (hT 1), tkW cA (ha 2) (hT 2), tkW cA (ha 3) (hT 3), tkW cA (ha 4) (hT 4), tkW cA (ha 5) (hT 5), tkW cA a T] : List va_W).flatten) [.ref (x 3), .ref (a 0)] (([[(x 3, .inr (1, [.ref (x 4), .int (nI (keepN hn))])), (x 4, .inl (cA 3, 6, .inr (.inr (.inr (.inr (stR (keepA ha hn)))))))], tkW cA ((keepA ha hn) 0) ((keepT hT hn T) 0), tkW cA ((keepA ha hn) 1) ((keepT hT hn T) 1), tkW cA ((keepA ha hn) 2) ((keepT hT hn T) 2), tkW cA ((keepA ha hn) 3) ((keepT hT hn T) 3), tkW cA ((keepA ha hn) 4) ((keepT hT hn T) 4), tkW cA ((keepA ha hn) 5) ((keepT hT hn T) 5), tkW cA a T] : List va_W).flatten) := by
  refine MUv.mk (own := RX1) (by decide) rfl rfl (Nat.le_of_ble_eq_true rfl) (fun p_ e_ s_ m_ below meth c_ ls A_ CX hr hlk hW hA hE hB hl => ?_)
  obtain ⟨hx, hb, hml, hown, hts⟩ := id CX
  have hl : lv_has ls 2 [(0, .ref (x 3)), (1, .ref (a 0))] := hl
  have hW : wldS G A_ [[(x 3, .inr (1, [.ref (x 4), .int (nI hn)])), (x 4, .inl (cA 3, 6, .inr (.inr (.inr (.inr (stR ha))))))], tkW cA (ha 0) (hT 0), tkW cA (ha 1) (hT 1), tkW cA (ha 2) (hT 2), tkW cA (ha 3) (hT 3), tkW cA (ha 4) (hT 4), tkW cA (ha 5) (hT 5), tkW cA a T] s_.heap s_.heap [] := wldS.of hW
  rcases (show hn = 0 ∨ hn = 1 ∨ hn = 2 ∨ hn = 3 ∨ hn = 4 ∨ hn = 5 ∨ hn = 6 by omega) with rfl | rfl | rfl | rfl | rfl | rfl | rfl
  · refine lv_aload_n hx hb dX1_keep_0 rfl (lv_at hl 0 rfl) ?_
    refine rg (T := TX1) (N := 2) CX hE (hW.hP 0 rfl) in_X1_keep_X1 0 rfl rfl 1 (by decide) fl_X1_keep_17 rfl rfl dX1_keep_1 ?_
    refine lv_bipush (v := (nI 6)) hx hb dX1_keep_4 kb_6 ?_
    refine rn_icmp_lt hx hb (by omega) (by omega) dX1_keep_6 (by decide) (tgt := 13) (fun c_6 => ?_) (fun c_6 => ?_)
    · refine lv_aload_n hx hb dX1_keep_13 rfl (lv_at hl 0 rfl) ?_
      refine rg (T := TX1) (N := 2) CX hE (hW.hP 0 rfl) in_X1_keep_X1 0 rfl rfl 0 (by decide) fl_X1_keep_11 rfl rfl dX1_keep_14 ?_
      refine lv_aload_n hx hb dX1_keep_17 rfl (lv_at hl 0 rfl) ?_
      refine rg (T := TX1) (N := 2) CX hE (hW.hP 0 rfl) in_X1_keep_X1 0 rfl rfl 1 (by decide) fl_X1_keep_17 rfl rfl dX1_keep_18 ?_
      refine rn_aald3 CX hE (hW.hP 0 rfl) 1 rfl (j := 0) (by omega) (ltb rfl) (r := ((ha 0) 0)) rfl dX1_keep_21 ?_
      refine lv_aload_n hx hb dX1_keep_22 rfl (lv_at hl 1 rfl) ?_
      refine muvVS (segs' := [[(x 3, .inr (1, [.ref (x 4), .int (nI 0)])), (x 4, .inl (cA 3, 6, .inr (.inr (.inr (.inr (stR ha))))))], tkW cA (ha 0) T, tkW cA (ha 1) (hT 1), tkW cA (ha 2) (hT 2), tkW cA (ha 3) (hT 3), tkW cA (ha 4) (hT 4), tkW cA (ha 5) (hT 5), tkW cA a T]) CX hE hW hA (c_X4_becomeS l G cA (ha 0) (hT 0) a T ) (cwV 1 hts gX1_keep_X4_become rfl rfl rfl hdv_X4_become ⟨Nat.le_of_ble_eq_true rfl, Nat.le_of_ble_eq_true rfl⟩) [1, 7] (by decide) rfl rfl rfl (hW.hP 1 rfl) 0 rfl rfl rfl BM0_blind (fun _ _ _ _ => trivial) rfl hl.1 (rest := []) rfl (Nat.le_of_ble_eq_true rfl) dX1_keep_23 ⟨Nat.zero_le _, Nat.zero_le _⟩ (fun H locs hW => ?_)
      refine lv_aload_n hx hb dX1_keep_26 rfl (lv_at hl 0 rfl) ?_
      refine lv_dup hx hb dX1_keep_27 rfl ?_
      refine rg (T := TX1) (N := 2) CX hE (hW.hP 0 rfl) in_X1_keep_X1 0 rfl rfl 1 (by decide) fl_X1_keep_17 rfl rfl dX1_keep_28 ?_
      refine rn_iconst hx hb 1 rfl dX1_keep_31 ?_
      refine rn_iadd hx hb dX1_keep_32 ?_
      refine rpS (T := TX1) (N := 2) (w' := [(x 3, .inr (1, [.ref (x 4), .int (nI 1)])), (x 4, .inl (cA 3, 6, .inr (.inr (.inr (.inr (stR ha))))))]) (segs' := [[(x 3, .inr (1, [.ref (x 4), .int (nI 1)])), (x 4, .inl (cA 3, 6, .inr (.inr (.inr (.inr (stR ha))))))], tkW cA (ha 0) T, tkW cA (ha 1) (hT 1), tkW cA (ha 2) (hT 2), tkW cA (ha 3) (hT 3), tkW cA (ha 4) (hT 4), tkW cA (ha 5) (hT 5), tkW cA a T]) CX hE hW 0 rfl in_X1_keep_X1 tyX1 tyX1_ok nmX1 0 rfl rfl 1 (by decide) fl_X1_keep_17 rfl rfl rfl rfl (Nat.le_of_ble_eq_true rfl) rfl rfl dX1_keep_33 (fun H locs hW => ?_)
      exact mu_retv CX hr hlk hW.flat dX1_keep_36
    · exact absurd c_6 (by omega)
  · refine lv_aload_n hx hb dX1_keep_0 rfl (lv_at hl 0 rfl) ?_
    refine rg (T := TX1) (N := 2) CX hE (hW.hP 0 rfl) in_X1_keep_X1 0 rfl rfl 1 (by decide) fl_X1_keep_17 rfl rfl dX1_keep_1 ?_
    refine lv_bipush (v := (nI 6)) hx hb dX1_keep_4 kb_6 ?_
    refine rn_icmp_lt hx hb (by omega) (by omega) dX1_keep_6 (by decide) (tgt := 13) (fun c_6 => ?_) (fun c_6 => ?_)
    · refine lv_aload_n hx hb dX1_keep_13 rfl (lv_at hl 0 rfl) ?_
      refine rg (T := TX1) (N := 2) CX hE (hW.hP 0 rfl) in_X1_keep_X1 0 rfl rfl 0 (by decide) fl_X1_keep_11 rfl rfl dX1_keep_14 ?_
      refine lv_aload_n hx hb dX1_keep_17 rfl (lv_at hl 0 rfl) ?_
      refine rg (T := TX1) (N := 2) CX hE (hW.hP 0 rfl) in_X1_keep_X1 0 rfl rfl 1 (by decide) fl_X1_keep_17 rfl rfl dX1_keep_18 ?_
      refine rn_aald3 CX hE (hW.hP 0 rfl) 1 rfl (j := 1) (by omega) (ltb rfl) (r := ((ha 1) 0)) rfl dX1_keep_21 ?_
      refine lv_aload_n hx hb dX1_keep_22 rfl (lv_at hl 1 rfl) ?_
      refine muvVS (segs' := [[(x 3, .inr (1, [.ref (x 4), .int (nI 1)])), (x 4, .inl (cA 3, 6, .inr (.inr (.inr (.inr (stR ha))))))], tkW cA (ha 0) (hT 0), tkW cA (ha 1) T, tkW cA (ha 2) (hT 2), tkW cA (ha 3) (hT 3), tkW cA (ha 4) (hT 4), tkW cA (ha 5) (hT 5), tkW cA a T]) CX hE hW hA (c_X4_becomeS l G cA (ha 1) (hT 1) a T ) (cwV 1 hts gX1_keep_X4_become rfl rfl rfl hdv_X4_become ⟨Nat.le_of_ble_eq_true rfl, Nat.le_of_ble_eq_true rfl⟩) [2, 7] (by decide) rfl rfl rfl (hW.hP 2 rfl) 0 rfl rfl rfl BM0_blind (fun _ _ _ _ => trivial) rfl hl.1 (rest := []) rfl (Nat.le_of_ble_eq_true rfl) dX1_keep_23 ⟨Nat.zero_le _, Nat.zero_le _⟩ (fun H locs hW => ?_)
      refine lv_aload_n hx hb dX1_keep_26 rfl (lv_at hl 0 rfl) ?_
      refine lv_dup hx hb dX1_keep_27 rfl ?_
      refine rg (T := TX1) (N := 2) CX hE (hW.hP 0 rfl) in_X1_keep_X1 0 rfl rfl 1 (by decide) fl_X1_keep_17 rfl rfl dX1_keep_28 ?_
      refine rn_iconst hx hb 1 rfl dX1_keep_31 ?_
      refine rn_iadd hx hb dX1_keep_32 ?_
      refine rpS (T := TX1) (N := 2) (w' := [(x 3, .inr (1, [.ref (x 4), .int (nI 2)])), (x 4, .inl (cA 3, 6, .inr (.inr (.inr (.inr (stR ha))))))]) (segs' := [[(x 3, .inr (1, [.ref (x 4), .int (nI 2)])), (x 4, .inl (cA 3, 6, .inr (.inr (.inr (.inr (stR ha))))))], tkW cA (ha 0) (hT 0), tkW cA (ha 1) T, tkW cA (ha 2) (hT 2), tkW cA (ha 3) (hT 3), tkW cA (ha 4) (hT 4), tkW cA (ha 5) (hT 5), tkW cA a T]) CX hE hW 0 rfl in_X1_keep_X1 tyX1 tyX1_ok nmX1 0 rfl rfl 1 (by decide) fl_X1_keep_17 rfl rfl rfl rfl (Nat.le_of_ble_eq_true rfl) rfl rfl dX1_keep_33 (fun H locs hW => ?_)
      exact mu_retv CX hr hlk hW.flat dX1_keep_36
    · exact absurd c_6 (by omega)
  · refine lv_aload_n hx hb dX1_keep_0 rfl (lv_at hl 0 rfl) ?_
    refine rg (T := TX1) (N := 2) CX hE (hW.hP 0 rfl) in_X1_keep_X1 0 rfl rfl 1 (by decide) fl_X1_keep_17 rfl rfl dX1_keep_1 ?_
    refine lv_bipush (v := (nI 6)) hx hb dX1_keep_4 kb_6 ?_
    refine rn_icmp_lt hx hb (by omega) (by omega) dX1_keep_6 (by decide) (tgt := 13) (fun c_6 => ?_) (fun c_6 => ?_)
    · refine lv_aload_n hx hb dX1_keep_13 rfl (lv_at hl 0 rfl) ?_
      refine rg (T := TX1) (N := 2) CX hE (hW.hP 0 rfl) in_X1_keep_X1 0 rfl rfl 0 (by decide) fl_X1_keep_11 rfl rfl dX1_keep_14 ?_
      refine lv_aload_n hx hb dX1_keep_17 rfl (lv_at hl 0 rfl) ?_
      refine rg (T := TX1) (N := 2) CX hE (hW.hP 0 rfl) in_X1_keep_X1 0 rfl rfl 1 (by decide) fl_X1_keep_17 rfl rfl dX1_keep_18 ?_
      refine rn_aald3 CX hE (hW.hP 0 rfl) 1 rfl (j := 2) (by omega) (ltb rfl) (r := ((ha 2) 0)) rfl dX1_keep_21 ?_
      refine lv_aload_n hx hb dX1_keep_22 rfl (lv_at hl 1 rfl) ?_
      refine muvVS (segs' := [[(x 3, .inr (1, [.ref (x 4), .int (nI 2)])), (x 4, .inl (cA 3, 6, .inr (.inr (.inr (.inr (stR ha))))))], tkW cA (ha 0) (hT 0), tkW cA (ha 1) (hT 1), tkW cA (ha 2) T, tkW cA (ha 3) (hT 3), tkW cA (ha 4) (hT 4), tkW cA (ha 5) (hT 5), tkW cA a T]) CX hE hW hA (c_X4_becomeS l G cA (ha 2) (hT 2) a T ) (cwV 1 hts gX1_keep_X4_become rfl rfl rfl hdv_X4_become ⟨Nat.le_of_ble_eq_true rfl, Nat.le_of_ble_eq_true rfl⟩) [3, 7] (by decide) rfl rfl rfl (hW.hP 3 rfl) 0 rfl rfl rfl BM0_blind (fun _ _ _ _ => trivial) rfl hl.1 (rest := []) rfl (Nat.le_of_ble_eq_true rfl) dX1_keep_23 ⟨Nat.zero_le _, Nat.zero_le _⟩ (fun H locs hW => ?_)
      refine lv_aload_n hx hb dX1_keep_26 rfl (lv_at hl 0 rfl) ?_
      refine lv_dup hx hb dX1_keep_27 rfl ?_
      refine rg (T := TX1) (N := 2) CX hE (hW.hP 0 rfl) in_X1_keep_X1 0 rfl rfl 1 (by decide) fl_X1_keep_17 rfl rfl dX1_keep_28 ?_
      refine rn_iconst hx hb 1 rfl dX1_keep_31 ?_
      refine rn_iadd hx hb dX1_keep_32 ?_
      refine rpS (T := TX1) (N := 2) (w' := [(x 3, .inr (1, [.ref (x 4), .int (nI 3)])), (x 4, .inl (cA 3, 6, .inr (.inr (.inr (.inr (stR ha))))))]) (segs' := [[(x 3, .inr (1, [.ref (x 4), .int (nI 3)])), (x 4, .inl (cA 3, 6, .inr (.inr (.inr (.inr (stR ha))))))], tkW cA (ha 0) (hT 0), tkW cA (ha 1) (hT 1), tkW cA (ha 2) T, tkW cA (ha 3) (hT 3), tkW cA (ha 4) (hT 4), tkW cA (ha 5) (hT 5), tkW cA a T]) CX hE hW 0 rfl in_X1_keep_X1 tyX1 tyX1_ok nmX1 0 rfl rfl 1 (by decide) fl_X1_keep_17 rfl rfl rfl rfl (Nat.le_of_ble_eq_true rfl) rfl rfl dX1_keep_33 (fun H locs hW => ?_)
      exact mu_retv CX hr hlk hW.flat dX1_keep_36
    · exact absurd c_6 (by omega)
  · refine lv_aload_n hx hb dX1_keep_0 rfl (lv_at hl 0 rfl) ?_
    refine rg (T := TX1) (N := 2) CX hE (hW.hP 0 rfl) in_X1_keep_X1 0 rfl rfl 1 (by decide) fl_X1_keep_17 rfl rfl dX1_keep_1 ?_
    refine lv_bipush (v := (nI 6)) hx hb dX1_keep_4 kb_6 ?_
    refine rn_icmp_lt hx hb (by omega) (by omega) dX1_keep_6 (by decide) (tgt := 13) (fun c_6 => ?_) (fun c_6 => ?_)
    · refine lv_aload_n hx hb dX1_keep_13 rfl (lv_at hl 0 rfl) ?_
      refine rg (T := TX1) (N := 2) CX hE (hW.hP 0 rfl) in_X1_keep_X1 0 rfl rfl 0 (by decide) fl_X1_keep_11 rfl rfl dX1_keep_14 ?_
      refine lv_aload_n hx hb dX1_keep_17 rfl (lv_at hl 0 rfl) ?_
      refine rg (T := TX1) (N := 2) CX hE (hW.hP 0 rfl) in_X1_keep_X1 0 rfl rfl 1 (by decide) fl_X1_keep_17 rfl rfl dX1_keep_18 ?_
      refine rn_aald3 CX hE (hW.hP 0 rfl) 1 rfl (j := 3) (by omega) (ltb rfl) (r := ((ha 3) 0)) rfl dX1_keep_21 ?_
      refine lv_aload_n hx hb dX1_keep_22 rfl (lv_at hl 1 rfl) ?_
      refine muvVS (segs' := [[(x 3, .inr (1, [.ref (x 4), .int (nI 3)])), (x 4, .inl (cA 3, 6, .inr (.inr (.inr (.inr (stR ha))))))], tkW cA (ha 0) (hT 0), tkW cA (ha 1) (hT 1), tkW cA (ha 2) (hT 2), tkW cA (ha 3) T, tkW cA (ha 4) (hT 4), tkW cA (ha 5) (hT 5), tkW cA a T]) CX hE hW hA (c_X4_becomeS l G cA (ha 3) (hT 3) a T ) (cwV 1 hts gX1_keep_X4_become rfl rfl rfl hdv_X4_become ⟨Nat.le_of_ble_eq_true rfl, Nat.le_of_ble_eq_true rfl⟩) [4, 7] (by decide) rfl rfl rfl (hW.hP 4 rfl) 0 rfl rfl rfl BM0_blind (fun _ _ _ _ => trivial) rfl hl.1 (rest := []) rfl (Nat.le_of_ble_eq_true rfl) dX1_keep_23 ⟨Nat.zero_le _, Nat.zero_le _⟩ (fun H locs hW => ?_)
      refine lv_aload_n hx hb dX1_keep_26 rfl (lv_at hl 0 rfl) ?_
      refine lv_dup hx hb dX1_keep_27 rfl ?_
      refine rg (T := TX1) (N := 2) CX hE (hW.hP 0 rfl) in_X1_keep_X1 0 rfl rfl 1 (by decide) fl_X1_keep_17 rfl rfl dX1_keep_28 ?_
      refine rn_iconst hx hb 1 rfl dX1_keep_31 ?_
      refine rn_iadd hx hb dX1_keep_32 ?_
      refine rpS (T := TX1) (N := 2) (w' := [(x 3, .inr (1, [.ref (x 4), .int (nI 4)])), (x 4, .inl (cA 3, 6, .inr (.inr (.inr (.inr (stR ha))))))]) (segs' := [[(x 3, .inr (1, [.ref (x 4), .int (nI 4)])), (x 4, .inl (cA 3, 6, .inr (.inr (.inr (.inr (stR ha))))))], tkW cA (ha 0) (hT 0), tkW cA (ha 1) (hT 1), tkW cA (ha 2) (hT 2), tkW cA (ha 3) T, tkW cA (ha 4) (hT 4), tkW cA (ha 5) (hT 5), tkW cA a T]) CX hE hW 0 rfl in_X1_keep_X1 tyX1 tyX1_ok nmX1 0 rfl rfl 1 (by decide) fl_X1_keep_17 rfl rfl rfl rfl (Nat.le_of_ble_eq_true rfl) rfl rfl dX1_keep_33 (fun H locs hW => ?_)
      exact mu_retv CX hr hlk hW.flat dX1_keep_36
    · exact absurd c_6 (by omega)
  · refine lv_aload_n hx hb dX1_keep_0 rfl (lv_at hl 0 rfl) ?_
    refine rg (T := TX1) (N := 2) CX hE (hW.hP 0 rfl) in_X1_keep_X1 0 rfl rfl 1 (by decide) fl_X1_keep_17 rfl rfl dX1_keep_1 ?_
    refine lv_bipush (v := (nI 6)) hx hb dX1_keep_4 kb_6 ?_
    refine rn_icmp_lt hx hb (by omega) (by omega) dX1_keep_6 (by decide) (tgt := 13) (fun c_6 => ?_) (fun c_6 => ?_)
    · refine lv_aload_n hx hb dX1_keep_13 rfl (lv_at hl 0 rfl) ?_
      refine rg (T := TX1) (N := 2) CX hE (hW.hP 0 rfl) in_X1_keep_X1 0 rfl rfl 0 (by decide) fl_X1_keep_11 rfl rfl dX1_keep_14 ?_
      refine lv_aload_n hx hb dX1_keep_17 rfl (lv_at hl 0 rfl) ?_
      refine rg (T := TX1) (N := 2) CX hE (hW.hP 0 rfl) in_X1_keep_X1 0 rfl rfl 1 (by decide) fl_X1_keep_17 rfl rfl dX1_keep_18 ?_
      refine rn_aald3 CX hE (hW.hP 0 rfl) 1 rfl (j := 4) (by omega) (ltb rfl) (r := ((ha 4) 0)) rfl dX1_keep_21 ?_
      refine lv_aload_n hx hb dX1_keep_22 rfl (lv_at hl 1 rfl) ?_
      refine muvVS (segs' := [[(x 3, .inr (1, [.ref (x 4), .int (nI 4)])), (x 4, .inl (cA 3, 6, .inr (.inr (.inr (.inr (stR ha))))))], tkW cA (ha 0) (hT 0), tkW cA (ha 1) (hT 1), tkW cA (ha 2) (hT 2), tkW cA (ha 3) (hT 3), tkW cA (ha 4) T, tkW cA (ha 5) (hT 5), tkW cA a T]) CX hE hW hA (c_X4_becomeS l G cA (ha 4) (hT 4) a T ) (cwV 1 hts gX1_keep_X4_become rfl rfl rfl hdv_X4_become ⟨Nat.le_of_ble_eq_true rfl, Nat.le_of_ble_eq_true rfl⟩) [5, 7] (by decide) rfl rfl rfl (hW.hP 5 rfl) 0 rfl rfl rfl BM0_blind (fun _ _ _ _ => trivial) rfl hl.1 (rest := []) rfl (Nat.le_of_ble_eq_true rfl) dX1_keep_23 ⟨Nat.zero_le _, Nat.zero_le _⟩ (fun H locs hW => ?_)
      refine lv_aload_n hx hb dX1_keep_26 rfl (lv_at hl 0 rfl) ?_
      refine lv_dup hx hb dX1_keep_27 rfl ?_
      refine rg (T := TX1) (N := 2) CX hE (hW.hP 0 rfl) in_X1_keep_X1 0 rfl rfl 1 (by decide) fl_X1_keep_17 rfl rfl dX1_keep_28 ?_
      refine rn_iconst hx hb 1 rfl dX1_keep_31 ?_
      refine rn_iadd hx hb dX1_keep_32 ?_
      refine rpS (T := TX1) (N := 2) (w' := [(x 3, .inr (1, [.ref (x 4), .int (nI 5)])), (x 4, .inl (cA 3, 6, .inr (.inr (.inr (.inr (stR ha))))))]) (segs' := [[(x 3, .inr (1, [.ref (x 4), .int (nI 5)])), (x 4, .inl (cA 3, 6, .inr (.inr (.inr (.inr (stR ha))))))], tkW cA (ha 0) (hT 0), tkW cA (ha 1) (hT 1), tkW cA (ha 2) (hT 2), tkW cA (ha 3) (hT 3), tkW cA (ha 4) T, tkW cA (ha 5) (hT 5), tkW cA a T]) CX hE hW 0 rfl in_X1_keep_X1 tyX1 tyX1_ok nmX1 0 rfl rfl 1 (by decide) fl_X1_keep_17 rfl rfl rfl rfl (Nat.le_of_ble_eq_true rfl) rfl rfl dX1_keep_33 (fun H locs hW => ?_)
      exact mu_retv CX hr hlk hW.flat dX1_keep_36
    · exact absurd c_6 (by omega)
  · refine lv_aload_n hx hb dX1_keep_0 rfl (lv_at hl 0 rfl) ?_
    refine rg (T := TX1) (N := 2) CX hE (hW.hP 0 rfl) in_X1_keep_X1 0 rfl rfl 1 (by decide) fl_X1_keep_17 rfl rfl dX1_keep_1 ?_
    refine lv_bipush (v := (nI 6)) hx hb dX1_keep_4 kb_6 ?_
    refine rn_icmp_lt hx hb (by omega) (by omega) dX1_keep_6 (by decide) (tgt := 13) (fun c_6 => ?_) (fun c_6 => ?_)
    · refine lv_aload_n hx hb dX1_keep_13 rfl (lv_at hl 0 rfl) ?_
      refine rg (T := TX1) (N := 2) CX hE (hW.hP 0 rfl) in_X1_keep_X1 0 rfl rfl 0 (by decide) fl_X1_keep_11 rfl rfl dX1_keep_14 ?_
      refine lv_aload_n hx hb dX1_keep_17 rfl (lv_at hl 0 rfl) ?_
      refine rg (T := TX1) (N := 2) CX hE (hW.hP 0 rfl) in_X1_keep_X1 0 rfl rfl 1 (by decide) fl_X1_keep_17 rfl rfl dX1_keep_18 ?_
      refine rn_aald3 CX hE (hW.hP 0 rfl) 1 rfl (j := 5) (by omega) (ltb rfl) (r := ((ha 5) 0)) rfl dX1_keep_21 ?_
      refine lv_aload_n hx hb dX1_keep_22 rfl (lv_at hl 1 rfl) ?_
      refine muvVS (segs' := [[(x 3, .inr (1, [.ref (x 4), .int (nI 5)])), (x 4, .inl (cA 3, 6, .inr (.inr (.inr (.inr (stR ha))))))], tkW cA (ha 0) (hT 0), tkW cA (ha 1) (hT 1), tkW cA (ha 2) (hT 2), tkW cA (ha 3) (hT 3), tkW cA (ha 4) (hT 4), tkW cA (ha 5) T, tkW cA a T]) CX hE hW hA (c_X4_becomeS l G cA (ha 5) (hT 5) a T ) (cwV 1 hts gX1_keep_X4_become rfl rfl rfl hdv_X4_become ⟨Nat.le_of_ble_eq_true rfl, Nat.le_of_ble_eq_true rfl⟩) [6, 7] (by decide) rfl rfl rfl (hW.hP 6 rfl) 0 rfl rfl rfl BM0_blind (fun _ _ _ _ => trivial) rfl hl.1 (rest := []) rfl (Nat.le_of_ble_eq_true rfl) dX1_keep_23 ⟨Nat.zero_le _, Nat.zero_le _⟩ (fun H locs hW => ?_)
      refine lv_aload_n hx hb dX1_keep_26 rfl (lv_at hl 0 rfl) ?_
      refine lv_dup hx hb dX1_keep_27 rfl ?_
      refine rg (T := TX1) (N := 2) CX hE (hW.hP 0 rfl) in_X1_keep_X1 0 rfl rfl 1 (by decide) fl_X1_keep_17 rfl rfl dX1_keep_28 ?_
      refine rn_iconst hx hb 1 rfl dX1_keep_31 ?_
      refine rn_iadd hx hb dX1_keep_32 ?_
      refine rpS (T := TX1) (N := 2) (w' := [(x 3, .inr (1, [.ref (x 4), .int (nI 6)])), (x 4, .inl (cA 3, 6, .inr (.inr (.inr (.inr (stR ha))))))]) (segs' := [[(x 3, .inr (1, [.ref (x 4), .int (nI 6)])), (x 4, .inl (cA 3, 6, .inr (.inr (.inr (.inr (stR ha))))))], tkW cA (ha 0) (hT 0), tkW cA (ha 1) (hT 1), tkW cA (ha 2) (hT 2), tkW cA (ha 3) (hT 3), tkW cA (ha 4) (hT 4), tkW cA (ha 5) T, tkW cA a T]) CX hE hW 0 rfl in_X1_keep_X1 tyX1 tyX1_ok nmX1 0 rfl rfl 1 (by decide) fl_X1_keep_17 rfl rfl rfl rfl (Nat.le_of_ble_eq_true rfl) rfl rfl dX1_keep_33 (fun H locs hW => ?_)
      exact mu_retv CX hr hlk hW.flat dX1_keep_36
    · exact absurd c_6 (by omega)
  · refine lv_aload_n hx hb dX1_keep_0 rfl (lv_at hl 0 rfl) ?_
    refine rg (T := TX1) (N := 2) CX hE (hW.hP 0 rfl) in_X1_keep_X1 0 rfl rfl 1 (by decide) fl_X1_keep_17 rfl rfl dX1_keep_1 ?_
    refine lv_bipush (v := (nI 6)) hx hb dX1_keep_4 kb_6 ?_
    refine rn_icmp_lt hx hb (by omega) (by omega) dX1_keep_6 (by decide) (tgt := 13) (fun c_6 => ?_) (fun c_6 => ?_)
    · exact absurd c_6 (by omega)
    · refine lv_aload_n hx hb dX1_keep_9 rfl (lv_at hl 0 rfl) ?_
      refine muvVS (segs' := [[(x 3, .inr (1, [.ref (x 4), .int (nI 5)])), (x 4, .inl (cA 3, 6, .inr (.inr (.inr (.inr (stR (rot ha)))))))], tkW cA ((rot ha) 0) ((rot hT) 0), tkW cA ((rot ha) 1) ((rot hT) 1), tkW cA ((rot ha) 2) ((rot hT) 2), tkW cA ((rot ha) 3) ((rot hT) 3), tkW cA ((rot ha) 4) ((rot hT) 4), tkW cA ((rot ha) 5) ((rot hT) 5), tkW cA a T]) CX hE hW hA (c_X1_loseOldest l G cA x 6 ha hT ) (cwV 0 hts gX1_keep_X1_loseOldest rfl rfl rfl hdv_X1_loseOldest ⟨Nat.le_of_ble_eq_true rfl, Nat.le_of_ble_eq_true rfl⟩) [0, 1, 2, 3, 4, 5, 6] (by decide) rfl rfl rfl (hW.hP 0 rfl) 0 rfl rfl rfl BM0_blind (fun _ _ _ _ => trivial) rfl hl.1 (rest := []) rfl (Nat.le_of_ble_eq_true rfl) dX1_keep_10 ⟨Nat.zero_le _, Nat.zero_le _⟩ (fun H locs hW => ?_)
      refine lv_aload_n hx hb dX1_keep_13 rfl (lv_at hl 0 rfl) ?_
      refine rg (T := TX1) (N := 2) CX hE (hW.hP 0 rfl) in_X1_keep_X1 0 rfl rfl 0 (by decide) fl_X1_keep_11 rfl rfl dX1_keep_14 ?_
      refine lv_aload_n hx hb dX1_keep_17 rfl (lv_at hl 0 rfl) ?_
      refine rg (T := TX1) (N := 2) CX hE (hW.hP 0 rfl) in_X1_keep_X1 0 rfl rfl 1 (by decide) fl_X1_keep_17 rfl rfl dX1_keep_18 ?_
      refine rn_aald3 CX hE (hW.hP 0 rfl) 1 rfl (j := 5) (by omega) (ltb rfl) (r := (((rot ha) 5) 0)) rfl dX1_keep_21 ?_
      refine lv_aload_n hx hb dX1_keep_22 rfl (lv_at hl 1 rfl) ?_
      refine muvVS (segs' := [[(x 3, .inr (1, [.ref (x 4), .int (nI 5)])), (x 4, .inl (cA 3, 6, .inr (.inr (.inr (.inr (stR (rot ha)))))))], tkW cA ((rot ha) 0) ((rot hT) 0), tkW cA ((rot ha) 1) ((rot hT) 1), tkW cA ((rot ha) 2) ((rot hT) 2), tkW cA ((rot ha) 3) ((rot hT) 3), tkW cA ((rot ha) 4) ((rot hT) 4), tkW cA ((rot ha) 5) T, tkW cA a T]) CX hE hW hA (c_X4_becomeS l G cA ((rot ha) 5) ((rot hT) 5) a T ) (cwV 1 hts gX1_keep_X4_become rfl rfl rfl hdv_X4_become ⟨Nat.le_of_ble_eq_true rfl, Nat.le_of_ble_eq_true rfl⟩) [6, 7] (by decide) rfl rfl rfl (hW.hP 6 rfl) 0 rfl rfl rfl BM0_blind (fun _ _ _ _ => trivial) rfl hl.1 (rest := []) rfl (Nat.le_of_ble_eq_true rfl) dX1_keep_23 ⟨Nat.zero_le _, Nat.zero_le _⟩ (fun H locs hW => ?_)
      refine lv_aload_n hx hb dX1_keep_26 rfl (lv_at hl 0 rfl) ?_
      refine lv_dup hx hb dX1_keep_27 rfl ?_
      refine rg (T := TX1) (N := 2) CX hE (hW.hP 0 rfl) in_X1_keep_X1 0 rfl rfl 1 (by decide) fl_X1_keep_17 rfl rfl dX1_keep_28 ?_
      refine rn_iconst hx hb 1 rfl dX1_keep_31 ?_
      refine rn_iadd hx hb dX1_keep_32 ?_
      refine rpS (T := TX1) (N := 2) (w' := [(x 3, .inr (1, [.ref (x 4), .int (nI 6)])), (x 4, .inl (cA 3, 6, .inr (.inr (.inr (.inr (stR (rot ha)))))))]) (segs' := [[(x 3, .inr (1, [.ref (x 4), .int (nI 6)])), (x 4, .inl (cA 3, 6, .inr (.inr (.inr (.inr (stR (rot ha)))))))], tkW cA ((rot ha) 0) ((rot hT) 0), tkW cA ((rot ha) 1) ((rot hT) 1), tkW cA ((rot ha) 2) ((rot hT) 2), tkW cA ((rot ha) 3) ((rot hT) 3), tkW cA ((rot ha) 4) ((rot hT) 4), tkW cA ((rot ha) 5) T, tkW cA a T]) CX hE hW 0 rfl in_X1_keep_X1 tyX1 tyX1_ok nmX1 0 rfl rfl 1 (by decide) fl_X1_keep_17 rfl rfl rfl rfl (Nat.le_of_ble_eq_true rfl) rfl rfl dX1_keep_33 (fun H locs hW => ?_)
      exact mu_retv CX hr hlk hW.flat dX1_keep_36
