theorem fl_X6_record_40 : Cond.fieldLink RX6 40 RX6 (TX6 4).2.1 (TX6 4).2.2.1 ∈ wsX6_record := by decide +kernel
theorem in_X6_record_X6 : ∀ w ∈ wsX60, w ∈ wsX6_record := by decide +kernel
theorem fl_X6_record_13 : Cond.fieldLink RX6 13 RX6 (TX6 1).2.1 (TX6 1).2.2.1 ∈ wsX6_record := by decide +kernel
theorem fl_X6_record_7 : Cond.fieldLink RX6 7 RX6 (TX6 0).2.1 (TX6 0).2.2.1 ∈ wsX6_record := by decide +kernel
theorem ks_1725 : (Int16.ofInt (1725)).toInt32 = (nI 1725) := by decide +kernel
set_option maxHeartbeats 4000000 in
set_option maxRecDepth 100000 in
theorem c_X6_record (l : Launch) (G : va_G) (cA : Nat → ClassId) (m : Nat → Nat) (pm : Nat) (ty : Nat) (z : Nat → Int32) (pa : Nat → Int32) (hpm : pm ≤ 6) : MUv l yX6_record wsX6_record ({ frames := 0, cells := 0, slots := 0, locals := 0 }) G cA BM0 [(m 0, .inr (6, [.ref (m 1), .ref (m 2), .ref (m 3), .ref (m 4), .int (nI pm), .ref (m 5), .ref (m 6), .int (nI ty), .ref (m 7)])), (m 1, .inl (cA 0, 345, .inl z)), (m 2, .inl (cA 0, 2070, .inl pa))] [.ref (m 0)] [(m 0, .inr (6, [.ref (m 1), .ref (m 2), .ref (m 3), .ref (m 4), .int (nI (rec1 pm + 1)), .ref (m 5), .ref (m 6), .int (nI ty), .ref (m 7)])), (m 1, .inl (cA 0, 345, .inl z)), (m 2, .inl (cA 0, 2070, .inl (recP pa z pm)))] := by
  refine MUv.mk (own := RX6) (by decide) rfl rfl (Nat.le_of_ble_eq_true rfl) (fun p_ e_ s_ m_ below meth c_ ls A_ CX hr hlk hW hA hE hB hl => ?_)
  obtain ⟨hx, hb, hml, hown, hts⟩ := id CX
  have hl : lv_has ls 2 [(0, .ref (m 0))] := hl
  have hW : wld G A_ [(m 0, .inr (6, [.ref (m 1), .ref (m 2), .ref (m 3), .ref (m 4), .int (nI pm), .ref (m 5), .ref (m 6), .int (nI ty), .ref (m 7)])), (m 1, .inl (cA 0, 345, .inl z)), (m 2, .inl (cA 0, 2070, .inl pa))] s_.heap s_.heap [] := hW
  refine lv_aload_n hx hb dX6_record_0 rfl (lv_at hl 0 rfl) ?_
  refine rg (T := TX6) (N := 9) CX hE hW.1 in_X6_record_X6 0 rfl rfl 4 (by decide) fl_X6_record_40 rfl rfl dX6_record_1 ?_
  refine lv_bipush (v := (nI 6)) hx hb dX6_record_4 kb_6 ?_
  refine rn_icmp_ne hx hb (by omega) (by omega) dX6_record_6 (by decide) (tgt := 50) (fun c_6 => ?_) (fun c_6 => ?_)
  · have hW : wld G A_ [(m 0, .inr (6, [.ref (m 1), .ref (m 2), .ref (m 3), .ref (m 4), .int (nI (rec1 pm)), .ref (m 5), .ref (m 6), .int (nI ty), .ref (m 7)])), (m 1, .inl (cA 0, 345, .inl z)), (m 2, .inl (cA 0, 2070, .inl (rec0 pa pm)))] s_.heap s_.heap [] := by rw [show rec1 pm = pm from if_neg c_6, show rec0 pa pm = pa from if_neg c_6]; exact hW
    have hr5 : rec1 pm ≤ 5 := rec1_in (by omega)
    refine rn_iconst hx hb 0 rfl dX6_record_50 ?_
    refine lv_istore_n (lv' := [(1, .int (nI 0)), (0, .ref (m 0))]) hx hb dX6_record_51 rfl hl (by decide) rfl (fun ls hl => ?_)
    have LP_52 : ∀ (nn_ : Nat) (i : Nat) (qq : Nat → Int32), (345 - i) < nn_ → (i ≤ 345) → (qq = rgF (rec1 pm * 345) i z (rec0 pa pm)) → ∀ (H : Heap) (locs : List Loc) (ls : Array Slot), wld G A_ [(m 0, .inr (6, [.ref (m 1), .ref (m 2), .ref (m 3), .ref (m 4), .int (nI (rec1 pm)), .ref (m 5), .ref (m 6), .int (nI ty), .ref (m 7)])), (m 1, .inl (cA 0, 345, .inl z)), (m 2, .inl (cA 0, 2070, .inl qq))] s_.heap H locs → lv_has ls 2 [(0, .ref (m 0)), (1, .int (nI i))] → W p_ l e_ ({ frames := 0, cells := 0, slots := 0, locals := 0 } : Room) s_ m_ ([.ref (m 0)] : List Value).toArray below meth c_ H locs 0 0 (MQ below (va_Qv (fun _ : Unit => True) (fun _ t_ => va_P G vwCl [(m 0, .inr (6, [.ref (m 1), .ref (m 2), .ref (m 3), .ref (m 4), .int (nI (rec1 pm + 1)), .ref (m 5), .ref (m 6), .int (nI ty), .ref (m 7)])), (m 1, .inl (cA 0, 345, .inl z)), (m 2, .inl (cA 0, 2070, .inl (recP pa z pm)))] t_.heap ∧ va_D A_ [(m 0, .inr (6, [.ref (m 1), .ref (m 2), .ref (m 3), .ref (m 4), .int (nI (rec1 pm + 1)), .ref (m 5), .ref (m 6), .int (nI ty), .ref (m 7)])), (m 1, .inl (cA 0, 345, .inl z)), (m 2, .inl (cA 0, 2070, .inl (recP pa z pm)))]) A_) ([.ref (m 0)] : List Value).toArray s_ 0 0 A_) (F0 m_ 52 ls []) := by
      intro nn_
      induction nn_ with
      | zero => intro i qq hmu; exact absurd hmu (Nat.not_lt_zero _)
      | succ nn_ ih =>
        have ih_52 := ih
        clear ih
        intro i qq hmu_52 hi hqq H locs ls hW hl
        refine lv_iload_n hx hb dX6_record_52 rfl (lv_at hl 1 rfl) ?_
        refine lv_sipush (v := (nI 345)) hx hb dX6_record_53 ks_345 ?_
        refine rn_icmp_ge hx hb (by omega) (by omega) dX6_record_56 (by decide) (tgt := 86) (fun c_56 => ?_) (fun c_56 => ?_)
        · refine lv_aload_n hx hb dX6_record_86 rfl (lv_at hl 0 rfl) ?_
          refine lv_dup hx hb dX6_record_87 rfl ?_
          refine rg (T := TX6) (N := 9) CX hE hW.1 in_X6_record_X6 0 rfl rfl 4 (by decide) fl_X6_record_40 rfl rfl dX6_record_88 ?_
          refine rn_iconst hx hb 1 rfl dX6_record_91 ?_
          refine rn_iadd hx hb dX6_record_92 ?_
          refine rp (T := TX6) (N := 9) (ws' := [(m 0, .inr (6, [.ref (m 1), .ref (m 2), .ref (m 3), .ref (m 4), .int (nI (rec1 pm + 1)), .ref (m 5), .ref (m 6), .int (nI ty), .ref (m 7)])), (m 1, .inl (cA 0, 345, .inl z)), (m 2, .inl (cA 0, 2070, .inl qq))]) CX hE hW in_X6_record_X6 tyX6 tyX6_ok nmX6 0 rfl rfl 4 (by decide) fl_X6_record_40 rfl rfl rfl rfl (Nat.le_of_ble_eq_true rfl) rfl dX6_record_93 (fun H locs hW => ?_)
          have hW := hW.ext (ws' := [(m 0, .inr (6, [.ref (m 1), .ref (m 2), .ref (m 3), .ref (m 4), .int (nI (rec1 pm + 1)), .ref (m 5), .ref (m 6), .int (nI ty), .ref (m 7)])), (m 1, .inl (cA 0, 345, .inl z)), (m 2, .inl (cA 0, 2070, .inl (recP pa z pm)))]) 2 (g := (recP pa z pm)) rfl (fun j _ => by rw [hqq, show i = 345 by omega]; rfl) rfl
          exact mu_retv CX hr hlk hW dX6_record_96
        · refine lv_aload_n hx hb dX6_record_59 rfl (lv_at hl 0 rfl) ?_
          refine rg (T := TX6) (N := 9) CX hE hW.1 in_X6_record_X6 0 rfl rfl 1 (by decide) fl_X6_record_13 rfl rfl dX6_record_60 ?_
          refine lv_aload_n hx hb dX6_record_63 rfl (lv_at hl 0 rfl) ?_
          refine rg (T := TX6) (N := 9) CX hE hW.1 in_X6_record_X6 0 rfl rfl 4 (by decide) fl_X6_record_40 rfl rfl dX6_record_64 ?_
          refine lv_sipush (v := (nI 345)) hx hb dX6_record_67 ks_345 ?_
          refine rn_imul hx hb dX6_record_70 ?_
          refine lv_iload_n hx hb dX6_record_71 rfl (lv_at hl 1 rfl) ?_
          refine rn_iadd hx hb dX6_record_72 ?_
          refine lv_aload_n hx hb dX6_record_73 rfl (lv_at hl 0 rfl) ?_
          refine rg (T := TX6) (N := 9) CX hE hW.1 in_X6_record_X6 0 rfl rfl 0 (by decide) fl_X6_record_7 rfl rfl dX6_record_74 ?_
          refine lv_iload_n hx hb dX6_record_77 rfl (lv_at hl 1 rfl) ?_
          refine rn_iald CX hE hW.1 1 rfl (j := i) (by omega) (ltb rfl) dX6_record_78 ?_
          refine rn_iast (ws' := [(m 0, .inr (6, [.ref (m 1), .ref (m 2), .ref (m 3), .ref (m 4), .int (nI (rec1 pm)), .ref (m 5), .ref (m 6), .int (nI ty), .ref (m 7)])), (m 1, .inl (cA 0, 345, .inl z)), (m 2, .inl (cA 0, 2070, .inl (upd qq (((rec1 pm) * 345) + i) (z i))))]) CX hE hW 2 rfl (j := (((rec1 pm) * 345) + i)) (by omega) (ltb rfl) rfl dX6_record_79 (fun H locs hW => ?_)
          refine rn_iinc hx hb (n := 1) (lv' := [(1, .int (nI (i + 1))), (0, .ref (m 0))]) rfl dX6_record_80 hl (k := 1) rfl (by decide) rfl (fun ls hl => ?_)
          refine lv_goto (tgt := 52) hx hb dX6_record_83 (by decide) ?_
          exact ih_52 (i + 1) (upd qq (((rec1 pm) * 345) + i) (z i)) (by omega) (by omega) (rgF_next hqq rfl rfl) _ _ ls hW (lv_sub hl [1, 0] rfl)
    exact LP_52 _ 0 (rec0 pa pm) (Nat.lt_succ_self _) (by omega) rgF_0 _ _ ls hW (lv_sub hl [1, 0] rfl)
  · subst c_6
    refine rn_iconst hx hb 0 rfl dX6_record_9 ?_
    refine lv_istore_n (lv' := [(1, .int (nI 0)), (0, .ref (m 0))]) hx hb dX6_record_10 rfl hl (by decide) rfl (fun ls hl => ?_)
    have LP_11 : ∀ (nn_ : Nat) (k : Nat) (pp : Nat → Int32), (1725 - k) < nn_ → (k ≤ 1725) → (pp = shF pa k) → ∀ (H : Heap) (locs : List Loc) (ls : Array Slot), wld G A_ [(m 0, .inr (6, [.ref (m 1), .ref (m 2), .ref (m 3), .ref (m 4), .int (nI 6), .ref (m 5), .ref (m 6), .int (nI ty), .ref (m 7)])), (m 1, .inl (cA 0, 345, .inl z)), (m 2, .inl (cA 0, 2070, .inl pp))] s_.heap H locs → lv_has ls 2 [(0, .ref (m 0)), (1, .int (nI k))] → W p_ l e_ ({ frames := 0, cells := 0, slots := 0, locals := 0 } : Room) s_ m_ ([.ref (m 0)] : List Value).toArray below meth c_ H locs 0 0 (MQ below (va_Qv (fun _ : Unit => True) (fun _ t_ => va_P G vwCl [(m 0, .inr (6, [.ref (m 1), .ref (m 2), .ref (m 3), .ref (m 4), .int (nI (rec1 6 + 1)), .ref (m 5), .ref (m 6), .int (nI ty), .ref (m 7)])), (m 1, .inl (cA 0, 345, .inl z)), (m 2, .inl (cA 0, 2070, .inl (recP pa z 6)))] t_.heap ∧ va_D A_ [(m 0, .inr (6, [.ref (m 1), .ref (m 2), .ref (m 3), .ref (m 4), .int (nI (rec1 6 + 1)), .ref (m 5), .ref (m 6), .int (nI ty), .ref (m 7)])), (m 1, .inl (cA 0, 345, .inl z)), (m 2, .inl (cA 0, 2070, .inl (recP pa z 6)))]) A_) ([.ref (m 0)] : List Value).toArray s_ 0 0 A_) (F0 m_ 11 ls []) := by
      intro nn_
      induction nn_ with
      | zero => intro k pp hmu; exact absurd hmu (Nat.not_lt_zero _)
      | succ nn_ ih =>
        have ih_11 := ih
        clear ih
        intro k pp hmu_11 hk hpp H locs ls hW hl
        refine lv_iload_n hx hb dX6_record_11 rfl (lv_at hl 1 rfl) ?_
        refine lv_sipush (v := (nI 1725)) hx hb dX6_record_12 ks_1725 ?_
        refine rn_icmp_ge hx hb (by omega) (by omega) dX6_record_15 (by decide) (tgt := 40) (fun c_15 => ?_) (fun c_15 => ?_)
        · refine lv_aload_n hx hb dX6_record_40 rfl (lv_at hl 0 rfl) ?_
          refine lv_dup hx hb dX6_record_41 rfl ?_
          refine rg (T := TX6) (N := 9) CX hE hW.1 in_X6_record_X6 0 rfl rfl 4 (by decide) fl_X6_record_40 rfl rfl dX6_record_42 ?_
          refine rn_iconst hx hb 1 rfl dX6_record_45 ?_
          refine rn_isub hx hb (by omega) dX6_record_46 ?_
          refine rp (T := TX6) (N := 9) (ws' := [(m 0, .inr (6, [.ref (m 1), .ref (m 2), .ref (m 3), .ref (m 4), .int (nI 5), .ref (m 5), .ref (m 6), .int (nI ty), .ref (m 7)])), (m 1, .inl (cA 0, 345, .inl z)), (m 2, .inl (cA 0, 2070, .inl pp))]) CX hE hW in_X6_record_X6 tyX6 tyX6_ok nmX6 0 rfl rfl 4 (by decide) fl_X6_record_40 rfl rfl rfl rfl (Nat.le_of_ble_eq_true rfl) rfl dX6_record_47 (fun H locs hW => ?_)
          have hW : wld G A_ [(m 0, .inr (6, [.ref (m 1), .ref (m 2), .ref (m 3), .ref (m 4), .int (nI (rec1 6)), .ref (m 5), .ref (m 6), .int (nI ty), .ref (m 7)])), (m 1, .inl (cA 0, 345, .inl z)), (m 2, .inl (cA 0, 2070, .inl (rec0 pa 6)))] s_.heap H locs := by rw [show rec0 pa 6 = pp from by rw [hpp, show k = 1725 by omega]; rfl]; exact hW
          have hr5 : rec1 6 ≤ 5 := rec1_in (by omega)
          refine rn_iconst hx hb 0 rfl dX6_record_50 ?_
          refine lv_istore_n (lv' := [(1, .int (nI 0)), (0, .ref (m 0))]) hx hb dX6_record_51 rfl hl (by decide) rfl (fun ls hl => ?_)
          have LP_52 : ∀ (nn_ : Nat) (i : Nat) (qq : Nat → Int32), (345 - i) < nn_ → (i ≤ 345) → (qq = rgF (rec1 6 * 345) i z (rec0 pa 6)) → ∀ (H : Heap) (locs : List Loc) (ls : Array Slot), wld G A_ [(m 0, .inr (6, [.ref (m 1), .ref (m 2), .ref (m 3), .ref (m 4), .int (nI (rec1 6)), .ref (m 5), .ref (m 6), .int (nI ty), .ref (m 7)])), (m 1, .inl (cA 0, 345, .inl z)), (m 2, .inl (cA 0, 2070, .inl qq))] s_.heap H locs → lv_has ls 2 [(0, .ref (m 0)), (1, .int (nI i))] → W p_ l e_ ({ frames := 0, cells := 0, slots := 0, locals := 0 } : Room) s_ m_ ([.ref (m 0)] : List Value).toArray below meth c_ H locs 0 0 (MQ below (va_Qv (fun _ : Unit => True) (fun _ t_ => va_P G vwCl [(m 0, .inr (6, [.ref (m 1), .ref (m 2), .ref (m 3), .ref (m 4), .int (nI (rec1 6 + 1)), .ref (m 5), .ref (m 6), .int (nI ty), .ref (m 7)])), (m 1, .inl (cA 0, 345, .inl z)), (m 2, .inl (cA 0, 2070, .inl (recP pa z 6)))] t_.heap ∧ va_D A_ [(m 0, .inr (6, [.ref (m 1), .ref (m 2), .ref (m 3), .ref (m 4), .int (nI (rec1 6 + 1)), .ref (m 5), .ref (m 6), .int (nI ty), .ref (m 7)])), (m 1, .inl (cA 0, 345, .inl z)), (m 2, .inl (cA 0, 2070, .inl (recP pa z 6)))]) A_) ([.ref (m 0)] : List Value).toArray s_ 0 0 A_) (F0 m_ 52 ls []) := by
            intro nn_
            induction nn_ with
            | zero => intro i qq hmu; exact absurd hmu (Nat.not_lt_zero _)
            | succ nn_ ih =>
              have ih_52 := ih
              clear ih
              intro i qq hmu_52 hi hqq H locs ls hW hl
              refine lv_iload_n hx hb dX6_record_52 rfl (lv_at hl 1 rfl) ?_
              refine lv_sipush (v := (nI 345)) hx hb dX6_record_53 ks_345 ?_
              refine rn_icmp_ge hx hb (by omega) (by omega) dX6_record_56 (by decide) (tgt := 86) (fun c_56 => ?_) (fun c_56 => ?_)
              · refine lv_aload_n hx hb dX6_record_86 rfl (lv_at hl 0 rfl) ?_
                refine lv_dup hx hb dX6_record_87 rfl ?_
                refine rg (T := TX6) (N := 9) CX hE hW.1 in_X6_record_X6 0 rfl rfl 4 (by decide) fl_X6_record_40 rfl rfl dX6_record_88 ?_
                refine rn_iconst hx hb 1 rfl dX6_record_91 ?_
                refine rn_iadd hx hb dX6_record_92 ?_
                refine rp (T := TX6) (N := 9) (ws' := [(m 0, .inr (6, [.ref (m 1), .ref (m 2), .ref (m 3), .ref (m 4), .int (nI (rec1 6 + 1)), .ref (m 5), .ref (m 6), .int (nI ty), .ref (m 7)])), (m 1, .inl (cA 0, 345, .inl z)), (m 2, .inl (cA 0, 2070, .inl qq))]) CX hE hW in_X6_record_X6 tyX6 tyX6_ok nmX6 0 rfl rfl 4 (by decide) fl_X6_record_40 rfl rfl rfl rfl (Nat.le_of_ble_eq_true rfl) rfl dX6_record_93 (fun H locs hW => ?_)
                have hW := hW.ext (ws' := [(m 0, .inr (6, [.ref (m 1), .ref (m 2), .ref (m 3), .ref (m 4), .int (nI (rec1 6 + 1)), .ref (m 5), .ref (m 6), .int (nI ty), .ref (m 7)])), (m 1, .inl (cA 0, 345, .inl z)), (m 2, .inl (cA 0, 2070, .inl (recP pa z 6)))]) 2 (g := (recP pa z 6)) rfl (fun j _ => by rw [hqq, show i = 345 by omega]; rfl) rfl
                exact mu_retv CX hr hlk hW dX6_record_96
              · refine lv_aload_n hx hb dX6_record_59 rfl (lv_at hl 0 rfl) ?_
                refine rg (T := TX6) (N := 9) CX hE hW.1 in_X6_record_X6 0 rfl rfl 1 (by decide) fl_X6_record_13 rfl rfl dX6_record_60 ?_
                refine lv_aload_n hx hb dX6_record_63 rfl (lv_at hl 0 rfl) ?_
                refine rg (T := TX6) (N := 9) CX hE hW.1 in_X6_record_X6 0 rfl rfl 4 (by decide) fl_X6_record_40 rfl rfl dX6_record_64 ?_
                refine lv_sipush (v := (nI 345)) hx hb dX6_record_67 ks_345 ?_
                refine rn_imul hx hb dX6_record_70 ?_
                refine lv_iload_n hx hb dX6_record_71 rfl (lv_at hl 1 rfl) ?_
                refine rn_iadd hx hb dX6_record_72 ?_
                refine lv_aload_n hx hb dX6_record_73 rfl (lv_at hl 0 rfl) ?_
                refine rg (T := TX6) (N := 9) CX hE hW.1 in_X6_record_X6 0 rfl rfl 0 (by decide) fl_X6_record_7 rfl rfl dX6_record_74 ?_
                refine lv_iload_n hx hb dX6_record_77 rfl (lv_at hl 1 rfl) ?_
                refine rn_iald CX hE hW.1 1 rfl (j := i) (by omega) (ltb rfl) dX6_record_78 ?_
                refine rn_iast (ws' := [(m 0, .inr (6, [.ref (m 1), .ref (m 2), .ref (m 3), .ref (m 4), .int (nI (rec1 6)), .ref (m 5), .ref (m 6), .int (nI ty), .ref (m 7)])), (m 1, .inl (cA 0, 345, .inl z)), (m 2, .inl (cA 0, 2070, .inl (upd qq (((rec1 6) * 345) + i) (z i))))]) CX hE hW 2 rfl (j := (((rec1 6) * 345) + i)) (by omega) (ltb rfl) rfl dX6_record_79 (fun H locs hW => ?_)
                refine rn_iinc hx hb (n := 1) (lv' := [(1, .int (nI (i + 1))), (0, .ref (m 0))]) rfl dX6_record_80 hl (k := 1) rfl (by decide) rfl (fun ls hl => ?_)
                refine lv_goto (tgt := 52) hx hb dX6_record_83 (by decide) ?_
                exact ih_52 (i + 1) (upd qq (((rec1 6) * 345) + i) (z i)) (by omega) (by omega) (rgF_next hqq rfl rfl) _ _ ls hW (lv_sub hl [1, 0] rfl)
          exact LP_52 _ 0 (rec0 pa 6) (Nat.lt_succ_self _) (by omega) rgF_0 _ _ ls hW (lv_sub hl [1, 0] rfl)
        · refine lv_aload_n hx hb dX6_record_18 rfl (lv_at hl 0 rfl) ?_
          refine rg (T := TX6) (N := 9) CX hE hW.1 in_X6_record_X6 0 rfl rfl 1 (by decide) fl_X6_record_13 rfl rfl dX6_record_19 ?_
          refine lv_iload_n hx hb dX6_record_22 rfl (lv_at hl 1 rfl) ?_
          refine lv_aload_n hx hb dX6_record_23 rfl (lv_at hl 0 rfl) ?_
          refine rg (T := TX6) (N := 9) CX hE hW.1 in_X6_record_X6 0 rfl rfl 1 (by decide) fl_X6_record_13 rfl rfl dX6_record_24 ?_
          refine lv_iload_n hx hb dX6_record_27 rfl (lv_at hl 1 rfl) ?_
          refine lv_sipush (v := (nI 345)) hx hb dX6_record_28 ks_345 ?_
          refine rn_iadd hx hb dX6_record_31 ?_
          refine rn_iald CX hE hW.1 2 rfl (j := (k + 345)) (by omega) (ltb rfl) dX6_record_32 ?_
          refine rn_iast (ws' := [(m 0, .inr (6, [.ref (m 1), .ref (m 2), .ref (m 3), .ref (m 4), .int (nI 6), .ref (m 5), .ref (m 6), .int (nI ty), .ref (m 7)])), (m 1, .inl (cA 0, 345, .inl z)), (m 2, .inl (cA 0, 2070, .inl (upd pp k (pp (k + 345)))))]) CX hE hW 2 rfl (j := k) (by omega) (ltb rfl) rfl dX6_record_33 (fun H locs hW => ?_)
          refine rn_iinc hx hb (n := 1) (lv' := [(1, .int (nI (k + 1))), (0, .ref (m 0))]) rfl dX6_record_34 hl (k := 1) rfl (by decide) rfl (fun ls hl => ?_)
          refine lv_goto (tgt := 11) hx hb dX6_record_37 (by decide) ?_
          exact ih_11 (k + 1) (upd pp k (pp (k + 345))) (by omega) (by omega) (shF_next hpp) _ _ ls hW (lv_sub hl [1, 0] rfl)
    exact LP_11 _ 0 pa (Nat.lt_succ_self _) (by omega) shF_0 _ _ ls hW (lv_sub hl [1, 0] rfl)
theorem fl_X6_calm_7 : Cond.fieldLink RX6 7 RX6 (TX6 0).2.1 (TX6 0).2.2.1 ∈ wsX6_calm := by decide +kernel
theorem in_X6_calm_X6 : ∀ w ∈ wsX60, w ∈ wsX6_calm := by decide +kernel
theorem hdv_X6_forgetFirst : yX6_forgetFirst.cls = RX6 ∧ yX6_forgetFirst.cls ≠ "java/lang/invoke/MethodHandle" ∧ yX6_forgetFirst.cls ≠ "java/lang/invoke/VarHandle" ∧ (parseMethodDescriptor yX6_forgetFirst.desc).map (fun d => d.parameters.length) = some 0 := by decide +kernel
set_option maxHeartbeats 4000000 in
set_option maxRecDepth 100000 in
theorem c_X6_calm (l : Launch) (G : va_G) (cA : Nat → ClassId) (m : Nat → Nat) (pm : Nat) (ty : Nat) (z : Nat → Int32)  : MUv l yX6_calm wsX6_calm ({ frames := 1, cells := 0, slots := 0, locals := 21 }) G cA BM0 [(m 0, .inr (6, [.ref (m 1), .ref (m 2), .ref (m 3), .ref (m 4), .int (nI pm), .ref (m 5), .ref (m 6), .int (nI ty), .ref (m 7)])), (m 1, .inl (cA 0, 345, .inl z))] [.ref (m 0)] [(m 0, .inr (6, [.ref (m 1), .ref (m 2), .ref (m 3), .ref (m 4), .int (nI pm), .ref (m 5), .ref (m 6), .int (nI ty), .ref (m 7)])), (m 1, .inl (cA 0, 345, .inl (calmM z)))] := by
  refine MUv.mk (own := RX6) (by decide) rfl rfl (Nat.le_of_ble_eq_true rfl) (fun p_ e_ s_ m_ below meth c_ ls A_ CX hr hlk hW hA hE hB hl => ?_)
  obtain ⟨hx, hb, hml, hown, hts⟩ := id CX
  have hl : lv_has ls 2 [(0, .ref (m 0))] := hl
  have hW : wld G A_ [(m 0, .inr (6, [.ref (m 1), .ref (m 2), .ref (m 3), .ref (m 4), .int (nI pm), .ref (m 5), .ref (m 6), .int (nI ty), .ref (m 7)])), (m 1, .inl (cA 0, 345, .inl z))] s_.heap s_.heap [] := hW
  refine rn_iconst hx hb 0 rfl dX6_calm_0 ?_
  refine lv_istore_n (lv' := [(1, .int (nI 0)), (0, .ref (m 0))]) hx hb dX6_calm_1 rfl hl (by decide) rfl (fun ls hl => ?_)
  have LP_2 : ∀ (nn_ : Nat) (i : Nat) (zz : Nat → Int32), (60 - i) < nn_ → (i ≤ 60) → (zz = rgF 125 i (fun _ => nI 0) (rgF 65 i (fun _ => nI 0) z)) → ∀ (H : Heap) (locs : List Loc) (ls : Array Slot), wld G A_ [(m 0, .inr (6, [.ref (m 1), .ref (m 2), .ref (m 3), .ref (m 4), .int (nI pm), .ref (m 5), .ref (m 6), .int (nI ty), .ref (m 7)])), (m 1, .inl (cA 0, 345, .inl zz))] s_.heap H locs → lv_has ls 2 [(0, .ref (m 0)), (1, .int (nI i))] → W p_ l e_ ({ frames := 1, cells := 0, slots := 0, locals := 21 } : Room) s_ m_ ([.ref (m 0)] : List Value).toArray below meth c_ H locs 0 0 (MQ below (va_Qv (fun _ : Unit => True) (fun _ t_ => va_P G vwCl [(m 0, .inr (6, [.ref (m 1), .ref (m 2), .ref (m 3), .ref (m 4), .int (nI pm), .ref (m 5), .ref (m 6), .int (nI ty), .ref (m 7)])), (m 1, .inl (cA 0, 345, .inl (calmM z)))] t_.heap ∧ va_D A_ [(m 0, .inr (6, [.ref (m 1), .ref (m 2), .ref (m 3), .ref (m 4), .int (nI pm), .ref (m 5), .ref (m 6), .int (nI ty), .ref (m 7)])), (m 1, .inl (cA 0, 345, .inl (calmM z)))]) A_) ([.ref (m 0)] : List Value).toArray s_ 0 0 A_) (F0 m_ 2 ls []) := by
    intro nn_
    induction nn_ with
    | zero => intro i zz hmu; exact absurd hmu (Nat.not_lt_zero _)
    | succ nn_ ih =>
      have ih_2 := ih
      clear ih
      intro i zz hmu_2 hi hzz H locs ls hW hl
      refine lv_iload_n hx hb dX6_calm_2 rfl (lv_at hl 1 rfl) ?_
      refine lv_bipush (v := (nI 60)) hx hb dX6_calm_3 kb_60 ?_
      refine rn_icmp_ge hx hb (by omega) (by omega) dX6_calm_5 (by decide) (tgt := 34) (fun c_5 => ?_) (fun c_5 => ?_)
      · refine lv_aload_n hx hb dX6_calm_34 rfl (lv_at hl 0 rfl) ?_
        refine rg (T := TX6) (N := 9) CX hE hW.1 in_X6_calm_X6 0 rfl rfl 0 (by decide) fl_X6_calm_7 rfl rfl dX6_calm_35 ?_
        refine rn_iconst hx hb 4 rfl dX6_calm_38 ?_
        refine rn_iconst hx hb 0 rfl dX6_calm_39 ?_
        refine rn_iast (ws' := [(m 0, .inr (6, [.ref (m 1), .ref (m 2), .ref (m 3), .ref (m 4), .int (nI pm), .ref (m 5), .ref (m 6), .int (nI ty), .ref (m 7)])), (m 1, .inl (cA 0, 345, .inl (upd zz 4 (nI 0))))]) CX hE hW 1 rfl (j := 4) (by omega) (ltb rfl) rfl dX6_calm_40 (fun H locs hW => ?_)
        refine lv_aload_n hx hb dX6_calm_41 rfl (lv_at hl 0 rfl) ?_
        refine muvV (ws' := [(m 0, .inr (6, [.ref (m 1), .ref (m 2), .ref (m 3), .ref (m 4), .int (nI pm), .ref (m 5), .ref (m 6), .int (nI ty), .ref (m 7)])), (m 1, .inl (cA 0, 345, .inl (rgF 185 60 (fun _ => -6) (upd zz 4 (nI 0)))))]) CX hE hW hA (c_X6_forgetFirst l G cA m pm ty (upd zz 4 (nI 0)) ) (cwV 0 hts gX6_calm_X6_forgetFirst rfl rfl rfl hdv_X6_forgetFirst ⟨Nat.le_of_ble_eq_true rfl, Nat.le_of_ble_eq_true rfl⟩) [0, 1] (by decide) rfl rfl rfl 0 rfl rfl rfl BM0_blind (fun _ _ _ _ => trivial) rfl hl.1 (rest := []) rfl (Nat.le_of_ble_eq_true rfl) dX6_calm_42 ⟨Nat.zero_le _, Nat.zero_le _⟩ (fun H locs hW => ?_)
        have hW := hW.ext (ws' := [(m 0, .inr (6, [.ref (m 1), .ref (m 2), .ref (m 3), .ref (m 4), .int (nI pm), .ref (m 5), .ref (m 6), .int (nI ty), .ref (m 7)])), (m 1, .inl (cA 0, 345, .inl (calmM z)))]) 1 (g := (calmM z)) rfl (fun j _ => by rw [hzz, show i = 60 by omega]; rfl) rfl
        exact mu_retv CX hr hlk hW dX6_calm_45
      · refine lv_aload_n hx hb dX6_calm_8 rfl (lv_at hl 0 rfl) ?_
        refine rg (T := TX6) (N := 9) CX hE hW.1 in_X6_calm_X6 0 rfl rfl 0 (by decide) fl_X6_calm_7 rfl rfl dX6_calm_9 ?_
        refine lv_bipush (v := (nI 65)) hx hb dX6_calm_12 kb_65 ?_
        refine lv_iload_n hx hb dX6_calm_14 rfl (lv_at hl 1 rfl) ?_
        refine rn_iadd hx hb dX6_calm_15 ?_
        refine rn_iconst hx hb 0 rfl dX6_calm_16 ?_
        refine rn_iast (ws' := [(m 0, .inr (6, [.ref (m 1), .ref (m 2), .ref (m 3), .ref (m 4), .int (nI pm), .ref (m 5), .ref (m 6), .int (nI ty), .ref (m 7)])), (m 1, .inl (cA 0, 345, .inl (upd zz (65 + i) (nI 0))))]) CX hE hW 1 rfl (j := (65 + i)) (by omega) (ltb rfl) rfl dX6_calm_17 (fun H locs hW => ?_)
        refine lv_aload_n hx hb dX6_calm_18 rfl (lv_at hl 0 rfl) ?_
        refine rg (T := TX6) (N := 9) CX hE hW.1 in_X6_calm_X6 0 rfl rfl 0 (by decide) fl_X6_calm_7 rfl rfl dX6_calm_19 ?_
        refine lv_bipush (v := (nI 125)) hx hb dX6_calm_22 kb_125 ?_
        refine lv_iload_n hx hb dX6_calm_24 rfl (lv_at hl 1 rfl) ?_
        refine rn_iadd hx hb dX6_calm_25 ?_
        refine rn_iconst hx hb 0 rfl dX6_calm_26 ?_
        refine rn_iast (ws' := [(m 0, .inr (6, [.ref (m 1), .ref (m 2), .ref (m 3), .ref (m 4), .int (nI pm), .ref (m 5), .ref (m 6), .int (nI ty), .ref (m 7)])), (m 1, .inl (cA 0, 345, .inl (upd (upd zz (65 + i) (nI 0)) (125 + i) (nI 0))))]) CX hE hW 1 rfl (j := (125 + i)) (by omega) (ltb rfl) rfl dX6_calm_27 (fun H locs hW => ?_)
        refine rn_iinc hx hb (n := 1) (lv' := [(1, .int (nI (i + 1))), (0, .ref (m 0))]) rfl dX6_calm_28 hl (k := 1) rfl (by decide) rfl (fun ls hl => ?_)
        refine lv_goto (tgt := 2) hx hb dX6_calm_31 (by decide) ?_
        exact ih_2 (i + 1) (upd (upd zz (65 + i) (nI 0)) (125 + i) (nI 0)) (by omega) (by omega) (calmM_next hzz (by omega)) _ _ ls hW (lv_sub hl [1, 0] rfl)
  exact LP_2 _ 0 z (Nat.lt_succ_self _) (by omega) (by rw [← rgF_0, ← rgF_0]) _ _ ls hW (lv_sub hl [1, 0] rfl)
theorem fl_X6_see_7 : Cond.fieldLink RX6 7 RX6 (TX6 0).2.1 (TX6 0).2.2.1 ∈ wsX6_see := by decide +kernel
theorem in_X6_see_X6 : ∀ w ∈ wsX60, w ∈ wsX6_see := by decide +kernel
set_option maxHeartbeats 4000000 in
set_option maxRecDepth 100000 in
theorem c_X6_see (l : Launch) (G : va_G) (cA : Nat → ClassId) (m : Nat → Nat) (pm : Nat) (ty : Nat) (z : Nat → Int32) (p : Nat) (c : Nat) (ln : Nat) (hp : p < 3) (hc : c < 60) (hcz : z (267 + 26 * p) = nI c) (hln : ln ≤ 24) (hlz : z (267 + 26 * p + 1) = nI ln) : MUv l yX6_see wsX6_see ({ frames := 1, cells := 0, slots := 0, locals := 21 }) G cA BM0 [(m 0, .inr (6, [.ref (m 1), .ref (m 2), .ref (m 3), .ref (m 4), .int (nI pm), .ref (m 5), .ref (m 6), .int (nI ty), .ref (m 7)])), (m 1, .inl (cA 0, 345, .inl z))] [.ref (m 0), .int (nI p)] [(m 0, .inr (6, [.ref (m 1), .ref (m 2), .ref (m 3), .ref (m 4), .int (nI pm), .ref (m 5), .ref (m 6), .int (nI ty), .ref (m 7)])), (m 1, .inl (cA 0, 345, .inl (seeM z p c ln)))] := by
  refine MUv.mk (own := RX6) (by decide) rfl rfl (Nat.le_of_ble_eq_true rfl) (fun p_ e_ s_ m_ below meth c_ ls A_ CX hr hlk hW hA hE hB hl => ?_)
  obtain ⟨hx, hb, hml, hown, hts⟩ := id CX
  have hl : lv_has ls 4 [(0, .ref (m 0)), (1, .int (nI p))] := hl
  have hW : wld G A_ [(m 0, .inr (6, [.ref (m 1), .ref (m 2), .ref (m 3), .ref (m 4), .int (nI pm), .ref (m 5), .ref (m 6), .int (nI ty), .ref (m 7)])), (m 1, .inl (cA 0, 345, .inl z))] s_.heap s_.heap [] := hW
  refine lv_sipush (v := (nI 267)) hx hb dX6_see_0 ks_267 ?_
  refine lv_bipush (v := (nI 26)) hx hb dX6_see_3 kb_26 ?_
  refine lv_iload_n hx hb dX6_see_5 rfl (lv_at hl 1 rfl) ?_
  refine rn_imul hx hb dX6_see_6 ?_
  refine rn_iadd hx hb dX6_see_7 ?_
  refine lv_istore_n (lv' := [(2, .int (nI (267 + (26 * p)))), (0, .ref (m 0)), (1, .int (nI p))]) hx hb dX6_see_8 rfl hl (by decide) rfl (fun ls hl => ?_)
  refine lv_bipush (v := (nI 24)) hx hb dX6_see_9 kb_24 ?_
  refine lv_istore_n (lv' := [(3, .int (nI 24)), (2, .int (nI (267 + (26 * p)))), (0, .ref (m 0)), (1, .int (nI p))]) hx hb dX6_see_11 rfl hl (by decide) rfl (fun ls hl => ?_)
  have LP_12 : ∀ (nn_ : Nat) (k : Nat) (zz : Nat → Int32), k < nn_ → (1 ≤ k) → (k ≤ 24) → (zz = seeS z p k) → ∀ (H : Heap) (locs : List Loc) (ls : Array Slot), wld G A_ [(m 0, .inr (6, [.ref (m 1), .ref (m 2), .ref (m 3), .ref (m 4), .int (nI pm), .ref (m 5), .ref (m 6), .int (nI ty), .ref (m 7)])), (m 1, .inl (cA 0, 345, .inl zz))] s_.heap H locs → lv_has ls 4 [(0, .ref (m 0)), (1, .int (nI p)), (2, .int (nI (267 + (26 * p)))), (3, .int (nI k))] → W p_ l e_ ({ frames := 1, cells := 0, slots := 0, locals := 21 } : Room) s_ m_ ([.ref (m 0), .int (nI p)] : List Value).toArray below meth c_ H locs 0 0 (MQ below (va_Qv (fun _ : Unit => True) (fun _ t_ => va_P G vwCl [(m 0, .inr (6, [.ref (m 1), .ref (m 2), .ref (m 3), .ref (m 4), .int (nI pm), .ref (m 5), .ref (m 6), .int (nI ty), .ref (m 7)])), (m 1, .inl (cA 0, 345, .inl (seeM z p c ln)))] t_.heap ∧ va_D A_ [(m 0, .inr (6, [.ref (m 1), .ref (m 2), .ref (m 3), .ref (m 4), .int (nI pm), .ref (m 5), .ref (m 6), .int (nI ty), .ref (m 7)])), (m 1, .inl (cA 0, 345, .inl (seeM z p c ln)))]) A_) ([.ref (m 0), .int (nI p)] : List Value).toArray s_ 0 0 A_) (F0 m_ 12 ls []) := by
    intro nn_
    induction nn_ with
    | zero => intro k zz hmu; exact absurd hmu (Nat.not_lt_zero _)
    | succ nn_ ih =>
      have ih_12 := ih
      clear ih
      intro k zz hmu_12 hk1 hk hzz H locs ls hW hl
      refine lv_iload_n hx hb dX6_see_12 rfl (lv_at hl 3 rfl) ?_
      refine rn_iconst hx hb 1 rfl dX6_see_13 ?_
      refine rn_icmp_le hx hb (by omega) (by omega) dX6_see_14 (by decide) (tgt := 41) (fun c_14 => ?_) (fun c_14 => ?_)
      · have k1 : k = 1 := by omega
        subst k1
        refine lv_aload_n hx hb dX6_see_41 rfl (lv_at hl 0 rfl) ?_
        refine rg (T := TX6) (N := 9) CX hE hW.1 in_X6_see_X6 0 rfl rfl 0 (by decide) fl_X6_see_7 rfl rfl dX6_see_42 ?_
        refine lv_iload_n hx hb dX6_see_45 rfl (lv_at hl 2 rfl) ?_
        refine rn_iconst hx hb 2 rfl dX6_see_46 ?_
        refine rn_iadd hx hb dX6_see_47 ?_
        refine lv_aload_n hx hb dX6_see_48 rfl (lv_at hl 0 rfl) ?_
        refine lv_aload_n hx hb dX6_see_49 rfl (lv_at hl 0 rfl) ?_
        refine rg (T := TX6) (N := 9) CX hE hW.1 in_X6_see_X6 0 rfl rfl 0 (by decide) fl_X6_see_7 rfl rfl dX6_see_50 ?_
        refine lv_iload_n hx hb dX6_see_53 rfl (lv_at hl 2 rfl) ?_
        refine rn_iald CX hE hW.1 1 rfl (j := (267 + (26 * p))) (by omega) (ltb rfl) dX6_see_54 ?_
        refine rn_top (nI c) (by rw [hzz]; unfold seeS; rw [if_neg (by omega)]; exact hcz) ?_
        refine roV CX hE hW.1 (c_X6_now l G cA m pm ty zz c (by omega)) (cwV 1 hts gX6_see_X6_now rfl rfl rfl hdv_X6_now ⟨Nat.le_of_ble_eq_true rfl, Nat.le_of_ble_eq_true rfl⟩) [0, 1] rfl 0 rfl rfl rfl B0_blind (fun _ _ _ => trivial) rfl hl.1 (rest := [.int (nI ((267 + (26 * p)) + 2)), .ref (m 1)]) rfl (Nat.le_of_ble_eq_true rfl) dX6_see_55 ⟨Nat.zero_le _, Nat.zero_le _⟩ ?_
        refine rn_top (z (65 + c)) (by show zz (65 + c) = _; rw [hzz]; unfold seeS; rw [if_neg (by omega)]) ?_
        refine rn_iast (ws' := [(m 0, .inr (6, [.ref (m 1), .ref (m 2), .ref (m 3), .ref (m 4), .int (nI pm), .ref (m 5), .ref (m 6), .int (nI ty), .ref (m 7)])), (m 1, .inl (cA 0, 345, .inl (upd zz ((267 + (26 * p)) + 2) (z (65 + c)))))]) CX hE hW 1 rfl (j := ((267 + (26 * p)) + 2)) (by omega) (ltb rfl) rfl dX6_see_58 (fun H locs hW => ?_)
        refine lv_aload_n hx hb dX6_see_59 rfl (lv_at hl 0 rfl) ?_
        refine rg (T := TX6) (N := 9) CX hE hW.1 in_X6_see_X6 0 rfl rfl 0 (by decide) fl_X6_see_7 rfl rfl dX6_see_60 ?_
        refine lv_iload_n hx hb dX6_see_63 rfl (lv_at hl 2 rfl) ?_
        refine rn_iconst hx hb 1 rfl dX6_see_64 ?_
        refine rn_iadd hx hb dX6_see_65 ?_
        refine lv_aload_n hx hb dX6_see_66 rfl (lv_at hl 0 rfl) ?_
        refine rg (T := TX6) (N := 9) CX hE hW.1 in_X6_see_X6 0 rfl rfl 0 (by decide) fl_X6_see_7 rfl rfl dX6_see_67 ?_
        refine lv_iload_n hx hb dX6_see_70 rfl (lv_at hl 2 rfl) ?_
        refine rn_iconst hx hb 1 rfl dX6_see_71 ?_
        refine rn_iadd hx hb dX6_see_72 ?_
        refine rn_iald CX hE hW.1 1 rfl (j := ((267 + (26 * p)) + 1)) (by omega) (ltb rfl) dX6_see_73 ?_
        refine rn_top (nI ln) (by rw [updN (by omega), hzz]; unfold seeS; rw [if_neg (by omega)]; exact hlz) ?_
        refine lv_bipush (v := (nI 24)) hx hb dX6_see_74 kb_24 ?_
        have J_94 : ∀ v : Int32, v = (nI (if ln < 24 then ln + 1 else 24)) → W p_ l e_ ({ frames := 1, cells := 0, slots := 0, locals := 21 } : Room) s_ m_ ([.ref (m 0), .int (nI p)] : List Value).toArray below meth c_ H locs 0 0 (MQ below (va_Qv (fun _ : Unit => True) (fun _ t_ => va_P G vwCl [(m 0, .inr (6, [.ref (m 1), .ref (m 2), .ref (m 3), .ref (m 4), .int (nI pm), .ref (m 5), .ref (m 6), .int (nI ty), .ref (m 7)])), (m 1, .inl (cA 0, 345, .inl (seeM z p c ln)))] t_.heap ∧ va_D A_ [(m 0, .inr (6, [.ref (m 1), .ref (m 2), .ref (m 3), .ref (m 4), .int (nI pm), .ref (m 5), .ref (m 6), .int (nI ty), .ref (m 7)])), (m 1, .inl (cA 0, 345, .inl (seeM z p c ln)))]) A_) ([.ref (m 0), .int (nI p)] : List Value).toArray s_ 0 0 A_) (F0 m_ 94 ls [.int v, .int (nI ((267 + (26 * p)) + 1)), .ref (m 1)]) := by
          intro v hv
          subst hv
          refine rn_iast (ws' := [(m 0, .inr (6, [.ref (m 1), .ref (m 2), .ref (m 3), .ref (m 4), .int (nI pm), .ref (m 5), .ref (m 6), .int (nI ty), .ref (m 7)])), (m 1, .inl (cA 0, 345, .inl (upd (upd zz ((267 + (26 * p)) + 2) (z (65 + c))) ((267 + (26 * p)) + 1) (nI (if ln < 24 then ln + 1 else 24)))))]) CX hE hW 1 rfl (j := ((267 + (26 * p)) + 1)) (by omega) (ltb rfl) rfl dX6_see_94 (fun H locs hW => ?_)
          have hW := hW.ext (ws' := [(m 0, .inr (6, [.ref (m 1), .ref (m 2), .ref (m 3), .ref (m 4), .int (nI pm), .ref (m 5), .ref (m 6), .int (nI ty), .ref (m 7)])), (m 1, .inl (cA 0, 345, .inl (seeM z p c ln)))]) 1 (g := (seeM z p c ln)) rfl (fun j _ => by rw [hzz]; rfl) rfl
          exact mu_retv CX hr hlk hW dX6_see_95
        refine rn_icmp_ge hx hb (by omega) (by omega) dX6_see_76 (by decide) (tgt := 92) (fun c_76 => ?_) (fun c_76 => ?_)
        · refine lv_bipush (v := (nI 24)) hx hb dX6_see_92 kb_24 ?_
          exact J_94 _ (by first | (rw [if_pos (by omega)]) | (rw [if_neg (by omega)]))
        · refine lv_aload_n hx hb dX6_see_79 rfl (lv_at hl 0 rfl) ?_
          refine rg (T := TX6) (N := 9) CX hE hW.1 in_X6_see_X6 0 rfl rfl 0 (by decide) fl_X6_see_7 rfl rfl dX6_see_80 ?_
          refine lv_iload_n hx hb dX6_see_83 rfl (lv_at hl 2 rfl) ?_
          refine rn_iconst hx hb 1 rfl dX6_see_84 ?_
          refine rn_iadd hx hb dX6_see_85 ?_
          refine rn_iald CX hE hW.1 1 rfl (j := ((267 + (26 * p)) + 1)) (by omega) (ltb rfl) dX6_see_86 ?_
          refine rn_top (nI ln) (by rw [updN (by omega), hzz]; unfold seeS; rw [if_neg (by omega)]; exact hlz) ?_
          refine rn_iconst hx hb 1 rfl dX6_see_87 ?_
          refine rn_iadd hx hb dX6_see_88 ?_
          refine lv_goto (tgt := 94) hx hb dX6_see_89 (by decide) ?_
          exact J_94 _ (by first | (rw [if_pos (by omega)]) | (rw [if_neg (by omega)]))
      · refine lv_aload_n hx hb dX6_see_17 rfl (lv_at hl 0 rfl) ?_
        refine rg (T := TX6) (N := 9) CX hE hW.1 in_X6_see_X6 0 rfl rfl 0 (by decide) fl_X6_see_7 rfl rfl dX6_see_18 ?_
        refine lv_iload_n hx hb dX6_see_21 rfl (lv_at hl 2 rfl) ?_
        refine rn_iconst hx hb 1 rfl dX6_see_22 ?_
        refine rn_iadd hx hb dX6_see_23 ?_
        refine lv_iload_n hx hb dX6_see_24 rfl (lv_at hl 3 rfl) ?_
        refine rn_iadd hx hb dX6_see_25 ?_
        refine lv_aload_n hx hb dX6_see_26 rfl (lv_at hl 0 rfl) ?_
        refine rg (T := TX6) (N := 9) CX hE hW.1 in_X6_see_X6 0 rfl rfl 0 (by decide) fl_X6_see_7 rfl rfl dX6_see_27 ?_
        refine lv_iload_n hx hb dX6_see_30 rfl (lv_at hl 2 rfl) ?_
        refine lv_iload_n hx hb dX6_see_31 rfl (lv_at hl 3 rfl) ?_
        refine rn_iadd hx hb dX6_see_32 ?_
        refine rn_iald CX hE hW.1 1 rfl (j := ((267 + (26 * p)) + k)) (by omega) (ltb rfl) dX6_see_33 ?_
        refine rn_iast (ws' := [(m 0, .inr (6, [.ref (m 1), .ref (m 2), .ref (m 3), .ref (m 4), .int (nI pm), .ref (m 5), .ref (m 6), .int (nI ty), .ref (m 7)])), (m 1, .inl (cA 0, 345, .inl (upd zz (((267 + (26 * p)) + 1) + k) (zz ((267 + (26 * p)) + k)))))]) CX hE hW 1 rfl (j := (((267 + (26 * p)) + 1) + k)) (by omega) (ltb rfl) rfl dX6_see_34 (fun H locs hW => ?_)
        refine rn_iincm hx hb (n := 1) (by omega) (lv' := [(3, .int (nI (k - 1))), (0, .ref (m 0)), (1, .int (nI p)), (2, .int (nI (267 + (26 * p))))]) rfl dX6_see_35 hl (k := 3) rfl (by decide) rfl (fun ls hl => ?_)
        refine lv_goto (tgt := 12) hx hb dX6_see_38 (by decide) ?_
        exact ih_12 (k - 1) (upd zz (((267 + (26 * p)) + 1) + k) (zz ((267 + (26 * p)) + k))) (by omega) (by omega) (by omega) (seeS_next hzz (by omega) hk) _ _ ls hW (lv_sub hl [1, 2, 3, 0] rfl)
  exact LP_12 _ 24 z (Nat.lt_succ_self _) (by omega) (by omega) seeS_0 _ _ ls hW (lv_sub hl [2, 3, 1, 0] rfl)
theorem fl_X6_tick_7 : Cond.fieldLink RX6 7 RX6 (TX6 0).2.1 (TX6 0).2.2.1 ∈ wsX6_tick := by decide +kernel
theorem in_X6_tick_X6 : ∀ w ∈ wsX60, w ∈ wsX6_tick := by decide +kernel
theorem hdv_X6_see : yX6_see.cls = RX6 ∧ yX6_see.cls ≠ "java/lang/invoke/MethodHandle" ∧ yX6_see.cls ≠ "java/lang/invoke/VarHandle" ∧ (parseMethodDescriptor yX6_see.desc).map (fun d => d.parameters.length) = some 1 := by decide +kernel
theorem fl_X6_tick_30 : Cond.fieldLink RX6 30 RX6 (TX6 8).2.1 (TX6 8).2.2.1 ∈ wsX6_tick := by decide +kernel
theorem hdv_X6_heightThen : yX6_heightThen.cls = RX6 ∧ yX6_heightThen.cls ≠ "java/lang/invoke/MethodHandle" ∧ yX6_heightThen.cls ≠ "java/lang/invoke/VarHandle" ∧ (parseMethodDescriptor yX6_heightThen.desc).map (fun d => d.parameters.length) = some 1 := by decide +kernel
set_option maxHeartbeats 4000000 in
set_option maxRecDepth 100000 in
theorem c_X6_tick (l : Launch) (G : va_G) (cA : Nat → ClassId) (m : Nat → Nat) (pm : Nat) (ty : Nat) (z : Nat → Int32) (th : Nat → Int32) (nd : Nat) (np : Nat) (hok : okM z nd np) : MUv l yX6_tick wsX6_tick ({ frames := 5, cells := 0, slots := 0, locals := 113 }) G cA BM0 [(m 0, .inr (6, [.ref (m 1), .ref (m 2), .ref (m 3), .ref (m 4), .int (nI pm), .ref (m 5), .ref (m 6), .int (nI ty), .ref (m 7)])), (m 1, .inl (cA 0, 345, .inl z)), (m 7, .inl (cA 0, 60, .inl th))] [.ref (m 0)] [(m 0, .inr (6, [.ref (m 1), .ref (m 2), .ref (m 3), .ref (m 4), .int (nI pm), .ref (m 5), .ref (m 6), .int (nI ty), .ref (m 7)])), (m 1, .inl (cA 0, 345, .inl (tickM z nd np))), (m 7, .inl (cA 0, 60, .inl (thenF z nd)))] := by
  refine MUv.mk (own := RX6) (by decide) rfl rfl (Nat.le_of_ble_eq_true rfl) (fun p_ e_ s_ m_ below meth c_ ls A_ CX hr hlk hW hA hE hB hl => ?_)
  obtain ⟨hx, hb, hml, hown, hts⟩ := id CX
  have hl : lv_has ls 2 [(0, .ref (m 0))] := hl
  have hW : wld G A_ [(m 0, .inr (6, [.ref (m 1), .ref (m 2), .ref (m 3), .ref (m 4), .int (nI pm), .ref (m 5), .ref (m 6), .int (nI ty), .ref (m 7)])), (m 1, .inl (cA 0, 345, .inl z)), (m 7, .inl (cA 0, 60, .inl th))] s_.heap s_.heap [] := hW
  have hok2 := id hok
  obtain ⟨⟨hz, hnd, hz2, hnp⟩, hpe, hpr⟩ := hok2
  refine rn_iconst hx hb 0 rfl dX6_tick_0 ?_
  refine lv_istore_n (lv' := [(1, .int (nI 0)), (0, .ref (m 0))]) hx hb dX6_tick_1 rfl hl (by decide) rfl (fun ls hl => ?_)
  have LP_2 : ∀ (nn_ : Nat) (i : Nat) (tt : Nat → Int32), (60 - i) < nn_ → (i ≤ 60) → (tt = rgF 0 i (thenF z nd) th) → ∀ (H : Heap) (locs : List Loc) (ls : Array Slot), wld G A_ [(m 0, .inr (6, [.ref (m 1), .ref (m 2), .ref (m 3), .ref (m 4), .int (nI pm), .ref (m 5), .ref (m 6), .int (nI ty), .ref (m 7)])), (m 1, .inl (cA 0, 345, .inl z)), (m 7, .inl (cA 0, 60, .inl tt))] s_.heap H locs → lv_has ls 2 [(0, .ref (m 0)), (1, .int (nI i))] → W p_ l e_ ({ frames := 5, cells := 0, slots := 0, locals := 113 } : Room) s_ m_ ([.ref (m 0)] : List Value).toArray below meth c_ H locs 0 0 (MQ below (va_Qv (fun _ : Unit => True) (fun _ t_ => va_P G vwCl [(m 0, .inr (6, [.ref (m 1), .ref (m 2), .ref (m 3), .ref (m 4), .int (nI pm), .ref (m 5), .ref (m 6), .int (nI ty), .ref (m 7)])), (m 1, .inl (cA 0, 345, .inl (tickM z nd np))), (m 7, .inl (cA 0, 60, .inl (thenF z nd)))] t_.heap ∧ va_D A_ [(m 0, .inr (6, [.ref (m 1), .ref (m 2), .ref (m 3), .ref (m 4), .int (nI pm), .ref (m 5), .ref (m 6), .int (nI ty), .ref (m 7)])), (m 1, .inl (cA 0, 345, .inl (tickM z nd np))), (m 7, .inl (cA 0, 60, .inl (thenF z nd)))]) A_) ([.ref (m 0)] : List Value).toArray s_ 0 0 A_) (F0 m_ 2 ls []) := by
    intro nn_
    induction nn_ with
    | zero => intro i tt hmu; exact absurd hmu (Nat.not_lt_zero _)
    | succ nn_ ih =>
      have ih_2 := ih
      clear ih
      intro i tt hmu_2 hi htt H locs ls hW hl
      refine lv_iload_n hx hb dX6_tick_2 rfl (lv_at hl 1 rfl) ?_
      refine lv_bipush (v := (nI 60)) hx hb dX6_tick_3 kb_60 ?_
      refine rn_icmp_ge hx hb (by omega) (by omega) dX6_tick_5 (by decide) (tgt := 25) (fun c_5 => ?_) (fun c_5 => ?_)
      · have hW := hW.ext (ws' := [(m 0, .inr (6, [.ref (m 1), .ref (m 2), .ref (m 3), .ref (m 4), .int (nI pm), .ref (m 5), .ref (m 6), .int (nI ty), .ref (m 7)])), (m 1, .inl (cA 0, 345, .inl z)), (m 7, .inl (cA 0, 60, .inl (thenF z nd)))]) 2 (g := (thenF z nd)) rfl (fun j hj => by rw [htt, show i = 60 by omega, rgF_in (Nat.zero_le _) (by omega)]; rfl) rfl
        refine rn_iconst hx hb 0 rfl dX6_tick_25 ?_
        refine lv_istore_n (lv' := [(1, .int (nI 0)), (0, .ref (m 0))]) hx hb dX6_tick_26 rfl hl (by decide) rfl (fun ls hl => ?_)
        have LP_27 : ∀ (nn_ : Nat) (i : Nat) (zz : Nat → Int32), (60 - i) < nn_ → (i ≤ 60) → (zz = tk2 z (thenF z nd) i) → ∀ (H : Heap) (locs : List Loc) (ls : Array Slot), wld G A_ [(m 0, .inr (6, [.ref (m 1), .ref (m 2), .ref (m 3), .ref (m 4), .int (nI pm), .ref (m 5), .ref (m 6), .int (nI ty), .ref (m 7)])), (m 1, .inl (cA 0, 345, .inl zz)), (m 7, .inl (cA 0, 60, .inl (thenF z nd)))] s_.heap H locs → lv_has ls 2 [(0, .ref (m 0)), (1, .int (nI i))] → W p_ l e_ ({ frames := 5, cells := 0, slots := 0, locals := 113 } : Room) s_ m_ ([.ref (m 0)] : List Value).toArray below meth c_ H locs 0 0 (MQ below (va_Qv (fun _ : Unit => True) (fun _ t_ => va_P G vwCl [(m 0, .inr (6, [.ref (m 1), .ref (m 2), .ref (m 3), .ref (m 4), .int (nI pm), .ref (m 5), .ref (m 6), .int (nI ty), .ref (m 7)])), (m 1, .inl (cA 0, 345, .inl (tickM z nd np))), (m 7, .inl (cA 0, 60, .inl (thenF z nd)))] t_.heap ∧ va_D A_ [(m 0, .inr (6, [.ref (m 1), .ref (m 2), .ref (m 3), .ref (m 4), .int (nI pm), .ref (m 5), .ref (m 6), .int (nI ty), .ref (m 7)])), (m 1, .inl (cA 0, 345, .inl (tickM z nd np))), (m 7, .inl (cA 0, 60, .inl (thenF z nd)))]) A_) ([.ref (m 0)] : List Value).toArray s_ 0 0 A_) (F0 m_ 27 ls []) := by
          intro nn_
          induction nn_ with
          | zero => intro i zz hmu; exact absurd hmu (Nat.not_lt_zero _)
          | succ nn_ ih =>
            have ih_27 := ih
            clear ih
            intro i zz hmu_27 hi hzz H locs ls hW hl
            refine lv_iload_n hx hb dX6_tick_27 rfl (lv_at hl 1 rfl) ?_
            refine lv_bipush (v := (nI 60)) hx hb dX6_tick_28 kb_60 ?_
            refine rn_icmp_ge hx hb (by omega) (by omega) dX6_tick_30 (by decide) (tgt := 129) (fun c_30 => ?_) (fun c_30 => ?_)
            · refine rn_iconst hx hb 0 rfl dX6_tick_129 ?_
              refine lv_istore_n (lv' := [(1, .int (nI 0)), (0, .ref (m 0))]) hx hb dX6_tick_130 rfl hl (by decide) rfl (fun ls hl => ?_)
              have LP_131 : ∀ (nn_ : Nat) (p : Nat) (zp : Nat → Int32), (np - p) < nn_ → (p ≤ np) → (zp = seesM (tk2 z (thenF z nd) 60) p) → ∀ (H : Heap) (locs : List Loc) (ls : Array Slot), wld G A_ [(m 0, .inr (6, [.ref (m 1), .ref (m 2), .ref (m 3), .ref (m 4), .int (nI pm), .ref (m 5), .ref (m 6), .int (nI ty), .ref (m 7)])), (m 1, .inl (cA 0, 345, .inl zp)), (m 7, .inl (cA 0, 60, .inl (thenF z nd)))] s_.heap H locs → lv_has ls 2 [(0, .ref (m 0)), (1, .int (nI p))] → W p_ l e_ ({ frames := 5, cells := 0, slots := 0, locals := 113 } : Room) s_ m_ ([.ref (m 0)] : List Value).toArray below meth c_ H locs 0 0 (MQ below (va_Qv (fun _ : Unit => True) (fun _ t_ => va_P G vwCl [(m 0, .inr (6, [.ref (m 1), .ref (m 2), .ref (m 3), .ref (m 4), .int (nI pm), .ref (m 5), .ref (m 6), .int (nI ty), .ref (m 7)])), (m 1, .inl (cA 0, 345, .inl (tickM z nd np))), (m 7, .inl (cA 0, 60, .inl (thenF z nd)))] t_.heap ∧ va_D A_ [(m 0, .inr (6, [.ref (m 1), .ref (m 2), .ref (m 3), .ref (m 4), .int (nI pm), .ref (m 5), .ref (m 6), .int (nI ty), .ref (m 7)])), (m 1, .inl (cA 0, 345, .inl (tickM z nd np))), (m 7, .inl (cA 0, 60, .inl (thenF z nd)))]) A_) ([.ref (m 0)] : List Value).toArray s_ 0 0 A_) (F0 m_ 131 ls []) := by
                intro nn_
                induction nn_ with
                | zero => intro p zp hmu; exact absurd hmu (Nat.not_lt_zero _)
                | succ nn_ ih =>
                  have ih_131 := ih
                  clear ih
                  intro p zp hmu_131 hp hzp H locs ls hW hl
                  refine lv_iload_n hx hb dX6_tick_131 rfl (lv_at hl 1 rfl) ?_
                  refine lv_aload_n hx hb dX6_tick_132 rfl (lv_at hl 0 rfl) ?_
                  refine rg (T := TX6) (N := 9) CX hE hW.1 in_X6_tick_X6 0 rfl rfl 0 (by decide) fl_X6_tick_7 rfl rfl dX6_tick_133 ?_
                  refine lv_sipush (v := (nI 266)) hx hb dX6_tick_136 ks_266 ?_
                  refine rn_iald CX hE hW.1 1 rfl (j := 266) (by omega) (ltb rfl) dX6_tick_139 ?_
                  refine rn_top (nI np) (by rw [hzp, seesM_lo (by omega), tk2_same (by omega) (by omega) (by omega)]; exact hz2) ?_
                  refine rn_icmp_ge hx hb (by omega) (by omega) dX6_tick_140 (by decide) (tgt := 154) (fun c_140 => ?_) (fun c_140 => ?_)
                  · refine lv_aload_n hx hb dX6_tick_154 rfl (lv_at hl 0 rfl) ?_
                    refine rg (T := TX6) (N := 9) CX hE hW.1 in_X6_tick_X6 0 rfl rfl 0 (by decide) fl_X6_tick_7 rfl rfl dX6_tick_155 ?_
                    refine rn_iconst hx hb 4 rfl dX6_tick_158 ?_
                    refine lv_dup2_11 hx hb dX6_tick_159 rfl rfl ?_
                    refine rn_iald CX hE hW.1 1 rfl (j := 4) (by omega) (ltb rfl) dX6_tick_160 ?_
                    refine rn_top (z 4) (by rw [hzp, seesM_lo (by omega), tk2_same (by omega) (by omega) (by omega)]) ?_
                    refine rn_iconst hx hb 1 rfl dX6_tick_161 ?_
                    refine lv_iadd hx hb dX6_tick_162 ?_
                    refine rn_iast (ws' := [(m 0, .inr (6, [.ref (m 1), .ref (m 2), .ref (m 3), .ref (m 4), .int (nI pm), .ref (m 5), .ref (m 6), .int (nI ty), .ref (m 7)])), (m 1, .inl (cA 0, 345, .inl (upd zp 4 ((z 4) + (nI 1))))), (m 7, .inl (cA 0, 60, .inl (thenF z nd)))]) CX hE hW 1 rfl (j := 4) (by omega) (ltb rfl) rfl dX6_tick_163 (fun H locs hW => ?_)
                    have hW := hW.ext (ws' := [(m 0, .inr (6, [.ref (m 1), .ref (m 2), .ref (m 3), .ref (m 4), .int (nI pm), .ref (m 5), .ref (m 6), .int (nI ty), .ref (m 7)])), (m 1, .inl (cA 0, 345, .inl (tickM z nd np))), (m 7, .inl (cA 0, 60, .inl (thenF z nd)))]) 1 (g := (tickM z nd np)) rfl (fun j _ => by rw [hzp, show p = np by omega]; rfl) rfl
                    exact mu_retv CX hr hlk hW dX6_tick_164
                  · obtain ⟨⟨ga, gb⟩, gc, gd⟩ := hok.tk2 (g := thenF z nd) (p := p) (by omega)
                    rw [← hzp] at ga gc
                    refine lv_aload_n hx hb dX6_tick_143 rfl (lv_at hl 0 rfl) ?_
                    refine lv_iload_n hx hb dX6_tick_144 rfl (lv_at hl 1 rfl) ?_
                    refine muvV (ws' := [(m 0, .inr (6, [.ref (m 1), .ref (m 2), .ref (m 3), .ref (m 4), .int (nI pm), .ref (m 5), .ref (m 6), .int (nI ty), .ref (m 7)])), (m 1, .inl (cA 0, 345, .inl (seeM zp p (pcM (tk2 z (thenF z nd) 60) p) (plM (tk2 z (thenF z nd) 60) p)))), (m 7, .inl (cA 0, 60, .inl (thenF z nd)))]) CX hE hW hA (c_X6_see l G cA m pm ty zp p (pcM (tk2 z (thenF z nd) 60) p) (plM (tk2 z (thenF z nd) 60) p) (by omega) gb (by assumption) gd (by assumption)) (cwV 1 hts gX6_tick_X6_see rfl rfl rfl hdv_X6_see ⟨Nat.le_of_ble_eq_true rfl, Nat.le_of_ble_eq_true rfl⟩) [0, 1] (by decide) rfl rfl rfl 0 rfl rfl rfl BM0_blind (fun _ _ _ _ => trivial) rfl hl.1 (rest := []) rfl (Nat.le_of_ble_eq_true rfl) dX6_tick_145 ⟨Nat.zero_le _, Nat.zero_le _⟩ (fun H locs hW => ?_)
                    refine rn_iinc hx hb (n := 1) (lv' := [(1, .int (nI (p + 1))), (0, .ref (m 0))]) rfl dX6_tick_148 hl (k := 1) rfl (by decide) rfl (fun ls hl => ?_)
                    refine lv_goto (tgt := 131) hx hb dX6_tick_151 (by decide) ?_
                    exact ih_131 (p + 1) (seeM zp p (pcM (tk2 z (thenF z nd) 60) p) (plM (tk2 z (thenF z nd) 60) p)) (by omega) (by omega) (by rw [hzp]; rfl) _ _ ls hW (lv_sub hl [1, 0] rfl)
              exact LP_131 _ 0 zz (Nat.lt_succ_self _) (by omega) (by rw [hzz, show i = 60 by omega]; rfl) _ _ ls hW (lv_sub hl [1, 0] rfl)
            · refine lv_aload_n hx hb dX6_tick_33 rfl (lv_at hl 0 rfl) ?_
              refine rg (T := TX6) (N := 9) CX hE hW.1 in_X6_tick_X6 0 rfl rfl 0 (by decide) fl_X6_tick_7 rfl rfl dX6_tick_34 ?_
              refine lv_bipush (v := (nI 125)) hx hb dX6_tick_37 kb_125 ?_
              refine lv_iload_n hx hb dX6_tick_39 rfl (lv_at hl 1 rfl) ?_
              refine rn_iadd hx hb dX6_tick_40 ?_
              refine lv_aload_n hx hb dX6_tick_41 rfl (lv_at hl 0 rfl) ?_
              refine lv_iload_n hx hb dX6_tick_42 rfl (lv_at hl 1 rfl) ?_
              refine roV CX hE hW.1 (c_X6_now l G cA m pm ty zz i (by omega)) (cwV 1 hts gX6_tick_X6_now rfl rfl rfl hdv_X6_now ⟨Nat.le_of_ble_eq_true rfl, Nat.le_of_ble_eq_true rfl⟩) [0, 1] rfl 0 rfl rfl rfl B0_blind (fun _ _ _ => trivial) rfl hl.1 (rest := [.int (nI (125 + i)), .ref (m 1)]) rfl (Nat.le_of_ble_eq_true rfl) dX6_tick_43 ⟨Nat.zero_le _, Nat.zero_le _⟩ ?_
              refine rn_top (z (65 + i)) (by show zz (65 + i) = _; rw [hzz, tk2_same (by omega) (by omega) (by omega)]) ?_
              refine rn_iast (ws' := [(m 0, .inr (6, [.ref (m 1), .ref (m 2), .ref (m 3), .ref (m 4), .int (nI pm), .ref (m 5), .ref (m 6), .int (nI ty), .ref (m 7)])), (m 1, .inl (cA 0, 345, .inl (upd zz (125 + i) (z (65 + i))))), (m 7, .inl (cA 0, 60, .inl (thenF z nd)))]) CX hE hW 1 rfl (j := (125 + i)) (by omega) (ltb rfl) rfl dX6_tick_46 (fun H locs hW => ?_)
              refine lv_aload_n hx hb dX6_tick_47 rfl (lv_at hl 0 rfl) ?_
              refine rg (T := TX6) (N := 9) CX hE hW.1 in_X6_tick_X6 0 rfl rfl 0 (by decide) fl_X6_tick_7 rfl rfl dX6_tick_48 ?_
              refine lv_bipush (v := (nI 65)) hx hb dX6_tick_51 kb_65 ?_
              refine lv_iload_n hx hb dX6_tick_53 rfl (lv_at hl 1 rfl) ?_
              refine rn_iadd hx hb dX6_tick_54 ?_
              refine lv_aload_n hx hb dX6_tick_55 rfl (lv_at hl 0 rfl) ?_
              refine rg (T := TX6) (N := 9) CX hE hW.1 in_X6_tick_X6 0 rfl rfl 8 (by decide) fl_X6_tick_30 rfl rfl dX6_tick_56 ?_
              refine lv_iload_n hx hb dX6_tick_59 rfl (lv_at hl 1 rfl) ?_
              refine rn_iald CX hE hW.1 2 rfl (j := i) (by omega) (ltb rfl) dX6_tick_60 ?_
              refine rn_iast (ws' := [(m 0, .inr (6, [.ref (m 1), .ref (m 2), .ref (m 3), .ref (m 4), .int (nI pm), .ref (m 5), .ref (m 6), .int (nI ty), .ref (m 7)])), (m 1, .inl (cA 0, 345, .inl (upd (upd zz (125 + i) (z (65 + i))) (65 + i) ((thenF z nd) i)))), (m 7, .inl (cA 0, 60, .inl (thenF z nd)))]) CX hE hW 1 rfl (j := (65 + i)) (by omega) (ltb rfl) rfl dX6_tick_61 (fun H locs hW => ?_)
              refine lv_aload_n hx hb dX6_tick_62 rfl (lv_at hl 0 rfl) ?_
              refine rg (T := TX6) (N := 9) CX hE hW.1 in_X6_tick_X6 0 rfl rfl 0 (by decide) fl_X6_tick_7 rfl rfl dX6_tick_63 ?_
              refine lv_sipush (v := (nI 185)) hx hb dX6_tick_66 ks_185 ?_
              refine lv_iload_n hx hb dX6_tick_69 rfl (lv_at hl 1 rfl) ?_
              refine rn_iadd hx hb dX6_tick_70 ?_
              refine lv_aload_n hx hb dX6_tick_71 rfl (lv_at hl 0 rfl) ?_
              refine rg (T := TX6) (N := 9) CX hE hW.1 in_X6_tick_X6 0 rfl rfl 0 (by decide) fl_X6_tick_7 rfl rfl dX6_tick_72 ?_
              refine lv_sipush (v := (nI 185)) hx hb dX6_tick_75 ks_185 ?_
              refine lv_iload_n hx hb dX6_tick_78 rfl (lv_at hl 1 rfl) ?_
              refine rn_iadd hx hb dX6_tick_79 ?_
              refine rn_iald CX hE hW.1 1 rfl (j := (185 + i)) (by omega) (ltb rfl) dX6_tick_80 ?_
              refine rn_top (z (185 + i)) (by rw [updN (by omega), updN (by omega), hzz, tk2_same (by omega) (by omega) (by omega)]) ?_
              have J_122 : ∀ v : Int32, v = (tk1F z (thenF z nd) i) → W p_ l e_ ({ frames := 5, cells := 0, slots := 0, locals := 113 } : Room) s_ m_ ([.ref (m 0)] : List Value).toArray below meth c_ H locs 0 0 (MQ below (va_Qv (fun _ : Unit => True) (fun _ t_ => va_P G vwCl [(m 0, .inr (6, [.ref (m 1), .ref (m 2), .ref (m 3), .ref (m 4), .int (nI pm), .ref (m 5), .ref (m 6), .int (nI ty), .ref (m 7)])), (m 1, .inl (cA 0, 345, .inl (tickM z nd np))), (m 7, .inl (cA 0, 60, .inl (thenF z nd)))] t_.heap ∧ va_D A_ [(m 0, .inr (6, [.ref (m 1), .ref (m 2), .ref (m 3), .ref (m 4), .int (nI pm), .ref (m 5), .ref (m 6), .int (nI ty), .ref (m 7)])), (m 1, .inl (cA 0, 345, .inl (tickM z nd np))), (m 7, .inl (cA 0, 60, .inl (thenF z nd)))]) A_) ([.ref (m 0)] : List Value).toArray s_ 0 0 A_) (F0 m_ 122 ls [.int v, .int (nI (185 + i)), .ref (m 1)]) := by
                intro v hv
                subst hv
                refine rn_iast (ws' := [(m 0, .inr (6, [.ref (m 1), .ref (m 2), .ref (m 3), .ref (m 4), .int (nI pm), .ref (m 5), .ref (m 6), .int (nI ty), .ref (m 7)])), (m 1, .inl (cA 0, 345, .inl (upd (upd (upd zz (125 + i) (z (65 + i))) (65 + i) ((thenF z nd) i)) (185 + i) (tk1F z (thenF z nd) i)))), (m 7, .inl (cA 0, 60, .inl (thenF z nd)))]) CX hE hW 1 rfl (j := (185 + i)) (by omega) (ltb rfl) rfl dX6_tick_122 (fun H locs hW => ?_)
                refine rn_iinc hx hb (n := 1) (lv' := [(1, .int (nI (i + 1))), (0, .ref (m 0))]) rfl dX6_tick_123 hl (k := 1) rfl (by decide) rfl (fun ls hl => ?_)
                refine lv_goto (tgt := 27) hx hb dX6_tick_126 (by decide) ?_
                exact ih_27 (i + 1) (upd (upd (upd zz (125 + i) (z (65 + i))) (65 + i) ((thenF z nd) i)) (185 + i) (tk1F z (thenF z nd) i)) (by omega) (by omega) (tk2_next hzz (by omega)) _ _ ls hW (lv_sub hl [1, 0] rfl)
              refine lv_bipush (v := (-6)) hx hb dX6_tick_81 kb_m6 ?_
              refine lv_icmp_ne hx hb dX6_tick_83 (by decide) (tgt := 112) (fun c_83 => ?_) (fun c_83 => ?_)
              · refine lv_aload_n hx hb dX6_tick_112 rfl (lv_at hl 0 rfl) ?_
                refine rg (T := TX6) (N := 9) CX hE hW.1 in_X6_tick_X6 0 rfl rfl 0 (by decide) fl_X6_tick_7 rfl rfl dX6_tick_113 ?_
                refine lv_sipush (v := (nI 185)) hx hb dX6_tick_116 ks_185 ?_
                refine lv_iload_n hx hb dX6_tick_119 rfl (lv_at hl 1 rfl) ?_
                refine rn_iadd hx hb dX6_tick_120 ?_
                refine rn_iald CX hE hW.1 1 rfl (j := (185 + i)) (by omega) (ltb rfl) dX6_tick_121 ?_
                exact J_122 _ (by first | exact (if_pos ⟨c_83, Int32.not_le.mp c_100⟩).symm | (rw [updN (by omega), updN (by omega), hzz, tk2_same (by omega) (by omega) (by omega)]; first | exact (if_neg (fun h => c_83 h.1)).symm | exact (if_neg (fun h => absurd c_100 (Int32.not_le.mpr h.2))).symm))
              · refine lv_aload_n hx hb dX6_tick_86 rfl (lv_at hl 0 rfl) ?_
                refine lv_iload_n hx hb dX6_tick_87 rfl (lv_at hl 1 rfl) ?_
                refine roV CX hE hW.1 (c_X6_now l G cA m pm ty (upd (upd zz (125 + i) (z (65 + i))) (65 + i) ((thenF z nd) i)) i (by omega)) (cwV 1 hts gX6_tick_X6_now rfl rfl rfl hdv_X6_now ⟨Nat.le_of_ble_eq_true rfl, Nat.le_of_ble_eq_true rfl⟩) [0, 1] rfl 0 rfl rfl rfl B0_blind (fun _ _ _ => trivial) rfl hl.1 (rest := [.int (nI (185 + i)), .ref (m 1)]) rfl (Nat.le_of_ble_eq_true rfl) dX6_tick_88 ⟨Nat.zero_le _, Nat.zero_le _⟩ ?_
                refine rn_top (thenF z nd i) (updE rfl) ?_
                refine roS CX hE hW.1 (c_X6_size l G cA (thenF z nd i) ) (va_cwS 1 hts gX6_tick_X6_size rfl rfl rfl hdn_X6_size ⟨Nat.le_of_ble_eq_true rfl, Nat.le_of_ble_eq_true rfl⟩) [] rfl B0_blind (fun _ _ _ => trivial) rfl hl.1 (rest := [.int (nI (185 + i)), .ref (m 1)]) rfl (Nat.le_of_ble_eq_true rfl) dX6_tick_91 ⟨Nat.zero_le _, Nat.zero_le _⟩ ?_
                refine lv_aload_n hx hb dX6_tick_94 rfl (lv_at hl 0 rfl) ?_
                refine rg (T := TX6) (N := 9) CX hE hW.1 in_X6_tick_X6 0 rfl rfl 0 (by decide) fl_X6_tick_7 rfl rfl dX6_tick_95 ?_
                refine rn_iconst hx hb 3 rfl dX6_tick_98 ?_
                refine rn_iald CX hE hW.1 1 rfl (j := 3) (by omega) (ltb rfl) dX6_tick_99 ?_
                refine rn_top (z 3) (by rw [updN (by omega), updN (by omega), hzz, tk2_same (by omega) (by omega) (by omega)]) ?_
                refine lv_icmp_le hx hb dX6_tick_100 (by decide) (tgt := 112) (fun c_100 => ?_) (fun c_100 => ?_)
                · refine lv_aload_n hx hb dX6_tick_112 rfl (lv_at hl 0 rfl) ?_
                  refine rg (T := TX6) (N := 9) CX hE hW.1 in_X6_tick_X6 0 rfl rfl 0 (by decide) fl_X6_tick_7 rfl rfl dX6_tick_113 ?_
                  refine lv_sipush (v := (nI 185)) hx hb dX6_tick_116 ks_185 ?_
                  refine lv_iload_n hx hb dX6_tick_119 rfl (lv_at hl 1 rfl) ?_
                  refine rn_iadd hx hb dX6_tick_120 ?_
                  refine rn_iald CX hE hW.1 1 rfl (j := (185 + i)) (by omega) (ltb rfl) dX6_tick_121 ?_
                  exact J_122 _ (by first | exact (if_pos ⟨c_83, Int32.not_le.mp c_100⟩).symm | (rw [updN (by omega), updN (by omega), hzz, tk2_same (by omega) (by omega) (by omega)]; first | exact (if_neg (fun h => c_83 h.1)).symm | exact (if_neg (fun h => absurd c_100 (Int32.not_le.mpr h.2))).symm))
                · refine lv_aload_n hx hb dX6_tick_103 rfl (lv_at hl 0 rfl) ?_
                  refine rg (T := TX6) (N := 9) CX hE hW.1 in_X6_tick_X6 0 rfl rfl 0 (by decide) fl_X6_tick_7 rfl rfl dX6_tick_104 ?_
                  refine rn_iconst hx hb 4 rfl dX6_tick_107 ?_
                  refine rn_iald CX hE hW.1 1 rfl (j := 4) (by omega) (ltb rfl) dX6_tick_108 ?_
                  refine rn_top (z 4) (by rw [updN (by omega), updN (by omega), hzz, tk2_same (by omega) (by omega) (by omega)]) ?_
                  refine lv_goto (tgt := 122) hx hb dX6_tick_109 (by decide) ?_
                  exact J_122 _ (by first | exact (if_pos ⟨c_83, Int32.not_le.mp c_100⟩).symm | (rw [updN (by omega), updN (by omega), hzz, tk2_same (by omega) (by omega) (by omega)]; first | exact (if_neg (fun h => c_83 h.1)).symm | exact (if_neg (fun h => absurd c_100 (Int32.not_le.mpr h.2))).symm))
        exact LP_27 _ 0 z (Nat.lt_succ_self _) (by omega) tk2_0 _ _ ls hW (lv_sub hl [1, 0] rfl)
      · refine lv_aload_n hx hb dX6_tick_8 rfl (lv_at hl 0 rfl) ?_
        refine rg (T := TX6) (N := 9) CX hE hW.1 in_X6_tick_X6 0 rfl rfl 8 (by decide) fl_X6_tick_30 rfl rfl dX6_tick_9 ?_
        refine lv_iload_n hx hb dX6_tick_12 rfl (lv_at hl 1 rfl) ?_
        refine lv_aload_n hx hb dX6_tick_13 rfl (lv_at hl 0 rfl) ?_
        refine lv_iload_n hx hb dX6_tick_14 rfl (lv_at hl 1 rfl) ?_
        refine roV CX hE hW.1 (c_X6_heightThen l G cA m pm ty z nd i (by omega) (by omega) (by assumption) (by assumption)) (cwV 1 hts gX6_tick_X6_heightThen rfl rfl rfl hdv_X6_heightThen ⟨Nat.le_of_ble_eq_true rfl, Nat.le_of_ble_eq_true rfl⟩) [0, 1] rfl 0 rfl rfl rfl B0_blind (fun _ _ _ => trivial) rfl hl.1 (rest := [.int (nI i), .ref (m 7)]) rfl (Nat.le_of_ble_eq_true rfl) dX6_tick_15 ⟨Nat.zero_le _, Nat.zero_le _⟩ ?_
        refine rn_iast (ws' := [(m 0, .inr (6, [.ref (m 1), .ref (m 2), .ref (m 3), .ref (m 4), .int (nI pm), .ref (m 5), .ref (m 6), .int (nI ty), .ref (m 7)])), (m 1, .inl (cA 0, 345, .inl z)), (m 7, .inl (cA 0, 60, .inl (upd tt i (thenF z nd i))))]) CX hE hW 2 rfl (j := i) (by omega) (ltb rfl) rfl dX6_tick_18 (fun H locs hW => ?_)
        refine rn_iinc hx hb (n := 1) (lv' := [(1, .int (nI (i + 1))), (0, .ref (m 0))]) rfl dX6_tick_19 hl (k := 1) rfl (by decide) rfl (fun ls hl => ?_)
        refine lv_goto (tgt := 2) hx hb dX6_tick_22 (by decide) ?_
        exact ih_2 (i + 1) (upd tt i (thenF z nd i)) (by omega) (by omega) (rgF_next htt (Nat.zero_add _).symm rfl) _ _ ls hW (lv_sub hl [1, 0] rfl)
  exact LP_2 _ 0 th (Nat.lt_succ_self _) (by omega) rgF_0 _ _ ls hW (lv_sub hl [1, 0] rfl)
theorem hdv_X6_tick : yX6_tick.cls = RX6 ∧ yX6_tick.cls ≠ "java/lang/invoke/MethodHandle" ∧ yX6_tick.cls ≠ "java/lang/invoke/VarHandle" ∧ (parseMethodDescriptor yX6_tick.desc).map (fun d => d.parameters.length) = some 0 := by decide +kernel
set_option maxHeartbeats 4000000 in
set_option maxRecDepth 100000 in
theorem c_X6_ticks (l : Launch) (G : va_G) (cA : Nat → ClassId) (m : Nat → Nat) (pm : Nat) (ty : Nat) (z : Nat → Int32) (th : Nat → Int32) (nd : Nat) (np : Nat) (n : Nat) (hn : n < 2147483647) (hok : okM z nd np) : MUv l yX6_ticks wsX6_ticks ({ frames := 6, cells := 0, slots := 0, locals := 134 }) G cA BM0 [(m 0, .inr (6, [.ref (m 1), .ref (m 2), .ref (m 3), .ref (m 4), .int (nI pm), .ref (m 5), .ref (m 6), .int (nI ty), .ref (m 7)])), (m 1, .inl (cA 0, 345, .inl z)), (m 7, .inl (cA 0, 60, .inl th))] [.ref (m 0), .int (nI n)] [(m 0, .inr (6, [.ref (m 1), .ref (m 2), .ref (m 3), .ref (m 4), .int (nI pm), .ref (m 5), .ref (m 6), .int (nI ty), .ref (m 7)])), (m 1, .inl (cA 0, 345, .inl (runM z nd np n))), (m 7, .inl (cA 0, 60, .inl (thM z th nd np n)))] := by
  refine MUv.mk (own := RX6) (by decide) rfl rfl (Nat.le_of_ble_eq_true rfl) (fun p_ e_ s_ m_ below meth c_ ls A_ CX hr hlk hW hA hE hB hl => ?_)
  obtain ⟨hx, hb, hml, hown, hts⟩ := id CX
  have hl : lv_has ls 3 [(0, .ref (m 0)), (1, .int (nI n))] := hl
  have hW : wld G A_ [(m 0, .inr (6, [.ref (m 1), .ref (m 2), .ref (m 3), .ref (m 4), .int (nI pm), .ref (m 5), .ref (m 6), .int (nI ty), .ref (m 7)])), (m 1, .inl (cA 0, 345, .inl z)), (m 7, .inl (cA 0, 60, .inl th))] s_.heap s_.heap [] := hW
  refine rn_iconst hx hb 0 rfl dX6_ticks_0 ?_
  refine lv_istore_n (lv' := [(2, .int (nI 0)), (0, .ref (m 0)), (1, .int (nI n))]) hx hb dX6_ticks_1 rfl hl (by decide) rfl (fun ls hl => ?_)
  have LP_2 : ∀ (nn_ : Nat) (i : Nat) (zz : Nat → Int32) (tt : Nat → Int32), (n - i) < nn_ → (i ≤ n) → (zz = runM z nd np i) → (tt = thM z th nd np i) → ∀ (H : Heap) (locs : List Loc) (ls : Array Slot), wld G A_ [(m 0, .inr (6, [.ref (m 1), .ref (m 2), .ref (m 3), .ref (m 4), .int (nI pm), .ref (m 5), .ref (m 6), .int (nI ty), .ref (m 7)])), (m 1, .inl (cA 0, 345, .inl zz)), (m 7, .inl (cA 0, 60, .inl tt))] s_.heap H locs → lv_has ls 3 [(0, .ref (m 0)), (1, .int (nI n)), (2, .int (nI i))] → W p_ l e_ ({ frames := 6, cells := 0, slots := 0, locals := 134 } : Room) s_ m_ ([.ref (m 0), .int (nI n)] : List Value).toArray below meth c_ H locs 0 0 (MQ below (va_Qv (fun _ : Unit => True) (fun _ t_ => va_P G vwCl [(m 0, .inr (6, [.ref (m 1), .ref (m 2), .ref (m 3), .ref (m 4), .int (nI pm), .ref (m 5), .ref (m 6), .int (nI ty), .ref (m 7)])), (m 1, .inl (cA 0, 345, .inl (runM z nd np n))), (m 7, .inl (cA 0, 60, .inl (thM z th nd np n)))] t_.heap ∧ va_D A_ [(m 0, .inr (6, [.ref (m 1), .ref (m 2), .ref (m 3), .ref (m 4), .int (nI pm), .ref (m 5), .ref (m 6), .int (nI ty), .ref (m 7)])), (m 1, .inl (cA 0, 345, .inl (runM z nd np n))), (m 7, .inl (cA 0, 60, .inl (thM z th nd np n)))]) A_) ([.ref (m 0), .int (nI n)] : List Value).toArray s_ 0 0 A_) (F0 m_ 2 ls []) := by
    intro nn_
    induction nn_ with
    | zero => intro i zz tt hmu; exact absurd hmu (Nat.not_lt_zero _)
    | succ nn_ ih =>
      have ih_2 := ih
      clear ih
      intro i zz tt hmu_2 hi hzz htt H locs ls hW hl
      refine lv_iload_n hx hb dX6_ticks_2 rfl (lv_at hl 2 rfl) ?_
      refine lv_iload_n hx hb dX6_ticks_3 rfl (lv_at hl 1 rfl) ?_
      refine rn_icmp_ge hx hb (by omega) (by omega) dX6_ticks_4 (by decide) (tgt := 17) (fun c_4 => ?_) (fun c_4 => ?_)
      · have hW := hW.ext (ws' := [(m 0, .inr (6, [.ref (m 1), .ref (m 2), .ref (m 3), .ref (m 4), .int (nI pm), .ref (m 5), .ref (m 6), .int (nI ty), .ref (m 7)])), (m 1, .inl (cA 0, 345, .inl (runM z nd np n))), (m 7, .inl (cA 0, 60, .inl tt))]) 1 (g := (runM z nd np n)) rfl (fun j _ => by rw [hzz, show i = n by omega]) rfl
        have hW := hW.ext (ws' := [(m 0, .inr (6, [.ref (m 1), .ref (m 2), .ref (m 3), .ref (m 4), .int (nI pm), .ref (m 5), .ref (m 6), .int (nI ty), .ref (m 7)])), (m 1, .inl (cA 0, 345, .inl (runM z nd np n))), (m 7, .inl (cA 0, 60, .inl (thM z th nd np n)))]) 2 (g := (thM z th nd np n)) rfl (fun j _ => by rw [htt, show i = n by omega]) rfl
        exact mu_retv CX hr hlk hW dX6_ticks_17
      · have hok3 : okM zz nd np := by rw [hzz]; exact hok.run i
        refine lv_aload_n hx hb dX6_ticks_7 rfl (lv_at hl 0 rfl) ?_
        refine muvV (ws' := [(m 0, .inr (6, [.ref (m 1), .ref (m 2), .ref (m 3), .ref (m 4), .int (nI pm), .ref (m 5), .ref (m 6), .int (nI ty), .ref (m 7)])), (m 1, .inl (cA 0, 345, .inl (tickM zz nd np))), (m 7, .inl (cA 0, 60, .inl (thenF zz nd)))]) CX hE hW hA (c_X6_tick l G cA m pm ty zz tt nd np (by assumption)) (cwV 0 hts gX6_ticks_X6_tick rfl rfl rfl hdv_X6_tick ⟨Nat.le_of_ble_eq_true rfl, Nat.le_of_ble_eq_true rfl⟩) [0, 1, 2] (by decide) rfl rfl rfl 0 rfl rfl rfl BM0_blind (fun _ _ _ _ => trivial) rfl hl.1 (rest := []) rfl (Nat.le_of_ble_eq_true rfl) dX6_ticks_8 ⟨Nat.zero_le _, Nat.zero_le _⟩ (fun H locs hW => ?_)
        refine rn_iinc hx hb (n := 1) (lv' := [(2, .int (nI (i + 1))), (0, .ref (m 0)), (1, .int (nI n))]) rfl dX6_ticks_11 hl (k := 2) rfl (by decide) rfl (fun ls hl => ?_)
        refine lv_goto (tgt := 2) hx hb dX6_ticks_14 (by decide) ?_
        exact ih_2 (i + 1) (tickM zz nd np) (thenF zz nd) (by omega) (by omega) (by rw [hzz]; rfl) (by rw [hzz]; rfl) _ _ ls hW (lv_sub hl [1, 2, 0] rfl)
  exact LP_2 _ 0 z th (Nat.lt_succ_self _) (by omega) rfl rfl _ _ ls hW (lv_sub hl [1, 2, 0] rfl)
