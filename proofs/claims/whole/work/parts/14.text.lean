theorem w_X2_charactersIn_cl19 : Cond.constantLong RX2 19 255 ∈ wsX2_charactersIn := by decide +kernel
theorem kb_33 : (Int8.ofInt (33)).toInt32 = (nI 33) := by decide +kernel
theorem kb_126 : (Int8.ofInt (126)).toInt32 = (nI 126) := by decide +kernel
theorem nst_X2_21 : Cond.methodLinkNest RX2 21 yX5_isIn RX5 ∈ nestW := by decide +kernel
theorem w_X2_charactersIn_ini_X5 : Cond.initialized RX5 ∈ wsX2_charactersIn := by decide +kernel
theorem w_X2_charactersIn_st_X5_isIn : Cond.static yX5_isIn ∈ wsX2_charactersIn := by decide +kernel
set_option maxHeartbeats 4000000 in
set_option maxRecDepth 100000 in
theorem c_X2_charactersIn (l : Launch) (G : va_G) (cA : Nat → ClassId) (n : Nat) (hn64 : n < 2 ^ 64) : RO l yX2_charactersIn wsX2_charactersIn ({ frames := 1, cells := 0, slots := 0, locals := 22 }) G cA B0 [] [.long (lN n)] (nI (chF 8 n 0)) := by
  refine RO.mk (own := RX2) (by decide) rfl rfl (Nat.le_of_ble_eq_true rfl) (fun p_ e_ s_ m_ below meth c_ ls CX hr hlk hP hE hB hl => ?_)
  obtain ⟨hx, hb, hml, hown, hts⟩ := id CX
  have hl : lv_has ls 5 [(0, .long (lN n))] := hl
  refine lv_lload_n hx hb dX2_charactersIn_0 rfl (lv_at hl 0 rfl) ?_
  refine lv_lstore_n (lv' := [(2, .long (lN n)), (0, .long (lN n))]) hx hb dX2_charactersIn_1 rfl hl (by decide) rfl (fun ls hl => ?_)
  refine rn_iconst hx hb 0 rfl dX2_charactersIn_2 ?_
  refine lv_istore (lv' := [(4, .int (nI 0)), (2, .long (lN n)), (0, .long (lN n))]) hx hb dX2_charactersIn_3 hl (by decide) rfl (fun ls hl => ?_)
  have LP_5 : ∀ (nn_ : Nat) (r : Nat) (k : Nat), (8 - k) < nn_ → (r < 2 ^ 64) → (k ≤ 8) → (chF (8 - k) r k = chF 8 n 0) → ∀ ls : Array Slot, lv_has ls 5 [(2, .long (lN r)), (4, .int (nI k))] → W p_ l e_ ({ frames := 1, cells := 0, slots := 0, locals := 22 } : Room) s_ m_ ([.long (lN n)] : List Value).toArray below meth c_ s_.heap [] 0 0 (MQ below (vp_Si (fun r_ => r_ = (nI (chF 8 n 0)))) ([.long (lN n)] : List Value).toArray s_ 0 0 (fun _ => False)) (F0 m_ 5 ls []) := by
    intro nn_
    induction nn_ with
    | zero => intro r k hmu; exact absurd hmu (Nat.not_lt_zero _)
    | succ nn_ ih =>
      have ih_5 := ih
      clear ih
      intro r k hmu_5 hrr hk hch ls hl
      refine lv_iload hx hb dX2_charactersIn_5 (lv_at hl 1 rfl) ?_
      refine lv_bipush (v := (nI 8)) hx hb dX2_charactersIn_7 kb_8 ?_
      refine rn_icmp_ge hx hb (by omega) (by omega) dX2_charactersIn_9 (by decide) (tgt := 51) (fun c_9 => ?_) (fun c_9 => ?_)
      · refine lv_lload_n hx hb dX2_charactersIn_51 rfl (lv_at hl 0 rfl) ?_
        refine lv_lconst (v := lN 0) hx hb dX2_charactersIn_52 rfl ?_
        refine rn_lcmp0 hx hb (by first | omega | exact Nat.lt_of_le_of_lt (Nat.div_le_self _ _) hn64) dX2_charactersIn_53 (fun c_53 => ?_) (fun c_53 v_ v0_ => ?_)
        · refine lv_if_ne hx hb dX2_charactersIn_54 (by decide) (tgt := 62) (fun z_ => absurd rfl z_) (fun _ => ?_)
          refine lv_iload hx hb dX2_charactersIn_57 (lv_at hl 1 rfl) ?_
          refine lv_goto (tgt := 63) hx hb dX2_charactersIn_59 (by decide) ?_
          exact ro_ret CX hr hlk (by rw [← hch]; first | (rw [chF_end (Or.inr c_18)]; first | rw [if_pos c_53] | rw [if_neg c_53]) | (rw [chF_end (Or.inl (by omega))]; first | rw [if_pos c_53] | rw [if_neg c_53])) rfl dX2_charactersIn_63
        · refine lv_if_ne hx hb dX2_charactersIn_54 (by decide) (tgt := 62) (fun _ => ?_) (fun z_ => absurd z_ v0_)
          refine rn_iconst hx hb 0 rfl dX2_charactersIn_62 ?_
          exact ro_ret CX hr hlk (by rw [← hch]; first | (rw [chF_end (Or.inr c_18)]; first | rw [if_pos c_53] | rw [if_neg c_53]) | (rw [chF_end (Or.inl (by omega))]; first | rw [if_pos c_53] | rw [if_neg c_53])) rfl dX2_charactersIn_63
      · refine lv_lload_n hx hb dX2_charactersIn_12 rfl (lv_at hl 0 rfl) ?_
        refine rn_ldc255 hx hb hown (hts _ w_X2_charactersIn_cl19) dX2_charactersIn_13 ?_
        refine rn_land255 hx hb (by first | omega | exact Nat.lt_of_le_of_lt (Nat.div_le_self _ _) hn64) dX2_charactersIn_16 ?_
        refine lv_lconst (v := lN 0) hx hb dX2_charactersIn_17 rfl ?_
        refine rn_lcmp0 hx hb (by first | omega | exact Nat.lt_of_le_of_lt (Nat.div_le_self _ _) hn64) dX2_charactersIn_18 (fun c_18 => ?_) (fun c_18 v_ v0_ => ?_)
        · refine lv_if_eq hx hb dX2_charactersIn_19 (by decide) (tgt := 51) (fun _ => ?_) (fun z_ => absurd rfl z_)
          refine lv_lload_n hx hb dX2_charactersIn_51 rfl (lv_at hl 0 rfl) ?_
          refine lv_lconst (v := lN 0) hx hb dX2_charactersIn_52 rfl ?_
          refine rn_lcmp0 hx hb (by first | omega | exact Nat.lt_of_le_of_lt (Nat.div_le_self _ _) hn64) dX2_charactersIn_53 (fun c_53 => ?_) (fun c_53 v_ v0_ => ?_)
          · refine lv_if_ne hx hb dX2_charactersIn_54 (by decide) (tgt := 62) (fun z_ => absurd rfl z_) (fun _ => ?_)
            refine lv_iload hx hb dX2_charactersIn_57 (lv_at hl 1 rfl) ?_
            refine lv_goto (tgt := 63) hx hb dX2_charactersIn_59 (by decide) ?_
            exact ro_ret CX hr hlk (by rw [← hch]; first | (rw [chF_end (Or.inr c_18)]; first | rw [if_pos c_53] | rw [if_neg c_53]) | (rw [chF_end (Or.inl (by omega))]; first | rw [if_pos c_53] | rw [if_neg c_53])) rfl dX2_charactersIn_63
          · refine lv_if_ne hx hb dX2_charactersIn_54 (by decide) (tgt := 62) (fun _ => ?_) (fun z_ => absurd z_ v0_)
            refine rn_iconst hx hb 0 rfl dX2_charactersIn_62 ?_
            exact ro_ret CX hr hlk (by rw [← hch]; first | (rw [chF_end (Or.inr c_18)]; first | rw [if_pos c_53] | rw [if_neg c_53]) | (rw [chF_end (Or.inl (by omega))]; first | rw [if_pos c_53] | rw [if_neg c_53])) rfl dX2_charactersIn_63
        · refine lv_if_eq hx hb dX2_charactersIn_19 (by decide) (tgt := 51) (fun z_ => absurd z_ v0_) (fun _ => ?_)
          refine lv_lload_n hx hb dX2_charactersIn_22 rfl (lv_at hl 0 rfl) ?_
          refine rn_ldc255 hx hb hown (hts _ w_X2_charactersIn_cl19) dX2_charactersIn_23 ?_
          refine rn_land255 hx hb (by first | omega | exact Nat.lt_of_le_of_lt (Nat.div_le_self _ _) hn64) dX2_charactersIn_26 ?_
          refine rn_l2i hx hb dX2_charactersIn_27 ?_
          refine lv_bipush (v := (nI 33)) hx hb dX2_charactersIn_28 kb_33 ?_
          refine lv_bipush (v := (nI 126)) hx hb dX2_charactersIn_30 kb_126 ?_
          refine roSN CX hE hP (c_X5_isIn l G cA (nI (r % 256)) (nI 33) (nI 126) ) ⟨va_cnB 3 hts gX2_charactersIn_X5_isIn_n21 rfl rfl rfl (hE.2 _ nst_X2_21) (hts _ w_X2_charactersIn_ini_X5) hdn_X5_isIn ⟨Nat.le_of_ble_eq_true rfl, Nat.le_of_ble_eq_true rfl⟩, hts _ w_X2_charactersIn_st_X5_isIn, trivial⟩ [] rfl B0_blind (fun _ _ _ => trivial) rfl hl.1 (rest := []) rfl (Nat.le_of_ble_eq_true rfl) dX2_charactersIn_32 ⟨Nat.zero_le _, Nat.zero_le _⟩ ?_
          refine rb_if_ne hx hb dX2_charactersIn_35 (by decide) (tgt := 40) (fun c_35 => ?_) (fun c_35 => ?_)
          · refine lv_lload_n hx hb dX2_charactersIn_40 rfl (lv_at hl 0 rfl) ?_
            refine lv_bipush (v := (nI 8)) hx hb dX2_charactersIn_41 kb_8 ?_
            refine rn_lushr hx hb (by first | omega | exact Nat.lt_of_le_of_lt (Nat.div_le_self _ _) hn64) (by omega) dX2_charactersIn_43 ?_
            refine lv_lstore_n (lv' := [(2, .long (lN (r / 2 ^ 8))), (4, .int (nI k))]) hx hb dX2_charactersIn_44 rfl hl (by decide) rfl (fun ls hl => ?_)
            refine rn_iinc hx hb (n := 1) (lv' := [(4, .int (nI (k + 1))), (2, .long (lN (r / 2 ^ 8)))]) rfl dX2_charactersIn_45 hl (k := 1) rfl (by decide) rfl (fun ls hl => ?_)
            refine lv_goto (tgt := 5) hx hb dX2_charactersIn_48 (by decide) ?_
            exact ih_5 (r / 2 ^ 8) (k + 1) (by omega) (by omega) (by omega) (by rw [← hch, chF_step (by omega) ((inP_iff (by omega) (by omega) (by omega)).mp c_35), show 8 - (k + 1) = 8 - k - 1 by omega]) ls (lv_sub hl [1, 0] rfl)
          · refine rn_iconst hx hb 0 rfl dX2_charactersIn_38 ?_
            exact ro_ret CX hr hlk (by rw [← hch, chF_bad (by omega) (fun z => c_18 (by rw [z])) (fun z => c_35 ((inP_iff (by omega) (by omega) (by omega)).mpr z))]) rfl dX2_charactersIn_39
  exact LP_5 _ n 0 (Nat.lt_succ_self _) hn64 (by omega) rfl ls (lv_sub hl [1, 0] rfl)
theorem fl_X2_append_15 : Cond.fieldLink RX2 15 RX2 (TX2 1).2.1 (TX2 1).2.2.1 ∈ wsX2_append := by decide +kernel
theorem in_X2_append_X2 : ∀ w ∈ wsX20, w ∈ wsX2_append := by decide +kernel
theorem fl_X2_append_9 : Cond.fieldLink RX2 9 RX2 (TX2 0).2.1 (TX2 0).2.2.1 ∈ wsX2_append := by decide +kernel
theorem w_X2_append_cl19 : Cond.constantLong RX2 19 255 ∈ wsX2_append := by decide +kernel
set_option maxHeartbeats 4000000 in
set_option maxRecDepth 100000 in
theorem c_X2_append (l : Launch) (G : va_G) (cA : Nat → ClassId) (x : Nat → Nat) (ty : Nat) (pd : Nat → Int32) (n : Nat) (ct : Nat) (hn64 : n < 2 ^ 64) (hct : ct ≤ 8) (htc : ty + ct ≤ 72) : MUv l yX2_append wsX2_append ({ frames := 0, cells := 0, slots := 0, locals := 0 }) G cA BM0 [(x 5, .inr (2, [.ref (x 6), .int (nI ty)])), (x 6, .inl (cA 1, 72, .inl pd))] [.ref (x 5), .long (lN n), .int (nI ct)] [(x 5, .inr (2, [.ref (x 6), .int (nI (ty + ct))])), (x 6, .inl (cA 1, 72, .inl (padF pd n ty ct ct)))] := by
  refine MUv.mk (own := RX2) (by decide) rfl rfl (Nat.le_of_ble_eq_true rfl) (fun p_ e_ s_ m_ below meth c_ ls A_ CX hr hlk hW hA hE hB hl => ?_)
  obtain ⟨hx, hb, hml, hown, hts⟩ := id CX
  have hl : lv_has ls 5 [(0, .ref (x 5)), (1, .long (lN n)), (3, .int (nI ct))] := hl
  have hW : wld G A_ [(x 5, .inr (2, [.ref (x 6), .int (nI ty)])), (x 6, .inl (cA 1, 72, .inl pd))] s_.heap s_.heap [] := hW
  refine rn_iconst hx hb 0 rfl dX2_append_0 ?_
  refine lv_istore (lv' := [(4, .int (nI 0)), (0, .ref (x 5)), (1, .long (lN n)), (3, .int (nI ct))]) hx hb dX2_append_1 hl (by decide) rfl (fun ls hl => ?_)
  have LP_3 : ∀ (nn_ : Nat) (i : Nat) (pq : Nat → Int32), (ct - i) < nn_ → (i ≤ ct) → (pq = padF pd n ty ct i) → ∀ (H : Heap) (locs : List Loc) (ls : Array Slot), wld G A_ [(x 5, .inr (2, [.ref (x 6), .int (nI ty)])), (x 6, .inl (cA 1, 72, .inl pq))] s_.heap H locs → lv_has ls 5 [(0, .ref (x 5)), (1, .long (lN n)), (3, .int (nI ct)), (4, .int (nI i))] → W p_ l e_ ({ frames := 0, cells := 0, slots := 0, locals := 0 } : Room) s_ m_ ([.ref (x 5), .long (lN n), .int (nI ct)] : List Value).toArray below meth c_ H locs 0 0 (MQ below (va_Qv (fun _ : Unit => True) (fun _ t_ => va_P G vwCl [(x 5, .inr (2, [.ref (x 6), .int (nI (ty + ct))])), (x 6, .inl (cA 1, 72, .inl (padF pd n ty ct ct)))] t_.heap ∧ va_D A_ [(x 5, .inr (2, [.ref (x 6), .int (nI (ty + ct))])), (x 6, .inl (cA 1, 72, .inl (padF pd n ty ct ct)))]) A_) ([.ref (x 5), .long (lN n), .int (nI ct)] : List Value).toArray s_ 0 0 A_) (F0 m_ 3 ls []) := by
    intro nn_
    induction nn_ with
    | zero => intro i pq hmu; exact absurd hmu (Nat.not_lt_zero _)
    | succ nn_ ih =>
      have ih_3 := ih
      clear ih
      intro i pq hmu_3 hi hpq H locs ls hW hl
      refine lv_iload hx hb dX2_append_3 (lv_at hl 3 rfl) ?_
      refine lv_iload_n hx hb dX2_append_5 rfl (lv_at hl 2 rfl) ?_
      refine rn_icmp_ge hx hb (by omega) (by omega) dX2_append_6 (by decide) (tgt := 44) (fun c_6 => ?_) (fun c_6 => ?_)
      · refine lv_aload_n hx hb dX2_append_44 rfl (lv_at hl 0 rfl) ?_
        refine lv_dup hx hb dX2_append_45 rfl ?_
        refine rg (T := TX2) (N := 2) CX hE hW.1 in_X2_append_X2 0 rfl rfl 1 (by decide) fl_X2_append_15 rfl rfl dX2_append_46 ?_
        refine lv_iload_n hx hb dX2_append_49 rfl (lv_at hl 2 rfl) ?_
        refine rn_iadd hx hb dX2_append_50 ?_
        refine rp (T := TX2) (N := 2) (ws' := [(x 5, .inr (2, [.ref (x 6), .int (nI (ty + ct))])), (x 6, .inl (cA 1, 72, .inl pq))]) CX hE hW in_X2_append_X2 tyX2 tyX2_ok nmX2 0 rfl rfl 1 (by decide) fl_X2_append_15 rfl rfl rfl rfl (Nat.le_of_ble_eq_true rfl) rfl dX2_append_51 (fun H locs hW => ?_)
        have hW := hW.ext (ws' := [(x 5, .inr (2, [.ref (x 6), .int (nI (ty + ct))])), (x 6, .inl (cA 1, 72, .inl (padF pd n ty ct ct)))]) 1 (g := (padF pd n ty ct ct)) rfl (fun j _ => by rw [hpq, show i = ct by omega]) rfl
        exact mu_retv CX hr hlk hW dX2_append_54
      · refine lv_aload_n hx hb dX2_append_9 rfl (lv_at hl 0 rfl) ?_
        refine rg (T := TX2) (N := 2) CX hE hW.1 in_X2_append_X2 0 rfl rfl 0 (by decide) fl_X2_append_9 rfl rfl dX2_append_10 ?_
        refine lv_aload_n hx hb dX2_append_13 rfl (lv_at hl 0 rfl) ?_
        refine rg (T := TX2) (N := 2) CX hE hW.1 in_X2_append_X2 0 rfl rfl 1 (by decide) fl_X2_append_15 rfl rfl dX2_append_14 ?_
        refine lv_iload hx hb dX2_append_17 (lv_at hl 3 rfl) ?_
        refine rn_iadd hx hb dX2_append_19 ?_
        refine lv_lload_n hx hb dX2_append_20 rfl (lv_at hl 1 rfl) ?_
        refine lv_bipush (v := (nI 8)) hx hb dX2_append_21 kb_8 ?_
        refine lv_iload_n hx hb dX2_append_23 rfl (lv_at hl 2 rfl) ?_
        refine rn_iconst hx hb 1 rfl dX2_append_24 ?_
        refine rn_isub hx hb (by omega) dX2_append_25 ?_
        refine lv_iload hx hb dX2_append_26 (lv_at hl 3 rfl) ?_
        refine rn_isub hx hb (by omega) dX2_append_28 ?_
        refine rn_imul hx hb dX2_append_29 ?_
        refine rn_lushr hx hb (by first | omega | exact Nat.lt_of_le_of_lt (Nat.div_le_self _ _) hn64) (by omega) dX2_append_30 ?_
        refine rn_ldc255 hx hb hown (hts _ w_X2_append_cl19) dX2_append_31 ?_
        refine rn_land255 hx hb (by first | omega | exact Nat.lt_of_le_of_lt (Nat.div_le_self _ _) hn64) dX2_append_34 ?_
        refine rn_l2i hx hb dX2_append_35 ?_
        refine rn_i2c hx hb (by omega) dX2_append_36 ?_
        refine rn_cast (ws' := [(x 5, .inr (2, [.ref (x 6), .int (nI ty)])), (x 6, .inl (cA 1, 72, .inl (upd pq (ty + i) (vp_nar .char (nI ((n / 2 ^ (8 * ((ct - 1) - i))) % 256))))))]) CX hE hW 1 rfl (j := (ty + i)) (by omega) (ltb rfl) rfl dX2_append_37 (fun H locs hW => ?_)
        refine rn_iinc hx hb (n := 1) (lv' := [(4, .int (nI (i + 1))), (0, .ref (x 5)), (1, .long (lN n)), (3, .int (nI ct))]) rfl dX2_append_38 hl (k := 3) rfl (by decide) rfl (fun ls hl => ?_)
        refine lv_goto (tgt := 3) hx hb dX2_append_41 (by decide) ?_
        exact ih_3 (i + 1) (upd pq (ty + i) (vp_nar .char (nI ((n / 2 ^ (8 * ((ct - 1) - i))) % 256)))) (by omega) (by omega) (padF_next hpq rfl rfl rfl) _ _ ls hW (lv_sub hl [1, 2, 3, 0] rfl)
  exact LP_3 _ 0 pd (Nat.lt_succ_self _) (by omega) padF_0 _ _ ls hW (lv_sub hl [1, 2, 3, 0] rfl)
theorem kb_46 : (Int8.ofInt (46)).toInt32 = (nI 46) := by decide +kernel
theorem kb_45 : (Int8.ofInt (45)).toInt32 = (nI 45) := by decide +kernel
theorem kb_35 : (Int8.ofInt (35)).toInt32 = (nI 35) := by decide +kernel
set_option maxHeartbeats 4000000 in
set_option maxRecDepth 100000 in
theorem c_X6_floorOf (l : Launch) (G : va_G) (cA : Nat → ClassId) (c : Int32)  : RO l yX6_floorOf wsX6_floorOf ({ frames := 0, cells := 0, slots := 0, locals := 0 }) G cA B0 [] [.int c] (floF c) := by
  refine RO.mk (own := RX6) (by decide) rfl rfl (Nat.le_of_ble_eq_true rfl) (fun p_ e_ s_ m_ below meth c_ ls CX hr hlk hP hE hB hl => ?_)
  obtain ⟨hx, hb, hml, hown, hts⟩ := id CX
  have hl : lv_has ls 1 [(0, .int c)] := hl
  refine lv_iload_n hx hb dX6_floorOf_0 rfl (lv_at hl 0 rfl) ?_
  refine lv_bipush (v := (nI 46)) hx hb dX6_floorOf_1 kb_46 ?_
  refine lv_icmp_ne hx hb dX6_floorOf_3 (by decide) (tgt := 10) (fun c_3 => ?_) (fun c_3 => ?_)
  · refine lv_iload_n hx hb dX6_floorOf_10 rfl (lv_at hl 0 rfl) ?_
    refine lv_bipush (v := (nI 45)) hx hb dX6_floorOf_11 kb_45 ?_
    refine lv_icmp_ne hx hb dX6_floorOf_13 (by decide) (tgt := 20) (fun c_13 => ?_) (fun c_13 => ?_)
    · refine lv_iload_n hx hb dX6_floorOf_20 rfl (lv_at hl 0 rfl) ?_
      refine lv_bipush (v := (nI 35)) hx hb dX6_floorOf_21 kb_35 ?_
      refine lv_icmp_ne hx hb dX6_floorOf_23 (by decide) (tgt := 30) (fun c_23 => ?_) (fun c_23 => ?_)
      · refine lv_iload_n hx hb dX6_floorOf_30 rfl (lv_at hl 0 rfl) ?_
        refine lv_bipush (v := (nI 126)) hx hb dX6_floorOf_31 kb_126 ?_
        refine lv_icmp_ne hx hb dX6_floorOf_33 (by decide) (tgt := 40) (fun c_33 => ?_) (fun c_33 => ?_)
        · refine lv_bipush (v := (-6)) hx hb dX6_floorOf_40 kb_m6 ?_
          exact ro_ret CX hr hlk (by unfold floF; first | exact (if_pos c_3).symm | (rw [if_neg c_3]; first | exact (if_pos c_13).symm | (rw [if_neg c_13]; first | exact (if_pos c_23).symm | (rw [if_neg c_23]; first | exact (if_pos c_33).symm | exact (if_neg c_33).symm)))) rfl dX6_floorOf_42
        · refine rn_iconst hx hb 3 rfl dX6_floorOf_36 ?_
          refine lv_goto (tgt := 42) hx hb dX6_floorOf_37 (by decide) ?_
          exact ro_ret CX hr hlk (by unfold floF; first | exact (if_pos c_3).symm | (rw [if_neg c_3]; first | exact (if_pos c_13).symm | (rw [if_neg c_13]; first | exact (if_pos c_23).symm | (rw [if_neg c_23]; first | exact (if_pos c_33).symm | exact (if_neg c_33).symm)))) rfl dX6_floorOf_42
      · refine rn_iconst hx hb 2 rfl dX6_floorOf_26 ?_
        refine lv_goto (tgt := 42) hx hb dX6_floorOf_27 (by decide) ?_
        exact ro_ret CX hr hlk (by unfold floF; first | exact (if_pos c_3).symm | (rw [if_neg c_3]; first | exact (if_pos c_13).symm | (rw [if_neg c_13]; first | exact (if_pos c_23).symm | (rw [if_neg c_23]; first | exact (if_pos c_33).symm | exact (if_neg c_33).symm)))) rfl dX6_floorOf_42
    · refine rn_iconst hx hb 1 rfl dX6_floorOf_16 ?_
      refine lv_goto (tgt := 42) hx hb dX6_floorOf_17 (by decide) ?_
      exact ro_ret CX hr hlk (by unfold floF; first | exact (if_pos c_3).symm | (rw [if_neg c_3]; first | exact (if_pos c_13).symm | (rw [if_neg c_13]; first | exact (if_pos c_23).symm | (rw [if_neg c_23]; first | exact (if_pos c_33).symm | exact (if_neg c_33).symm)))) rfl dX6_floorOf_42
  · refine rn_iconst hx hb 0 rfl dX6_floorOf_6 ?_
    refine lv_goto (tgt := 42) hx hb dX6_floorOf_7 (by decide) ?_
    exact ro_ret CX hr hlk (by unfold floF; first | exact (if_pos c_3).symm | (rw [if_neg c_3]; first | exact (if_pos c_13).symm | (rw [if_neg c_13]; first | exact (if_pos c_23).symm | (rw [if_neg c_23]; first | exact (if_pos c_33).symm | exact (if_neg c_33).symm)))) rfl dX6_floorOf_42
theorem fl_X6_readPad_79 : Cond.fieldLink RX6 79 RX6 (TX6 7).2.1 (TX6 7).2.2.1 ∈ wsX6_readPad := by decide +kernel
theorem in_X6_readPad_X6 : ∀ w ∈ wsX60, w ∈ wsX6_readPad := by decide +kernel
theorem kb_11 : (Int8.ofInt (11)).toInt32 = (nI 11) := by decide +kernel
theorem fl_X6_readPad_26 : Cond.fieldLink RX6 26 RX6 (TX6 6).2.1 (TX6 6).2.2.1 ∈ wsX6_readPad := by decide +kernel
theorem hdn_X6_floorOf : yX6_floorOf.cls ≠ "java/lang/invoke/MethodHandle" ∧ yX6_floorOf.cls ≠ "java/lang/invoke/VarHandle" ∧ (parseMethodDescriptor yX6_floorOf.desc).map (fun d => d.parameters.length) = some 1 := by decide +kernel
theorem kb_47 : (Int8.ofInt (47)).toInt32 = (nI 47) := by decide +kernel
set_option maxHeartbeats 4000000 in
set_option maxRecDepth 100000 in
theorem c_X6_readPad (l : Launch) (G : va_G) (cA : Nat → ClassId) (m : Nat → Nat) (pm : Nat) (ty : Nat) (pd : Nat → Int32) (hty : ty ≤ 72) : RO l yX6_readPad wsX6_readPad ({ frames := 1, cells := 0, slots := 0, locals := 20 }) G cA B0 [(m 0, .inr (6, [.ref (m 1), .ref (m 2), .ref (m 3), .ref (m 4), .int (nI pm), .ref (m 5), .ref (m 6), .int (nI ty), .ref (m 7)])), (m 6, .inl (cA 1, 72, .inl pd))] [.ref (m 0)] (badF pd ty) := by
  refine RO.mk (own := RX6) (by decide) rfl rfl (Nat.le_of_ble_eq_true rfl) (fun p_ e_ s_ m_ below meth c_ ls CX hr hlk hP hE hB hl => ?_)
  obtain ⟨hx, hb, hml, hown, hts⟩ := id CX
  have hl : lv_has ls 3 [(0, .ref (m 0))] := hl
  refine rn_iconst hx hb 0 rfl dX6_readPad_0 ?_
  refine lv_istore_n (lv' := [(1, .int (nI 0)), (0, .ref (m 0))]) hx hb dX6_readPad_1 rfl hl (by decide) rfl (fun ls hl => ?_)
  have LP_2 : ∀ (nn_ : Nat) (k : Nat), (ty - k) < nn_ → (k ≤ ty) → (k ≤ 65) → (∀ j, j < k → padOk pd j) → ∀ ls : Array Slot, lv_has ls 3 [(0, .ref (m 0)), (1, .int (nI k))] → W p_ l e_ ({ frames := 1, cells := 0, slots := 0, locals := 20 } : Room) s_ m_ ([.ref (m 0)] : List Value).toArray below meth c_ s_.heap [] 0 0 (MQ below (vp_Si (fun r_ => r_ = (badF pd ty))) ([.ref (m 0)] : List Value).toArray s_ 0 0 (fun _ => False)) (F0 m_ 2 ls []) := by
    intro nn_
    induction nn_ with
    | zero => intro k hmu; exact absurd hmu (Nat.not_lt_zero _)
    | succ nn_ ih =>
      have ih_2 := ih
      clear ih
      intro k hmu_2 hk hk65 hok ls hl
      refine lv_iload_n hx hb dX6_readPad_2 rfl (lv_at hl 1 rfl) ?_
      refine lv_aload_n hx hb dX6_readPad_3 rfl (lv_at hl 0 rfl) ?_
      refine rg (T := TX6) (N := 9) CX hE hP in_X6_readPad_X6 0 rfl rfl 7 (by decide) fl_X6_readPad_79 rfl rfl dX6_readPad_4 ?_
      refine rn_icmp_ge hx hb (by omega) (by omega) dX6_readPad_7 (by decide) (tgt := 71) (fun c_7 => ?_) (fun c_7 => ?_)
      · refine lv_aload_n hx hb dX6_readPad_71 rfl (lv_at hl 0 rfl) ?_
        refine rg (T := TX6) (N := 9) CX hE hP in_X6_readPad_X6 0 rfl rfl 7 (by decide) fl_X6_readPad_79 rfl rfl dX6_readPad_72 ?_
        refine lv_bipush (v := (nI 65)) hx hb dX6_readPad_75 kb_65 ?_
        refine rn_icmp_ge hx hb (by omega) (by omega) dX6_readPad_77 (by decide) (tgt := 87) (fun c_77 => ?_) (fun c_77 => ?_)
        · refine lv_bipush (v := (-6)) hx hb dX6_readPad_87 kb_m6 ?_
          exact ro_ret CX hr hlk (by rw [← badF_all (n := ty) (fun j hj => hok j (by omega))]; first | exact (if_pos c_77).symm | exact (if_neg (by omega)).symm) rfl dX6_readPad_89
        · refine lv_aload_n hx hb dX6_readPad_80 rfl (lv_at hl 0 rfl) ?_
          refine rg (T := TX6) (N := 9) CX hE hP in_X6_readPad_X6 0 rfl rfl 7 (by decide) fl_X6_readPad_79 rfl rfl dX6_readPad_81 ?_
          refine lv_goto (tgt := 89) hx hb dX6_readPad_84 (by decide) ?_
          exact ro_ret CX hr hlk (by rw [← badF_all (n := ty) (fun j hj => hok j (by omega))]; first | exact (if_pos c_77).symm | exact (if_neg (by omega)).symm) rfl dX6_readPad_89
      · refine lv_iload_n hx hb dX6_readPad_10 rfl (lv_at hl 1 rfl) ?_
        refine lv_bipush (v := (nI 11)) hx hb dX6_readPad_11 kb_11 ?_
        refine rn_irem hx hb (by omega) (by omega) (by omega) dX6_readPad_13 ?_
        refine lv_bipush (v := (nI 10)) hx hb dX6_readPad_14 kb_10 ?_
        have J_24 : ∀ v : Int32, v = (b2i (k % 11 = 10)) → W p_ l e_ ({ frames := 1, cells := 0, slots := 0, locals := 20 } : Room) s_ m_ ([.ref (m 0)] : List Value).toArray below meth c_ s_.heap [] 0 0 (MQ below (vp_Si (fun r_ => r_ = (badF pd ty))) ([.ref (m 0)] : List Value).toArray s_ 0 0 (fun _ => False)) (F0 m_ 24 ls [.int v]) := by
          intro v hv
          subst hv
          refine lv_istore_n (lv' := [(2, .int (b2i (k % 11 = 10))), (0, .ref (m 0)), (1, .int (nI k))]) hx hb dX6_readPad_24 rfl hl (by decide) rfl (fun ls hl => ?_)
          refine lv_iload_n hx hb dX6_readPad_25 rfl (lv_at hl 2 rfl) ?_
          refine lv_bipush (v := (nI 65)) hx hb dX6_readPad_26 kb_65 ?_
          refine rn_icmp_eq hx hb (by omega) (by omega) dX6_readPad_28 (by decide) (tgt := 63) (fun c_28 => ?_) (fun c_28 => ?_)
          · refine lv_iload_n hx hb dX6_readPad_63 rfl (lv_at hl 2 rfl) ?_
            exact ro_ret CX hr hlk (by first | exact badF_at hok (fun h => by omega) (by omega) | exact badF_at hok (fun h => h.2.elim (fun q => c_43 q.2) (fun q => q.1 c_32)) (by omega) | exact badF_at hok (fun h => h.2.elim (fun q => c_32 q.1) (fun q => q.2 c_60)) (by omega)) rfl dX6_readPad_64
          · refine lv_iload_n hx hb dX6_readPad_31 rfl (lv_at hl 0 rfl) ?_
            refine rb_if_eq hx hb dX6_readPad_32 (by decide) (tgt := 49) (fun c_32 => ?_) (fun c_32 => ?_)
            · refine lv_aload_n hx hb dX6_readPad_49 rfl (lv_at hl 1 rfl) ?_
              refine rg (T := TX6) (N := 9) CX hE hP in_X6_readPad_X6 0 rfl rfl 6 (by decide) fl_X6_readPad_26 rfl rfl dX6_readPad_50 ?_
              refine lv_iload_n hx hb dX6_readPad_53 rfl (lv_at hl 2 rfl) ?_
              refine rn_cald CX hE hP 1 rfl (j := k) (by omega) (ltb rfl) dX6_readPad_54 ?_
              refine roS CX hE hP (c_X6_floorOf l G cA (pd k) ) (va_cwS 1 hts gX6_readPad_X6_floorOf rfl rfl rfl hdn_X6_floorOf ⟨Nat.le_of_ble_eq_true rfl, Nat.le_of_ble_eq_true rfl⟩) [] rfl B0_blind (fun _ _ _ => trivial) rfl hl.1 (rest := []) rfl (Nat.le_of_ble_eq_true rfl) dX6_readPad_55 ⟨Nat.zero_le _, Nat.zero_le _⟩ ?_
              refine lv_bipush (v := (-6)) hx hb dX6_readPad_58 kb_m6 ?_
              refine lv_icmp_ne hx hb dX6_readPad_60 (by decide) (tgt := 65) (fun c_60 => ?_) (fun c_60 => ?_)
              · refine rn_iinc hx hb (n := 1) (lv' := [(1, .int (nI (k + 1))), (2, .int (b2i (k % 11 = 10))), (0, .ref (m 0))]) rfl dX6_readPad_65 hl (k := 2) rfl (by decide) rfl (fun ls hl => ?_)
                refine lv_goto (tgt := 2) hx hb dX6_readPad_68 (by decide) ?_
                exact ih_2 (k + 1) (by omega) (by omega) (by omega) (fun j hj => by rcases Nat.lt_or_ge j k with q | q; exact hok j q; (have e : j = k := by omega); rw [e]; first | exact ⟨by omega, Or.inl ⟨c_32, c_43⟩⟩ | exact ⟨by omega, Or.inr ⟨c_32, c_60⟩⟩) ls (lv_sub hl [2, 0] rfl)
              · refine lv_iload_n hx hb dX6_readPad_63 rfl (lv_at hl 2 rfl) ?_
                exact ro_ret CX hr hlk (by first | exact badF_at hok (fun h => by omega) (by omega) | exact badF_at hok (fun h => h.2.elim (fun q => c_43 q.2) (fun q => q.1 c_32)) (by omega) | exact badF_at hok (fun h => h.2.elim (fun q => c_32 q.1) (fun q => q.2 c_60)) (by omega)) rfl dX6_readPad_64
            · refine lv_aload_n hx hb dX6_readPad_35 rfl (lv_at hl 1 rfl) ?_
              refine rg (T := TX6) (N := 9) CX hE hP in_X6_readPad_X6 0 rfl rfl 6 (by decide) fl_X6_readPad_26 rfl rfl dX6_readPad_36 ?_
              refine lv_iload_n hx hb dX6_readPad_39 rfl (lv_at hl 2 rfl) ?_
              refine rn_cald CX hE hP 1 rfl (j := k) (by omega) (ltb rfl) dX6_readPad_40 ?_
              refine lv_bipush (v := (nI 47)) hx hb dX6_readPad_41 kb_47 ?_
              refine lv_icmp_eq hx hb dX6_readPad_43 (by decide) (tgt := 65) (fun c_43 => ?_) (fun c_43 => ?_)
              · refine rn_iinc hx hb (n := 1) (lv' := [(1, .int (nI (k + 1))), (2, .int (b2i (k % 11 = 10))), (0, .ref (m 0))]) rfl dX6_readPad_65 hl (k := 2) rfl (by decide) rfl (fun ls hl => ?_)
                refine lv_goto (tgt := 2) hx hb dX6_readPad_68 (by decide) ?_
                exact ih_2 (k + 1) (by omega) (by omega) (by omega) (fun j hj => by rcases Nat.lt_or_ge j k with q | q; exact hok j q; (have e : j = k := by omega); rw [e]; first | exact ⟨by omega, Or.inl ⟨c_32, c_43⟩⟩ | exact ⟨by omega, Or.inr ⟨c_32, c_60⟩⟩) ls (lv_sub hl [2, 0] rfl)
              · refine lv_goto (tgt := 63) hx hb dX6_readPad_46 (by decide) ?_
                refine lv_iload_n hx hb dX6_readPad_63 rfl (lv_at hl 2 rfl) ?_
                exact ro_ret CX hr hlk (by first | exact badF_at hok (fun h => by omega) (by omega) | exact badF_at hok (fun h => h.2.elim (fun q => c_43 q.2) (fun q => q.1 c_32)) (by omega) | exact badF_at hok (fun h => h.2.elim (fun q => c_32 q.1) (fun q => q.2 c_60)) (by omega)) rfl dX6_readPad_64
        refine rn_icmp_ne hx hb (by omega) (by omega) dX6_readPad_16 (by decide) (tgt := 23) (fun c_16 => ?_) (fun c_16 => ?_)
        · refine rn_iconst hx hb 0 rfl dX6_readPad_23 ?_
          exact J_24 _ (by first | exact b2i_t c_16 | exact b2i_f c_16)
        · refine rn_iconst hx hb 1 rfl dX6_readPad_19 ?_
          refine lv_goto (tgt := 24) hx hb dX6_readPad_20 (by decide) ?_
          exact J_24 _ (by first | exact b2i_t c_16 | exact b2i_f c_16)
  exact LP_2 _ 0 (Nat.lt_succ_self _) (by omega) (by omega) (fun j hj => absurd hj (Nat.not_lt_zero _)) ls (lv_sub hl [1, 0] rfl)
theorem hdv_X6_readPad : yX6_readPad.cls = RX6 ∧ yX6_readPad.cls ≠ "java/lang/invoke/MethodHandle" ∧ yX6_readPad.cls ≠ "java/lang/invoke/VarHandle" ∧ (parseMethodDescriptor yX6_readPad.desc).map (fun d => d.parameters.length) = some 0 := by decide +kernel
set_option maxHeartbeats 4000000 in
set_option maxRecDepth 100000 in
theorem c_X6_fault (l : Launch) (G : va_G) (cA : Nat → ClassId) (m : Nat → Nat) (pm : Nat) (ty : Nat) (pd : Nat → Int32) (hty : ty ≤ 72) : RO l yX6_fault wsX6_fault ({ frames := 2, cells := 0, slots := 0, locals := 42 }) G cA B0 [(m 0, .inr (6, [.ref (m 1), .ref (m 2), .ref (m 3), .ref (m 4), .int (nI pm), .ref (m 5), .ref (m 6), .int (nI ty), .ref (m 7)])), (m 6, .inl (cA 1, 72, .inl pd))] [.ref (m 0)] (badF pd ty) := by
  refine RO.mk (own := RX6) (by decide) rfl rfl (Nat.le_of_ble_eq_true rfl) (fun p_ e_ s_ m_ below meth c_ ls CX hr hlk hP hE hB hl => ?_)
  obtain ⟨hx, hb, hml, hown, hts⟩ := id CX
  have hl : lv_has ls 1 [(0, .ref (m 0))] := hl
  refine lv_aload_n hx hb dX6_fault_0 rfl (lv_at hl 0 rfl) ?_
  refine roV CX hE hP (c_X6_readPad l G cA m pm ty pd (by omega)) (cwV 0 hts gX6_fault_X6_readPad rfl rfl rfl hdv_X6_readPad ⟨Nat.le_of_ble_eq_true rfl, Nat.le_of_ble_eq_true rfl⟩) [0, 1] rfl 0 rfl rfl rfl B0_blind (fun _ _ _ => trivial) rfl hl.1 (rest := []) rfl (Nat.le_of_ble_eq_true rfl) dX6_fault_1 ⟨Nat.zero_le _, Nat.zero_le _⟩ ?_
  exact ro_ret CX hr hlk rfl rfl dX6_fault_4
theorem fl_X6_wipe_79 : Cond.fieldLink RX6 79 RX6 (TX6 7).2.1 (TX6 7).2.2.1 ∈ wsX6_wipe := by decide +kernel
theorem in_X6_wipe_X6 : ∀ w ∈ wsX60, w ∈ wsX6_wipe := by decide +kernel
set_option maxHeartbeats 4000000 in
set_option maxRecDepth 100000 in
theorem c_X6_wipe (l : Launch) (G : va_G) (cA : Nat → ClassId) (m : Nat → Nat) (pm : Nat) (ty : Nat)  : MUi l yX6_wipe wsX6_wipe ({ frames := 0, cells := 0, slots := 0, locals := 0 }) G cA BM0 [(m 0, .inr (6, [.ref (m 1), .ref (m 2), .ref (m 3), .ref (m 4), .int (nI pm), .ref (m 5), .ref (m 6), .int (nI ty), .ref (m 7)]))] [.ref (m 0)] [(m 0, .inr (6, [.ref (m 1), .ref (m 2), .ref (m 3), .ref (m 4), .int (nI pm), .ref (m 5), .ref (m 6), .int (nI 0), .ref (m 7)]))] (nI ty) := by
  refine MUi.mk (own := RX6) (by decide) rfl rfl (Nat.le_of_ble_eq_true rfl) (fun p_ e_ s_ m_ below meth c_ ls A_ CX hr hlk hW hA hE hB hl => ?_)
  obtain ⟨hx, hb, hml, hown, hts⟩ := id CX
  have hl : lv_has ls 2 [(0, .ref (m 0))] := hl
  have hW : wld G A_ [(m 0, .inr (6, [.ref (m 1), .ref (m 2), .ref (m 3), .ref (m 4), .int (nI pm), .ref (m 5), .ref (m 6), .int (nI ty), .ref (m 7)]))] s_.heap s_.heap [] := hW
  refine lv_aload_n hx hb dX6_wipe_0 rfl (lv_at hl 0 rfl) ?_
  refine rg (T := TX6) (N := 9) CX hE hW.1 in_X6_wipe_X6 0 rfl rfl 7 (by decide) fl_X6_wipe_79 rfl rfl dX6_wipe_1 ?_
  refine lv_istore_n (lv' := [(1, .int (nI ty)), (0, .ref (m 0))]) hx hb dX6_wipe_4 rfl hl (by decide) rfl (fun ls hl => ?_)
  refine lv_aload_n hx hb dX6_wipe_5 rfl (lv_at hl 1 rfl) ?_
  refine rn_iconst hx hb 0 rfl dX6_wipe_6 ?_
  refine rp (T := TX6) (N := 9) (ws' := [(m 0, .inr (6, [.ref (m 1), .ref (m 2), .ref (m 3), .ref (m 4), .int (nI pm), .ref (m 5), .ref (m 6), .int (nI 0), .ref (m 7)]))]) CX hE hW in_X6_wipe_X6 tyX6 tyX6_ok nmX6 0 rfl rfl 7 (by decide) fl_X6_wipe_79 rfl rfl rfl rfl (Nat.le_of_ble_eq_true rfl) rfl dX6_wipe_7 (fun H locs hW => ?_)
  refine lv_iload_n hx hb dX6_wipe_10 rfl (lv_at hl 0 rfl) ?_
  exact mu_reti CX hr hlk rfl rfl hW dX6_wipe_11
theorem fl_X6_put_79 : Cond.fieldLink RX6 79 RX6 (TX6 7).2.1 (TX6 7).2.2.1 ∈ wsX6_put := by decide +kernel
theorem in_X6_put_X6 : ∀ w ∈ wsX60, w ∈ wsX6_put := by decide +kernel
theorem kb_72 : (Int8.ofInt (72)).toInt32 = (nI 72) := by decide +kernel
theorem fl_X6_put_26 : Cond.fieldLink RX6 26 RX6 (TX6 6).2.1 (TX6 6).2.2.1 ∈ wsX6_put := by decide +kernel
theorem w_X6_put_cl164 : Cond.constantLong RX6 164 255 ∈ wsX6_put := by decide +kernel
set_option maxHeartbeats 4000000 in
set_option maxRecDepth 100000 in
theorem c_X6_put_k (l : Launch) (G : va_G) (cA : Nat → ClassId) (m : Nat → Nat) (pm : Nat) (ty : Nat) (pd : Nat → Int32) (n : Nat) (ct : Nat) (hn64 : n < 2 ^ 64) (hct : chF 8 n 0 = ct) (hct1 : 1 ≤ ct) (hct8 : ct ≤ 8) (htc : ty + ct ≤ 72) : MUi l yX6_put wsX6_put ({ frames := 1, cells := 0, slots := 0, locals := 22 }) G cA BM0 [(m 0, .inr (6, [.ref (m 1), .ref (m 2), .ref (m 3), .ref (m 4), .int (nI pm), .ref (m 5), .ref (m 6), .int (nI ty), .ref (m 7)])), (m 6, .inl (cA 1, 72, .inl pd))] [.ref (m 0), .long (lN n)] [(m 0, .inr (6, [.ref (m 1), .ref (m 2), .ref (m 3), .ref (m 4), .int (nI pm), .ref (m 5), .ref (m 6), .int (nI (ty + ct)), .ref (m 7)])), (m 6, .inl (cA 1, 72, .inl (padF pd n ty ct ct)))] (nI (ty + ct)) := by
  refine MUi.mk (own := RX6) (by decide) rfl rfl (Nat.le_of_ble_eq_true rfl) (fun p_ e_ s_ m_ below meth c_ ls A_ CX hr hlk hW hA hE hB hl => ?_)
  obtain ⟨hx, hb, hml, hown, hts⟩ := id CX
  have hl : lv_has ls 8 [(0, .ref (m 0)), (1, .long (lN n))] := hl
  have hW : wld G A_ [(m 0, .inr (6, [.ref (m 1), .ref (m 2), .ref (m 3), .ref (m 4), .int (nI pm), .ref (m 5), .ref (m 6), .int (nI ty), .ref (m 7)])), (m 6, .inl (cA 1, 72, .inl pd))] s_.heap s_.heap [] := hW
  refine rn_iconst hx hb 0 rfl dX6_put_0 ?_
  refine lv_istore_n (lv' := [(3, .int (nI 0)), (0, .ref (m 0)), (1, .long (lN n))]) hx hb dX6_put_1 rfl hl (by decide) rfl (fun ls hl => ?_)
  refine lv_lload_n hx hb dX6_put_2 rfl (lv_at hl 2 rfl) ?_
  refine lv_lstore (lv' := [(4, .long (lN n)), (3, .int (nI 0)), (0, .ref (m 0)), (1, .long (lN n))]) hx hb dX6_put_3 hl (by decide) rfl (fun ls hl => ?_)
  refine rn_iconst hx hb 1 rfl dX6_put_5 ?_
  refine lv_istore (lv' := [(6, .int (nI 1)), (4, .long (lN n)), (3, .int (nI 0)), (0, .ref (m 0)), (1, .long (lN n))]) hx hb dX6_put_6 hl (by decide) rfl (fun ls hl => ?_)
  have LP_8 : ∀ (nn_ : Nat) (k : Nat) (r : Nat) (g : Int32), r < nn_ → (r < 2 ^ 64) → (k ≤ 8) → (putG n k r g) → ∀ (H : Heap) (locs : List Loc) (ls : Array Slot), wld G A_ [(m 0, .inr (6, [.ref (m 1), .ref (m 2), .ref (m 3), .ref (m 4), .int (nI pm), .ref (m 5), .ref (m 6), .int (nI ty), .ref (m 7)])), (m 6, .inl (cA 1, 72, .inl pd))] s_.heap H locs → lv_has ls 8 [(0, .ref (m 0)), (1, .long (lN n)), (3, .int (nI k)), (4, .long (lN r)), (6, .int g)] → W p_ l e_ ({ frames := 1, cells := 0, slots := 0, locals := 22 } : Room) s_ m_ ([.ref (m 0), .long (lN n)] : List Value).toArray below meth c_ H locs 0 0 (MQ below (va_Qi (fun r_ (_ : Unit) => r_ = (nI (ty + ct))) (fun _ t_ => va_P G vwCl [(m 0, .inr (6, [.ref (m 1), .ref (m 2), .ref (m 3), .ref (m 4), .int (nI pm), .ref (m 5), .ref (m 6), .int (nI (ty + ct)), .ref (m 7)])), (m 6, .inl (cA 1, 72, .inl (padF pd n ty ct ct)))] t_.heap ∧ va_D A_ [(m 0, .inr (6, [.ref (m 1), .ref (m 2), .ref (m 3), .ref (m 4), .int (nI pm), .ref (m 5), .ref (m 6), .int (nI (ty + ct)), .ref (m 7)])), (m 6, .inl (cA 1, 72, .inl (padF pd n ty ct ct)))]) A_) ([.ref (m 0), .long (lN n)] : List Value).toArray s_ 0 0 A_) (F0 m_ 8 ls []) := by
    intro nn_
    induction nn_ with
    | zero => intro k r g hmu; exact absurd hmu (Nat.not_lt_zero _)
    | succ nn_ ih =>
      have ih_8 := ih
      clear ih
      intro k r g hmu_8 hrr hk hg H locs ls hW hl
      refine lv_lload hx hb dX6_put_8 (lv_at hl 3 rfl) ?_
      refine lv_lconst (v := lN 0) hx hb dX6_put_10 rfl ?_
      refine rn_lcmp0 hx hb (by first | omega | exact Nat.lt_of_le_of_lt (Nat.div_le_self _ _) hn64) dX6_put_11 (fun c_11 => ?_) (fun c_11 v_ v0_ => ?_)
      · refine lv_if_eq hx hb dX6_put_12 (by decide) (tgt := 49) (fun _ => ?_) (fun z_ => absurd rfl z_)
        refine lv_iload_n hx hb dX6_put_49 rfl (lv_at hl 2 rfl) ?_
        refine rn_if_eq hx hb (by omega) dX6_put_50 (by decide) (tgt := 58) (fun c_50 => ?_) (fun c_50 => ?_)
        · exact absurd (by first | exact put_zero hg (Or.inl ⟨c_11, c_50⟩) | exact put_zero hg (Or.inr c_17) | exact put_zero hg (Or.inr c_55)) (by omega)
        · refine lv_iload hx hb dX6_put_53 (lv_at hl 4 rfl) ?_
          refine lv_if_ne hx hb dX6_put_55 (by decide) (tgt := 61) (fun c_55 => ?_) (fun c_55 => ?_)
          · have ek : ct = k := by rw [← hct]; first | exact put_end hg c_11 c_55 | exact absurd c_17 c_55
            subst ek
            refine lv_aload_n hx hb dX6_put_61 rfl (lv_at hl 0 rfl) ?_
            refine rg (T := TX6) (N := 9) CX hE hW.1 in_X6_put_X6 0 rfl rfl 7 (by decide) fl_X6_put_79 rfl rfl dX6_put_62 ?_
            refine lv_iload_n hx hb dX6_put_65 rfl (lv_at hl 2 rfl) ?_
            refine rn_iadd hx hb dX6_put_66 ?_
            refine lv_bipush (v := (nI 72)) hx hb dX6_put_67 kb_72 ?_
            refine rn_icmp_le hx hb (by omega) (by omega) dX6_put_69 (by decide) (tgt := 75) (fun c_69 => ?_) (fun c_69 => ?_)
            · refine lv_iload_n hx hb dX6_put_75 rfl (lv_at hl 2 rfl) ?_
              refine rn_iconst hx hb 1 rfl dX6_put_76 ?_
              refine lv_isub hx hb dX6_put_77 ?_
              refine lv_istore (lv' := [(7, .int ((nI ct) - (nI 1))), (0, .ref (m 0)), (1, .long (lN n)), (3, .int (nI ct)), (4, .long (lN r)), (6, .int g)]) hx hb dX6_put_78 hl (by decide) rfl (fun ls hl => ?_)
              have LP_80 : ∀ (nn_ : Nat) (i : Nat) (t : Nat) (pq : Nat → Int32), i < nn_ → (i ≤ ct) → (t = ty + (ct - i)) → (pq = padF pd n ty ct (ct - i)) → ∀ (H : Heap) (locs : List Loc) (ls : Array Slot), wld G A_ [(m 0, .inr (6, [.ref (m 1), .ref (m 2), .ref (m 3), .ref (m 4), .int (nI pm), .ref (m 5), .ref (m 6), .int (nI t), .ref (m 7)])), (m 6, .inl (cA 1, 72, .inl pq))] s_.heap H locs → lv_has ls 8 [(0, .ref (m 0)), (1, .long (lN n)), (7, .int (nI i - nI 1))] → W p_ l e_ ({ frames := 1, cells := 0, slots := 0, locals := 22 } : Room) s_ m_ ([.ref (m 0), .long (lN n)] : List Value).toArray below meth c_ H locs 0 0 (MQ below (va_Qi (fun r_ (_ : Unit) => r_ = (nI (ty + ct))) (fun _ t_ => va_P G vwCl [(m 0, .inr (6, [.ref (m 1), .ref (m 2), .ref (m 3), .ref (m 4), .int (nI pm), .ref (m 5), .ref (m 6), .int (nI (ty + ct)), .ref (m 7)])), (m 6, .inl (cA 1, 72, .inl (padF pd n ty ct ct)))] t_.heap ∧ va_D A_ [(m 0, .inr (6, [.ref (m 1), .ref (m 2), .ref (m 3), .ref (m 4), .int (nI pm), .ref (m 5), .ref (m 6), .int (nI (ty + ct)), .ref (m 7)])), (m 6, .inl (cA 1, 72, .inl (padF pd n ty ct ct)))]) A_) ([.ref (m 0), .long (lN n)] : List Value).toArray s_ 0 0 A_) (F0 m_ 80 ls []) := by
                intro nn_
                induction nn_ with
                | zero => intro i t pq hmu; exact absurd hmu (Nat.not_lt_zero _)
                | succ nn_ ih =>
                  have ih_80 := ih
                  clear ih
                  intro i t pq hmu_80 hi ht hpq H locs ls hW hl
                  refine lv_iload hx hb dX6_put_80 (lv_at hl 2 rfl) ?_
                  refine lv_if_lt hx hb dX6_put_82 (by decide) (tgt := 123) (fun c_82 => ?_) (fun c_82 => ?_)
                  · have i0 := down_zero (by omega) c_82
                    have et : t = ty + ct := by omega
                    subst et
                    refine lv_aload_n hx hb dX6_put_123 rfl (lv_at hl 0 rfl) ?_
                    refine rg (T := TX6) (N := 9) CX hE hW.1 in_X6_put_X6 0 rfl rfl 7 (by decide) fl_X6_put_79 rfl rfl dX6_put_124 ?_
                    have hW := hW.ext (ws' := [(m 0, .inr (6, [.ref (m 1), .ref (m 2), .ref (m 3), .ref (m 4), .int (nI pm), .ref (m 5), .ref (m 6), .int (nI ((ty + ct))), .ref (m 7)])), (m 6, .inl (cA 1, 72, .inl (padF pd n ty ct ct)))]) 1 (g := (padF pd n ty ct ct)) rfl (fun j _ => by rw [hpq, show ct - i = ct by omega]) rfl
                    exact mu_reti CX hr hlk rfl rfl hW dX6_put_127
                  · obtain ⟨i2, ei2⟩ := down_pos c_82
                    subst ei2
                    have hl : lv_has ls 8 [(0, .ref (m 0)), (1, .long (lN n)), (7, .int (nI i2))] := by have z_ : (nI (i2 + 1) - nI 1) = (nI i2) := nI_m1 i2; rw [z_] at hl; exact hl
                    refine lv_aload_n hx hb dX6_put_85 rfl (lv_at hl 0 rfl) ?_
                    refine rg (T := TX6) (N := 9) CX hE hW.1 in_X6_put_X6 0 rfl rfl 6 (by decide) fl_X6_put_26 rfl rfl dX6_put_86 ?_
                    refine lv_aload_n hx hb dX6_put_89 rfl (lv_at hl 0 rfl) ?_
                    refine rg (T := TX6) (N := 9) CX hE hW.1 in_X6_put_X6 0 rfl rfl 7 (by decide) fl_X6_put_79 rfl rfl dX6_put_90 ?_
                    refine lv_lload_n hx hb dX6_put_93 rfl (lv_at hl 1 rfl) ?_
                    refine lv_bipush (v := (nI 8)) hx hb dX6_put_94 kb_8 ?_
                    refine lv_iload hx hb dX6_put_96 (lv_at hl 2 rfl) ?_
                    refine rn_imul hx hb dX6_put_98 ?_
                    refine rn_lushr hx hb (by first | omega | exact Nat.lt_of_le_of_lt (Nat.div_le_self _ _) hn64) (by omega) dX6_put_99 ?_
                    refine rn_ldc255 hx hb hown (hts _ w_X6_put_cl164) dX6_put_100 ?_
                    refine rn_land255 hx hb (by first | omega | exact Nat.lt_of_le_of_lt (Nat.div_le_self _ _) hn64) dX6_put_103 ?_
                    refine rn_l2i hx hb dX6_put_104 ?_
                    refine rn_i2c hx hb (by omega) dX6_put_105 ?_
                    refine rn_cast (ws' := [(m 0, .inr (6, [.ref (m 1), .ref (m 2), .ref (m 3), .ref (m 4), .int (nI pm), .ref (m 5), .ref (m 6), .int (nI t), .ref (m 7)])), (m 6, .inl (cA 1, 72, .inl (upd pq t (vp_nar .char (nI ((n / 2 ^ (8 * i2)) % 256))))))]) CX hE hW 1 rfl (j := t) (by omega) (ltb rfl) rfl dX6_put_106 (fun H locs hW => ?_)
                    refine lv_aload_n hx hb dX6_put_107 rfl (lv_at hl 0 rfl) ?_
                    refine lv_dup hx hb dX6_put_108 rfl ?_
                    refine rg (T := TX6) (N := 9) CX hE hW.1 in_X6_put_X6 0 rfl rfl 7 (by decide) fl_X6_put_79 rfl rfl dX6_put_109 ?_
                    refine rn_iconst hx hb 1 rfl dX6_put_112 ?_
                    refine rn_iadd hx hb dX6_put_113 ?_
                    refine rp (T := TX6) (N := 9) (ws' := [(m 0, .inr (6, [.ref (m 1), .ref (m 2), .ref (m 3), .ref (m 4), .int (nI pm), .ref (m 5), .ref (m 6), .int (nI (t + 1)), .ref (m 7)])), (m 6, .inl (cA 1, 72, .inl (upd pq t (vp_nar .char (nI ((n / 2 ^ (8 * i2)) % 256))))))]) CX hE hW in_X6_put_X6 tyX6 tyX6_ok nmX6 0 rfl rfl 7 (by decide) fl_X6_put_79 rfl rfl rfl rfl (Nat.le_of_ble_eq_true rfl) rfl dX6_put_114 (fun H locs hW => ?_)
                    refine lv_iinc (v := (nI i2 - nI 1)) (lv' := [(7, .int (nI i2 - nI 1)), (0, .ref (m 0)), (1, .long (lN n))]) hx hb dX6_put_117 hl (k := 2) rfl (by rw [Int32.sub_eq_add_neg]; rfl) (by decide) rfl (fun ls hl => ?_)
                    refine lv_goto (tgt := 80) hx hb dX6_put_120 (by decide) ?_
                    exact ih_80 i2 (t + 1) (upd pq t (vp_nar .char (nI ((n / 2 ^ (8 * i2)) % 256)))) (by omega) (by omega) (by omega) (by rw [show ct - i2 = ct - (i2 + 1) + 1 by omega]; exact padF_next hpq ht (by omega) rfl) _ _ ls hW (lv_sub hl [1, 2, 0] rfl)
              exact LP_80 _ ct ty pd (Nat.lt_succ_self _) (by omega) (by omega) (by rw [Nat.sub_self]; exact padF_0) _ _ ls hW (lv_sub hl [1, 2, 0] rfl)
            · exact absurd htc (by omega)
          · exact absurd (by first | exact put_zero hg (Or.inl ⟨c_11, c_50⟩) | exact put_zero hg (Or.inr c_17) | exact put_zero hg (Or.inr c_55)) (by omega)
      · refine lv_if_eq hx hb dX6_put_12 (by decide) (tgt := 49) (fun z_ => absurd z_ v0_) (fun _ => ?_)
        refine lv_iload hx hb dX6_put_15 (lv_at hl 4 rfl) ?_
        refine lv_if_eq hx hb dX6_put_17 (by decide) (tgt := 49) (fun c_17 => ?_) (fun c_17 => ?_)
        · refine lv_iload_n hx hb dX6_put_49 rfl (lv_at hl 2 rfl) ?_
          refine rn_if_eq hx hb (by omega) dX6_put_50 (by decide) (tgt := 58) (fun c_50 => ?_) (fun c_50 => ?_)
          · exact absurd (by first | exact put_zero hg (Or.inl ⟨c_11, c_50⟩) | exact put_zero hg (Or.inr c_17) | exact put_zero hg (Or.inr c_55)) (by omega)
          · refine lv_iload hx hb dX6_put_53 (lv_at hl 4 rfl) ?_
            refine lv_if_ne hx hb dX6_put_55 (by decide) (tgt := 61) (fun c_55 => ?_) (fun c_55 => ?_)
            · have ek : ct = k := by rw [← hct]; first | exact put_end hg c_11 c_55 | exact absurd c_17 c_55
              subst ek
              refine lv_aload_n hx hb dX6_put_61 rfl (lv_at hl 0 rfl) ?_
              refine rg (T := TX6) (N := 9) CX hE hW.1 in_X6_put_X6 0 rfl rfl 7 (by decide) fl_X6_put_79 rfl rfl dX6_put_62 ?_
              refine lv_iload_n hx hb dX6_put_65 rfl (lv_at hl 2 rfl) ?_
              refine rn_iadd hx hb dX6_put_66 ?_
              refine lv_bipush (v := (nI 72)) hx hb dX6_put_67 kb_72 ?_
              refine rn_icmp_le hx hb (by omega) (by omega) dX6_put_69 (by decide) (tgt := 75) (fun c_69 => ?_) (fun c_69 => ?_)
              · refine lv_iload_n hx hb dX6_put_75 rfl (lv_at hl 2 rfl) ?_
                refine rn_iconst hx hb 1 rfl dX6_put_76 ?_
                refine lv_isub hx hb dX6_put_77 ?_
                refine lv_istore (lv' := [(7, .int ((nI ct) - (nI 1))), (0, .ref (m 0)), (1, .long (lN n)), (3, .int (nI ct)), (4, .long (lN r)), (6, .int g)]) hx hb dX6_put_78 hl (by decide) rfl (fun ls hl => ?_)
                have LP_80 : ∀ (nn_ : Nat) (i : Nat) (t : Nat) (pq : Nat → Int32), i < nn_ → (i ≤ ct) → (t = ty + (ct - i)) → (pq = padF pd n ty ct (ct - i)) → ∀ (H : Heap) (locs : List Loc) (ls : Array Slot), wld G A_ [(m 0, .inr (6, [.ref (m 1), .ref (m 2), .ref (m 3), .ref (m 4), .int (nI pm), .ref (m 5), .ref (m 6), .int (nI t), .ref (m 7)])), (m 6, .inl (cA 1, 72, .inl pq))] s_.heap H locs → lv_has ls 8 [(0, .ref (m 0)), (1, .long (lN n)), (7, .int (nI i - nI 1))] → W p_ l e_ ({ frames := 1, cells := 0, slots := 0, locals := 22 } : Room) s_ m_ ([.ref (m 0), .long (lN n)] : List Value).toArray below meth c_ H locs 0 0 (MQ below (va_Qi (fun r_ (_ : Unit) => r_ = (nI (ty + ct))) (fun _ t_ => va_P G vwCl [(m 0, .inr (6, [.ref (m 1), .ref (m 2), .ref (m 3), .ref (m 4), .int (nI pm), .ref (m 5), .ref (m 6), .int (nI (ty + ct)), .ref (m 7)])), (m 6, .inl (cA 1, 72, .inl (padF pd n ty ct ct)))] t_.heap ∧ va_D A_ [(m 0, .inr (6, [.ref (m 1), .ref (m 2), .ref (m 3), .ref (m 4), .int (nI pm), .ref (m 5), .ref (m 6), .int (nI (ty + ct)), .ref (m 7)])), (m 6, .inl (cA 1, 72, .inl (padF pd n ty ct ct)))]) A_) ([.ref (m 0), .long (lN n)] : List Value).toArray s_ 0 0 A_) (F0 m_ 80 ls []) := by
                  intro nn_
                  induction nn_ with
                  | zero => intro i t pq hmu; exact absurd hmu (Nat.not_lt_zero _)
                  | succ nn_ ih =>
                    have ih_80 := ih
                    clear ih
                    intro i t pq hmu_80 hi ht hpq H locs ls hW hl
                    refine lv_iload hx hb dX6_put_80 (lv_at hl 2 rfl) ?_
                    refine lv_if_lt hx hb dX6_put_82 (by decide) (tgt := 123) (fun c_82 => ?_) (fun c_82 => ?_)
                    · have i0 := down_zero (by omega) c_82
                      have et : t = ty + ct := by omega
                      subst et
                      refine lv_aload_n hx hb dX6_put_123 rfl (lv_at hl 0 rfl) ?_
                      refine rg (T := TX6) (N := 9) CX hE hW.1 in_X6_put_X6 0 rfl rfl 7 (by decide) fl_X6_put_79 rfl rfl dX6_put_124 ?_
                      have hW := hW.ext (ws' := [(m 0, .inr (6, [.ref (m 1), .ref (m 2), .ref (m 3), .ref (m 4), .int (nI pm), .ref (m 5), .ref (m 6), .int (nI ((ty + ct))), .ref (m 7)])), (m 6, .inl (cA 1, 72, .inl (padF pd n ty ct ct)))]) 1 (g := (padF pd n ty ct ct)) rfl (fun j _ => by rw [hpq, show ct - i = ct by omega]) rfl
                      exact mu_reti CX hr hlk rfl rfl hW dX6_put_127
                    · obtain ⟨i2, ei2⟩ := down_pos c_82
                      subst ei2
                      have hl : lv_has ls 8 [(0, .ref (m 0)), (1, .long (lN n)), (7, .int (nI i2))] := by have z_ : (nI (i2 + 1) - nI 1) = (nI i2) := nI_m1 i2; rw [z_] at hl; exact hl
                      refine lv_aload_n hx hb dX6_put_85 rfl (lv_at hl 0 rfl) ?_
                      refine rg (T := TX6) (N := 9) CX hE hW.1 in_X6_put_X6 0 rfl rfl 6 (by decide) fl_X6_put_26 rfl rfl dX6_put_86 ?_
                      refine lv_aload_n hx hb dX6_put_89 rfl (lv_at hl 0 rfl) ?_
                      refine rg (T := TX6) (N := 9) CX hE hW.1 in_X6_put_X6 0 rfl rfl 7 (by decide) fl_X6_put_79 rfl rfl dX6_put_90 ?_
                      refine lv_lload_n hx hb dX6_put_93 rfl (lv_at hl 1 rfl) ?_
                      refine lv_bipush (v := (nI 8)) hx hb dX6_put_94 kb_8 ?_
                      refine lv_iload hx hb dX6_put_96 (lv_at hl 2 rfl) ?_
                      refine rn_imul hx hb dX6_put_98 ?_
                      refine rn_lushr hx hb (by first | omega | exact Nat.lt_of_le_of_lt (Nat.div_le_self _ _) hn64) (by omega) dX6_put_99 ?_
                      refine rn_ldc255 hx hb hown (hts _ w_X6_put_cl164) dX6_put_100 ?_
                      refine rn_land255 hx hb (by first | omega | exact Nat.lt_of_le_of_lt (Nat.div_le_self _ _) hn64) dX6_put_103 ?_
                      refine rn_l2i hx hb dX6_put_104 ?_
                      refine rn_i2c hx hb (by omega) dX6_put_105 ?_
                      refine rn_cast (ws' := [(m 0, .inr (6, [.ref (m 1), .ref (m 2), .ref (m 3), .ref (m 4), .int (nI pm), .ref (m 5), .ref (m 6), .int (nI t), .ref (m 7)])), (m 6, .inl (cA 1, 72, .inl (upd pq t (vp_nar .char (nI ((n / 2 ^ (8 * i2)) % 256))))))]) CX hE hW 1 rfl (j := t) (by omega) (ltb rfl) rfl dX6_put_106 (fun H locs hW => ?_)
                      refine lv_aload_n hx hb dX6_put_107 rfl (lv_at hl 0 rfl) ?_
                      refine lv_dup hx hb dX6_put_108 rfl ?_
                      refine rg (T := TX6) (N := 9) CX hE hW.1 in_X6_put_X6 0 rfl rfl 7 (by decide) fl_X6_put_79 rfl rfl dX6_put_109 ?_
                      refine rn_iconst hx hb 1 rfl dX6_put_112 ?_
                      refine rn_iadd hx hb dX6_put_113 ?_
                      refine rp (T := TX6) (N := 9) (ws' := [(m 0, .inr (6, [.ref (m 1), .ref (m 2), .ref (m 3), .ref (m 4), .int (nI pm), .ref (m 5), .ref (m 6), .int (nI (t + 1)), .ref (m 7)])), (m 6, .inl (cA 1, 72, .inl (upd pq t (vp_nar .char (nI ((n / 2 ^ (8 * i2)) % 256))))))]) CX hE hW in_X6_put_X6 tyX6 tyX6_ok nmX6 0 rfl rfl 7 (by decide) fl_X6_put_79 rfl rfl rfl rfl (Nat.le_of_ble_eq_true rfl) rfl dX6_put_114 (fun H locs hW => ?_)
                      refine lv_iinc (v := (nI i2 - nI 1)) (lv' := [(7, .int (nI i2 - nI 1)), (0, .ref (m 0)), (1, .long (lN n))]) hx hb dX6_put_117 hl (k := 2) rfl (by rw [Int32.sub_eq_add_neg]; rfl) (by decide) rfl (fun ls hl => ?_)
                      refine lv_goto (tgt := 80) hx hb dX6_put_120 (by decide) ?_
                      exact ih_80 i2 (t + 1) (upd pq t (vp_nar .char (nI ((n / 2 ^ (8 * i2)) % 256)))) (by omega) (by omega) (by omega) (by rw [show ct - i2 = ct - (i2 + 1) + 1 by omega]; exact padF_next hpq ht (by omega) rfl) _ _ ls hW (lv_sub hl [1, 2, 0] rfl)
                exact LP_80 _ ct ty pd (Nat.lt_succ_self _) (by omega) (by omega) (by rw [Nat.sub_self]; exact padF_0) _ _ ls hW (lv_sub hl [1, 2, 0] rfl)
              · exact absurd htc (by omega)
            · exact absurd (by first | exact put_zero hg (Or.inl ⟨c_11, c_50⟩) | exact put_zero hg (Or.inr c_17) | exact put_zero hg (Or.inr c_55)) (by omega)
        · refine lv_lload hx hb dX6_put_20 (lv_at hl 3 rfl) ?_
          refine rn_ldc255 hx hb hown (hts _ w_X6_put_cl164) dX6_put_22 ?_
          refine rn_land255 hx hb (by first | omega | exact Nat.lt_of_le_of_lt (Nat.div_le_self _ _) hn64) dX6_put_25 ?_
          refine rn_l2i hx hb dX6_put_26 ?_
          refine lv_bipush (v := (nI 33)) hx hb dX6_put_27 kb_33 ?_
          refine lv_bipush (v := (nI 126)) hx hb dX6_put_29 kb_126 ?_
          refine roS CX hE hW.1 (c_X6_in l G cA (nI (r % 256)) (nI 33) (nI 126) ) (va_cwS 3 hts gX6_put_X6_in rfl rfl rfl hdn_X6_in ⟨Nat.le_of_ble_eq_true rfl, Nat.le_of_ble_eq_true rfl⟩) [] rfl B0_blind (fun _ _ _ => trivial) rfl hl.1 (rest := []) rfl (Nat.le_of_ble_eq_true rfl) dX6_put_31 ⟨Nat.zero_le _, Nat.zero_le _⟩ ?_
          refine lv_istore (lv' := [(6, .int (b2i (inP (nI (r % 256)) (nI 33) (nI 126)))), (0, .ref (m 0)), (1, .long (lN n)), (3, .int (nI k)), (4, .long (lN r))]) hx hb dX6_put_34 hl (by decide) rfl (fun ls hl => ?_)
          refine lv_lload hx hb dX6_put_36 (lv_at hl 4 rfl) ?_
          refine lv_bipush (v := (nI 8)) hx hb dX6_put_38 kb_8 ?_
          refine rn_lushr hx hb (by first | omega | exact Nat.lt_of_le_of_lt (Nat.div_le_self _ _) hn64) (by omega) dX6_put_40 ?_
          refine lv_lstore (lv' := [(4, .long (lN (r / 2 ^ 8))), (6, .int (b2i (inP (nI (r % 256)) (nI 33) (nI 126)))), (0, .ref (m 0)), (1, .long (lN n)), (3, .int (nI k))]) hx hb dX6_put_41 hl (by decide) rfl (fun ls hl => ?_)
          refine rn_iinc hx hb (n := 1) (lv' := [(3, .int (nI (k + 1))), (4, .long (lN (r / 2 ^ 8))), (6, .int (b2i (inP (nI (r % 256)) (nI 33) (nI 126)))), (0, .ref (m 0)), (1, .long (lN n))]) rfl dX6_put_43 hl (k := 4) rfl (by decide) rfl (fun ls hl => ?_)
          refine lv_goto (tgt := 8) hx hb dX6_put_46 (by decide) ?_
          exact ih_8 (k + 1) (r / 2 ^ 8) (b2i (inP (nI (r % 256)) (nI 33) (nI 126))) (by omega) (by omega) ((put_next hg hk c_11 c_17).1) ((put_next hg hk c_11 c_17).2) _ _ ls hW (lv_sub hl [3, 4, 0, 1, 2] rfl)
  exact LP_8 _ 0 n (nI 1) (Nat.lt_succ_self _) hn64 (by omega) (Or.inl ⟨rfl, rfl, by omega⟩) _ _ ls hW (lv_sub hl [3, 4, 2, 1, 0] rfl)
set_option maxHeartbeats 4000000 in
set_option maxRecDepth 100000 in
theorem c_X6_put_e (l : Launch) (G : va_G) (cA : Nat → ClassId) (m : Nat → Nat) (pm : Nat) (ty : Nat) (pd : Nat → Int32) (n : Nat) (hn64 : n < 2 ^ 64) (hty : ty ≤ 72) (hbad : chF 8 n 0 = 0 ∨ 72 < ty + chF 8 n 0) : RO l yX6_put wsX6_put ({ frames := 1, cells := 0, slots := 0, locals := 22 }) G cA B0 [(m 0, .inr (6, [.ref (m 1), .ref (m 2), .ref (m 3), .ref (m 4), .int (nI pm), .ref (m 5), .ref (m 6), .int (nI ty), .ref (m 7)])), (m 6, .inl (cA 1, 72, .inl pd))] [.ref (m 0), .long (lN n)] (if chF 8 n 0 = 0 then -2 else -4) := by
  refine RO.mk (own := RX6) (by decide) rfl rfl (Nat.le_of_ble_eq_true rfl) (fun p_ e_ s_ m_ below meth c_ ls CX hr hlk hP hE hB hl => ?_)
  obtain ⟨hx, hb, hml, hown, hts⟩ := id CX
  have hl : lv_has ls 8 [(0, .ref (m 0)), (1, .long (lN n))] := hl
  refine rn_iconst hx hb 0 rfl dX6_put_0 ?_
  refine lv_istore_n (lv' := [(3, .int (nI 0)), (0, .ref (m 0)), (1, .long (lN n))]) hx hb dX6_put_1 rfl hl (by decide) rfl (fun ls hl => ?_)
  refine lv_lload_n hx hb dX6_put_2 rfl (lv_at hl 2 rfl) ?_
  refine lv_lstore (lv' := [(4, .long (lN n)), (3, .int (nI 0)), (0, .ref (m 0)), (1, .long (lN n))]) hx hb dX6_put_3 hl (by decide) rfl (fun ls hl => ?_)
  refine rn_iconst hx hb 1 rfl dX6_put_5 ?_
  refine lv_istore (lv' := [(6, .int (nI 1)), (4, .long (lN n)), (3, .int (nI 0)), (0, .ref (m 0)), (1, .long (lN n))]) hx hb dX6_put_6 hl (by decide) rfl (fun ls hl => ?_)
  have LP_8 : ∀ (nn_ : Nat) (k : Nat) (r : Nat) (g : Int32), r < nn_ → (r < 2 ^ 64) → (k ≤ 8) → (putG n k r g) → ∀ ls : Array Slot, lv_has ls 8 [(0, .ref (m 0)), (1, .long (lN n)), (3, .int (nI k)), (4, .long (lN r)), (6, .int g)] → W p_ l e_ ({ frames := 1, cells := 0, slots := 0, locals := 22 } : Room) s_ m_ ([.ref (m 0), .long (lN n)] : List Value).toArray below meth c_ s_.heap [] 0 0 (MQ below (vp_Si (fun r_ => r_ = (if chF 8 n 0 = 0 then -2 else -4))) ([.ref (m 0), .long (lN n)] : List Value).toArray s_ 0 0 (fun _ => False)) (F0 m_ 8 ls []) := by
    intro nn_
    induction nn_ with
    | zero => intro k r g hmu; exact absurd hmu (Nat.not_lt_zero _)
    | succ nn_ ih =>
      have ih_8 := ih
      clear ih
      intro k r g hmu_8 hrr hk hg ls hl
      refine lv_lload hx hb dX6_put_8 (lv_at hl 3 rfl) ?_
      refine lv_lconst (v := lN 0) hx hb dX6_put_10 rfl ?_
      refine rn_lcmp0 hx hb (by first | omega | exact Nat.lt_of_le_of_lt (Nat.div_le_self _ _) hn64) dX6_put_11 (fun c_11 => ?_) (fun c_11 v_ v0_ => ?_)
      · refine lv_if_eq hx hb dX6_put_12 (by decide) (tgt := 49) (fun _ => ?_) (fun z_ => absurd rfl z_)
        refine lv_iload_n hx hb dX6_put_49 rfl (lv_at hl 2 rfl) ?_
        refine rn_if_eq hx hb (by omega) dX6_put_50 (by decide) (tgt := 58) (fun c_50 => ?_) (fun c_50 => ?_)
        · refine lv_bipush (v := (-2)) hx hb dX6_put_58 kb_m2 ?_
          exact ro_ret CX hr hlk ((if_pos (by first | exact put_zero hg (Or.inl ⟨c_11, c_50⟩) | exact put_zero hg (Or.inr c_17) | exact put_zero hg (Or.inr c_55))).symm) rfl dX6_put_60
        · refine lv_iload hx hb dX6_put_53 (lv_at hl 4 rfl) ?_
          refine lv_if_ne hx hb dX6_put_55 (by decide) (tgt := 61) (fun c_55 => ?_) (fun c_55 => ?_)
          · have ek : chF 8 n 0 = k := by first | exact put_end hg c_11 c_55 | exact absurd c_17 c_55
            refine lv_aload_n hx hb dX6_put_61 rfl (lv_at hl 0 rfl) ?_
            refine rg (T := TX6) (N := 9) CX hE hP in_X6_put_X6 0 rfl rfl 7 (by decide) fl_X6_put_79 rfl rfl dX6_put_62 ?_
            refine lv_iload_n hx hb dX6_put_65 rfl (lv_at hl 2 rfl) ?_
            refine rn_iadd hx hb dX6_put_66 ?_
            refine lv_bipush (v := (nI 72)) hx hb dX6_put_67 kb_72 ?_
            refine rn_icmp_le hx hb (by omega) (by omega) dX6_put_69 (by decide) (tgt := 75) (fun c_69 => ?_) (fun c_69 => ?_)
            · exact absurd c_69 (by rcases hbad with q | q <;> omega)
            · refine lv_bipush (v := (-4)) hx hb dX6_put_72 kb_m4 ?_
              exact ro_ret CX hr hlk ((if_neg (by omega)).symm) rfl dX6_put_74
          · refine lv_bipush (v := (-2)) hx hb dX6_put_58 kb_m2 ?_
            exact ro_ret CX hr hlk ((if_pos (by first | exact put_zero hg (Or.inl ⟨c_11, c_50⟩) | exact put_zero hg (Or.inr c_17) | exact put_zero hg (Or.inr c_55))).symm) rfl dX6_put_60
      · refine lv_if_eq hx hb dX6_put_12 (by decide) (tgt := 49) (fun z_ => absurd z_ v0_) (fun _ => ?_)
        refine lv_iload hx hb dX6_put_15 (lv_at hl 4 rfl) ?_
        refine lv_if_eq hx hb dX6_put_17 (by decide) (tgt := 49) (fun c_17 => ?_) (fun c_17 => ?_)
        · refine lv_iload_n hx hb dX6_put_49 rfl (lv_at hl 2 rfl) ?_
          refine rn_if_eq hx hb (by omega) dX6_put_50 (by decide) (tgt := 58) (fun c_50 => ?_) (fun c_50 => ?_)
          · refine lv_bipush (v := (-2)) hx hb dX6_put_58 kb_m2 ?_
            exact ro_ret CX hr hlk ((if_pos (by first | exact put_zero hg (Or.inl ⟨c_11, c_50⟩) | exact put_zero hg (Or.inr c_17) | exact put_zero hg (Or.inr c_55))).symm) rfl dX6_put_60
          · refine lv_iload hx hb dX6_put_53 (lv_at hl 4 rfl) ?_
            refine lv_if_ne hx hb dX6_put_55 (by decide) (tgt := 61) (fun c_55 => ?_) (fun c_55 => ?_)
            · have ek : chF 8 n 0 = k := by first | exact put_end hg c_11 c_55 | exact absurd c_17 c_55
              refine lv_aload_n hx hb dX6_put_61 rfl (lv_at hl 0 rfl) ?_
              refine rg (T := TX6) (N := 9) CX hE hP in_X6_put_X6 0 rfl rfl 7 (by decide) fl_X6_put_79 rfl rfl dX6_put_62 ?_
              refine lv_iload_n hx hb dX6_put_65 rfl (lv_at hl 2 rfl) ?_
              refine rn_iadd hx hb dX6_put_66 ?_
              refine lv_bipush (v := (nI 72)) hx hb dX6_put_67 kb_72 ?_
              refine rn_icmp_le hx hb (by omega) (by omega) dX6_put_69 (by decide) (tgt := 75) (fun c_69 => ?_) (fun c_69 => ?_)
              · exact absurd c_69 (by rcases hbad with q | q <;> omega)
              · refine lv_bipush (v := (-4)) hx hb dX6_put_72 kb_m4 ?_
                exact ro_ret CX hr hlk ((if_neg (by omega)).symm) rfl dX6_put_74
            · refine lv_bipush (v := (-2)) hx hb dX6_put_58 kb_m2 ?_
              exact ro_ret CX hr hlk ((if_pos (by first | exact put_zero hg (Or.inl ⟨c_11, c_50⟩) | exact put_zero hg (Or.inr c_17) | exact put_zero hg (Or.inr c_55))).symm) rfl dX6_put_60
        · refine lv_lload hx hb dX6_put_20 (lv_at hl 3 rfl) ?_
          refine rn_ldc255 hx hb hown (hts _ w_X6_put_cl164) dX6_put_22 ?_
          refine rn_land255 hx hb (by first | omega | exact Nat.lt_of_le_of_lt (Nat.div_le_self _ _) hn64) dX6_put_25 ?_
          refine rn_l2i hx hb dX6_put_26 ?_
          refine lv_bipush (v := (nI 33)) hx hb dX6_put_27 kb_33 ?_
          refine lv_bipush (v := (nI 126)) hx hb dX6_put_29 kb_126 ?_
          refine roS CX hE hP (c_X6_in l G cA (nI (r % 256)) (nI 33) (nI 126) ) (va_cwS 3 hts gX6_put_X6_in rfl rfl rfl hdn_X6_in ⟨Nat.le_of_ble_eq_true rfl, Nat.le_of_ble_eq_true rfl⟩) [] rfl B0_blind (fun _ _ _ => trivial) rfl hl.1 (rest := []) rfl (Nat.le_of_ble_eq_true rfl) dX6_put_31 ⟨Nat.zero_le _, Nat.zero_le _⟩ ?_
          refine lv_istore (lv' := [(6, .int (b2i (inP (nI (r % 256)) (nI 33) (nI 126)))), (0, .ref (m 0)), (1, .long (lN n)), (3, .int (nI k)), (4, .long (lN r))]) hx hb dX6_put_34 hl (by decide) rfl (fun ls hl => ?_)
          refine lv_lload hx hb dX6_put_36 (lv_at hl 4 rfl) ?_
          refine lv_bipush (v := (nI 8)) hx hb dX6_put_38 kb_8 ?_
          refine rn_lushr hx hb (by first | omega | exact Nat.lt_of_le_of_lt (Nat.div_le_self _ _) hn64) (by omega) dX6_put_40 ?_
          refine lv_lstore (lv' := [(4, .long (lN (r / 2 ^ 8))), (6, .int (b2i (inP (nI (r % 256)) (nI 33) (nI 126)))), (0, .ref (m 0)), (1, .long (lN n)), (3, .int (nI k))]) hx hb dX6_put_41 hl (by decide) rfl (fun ls hl => ?_)
          refine rn_iinc hx hb (n := 1) (lv' := [(3, .int (nI (k + 1))), (4, .long (lN (r / 2 ^ 8))), (6, .int (b2i (inP (nI (r % 256)) (nI 33) (nI 126)))), (0, .ref (m 0)), (1, .long (lN n))]) rfl dX6_put_43 hl (k := 4) rfl (by decide) rfl (fun ls hl => ?_)
          refine lv_goto (tgt := 8) hx hb dX6_put_46 (by decide) ?_
          exact ih_8 (k + 1) (r / 2 ^ 8) (b2i (inP (nI (r % 256)) (nI 33) (nI 126))) (by omega) (by omega) ((put_next hg hk c_11 c_17).1) ((put_next hg hk c_11 c_17).2) ls (lv_sub hl [3, 4, 0, 1, 2] rfl)
  exact LP_8 _ 0 n (nI 1) (Nat.lt_succ_self _) hn64 (by omega) (Or.inl ⟨rfl, rfl, by omega⟩) ls (lv_sub hl [3, 4, 2, 1, 0] rfl)
theorem fl_X6_read_79 : Cond.fieldLink RX6 79 RX6 (TX6 7).2.1 (TX6 7).2.2.1 ∈ wsX6_read := by decide +kernel
theorem in_X6_read_X6 : ∀ w ∈ wsX60, w ∈ wsX6_read := by decide +kernel
theorem fl_X6_read_7 : Cond.fieldLink RX6 7 RX6 (TX6 0).2.1 (TX6 0).2.2.1 ∈ wsX6_read := by decide +kernel
theorem fl_X6_read_26 : Cond.fieldLink RX6 26 RX6 (TX6 6).2.1 (TX6 6).2.2.1 ∈ wsX6_read := by decide +kernel
set_option maxHeartbeats 4000000 in
set_option maxRecDepth 100000 in
theorem c_X6_read_k (l : Launch) (G : va_G) (cA : Nat → ClassId) (m : Nat → Nat) (pm : Nat) (ty : Nat) (z : Nat → Int32) (pa : Nat → Int32) (pd : Nat → Int32) (hpm : pm ≤ 6) (hty : ty ≤ 72) (hbad : badF pd ty = -6) : MUi l yX6_read wsX6_read ({ frames := 2, cells := 0, slots := 0, locals := 43 }) G cA BM0 [(m 0, .inr (6, [.ref (m 1), .ref (m 2), .ref (m 3), .ref (m 4), .int (nI pm), .ref (m 5), .ref (m 6), .int (nI ty), .ref (m 7)])), (m 1, .inl (cA 0, 345, .inl z)), (m 2, .inl (cA 0, 2070, .inl pa)), (m 6, .inl (cA 1, 72, .inl pd))] [.ref (m 0)] [(m 0, .inr (6, [.ref (m 1), .ref (m 2), .ref (m 3), .ref (m 4), .int (nI (rec1 pm + 1)), .ref (m 5), .ref (m 6), .int (nI 0), .ref (m 7)])), (m 1, .inl (cA 0, 345, .inl (readM z pd))), (m 2, .inl (cA 0, 2070, .inl (recP pa z pm))), (m 6, .inl (cA 1, 72, .inl pd))] (openF (shf 5 (readM z pd))) := by
  refine MUi.mk (own := RX6) (by decide) rfl rfl (Nat.le_of_ble_eq_true rfl) (fun p_ e_ s_ m_ below meth c_ ls A_ CX hr hlk hW hA hE hB hl => ?_)
  obtain ⟨hx, hb, hml, hown, hts⟩ := id CX
  have hl : lv_has ls 2 [(0, .ref (m 0))] := hl
  have hW : wld G A_ [(m 0, .inr (6, [.ref (m 1), .ref (m 2), .ref (m 3), .ref (m 4), .int (nI pm), .ref (m 5), .ref (m 6), .int (nI ty), .ref (m 7)])), (m 1, .inl (cA 0, 345, .inl z)), (m 2, .inl (cA 0, 2070, .inl pa)), (m 6, .inl (cA 1, 72, .inl pd))] s_.heap s_.heap [] := hW
  refine lv_aload_n hx hb dX6_read_0 rfl (lv_at hl 0 rfl) ?_
  refine roV CX hE hW.1 (c_X6_readPad l G cA m pm ty pd (by omega)) (cwV 0 hts gX6_read_X6_readPad rfl rfl rfl hdv_X6_readPad ⟨Nat.le_of_ble_eq_true rfl, Nat.le_of_ble_eq_true rfl⟩) [0, 3] rfl 0 rfl rfl rfl B0_blind (fun _ _ _ => trivial) rfl hl.1 (rest := []) rfl (Nat.le_of_ble_eq_true rfl) dX6_read_1 ⟨Nat.zero_le _, Nat.zero_le _⟩ ?_
  refine lv_bipush (v := (-6)) hx hb dX6_read_4 kb_m6 ?_
  refine lv_icmp_eq hx hb dX6_read_6 (by decide) (tgt := 12) (fun c_6 => ?_) (fun c_6 => ?_)
  · refine lv_aload_n hx hb dX6_read_12 rfl (lv_at hl 0 rfl) ?_
    refine muvV (ws' := [(m 0, .inr (6, [.ref (m 1), .ref (m 2), .ref (m 3), .ref (m 4), .int (nI (rec1 pm + 1)), .ref (m 5), .ref (m 6), .int (nI ty), .ref (m 7)])), (m 1, .inl (cA 0, 345, .inl z)), (m 2, .inl (cA 0, 2070, .inl (recP pa z pm))), (m 6, .inl (cA 1, 72, .inl pd))]) CX hE hW hA (c_X6_record l G cA m pm ty z pa (by omega)) (cwV 0 hts gX6_read_X6_record rfl rfl rfl hdv_X6_record ⟨Nat.le_of_ble_eq_true rfl, Nat.le_of_ble_eq_true rfl⟩) [0, 1, 2] (by decide) rfl rfl rfl 0 rfl rfl rfl BM0_blind (fun _ _ _ _ => trivial) rfl hl.1 (rest := []) rfl (Nat.le_of_ble_eq_true rfl) dX6_read_13 ⟨Nat.zero_le _, Nat.zero_le _⟩ (fun H locs hW => ?_)
    refine rn_iconst hx hb 0 rfl dX6_read_16 ?_
    refine lv_istore_n (lv' := [(1, .int (nI 0)), (0, .ref (m 0))]) hx hb dX6_read_17 rfl hl (by decide) rfl (fun ls hl => ?_)
    have LP_18 : ∀ (nn_ : Nat) (i : Nat) (zz : Nat → Int32), (60 - i) < nn_ → (i ≤ 60) → (zz = rgF 5 i (fun c => floF (pd (c / 10 * 11 + c % 10))) z) → ∀ (H : Heap) (locs : List Loc) (ls : Array Slot), wld G A_ [(m 0, .inr (6, [.ref (m 1), .ref (m 2), .ref (m 3), .ref (m 4), .int (nI (rec1 pm + 1)), .ref (m 5), .ref (m 6), .int (nI ty), .ref (m 7)])), (m 1, .inl (cA 0, 345, .inl zz)), (m 2, .inl (cA 0, 2070, .inl (recP pa z pm))), (m 6, .inl (cA 1, 72, .inl pd))] s_.heap H locs → lv_has ls 2 [(0, .ref (m 0)), (1, .int (nI i))] → W p_ l e_ ({ frames := 2, cells := 0, slots := 0, locals := 43 } : Room) s_ m_ ([.ref (m 0)] : List Value).toArray below meth c_ H locs 0 0 (MQ below (va_Qi (fun r_ (_ : Unit) => r_ = (openF (shf 5 (readM z pd)))) (fun _ t_ => va_P G vwCl [(m 0, .inr (6, [.ref (m 1), .ref (m 2), .ref (m 3), .ref (m 4), .int (nI (rec1 pm + 1)), .ref (m 5), .ref (m 6), .int (nI 0), .ref (m 7)])), (m 1, .inl (cA 0, 345, .inl (readM z pd))), (m 2, .inl (cA 0, 2070, .inl (recP pa z pm))), (m 6, .inl (cA 1, 72, .inl pd))] t_.heap ∧ va_D A_ [(m 0, .inr (6, [.ref (m 1), .ref (m 2), .ref (m 3), .ref (m 4), .int (nI (rec1 pm + 1)), .ref (m 5), .ref (m 6), .int (nI 0), .ref (m 7)])), (m 1, .inl (cA 0, 345, .inl (readM z pd))), (m 2, .inl (cA 0, 2070, .inl (recP pa z pm))), (m 6, .inl (cA 1, 72, .inl pd))]) A_) ([.ref (m 0)] : List Value).toArray s_ 0 0 A_) (F0 m_ 18 ls []) := by
      intro nn_
      induction nn_ with
      | zero => intro i zz hmu; exact absurd hmu (Nat.not_lt_zero _)
      | succ nn_ ih =>
        have ih_18 := ih
        clear ih
        intro i zz hmu_18 hi hzz H locs ls hW hl
        refine lv_iload_n hx hb dX6_read_18 rfl (lv_at hl 1 rfl) ?_
        refine lv_bipush (v := (nI 60)) hx hb dX6_read_19 kb_60 ?_
        refine rn_icmp_ge hx hb (by omega) (by omega) dX6_read_21 (by decide) (tgt := 58) (fun c_21 => ?_) (fun c_21 => ?_)
        · refine lv_aload_n hx hb dX6_read_58 rfl (lv_at hl 0 rfl) ?_
          refine muvV (ws' := [(m 0, .inr (6, [.ref (m 1), .ref (m 2), .ref (m 3), .ref (m 4), .int (nI ((rec1 pm + 1))), .ref (m 5), .ref (m 6), .int (nI ty), .ref (m 7)])), (m 1, .inl (cA 0, 345, .inl (calmM zz))), (m 2, .inl (cA 0, 2070, .inl (recP pa z pm))), (m 6, .inl (cA 1, 72, .inl pd))]) CX hE hW hA (c_X6_calm l G cA m (rec1 pm + 1) ty zz ) (cwV 0 hts gX6_read_X6_calm rfl rfl rfl hdv_X6_calm ⟨Nat.le_of_ble_eq_true rfl, Nat.le_of_ble_eq_true rfl⟩) [0, 1] (by decide) rfl rfl rfl 0 rfl rfl rfl BM0_blind (fun _ _ _ _ => trivial) rfl hl.1 (rest := []) rfl (Nat.le_of_ble_eq_true rfl) dX6_read_59 ⟨Nat.zero_le _, Nat.zero_le _⟩ (fun H locs hW => ?_)
          refine lv_sipush (v := (nI 245)) hx hb dX6_read_62 ks_245 ?_
          refine lv_istore_n (lv' := [(1, .int (nI 245)), (0, .ref (m 0))]) hx hb dX6_read_65 rfl hl (by decide) rfl (fun ls hl => ?_)
          have LP_66 : ∀ (nn_ : Nat) (k : Nat) (qq : Nat → Int32), (345 - k) < nn_ → (245 ≤ k) → (k ≤ 345) → (qq = rgF 245 (k - 245) (fun _ => nI 0) (calmM (rgF 5 60 (fun c => floF (pd (c / 10 * 11 + c % 10))) z))) → ∀ (H : Heap) (locs : List Loc) (ls : Array Slot), wld G A_ [(m 0, .inr (6, [.ref (m 1), .ref (m 2), .ref (m 3), .ref (m 4), .int (nI ((rec1 pm + 1))), .ref (m 5), .ref (m 6), .int (nI ty), .ref (m 7)])), (m 1, .inl (cA 0, 345, .inl qq)), (m 2, .inl (cA 0, 2070, .inl (recP pa z pm))), (m 6, .inl (cA 1, 72, .inl pd))] s_.heap H locs → lv_has ls 2 [(0, .ref (m 0)), (1, .int (nI k))] → W p_ l e_ ({ frames := 2, cells := 0, slots := 0, locals := 43 } : Room) s_ m_ ([.ref (m 0)] : List Value).toArray below meth c_ H locs 0 0 (MQ below (va_Qi (fun r_ (_ : Unit) => r_ = (openF (shf 5 (readM z pd)))) (fun _ t_ => va_P G vwCl [(m 0, .inr (6, [.ref (m 1), .ref (m 2), .ref (m 3), .ref (m 4), .int (nI (rec1 pm + 1)), .ref (m 5), .ref (m 6), .int (nI 0), .ref (m 7)])), (m 1, .inl (cA 0, 345, .inl (readM z pd))), (m 2, .inl (cA 0, 2070, .inl (recP pa z pm))), (m 6, .inl (cA 1, 72, .inl pd))] t_.heap ∧ va_D A_ [(m 0, .inr (6, [.ref (m 1), .ref (m 2), .ref (m 3), .ref (m 4), .int (nI (rec1 pm + 1)), .ref (m 5), .ref (m 6), .int (nI 0), .ref (m 7)])), (m 1, .inl (cA 0, 345, .inl (readM z pd))), (m 2, .inl (cA 0, 2070, .inl (recP pa z pm))), (m 6, .inl (cA 1, 72, .inl pd))]) A_) ([.ref (m 0)] : List Value).toArray s_ 0 0 A_) (F0 m_ 66 ls []) := by
            intro nn_
            induction nn_ with
            | zero => intro k qq hmu; exact absurd hmu (Nat.not_lt_zero _)
            | succ nn_ ih =>
              have ih_66 := ih
              clear ih
              intro k qq hmu_66 hk1 hk hqq H locs ls hW hl
              refine lv_iload_n hx hb dX6_read_66 rfl (lv_at hl 1 rfl) ?_
              refine lv_sipush (v := (nI 345)) hx hb dX6_read_67 ks_345 ?_
              refine rn_icmp_ge hx hb (by omega) (by omega) dX6_read_70 (by decide) (tgt := 86) (fun c_70 => ?_) (fun c_70 => ?_)
              · have ek : k = 345 := by omega
                subst ek
                have hW := hW.ext (ws' := [(m 0, .inr (6, [.ref (m 1), .ref (m 2), .ref (m 3), .ref (m 4), .int (nI ((rec1 pm + 1))), .ref (m 5), .ref (m 6), .int (nI ty), .ref (m 7)])), (m 1, .inl (cA 0, 345, .inl (readM z pd))), (m 2, .inl (cA 0, 2070, .inl (recP pa z pm))), (m 6, .inl (cA 1, 72, .inl pd))]) 1 (g := (readM z pd)) rfl (fun j _ => by rw [hqq]; rfl) rfl
                refine lv_aload_n hx hb dX6_read_86 rfl (lv_at hl 0 rfl) ?_
                refine rn_iconst hx hb 0 rfl dX6_read_87 ?_
                refine rp (T := TX6) (N := 9) (ws' := [(m 0, .inr (6, [.ref (m 1), .ref (m 2), .ref (m 3), .ref (m 4), .int (nI ((rec1 pm + 1))), .ref (m 5), .ref (m 6), .int (nI 0), .ref (m 7)])), (m 1, .inl (cA 0, 345, .inl (readM z pd))), (m 2, .inl (cA 0, 2070, .inl (recP pa z pm))), (m 6, .inl (cA 1, 72, .inl pd))]) CX hE hW in_X6_read_X6 tyX6 tyX6_ok nmX6 0 rfl rfl 7 (by decide) fl_X6_read_79 rfl rfl rfl rfl (Nat.le_of_ble_eq_true rfl) rfl dX6_read_88 (fun H locs hW => ?_)
                refine lv_aload_n hx hb dX6_read_91 rfl (lv_at hl 0 rfl) ?_
                refine roV CX hE hW.1 (c_X6_water l G cA m (rec1 pm + 1) 0 (readM z pd) ) (cwV 0 hts gX6_read_X6_water rfl rfl rfl hdv_X6_water ⟨Nat.le_of_ble_eq_true rfl, Nat.le_of_ble_eq_true rfl⟩) [0, 1] rfl 0 rfl rfl rfl B0_blind (fun _ _ _ => trivial) rfl hl.1 (rest := []) rfl (Nat.le_of_ble_eq_true rfl) dX6_read_92 ⟨Nat.zero_le _, Nat.zero_le _⟩ ?_
                exact mu_reti CX hr hlk rfl rfl hW dX6_read_95
              · refine lv_aload_n hx hb dX6_read_73 rfl (lv_at hl 0 rfl) ?_
                refine rg (T := TX6) (N := 9) CX hE hW.1 in_X6_read_X6 0 rfl rfl 0 (by decide) fl_X6_read_7 rfl rfl dX6_read_74 ?_
                refine lv_iload_n hx hb dX6_read_77 rfl (lv_at hl 1 rfl) ?_
                refine rn_iconst hx hb 0 rfl dX6_read_78 ?_
                refine rn_iast (ws' := [(m 0, .inr (6, [.ref (m 1), .ref (m 2), .ref (m 3), .ref (m 4), .int (nI ((rec1 pm + 1))), .ref (m 5), .ref (m 6), .int (nI ty), .ref (m 7)])), (m 1, .inl (cA 0, 345, .inl (upd qq k (nI 0)))), (m 2, .inl (cA 0, 2070, .inl (recP pa z pm))), (m 6, .inl (cA 1, 72, .inl pd))]) CX hE hW 1 rfl (j := k) (by omega) (ltb rfl) rfl dX6_read_79 (fun H locs hW => ?_)
                refine rn_iinc hx hb (n := 1) (lv' := [(1, .int (nI (k + 1))), (0, .ref (m 0))]) rfl dX6_read_80 hl (k := 1) rfl (by decide) rfl (fun ls hl => ?_)
                refine lv_goto (tgt := 66) hx hb dX6_read_83 (by decide) ?_
                exact ih_66 (k + 1) (upd qq k (nI 0)) (by omega) (by omega) (by omega) (by have q := rgF_next hqq (show k = 245 + (k - 245) by omega) rfl; rw [show k - 245 + 1 = k + 1 - 245 by omega] at q; exact q) _ _ ls hW (lv_sub hl [1, 0] rfl)
          exact LP_66 _ 245 (calmM zz) (Nat.lt_succ_self _) (by omega) (by omega) (by rw [hzz, show i = 60 by omega]; exact rgF_0) _ _ ls hW (lv_sub hl [1, 0] rfl)
        · refine lv_aload_n hx hb dX6_read_24 rfl (lv_at hl 0 rfl) ?_
          refine rg (T := TX6) (N := 9) CX hE hW.1 in_X6_read_X6 0 rfl rfl 0 (by decide) fl_X6_read_7 rfl rfl dX6_read_25 ?_
          refine rn_iconst hx hb 5 rfl dX6_read_28 ?_
          refine lv_iload_n hx hb dX6_read_29 rfl (lv_at hl 1 rfl) ?_
          refine rn_iadd hx hb dX6_read_30 ?_
          refine lv_aload_n hx hb dX6_read_31 rfl (lv_at hl 0 rfl) ?_
          refine rg (T := TX6) (N := 9) CX hE hW.1 in_X6_read_X6 0 rfl rfl 6 (by decide) fl_X6_read_26 rfl rfl dX6_read_32 ?_
          refine lv_iload_n hx hb dX6_read_35 rfl (lv_at hl 1 rfl) ?_
          refine lv_bipush (v := (nI 10)) hx hb dX6_read_36 kb_10 ?_
          refine rn_idiv hx hb (by omega) (by omega) (by omega) dX6_read_38 ?_
          refine lv_bipush (v := (nI 11)) hx hb dX6_read_39 kb_11 ?_
          refine rn_imul hx hb dX6_read_41 ?_
          refine lv_iload_n hx hb dX6_read_42 rfl (lv_at hl 1 rfl) ?_
          refine lv_bipush (v := (nI 10)) hx hb dX6_read_43 kb_10 ?_
          refine rn_irem hx hb (by omega) (by omega) (by omega) dX6_read_45 ?_
          refine rn_iadd hx hb dX6_read_46 ?_
          refine rn_cald CX hE hW.1 3 rfl (j := (((i / 10) * 11) + (i % 10))) (by omega) (ltb rfl) dX6_read_47 ?_
          refine roS CX hE hW.1 (c_X6_floorOf l G cA (pd (((i / 10) * 11) + (i % 10))) ) (va_cwS 1 hts gX6_read_X6_floorOf rfl rfl rfl hdn_X6_floorOf ⟨Nat.le_of_ble_eq_true rfl, Nat.le_of_ble_eq_true rfl⟩) [] rfl B0_blind (fun _ _ _ => trivial) rfl hl.1 (rest := [.int (nI (5 + i)), .ref (m 1)]) rfl (Nat.le_of_ble_eq_true rfl) dX6_read_48 ⟨Nat.zero_le _, Nat.zero_le _⟩ ?_
          refine rn_iast (ws' := [(m 0, .inr (6, [.ref (m 1), .ref (m 2), .ref (m 3), .ref (m 4), .int (nI (rec1 pm + 1)), .ref (m 5), .ref (m 6), .int (nI ty), .ref (m 7)])), (m 1, .inl (cA 0, 345, .inl (upd zz (5 + i) (floF (pd (((i / 10) * 11) + (i % 10))))))), (m 2, .inl (cA 0, 2070, .inl (recP pa z pm))), (m 6, .inl (cA 1, 72, .inl pd))]) CX hE hW 1 rfl (j := (5 + i)) (by omega) (ltb rfl) rfl dX6_read_51 (fun H locs hW => ?_)
          refine rn_iinc hx hb (n := 1) (lv' := [(1, .int (nI (i + 1))), (0, .ref (m 0))]) rfl dX6_read_52 hl (k := 1) rfl (by decide) rfl (fun ls hl => ?_)
          refine lv_goto (tgt := 18) hx hb dX6_read_55 (by decide) ?_
          exact ih_18 (i + 1) (upd zz (5 + i) (floF (pd (((i / 10) * 11) + (i % 10))))) (by omega) (by omega) (rgF_next hzz rfl rfl) _ _ ls hW (lv_sub hl [1, 0] rfl)
    exact LP_18 _ 0 z (Nat.lt_succ_self _) (by omega) rgF_0 _ _ ls hW (lv_sub hl [1, 0] rfl)
  · exact absurd hbad c_6
theorem kb_m3 : (Int8.ofInt (-3)).toInt32 = (-3) := by decide +kernel
set_option maxHeartbeats 4000000 in
set_option maxRecDepth 100000 in
theorem c_X6_read_e (l : Launch) (G : va_G) (cA : Nat → ClassId) (m : Nat → Nat) (pm : Nat) (ty : Nat) (pd : Nat → Int32) (hty : ty ≤ 72) (hbad : ¬ badF pd ty = -6) : RO l yX6_read wsX6_read ({ frames := 2, cells := 0, slots := 0, locals := 42 }) G cA B0 [(m 0, .inr (6, [.ref (m 1), .ref (m 2), .ref (m 3), .ref (m 4), .int (nI pm), .ref (m 5), .ref (m 6), .int (nI ty), .ref (m 7)])), (m 6, .inl (cA 1, 72, .inl pd))] [.ref (m 0)] (-3) := by
  refine RO.mk (own := RX6) (by decide) rfl rfl (Nat.le_of_ble_eq_true rfl) (fun p_ e_ s_ m_ below meth c_ ls CX hr hlk hP hE hB hl => ?_)
  obtain ⟨hx, hb, hml, hown, hts⟩ := id CX
  have hl : lv_has ls 2 [(0, .ref (m 0))] := hl
  refine lv_aload_n hx hb dX6_read_0 rfl (lv_at hl 0 rfl) ?_
  refine roV CX hE hP (c_X6_readPad l G cA m pm ty pd (by omega)) (cwV 0 hts gX6_read_X6_readPad rfl rfl rfl hdv_X6_readPad ⟨Nat.le_of_ble_eq_true rfl, Nat.le_of_ble_eq_true rfl⟩) [0, 1] rfl 0 rfl rfl rfl B0_blind (fun _ _ _ => trivial) rfl hl.1 (rest := []) rfl (Nat.le_of_ble_eq_true rfl) dX6_read_1 ⟨Nat.zero_le _, Nat.zero_le _⟩ ?_
  refine lv_bipush (v := (-6)) hx hb dX6_read_4 kb_m6 ?_
  refine lv_icmp_eq hx hb dX6_read_6 (by decide) (tgt := 12) (fun c_6 => ?_) (fun c_6 => ?_)
  · exact absurd c_6 hbad
  · refine lv_bipush (v := (-3)) hx hb dX6_read_9 kb_m3 ?_
    exact ro_ret CX hr hlk rfl rfl dX6_read_11
