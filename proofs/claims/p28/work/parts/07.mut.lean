set_option maxHeartbeats 4000000 in
set_option maxRecDepth 100000 in
theorem c_J7_fill_53178 (l : Launch) (G : va_G) (cA : Nat → ClassId) (b : Nat) (n : Nat) (f : Nat → Int32) (v : Int32) (hn : n < 2147483648) : MUv l yJ7_fill_53178 wsJ7_fill_53178 ({ frames := 0, cells := 0, slots := 0, locals := 0 }) G cA BM0 [(b, .inl (cA 0, n, .inl f))] [.ref b, .int v] [(b, .inl (cA 0, n, .inl (fun _ => v)))] := by
  refine MUv.mk (own := RJ7) (by decide) rfl rfl (Nat.le_of_ble_eq_true rfl) (fun p_ e_ s_ m_ below meth c_ ls A_ CX hr hlk hW hA hE hB hl => ?_)
  obtain ⟨hx, hb, hml, hown, hts⟩ := id CX
  have hl : lv_has ls 4 [(0, .ref b), (1, .int v)] := hl
  have hW : wld G A_ [(b, .inl (cA 0, n, .inl f))] s_.heap s_.heap [] := hW
  refine rn_iconst hx hb 0 rfl dJ7_fill_53178_0 ?_
  refine lv_istore_n (lv' := [(2, .int (nI 0)), (0, .ref b), (1, .int v)]) hx hb dJ7_fill_53178_1 rfl hl (by decide) rfl (fun ls hl => ?_)
  refine lv_aload_n hx hb dJ7_fill_53178_2 rfl (lv_at hl 1 rfl) ?_
  refine va_alen (v := (nI n)) hx hb hE.1 hW.1 0 0 rfl rfl rfl dJ7_fill_53178_3 ?_
  refine lv_istore_n (lv' := [(3, .int (nI n)), (2, .int (nI 0)), (0, .ref b), (1, .int v)]) hx hb dJ7_fill_53178_4 rfl hl (by decide) rfl (fun ls hl => ?_)
  have LP_5 : ∀ (nn_ : Nat) (i : Nat) (g : Nat → Int32), (n - i) < nn_ → (i ≤ n) → (∀ j, j < n → g j = if j < i then v else f j) → ∀ (H : Heap) (locs : List Loc) (ls : Array Slot), wld G A_ [(b, .inl (cA 0, n, .inl g))] s_.heap H locs → lv_has ls 4 [(0, .ref b), (1, .int v), (2, .int (nI i)), (3, .int (nI n))] → W p_ l e_ ({ frames := 0, cells := 0, slots := 0, locals := 0 } : Room) s_ m_ ([.ref b, .int v] : List Value).toArray below meth c_ H locs 0 0 (MQ below (va_Qv (fun _ : Unit => True) (fun _ t_ => va_P G vwCl [(b, .inl (cA 0, n, .inl (fun _ => v)))] t_.heap ∧ va_D A_ [(b, .inl (cA 0, n, .inl (fun _ => v)))]) A_) ([.ref b, .int v] : List Value).toArray s_ 0 0 A_) (F0 m_ 5 ls []) := by
    intro nn_
    induction nn_ with
    | zero => intro i g hmu; exact absurd hmu (Nat.not_lt_zero _)
    | succ nn_ ih =>
      have ih_5 := ih
      clear ih
      intro i g hmu_5 hi hg H locs ls hW hl
      refine lv_iload_n hx hb dJ7_fill_53178_5 rfl (lv_at hl 2 rfl) ?_
      refine lv_iload_n hx hb dJ7_fill_53178_6 rfl (lv_at hl 3 rfl) ?_
      refine rn_icmp_ge hx hb (by omega) (by omega) dJ7_fill_53178_7 (by decide) (tgt := 20) (fun c_7 => ?_) (fun c_7 => ?_)
      · have hW := hW.ext (ws' := [(b, .inl (cA 0, n, .inl (fun _ => v)))]) 0 (g := (fun _ => v)) rfl (fun j hj => by rw [hg j hj, if_pos (by omega)]) rfl
        exact mu_retv CX hr hlk hW dJ7_fill_53178_20
      · refine lv_aload_n hx hb dJ7_fill_53178_10 rfl (lv_at hl 0 rfl) ?_
        refine lv_iload_n hx hb dJ7_fill_53178_11 rfl (lv_at hl 2 rfl) ?_
        refine lv_iload_n hx hb dJ7_fill_53178_12 rfl (lv_at hl 1 rfl) ?_
        refine rn_iast (ws' := [(b, .inl (cA 0, n, .inl (upd g i v)))]) CX hE hW 0 rfl (j := i) (by omega) (by omega) rfl dJ7_fill_53178_13 (fun H locs hW => ?_)
        refine rn_iinc hx hb (n := 1) (lv' := [(2, .int (nI (i + 1))), (0, .ref b), (1, .int v), (3, .int (nI n))]) rfl dJ7_fill_53178_14 hl (k := 2) rfl (by decide) rfl (fun ls hl => ?_)
        refine lv_goto (tgt := 5) hx hb dJ7_fill_53178_17 (by decide) ?_
        exact ih_5 (i + 1) (upd g i v) (by omega) (by omega) (fill_next hg) _ _ ls hW (lv_sub hl [1, 2, 0, 3] rfl)
  exact LP_5 _ 0 f (Nat.lt_succ_self _) (Nat.zero_le _) (fun j hj => (if_neg (Nat.not_lt_zero _)).symm) _ _ ls hW (lv_sub hl [2, 3, 1, 0] rfl)
theorem fl_X0_append_9 : Cond.fieldLink RX0 9 RX0 (TX0 0).2.1 (TX0 0).2.2.1 ∈ wsX0_append := by decide +kernel
theorem in_X0_append_X0 : ∀ w ∈ wsX00, w ∈ wsX0_append := by decide +kernel
theorem fl_X0_append_24 : Cond.fieldLink RX0 24 RX0 (TX0 4).2.1 (TX0 4).2.2.1 ∈ wsX0_append := by decide +kernel
theorem fl_X0_append_15 : Cond.fieldLink RX0 15 RX0 (TX0 1).2.1 (TX0 1).2.2.1 ∈ wsX0_append := by decide +kernel
theorem fl_X0_append_18 : Cond.fieldLink RX0 18 RX0 (TX0 2).2.1 (TX0 2).2.2.1 ∈ wsX0_append := by decide +kernel
theorem fl_X0_append_21 : Cond.fieldLink RX0 21 RX0 (TX0 3).2.1 (TX0 3).2.2.1 ∈ wsX0_append := by decide +kernel
set_option maxHeartbeats 4000000 in
set_option maxRecDepth 100000 in
theorem c_X0_append (l : Launch) (G : va_G) (cA : Nat → ClassId) (a : Nat → Nat) (nd : Nat) (dc : Nat → Nat) (dp : Nat → Nat) (ds : Nat → Int32) (dh : Nat → Int32) (c : Nat) (p : Nat) (si : Int32) (sf : Int32) (hnd : nd < 5) : MUi l yX0_append wsX0_append ({ frames := 0, cells := 0, slots := 0, locals := 0 }) G cA BM0 [(a 6, .inr (0, [.ref (a 7), .ref (a 8), .ref (a 9), .ref (a 10), .int (nI nd)])), (a 7, .inl (cA 0, 5, .inl (fun k => nI (dc k)))), (a 8, .inl (cA 0, 5, .inl (fun k => nI (dp k)))), (a 9, .inl (cA 0, 5, .inl ds)), (a 10, .inl (cA 0, 5, .inl dh))] [.ref (a 6), .int (nI c), .int (nI p), .int si, .int sf] [(a 6, .inr (0, [.ref (a 7), .ref (a 8), .ref (a 9), .ref (a 10), .int (nI (nd + 1))])), (a 7, .inl (cA 0, 5, .inl (fun k => nI ((va_up dc nd c) k)))), (a 8, .inl (cA 0, 5, .inl (fun k => nI ((va_up dp nd p) k)))), (a 9, .inl (cA 0, 5, .inl (upd ds nd si))), (a 10, .inl (cA 0, 5, .inl (upd dh nd sf)))] (nI nd) := by
  refine MUi.mk (own := RX0) (by decide) rfl rfl (Nat.le_of_ble_eq_true rfl) (fun p_ e_ s_ m_ below meth c_ ls A_ CX hr hlk hW hA hE hB hl => ?_)
  obtain ⟨hx, hb, hml, hown, hts⟩ := id CX
  have hl : lv_has ls 5 [(0, .ref (a 6)), (1, .int (nI c)), (2, .int (nI p)), (3, .int si), (4, .int sf)] := hl
  have hW : wld G A_ [(a 6, .inr (0, [.ref (a 7), .ref (a 8), .ref (a 9), .ref (a 10), .int (nI nd)])), (a 7, .inl (cA 0, 5, .inl (fun k => nI (dc k)))), (a 8, .inl (cA 0, 5, .inl (fun k => nI (dp k)))), (a 9, .inl (cA 0, 5, .inl ds)), (a 10, .inl (cA 0, 5, .inl dh))] s_.heap s_.heap [] := hW
  refine lv_aload_n hx hb dX0_append_0 rfl (lv_at hl 0 rfl) ?_
  refine rg (T := TX0) (N := 5) CX hE hW.1 in_X0_append_X0 0 rfl rfl 0 (by decide) fl_X0_append_9 rfl rfl dX0_append_1 ?_
  refine lv_aload_n hx hb dX0_append_4 rfl (lv_at hl 0 rfl) ?_
  refine rg (T := TX0) (N := 5) CX hE hW.1 in_X0_append_X0 0 rfl rfl 4 (by decide) fl_X0_append_24 rfl rfl dX0_append_5 ?_
  refine lv_iload_n hx hb dX0_append_8 rfl (lv_at hl 1 rfl) ?_
  refine rn_iast (ws' := [(a 6, .inr (0, [.ref (a 7), .ref (a 8), .ref (a 9), .ref (a 10), .int (nI nd)])), (a 7, .inl (cA 0, 5, .inl (upd (fun k => nI (dc k)) nd (nI c)))), (a 8, .inl (cA 0, 5, .inl (fun k => nI (dp k)))), (a 9, .inl (cA 0, 5, .inl ds)), (a 10, .inl (cA 0, 5, .inl dh))]) CX hE hW 1 rfl (j := nd) (by omega) (ltb rfl) rfl dX0_append_9 (fun H locs hW => ?_)
  have hW := hW.ext (ws' := [(a 6, .inr (0, [.ref (a 7), .ref (a 8), .ref (a 9), .ref (a 10), .int (nI nd)])), (a 7, .inl (cA 0, 5, .inl (fun k => nI ((va_up dc nd c) k)))), (a 8, .inl (cA 0, 5, .inl (fun k => nI (dp k)))), (a 9, .inl (cA 0, 5, .inl ds)), (a 10, .inl (cA 0, 5, .inl dh))]) 1 (g := (fun k => nI ((va_up dc nd c) k))) rfl (fun _ _ => updN_eq) rfl
  refine lv_aload_n hx hb dX0_append_10 rfl (lv_at hl 0 rfl) ?_
  refine rg (T := TX0) (N := 5) CX hE hW.1 in_X0_append_X0 0 rfl rfl 1 (by decide) fl_X0_append_15 rfl rfl dX0_append_11 ?_
  refine lv_aload_n hx hb dX0_append_14 rfl (lv_at hl 0 rfl) ?_
  refine rg (T := TX0) (N := 5) CX hE hW.1 in_X0_append_X0 0 rfl rfl 4 (by decide) fl_X0_append_24 rfl rfl dX0_append_15 ?_
  refine lv_iload_n hx hb dX0_append_18 rfl (lv_at hl 2 rfl) ?_
  refine rn_iast (ws' := [(a 6, .inr (0, [.ref (a 7), .ref (a 8), .ref (a 9), .ref (a 10), .int (nI nd)])), (a 7, .inl (cA 0, 5, .inl (fun k => nI ((va_up dc nd c) k)))), (a 8, .inl (cA 0, 5, .inl (upd (fun k => nI (dp k)) nd (nI p)))), (a 9, .inl (cA 0, 5, .inl ds)), (a 10, .inl (cA 0, 5, .inl dh))]) CX hE hW 2 rfl (j := nd) (by omega) (ltb rfl) rfl dX0_append_19 (fun H locs hW => ?_)
  have hW := hW.ext (ws' := [(a 6, .inr (0, [.ref (a 7), .ref (a 8), .ref (a 9), .ref (a 10), .int (nI nd)])), (a 7, .inl (cA 0, 5, .inl (fun k => nI ((va_up dc nd c) k)))), (a 8, .inl (cA 0, 5, .inl (fun k => nI ((va_up dp nd p) k)))), (a 9, .inl (cA 0, 5, .inl ds)), (a 10, .inl (cA 0, 5, .inl dh))]) 2 (g := (fun k => nI ((va_up dp nd p) k))) rfl (fun _ _ => updN_eq) rfl
  refine lv_aload_n hx hb dX0_append_20 rfl (lv_at hl 0 rfl) ?_
  refine rg (T := TX0) (N := 5) CX hE hW.1 in_X0_append_X0 0 rfl rfl 2 (by decide) fl_X0_append_18 rfl rfl dX0_append_21 ?_
  refine lv_aload_n hx hb dX0_append_24 rfl (lv_at hl 0 rfl) ?_
  refine rg (T := TX0) (N := 5) CX hE hW.1 in_X0_append_X0 0 rfl rfl 4 (by decide) fl_X0_append_24 rfl rfl dX0_append_25 ?_
  refine lv_iload_n hx hb dX0_append_28 rfl (lv_at hl 3 rfl) ?_
  refine rn_iast (ws' := [(a 6, .inr (0, [.ref (a 7), .ref (a 8), .ref (a 9), .ref (a 10), .int (nI nd)])), (a 7, .inl (cA 0, 5, .inl (fun k => nI ((va_up dc nd c) k)))), (a 8, .inl (cA 0, 5, .inl (fun k => nI ((va_up dp nd p) k)))), (a 9, .inl (cA 0, 5, .inl (upd ds nd si))), (a 10, .inl (cA 0, 5, .inl dh))]) CX hE hW 3 rfl (j := nd) (by omega) (ltb rfl) rfl dX0_append_29 (fun H locs hW => ?_)
  refine lv_aload_n hx hb dX0_append_30 rfl (lv_at hl 0 rfl) ?_
  refine rg (T := TX0) (N := 5) CX hE hW.1 in_X0_append_X0 0 rfl rfl 3 (by decide) fl_X0_append_21 rfl rfl dX0_append_31 ?_
  refine lv_aload_n hx hb dX0_append_34 rfl (lv_at hl 0 rfl) ?_
  refine rg (T := TX0) (N := 5) CX hE hW.1 in_X0_append_X0 0 rfl rfl 4 (by decide) fl_X0_append_24 rfl rfl dX0_append_35 ?_
  refine lv_iload hx hb dX0_append_38 (lv_at hl 4 rfl) ?_
  refine rn_iast (ws' := [(a 6, .inr (0, [.ref (a 7), .ref (a 8), .ref (a 9), .ref (a 10), .int (nI nd)])), (a 7, .inl (cA 0, 5, .inl (fun k => nI ((va_up dc nd c) k)))), (a 8, .inl (cA 0, 5, .inl (fun k => nI ((va_up dp nd p) k)))), (a 9, .inl (cA 0, 5, .inl (upd ds nd si))), (a 10, .inl (cA 0, 5, .inl (upd dh nd sf)))]) CX hE hW 4 rfl (j := nd) (by omega) (ltb rfl) rfl dX0_append_40 (fun H locs hW => ?_)
  refine lv_aload_n hx hb dX0_append_41 rfl (lv_at hl 0 rfl) ?_
  refine lv_dup hx hb dX0_append_42 rfl ?_
  refine rg (T := TX0) (N := 5) CX hE hW.1 in_X0_append_X0 0 rfl rfl 4 (by decide) fl_X0_append_24 rfl rfl dX0_append_43 ?_
  refine rn_iconst hx hb 1 rfl dX0_append_46 ?_
  refine rn_iadd hx hb dX0_append_47 ?_
  refine rp (T := TX0) (N := 5) (ws' := [(a 6, .inr (0, [.ref (a 7), .ref (a 8), .ref (a 9), .ref (a 10), .int (nI (nd + 1))])), (a 7, .inl (cA 0, 5, .inl (fun k => nI ((va_up dc nd c) k)))), (a 8, .inl (cA 0, 5, .inl (fun k => nI ((va_up dp nd p) k)))), (a 9, .inl (cA 0, 5, .inl (upd ds nd si))), (a 10, .inl (cA 0, 5, .inl (upd dh nd sf)))]) CX hE hW in_X0_append_X0 tyX0 tyX0_ok nmX0 0 rfl rfl 4 (by decide) fl_X0_append_24 rfl rfl rfl rfl (Nat.le_of_ble_eq_true rfl) rfl dX0_append_48 (fun H locs hW => ?_)
  refine lv_aload_n hx hb dX0_append_51 rfl (lv_at hl 0 rfl) ?_
  refine rg (T := TX0) (N := 5) CX hE hW.1 in_X0_append_X0 0 rfl rfl 4 (by decide) fl_X0_append_24 rfl rfl dX0_append_52 ?_
  refine rn_iconst hx hb 1 rfl dX0_append_55 ?_
  refine rn_isub hx hb (by omega) dX0_append_56 ?_
  exact mu_reti CX hr hlk rfl rfl hW dX0_append_57
theorem fl_X0_remove_24 : Cond.fieldLink RX0 24 RX0 (TX0 4).2.1 (TX0 4).2.2.1 ∈ wsX0_remove := by decide +kernel
theorem in_X0_remove_X0 : ∀ w ∈ wsX00, w ∈ wsX0_remove := by decide +kernel
theorem fl_X0_remove_9 : Cond.fieldLink RX0 9 RX0 (TX0 0).2.1 (TX0 0).2.2.1 ∈ wsX0_remove := by decide +kernel
theorem fl_X0_remove_15 : Cond.fieldLink RX0 15 RX0 (TX0 1).2.1 (TX0 1).2.2.1 ∈ wsX0_remove := by decide +kernel
theorem fl_X0_remove_18 : Cond.fieldLink RX0 18 RX0 (TX0 2).2.1 (TX0 2).2.2.1 ∈ wsX0_remove := by decide +kernel
theorem fl_X0_remove_21 : Cond.fieldLink RX0 21 RX0 (TX0 3).2.1 (TX0 3).2.2.1 ∈ wsX0_remove := by decide +kernel
set_option maxHeartbeats 4000000 in
set_option maxRecDepth 100000 in
theorem c_X0_remove (l : Launch) (G : va_G) (cA : Nat → ClassId) (a : Nat → Nat) (nd : Nat) (dc : Nat → Nat) (dp : Nat → Nat) (ds : Nat → Int32) (dh : Nat → Int32) (d : Nat) (hd : d < nd) (hnd : nd ≤ 5) : MUv l yX0_remove wsX0_remove ({ frames := 0, cells := 0, slots := 0, locals := 0 }) G cA BM0 [(a 6, .inr (0, [.ref (a 7), .ref (a 8), .ref (a 9), .ref (a 10), .int (nI nd)])), (a 7, .inl (cA 0, 5, .inl (fun k => nI (dc k)))), (a 8, .inl (cA 0, 5, .inl (fun k => nI (dp k)))), (a 9, .inl (cA 0, 5, .inl ds)), (a 10, .inl (cA 0, 5, .inl dh))] [.ref (a 6), .int (nI d)] [(a 6, .inr (0, [.ref (a 7), .ref (a 8), .ref (a 9), .ref (a 10), .int (nI (nd - 1))])), (a 7, .inl (cA 0, 5, .inl (fun k => nI ((rmF dc d nd) k)))), (a 8, .inl (cA 0, 5, .inl (fun k => nI ((rmF dp d nd) k)))), (a 9, .inl (cA 0, 5, .inl (rmF ds d nd))), (a 10, .inl (cA 0, 5, .inl (rmF dh d nd)))] := by
  refine MUv.mk (own := RX0) (by decide) rfl rfl (Nat.le_of_ble_eq_true rfl) (fun p_ e_ s_ m_ below meth c_ ls A_ CX hr hlk hW hA hE hB hl => ?_)
  obtain ⟨hx, hb, hml, hown, hts⟩ := id CX
  have hl : lv_has ls 3 [(0, .ref (a 6)), (1, .int (nI d))] := hl
  have hW : wld G A_ [(a 6, .inr (0, [.ref (a 7), .ref (a 8), .ref (a 9), .ref (a 10), .int (nI nd)])), (a 7, .inl (cA 0, 5, .inl (fun k => nI (dc k)))), (a 8, .inl (cA 0, 5, .inl (fun k => nI (dp k)))), (a 9, .inl (cA 0, 5, .inl ds)), (a 10, .inl (cA 0, 5, .inl dh))] s_.heap s_.heap [] := hW
  refine lv_iload_n hx hb dX0_remove_0 rfl (lv_at hl 1 rfl) ?_
  refine rn_iconst hx hb 1 rfl dX0_remove_1 ?_
  refine rn_iadd hx hb dX0_remove_2 ?_
  refine lv_istore_n (lv' := [(2, .int (nI (d + 1))), (0, .ref (a 6)), (1, .int (nI d))]) hx hb dX0_remove_3 rfl hl (by decide) rfl (fun ls hl => ?_)
  have LP_4 : ∀ (nn_ : Nat) (i : Nat) (gc : Nat → Nat) (gp : Nat → Nat) (gs : Nat → Int32) (gh : Nat → Int32), (nd - i) < nn_ → (d + 1 ≤ i) → (i ≤ nd) → (gc = rmF dc d i) → (gp = rmF dp d i) → (gs = rmF ds d i) → (gh = rmF dh d i) → ∀ (H : Heap) (locs : List Loc) (ls : Array Slot), wld G A_ [(a 6, .inr (0, [.ref (a 7), .ref (a 8), .ref (a 9), .ref (a 10), .int (nI nd)])), (a 7, .inl (cA 0, 5, .inl (fun k => nI (gc k)))), (a 8, .inl (cA 0, 5, .inl (fun k => nI (gp k)))), (a 9, .inl (cA 0, 5, .inl gs)), (a 10, .inl (cA 0, 5, .inl gh))] s_.heap H locs → lv_has ls 3 [(0, .ref (a 6)), (1, .int (nI d)), (2, .int (nI i))] → W p_ l e_ ({ frames := 0, cells := 0, slots := 0, locals := 0 } : Room) s_ m_ ([.ref (a 6), .int (nI d)] : List Value).toArray below meth c_ H locs 0 0 (MQ below (va_Qv (fun _ : Unit => True) (fun _ t_ => va_P G vwCl [(a 6, .inr (0, [.ref (a 7), .ref (a 8), .ref (a 9), .ref (a 10), .int (nI (nd - 1))])), (a 7, .inl (cA 0, 5, .inl (fun k => nI ((rmF dc d nd) k)))), (a 8, .inl (cA 0, 5, .inl (fun k => nI ((rmF dp d nd) k)))), (a 9, .inl (cA 0, 5, .inl (rmF ds d nd))), (a 10, .inl (cA 0, 5, .inl (rmF dh d nd)))] t_.heap ∧ va_D A_ [(a 6, .inr (0, [.ref (a 7), .ref (a 8), .ref (a 9), .ref (a 10), .int (nI (nd - 1))])), (a 7, .inl (cA 0, 5, .inl (fun k => nI ((rmF dc d nd) k)))), (a 8, .inl (cA 0, 5, .inl (fun k => nI ((rmF dp d nd) k)))), (a 9, .inl (cA 0, 5, .inl (rmF ds d nd))), (a 10, .inl (cA 0, 5, .inl (rmF dh d nd)))]) A_) ([.ref (a 6), .int (nI d)] : List Value).toArray s_ 0 0 A_) (F0 m_ 4 ls []) := by
    intro nn_
    induction nn_ with
    | zero => intro i gc gp gs gh hmu; exact absurd hmu (Nat.not_lt_zero _)
    | succ nn_ ih =>
      have ih_4 := ih
      clear ih
      intro i gc gp gs gh hmu_4 hi hi2 hgc hgp hgs hgh H locs ls hW hl
      refine lv_iload_n hx hb dX0_remove_4 rfl (lv_at hl 2 rfl) ?_
      refine lv_aload_n hx hb dX0_remove_5 rfl (lv_at hl 0 rfl) ?_
      refine rg (T := TX0) (N := 5) CX hE hW.1 in_X0_remove_X0 0 rfl rfl 4 (by decide) fl_X0_remove_24 rfl rfl dX0_remove_6 ?_
      refine rn_icmp_ge hx hb (by omega) (by omega) dX0_remove_9 (by decide) (tgt := 74) (fun c_9 => ?_) (fun c_9 => ?_)
      · refine lv_aload_n hx hb dX0_remove_74 rfl (lv_at hl 0 rfl) ?_
        refine lv_dup hx hb dX0_remove_75 rfl ?_
        refine rg (T := TX0) (N := 5) CX hE hW.1 in_X0_remove_X0 0 rfl rfl 4 (by decide) fl_X0_remove_24 rfl rfl dX0_remove_76 ?_
        refine rn_iconst hx hb 1 rfl dX0_remove_79 ?_
        refine rn_isub hx hb (by omega) dX0_remove_80 ?_
        refine rp (T := TX0) (N := 5) (ws' := [(a 6, .inr (0, [.ref (a 7), .ref (a 8), .ref (a 9), .ref (a 10), .int (nI (nd - 1))])), (a 7, .inl (cA 0, 5, .inl (fun k => nI (gc k)))), (a 8, .inl (cA 0, 5, .inl (fun k => nI (gp k)))), (a 9, .inl (cA 0, 5, .inl gs)), (a 10, .inl (cA 0, 5, .inl gh))]) CX hE hW in_X0_remove_X0 tyX0 tyX0_ok nmX0 0 rfl rfl 4 (by decide) fl_X0_remove_24 rfl rfl rfl rfl (Nat.le_of_ble_eq_true rfl) rfl dX0_remove_81 (fun H locs hW => ?_)
        have hW := hW.ext (ws' := [(a 6, .inr (0, [.ref (a 7), .ref (a 8), .ref (a 9), .ref (a 10), .int (nI (nd - 1))])), (a 7, .inl (cA 0, 5, .inl (fun k => nI ((rmF dc d nd) k)))), (a 8, .inl (cA 0, 5, .inl (fun k => nI (gp k)))), (a 9, .inl (cA 0, 5, .inl gs)), (a 10, .inl (cA 0, 5, .inl gh))]) 1 (g := (fun k => nI ((rmF dc d nd) k))) rfl (fun j _ => by show nI (gc j) = _; rw [hgc, show i = nd by omega]) rfl
        have hW := hW.ext (ws' := [(a 6, .inr (0, [.ref (a 7), .ref (a 8), .ref (a 9), .ref (a 10), .int (nI (nd - 1))])), (a 7, .inl (cA 0, 5, .inl (fun k => nI ((rmF dc d nd) k)))), (a 8, .inl (cA 0, 5, .inl (fun k => nI ((rmF dp d nd) k)))), (a 9, .inl (cA 0, 5, .inl gs)), (a 10, .inl (cA 0, 5, .inl gh))]) 2 (g := (fun k => nI ((rmF dp d nd) k))) rfl (fun j _ => by show nI (gp j) = _; rw [hgp, show i = nd by omega]) rfl
        have hW := hW.ext (ws' := [(a 6, .inr (0, [.ref (a 7), .ref (a 8), .ref (a 9), .ref (a 10), .int (nI (nd - 1))])), (a 7, .inl (cA 0, 5, .inl (fun k => nI ((rmF dc d nd) k)))), (a 8, .inl (cA 0, 5, .inl (fun k => nI ((rmF dp d nd) k)))), (a 9, .inl (cA 0, 5, .inl (rmF ds d nd))), (a 10, .inl (cA 0, 5, .inl gh))]) 3 (g := (rmF ds d nd)) rfl (fun j _ => by rw [hgs, show i = nd by omega]) rfl
        have hW := hW.ext (ws' := [(a 6, .inr (0, [.ref (a 7), .ref (a 8), .ref (a 9), .ref (a 10), .int (nI (nd - 1))])), (a 7, .inl (cA 0, 5, .inl (fun k => nI ((rmF dc d nd) k)))), (a 8, .inl (cA 0, 5, .inl (fun k => nI ((rmF dp d nd) k)))), (a 9, .inl (cA 0, 5, .inl (rmF ds d nd))), (a 10, .inl (cA 0, 5, .inl (rmF dh d nd)))]) 4 (g := (rmF dh d nd)) rfl (fun j _ => by rw [hgh, show i = nd by omega]) rfl
        exact mu_retv CX hr hlk hW dX0_remove_84
      · refine lv_aload_n hx hb dX0_remove_12 rfl (lv_at hl 0 rfl) ?_
        refine rg (T := TX0) (N := 5) CX hE hW.1 in_X0_remove_X0 0 rfl rfl 0 (by decide) fl_X0_remove_9 rfl rfl dX0_remove_13 ?_
        refine lv_iload_n hx hb dX0_remove_16 rfl (lv_at hl 2 rfl) ?_
        refine rn_iconst hx hb 1 rfl dX0_remove_17 ?_
        refine rn_isub hx hb (by omega) dX0_remove_18 ?_
        refine lv_aload_n hx hb dX0_remove_19 rfl (lv_at hl 0 rfl) ?_
        refine rg (T := TX0) (N := 5) CX hE hW.1 in_X0_remove_X0 0 rfl rfl 0 (by decide) fl_X0_remove_9 rfl rfl dX0_remove_20 ?_
        refine lv_iload_n hx hb dX0_remove_23 rfl (lv_at hl 2 rfl) ?_
        refine rn_iald CX hE hW.1 1 rfl (j := i) (by omega) (ltb rfl) dX0_remove_24 ?_
        refine rn_iast (ws' := [(a 6, .inr (0, [.ref (a 7), .ref (a 8), .ref (a 9), .ref (a 10), .int (nI nd)])), (a 7, .inl (cA 0, 5, .inl (upd (fun k => nI (gc k)) (i - 1) (nI (gc i))))), (a 8, .inl (cA 0, 5, .inl (fun k => nI (gp k)))), (a 9, .inl (cA 0, 5, .inl gs)), (a 10, .inl (cA 0, 5, .inl gh))]) CX hE hW 1 rfl (j := (i - 1)) (by omega) (ltb rfl) rfl dX0_remove_25 (fun H locs hW => ?_)
        have hW := hW.ext (ws' := [(a 6, .inr (0, [.ref (a 7), .ref (a 8), .ref (a 9), .ref (a 10), .int (nI nd)])), (a 7, .inl (cA 0, 5, .inl (fun k => nI ((va_up gc (i - 1) (gc i)) k)))), (a 8, .inl (cA 0, 5, .inl (fun k => nI (gp k)))), (a 9, .inl (cA 0, 5, .inl gs)), (a 10, .inl (cA 0, 5, .inl gh))]) 1 (g := (fun k => nI ((va_up gc (i - 1) (gc i)) k))) rfl (fun _ _ => updN_eq) rfl
        refine lv_aload_n hx hb dX0_remove_26 rfl (lv_at hl 0 rfl) ?_
        refine rg (T := TX0) (N := 5) CX hE hW.1 in_X0_remove_X0 0 rfl rfl 1 (by decide) fl_X0_remove_15 rfl rfl dX0_remove_27 ?_
        refine lv_iload_n hx hb dX0_remove_30 rfl (lv_at hl 2 rfl) ?_
        refine rn_iconst hx hb 1 rfl dX0_remove_31 ?_
        refine rn_isub hx hb (by omega) dX0_remove_32 ?_
        refine lv_aload_n hx hb dX0_remove_33 rfl (lv_at hl 0 rfl) ?_
        refine rg (T := TX0) (N := 5) CX hE hW.1 in_X0_remove_X0 0 rfl rfl 1 (by decide) fl_X0_remove_15 rfl rfl dX0_remove_34 ?_
        refine lv_iload_n hx hb dX0_remove_37 rfl (lv_at hl 2 rfl) ?_
        refine rn_iald CX hE hW.1 2 rfl (j := i) (by omega) (ltb rfl) dX0_remove_38 ?_
        refine rn_iast (ws' := [(a 6, .inr (0, [.ref (a 7), .ref (a 8), .ref (a 9), .ref (a 10), .int (nI nd)])), (a 7, .inl (cA 0, 5, .inl (fun k => nI ((va_up gc (i - 1) (gc i)) k)))), (a 8, .inl (cA 0, 5, .inl (upd (fun k => nI (gp k)) (i - 1) (nI (gp i))))), (a 9, .inl (cA 0, 5, .inl gs)), (a 10, .inl (cA 0, 5, .inl gh))]) CX hE hW 2 rfl (j := (i - 1)) (by omega) (ltb rfl) rfl dX0_remove_39 (fun H locs hW => ?_)
        have hW := hW.ext (ws' := [(a 6, .inr (0, [.ref (a 7), .ref (a 8), .ref (a 9), .ref (a 10), .int (nI nd)])), (a 7, .inl (cA 0, 5, .inl (fun k => nI ((va_up gc (i - 1) (gc i)) k)))), (a 8, .inl (cA 0, 5, .inl (fun k => nI ((va_up gp (i - 1) (gp i)) k)))), (a 9, .inl (cA 0, 5, .inl gs)), (a 10, .inl (cA 0, 5, .inl gh))]) 2 (g := (fun k => nI ((va_up gp (i - 1) (gp i)) k))) rfl (fun _ _ => updN_eq) rfl
        refine lv_aload_n hx hb dX0_remove_40 rfl (lv_at hl 0 rfl) ?_
        refine rg (T := TX0) (N := 5) CX hE hW.1 in_X0_remove_X0 0 rfl rfl 2 (by decide) fl_X0_remove_18 rfl rfl dX0_remove_41 ?_
        refine lv_iload_n hx hb dX0_remove_44 rfl (lv_at hl 2 rfl) ?_
        refine rn_iconst hx hb 1 rfl dX0_remove_45 ?_
        refine rn_isub hx hb (by omega) dX0_remove_46 ?_
        refine lv_aload_n hx hb dX0_remove_47 rfl (lv_at hl 0 rfl) ?_
        refine rg (T := TX0) (N := 5) CX hE hW.1 in_X0_remove_X0 0 rfl rfl 2 (by decide) fl_X0_remove_18 rfl rfl dX0_remove_48 ?_
        refine lv_iload_n hx hb dX0_remove_51 rfl (lv_at hl 2 rfl) ?_
        refine rn_iald CX hE hW.1 3 rfl (j := i) (by omega) (ltb rfl) dX0_remove_52 ?_
        refine rn_iast (ws' := [(a 6, .inr (0, [.ref (a 7), .ref (a 8), .ref (a 9), .ref (a 10), .int (nI nd)])), (a 7, .inl (cA 0, 5, .inl (fun k => nI ((va_up gc (i - 1) (gc i)) k)))), (a 8, .inl (cA 0, 5, .inl (fun k => nI ((va_up gp (i - 1) (gp i)) k)))), (a 9, .inl (cA 0, 5, .inl (upd gs (i - 1) (gs i)))), (a 10, .inl (cA 0, 5, .inl gh))]) CX hE hW 3 rfl (j := (i - 1)) (by omega) (ltb rfl) rfl dX0_remove_53 (fun H locs hW => ?_)
        refine lv_aload_n hx hb dX0_remove_54 rfl (lv_at hl 0 rfl) ?_
        refine rg (T := TX0) (N := 5) CX hE hW.1 in_X0_remove_X0 0 rfl rfl 3 (by decide) fl_X0_remove_21 rfl rfl dX0_remove_55 ?_
        refine lv_iload_n hx hb dX0_remove_58 rfl (lv_at hl 2 rfl) ?_
        refine rn_iconst hx hb 1 rfl dX0_remove_59 ?_
        refine rn_isub hx hb (by omega) dX0_remove_60 ?_
        refine lv_aload_n hx hb dX0_remove_61 rfl (lv_at hl 0 rfl) ?_
        refine rg (T := TX0) (N := 5) CX hE hW.1 in_X0_remove_X0 0 rfl rfl 3 (by decide) fl_X0_remove_21 rfl rfl dX0_remove_62 ?_
        refine lv_iload_n hx hb dX0_remove_65 rfl (lv_at hl 2 rfl) ?_
        refine rn_iald CX hE hW.1 4 rfl (j := i) (by omega) (ltb rfl) dX0_remove_66 ?_
        refine rn_iast (ws' := [(a 6, .inr (0, [.ref (a 7), .ref (a 8), .ref (a 9), .ref (a 10), .int (nI nd)])), (a 7, .inl (cA 0, 5, .inl (fun k => nI ((va_up gc (i - 1) (gc i)) k)))), (a 8, .inl (cA 0, 5, .inl (fun k => nI ((va_up gp (i - 1) (gp i)) k)))), (a 9, .inl (cA 0, 5, .inl (upd gs (i - 1) (gs i)))), (a 10, .inl (cA 0, 5, .inl (upd gh (i - 1) (gh i))))]) CX hE hW 4 rfl (j := (i - 1)) (by omega) (ltb rfl) rfl dX0_remove_67 (fun H locs hW => ?_)
        refine rn_iinc hx hb (n := 1) (lv' := [(2, .int (nI (i + 1))), (0, .ref (a 6)), (1, .int (nI d))]) rfl dX0_remove_68 hl (k := 2) rfl (by decide) rfl (fun ls hl => ?_)
        refine lv_goto (tgt := 4) hx hb dX0_remove_71 (by decide) ?_
        exact ih_4 (i + 1) (va_up gc (i - 1) (gc i)) (va_up gp (i - 1) (gp i)) (upd gs (i - 1) (gs i)) (upd gh (i - 1) (gh i)) (by omega) (by omega) (by omega) (rmF_next hgc hi) (rmF_next hgp hi) (rmF_nextI hgs hi) (rmF_nextI hgh hi) _ _ ls hW (lv_sub hl [1, 2, 0] rfl)
  exact LP_4 _ (d + 1) dc dp ds dh (Nat.lt_succ_self _) (Nat.le_refl _) (by omega) rmF_0 rmF_0 rmF_0 rmF_0 _ _ ls hW (lv_sub hl [1, 2, 0] rfl)
theorem fl_X0_become_9 : Cond.fieldLink RX0 9 RX0 (TX0 0).2.1 (TX0 0).2.2.1 ∈ wsX0_become := by decide +kernel
theorem in_X0_become_X0 : ∀ w ∈ wsX00, w ∈ wsX0_become := by decide +kernel
theorem w_X0_become_acl28 : Cond.methodLink RX0 28 arraycopyName ∈ wsX0_become := by decide +kernel
theorem w_X0_become_acn : Cond.native arraycopyName ∈ wsX0_become := by decide +kernel
theorem w_X0_become_acs : Cond.static arraycopyName ∈ wsX0_become := by decide +kernel
theorem w_X0_become_aci : Cond.initialized "java/lang/System" ∈ wsX0_become := by decide +kernel
theorem fl_X0_become_15 : Cond.fieldLink RX0 15 RX0 (TX0 1).2.1 (TX0 1).2.2.1 ∈ wsX0_become := by decide +kernel
theorem fl_X0_become_18 : Cond.fieldLink RX0 18 RX0 (TX0 2).2.1 (TX0 2).2.2.1 ∈ wsX0_become := by decide +kernel
theorem fl_X0_become_21 : Cond.fieldLink RX0 21 RX0 (TX0 3).2.1 (TX0 3).2.2.1 ∈ wsX0_become := by decide +kernel
theorem fl_X0_become_24 : Cond.fieldLink RX0 24 RX0 (TX0 4).2.1 (TX0 4).2.2.1 ∈ wsX0_become := by decide +kernel
set_option maxHeartbeats 4000000 in
set_option maxRecDepth 100000 in
theorem c_X0_become (l : Launch) (G : va_G) (cA : Nat → ClassId) (a : Nat → Nat) (b : Nat → Nat) (nd : Nat) (dc : Nat → Nat) (dp : Nat → Nat) (ds : Nat → Int32) (dh : Nat → Int32) (nd2 : Nat) (ec : Nat → Nat) (ep : Nat → Nat) (es : Nat → Int32) (eh : Nat → Int32)  : MUv l yX0_become wsX0_become ({ frames := 1, cells := 0, slots := 0, locals := 64 }) G cA BM0 [(a 6, .inr (0, [.ref (a 7), .ref (a 8), .ref (a 9), .ref (a 10), .int (nI nd)])), (a 7, .inl (cA 0, 5, .inl (fun k => nI (dc k)))), (a 8, .inl (cA 0, 5, .inl (fun k => nI (dp k)))), (a 9, .inl (cA 0, 5, .inl ds)), (a 10, .inl (cA 0, 5, .inl dh)), (b 6, .inr (0, [.ref (b 7), .ref (b 8), .ref (b 9), .ref (b 10), .int (nI nd2)])), (b 7, .inl (cA 0, 5, .inl (fun k => nI (ec k)))), (b 8, .inl (cA 0, 5, .inl (fun k => nI (ep k)))), (b 9, .inl (cA 0, 5, .inl es)), (b 10, .inl (cA 0, 5, .inl eh))] [.ref (a 6), .ref (b 6)] [(a 6, .inr (0, [.ref (a 7), .ref (a 8), .ref (a 9), .ref (a 10), .int (nI nd2)])), (a 7, .inl (cA 0, 5, .inl (fun k => nI (ec k)))), (a 8, .inl (cA 0, 5, .inl (fun k => nI (ep k)))), (a 9, .inl (cA 0, 5, .inl es)), (a 10, .inl (cA 0, 5, .inl eh)), (b 6, .inr (0, [.ref (b 7), .ref (b 8), .ref (b 9), .ref (b 10), .int (nI nd2)])), (b 7, .inl (cA 0, 5, .inl (fun k => nI (ec k)))), (b 8, .inl (cA 0, 5, .inl (fun k => nI (ep k)))), (b 9, .inl (cA 0, 5, .inl es)), (b 10, .inl (cA 0, 5, .inl eh))] := by
  refine MUv.mk (own := RX0) (by decide) rfl rfl (Nat.le_of_ble_eq_true rfl) (fun p_ e_ s_ m_ below meth c_ ls A_ CX hr hlk hW hA hE hB hl => ?_)
  obtain ⟨hx, hb, hml, hown, hts⟩ := id CX
  have hl : lv_has ls 2 [(0, .ref (a 6)), (1, .ref (b 6))] := hl
  have hW : wld G A_ [(a 6, .inr (0, [.ref (a 7), .ref (a 8), .ref (a 9), .ref (a 10), .int (nI nd)])), (a 7, .inl (cA 0, 5, .inl (fun k => nI (dc k)))), (a 8, .inl (cA 0, 5, .inl (fun k => nI (dp k)))), (a 9, .inl (cA 0, 5, .inl ds)), (a 10, .inl (cA 0, 5, .inl dh)), (b 6, .inr (0, [.ref (b 7), .ref (b 8), .ref (b 9), .ref (b 10), .int (nI nd2)])), (b 7, .inl (cA 0, 5, .inl (fun k => nI (ec k)))), (b 8, .inl (cA 0, 5, .inl (fun k => nI (ep k)))), (b 9, .inl (cA 0, 5, .inl es)), (b 10, .inl (cA 0, 5, .inl eh))] s_.heap s_.heap [] := hW
  refine lv_aload_n hx hb dX0_become_0 rfl (lv_at hl 1 rfl) ?_
  refine rg (T := TX0) (N := 5) CX hE hW.1 in_X0_become_X0 5 rfl rfl 0 (by decide) fl_X0_become_9 rfl rfl dX0_become_1 ?_
  refine rn_iconst hx hb 0 rfl dX0_become_4 ?_
  refine lv_aload_n hx hb dX0_become_5 rfl (lv_at hl 0 rfl) ?_
  refine rg (T := TX0) (N := 5) CX hE hW.1 in_X0_become_X0 0 rfl rfl 0 (by decide) fl_X0_become_9 rfl rfl dX0_become_6 ?_
  refine rn_iconst hx hb 0 rfl dX0_become_9 ?_
  refine rn_iconst hx hb 5 rfl dX0_become_10 ?_
  refine rn_copyF (ws' := [(a 6, .inr (0, [.ref (a 7), .ref (a 8), .ref (a 9), .ref (a 10), .int (nI nd)])), (a 7, .inl (cA 0, 5, .inl (fun k => nI (ec k)))), (a 8, .inl (cA 0, 5, .inl (fun k => nI (dp k)))), (a 9, .inl (cA 0, 5, .inl ds)), (a 10, .inl (cA 0, 5, .inl dh)), (b 6, .inr (0, [.ref (b 7), .ref (b 8), .ref (b 9), .ref (b 10), .int (nI nd2)])), (b 7, .inl (cA 0, 5, .inl (fun k => nI (ec k)))), (b 8, .inl (cA 0, 5, .inl (fun k => nI (ep k)))), (b 9, .inl (cA 0, 5, .inl es)), (b 10, .inl (cA 0, 5, .inl eh))]) CX hE hW hl.1 (hts _ w_X0_become_acl28) (hts _ w_X0_become_acn) (hts _ w_X0_become_acs) (hts _ w_X0_become_aci) 6 1 rfl rfl (Nat.le_of_ble_eq_true rfl) (by decide +kernel) (ltb rfl) rfl dX0_become_11 (fun H locs hW => ?_)
  refine lv_aload_n hx hb dX0_become_14 rfl (lv_at hl 1 rfl) ?_
  refine rg (T := TX0) (N := 5) CX hE hW.1 in_X0_become_X0 5 rfl rfl 1 (by decide) fl_X0_become_15 rfl rfl dX0_become_15 ?_
  refine rn_iconst hx hb 0 rfl dX0_become_18 ?_
  refine lv_aload_n hx hb dX0_become_19 rfl (lv_at hl 0 rfl) ?_
  refine rg (T := TX0) (N := 5) CX hE hW.1 in_X0_become_X0 0 rfl rfl 1 (by decide) fl_X0_become_15 rfl rfl dX0_become_20 ?_
  refine rn_iconst hx hb 0 rfl dX0_become_23 ?_
  refine rn_iconst hx hb 5 rfl dX0_become_24 ?_
  refine rn_copyF (ws' := [(a 6, .inr (0, [.ref (a 7), .ref (a 8), .ref (a 9), .ref (a 10), .int (nI nd)])), (a 7, .inl (cA 0, 5, .inl (fun k => nI (ec k)))), (a 8, .inl (cA 0, 5, .inl (fun k => nI (ep k)))), (a 9, .inl (cA 0, 5, .inl ds)), (a 10, .inl (cA 0, 5, .inl dh)), (b 6, .inr (0, [.ref (b 7), .ref (b 8), .ref (b 9), .ref (b 10), .int (nI nd2)])), (b 7, .inl (cA 0, 5, .inl (fun k => nI (ec k)))), (b 8, .inl (cA 0, 5, .inl (fun k => nI (ep k)))), (b 9, .inl (cA 0, 5, .inl es)), (b 10, .inl (cA 0, 5, .inl eh))]) CX hE hW hl.1 (hts _ w_X0_become_acl28) (hts _ w_X0_become_acn) (hts _ w_X0_become_acs) (hts _ w_X0_become_aci) 7 2 rfl rfl (Nat.le_of_ble_eq_true rfl) (by decide +kernel) (ltb rfl) rfl dX0_become_25 (fun H locs hW => ?_)
  refine lv_aload_n hx hb dX0_become_28 rfl (lv_at hl 1 rfl) ?_
  refine rg (T := TX0) (N := 5) CX hE hW.1 in_X0_become_X0 5 rfl rfl 2 (by decide) fl_X0_become_18 rfl rfl dX0_become_29 ?_
  refine rn_iconst hx hb 0 rfl dX0_become_32 ?_
  refine lv_aload_n hx hb dX0_become_33 rfl (lv_at hl 0 rfl) ?_
  refine rg (T := TX0) (N := 5) CX hE hW.1 in_X0_become_X0 0 rfl rfl 2 (by decide) fl_X0_become_18 rfl rfl dX0_become_34 ?_
  refine rn_iconst hx hb 0 rfl dX0_become_37 ?_
  refine rn_iconst hx hb 5 rfl dX0_become_38 ?_
  refine rn_copyF (ws' := [(a 6, .inr (0, [.ref (a 7), .ref (a 8), .ref (a 9), .ref (a 10), .int (nI nd)])), (a 7, .inl (cA 0, 5, .inl (fun k => nI (ec k)))), (a 8, .inl (cA 0, 5, .inl (fun k => nI (ep k)))), (a 9, .inl (cA 0, 5, .inl es)), (a 10, .inl (cA 0, 5, .inl dh)), (b 6, .inr (0, [.ref (b 7), .ref (b 8), .ref (b 9), .ref (b 10), .int (nI nd2)])), (b 7, .inl (cA 0, 5, .inl (fun k => nI (ec k)))), (b 8, .inl (cA 0, 5, .inl (fun k => nI (ep k)))), (b 9, .inl (cA 0, 5, .inl es)), (b 10, .inl (cA 0, 5, .inl eh))]) CX hE hW hl.1 (hts _ w_X0_become_acl28) (hts _ w_X0_become_acn) (hts _ w_X0_become_acs) (hts _ w_X0_become_aci) 8 3 rfl rfl (Nat.le_of_ble_eq_true rfl) (by decide +kernel) (ltb rfl) rfl dX0_become_39 (fun H locs hW => ?_)
  refine lv_aload_n hx hb dX0_become_42 rfl (lv_at hl 1 rfl) ?_
  refine rg (T := TX0) (N := 5) CX hE hW.1 in_X0_become_X0 5 rfl rfl 3 (by decide) fl_X0_become_21 rfl rfl dX0_become_43 ?_
  refine rn_iconst hx hb 0 rfl dX0_become_46 ?_
  refine lv_aload_n hx hb dX0_become_47 rfl (lv_at hl 0 rfl) ?_
  refine rg (T := TX0) (N := 5) CX hE hW.1 in_X0_become_X0 0 rfl rfl 3 (by decide) fl_X0_become_21 rfl rfl dX0_become_48 ?_
  refine rn_iconst hx hb 0 rfl dX0_become_51 ?_
  refine rn_iconst hx hb 5 rfl dX0_become_52 ?_
  refine rn_copyF (ws' := [(a 6, .inr (0, [.ref (a 7), .ref (a 8), .ref (a 9), .ref (a 10), .int (nI nd)])), (a 7, .inl (cA 0, 5, .inl (fun k => nI (ec k)))), (a 8, .inl (cA 0, 5, .inl (fun k => nI (ep k)))), (a 9, .inl (cA 0, 5, .inl es)), (a 10, .inl (cA 0, 5, .inl eh)), (b 6, .inr (0, [.ref (b 7), .ref (b 8), .ref (b 9), .ref (b 10), .int (nI nd2)])), (b 7, .inl (cA 0, 5, .inl (fun k => nI (ec k)))), (b 8, .inl (cA 0, 5, .inl (fun k => nI (ep k)))), (b 9, .inl (cA 0, 5, .inl es)), (b 10, .inl (cA 0, 5, .inl eh))]) CX hE hW hl.1 (hts _ w_X0_become_acl28) (hts _ w_X0_become_acn) (hts _ w_X0_become_acs) (hts _ w_X0_become_aci) 9 4 rfl rfl (Nat.le_of_ble_eq_true rfl) (by decide +kernel) (ltb rfl) rfl dX0_become_53 (fun H locs hW => ?_)
  refine lv_aload_n hx hb dX0_become_56 rfl (lv_at hl 0 rfl) ?_
  refine lv_aload_n hx hb dX0_become_57 rfl (lv_at hl 1 rfl) ?_
  refine rg (T := TX0) (N := 5) CX hE hW.1 in_X0_become_X0 5 rfl rfl 4 (by decide) fl_X0_become_24 rfl rfl dX0_become_58 ?_
  refine rp (T := TX0) (N := 5) (ws' := [(a 6, .inr (0, [.ref (a 7), .ref (a 8), .ref (a 9), .ref (a 10), .int (nI nd2)])), (a 7, .inl (cA 0, 5, .inl (fun k => nI (ec k)))), (a 8, .inl (cA 0, 5, .inl (fun k => nI (ep k)))), (a 9, .inl (cA 0, 5, .inl es)), (a 10, .inl (cA 0, 5, .inl eh)), (b 6, .inr (0, [.ref (b 7), .ref (b 8), .ref (b 9), .ref (b 10), .int (nI nd2)])), (b 7, .inl (cA 0, 5, .inl (fun k => nI (ec k)))), (b 8, .inl (cA 0, 5, .inl (fun k => nI (ep k)))), (b 9, .inl (cA 0, 5, .inl es)), (b 10, .inl (cA 0, 5, .inl eh))]) CX hE hW in_X0_become_X0 tyX0 tyX0_ok nmX0 0 rfl rfl 4 (by decide) fl_X0_become_24 rfl rfl rfl rfl (Nat.le_of_ble_eq_true rfl) rfl dX0_become_61 (fun H locs hW => ?_)
  exact mu_retv CX hr hlk hW dX0_become_64
theorem fl_X0_beat_24 : Cond.fieldLink RX0 24 RX0 (TX0 4).2.1 (TX0 4).2.2.1 ∈ wsX0_beat := by decide +kernel
theorem in_X0_beat_X0 : ∀ w ∈ wsX00, w ∈ wsX0_beat := by decide +kernel
theorem fl_X0_beat_9 : Cond.fieldLink RX0 9 RX0 (TX0 0).2.1 (TX0 0).2.2.1 ∈ wsX0_beat := by decide +kernel
theorem hdv_X0_isUp : yX0_isUp.cls = RX0 ∧ yX0_isUp.cls ≠ "java/lang/invoke/MethodHandle" ∧ yX0_isUp.cls ≠ "java/lang/invoke/VarHandle" ∧ (parseMethodDescriptor yX0_isUp.desc).map (fun d => d.parameters.length) = some 2 := by decide +kernel
theorem fl_X0_beat_18 : Cond.fieldLink RX0 18 RX0 (TX0 2).2.1 (TX0 2).2.2.1 ∈ wsX0_beat := by decide +kernel
set_option maxHeartbeats 4000000 in
set_option maxRecDepth 100000 in
theorem c_X0_beat (l : Launch) (G : va_G) (cA : Nat → ClassId) (a : Nat → Nat) (nd : Nat) (dc : Nat → Nat) (dp : Nat → Nat) (ds : Nat → Int32) (dh : Nat → Int32) (hh : Nat) (h : Nat → Int32) (t : Nat) (hnd : nd ≤ 5) (hdc : ∀ k, k < nd → dc k < 60 ∧ dp k ≤ 40) : MUv l yX0_beat wsX0_beat ({ frames := 1, cells := 0, slots := 0, locals := 23 }) G cA BM0 [(a 6, .inr (0, [.ref (a 7), .ref (a 8), .ref (a 9), .ref (a 10), .int (nI nd)])), (a 7, .inl (cA 0, 5, .inl (fun k => nI (dc k)))), (a 8, .inl (cA 0, 5, .inl (fun k => nI (dp k)))), (a 9, .inl (cA 0, 5, .inl ds)), (a 10, .inl (cA 0, 5, .inl dh)), (hh, .inl (cA 0, 60, .inl h))] [.ref (a 6), .ref hh, .int (nI t)] [(a 6, .inr (0, [.ref (a 7), .ref (a 8), .ref (a 9), .ref (a 10), .int (nI nd)])), (a 7, .inl (cA 0, 5, .inl (fun k => nI (dc k)))), (a 8, .inl (cA 0, 5, .inl (fun k => nI (dp k)))), (a 9, .inl (cA 0, 5, .inl ds)), (a 10, .inl (cA 0, 5, .inl dh)), (hh, .inl (cA 0, 60, .inl (beatF dc dp ds dh t h nd)))] := by
  refine MUv.mk (own := RX0) (by decide) rfl rfl (Nat.le_of_ble_eq_true rfl) (fun p_ e_ s_ m_ below meth c_ ls A_ CX hr hlk hW hA hE hB hl => ?_)
  obtain ⟨hx, hb, hml, hown, hts⟩ := id CX
  have hl : lv_has ls 4 [(0, .ref (a 6)), (1, .ref hh), (2, .int (nI t))] := hl
  have hW : wld G A_ [(a 6, .inr (0, [.ref (a 7), .ref (a 8), .ref (a 9), .ref (a 10), .int (nI nd)])), (a 7, .inl (cA 0, 5, .inl (fun k => nI (dc k)))), (a 8, .inl (cA 0, 5, .inl (fun k => nI (dp k)))), (a 9, .inl (cA 0, 5, .inl ds)), (a 10, .inl (cA 0, 5, .inl dh)), (hh, .inl (cA 0, 60, .inl h))] s_.heap s_.heap [] := hW
  refine rn_iconst hx hb 0 rfl dX0_beat_0 ?_
  refine lv_istore_n (lv' := [(3, .int (nI 0)), (0, .ref (a 6)), (1, .ref hh), (2, .int (nI t))]) hx hb dX0_beat_1 rfl hl (by decide) rfl (fun ls hl => ?_)
  have LP_2 : ∀ (nn_ : Nat) (i : Nat) (g : Nat → Int32), (nd - i) < nn_ → (i ≤ nd) → (g = beatF dc dp ds dh t h i) → ∀ (H : Heap) (locs : List Loc) (ls : Array Slot), wld G A_ [(a 6, .inr (0, [.ref (a 7), .ref (a 8), .ref (a 9), .ref (a 10), .int (nI nd)])), (a 7, .inl (cA 0, 5, .inl (fun k => nI (dc k)))), (a 8, .inl (cA 0, 5, .inl (fun k => nI (dp k)))), (a 9, .inl (cA 0, 5, .inl ds)), (a 10, .inl (cA 0, 5, .inl dh)), (hh, .inl (cA 0, 60, .inl g))] s_.heap H locs → lv_has ls 4 [(0, .ref (a 6)), (1, .ref hh), (2, .int (nI t)), (3, .int (nI i))] → W p_ l e_ ({ frames := 1, cells := 0, slots := 0, locals := 23 } : Room) s_ m_ ([.ref (a 6), .ref hh, .int (nI t)] : List Value).toArray below meth c_ H locs 0 0 (MQ below (va_Qv (fun _ : Unit => True) (fun _ t_ => va_P G vwCl [(a 6, .inr (0, [.ref (a 7), .ref (a 8), .ref (a 9), .ref (a 10), .int (nI nd)])), (a 7, .inl (cA 0, 5, .inl (fun k => nI (dc k)))), (a 8, .inl (cA 0, 5, .inl (fun k => nI (dp k)))), (a 9, .inl (cA 0, 5, .inl ds)), (a 10, .inl (cA 0, 5, .inl dh)), (hh, .inl (cA 0, 60, .inl (beatF dc dp ds dh t h nd)))] t_.heap ∧ va_D A_ [(a 6, .inr (0, [.ref (a 7), .ref (a 8), .ref (a 9), .ref (a 10), .int (nI nd)])), (a 7, .inl (cA 0, 5, .inl (fun k => nI (dc k)))), (a 8, .inl (cA 0, 5, .inl (fun k => nI (dp k)))), (a 9, .inl (cA 0, 5, .inl ds)), (a 10, .inl (cA 0, 5, .inl dh)), (hh, .inl (cA 0, 60, .inl (beatF dc dp ds dh t h nd)))]) A_) ([.ref (a 6), .ref hh, .int (nI t)] : List Value).toArray s_ 0 0 A_) (F0 m_ 2 ls []) := by
    intro nn_
    induction nn_ with
    | zero => intro i g hmu; exact absurd hmu (Nat.not_lt_zero _)
    | succ nn_ ih =>
      have ih_2 := ih
      clear ih
      intro i g hmu_2 hi hg H locs ls hW hl
      refine lv_iload_n hx hb dX0_beat_2 rfl (lv_at hl 3 rfl) ?_
      refine lv_aload_n hx hb dX0_beat_3 rfl (lv_at hl 0 rfl) ?_
      refine rg (T := TX0) (N := 5) CX hE hW.1 in_X0_beat_X0 0 rfl rfl 4 (by decide) fl_X0_beat_24 rfl rfl dX0_beat_4 ?_
      refine rn_icmp_ge hx hb (by omega) (by omega) dX0_beat_7 (by decide) (tgt := 49) (fun c_7 => ?_) (fun c_7 => ?_)
      · have hW := hW.ext (ws' := [(a 6, .inr (0, [.ref (a 7), .ref (a 8), .ref (a 9), .ref (a 10), .int (nI nd)])), (a 7, .inl (cA 0, 5, .inl (fun k => nI (dc k)))), (a 8, .inl (cA 0, 5, .inl (fun k => nI (dp k)))), (a 9, .inl (cA 0, 5, .inl ds)), (a 10, .inl (cA 0, 5, .inl dh)), (hh, .inl (cA 0, 60, .inl (beatF dc dp ds dh t h nd)))]) 5 (g := (beatF dc dp ds dh t h nd)) rfl (fun j _ => by rw [hg, show i = nd by omega]) rfl
        exact mu_retv CX hr hlk hW dX0_beat_49
      · have hdk := hdc i (by omega)
        refine lv_aload_n hx hb dX0_beat_10 rfl (lv_at hl 1 rfl) ?_
        refine lv_aload_n hx hb dX0_beat_11 rfl (lv_at hl 0 rfl) ?_
        refine rg (T := TX0) (N := 5) CX hE hW.1 in_X0_beat_X0 0 rfl rfl 0 (by decide) fl_X0_beat_9 rfl rfl dX0_beat_12 ?_
        refine lv_iload_n hx hb dX0_beat_15 rfl (lv_at hl 3 rfl) ?_
        refine rn_iald CX hE hW.1 1 rfl (j := i) (by omega) (ltb rfl) dX0_beat_16 ?_
        refine lv_aload_n hx hb dX0_beat_17 rfl (lv_at hl 0 rfl) ?_
        refine lv_iload_n hx hb dX0_beat_18 rfl (lv_at hl 3 rfl) ?_
        refine lv_iload_n hx hb dX0_beat_19 rfl (lv_at hl 2 rfl) ?_
        refine roV CX hE hW.1 (c_X0_isUp l G cA a nd dp dh i t (by omega) (by omega)) (cwV 2 hts gX0_beat_X0_isUp rfl rfl rfl hdv_X0_isUp ⟨Nat.le_of_ble_eq_true rfl, Nat.le_of_ble_eq_true rfl⟩) [0, 2, 4] rfl 0 rfl rfl rfl B0_blind (fun _ _ _ => trivial) rfl hl.1 (rest := [.int (nI (dc i)), .ref hh]) rfl (Nat.le_of_ble_eq_true rfl) dX0_beat_20 ⟨Nat.zero_le _, Nat.zero_le _⟩ ?_
        have J_42 : ∀ v : Int32, v = (if upP dp dh t i then ds i else -ds i) → W p_ l e_ ({ frames := 1, cells := 0, slots := 0, locals := 23 } : Room) s_ m_ ([.ref (a 6), .ref hh, .int (nI t)] : List Value).toArray below meth c_ H locs 0 0 (MQ below (va_Qv (fun _ : Unit => True) (fun _ t_ => va_P G vwCl [(a 6, .inr (0, [.ref (a 7), .ref (a 8), .ref (a 9), .ref (a 10), .int (nI nd)])), (a 7, .inl (cA 0, 5, .inl (fun k => nI (dc k)))), (a 8, .inl (cA 0, 5, .inl (fun k => nI (dp k)))), (a 9, .inl (cA 0, 5, .inl ds)), (a 10, .inl (cA 0, 5, .inl dh)), (hh, .inl (cA 0, 60, .inl (beatF dc dp ds dh t h nd)))] t_.heap ∧ va_D A_ [(a 6, .inr (0, [.ref (a 7), .ref (a 8), .ref (a 9), .ref (a 10), .int (nI nd)])), (a 7, .inl (cA 0, 5, .inl (fun k => nI (dc k)))), (a 8, .inl (cA 0, 5, .inl (fun k => nI (dp k)))), (a 9, .inl (cA 0, 5, .inl ds)), (a 10, .inl (cA 0, 5, .inl dh)), (hh, .inl (cA 0, 60, .inl (beatF dc dp ds dh t h nd)))]) A_) ([.ref (a 6), .ref hh, .int (nI t)] : List Value).toArray s_ 0 0 A_) (F0 m_ 42 ls [.int v, .int (nI (dc i)), .ref hh]) := by
          intro v hv
          subst hv
          refine rn_iast (ws' := [(a 6, .inr (0, [.ref (a 7), .ref (a 8), .ref (a 9), .ref (a 10), .int (nI nd)])), (a 7, .inl (cA 0, 5, .inl (fun k => nI (dc k)))), (a 8, .inl (cA 0, 5, .inl (fun k => nI (dp k)))), (a 9, .inl (cA 0, 5, .inl ds)), (a 10, .inl (cA 0, 5, .inl dh)), (hh, .inl (cA 0, 60, .inl (upd g (dc i) (if upP dp dh t i then ds i else -ds i))))]) CX hE hW 5 rfl (j := (dc i)) (by omega) (ltb rfl) rfl dX0_beat_42 (fun H locs hW => ?_)
          refine rn_iinc hx hb (n := 1) (lv' := [(3, .int (nI (i + 1))), (0, .ref (a 6)), (1, .ref hh), (2, .int (nI t))]) rfl dX0_beat_43 hl (k := 3) rfl (by decide) rfl (fun ls hl => ?_)
          refine lv_goto (tgt := 2) hx hb dX0_beat_46 (by decide) ?_
          exact ih_2 (i + 1) (upd g (dc i) (if upP dp dh t i then ds i else -ds i)) (by omega) (by omega) (by rw [hg]; rfl) _ _ ls hW (lv_sub hl [1, 2, 3, 0] rfl)
        refine rb_if_eq hx hb dX0_beat_23 (by decide) (tgt := 35) (fun c_23 => ?_) (fun c_23 => ?_)
        · refine lv_aload_n hx hb dX0_beat_35 rfl (lv_at hl 0 rfl) ?_
          refine rg (T := TX0) (N := 5) CX hE hW.1 in_X0_beat_X0 0 rfl rfl 2 (by decide) fl_X0_beat_18 rfl rfl dX0_beat_36 ?_
          refine lv_iload_n hx hb dX0_beat_39 rfl (lv_at hl 3 rfl) ?_
          refine rn_iald CX hE hW.1 3 rfl (j := i) (by omega) (ltb rfl) dX0_beat_40 ?_
          refine lv_ineg hx hb dX0_beat_41 ?_
          exact J_42 _ (by first | exact (if_pos c_23).symm | exact (if_neg c_23).symm)
        · refine lv_aload_n hx hb dX0_beat_26 rfl (lv_at hl 0 rfl) ?_
          refine rg (T := TX0) (N := 5) CX hE hW.1 in_X0_beat_X0 0 rfl rfl 2 (by decide) fl_X0_beat_18 rfl rfl dX0_beat_27 ?_
          refine lv_iload_n hx hb dX0_beat_30 rfl (lv_at hl 3 rfl) ?_
          refine rn_iald CX hE hW.1 3 rfl (j := i) (by omega) (ltb rfl) dX0_beat_31 ?_
          refine lv_goto (tgt := 42) hx hb dX0_beat_32 (by decide) ?_
          exact J_42 _ (by first | exact (if_pos c_23).symm | exact (if_neg c_23).symm)
  exact LP_2 _ 0 h (Nat.lt_succ_self _) (Nat.zero_le _) rfl _ _ ls hW (lv_sub hl [1, 2, 3, 0] rfl)
theorem fl_X4_lay_23 : Cond.fieldLink RX4 23 RX4 (TX4 1).2.1 (TX4 1).2.2.1 ∈ wsX4_lay := by decide +kernel
theorem in_X4_lay_X4 : ∀ w ∈ wsX40, w ∈ wsX4_lay := by decide +kernel
theorem fl_X4_lay_26 : Cond.fieldLink RX4 26 RX4 (TX4 2).2.1 (TX4 2).2.2.1 ∈ wsX4_lay := by decide +kernel
theorem fl_X4_lay_29 : Cond.fieldLink RX4 29 RX4 (TX4 3).2.1 (TX4 3).2.2.1 ∈ wsX4_lay := by decide +kernel
set_option maxHeartbeats 4000000 in
set_option maxRecDepth 100000 in
theorem c_X4_lay (l : Launch) (G : va_G) (cA : Nat → ClassId) (a : Nat → Nat) (tk : Nat) (fl : Nat → Int32) (h : Nat → Int32) (ah : Nat → Int32) (i : Nat) (f : Int32) (hi : i < 60) : MUv l yX4_lay wsX4_lay ({ frames := 0, cells := 0, slots := 0, locals := 0 }) G cA BM0 [(a 0, .inr (4, [.ref (a 1), .ref (a 2), .ref (a 3), .ref (a 4), .ref (a 5), .ref (a 6), .ref (a 11), .int (nI tk)])), (a 2, .inl (cA 0, 60, .inl fl)), (a 3, .inl (cA 0, 60, .inl h)), (a 4, .inl (cA 0, 60, .inl ah))] [.ref (a 0), .int (nI i), .int f] [(a 0, .inr (4, [.ref (a 1), .ref (a 2), .ref (a 3), .ref (a 4), .ref (a 5), .ref (a 6), .ref (a 11), .int (nI tk)])), (a 2, .inl (cA 0, 60, .inl (upd fl i f))), (a 3, .inl (cA 0, 60, .inl (if f = nI 2 then upd h i (nI 0) else h))), (a 4, .inl (cA 0, 60, .inl (if f = nI 2 then upd ah i (nI 0) else ah)))] := by
  refine MUv.mk (own := RX4) (by decide) rfl rfl (Nat.le_of_ble_eq_true rfl) (fun p_ e_ s_ m_ below meth c_ ls A_ CX hr hlk hW hA hE hB hl => ?_)
  obtain ⟨hx, hb, hml, hown, hts⟩ := id CX
  have hl : lv_has ls 3 [(0, .ref (a 0)), (1, .int (nI i)), (2, .int f)] := hl
  have hW : wld G A_ [(a 0, .inr (4, [.ref (a 1), .ref (a 2), .ref (a 3), .ref (a 4), .ref (a 5), .ref (a 6), .ref (a 11), .int (nI tk)])), (a 2, .inl (cA 0, 60, .inl fl)), (a 3, .inl (cA 0, 60, .inl h)), (a 4, .inl (cA 0, 60, .inl ah))] s_.heap s_.heap [] := hW
  refine lv_aload_n hx hb dX4_lay_0 rfl (lv_at hl 0 rfl) ?_
  refine rg (T := TX4) (N := 8) CX hE hW.1 in_X4_lay_X4 0 rfl rfl 1 (by decide) fl_X4_lay_23 rfl rfl dX4_lay_1 ?_
  refine lv_iload_n hx hb dX4_lay_4 rfl (lv_at hl 1 rfl) ?_
  refine lv_iload_n hx hb dX4_lay_5 rfl (lv_at hl 2 rfl) ?_
  refine rn_iast (ws' := [(a 0, .inr (4, [.ref (a 1), .ref (a 2), .ref (a 3), .ref (a 4), .ref (a 5), .ref (a 6), .ref (a 11), .int (nI tk)])), (a 2, .inl (cA 0, 60, .inl (upd fl i f))), (a 3, .inl (cA 0, 60, .inl h)), (a 4, .inl (cA 0, 60, .inl ah))]) CX hE hW 1 rfl (j := i) (by omega) (ltb rfl) rfl dX4_lay_6 (fun H locs hW => ?_)
  refine lv_iload_n hx hb dX4_lay_7 rfl (lv_at hl 2 rfl) ?_
  refine rn_iconst hx hb 2 rfl dX4_lay_8 ?_
  refine lv_icmp_ne hx hb dX4_lay_9 (by decide) (tgt := 26) (fun c_9 => ?_) (fun c_9 => ?_)
  · have hW := hW.ext (ws' := [(a 0, .inr (4, [.ref (a 1), .ref (a 2), .ref (a 3), .ref (a 4), .ref (a 5), .ref (a 6), .ref (a 11), .int (nI tk)])), (a 2, .inl (cA 0, 60, .inl (upd fl i f))), (a 3, .inl (cA 0, 60, .inl (if f = nI 2 then upd h i (nI 0) else h))), (a 4, .inl (cA 0, 60, .inl ah))]) 2 (g := (if f = nI 2 then upd h i (nI 0) else h)) rfl (fun _ _ => by first | rw [if_pos c_9] | rw [if_neg c_9]) rfl
    have hW := hW.ext (ws' := [(a 0, .inr (4, [.ref (a 1), .ref (a 2), .ref (a 3), .ref (a 4), .ref (a 5), .ref (a 6), .ref (a 11), .int (nI tk)])), (a 2, .inl (cA 0, 60, .inl (upd fl i f))), (a 3, .inl (cA 0, 60, .inl (if f = nI 2 then upd h i (nI 0) else h))), (a 4, .inl (cA 0, 60, .inl (if f = nI 2 then upd ah i (nI 0) else ah)))]) 3 (g := (if f = nI 2 then upd ah i (nI 0) else ah)) rfl (fun _ _ => by first | rw [if_pos c_9] | rw [if_neg c_9]) rfl
    exact mu_retv CX hr hlk hW dX4_lay_26
  · refine lv_aload_n hx hb dX4_lay_12 rfl (lv_at hl 0 rfl) ?_
    refine rg (T := TX4) (N := 8) CX hE hW.1 in_X4_lay_X4 0 rfl rfl 2 (by decide) fl_X4_lay_26 rfl rfl dX4_lay_13 ?_
    refine lv_iload_n hx hb dX4_lay_16 rfl (lv_at hl 1 rfl) ?_
    refine rn_iconst hx hb 0 rfl dX4_lay_17 ?_
    refine rn_iast (ws' := [(a 0, .inr (4, [.ref (a 1), .ref (a 2), .ref (a 3), .ref (a 4), .ref (a 5), .ref (a 6), .ref (a 11), .int (nI tk)])), (a 2, .inl (cA 0, 60, .inl (upd fl i f))), (a 3, .inl (cA 0, 60, .inl (upd h i (nI 0)))), (a 4, .inl (cA 0, 60, .inl ah))]) CX hE hW 2 rfl (j := i) (by omega) (ltb rfl) rfl dX4_lay_18 (fun H locs hW => ?_)
    refine lv_aload_n hx hb dX4_lay_19 rfl (lv_at hl 0 rfl) ?_
    refine rg (T := TX4) (N := 8) CX hE hW.1 in_X4_lay_X4 0 rfl rfl 3 (by decide) fl_X4_lay_29 rfl rfl dX4_lay_20 ?_
    refine lv_iload_n hx hb dX4_lay_23 rfl (lv_at hl 1 rfl) ?_
    refine rn_iconst hx hb 0 rfl dX4_lay_24 ?_
    refine rn_iast (ws' := [(a 0, .inr (4, [.ref (a 1), .ref (a 2), .ref (a 3), .ref (a 4), .ref (a 5), .ref (a 6), .ref (a 11), .int (nI tk)])), (a 2, .inl (cA 0, 60, .inl (upd fl i f))), (a 3, .inl (cA 0, 60, .inl (upd h i (nI 0)))), (a 4, .inl (cA 0, 60, .inl (upd ah i (nI 0))))]) CX hE hW 3 rfl (j := i) (by omega) (ltb rfl) rfl dX4_lay_25 (fun H locs hW => ?_)
    have hW := hW.ext (ws' := [(a 0, .inr (4, [.ref (a 1), .ref (a 2), .ref (a 3), .ref (a 4), .ref (a 5), .ref (a 6), .ref (a 11), .int (nI tk)])), (a 2, .inl (cA 0, 60, .inl (upd fl i f))), (a 3, .inl (cA 0, 60, .inl (if f = nI 2 then upd h i (nI 0) else h))), (a 4, .inl (cA 0, 60, .inl (upd ah i (nI 0))))]) 2 (g := (if f = nI 2 then upd h i (nI 0) else h)) rfl (fun _ _ => by first | rw [if_pos c_9] | rw [if_neg c_9]) rfl
    have hW := hW.ext (ws' := [(a 0, .inr (4, [.ref (a 1), .ref (a 2), .ref (a 3), .ref (a 4), .ref (a 5), .ref (a 6), .ref (a 11), .int (nI tk)])), (a 2, .inl (cA 0, 60, .inl (upd fl i f))), (a 3, .inl (cA 0, 60, .inl (if f = nI 2 then upd h i (nI 0) else h))), (a 4, .inl (cA 0, 60, .inl (if f = nI 2 then upd ah i (nI 0) else ah)))]) 3 (g := (if f = nI 2 then upd ah i (nI 0) else ah)) rfl (fun _ _ => by first | rw [if_pos c_9] | rw [if_neg c_9]) rfl
    exact mu_retv CX hr hlk hW dX4_lay_26
theorem fl_X4_keepFirsts_32 : Cond.fieldLink RX4 32 RX4 (TX4 4).2.1 (TX4 4).2.2.1 ∈ wsX4_keepFirsts := by decide +kernel
theorem in_X4_keepFirsts_X4 : ∀ w ∈ wsX40, w ∈ wsX4_keepFirsts := by decide +kernel
theorem fl_X4_keepFirsts_18 : Cond.fieldLink RX4 18 RX4 (TX4 0).2.1 (TX4 0).2.2.1 ∈ wsX4_keepFirsts := by decide +kernel
theorem fl_X4_keepFirsts_49 : Cond.fieldLink RX4 49 RX4 (TX4 7).2.1 (TX4 7).2.2.1 ∈ wsX4_keepFirsts := by decide +kernel
set_option maxHeartbeats 4000000 in
set_option maxRecDepth 100000 in
theorem c_X4_keepFirsts (l : Launch) (G : va_G) (cA : Nat → ClassId) (a : Nat → Nat) (tk : Nat) (st : Nat → Int32) (h : Nat → Int32) (fi : Nat → Int32)  : MUv l yX4_keepFirsts wsX4_keepFirsts ({ frames := 2, cells := 0, slots := 0, locals := 45 }) G cA BM0 [(a 0, .inr (4, [.ref (a 1), .ref (a 2), .ref (a 3), .ref (a 4), .ref (a 5), .ref (a 6), .ref (a 11), .int (nI tk)])), (a 1, .inl (cA 0, 4, .inl st)), (a 3, .inl (cA 0, 60, .inl h)), (a 5, .inl (cA 0, 60, .inl fi))] [.ref (a 0)] [(a 0, .inr (4, [.ref (a 1), .ref (a 2), .ref (a 3), .ref (a 4), .ref (a 5), .ref (a 6), .ref (a 11), .int (nI tk)])), (a 1, .inl (cA 0, 4, .inl st)), (a 3, .inl (cA 0, 60, .inl h)), (a 5, .inl (cA 0, 60, .inl (kfF st h fi tk)))] := by
  refine MUv.mk (own := RX4) (by decide) rfl rfl (Nat.le_of_ble_eq_true rfl) (fun p_ e_ s_ m_ below meth c_ ls A_ CX hr hlk hW hA hE hB hl => ?_)
  obtain ⟨hx, hb, hml, hown, hts⟩ := id CX
  have hl : lv_has ls 2 [(0, .ref (a 0))] := hl
  have hW : wld G A_ [(a 0, .inr (4, [.ref (a 1), .ref (a 2), .ref (a 3), .ref (a 4), .ref (a 5), .ref (a 6), .ref (a 11), .int (nI tk)])), (a 1, .inl (cA 0, 4, .inl st)), (a 3, .inl (cA 0, 60, .inl h)), (a 5, .inl (cA 0, 60, .inl fi))] s_.heap s_.heap [] := hW
  refine rn_iconst hx hb 0 rfl dX4_keepFirsts_0 ?_
  refine lv_istore_n (lv' := [(1, .int (nI 0)), (0, .ref (a 0))]) hx hb dX4_keepFirsts_1 rfl hl (by decide) rfl (fun ls hl => ?_)
  have LP_2 : ∀ (nn_ : Nat) (i : Nat) (g : Nat → Int32), (60 - i) < nn_ → (i ≤ 60) → (∀ j, g j = if j < i then kfF st h fi tk j else fi j) → ∀ (H : Heap) (locs : List Loc) (ls : Array Slot), wld G A_ [(a 0, .inr (4, [.ref (a 1), .ref (a 2), .ref (a 3), .ref (a 4), .ref (a 5), .ref (a 6), .ref (a 11), .int (nI tk)])), (a 1, .inl (cA 0, 4, .inl st)), (a 3, .inl (cA 0, 60, .inl h)), (a 5, .inl (cA 0, 60, .inl g))] s_.heap H locs → lv_has ls 2 [(0, .ref (a 0)), (1, .int (nI i))] → W p_ l e_ ({ frames := 2, cells := 0, slots := 0, locals := 45 } : Room) s_ m_ ([.ref (a 0)] : List Value).toArray below meth c_ H locs 0 0 (MQ below (va_Qv (fun _ : Unit => True) (fun _ t_ => va_P G vwCl [(a 0, .inr (4, [.ref (a 1), .ref (a 2), .ref (a 3), .ref (a 4), .ref (a 5), .ref (a 6), .ref (a 11), .int (nI tk)])), (a 1, .inl (cA 0, 4, .inl st)), (a 3, .inl (cA 0, 60, .inl h)), (a 5, .inl (cA 0, 60, .inl (kfF st h fi tk)))] t_.heap ∧ va_D A_ [(a 0, .inr (4, [.ref (a 1), .ref (a 2), .ref (a 3), .ref (a 4), .ref (a 5), .ref (a 6), .ref (a 11), .int (nI tk)])), (a 1, .inl (cA 0, 4, .inl st)), (a 3, .inl (cA 0, 60, .inl h)), (a 5, .inl (cA 0, 60, .inl (kfF st h fi tk)))]) A_) ([.ref (a 0)] : List Value).toArray s_ 0 0 A_) (F0 m_ 2 ls []) := by
    intro nn_
    induction nn_ with
    | zero => intro i g hmu; exact absurd hmu (Nat.not_lt_zero _)
    | succ nn_ ih =>
      have ih_2 := ih
      clear ih
      intro i g hmu_2 hi hg H locs ls hW hl
      refine lv_iload_n hx hb dX4_keepFirsts_2 rfl (lv_at hl 1 rfl) ?_
      refine lv_bipush (v := (nI 60)) hx hb dX4_keepFirsts_3 kb_60 ?_
      refine rn_icmp_ge hx hb (by omega) (by omega) dX4_keepFirsts_5 (by decide) (tgt := 49) (fun c_5 => ?_) (fun c_5 => ?_)
      · have hW := hW.ext (ws' := [(a 0, .inr (4, [.ref (a 1), .ref (a 2), .ref (a 3), .ref (a 4), .ref (a 5), .ref (a 6), .ref (a 11), .int (nI tk)])), (a 1, .inl (cA 0, 4, .inl st)), (a 3, .inl (cA 0, 60, .inl h)), (a 5, .inl (cA 0, 60, .inl (kfF st h fi tk)))]) 3 (g := (kfF st h fi tk)) rfl (fun j hj => by rw [hg j, if_pos (by omega)]) rfl
        exact mu_retv CX hr hlk hW dX4_keepFirsts_49
      · refine lv_aload_n hx hb dX4_keepFirsts_8 rfl (lv_at hl 0 rfl) ?_
        refine rg (T := TX4) (N := 8) CX hE hW.1 in_X4_keepFirsts_X4 0 rfl rfl 4 (by decide) fl_X4_keepFirsts_32 rfl rfl dX4_keepFirsts_9 ?_
        refine lv_iload_n hx hb dX4_keepFirsts_12 rfl (lv_at hl 1 rfl) ?_
        refine rn_iald CX hE hW.1 3 rfl (j := i) (by omega) (ltb rfl) dX4_keepFirsts_13 ?_
        refine lv_bipush (v := (-6)) hx hb dX4_keepFirsts_14 kb_m6 ?_
        refine lv_icmp_ne hx hb dX4_keepFirsts_16 (by decide) (tgt := 43) (fun c_16 => ?_) (fun c_16 => ?_)
        · refine rn_iinc hx hb (n := 1) (lv' := [(1, .int (nI (i + 1))), (0, .ref (a 0))]) rfl dX4_keepFirsts_43 hl (k := 1) rfl (by decide) rfl (fun ls hl => ?_)
          refine lv_goto (tgt := 2) hx hb dX4_keepFirsts_46 (by decide) ?_
          exact ih_2 (i + 1) g (by omega) (by omega) (by have ge : g i = fi i := by {rw [hg i, if_neg (Nat.lt_irrefl i)]}; first | exact kf_put hg ⟨by rw [← ge]; exact c_16, by grind⟩ | exact kf_keep hg (fun z => c_16 (by rw [ge]; exact z.1)) | exact kf_keep hg (fun z => absurd z.2 (Int32.not_lt.mpr c_30))) _ _ ls hW (lv_sub hl [1, 0] rfl)
        · refine lv_aload_n hx hb dX4_keepFirsts_19 rfl (lv_at hl 0 rfl) ?_
          refine lv_iload_n hx hb dX4_keepFirsts_20 rfl (lv_at hl 1 rfl) ?_
          refine roV CX hE hW.1 (c_X4_loudnessOf l G cA a tk h i (by omega)) (cwV 1 hts gX4_keepFirsts_X4_loudnessOf rfl rfl rfl hdv_X4_loudnessOf ⟨Nat.le_of_ble_eq_true rfl, Nat.le_of_ble_eq_true rfl⟩) [0, 2] rfl 0 rfl rfl rfl B0_blind (fun _ _ _ => trivial) rfl hl.1 (rest := []) rfl (Nat.le_of_ble_eq_true rfl) dX4_keepFirsts_21 ⟨Nat.zero_le _, Nat.zero_le _⟩ ?_
          refine lv_aload_n hx hb dX4_keepFirsts_24 rfl (lv_at hl 0 rfl) ?_
          refine rg (T := TX4) (N := 8) CX hE hW.1 in_X4_keepFirsts_X4 0 rfl rfl 0 (by decide) fl_X4_keepFirsts_18 rfl rfl dX4_keepFirsts_25 ?_
          refine rn_iconst hx hb 3 rfl dX4_keepFirsts_28 ?_
          refine rn_iald CX hE hW.1 1 rfl (j := 3) (by omega) (ltb rfl) dX4_keepFirsts_29 ?_
          refine lv_icmp_le hx hb dX4_keepFirsts_30 (by decide) (tgt := 43) (fun c_30 => ?_) (fun c_30 => ?_)
          · refine rn_iinc hx hb (n := 1) (lv' := [(1, .int (nI (i + 1))), (0, .ref (a 0))]) rfl dX4_keepFirsts_43 hl (k := 1) rfl (by decide) rfl (fun ls hl => ?_)
            refine lv_goto (tgt := 2) hx hb dX4_keepFirsts_46 (by decide) ?_
            exact ih_2 (i + 1) g (by omega) (by omega) (by have ge : g i = fi i := by {rw [hg i, if_neg (Nat.lt_irrefl i)]}; first | exact kf_put hg ⟨by rw [← ge]; exact c_16, by grind⟩ | exact kf_keep hg (fun z => c_16 (by rw [ge]; exact z.1)) | exact kf_keep hg (fun z => absurd z.2 (Int32.not_lt.mpr c_30))) _ _ ls hW (lv_sub hl [1, 0] rfl)
          · refine lv_aload_n hx hb dX4_keepFirsts_33 rfl (lv_at hl 0 rfl) ?_
            refine rg (T := TX4) (N := 8) CX hE hW.1 in_X4_keepFirsts_X4 0 rfl rfl 4 (by decide) fl_X4_keepFirsts_32 rfl rfl dX4_keepFirsts_34 ?_
            refine lv_iload_n hx hb dX4_keepFirsts_37 rfl (lv_at hl 1 rfl) ?_
            refine lv_aload_n hx hb dX4_keepFirsts_38 rfl (lv_at hl 0 rfl) ?_
            refine rg (T := TX4) (N := 8) CX hE hW.1 in_X4_keepFirsts_X4 0 rfl rfl 7 (by decide) fl_X4_keepFirsts_49 rfl rfl dX4_keepFirsts_39 ?_
            refine rn_iast (ws' := [(a 0, .inr (4, [.ref (a 1), .ref (a 2), .ref (a 3), .ref (a 4), .ref (a 5), .ref (a 6), .ref (a 11), .int (nI tk)])), (a 1, .inl (cA 0, 4, .inl st)), (a 3, .inl (cA 0, 60, .inl h)), (a 5, .inl (cA 0, 60, .inl (upd g i (nI tk))))]) CX hE hW 3 rfl (j := i) (by omega) (ltb rfl) rfl dX4_keepFirsts_42 (fun H locs hW => ?_)
            refine rn_iinc hx hb (n := 1) (lv' := [(1, .int (nI (i + 1))), (0, .ref (a 0))]) rfl dX4_keepFirsts_43 hl (k := 1) rfl (by decide) rfl (fun ls hl => ?_)
            refine lv_goto (tgt := 2) hx hb dX4_keepFirsts_46 (by decide) ?_
            exact ih_2 (i + 1) (upd g i (nI tk)) (by omega) (by omega) (by have ge : g i = fi i := by {rw [hg i, if_neg (Nat.lt_irrefl i)]}; first | exact kf_put hg ⟨by rw [← ge]; exact c_16, by grind⟩ | exact kf_keep hg (fun z => c_16 (by rw [ge]; exact z.1)) | exact kf_keep hg (fun z => absurd z.2 (Int32.not_lt.mpr c_30))) _ _ ls hW (lv_sub hl [1, 0] rfl)
  exact LP_2 _ 0 fi (Nat.lt_succ_self _) (by omega) (fun j => (if_neg (Nat.not_lt_zero _)).symm) _ _ ls hW (lv_sub hl [1, 0] rfl)
