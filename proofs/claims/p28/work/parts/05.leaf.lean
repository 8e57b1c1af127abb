set_option maxHeartbeats 4000000 in
set_option maxRecDepth 100000 in
/-- isIn: whether it lies between -/
theorem c_X5_isIn (l : Launch) (G : va_G) (cA : Nat → ClassId) (v : Int32) (lo : Int32) (hi : Int32)  : RO l yX5_isIn wsX5_isIn ({ frames := 0, cells := 0, slots := 0, locals := 0 }) G cA B0 [] [.int v, .int lo, .int hi] (b2i (inP v lo hi)) := by
  refine RO.mk (own := RX5) (by decide) rfl rfl (Nat.le_of_ble_eq_true rfl) (fun p_ e_ s_ m_ below meth c_ ls CX hr hlk hP hE hB hl => ?_)
  obtain ⟨hx, hb, hml, hown, hts⟩ := id CX
  have hl : lv_has ls 3 [(0, .int v), (1, .int lo), (2, .int hi)] := hl
  refine lv_iload_n hx hb dX5_isIn_0 rfl (lv_at hl 0 rfl) ?_
  refine lv_iload_n hx hb dX5_isIn_1 rfl (lv_at hl 1 rfl) ?_
  refine lv_icmp_lt hx hb dX5_isIn_2 (by decide) (tgt := 14) (fun c_2 => ?_) (fun c_2 => ?_)
  · refine rn_iconst hx hb 0 rfl dX5_isIn_14 ?_
    exact ro_ret CX hr hlk (by first | exact b2i_t (by grind) | exact b2i_f (by grind)) rfl dX5_isIn_15
  · refine lv_iload_n hx hb dX5_isIn_5 rfl (lv_at hl 0 rfl) ?_
    refine lv_iload_n hx hb dX5_isIn_6 rfl (lv_at hl 2 rfl) ?_
    refine lv_icmp_gt hx hb dX5_isIn_7 (by decide) (tgt := 14) (fun c_7 => ?_) (fun c_7 => ?_)
    · refine rn_iconst hx hb 0 rfl dX5_isIn_14 ?_
      exact ro_ret CX hr hlk (by first | exact b2i_t (by grind) | exact b2i_f (by grind)) rfl dX5_isIn_15
    · refine rn_iconst hx hb 1 rfl dX5_isIn_10 ?_
      refine lv_goto (tgt := 15) hx hb dX5_isIn_11 (by decide) ?_
      exact ro_ret CX hr hlk (by first | exact b2i_t (by grind) | exact b2i_f (by grind)) rfl dX5_isIn_15
theorem kb_9 : (Int8.ofInt (9)).toInt32 = (nI 9) := by decide +kernel
theorem hdn_X5_isIn : yX5_isIn.cls ≠ "java/lang/invoke/MethodHandle" ∧ yX5_isIn.cls ≠ "java/lang/invoke/VarHandle" ∧ (parseMethodDescriptor yX5_isIn.desc).map (fun d => d.parameters.length) = some 3 := by decide +kernel
set_option maxHeartbeats 4000000 in
set_option maxRecDepth 100000 in
/-- isCell -/
theorem c_X5_isCell (l : Launch) (G : va_G) (cA : Nat → ClassId) (x : Int32) (y : Int32)  : RO l yX5_isCell wsX5_isCell ({ frames := 1, cells := 0, slots := 0, locals := 22 }) G cA B0 [] [.int x, .int y] (b2i (cellP x y)) := by
  refine RO.mk (own := RX5) (by decide) rfl rfl (Nat.le_of_ble_eq_true rfl) (fun p_ e_ s_ m_ below meth c_ ls CX hr hlk hP hE hB hl => ?_)
  obtain ⟨hx, hb, hml, hown, hts⟩ := id CX
  have hl : lv_has ls 2 [(0, .int x), (1, .int y)] := hl
  refine lv_iload_n hx hb dX5_isCell_0 rfl (lv_at hl 0 rfl) ?_
  refine rn_iconst hx hb 0 rfl dX5_isCell_1 ?_
  refine lv_bipush (v := (nI 9)) hx hb dX5_isCell_2 kb_9 ?_
  refine roS CX hE hP (c_X5_isIn l G cA x (nI 0) (nI 9) ) (va_cwS 3 hts gX5_isCell_X5_isIn rfl rfl rfl hdn_X5_isIn ⟨Nat.le_of_ble_eq_true rfl, Nat.le_of_ble_eq_true rfl⟩) [] rfl B0_blind (fun _ _ _ => trivial) rfl hl.1 (rest := []) rfl (Nat.le_of_ble_eq_true rfl) dX5_isCell_4 ⟨Nat.zero_le _, Nat.zero_le _⟩ ?_
  refine rb_if_eq hx hb dX5_isCell_7 (by decide) (tgt := 23) (fun c_7 => ?_) (fun c_7 => ?_)
  · refine rn_iconst hx hb 0 rfl dX5_isCell_23 ?_
    exact ro_ret CX hr hlk (by first | exact b2i_t (by grind) | exact b2i_f (by grind)) rfl dX5_isCell_24
  · refine lv_iload_n hx hb dX5_isCell_10 rfl (lv_at hl 1 rfl) ?_
    refine rn_iconst hx hb 0 rfl dX5_isCell_11 ?_
    refine rn_iconst hx hb 5 rfl dX5_isCell_12 ?_
    refine roS CX hE hP (c_X5_isIn l G cA y (nI 0) (nI 5) ) (va_cwS 3 hts gX5_isCell_X5_isIn rfl rfl rfl hdn_X5_isIn ⟨Nat.le_of_ble_eq_true rfl, Nat.le_of_ble_eq_true rfl⟩) [] rfl B0_blind (fun _ _ _ => trivial) rfl hl.1 (rest := []) rfl (Nat.le_of_ble_eq_true rfl) dX5_isCell_13 ⟨Nat.zero_le _, Nat.zero_le _⟩ ?_
    refine rb_if_eq hx hb dX5_isCell_16 (by decide) (tgt := 23) (fun c_16 => ?_) (fun c_16 => ?_)
    · refine rn_iconst hx hb 0 rfl dX5_isCell_23 ?_
      exact ro_ret CX hr hlk (by first | exact b2i_t (by grind) | exact b2i_f (by grind)) rfl dX5_isCell_24
    · refine rn_iconst hx hb 1 rfl dX5_isCell_19 ?_
      refine lv_goto (tgt := 24) hx hb dX5_isCell_20 (by decide) ?_
      exact ro_ret CX hr hlk (by first | exact b2i_t (by grind) | exact b2i_f (by grind)) rfl dX5_isCell_24
theorem kb_10 : (Int8.ofInt (10)).toInt32 = (nI 10) := by decide +kernel
set_option maxHeartbeats 4000000 in
set_option maxRecDepth 100000 in
/-- placeOf -/
theorem c_X5_placeOf (l : Launch) (G : va_G) (cA : Nat → ClassId) (x : Nat) (y : Nat)  : RO l yX5_placeOf wsX5_placeOf ({ frames := 0, cells := 0, slots := 0, locals := 0 }) G cA B0 [] [.int (nI x), .int (nI y)] (nI (y * 10 + x)) := by
  refine RO.mk (own := RX5) (by decide) rfl rfl (Nat.le_of_ble_eq_true rfl) (fun p_ e_ s_ m_ below meth c_ ls CX hr hlk hP hE hB hl => ?_)
  obtain ⟨hx, hb, hml, hown, hts⟩ := id CX
  have hl : lv_has ls 2 [(0, .int (nI x)), (1, .int (nI y))] := hl
  refine lv_iload_n hx hb dX5_placeOf_0 rfl (lv_at hl 1 rfl) ?_
  refine lv_bipush (v := (nI 10)) hx hb dX5_placeOf_1 kb_10 ?_
  refine rn_imul hx hb dX5_placeOf_3 ?_
  refine lv_iload_n hx hb dX5_placeOf_4 rfl (lv_at hl 0 rfl) ?_
  refine rn_iadd hx hb dX5_placeOf_5 ?_
  exact ro_ret CX hr hlk rfl rfl dX5_placeOf_6
theorem ks_m9999 : (Int16.ofInt (-9999)).toInt32 = (-9999) := by decide +kernel
theorem ks_9999 : (Int16.ofInt (9999)).toInt32 = (nI 9999) := by decide +kernel
theorem w_X5_bounded_mminl : Cond.methodLink RX5 224 Lib.Math.min.name ∈ wsX5_bounded := by decide +kernel
theorem w_X5_bounded_mmins : Cond.static Lib.Math.min.name ∈ wsX5_bounded := by decide +kernel
theorem w_X5_bounded_mini : Cond.initialized "java/lang/Math" ∈ wsX5_bounded := by decide +kernel
theorem w_X5_bounded_mminc : Cond.code Lib.Math.min.name Lib.Math.min.code 2 (some .int) ∈ wsX5_bounded := by decide +kernel
theorem w_X5_bounded_mmaxl : Cond.methodLink RX5 229 Lib.Math.max.name ∈ wsX5_bounded := by decide +kernel
theorem w_X5_bounded_mmaxs : Cond.static Lib.Math.max.name ∈ wsX5_bounded := by decide +kernel
theorem w_X5_bounded_mmaxc : Cond.code Lib.Math.max.name Lib.Math.max.code 2 (some .int) ∈ wsX5_bounded := by decide +kernel
set_option maxHeartbeats 4000000 in
set_option maxRecDepth 100000 in
/-- bounded: brought between -9999 and 9999 -/
theorem c_X5_bounded (l : Launch) (G : va_G) (cA : Nat → ClassId) (v : Int32)  : RO l yX5_bounded wsX5_bounded ({ frames := 1, cells := 0, slots := 0, locals := 24 }) G cA B0 [] [.int v] (boundF v) := by
  refine RO.mk (own := RX5) (by decide) rfl rfl (Nat.le_of_ble_eq_true rfl) (fun p_ e_ s_ m_ below meth c_ ls CX hr hlk hP hE hB hl => ?_)
  obtain ⟨hx, hb, hml, hown, hts⟩ := id CX
  have hl : lv_has ls 1 [(0, .int v)] := hl
  refine lv_sipush (v := (-9999)) hx hb dX5_bounded_0 ks_m9999 ?_
  refine lv_sipush (v := (nI 9999)) hx hb dX5_bounded_3 ks_9999 ?_
  refine lv_iload_n hx hb dX5_bounded_6 rfl (lv_at hl 0 rfl) ?_
  refine va_mmin hx hb (by rw [hml]; exact hl.1.symm) hown (hts _ w_X5_bounded_mminl) (hts _ w_X5_bounded_mmins) (hts _ w_X5_bounded_mini) (hts _ w_X5_bounded_mminc) (Nat.le_of_ble_eq_true rfl) (Nat.le_of_ble_eq_true rfl) (Nat.zero_le _) (Nat.zero_le _) dX5_bounded_7 ?_
  refine rn_top (imin (nI 9999) v) rfl ?_
  refine va_mmax hx hb (by rw [hml]; exact hl.1.symm) hown (hts _ w_X5_bounded_mmaxl) (hts _ w_X5_bounded_mmaxs) (hts _ w_X5_bounded_mini) (hts _ w_X5_bounded_mmaxc) (Nat.le_of_ble_eq_true rfl) (Nat.le_of_ble_eq_true rfl) (Nat.zero_le _) (Nat.zero_le _) dX5_bounded_10 ?_
  refine rn_top (imax (-9999) (imin (nI 9999) v)) rfl ?_
  exact ro_ret CX hr hlk rfl rfl dX5_bounded_13
theorem fl_X4_loudnessOf_26 : Cond.fieldLink RX4 26 RX4 (TX4 2).2.1 (TX4 2).2.2.1 ∈ wsX4_loudnessOf := by decide +kernel
theorem in_X4_loudnessOf_X4 : ∀ w ∈ wsX40, w ∈ wsX4_loudnessOf := by decide +kernel
theorem w_X4_loudnessOf_mabsl : Cond.methodLink RX4 124 Lib.Math.abs.name ∈ wsX4_loudnessOf := by decide +kernel
theorem w_X4_loudnessOf_mabss : Cond.static Lib.Math.abs.name ∈ wsX4_loudnessOf := by decide +kernel
theorem w_X4_loudnessOf_mini : Cond.initialized "java/lang/Math" ∈ wsX4_loudnessOf := by decide +kernel
theorem w_X4_loudnessOf_mabsc : Cond.code Lib.Math.abs.name Lib.Math.abs.code 1 (some .int) ∈ wsX4_loudnessOf := by decide +kernel
set_option maxHeartbeats 4000000 in
set_option maxRecDepth 100000 in
theorem c_X4_loudnessOf (l : Launch) (G : va_G) (cA : Nat → ClassId) (a : Nat → Nat) (tk : Nat) (h : Nat → Int32) (i : Nat) (hi : i < 60) : RO l yX4_loudnessOf wsX4_loudnessOf ({ frames := 1, cells := 0, slots := 0, locals := 24 }) G cA B0 [(a 0, .inr (4, [.ref (a 1), .ref (a 2), .ref (a 3), .ref (a 4), .ref (a 5), .ref (a 6), .ref (a 11), .int (nI tk)])), (a 3, .inl (cA 0, 60, .inl h))] [.ref (a 0), .int (nI i)] (iabs (h i)) := by
  refine RO.mk (own := RX4) (by decide) rfl rfl (Nat.le_of_ble_eq_true rfl) (fun p_ e_ s_ m_ below meth c_ ls CX hr hlk hP hE hB hl => ?_)
  obtain ⟨hx, hb, hml, hown, hts⟩ := id CX
  have hl : lv_has ls 2 [(0, .ref (a 0)), (1, .int (nI i))] := hl
  refine lv_aload_n hx hb dX4_loudnessOf_0 rfl (lv_at hl 0 rfl) ?_
  refine rg (T := TX4) (N := 8) CX hE hP in_X4_loudnessOf_X4 0 rfl rfl 2 (by decide) fl_X4_loudnessOf_26 rfl rfl dX4_loudnessOf_1 ?_
  refine lv_iload_n hx hb dX4_loudnessOf_4 rfl (lv_at hl 1 rfl) ?_
  refine rn_iald CX hE hP 1 rfl (j := i) (by omega) (ltb rfl) dX4_loudnessOf_5 ?_
  refine va_mabs hx hb (by rw [hml]; exact hl.1.symm) hown (hts _ w_X4_loudnessOf_mabsl) (hts _ w_X4_loudnessOf_mabss) (hts _ w_X4_loudnessOf_mini) (hts _ w_X4_loudnessOf_mabsc) (Nat.le_of_ble_eq_true rfl) (Nat.le_of_ble_eq_true rfl) (Nat.zero_le _) (Nat.zero_le _) dX4_loudnessOf_6 ?_
  refine rn_top (iabs (h i)) rfl ?_
  exact ro_ret CX hr hlk rfl rfl dX4_loudnessOf_9
theorem fl_X4_rise_23 : Cond.fieldLink RX4 23 RX4 (TX4 1).2.1 (TX4 1).2.2.1 ∈ wsX4_rise := by decide +kernel
theorem in_X4_rise_X4 : ∀ w ∈ wsX40, w ∈ wsX4_rise := by decide +kernel
theorem fl_X4_rise_26 : Cond.fieldLink RX4 26 RX4 (TX4 2).2.1 (TX4 2).2.2.1 ∈ wsX4_rise := by decide +kernel
set_option maxHeartbeats 4000000 in
set_option maxRecDepth 100000 in
theorem c_X4_rise (l : Launch) (G : va_G) (cA : Nat → ClassId) (a : Nat → Nat) (tk : Nat) (fl : Nat → Int32) (h : Nat → Int32) (i : Nat) (j : Nat) (hi : i < 60) (hj : j < 60) : RO l yX4_rise wsX4_rise ({ frames := 0, cells := 0, slots := 0, locals := 0 }) G cA B0 [(a 0, .inr (4, [.ref (a 1), .ref (a 2), .ref (a 3), .ref (a 4), .ref (a 5), .ref (a 6), .ref (a 11), .int (nI tk)])), (a 2, .inl (cA 0, 60, .inl fl)), (a 3, .inl (cA 0, 60, .inl h))] [.ref (a 0), .int (nI i), .int (nI j)] (riseF fl h i j) := by
  refine RO.mk (own := RX4) (by decide) rfl rfl (Nat.le_of_ble_eq_true rfl) (fun p_ e_ s_ m_ below meth c_ ls CX hr hlk hP hE hB hl => ?_)
  obtain ⟨hx, hb, hml, hown, hts⟩ := id CX
  have hl : lv_has ls 3 [(0, .ref (a 0)), (1, .int (nI i)), (2, .int (nI j))] := hl
  refine lv_aload_n hx hb dX4_rise_0 rfl (lv_at hl 0 rfl) ?_
  refine rg (T := TX4) (N := 8) CX hE hP in_X4_rise_X4 0 rfl rfl 1 (by decide) fl_X4_rise_23 rfl rfl dX4_rise_1 ?_
  refine lv_iload_n hx hb dX4_rise_4 rfl (lv_at hl 2 rfl) ?_
  refine rn_iald CX hE hP 1 rfl (j := j) (by omega) (ltb rfl) dX4_rise_5 ?_
  refine rn_iconst hx hb 2 rfl dX4_rise_6 ?_
  refine lv_icmp_ne hx hb dX4_rise_7 (by decide) (tgt := 14) (fun c_7 => ?_) (fun c_7 => ?_)
  · refine lv_aload_n hx hb dX4_rise_14 rfl (lv_at hl 0 rfl) ?_
    refine rg (T := TX4) (N := 8) CX hE hP in_X4_rise_X4 0 rfl rfl 2 (by decide) fl_X4_rise_26 rfl rfl dX4_rise_15 ?_
    refine lv_iload_n hx hb dX4_rise_18 rfl (lv_at hl 2 rfl) ?_
    refine rn_iald CX hE hP 2 rfl (j := j) (by omega) (ltb rfl) dX4_rise_19 ?_
    refine lv_aload_n hx hb dX4_rise_20 rfl (lv_at hl 0 rfl) ?_
    refine rg (T := TX4) (N := 8) CX hE hP in_X4_rise_X4 0 rfl rfl 2 (by decide) fl_X4_rise_26 rfl rfl dX4_rise_21 ?_
    refine lv_iload_n hx hb dX4_rise_24 rfl (lv_at hl 1 rfl) ?_
    refine rn_iald CX hE hP 2 rfl (j := i) (by omega) (ltb rfl) dX4_rise_25 ?_
    refine lv_isub hx hb dX4_rise_26 ?_
    exact ro_ret CX hr hlk (by simp [riseF, c_7]) rfl dX4_rise_27
  · refine rn_iconst hx hb 0 rfl dX4_rise_10 ?_
    refine lv_goto (tgt := 27) hx hb dX4_rise_11 (by decide) ?_
    exact ro_ret CX hr hlk (by simp [riseF, c_7]) rfl dX4_rise_27
theorem hdn_X5_isCell : yX5_isCell.cls ≠ "java/lang/invoke/MethodHandle" ∧ yX5_isCell.cls ≠ "java/lang/invoke/VarHandle" ∧ (parseMethodDescriptor yX5_isCell.desc).map (fun d => d.parameters.length) = some 2 := by decide +kernel
theorem nst_X4_117 : Cond.methodLinkNest RX4 117 yX5_isCell RX5 ∈ nestW := by decide +kernel
theorem w_X4_heightAt_ini_X5 : Cond.initialized RX5 ∈ wsX4_heightAt := by decide +kernel
theorem w_X4_heightAt_st_X5_isCell : Cond.static yX5_isCell ∈ wsX4_heightAt := by decide +kernel
theorem fl_X4_heightAt_26 : Cond.fieldLink RX4 26 RX4 (TX4 2).2.1 (TX4 2).2.2.1 ∈ wsX4_heightAt := by decide +kernel
theorem in_X4_heightAt_X4 : ∀ w ∈ wsX40, w ∈ wsX4_heightAt := by decide +kernel
theorem hdn_X5_placeOf : yX5_placeOf.cls ≠ "java/lang/invoke/MethodHandle" ∧ yX5_placeOf.cls ≠ "java/lang/invoke/VarHandle" ∧ (parseMethodDescriptor yX5_placeOf.desc).map (fun d => d.parameters.length) = some 2 := by decide +kernel
theorem nst_X4_121 : Cond.methodLinkNest RX4 121 yX5_placeOf RX5 ∈ nestW := by decide +kernel
theorem w_X4_heightAt_st_X5_placeOf : Cond.static yX5_placeOf ∈ wsX4_heightAt := by decide +kernel
set_option maxHeartbeats 4000000 in
set_option maxRecDepth 100000 in
theorem c_X4_heightAt (l : Launch) (G : va_G) (cA : Nat → ClassId) (a : Nat → Nat) (tk : Nat) (h : Nat → Int32) (x : Int32) (y : Int32)  : RO l yX4_heightAt wsX4_heightAt ({ frames := 2, cells := 0, slots := 0, locals := 43 }) G cA B0 [(a 0, .inr (4, [.ref (a 1), .ref (a 2), .ref (a 3), .ref (a 4), .ref (a 5), .ref (a 6), .ref (a 11), .int (nI tk)])), (a 3, .inl (cA 0, 60, .inl h))] [.ref (a 0), .int x, .int y] (heightAtF h x y) := by
  refine RO.mk (own := RX4) (by decide) rfl rfl (Nat.le_of_ble_eq_true rfl) (fun p_ e_ s_ m_ below meth c_ ls CX hr hlk hP hE hB hl => ?_)
  obtain ⟨hx, hb, hml, hown, hts⟩ := id CX
  have hl : lv_has ls 3 [(0, .ref (a 0)), (1, .int x), (2, .int y)] := hl
  refine lv_iload_n hx hb dX4_heightAt_0 rfl (lv_at hl 1 rfl) ?_
  refine lv_iload_n hx hb dX4_heightAt_1 rfl (lv_at hl 2 rfl) ?_
  refine roSN CX hE hP (c_X5_isCell l G cA x y ) ⟨va_cnB 2 hts gX4_heightAt_X5_isCell_n117 rfl rfl rfl (hE.2 _ nst_X4_117) (hts _ w_X4_heightAt_ini_X5) hdn_X5_isCell ⟨Nat.le_of_ble_eq_true rfl, Nat.le_of_ble_eq_true rfl⟩, hts _ w_X4_heightAt_st_X5_isCell, trivial⟩ [] rfl B0_blind (fun _ _ _ => trivial) rfl hl.1 (rest := []) rfl (Nat.le_of_ble_eq_true rfl) dX4_heightAt_2 ⟨Nat.zero_le _, Nat.zero_le _⟩ ?_
  refine rb_if_eq hx hb dX4_heightAt_5 (by decide) (tgt := 21) (fun c_5 => ?_) (fun c_5 => ?_)
  · refine rn_iconst hx hb 0 rfl dX4_heightAt_21 ?_
    exact ro_ret CX hr hlk (by first | exact (heightAtF_in hkx hky).symm | exact (if_neg c_5).symm) rfl dX4_heightAt_22
  · obtain ⟨kx, ky, hkx, hky, ex, ey⟩ := cellP_nat c_5
    subst ex
    subst ey
    refine lv_aload_n hx hb dX4_heightAt_8 rfl (lv_at hl 0 rfl) ?_
    refine rg (T := TX4) (N := 8) CX hE hP in_X4_heightAt_X4 0 rfl rfl 2 (by decide) fl_X4_heightAt_26 rfl rfl dX4_heightAt_9 ?_
    refine lv_iload_n hx hb dX4_heightAt_12 rfl (lv_at hl 1 rfl) ?_
    refine lv_iload_n hx hb dX4_heightAt_13 rfl (lv_at hl 2 rfl) ?_
    refine roSN CX hE hP (c_X5_placeOf l G cA kx ky ) ⟨va_cnB 2 hts gX4_heightAt_X5_placeOf_n121 rfl rfl rfl (hE.2 _ nst_X4_121) (hts _ w_X4_heightAt_ini_X5) hdn_X5_placeOf ⟨Nat.le_of_ble_eq_true rfl, Nat.le_of_ble_eq_true rfl⟩, hts _ w_X4_heightAt_st_X5_placeOf, trivial⟩ [] rfl B0_blind (fun _ _ _ => trivial) rfl hl.1 (rest := [.ref (a 3)]) rfl (Nat.le_of_ble_eq_true rfl) dX4_heightAt_14 ⟨Nat.zero_le _, Nat.zero_le _⟩ ?_
    refine rn_iald CX hE hP 1 rfl (j := (ky * 10 + kx)) (by omega) (ltb rfl) dX4_heightAt_17 ?_
    refine lv_goto (tgt := 22) hx hb dX4_heightAt_18 (by decide) ?_
    exact ro_ret CX hr hlk (by first | exact (heightAtF_in hkx hky).symm | exact (if_neg c_5).symm) rfl dX4_heightAt_22
theorem fl_X4_slopeAt_23 : Cond.fieldLink RX4 23 RX4 (TX4 1).2.1 (TX4 1).2.2.1 ∈ wsX4_slopeAt := by decide +kernel
theorem in_X4_slopeAt_X4 : ∀ w ∈ wsX40, w ∈ wsX4_slopeAt := by decide +kernel
theorem hdv_X4_rise : yX4_rise.cls = RX4 ∧ yX4_rise.cls ≠ "java/lang/invoke/MethodHandle" ∧ yX4_rise.cls ≠ "java/lang/invoke/VarHandle" ∧ (parseMethodDescriptor yX4_rise.desc).map (fun d => d.parameters.length) = some 2 := by decide +kernel
set_option maxHeartbeats 4000000 in
set_option maxRecDepth 100000 in
theorem c_X4_slopeAt (l : Launch) (G : va_G) (cA : Nat → ClassId) (a : Nat → Nat) (tk : Nat) (fl : Nat → Int32) (h : Nat → Int32) (i : Nat) (hi : i < 60) : RO l yX4_slopeAt wsX4_slopeAt ({ frames := 1, cells := 0, slots := 0, locals := 22 }) G cA B0 [(a 0, .inr (4, [.ref (a 1), .ref (a 2), .ref (a 3), .ref (a 4), .ref (a 5), .ref (a 6), .ref (a 11), .int (nI tk)])), (a 2, .inl (cA 0, 60, .inl fl)), (a 3, .inl (cA 0, 60, .inl h))] [.ref (a 0), .int (nI i)] (slopeF fl h i) := by
  refine RO.mk (own := RX4) (by decide) rfl rfl (Nat.le_of_ble_eq_true rfl) (fun p_ e_ s_ m_ below meth c_ ls CX hr hlk hP hE hB hl => ?_)
  obtain ⟨hx, hb, hml, hown, hts⟩ := id CX
  have hl : lv_has ls 5 [(0, .ref (a 0)), (1, .int (nI i))] := hl
  refine lv_aload_n hx hb dX4_slopeAt_0 rfl (lv_at hl 0 rfl) ?_
  refine rg (T := TX4) (N := 8) CX hE hP in_X4_slopeAt_X4 0 rfl rfl 1 (by decide) fl_X4_slopeAt_23 rfl rfl dX4_slopeAt_1 ?_
  refine lv_iload_n hx hb dX4_slopeAt_4 rfl (lv_at hl 1 rfl) ?_
  refine rn_iald CX hE hP 1 rfl (j := i) (by omega) (ltb rfl) dX4_slopeAt_5 ?_
  refine rn_iconst hx hb 2 rfl dX4_slopeAt_6 ?_
  refine lv_icmp_ne hx hb dX4_slopeAt_7 (by decide) (tgt := 12) (fun c_7 => ?_) (fun c_7 => ?_)
  · refine lv_iload_n hx hb dX4_slopeAt_12 rfl (lv_at hl 1 rfl) ?_
    refine lv_bipush (v := (nI 10)) hx hb dX4_slopeAt_13 kb_10 ?_
    refine rn_irem hx hb (by omega) (by omega) (by omega) dX4_slopeAt_15 ?_
    refine lv_istore_n (lv' := [(2, .int (nI (i % 10))), (0, .ref (a 0)), (1, .int (nI i))]) hx hb dX4_slopeAt_16 rfl hl (by decide) rfl (fun ls hl => ?_)
    refine lv_iload_n hx hb dX4_slopeAt_17 rfl (lv_at hl 2 rfl) ?_
    refine lv_bipush (v := (nI 10)) hx hb dX4_slopeAt_18 kb_10 ?_
    refine rn_idiv hx hb (by omega) (by omega) (by omega) dX4_slopeAt_20 ?_
    refine lv_istore_n (lv' := [(3, .int (nI (i / 10))), (2, .int (nI (i % 10))), (0, .ref (a 0)), (1, .int (nI i))]) hx hb dX4_slopeAt_21 rfl hl (by decide) rfl (fun ls hl => ?_)
    refine lv_iload_n hx hb dX4_slopeAt_22 rfl (lv_at hl 1 rfl) ?_
    have J_38 : ∀ v : Int32, v = (if 0 < i % 10 then riseF fl h i (i - 1) else nI 0) → W p_ l e_ ({ frames := 1, cells := 0, slots := 0, locals := 22 } : Room) s_ m_ ([.ref (a 0), .int (nI i)] : List Value).toArray below meth c_ s_.heap [] 0 0 (MQ below (vp_Si (fun r_ => r_ = (slopeF fl h i))) ([.ref (a 0), .int (nI i)] : List Value).toArray s_ 0 0 (fun _ => False)) (F0 m_ 38 ls [.int v]) := by
      intro v hv
      subst hv
      refine lv_istore (lv' := [(4, .int (if 0 < i % 10 then riseF fl h i (i - 1) else nI 0)), (3, .int (nI (i / 10))), (2, .int (nI (i % 10))), (0, .ref (a 0)), (1, .int (nI i))]) hx hb dX4_slopeAt_38 hl (by decide) rfl (fun ls hl => ?_)
      refine lv_iload hx hb dX4_slopeAt_40 (lv_at hl 0 rfl) ?_
      refine lv_iload_n hx hb dX4_slopeAt_42 rfl (lv_at hl 2 rfl) ?_
      refine lv_bipush (v := (nI 9)) hx hb dX4_slopeAt_43 kb_9 ?_
      have J_60 : ∀ v : Int32, v = (if i % 10 < 9 then riseF fl h i (i + 1) else nI 0) → W p_ l e_ ({ frames := 1, cells := 0, slots := 0, locals := 22 } : Room) s_ m_ ([.ref (a 0), .int (nI i)] : List Value).toArray below meth c_ s_.heap [] 0 0 (MQ below (vp_Si (fun r_ => r_ = (slopeF fl h i))) ([.ref (a 0), .int (nI i)] : List Value).toArray s_ 0 0 (fun _ => False)) (F0 m_ 60 ls [.int v, .int (if 0 < i % 10 then riseF fl h i (i - 1) else nI 0)]) := by
        intro v hv
        subst hv
        refine lv_iadd hx hb dX4_slopeAt_60 ?_
        refine lv_istore (lv' := [(4, .int ((if 0 < i % 10 then riseF fl h i (i - 1) else nI 0) + (if i % 10 < 9 then riseF fl h i (i + 1) else nI 0))), (3, .int (nI (i / 10))), (2, .int (nI (i % 10))), (0, .ref (a 0)), (1, .int (nI i))]) hx hb dX4_slopeAt_61 hl (by decide) rfl (fun ls hl => ?_)
        refine lv_iload hx hb dX4_slopeAt_63 (lv_at hl 0 rfl) ?_
        refine lv_iload_n hx hb dX4_slopeAt_65 rfl (lv_at hl 1 rfl) ?_
        have J_82 : ∀ v : Int32, v = (if 0 < i / 10 then riseF fl h i (i - 10) else nI 0) → W p_ l e_ ({ frames := 1, cells := 0, slots := 0, locals := 22 } : Room) s_ m_ ([.ref (a 0), .int (nI i)] : List Value).toArray below meth c_ s_.heap [] 0 0 (MQ below (vp_Si (fun r_ => r_ = (slopeF fl h i))) ([.ref (a 0), .int (nI i)] : List Value).toArray s_ 0 0 (fun _ => False)) (F0 m_ 82 ls [.int v, .int ((if 0 < i % 10 then riseF fl h i (i - 1) else nI 0) + (if i % 10 < 9 then riseF fl h i (i + 1) else nI 0))]) := by
          intro v hv
          subst hv
          refine lv_iadd hx hb dX4_slopeAt_82 ?_
          refine lv_istore (lv' := [(4, .int (((if 0 < i % 10 then riseF fl h i (i - 1) else nI 0) + (if i % 10 < 9 then riseF fl h i (i + 1) else nI 0)) + (if 0 < i / 10 then riseF fl h i (i - 10) else nI 0))), (3, .int (nI (i / 10))), (2, .int (nI (i % 10))), (0, .ref (a 0)), (1, .int (nI i))]) hx hb dX4_slopeAt_83 hl (by decide) rfl (fun ls hl => ?_)
          refine lv_iload hx hb dX4_slopeAt_85 (lv_at hl 0 rfl) ?_
          refine lv_iload_n hx hb dX4_slopeAt_87 rfl (lv_at hl 1 rfl) ?_
          refine rn_iconst hx hb 5 rfl dX4_slopeAt_88 ?_
          have J_105 : ∀ v : Int32, v = (if i / 10 < 5 then riseF fl h i (i + 10) else nI 0) → W p_ l e_ ({ frames := 1, cells := 0, slots := 0, locals := 22 } : Room) s_ m_ ([.ref (a 0), .int (nI i)] : List Value).toArray below meth c_ s_.heap [] 0 0 (MQ below (vp_Si (fun r_ => r_ = (slopeF fl h i))) ([.ref (a 0), .int (nI i)] : List Value).toArray s_ 0 0 (fun _ => False)) (F0 m_ 105 ls [.int v, .int (((if 0 < i % 10 then riseF fl h i (i - 1) else nI 0) + (if i % 10 < 9 then riseF fl h i (i + 1) else nI 0)) + (if 0 < i / 10 then riseF fl h i (i - 10) else nI 0))]) := by
            intro v hv
            subst hv
            refine lv_iadd hx hb dX4_slopeAt_105 ?_
            refine lv_istore (lv' := [(4, .int ((((if 0 < i % 10 then riseF fl h i (i - 1) else nI 0) + (if i % 10 < 9 then riseF fl h i (i + 1) else nI 0)) + (if 0 < i / 10 then riseF fl h i (i - 10) else nI 0)) + (if i / 10 < 5 then riseF fl h i (i + 10) else nI 0))), (3, .int (nI (i / 10))), (2, .int (nI (i % 10))), (0, .ref (a 0)), (1, .int (nI i))]) hx hb dX4_slopeAt_106 hl (by decide) rfl (fun ls hl => ?_)
            refine lv_iload hx hb dX4_slopeAt_108 (lv_at hl 0 rfl) ?_
            exact ro_ret CX hr hlk (by simp [slopeF, c_7]) rfl dX4_slopeAt_110
          refine rn_icmp_ge hx hb (by omega) (by omega) dX4_slopeAt_89 (by decide) (tgt := 104) (fun c_89 => ?_) (fun c_89 => ?_)
          · refine rn_iconst hx hb 0 rfl dX4_slopeAt_104 ?_
            exact J_105 _ (by first | exact (if_pos c_89).symm | exact (if_neg (by omega)).symm)
          · refine lv_aload_n hx hb dX4_slopeAt_92 rfl (lv_at hl 3 rfl) ?_
            refine lv_iload_n hx hb dX4_slopeAt_93 rfl (lv_at hl 4 rfl) ?_
            refine lv_iload_n hx hb dX4_slopeAt_94 rfl (lv_at hl 4 rfl) ?_
            refine lv_bipush (v := (nI 10)) hx hb dX4_slopeAt_95 kb_10 ?_
            refine rn_iadd hx hb dX4_slopeAt_97 ?_
            refine roV CX hE hP (c_X4_rise l G cA a tk fl h i (i + 10) (by omega) (by omega)) (cwV 2 hts gX4_slopeAt_X4_rise rfl rfl rfl hdv_X4_rise ⟨Nat.le_of_ble_eq_true rfl, Nat.le_of_ble_eq_true rfl⟩) [0, 1, 2] rfl 0 rfl rfl rfl B0_blind (fun _ _ _ => trivial) rfl hl.1 (rest := [.int (((if 0 < i % 10 then riseF fl h i (i - 1) else nI 0) + (if i % 10 < 9 then riseF fl h i (i + 1) else nI 0)) + (if 0 < i / 10 then riseF fl h i (i - 10) else nI 0))]) rfl (Nat.le_of_ble_eq_true rfl) dX4_slopeAt_98 ⟨Nat.zero_le _, Nat.zero_le _⟩ ?_
            refine lv_goto (tgt := 105) hx hb dX4_slopeAt_101 (by decide) ?_
            exact J_105 _ (by first | exact (if_pos c_89).symm | exact (if_neg (by omega)).symm)
        refine rn_if_le hx hb (by omega) dX4_slopeAt_66 (by decide) (tgt := 81) (fun c_66 => ?_) (fun c_66 => ?_)
        · refine rn_iconst hx hb 0 rfl dX4_slopeAt_81 ?_
          exact J_82 _ (by first | exact (if_pos c_66).symm | exact (if_neg (by omega)).symm)
        · refine lv_aload_n hx hb dX4_slopeAt_69 rfl (lv_at hl 3 rfl) ?_
          refine lv_iload_n hx hb dX4_slopeAt_70 rfl (lv_at hl 4 rfl) ?_
          refine lv_iload_n hx hb dX4_slopeAt_71 rfl (lv_at hl 4 rfl) ?_
          refine lv_bipush (v := (nI 10)) hx hb dX4_slopeAt_72 kb_10 ?_
          refine rn_isub hx hb (by omega) dX4_slopeAt_74 ?_
          refine roV CX hE hP (c_X4_rise l G cA a tk fl h i (i - 10) (by omega) (by omega)) (cwV 2 hts gX4_slopeAt_X4_rise rfl rfl rfl hdv_X4_rise ⟨Nat.le_of_ble_eq_true rfl, Nat.le_of_ble_eq_true rfl⟩) [0, 1, 2] rfl 0 rfl rfl rfl B0_blind (fun _ _ _ => trivial) rfl hl.1 (rest := [.int ((if 0 < i % 10 then riseF fl h i (i - 1) else nI 0) + (if i % 10 < 9 then riseF fl h i (i + 1) else nI 0))]) rfl (Nat.le_of_ble_eq_true rfl) dX4_slopeAt_75 ⟨Nat.zero_le _, Nat.zero_le _⟩ ?_
          refine lv_goto (tgt := 82) hx hb dX4_slopeAt_78 (by decide) ?_
          exact J_82 _ (by first | exact (if_pos c_66).symm | exact (if_neg (by omega)).symm)
      refine rn_icmp_ge hx hb (by omega) (by omega) dX4_slopeAt_45 (by decide) (tgt := 59) (fun c_45 => ?_) (fun c_45 => ?_)
      · refine rn_iconst hx hb 0 rfl dX4_slopeAt_59 ?_
        exact J_60 _ (by first | exact (if_pos c_45).symm | exact (if_neg (by omega)).symm)
      · refine lv_aload_n hx hb dX4_slopeAt_48 rfl (lv_at hl 3 rfl) ?_
        refine lv_iload_n hx hb dX4_slopeAt_49 rfl (lv_at hl 4 rfl) ?_
        refine lv_iload_n hx hb dX4_slopeAt_50 rfl (lv_at hl 4 rfl) ?_
        refine rn_iconst hx hb 1 rfl dX4_slopeAt_51 ?_
        refine rn_iadd hx hb dX4_slopeAt_52 ?_
        refine roV CX hE hP (c_X4_rise l G cA a tk fl h i (i + 1) (by omega) (by omega)) (cwV 2 hts gX4_slopeAt_X4_rise rfl rfl rfl hdv_X4_rise ⟨Nat.le_of_ble_eq_true rfl, Nat.le_of_ble_eq_true rfl⟩) [0, 1, 2] rfl 0 rfl rfl rfl B0_blind (fun _ _ _ => trivial) rfl hl.1 (rest := [.int (if 0 < i % 10 then riseF fl h i (i - 1) else nI 0)]) rfl (Nat.le_of_ble_eq_true rfl) dX4_slopeAt_53 ⟨Nat.zero_le _, Nat.zero_le _⟩ ?_
        refine lv_goto (tgt := 60) hx hb dX4_slopeAt_56 (by decide) ?_
        exact J_60 _ (by first | exact (if_pos c_45).symm | exact (if_neg (by omega)).symm)
    refine rn_if_le hx hb (by omega) dX4_slopeAt_23 (by decide) (tgt := 37) (fun c_23 => ?_) (fun c_23 => ?_)
    · refine rn_iconst hx hb 0 rfl dX4_slopeAt_37 ?_
      exact J_38 _ (by first | exact (if_pos c_23).symm | exact (if_neg (by omega)).symm)
    · refine lv_aload_n hx hb dX4_slopeAt_26 rfl (lv_at hl 2 rfl) ?_
      refine lv_iload_n hx hb dX4_slopeAt_27 rfl (lv_at hl 3 rfl) ?_
      refine lv_iload_n hx hb dX4_slopeAt_28 rfl (lv_at hl 3 rfl) ?_
      refine rn_iconst hx hb 1 rfl dX4_slopeAt_29 ?_
      refine rn_isub hx hb (by omega) dX4_slopeAt_30 ?_
      refine roV CX hE hP (c_X4_rise l G cA a tk fl h i (i - 1) (by omega) (by omega)) (cwV 2 hts gX4_slopeAt_X4_rise rfl rfl rfl hdv_X4_rise ⟨Nat.le_of_ble_eq_true rfl, Nat.le_of_ble_eq_true rfl⟩) [0, 1, 2] rfl 0 rfl rfl rfl B0_blind (fun _ _ _ => trivial) rfl hl.1 (rest := []) rfl (Nat.le_of_ble_eq_true rfl) dX4_slopeAt_31 ⟨Nat.zero_le _, Nat.zero_le _⟩ ?_
      refine lv_goto (tgt := 38) hx hb dX4_slopeAt_34 (by decide) ?_
      exact J_38 _ (by first | exact (if_pos c_23).symm | exact (if_neg (by omega)).symm)
  · refine rn_iconst hx hb 0 rfl dX4_slopeAt_10 ?_
    exact ro_ret CX hr hlk (by simp [slopeF, c_7]) rfl dX4_slopeAt_11
theorem fl_X4_nextHeight_23 : Cond.fieldLink RX4 23 RX4 (TX4 1).2.1 (TX4 1).2.2.1 ∈ wsX4_nextHeight := by decide +kernel
theorem in_X4_nextHeight_X4 : ∀ w ∈ wsX40, w ∈ wsX4_nextHeight := by decide +kernel
theorem fl_X4_nextHeight_26 : Cond.fieldLink RX4 26 RX4 (TX4 2).2.1 (TX4 2).2.2.1 ∈ wsX4_nextHeight := by decide +kernel
theorem fl_X4_nextHeight_29 : Cond.fieldLink RX4 29 RX4 (TX4 3).2.1 (TX4 3).2.2.1 ∈ wsX4_nextHeight := by decide +kernel
theorem hdv_X4_slopeAt : yX4_slopeAt.cls = RX4 ∧ yX4_slopeAt.cls ≠ "java/lang/invoke/MethodHandle" ∧ yX4_slopeAt.cls ≠ "java/lang/invoke/VarHandle" ∧ (parseMethodDescriptor yX4_slopeAt.desc).map (fun d => d.parameters.length) = some 1 := by decide +kernel
theorem kb_16 : (Int8.ofInt (16)).toInt32 = (nI 16) := by decide +kernel
theorem fl_X4_nextHeight_18 : Cond.fieldLink RX4 18 RX4 (TX4 0).2.1 (TX4 0).2.2.1 ∈ wsX4_nextHeight := by decide +kernel
theorem ks_1000 : (Int16.ofInt (1000)).toInt32 = (nI 1000) := by decide +kernel
theorem hdn_X5_bounded : yX5_bounded.cls ≠ "java/lang/invoke/MethodHandle" ∧ yX5_bounded.cls ≠ "java/lang/invoke/VarHandle" ∧ (parseMethodDescriptor yX5_bounded.desc).map (fun d => d.parameters.length) = some 1 := by decide +kernel
theorem nst_X4_107 : Cond.methodLinkNest RX4 107 yX5_bounded RX5 ∈ nestW := by decide +kernel
theorem w_X4_nextHeight_ini_X5 : Cond.initialized RX5 ∈ wsX4_nextHeight := by decide +kernel
theorem w_X4_nextHeight_st_X5_bounded : Cond.static yX5_bounded ∈ wsX4_nextHeight := by decide +kernel
set_option maxHeartbeats 4000000 in
set_option maxRecDepth 100000 in
theorem c_X4_nextHeight (l : Launch) (G : va_G) (cA : Nat → ClassId) (a : Nat → Nat) (tk : Nat) (st : Nat → Int32) (fl : Nat → Int32) (h : Nat → Int32) (ah : Nat → Int32) (i : Nat) (hi : i < 60) : RO l yX4_nextHeight wsX4_nextHeight ({ frames := 2, cells := 0, slots := 0, locals := 46 }) G cA B0 [(a 0, .inr (4, [.ref (a 1), .ref (a 2), .ref (a 3), .ref (a 4), .ref (a 5), .ref (a 6), .ref (a 11), .int (nI tk)])), (a 1, .inl (cA 0, 4, .inl st)), (a 2, .inl (cA 0, 60, .inl fl)), (a 3, .inl (cA 0, 60, .inl h)), (a 4, .inl (cA 0, 60, .inl ah))] [.ref (a 0), .int (nI i)] (nextF st fl h ah i) := by
  refine RO.mk (own := RX4) (by decide) rfl rfl (Nat.le_of_ble_eq_true rfl) (fun p_ e_ s_ m_ below meth c_ ls CX hr hlk hP hE hB hl => ?_)
  obtain ⟨hx, hb, hml, hown, hts⟩ := id CX
  have hl : lv_has ls 5 [(0, .ref (a 0)), (1, .int (nI i))] := hl
  refine lv_aload_n hx hb dX4_nextHeight_0 rfl (lv_at hl 0 rfl) ?_
  refine rg (T := TX4) (N := 8) CX hE hP in_X4_nextHeight_X4 0 rfl rfl 1 (by decide) fl_X4_nextHeight_23 rfl rfl dX4_nextHeight_1 ?_
  refine lv_iload_n hx hb dX4_nextHeight_4 rfl (lv_at hl 1 rfl) ?_
  refine rn_iald CX hE hP 2 rfl (j := i) (by omega) (ltb rfl) dX4_nextHeight_5 ?_
  refine lv_istore_n (lv' := [(2, .int (fl i)), (0, .ref (a 0)), (1, .int (nI i))]) hx hb dX4_nextHeight_6 rfl hl (by decide) rfl (fun ls hl => ?_)
  refine lv_iload_n hx hb dX4_nextHeight_7 rfl (lv_at hl 0 rfl) ?_
  have J_26 : ∀ v : Int32, v = (if fl i = nI 0 then st 1 else st 2) → W p_ l e_ ({ frames := 2, cells := 0, slots := 0, locals := 46 } : Room) s_ m_ ([.ref (a 0), .int (nI i)] : List Value).toArray below meth c_ s_.heap [] 0 0 (MQ below (vp_Si (fun r_ => r_ = (nextF st fl h ah i))) ([.ref (a 0), .int (nI i)] : List Value).toArray s_ 0 0 (fun _ => False)) (F0 m_ 26 ls [.int v]) := by
    intro v hv
    subst hv
    refine lv_istore_n (lv' := [(3, .int (if fl i = nI 0 then st 1 else st 2)), (2, .int (fl i)), (0, .ref (a 0)), (1, .int (nI i))]) hx hb dX4_nextHeight_26 rfl hl (by decide) rfl (fun ls hl => ?_)
    refine rn_iconst hx hb 2 rfl dX4_nextHeight_27 ?_
    refine lv_aload_n hx hb dX4_nextHeight_28 rfl (lv_at hl 2 rfl) ?_
    refine rg (T := TX4) (N := 8) CX hE hP in_X4_nextHeight_X4 0 rfl rfl 2 (by decide) fl_X4_nextHeight_26 rfl rfl dX4_nextHeight_29 ?_
    refine lv_iload_n hx hb dX4_nextHeight_32 rfl (lv_at hl 3 rfl) ?_
    refine rn_iald CX hE hP 3 rfl (j := i) (by omega) (ltb rfl) dX4_nextHeight_33 ?_
    refine lv_imul hx hb dX4_nextHeight_34 ?_
    refine lv_aload_n hx hb dX4_nextHeight_35 rfl (lv_at hl 2 rfl) ?_
    refine rg (T := TX4) (N := 8) CX hE hP in_X4_nextHeight_X4 0 rfl rfl 3 (by decide) fl_X4_nextHeight_29 rfl rfl dX4_nextHeight_36 ?_
    refine lv_iload_n hx hb dX4_nextHeight_39 rfl (lv_at hl 3 rfl) ?_
    refine rn_iald CX hE hP 4 rfl (j := i) (by omega) (ltb rfl) dX4_nextHeight_40 ?_
    refine lv_isub hx hb dX4_nextHeight_41 ?_
    refine lv_aload_n hx hb dX4_nextHeight_42 rfl (lv_at hl 2 rfl) ?_
    refine lv_iload_n hx hb dX4_nextHeight_43 rfl (lv_at hl 3 rfl) ?_
    refine roV CX hE hP (c_X4_slopeAt l G cA a tk fl h i (by omega)) (cwV 1 hts gX4_nextHeight_X4_slopeAt rfl rfl rfl hdv_X4_slopeAt ⟨Nat.le_of_ble_eq_true rfl, Nat.le_of_ble_eq_true rfl⟩) [0, 2, 3] rfl 0 rfl rfl rfl B0_blind (fun _ _ _ => trivial) rfl hl.1 (rest := [.int (((nI 2) * (h i)) - (ah i))]) rfl (Nat.le_of_ble_eq_true rfl) dX4_nextHeight_44 ⟨Nat.zero_le _, Nat.zero_le _⟩ ?_
    refine lv_iload_n hx hb dX4_nextHeight_47 rfl (lv_at hl 0 rfl) ?_
    refine lv_imul hx hb dX4_nextHeight_48 ?_
    refine lv_bipush (v := (nI 16)) hx hb dX4_nextHeight_49 kb_16 ?_
    refine lv_idiv hx hb dX4_nextHeight_51 (by decide +kernel) ?_
    refine lv_iadd hx hb dX4_nextHeight_52 ?_
    refine lv_istore (lv' := [(4, .int ((((nI 2) * (h i)) - (ah i)) + (((slopeF fl h i) * (if fl i = nI 0 then st 1 else st 2)) / (nI 16)))), (3, .int (if fl i = nI 0 then st 1 else st 2)), (2, .int (fl i)), (0, .ref (a 0)), (1, .int (nI i))]) hx hb dX4_nextHeight_53 hl (by decide) rfl (fun ls hl => ?_)
    refine lv_iload hx hb dX4_nextHeight_55 (lv_at hl 0 rfl) ?_
    refine lv_iload hx hb dX4_nextHeight_57 (lv_at hl 0 rfl) ?_
    refine lv_aload_n hx hb dX4_nextHeight_59 rfl (lv_at hl 3 rfl) ?_
    refine rg (T := TX4) (N := 8) CX hE hP in_X4_nextHeight_X4 0 rfl rfl 0 (by decide) fl_X4_nextHeight_18 rfl rfl dX4_nextHeight_60 ?_
    refine rn_iconst hx hb 0 rfl dX4_nextHeight_63 ?_
    refine rn_iald CX hE hP 1 rfl (j := 0) (by omega) (ltb rfl) dX4_nextHeight_64 ?_
    refine lv_imul hx hb dX4_nextHeight_65 ?_
    refine lv_sipush (v := (nI 1000)) hx hb dX4_nextHeight_66 ks_1000 ?_
    refine lv_idiv hx hb dX4_nextHeight_69 (by decide +kernel) ?_
    refine lv_isub hx hb dX4_nextHeight_70 ?_
    refine lv_istore (lv' := [(4, .int (((((nI 2) * (h i)) - (ah i)) + (((slopeF fl h i) * (if fl i = nI 0 then st 1 else st 2)) / (nI 16))) - ((((((nI 2) * (h i)) - (ah i)) + (((slopeF fl h i) * (if fl i = nI 0 then st 1 else st 2)) / (nI 16))) * (st 0)) / (nI 1000)))), (3, .int (if fl i = nI 0 then st 1 else st 2)), (2, .int (fl i)), (0, .ref (a 0)), (1, .int (nI i))]) hx hb dX4_nextHeight_71 hl (by decide) rfl (fun ls hl => ?_)
    refine lv_iload_n hx hb dX4_nextHeight_73 rfl (lv_at hl 2 rfl) ?_
    refine rn_iconst hx hb 3 rfl dX4_nextHeight_74 ?_
    refine lv_icmp_ne hx hb dX4_nextHeight_75 (by decide) (tgt := 84) (fun c_75 => ?_) (fun c_75 => ?_)
    · refine lv_iload hx hb dX4_nextHeight_84 (lv_at hl 0 rfl) ?_
      refine roSN CX hE hP (c_X5_bounded l G cA (((((nI 2) * (h i)) - (ah i)) + (((slopeF fl h i) * (if fl i = nI 0 then st 1 else st 2)) / (nI 16))) - ((((((nI 2) * (h i)) - (ah i)) + (((slopeF fl h i) * (if fl i = nI 0 then st 1 else st 2)) / (nI 16))) * (st 0)) / (nI 1000))) ) ⟨va_cnB 1 hts gX4_nextHeight_X5_bounded_n107 rfl rfl rfl (hE.2 _ nst_X4_107) (hts _ w_X4_nextHeight_ini_X5) hdn_X5_bounded ⟨Nat.le_of_ble_eq_true rfl, Nat.le_of_ble_eq_true rfl⟩, hts _ w_X4_nextHeight_st_X5_bounded, trivial⟩ [] rfl B0_blind (fun _ _ _ => trivial) rfl hl.1 (rest := []) rfl (Nat.le_of_ble_eq_true rfl) dX4_nextHeight_86 ⟨Nat.zero_le _, Nat.zero_le _⟩ ?_
      exact ro_ret CX hr hlk (by unfold nextF; first | (rw [if_pos c_75]; rfl) | (rw [if_neg c_75]; rfl)) rfl dX4_nextHeight_89
    · refine lv_iload hx hb dX4_nextHeight_78 (lv_at hl 0 rfl) ?_
      refine rn_iconst hx hb 2 rfl dX4_nextHeight_80 ?_
      refine lv_idiv hx hb dX4_nextHeight_81 (by decide +kernel) ?_
      refine lv_istore (lv' := [(4, .int ((((((nI 2) * (h i)) - (ah i)) + (((slopeF fl h i) * (if fl i = nI 0 then st 1 else st 2)) / (nI 16))) - ((((((nI 2) * (h i)) - (ah i)) + (((slopeF fl h i) * (if fl i = nI 0 then st 1 else st 2)) / (nI 16))) * (st 0)) / (nI 1000))) / (nI 2))), (3, .int (if fl i = nI 0 then st 1 else st 2)), (2, .int (fl i)), (0, .ref (a 0)), (1, .int (nI i))]) hx hb dX4_nextHeight_82 hl (by decide) rfl (fun ls hl => ?_)
      refine lv_iload hx hb dX4_nextHeight_84 (lv_at hl 0 rfl) ?_
      refine roSN CX hE hP (c_X5_bounded l G cA ((((((nI 2) * (h i)) - (ah i)) + (((slopeF fl h i) * (if fl i = nI 0 then st 1 else st 2)) / (nI 16))) - ((((((nI 2) * (h i)) - (ah i)) + (((slopeF fl h i) * (if fl i = nI 0 then st 1 else st 2)) / (nI 16))) * (st 0)) / (nI 1000))) / (nI 2)) ) ⟨va_cnB 1 hts gX4_nextHeight_X5_bounded_n107 rfl rfl rfl (hE.2 _ nst_X4_107) (hts _ w_X4_nextHeight_ini_X5) hdn_X5_bounded ⟨Nat.le_of_ble_eq_true rfl, Nat.le_of_ble_eq_true rfl⟩, hts _ w_X4_nextHeight_st_X5_bounded, trivial⟩ [] rfl B0_blind (fun _ _ _ => trivial) rfl hl.1 (rest := []) rfl (Nat.le_of_ble_eq_true rfl) dX4_nextHeight_86 ⟨Nat.zero_le _, Nat.zero_le _⟩ ?_
      exact ro_ret CX hr hlk (by unfold nextF; first | (rw [if_pos c_75]; rfl) | (rw [if_neg c_75]; rfl)) rfl dX4_nextHeight_89
  refine lv_if_ne hx hb dX4_nextHeight_8 (by decide) (tgt := 20) (fun c_8 => ?_) (fun c_8 => ?_)
  · refine lv_aload_n hx hb dX4_nextHeight_20 rfl (lv_at hl 1 rfl) ?_
    refine rg (T := TX4) (N := 8) CX hE hP in_X4_nextHeight_X4 0 rfl rfl 0 (by decide) fl_X4_nextHeight_18 rfl rfl dX4_nextHeight_21 ?_
    refine rn_iconst hx hb 2 rfl dX4_nextHeight_24 ?_
    refine rn_iald CX hE hP 1 rfl (j := 2) (by omega) (ltb rfl) dX4_nextHeight_25 ?_
    exact J_26 _ (by first | exact (if_pos c_8).symm | exact (if_neg c_8).symm)
  · refine lv_aload_n hx hb dX4_nextHeight_11 rfl (lv_at hl 1 rfl) ?_
    refine rg (T := TX4) (N := 8) CX hE hP in_X4_nextHeight_X4 0 rfl rfl 0 (by decide) fl_X4_nextHeight_18 rfl rfl dX4_nextHeight_12 ?_
    refine rn_iconst hx hb 1 rfl dX4_nextHeight_15 ?_
    refine rn_iald CX hE hP 1 rfl (j := 1) (by omega) (ltb rfl) dX4_nextHeight_16 ?_
    refine lv_goto (tgt := 26) hx hb dX4_nextHeight_17 (by decide) ?_
    exact J_26 _ (by first | exact (if_pos c_8).symm | exact (if_neg c_8).symm)
theorem hdv_X4_loudnessOf : yX4_loudnessOf.cls = RX4 ∧ yX4_loudnessOf.cls ≠ "java/lang/invoke/MethodHandle" ∧ yX4_loudnessOf.cls ≠ "java/lang/invoke/VarHandle" ∧ (parseMethodDescriptor yX4_loudnessOf.desc).map (fun d => d.parameters.length) = some 1 := by decide +kernel
theorem fl_X4_isStill_18 : Cond.fieldLink RX4 18 RX4 (TX4 0).2.1 (TX4 0).2.2.1 ∈ wsX4_isStill := by decide +kernel
theorem in_X4_isStill_X4 : ∀ w ∈ wsX40, w ∈ wsX4_isStill := by decide +kernel
theorem fl_X4_isStill_29 : Cond.fieldLink RX4 29 RX4 (TX4 3).2.1 (TX4 3).2.2.1 ∈ wsX4_isStill := by decide +kernel
theorem w_X4_isStill_mabsl : Cond.methodLink RX4 124 Lib.Math.abs.name ∈ wsX4_isStill := by decide +kernel
theorem w_X4_isStill_mabss : Cond.static Lib.Math.abs.name ∈ wsX4_isStill := by decide +kernel
theorem w_X4_isStill_mini : Cond.initialized "java/lang/Math" ∈ wsX4_isStill := by decide +kernel
theorem w_X4_isStill_mabsc : Cond.code Lib.Math.abs.name Lib.Math.abs.code 1 (some .int) ∈ wsX4_isStill := by decide +kernel
set_option maxHeartbeats 4000000 in
set_option maxRecDepth 100000 in
theorem c_X4_isStill (l : Launch) (G : va_G) (cA : Nat → ClassId) (a : Nat → Nat) (tk : Nat) (st : Nat → Int32) (h : Nat → Int32) (ah : Nat → Int32) (i : Nat) (hi : i < 60) : RO l yX4_isStill wsX4_isStill ({ frames := 2, cells := 0, slots := 0, locals := 45 }) G cA B0 [(a 0, .inr (4, [.ref (a 1), .ref (a 2), .ref (a 3), .ref (a 4), .ref (a 5), .ref (a 6), .ref (a 11), .int (nI tk)])), (a 1, .inl (cA 0, 4, .inl st)), (a 3, .inl (cA 0, 60, .inl h)), (a 4, .inl (cA 0, 60, .inl ah))] [.ref (a 0), .int (nI i)] (b2i (stillP st h ah i)) := by
  refine RO.mk (own := RX4) (by decide) rfl rfl (Nat.le_of_ble_eq_true rfl) (fun p_ e_ s_ m_ below meth c_ ls CX hr hlk hP hE hB hl => ?_)
  obtain ⟨hx, hb, hml, hown, hts⟩ := id CX
  have hl : lv_has ls 2 [(0, .ref (a 0)), (1, .int (nI i))] := hl
  refine lv_aload_n hx hb dX4_isStill_0 rfl (lv_at hl 0 rfl) ?_
  refine lv_iload_n hx hb dX4_isStill_1 rfl (lv_at hl 1 rfl) ?_
  refine roV CX hE hP (c_X4_loudnessOf l G cA a tk h i (by omega)) (cwV 1 hts gX4_isStill_X4_loudnessOf rfl rfl rfl hdv_X4_loudnessOf ⟨Nat.le_of_ble_eq_true rfl, Nat.le_of_ble_eq_true rfl⟩) [0, 2] rfl 0 rfl rfl rfl B0_blind (fun _ _ _ => trivial) rfl hl.1 (rest := []) rfl (Nat.le_of_ble_eq_true rfl) dX4_isStill_2 ⟨Nat.zero_le _, Nat.zero_le _⟩ ?_
  refine lv_aload_n hx hb dX4_isStill_5 rfl (lv_at hl 0 rfl) ?_
  refine rg (T := TX4) (N := 8) CX hE hP in_X4_isStill_X4 0 rfl rfl 0 (by decide) fl_X4_isStill_18 rfl rfl dX4_isStill_6 ?_
  refine rn_iconst hx hb 3 rfl dX4_isStill_9 ?_
  refine rn_iald CX hE hP 1 rfl (j := 3) (by omega) (ltb rfl) dX4_isStill_10 ?_
  refine lv_icmp_gt hx hb dX4_isStill_11 (by decide) (tgt := 36) (fun c_11 => ?_) (fun c_11 => ?_)
  · refine rn_iconst hx hb 0 rfl dX4_isStill_36 ?_
    exact ro_ret CX hr hlk (by first | exact b2i_t (by grind) | exact b2i_f (by grind)) rfl dX4_isStill_37
  · refine lv_aload_n hx hb dX4_isStill_14 rfl (lv_at hl 0 rfl) ?_
    refine rg (T := TX4) (N := 8) CX hE hP in_X4_isStill_X4 0 rfl rfl 3 (by decide) fl_X4_isStill_29 rfl rfl dX4_isStill_15 ?_
    refine lv_iload_n hx hb dX4_isStill_18 rfl (lv_at hl 1 rfl) ?_
    refine rn_iald CX hE hP 3 rfl (j := i) (by omega) (ltb rfl) dX4_isStill_19 ?_
    refine va_mabs hx hb (by rw [hml]; exact hl.1.symm) hown (hts _ w_X4_isStill_mabsl) (hts _ w_X4_isStill_mabss) (hts _ w_X4_isStill_mini) (hts _ w_X4_isStill_mabsc) (Nat.le_of_ble_eq_true rfl) (Nat.le_of_ble_eq_true rfl) (Nat.zero_le _) (Nat.zero_le _) dX4_isStill_20 ?_
    refine rn_top (iabs (ah i)) rfl ?_
    refine lv_aload_n hx hb dX4_isStill_23 rfl (lv_at hl 0 rfl) ?_
    refine rg (T := TX4) (N := 8) CX hE hP in_X4_isStill_X4 0 rfl rfl 0 (by decide) fl_X4_isStill_18 rfl rfl dX4_isStill_24 ?_
    refine rn_iconst hx hb 3 rfl dX4_isStill_27 ?_
    refine rn_iald CX hE hP 1 rfl (j := 3) (by omega) (ltb rfl) dX4_isStill_28 ?_
    refine lv_icmp_gt hx hb dX4_isStill_29 (by decide) (tgt := 36) (fun c_29 => ?_) (fun c_29 => ?_)
    · refine rn_iconst hx hb 0 rfl dX4_isStill_36 ?_
      exact ro_ret CX hr hlk (by first | exact b2i_t (by grind) | exact b2i_f (by grind)) rfl dX4_isStill_37
    · refine rn_iconst hx hb 1 rfl dX4_isStill_32 ?_
      refine lv_goto (tgt := 37) hx hb dX4_isStill_33 (by decide) ?_
      exact ro_ret CX hr hlk (by first | exact b2i_t (by grind) | exact b2i_f (by grind)) rfl dX4_isStill_37
theorem hdv_X4_heightAt : yX4_heightAt.cls = RX4 ∧ yX4_heightAt.cls ≠ "java/lang/invoke/MethodHandle" ∧ yX4_heightAt.cls ≠ "java/lang/invoke/VarHandle" ∧ (parseMethodDescriptor yX4_heightAt.desc).map (fun d => d.parameters.length) = some 2 := by decide +kernel
set_option maxHeartbeats 4000000 in
set_option maxRecDepth 100000 in
theorem c_X4_isCrest (l : Launch) (G : va_G) (cA : Nat → ClassId) (a : Nat → Nat) (tk : Nat) (h : Nat → Int32) (x : Nat) (y : Nat) (hx : x < 10) (hy : y < 6) : RO l yX4_isCrest wsX4_isCrest ({ frames := 3, cells := 0, slots := 0, locals := 65 }) G cA B0 [(a 0, .inr (4, [.ref (a 1), .ref (a 2), .ref (a 3), .ref (a 4), .ref (a 5), .ref (a 6), .ref (a 11), .int (nI tk)])), (a 3, .inl (cA 0, 60, .inl h))] [.ref (a 0), .int (nI x), .int (nI y)] (b2i (crestP h x y)) := by
  refine RO.mk (own := RX4) (by decide) rfl rfl (Nat.le_of_ble_eq_true rfl) (fun p_ e_ s_ m_ below meth c_ ls CX hr hlk hP hE hB hl => ?_)
  obtain ⟨hx, hb, hml, hown, hts⟩ := id CX
  have hl : lv_has ls 4 [(0, .ref (a 0)), (1, .int (nI x)), (2, .int (nI y))] := hl
  refine lv_aload_n hx hb dX4_isCrest_0 rfl (lv_at hl 0 rfl) ?_
  refine lv_iload_n hx hb dX4_isCrest_1 rfl (lv_at hl 1 rfl) ?_
  refine lv_iload_n hx hb dX4_isCrest_2 rfl (lv_at hl 2 rfl) ?_
  refine roV CX hE hP (c_X4_heightAt l G cA a tk h (nI x) (nI y) ) (cwV 2 hts gX4_isCrest_X4_heightAt rfl rfl rfl hdv_X4_heightAt ⟨Nat.le_of_ble_eq_true rfl, Nat.le_of_ble_eq_true rfl⟩) [0, 1] rfl 0 rfl rfl rfl B0_blind (fun _ _ _ => trivial) rfl hl.1 (rest := []) rfl (Nat.le_of_ble_eq_true rfl) dX4_isCrest_3 ⟨Nat.zero_le _, Nat.zero_le _⟩ ?_
  refine lv_istore_n (lv' := [(3, .int (heightAtF h (nI x) (nI y))), (0, .ref (a 0)), (1, .int (nI x)), (2, .int (nI y))]) hx hb dX4_isCrest_6 rfl hl (by decide) rfl (fun ls hl => ?_)
  refine lv_iload_n hx hb dX4_isCrest_7 rfl (lv_at hl 0 rfl) ?_
  refine lv_if_le hx hb dX4_isCrest_8 (by decide) (tgt := 39) (fun c_8 => ?_) (fun c_8 => ?_)
  · refine rn_iconst hx hb 0 rfl dX4_isCrest_39 ?_
    exact ro_ret CX hr hlk (by first | exact b2i_t (by grind) | exact b2i_f (by grind)) rfl dX4_isCrest_40
  · refine lv_iload_n hx hb dX4_isCrest_11 rfl (lv_at hl 0 rfl) ?_
    refine lv_aload_n hx hb dX4_isCrest_12 rfl (lv_at hl 1 rfl) ?_
    refine lv_iload_n hx hb dX4_isCrest_13 rfl (lv_at hl 2 rfl) ?_
    refine rn_iconst hx hb 1 rfl dX4_isCrest_14 ?_
    refine lv_isub hx hb dX4_isCrest_15 ?_
    refine lv_iload_n hx hb dX4_isCrest_16 rfl (lv_at hl 3 rfl) ?_
    refine roV CX hE hP (c_X4_heightAt l G cA a tk h ((nI x) - (nI 1)) (nI y) ) (cwV 2 hts gX4_isCrest_X4_heightAt rfl rfl rfl hdv_X4_heightAt ⟨Nat.le_of_ble_eq_true rfl, Nat.le_of_ble_eq_true rfl⟩) [0, 1] rfl 0 rfl rfl rfl B0_blind (fun _ _ _ => trivial) rfl hl.1 (rest := [.int (heightAtF h (nI x) (nI y))]) rfl (Nat.le_of_ble_eq_true rfl) dX4_isCrest_17 ⟨Nat.zero_le _, Nat.zero_le _⟩ ?_
    refine lv_icmp_le hx hb dX4_isCrest_20 (by decide) (tgt := 39) (fun c_20 => ?_) (fun c_20 => ?_)
    · refine rn_iconst hx hb 0 rfl dX4_isCrest_39 ?_
      exact ro_ret CX hr hlk (by first | exact b2i_t (by grind) | exact b2i_f (by grind)) rfl dX4_isCrest_40
    · refine lv_iload_n hx hb dX4_isCrest_23 rfl (lv_at hl 0 rfl) ?_
      refine lv_aload_n hx hb dX4_isCrest_24 rfl (lv_at hl 1 rfl) ?_
      refine lv_iload_n hx hb dX4_isCrest_25 rfl (lv_at hl 2 rfl) ?_
      refine rn_iconst hx hb 1 rfl dX4_isCrest_26 ?_
      refine rn_iadd hx hb dX4_isCrest_27 ?_
      refine lv_iload_n hx hb dX4_isCrest_28 rfl (lv_at hl 3 rfl) ?_
      refine roV CX hE hP (c_X4_heightAt l G cA a tk h (nI (x + 1)) (nI y) ) (cwV 2 hts gX4_isCrest_X4_heightAt rfl rfl rfl hdv_X4_heightAt ⟨Nat.le_of_ble_eq_true rfl, Nat.le_of_ble_eq_true rfl⟩) [0, 1] rfl 0 rfl rfl rfl B0_blind (fun _ _ _ => trivial) rfl hl.1 (rest := [.int (heightAtF h (nI x) (nI y))]) rfl (Nat.le_of_ble_eq_true rfl) dX4_isCrest_29 ⟨Nat.zero_le _, Nat.zero_le _⟩ ?_
      refine lv_icmp_le hx hb dX4_isCrest_32 (by decide) (tgt := 39) (fun c_32 => ?_) (fun c_32 => ?_)
      · refine rn_iconst hx hb 0 rfl dX4_isCrest_39 ?_
        exact ro_ret CX hr hlk (by first | exact b2i_t (by grind) | exact b2i_f (by grind)) rfl dX4_isCrest_40
      · refine rn_iconst hx hb 1 rfl dX4_isCrest_35 ?_
        refine lv_goto (tgt := 40) hx hb dX4_isCrest_36 (by decide) ?_
        exact ro_ret CX hr hlk (by first | exact b2i_t (by grind) | exact b2i_f (by grind)) rfl dX4_isCrest_40
theorem kb_60 : (Int8.ofInt (60)).toInt32 = (nI 60) := by decide +kernel
theorem fl_X4_openCells_23 : Cond.fieldLink RX4 23 RX4 (TX4 1).2.1 (TX4 1).2.2.1 ∈ wsX4_openCells := by decide +kernel
theorem in_X4_openCells_X4 : ∀ w ∈ wsX40, w ∈ wsX4_openCells := by decide +kernel
set_option maxHeartbeats 4000000 in
set_option maxRecDepth 100000 in
theorem c_X4_openCells (l : Launch) (G : va_G) (cA : Nat → ClassId) (a : Nat → Nat) (tk : Nat) (fl : Nat → Int32)  : RO l yX4_openCells wsX4_openCells ({ frames := 0, cells := 0, slots := 0, locals := 0 }) G cA B0 [(a 0, .inr (4, [.ref (a 1), .ref (a 2), .ref (a 3), .ref (a 4), .ref (a 5), .ref (a 6), .ref (a 11), .int (nI tk)])), (a 2, .inl (cA 0, 60, .inl fl))] [.ref (a 0)] (openF fl) := by
  refine RO.mk (own := RX4) (by decide) rfl rfl (Nat.le_of_ble_eq_true rfl) (fun p_ e_ s_ m_ below meth c_ ls CX hr hlk hP hE hB hl => ?_)
  obtain ⟨hx, hb, hml, hown, hts⟩ := id CX
  have hl : lv_has ls 3 [(0, .ref (a 0))] := hl
  refine rn_iconst hx hb 0 rfl dX4_openCells_0 ?_
  refine lv_istore_n (lv' := [(1, .int (nI 0)), (0, .ref (a 0))]) hx hb dX4_openCells_1 rfl hl (by decide) rfl (fun ls hl => ?_)
  refine rn_iconst hx hb 0 rfl dX4_openCells_2 ?_
  refine lv_istore_n (lv' := [(2, .int (nI 0)), (1, .int (nI 0)), (0, .ref (a 0))]) hx hb dX4_openCells_3 rfl hl (by decide) rfl (fun ls hl => ?_)
  have LP_4 : ∀ (nn_ : Nat) (i : Nat) (mm : Int32), (60 - i) < nn_ → (i ≤ 60) → (mm = sumI i (fun j => if fl j = nI 2 then nI 0 else nI 1)) → ∀ ls : Array Slot, lv_has ls 3 [(0, .ref (a 0)), (1, .int mm), (2, .int (nI i))] → W p_ l e_ ({ frames := 0, cells := 0, slots := 0, locals := 0 } : Room) s_ m_ ([.ref (a 0)] : List Value).toArray below meth c_ s_.heap [] 0 0 (MQ below (vp_Si (fun r_ => r_ = (openF fl))) ([.ref (a 0)] : List Value).toArray s_ 0 0 (fun _ => False)) (F0 m_ 4 ls []) := by
    intro nn_
    induction nn_ with
    | zero => intro i mm hmu; exact absurd hmu (Nat.not_lt_zero _)
    | succ nn_ ih =>
      have ih_4 := ih
      clear ih
      intro i mm hmu_4 hi hm ls hl
      refine lv_iload_n hx hb dX4_openCells_4 rfl (lv_at hl 2 rfl) ?_
      refine lv_bipush (v := (nI 60)) hx hb dX4_openCells_5 kb_60 ?_
      refine rn_icmp_ge hx hb (by omega) (by omega) dX4_openCells_7 (by decide) (tgt := 29) (fun c_7 => ?_) (fun c_7 => ?_)
      · refine lv_iload_n hx hb dX4_openCells_29 rfl (lv_at hl 1 rfl) ?_
        exact ro_ret CX hr hlk (by rw [hm, show i = 60 by omega]; rfl) rfl dX4_openCells_30
      · refine lv_aload_n hx hb dX4_openCells_10 rfl (lv_at hl 0 rfl) ?_
        refine rg (T := TX4) (N := 8) CX hE hP in_X4_openCells_X4 0 rfl rfl 1 (by decide) fl_X4_openCells_23 rfl rfl dX4_openCells_11 ?_
        refine lv_iload_n hx hb dX4_openCells_14 rfl (lv_at hl 2 rfl) ?_
        refine rn_iald CX hE hP 1 rfl (j := i) (by omega) (ltb rfl) dX4_openCells_15 ?_
        refine rn_iconst hx hb 2 rfl dX4_openCells_16 ?_
        refine lv_icmp_eq hx hb dX4_openCells_17 (by decide) (tgt := 23) (fun c_17 => ?_) (fun c_17 => ?_)
        · refine rn_iinc hx hb (n := 1) (lv' := [(2, .int (nI (i + 1))), (0, .ref (a 0)), (1, .int mm)]) rfl dX4_openCells_23 hl (k := 2) rfl (by decide) rfl (fun ls hl => ?_)
          refine lv_goto (tgt := 4) hx hb dX4_openCells_26 (by decide) ?_
          exact ih_4 (i + 1) mm (by omega) (by omega) (by rw [hm]; simp only [sumI]; first | (rw [if_pos c_17]; first | rfl | exact (add0 _).symm) | (rw [if_neg c_17]; first | rfl | exact (add0 _).symm)) ls (lv_sub hl [1, 2, 0] rfl)
        · refine lv_iinc (v := (mm + 1)) (lv' := [(1, .int (mm + 1)), (0, .ref (a 0)), (2, .int (nI i))]) hx hb dX4_openCells_20 hl (k := 1) rfl rfl (by decide) rfl (fun ls hl => ?_)
          refine rn_iinc hx hb (n := 1) (lv' := [(2, .int (nI (i + 1))), (1, .int (mm + 1)), (0, .ref (a 0))]) rfl dX4_openCells_23 hl (k := 2) rfl (by decide) rfl (fun ls hl => ?_)
          refine lv_goto (tgt := 4) hx hb dX4_openCells_26 (by decide) ?_
          exact ih_4 (i + 1) (mm + 1) (by omega) (by omega) (by rw [hm]; simp only [sumI]; first | (rw [if_pos c_17]; first | rfl | exact (add0 _).symm) | (rw [if_neg c_17]; first | rfl | exact (add0 _).symm)) ls (lv_sub hl [2, 1, 0] rfl)
  exact LP_4 _ 0 (nI 0) (Nat.lt_succ_self _) (by omega) rfl ls (lv_sub hl [2, 1, 0] rfl)
theorem fl_X4_reachedCells_32 : Cond.fieldLink RX4 32 RX4 (TX4 4).2.1 (TX4 4).2.2.1 ∈ wsX4_reachedCells := by decide +kernel
theorem in_X4_reachedCells_X4 : ∀ w ∈ wsX40, w ∈ wsX4_reachedCells := by decide +kernel
theorem kb_m6 : (Int8.ofInt (-6)).toInt32 = (-6) := by decide +kernel
set_option maxHeartbeats 4000000 in
set_option maxRecDepth 100000 in
theorem c_X4_reachedCells (l : Launch) (G : va_G) (cA : Nat → ClassId) (a : Nat → Nat) (tk : Nat) (fi : Nat → Int32)  : RO l yX4_reachedCells wsX4_reachedCells ({ frames := 0, cells := 0, slots := 0, locals := 0 }) G cA B0 [(a 0, .inr (4, [.ref (a 1), .ref (a 2), .ref (a 3), .ref (a 4), .ref (a 5), .ref (a 6), .ref (a 11), .int (nI tk)])), (a 5, .inl (cA 0, 60, .inl fi))] [.ref (a 0)] (reachF fi) := by
  refine RO.mk (own := RX4) (by decide) rfl rfl (Nat.le_of_ble_eq_true rfl) (fun p_ e_ s_ m_ below meth c_ ls CX hr hlk hP hE hB hl => ?_)
  obtain ⟨hx, hb, hml, hown, hts⟩ := id CX
  have hl : lv_has ls 3 [(0, .ref (a 0))] := hl
  refine rn_iconst hx hb 0 rfl dX4_reachedCells_0 ?_
  refine lv_istore_n (lv' := [(1, .int (nI 0)), (0, .ref (a 0))]) hx hb dX4_reachedCells_1 rfl hl (by decide) rfl (fun ls hl => ?_)
  refine rn_iconst hx hb 0 rfl dX4_reachedCells_2 ?_
  refine lv_istore_n (lv' := [(2, .int (nI 0)), (1, .int (nI 0)), (0, .ref (a 0))]) hx hb dX4_reachedCells_3 rfl hl (by decide) rfl (fun ls hl => ?_)
  have LP_4 : ∀ (nn_ : Nat) (i : Nat) (mm : Int32), (60 - i) < nn_ → (i ≤ 60) → (mm = sumI i (fun j => if fi j = -6 then nI 0 else nI 1)) → ∀ ls : Array Slot, lv_has ls 3 [(0, .ref (a 0)), (1, .int mm), (2, .int (nI i))] → W p_ l e_ ({ frames := 0, cells := 0, slots := 0, locals := 0 } : Room) s_ m_ ([.ref (a 0)] : List Value).toArray below meth c_ s_.heap [] 0 0 (MQ below (vp_Si (fun r_ => r_ = (reachF fi))) ([.ref (a 0)] : List Value).toArray s_ 0 0 (fun _ => False)) (F0 m_ 4 ls []) := by
    intro nn_
    induction nn_ with
    | zero => intro i mm hmu; exact absurd hmu (Nat.not_lt_zero _)
    | succ nn_ ih =>
      have ih_4 := ih
      clear ih
      intro i mm hmu_4 hi hm ls hl
      refine lv_iload_n hx hb dX4_reachedCells_4 rfl (lv_at hl 2 rfl) ?_
      refine lv_bipush (v := (nI 60)) hx hb dX4_reachedCells_5 kb_60 ?_
      refine rn_icmp_ge hx hb (by omega) (by omega) dX4_reachedCells_7 (by decide) (tgt := 30) (fun c_7 => ?_) (fun c_7 => ?_)
      · refine lv_iload_n hx hb dX4_reachedCells_30 rfl (lv_at hl 1 rfl) ?_
        exact ro_ret CX hr hlk (by rw [hm, show i = 60 by omega]; rfl) rfl dX4_reachedCells_31
      · refine lv_aload_n hx hb dX4_reachedCells_10 rfl (lv_at hl 0 rfl) ?_
        refine rg (T := TX4) (N := 8) CX hE hP in_X4_reachedCells_X4 0 rfl rfl 4 (by decide) fl_X4_reachedCells_32 rfl rfl dX4_reachedCells_11 ?_
        refine lv_iload_n hx hb dX4_reachedCells_14 rfl (lv_at hl 2 rfl) ?_
        refine rn_iald CX hE hP 1 rfl (j := i) (by omega) (ltb rfl) dX4_reachedCells_15 ?_
        refine lv_bipush (v := (-6)) hx hb dX4_reachedCells_16 kb_m6 ?_
        refine lv_icmp_eq hx hb dX4_reachedCells_18 (by decide) (tgt := 24) (fun c_18 => ?_) (fun c_18 => ?_)
        · refine rn_iinc hx hb (n := 1) (lv' := [(2, .int (nI (i + 1))), (0, .ref (a 0)), (1, .int mm)]) rfl dX4_reachedCells_24 hl (k := 2) rfl (by decide) rfl (fun ls hl => ?_)
          refine lv_goto (tgt := 4) hx hb dX4_reachedCells_27 (by decide) ?_
          exact ih_4 (i + 1) mm (by omega) (by omega) (by rw [hm]; simp only [sumI]; first | (rw [if_pos c_18]; first | rfl | exact (add0 _).symm) | (rw [if_neg c_18]; first | rfl | exact (add0 _).symm)) ls (lv_sub hl [1, 2, 0] rfl)
        · refine lv_iinc (v := (mm + 1)) (lv' := [(1, .int (mm + 1)), (0, .ref (a 0)), (2, .int (nI i))]) hx hb dX4_reachedCells_21 hl (k := 1) rfl rfl (by decide) rfl (fun ls hl => ?_)
          refine rn_iinc hx hb (n := 1) (lv' := [(2, .int (nI (i + 1))), (1, .int (mm + 1)), (0, .ref (a 0))]) rfl dX4_reachedCells_24 hl (k := 2) rfl (by decide) rfl (fun ls hl => ?_)
          refine lv_goto (tgt := 4) hx hb dX4_reachedCells_27 (by decide) ?_
          exact ih_4 (i + 1) (mm + 1) (by omega) (by omega) (by rw [hm]; simp only [sumI]; first | (rw [if_pos c_18]; first | rfl | exact (add0 _).symm) | (rw [if_neg c_18]; first | rfl | exact (add0 _).symm)) ls (lv_sub hl [2, 1, 0] rfl)
  exact LP_4 _ 0 (nI 0) (Nat.lt_succ_self _) (by omega) rfl ls (lv_sub hl [2, 1, 0] rfl)
theorem fl_X4_restlessCells_23 : Cond.fieldLink RX4 23 RX4 (TX4 1).2.1 (TX4 1).2.2.1 ∈ wsX4_restlessCells := by decide +kernel
theorem in_X4_restlessCells_X4 : ∀ w ∈ wsX40, w ∈ wsX4_restlessCells := by decide +kernel
theorem hdv_X4_isStill : yX4_isStill.cls = RX4 ∧ yX4_isStill.cls ≠ "java/lang/invoke/MethodHandle" ∧ yX4_isStill.cls ≠ "java/lang/invoke/VarHandle" ∧ (parseMethodDescriptor yX4_isStill.desc).map (fun d => d.parameters.length) = some 1 := by decide +kernel
set_option maxHeartbeats 4000000 in
set_option maxRecDepth 100000 in
theorem c_X4_restlessCells (l : Launch) (G : va_G) (cA : Nat → ClassId) (a : Nat → Nat) (tk : Nat) (st : Nat → Int32) (fl : Nat → Int32) (h : Nat → Int32) (ah : Nat → Int32)  : RO l yX4_restlessCells wsX4_restlessCells ({ frames := 3, cells := 0, slots := 0, locals := 66 }) G cA B0 [(a 0, .inr (4, [.ref (a 1), .ref (a 2), .ref (a 3), .ref (a 4), .ref (a 5), .ref (a 6), .ref (a 11), .int (nI tk)])), (a 1, .inl (cA 0, 4, .inl st)), (a 2, .inl (cA 0, 60, .inl fl)), (a 3, .inl (cA 0, 60, .inl h)), (a 4, .inl (cA 0, 60, .inl ah))] [.ref (a 0)] (restF st fl h ah) := by
  refine RO.mk (own := RX4) (by decide) rfl rfl (Nat.le_of_ble_eq_true rfl) (fun p_ e_ s_ m_ below meth c_ ls CX hr hlk hP hE hB hl => ?_)
  obtain ⟨hx, hb, hml, hown, hts⟩ := id CX
  have hl : lv_has ls 3 [(0, .ref (a 0))] := hl
  refine rn_iconst hx hb 0 rfl dX4_restlessCells_0 ?_
  refine lv_istore_n (lv' := [(1, .int (nI 0)), (0, .ref (a 0))]) hx hb dX4_restlessCells_1 rfl hl (by decide) rfl (fun ls hl => ?_)
  refine rn_iconst hx hb 0 rfl dX4_restlessCells_2 ?_
  refine lv_istore_n (lv' := [(2, .int (nI 0)), (1, .int (nI 0)), (0, .ref (a 0))]) hx hb dX4_restlessCells_3 rfl hl (by decide) rfl (fun ls hl => ?_)
  have LP_4 : ∀ (nn_ : Nat) (i : Nat) (mm : Int32), (60 - i) < nn_ → (i ≤ 60) → (mm = sumI i (fun j => if fl j = nI 2 then nI 0 else if stillP st h ah j then nI 0 else nI 1)) → ∀ ls : Array Slot, lv_has ls 3 [(0, .ref (a 0)), (1, .int mm), (2, .int (nI i))] → W p_ l e_ ({ frames := 3, cells := 0, slots := 0, locals := 66 } : Room) s_ m_ ([.ref (a 0)] : List Value).toArray below meth c_ s_.heap [] 0 0 (MQ below (vp_Si (fun r_ => r_ = (restF st fl h ah))) ([.ref (a 0)] : List Value).toArray s_ 0 0 (fun _ => False)) (F0 m_ 4 ls []) := by
    intro nn_
    induction nn_ with
    | zero => intro i mm hmu; exact absurd hmu (Nat.not_lt_zero _)
    | succ nn_ ih =>
      have ih_4 := ih
      clear ih
      intro i mm hmu_4 hi hm ls hl
      refine lv_iload_n hx hb dX4_restlessCells_4 rfl (lv_at hl 2 rfl) ?_
      refine lv_bipush (v := (nI 60)) hx hb dX4_restlessCells_5 kb_60 ?_
      refine rn_icmp_ge hx hb (by omega) (by omega) dX4_restlessCells_7 (by decide) (tgt := 37) (fun c_7 => ?_) (fun c_7 => ?_)
      · refine lv_iload_n hx hb dX4_restlessCells_37 rfl (lv_at hl 1 rfl) ?_
        exact ro_ret CX hr hlk (by rw [hm, show i = 60 by omega]; rfl) rfl dX4_restlessCells_38
      · refine lv_aload_n hx hb dX4_restlessCells_10 rfl (lv_at hl 0 rfl) ?_
        refine rg (T := TX4) (N := 8) CX hE hP in_X4_restlessCells_X4 0 rfl rfl 1 (by decide) fl_X4_restlessCells_23 rfl rfl dX4_restlessCells_11 ?_
        refine lv_iload_n hx hb dX4_restlessCells_14 rfl (lv_at hl 2 rfl) ?_
        refine rn_iald CX hE hP 2 rfl (j := i) (by omega) (ltb rfl) dX4_restlessCells_15 ?_
        refine rn_iconst hx hb 2 rfl dX4_restlessCells_16 ?_
        refine lv_icmp_eq hx hb dX4_restlessCells_17 (by decide) (tgt := 31) (fun c_17 => ?_) (fun c_17 => ?_)
        · refine rn_iinc hx hb (n := 1) (lv' := [(2, .int (nI (i + 1))), (0, .ref (a 0)), (1, .int mm)]) rfl dX4_restlessCells_31 hl (k := 2) rfl (by decide) rfl (fun ls hl => ?_)
          refine lv_goto (tgt := 4) hx hb dX4_restlessCells_34 (by decide) ?_
          exact ih_4 (i + 1) mm (by omega) (by omega) (by rw [hm]; simp only [sumI]; first | (rw [if_pos c_17]; exact (add0 _).symm) | (rw [if_neg c_17, if_pos c_25]; exact (add0 _).symm) | (rw [if_neg c_17, if_neg c_25]; rfl)) ls (lv_sub hl [1, 2, 0] rfl)
        · refine lv_aload_n hx hb dX4_restlessCells_20 rfl (lv_at hl 0 rfl) ?_
          refine lv_iload_n hx hb dX4_restlessCells_21 rfl (lv_at hl 2 rfl) ?_
          refine roV CX hE hP (c_X4_isStill l G cA a tk st h ah i (by omega)) (cwV 1 hts gX4_restlessCells_X4_isStill rfl rfl rfl hdv_X4_isStill ⟨Nat.le_of_ble_eq_true rfl, Nat.le_of_ble_eq_true rfl⟩) [0, 1, 3, 4] rfl 0 rfl rfl rfl B0_blind (fun _ _ _ => trivial) rfl hl.1 (rest := []) rfl (Nat.le_of_ble_eq_true rfl) dX4_restlessCells_22 ⟨Nat.zero_le _, Nat.zero_le _⟩ ?_
          refine rb_if_ne hx hb dX4_restlessCells_25 (by decide) (tgt := 31) (fun c_25 => ?_) (fun c_25 => ?_)
          · refine rn_iinc hx hb (n := 1) (lv' := [(2, .int (nI (i + 1))), (0, .ref (a 0)), (1, .int mm)]) rfl dX4_restlessCells_31 hl (k := 2) rfl (by decide) rfl (fun ls hl => ?_)
            refine lv_goto (tgt := 4) hx hb dX4_restlessCells_34 (by decide) ?_
            exact ih_4 (i + 1) mm (by omega) (by omega) (by rw [hm]; simp only [sumI]; first | (rw [if_pos c_17]; exact (add0 _).symm) | (rw [if_neg c_17, if_pos c_25]; exact (add0 _).symm) | (rw [if_neg c_17, if_neg c_25]; rfl)) ls (lv_sub hl [1, 2, 0] rfl)
          · refine lv_iinc (v := (mm + 1)) (lv' := [(1, .int (mm + 1)), (0, .ref (a 0)), (2, .int (nI i))]) hx hb dX4_restlessCells_28 hl (k := 1) rfl rfl (by decide) rfl (fun ls hl => ?_)
            refine rn_iinc hx hb (n := 1) (lv' := [(2, .int (nI (i + 1))), (1, .int (mm + 1)), (0, .ref (a 0))]) rfl dX4_restlessCells_31 hl (k := 2) rfl (by decide) rfl (fun ls hl => ?_)
            refine lv_goto (tgt := 4) hx hb dX4_restlessCells_34 (by decide) ?_
            exact ih_4 (i + 1) (mm + 1) (by omega) (by omega) (by rw [hm]; simp only [sumI]; first | (rw [if_pos c_17]; exact (add0 _).symm) | (rw [if_neg c_17, if_pos c_25]; exact (add0 _).symm) | (rw [if_neg c_17, if_neg c_25]; rfl)) ls (lv_sub hl [2, 1, 0] rfl)
  exact LP_4 _ 0 (nI 0) (Nat.lt_succ_self _) (by omega) rfl ls (lv_sub hl [2, 1, 0] rfl)
theorem fl_X4_sum_26 : Cond.fieldLink RX4 26 RX4 (TX4 2).2.1 (TX4 2).2.2.1 ∈ wsX4_sum := by decide +kernel
theorem in_X4_sum_X4 : ∀ w ∈ wsX40, w ∈ wsX4_sum := by decide +kernel
set_option maxHeartbeats 4000000 in
set_option maxRecDepth 100000 in
theorem c_X4_sum (l : Launch) (G : va_G) (cA : Nat → ClassId) (a : Nat → Nat) (tk : Nat) (h : Nat → Int32)  : RO l yX4_sum wsX4_sum ({ frames := 0, cells := 0, slots := 0, locals := 0 }) G cA B0 [(a 0, .inr (4, [.ref (a 1), .ref (a 2), .ref (a 3), .ref (a 4), .ref (a 5), .ref (a 6), .ref (a 11), .int (nI tk)])), (a 3, .inl (cA 0, 60, .inl h))] [.ref (a 0)] (sumI 60 h) := by
  refine RO.mk (own := RX4) (by decide) rfl rfl (Nat.le_of_ble_eq_true rfl) (fun p_ e_ s_ m_ below meth c_ ls CX hr hlk hP hE hB hl => ?_)
  obtain ⟨hx, hb, hml, hown, hts⟩ := id CX
  have hl : lv_has ls 3 [(0, .ref (a 0))] := hl
  refine rn_iconst hx hb 0 rfl dX4_sum_0 ?_
  refine lv_istore_n (lv' := [(1, .int (nI 0)), (0, .ref (a 0))]) hx hb dX4_sum_1 rfl hl (by decide) rfl (fun ls hl => ?_)
  refine rn_iconst hx hb 0 rfl dX4_sum_2 ?_
  refine lv_istore_n (lv' := [(2, .int (nI 0)), (1, .int (nI 0)), (0, .ref (a 0))]) hx hb dX4_sum_3 rfl hl (by decide) rfl (fun ls hl => ?_)
  have LP_4 : ∀ (nn_ : Nat) (i : Nat) (mm : Int32), (60 - i) < nn_ → (i ≤ 60) → (mm = sumI i (fun j => h j)) → ∀ ls : Array Slot, lv_has ls 3 [(0, .ref (a 0)), (1, .int mm), (2, .int (nI i))] → W p_ l e_ ({ frames := 0, cells := 0, slots := 0, locals := 0 } : Room) s_ m_ ([.ref (a 0)] : List Value).toArray below meth c_ s_.heap [] 0 0 (MQ below (vp_Si (fun r_ => r_ = (sumI 60 h))) ([.ref (a 0)] : List Value).toArray s_ 0 0 (fun _ => False)) (F0 m_ 4 ls []) := by
    intro nn_
    induction nn_ with
    | zero => intro i mm hmu; exact absurd hmu (Nat.not_lt_zero _)
    | succ nn_ ih =>
      have ih_4 := ih
      clear ih
      intro i mm hmu_4 hi hm ls hl
      refine lv_iload_n hx hb dX4_sum_4 rfl (lv_at hl 2 rfl) ?_
      refine lv_bipush (v := (nI 60)) hx hb dX4_sum_5 kb_60 ?_
      refine rn_icmp_ge hx hb (by omega) (by omega) dX4_sum_7 (by decide) (tgt := 25) (fun c_7 => ?_) (fun c_7 => ?_)
      · refine lv_iload_n hx hb dX4_sum_25 rfl (lv_at hl 1 rfl) ?_
        exact ro_ret CX hr hlk (by rw [hm, show i = 60 by omega]) rfl dX4_sum_26
      · refine lv_iload_n hx hb dX4_sum_10 rfl (lv_at hl 1 rfl) ?_
        refine lv_aload_n hx hb dX4_sum_11 rfl (lv_at hl 0 rfl) ?_
        refine rg (T := TX4) (N := 8) CX hE hP in_X4_sum_X4 0 rfl rfl 2 (by decide) fl_X4_sum_26 rfl rfl dX4_sum_12 ?_
        refine lv_iload_n hx hb dX4_sum_15 rfl (lv_at hl 2 rfl) ?_
        refine rn_iald CX hE hP 1 rfl (j := i) (by omega) (ltb rfl) dX4_sum_16 ?_
        refine lv_iadd hx hb dX4_sum_17 ?_
        refine lv_istore_n (lv' := [(1, .int (mm + (h i))), (0, .ref (a 0)), (2, .int (nI i))]) hx hb dX4_sum_18 rfl hl (by decide) rfl (fun ls hl => ?_)
        refine rn_iinc hx hb (n := 1) (lv' := [(2, .int (nI (i + 1))), (1, .int (mm + (h i))), (0, .ref (a 0))]) rfl dX4_sum_19 hl (k := 2) rfl (by decide) rfl (fun ls hl => ?_)
        refine lv_goto (tgt := 4) hx hb dX4_sum_22 (by decide) ?_
        exact ih_4 (i + 1) (mm + (h i)) (by omega) (by omega) (by rw [hm]; rfl) ls (lv_sub hl [2, 1, 0] rfl)
  exact LP_4 _ 0 (nI 0) (Nat.lt_succ_self _) (by omega) rfl ls (lv_sub hl [2, 1, 0] rfl)
set_option maxHeartbeats 4000000 in
set_option maxRecDepth 100000 in
theorem c_X4_loudness (l : Launch) (G : va_G) (cA : Nat → ClassId) (a : Nat → Nat) (tk : Nat) (h : Nat → Int32)  : RO l yX4_loudness wsX4_loudness ({ frames := 2, cells := 0, slots := 0, locals := 45 }) G cA B0 [(a 0, .inr (4, [.ref (a 1), .ref (a 2), .ref (a 3), .ref (a 4), .ref (a 5), .ref (a 6), .ref (a 11), .int (nI tk)])), (a 3, .inl (cA 0, 60, .inl h))] [.ref (a 0)] (loudF h) := by
  refine RO.mk (own := RX4) (by decide) rfl rfl (Nat.le_of_ble_eq_true rfl) (fun p_ e_ s_ m_ below meth c_ ls CX hr hlk hP hE hB hl => ?_)
  obtain ⟨hx, hb, hml, hown, hts⟩ := id CX
  have hl : lv_has ls 3 [(0, .ref (a 0))] := hl
  refine rn_iconst hx hb 0 rfl dX4_loudness_0 ?_
  refine lv_istore_n (lv' := [(1, .int (nI 0)), (0, .ref (a 0))]) hx hb dX4_loudness_1 rfl hl (by decide) rfl (fun ls hl => ?_)
  refine rn_iconst hx hb 0 rfl dX4_loudness_2 ?_
  refine lv_istore_n (lv' := [(2, .int (nI 0)), (1, .int (nI 0)), (0, .ref (a 0))]) hx hb dX4_loudness_3 rfl hl (by decide) rfl (fun ls hl => ?_)
  have LP_4 : ∀ (nn_ : Nat) (i : Nat) (mm : Int32), (60 - i) < nn_ → (i ≤ 60) → (mm = sumI i (fun j => iabs (h j))) → ∀ ls : Array Slot, lv_has ls 3 [(0, .ref (a 0)), (1, .int mm), (2, .int (nI i))] → W p_ l e_ ({ frames := 2, cells := 0, slots := 0, locals := 45 } : Room) s_ m_ ([.ref (a 0)] : List Value).toArray below meth c_ s_.heap [] 0 0 (MQ below (vp_Si (fun r_ => r_ = (loudF h))) ([.ref (a 0)] : List Value).toArray s_ 0 0 (fun _ => False)) (F0 m_ 4 ls []) := by
    intro nn_
    induction nn_ with
    | zero => intro i mm hmu; exact absurd hmu (Nat.not_lt_zero _)
    | succ nn_ ih =>
      have ih_4 := ih
      clear ih
      intro i mm hmu_4 hi hm ls hl
      refine lv_iload_n hx hb dX4_loudness_4 rfl (lv_at hl 2 rfl) ?_
      refine lv_bipush (v := (nI 60)) hx hb dX4_loudness_5 kb_60 ?_
      refine rn_icmp_ge hx hb (by omega) (by omega) dX4_loudness_7 (by decide) (tgt := 24) (fun c_7 => ?_) (fun c_7 => ?_)
      · refine lv_iload_n hx hb dX4_loudness_24 rfl (lv_at hl 1 rfl) ?_
        exact ro_ret CX hr hlk (by rw [hm, show i = 60 by omega]; rfl) rfl dX4_loudness_25
      · refine lv_iload_n hx hb dX4_loudness_10 rfl (lv_at hl 1 rfl) ?_
        refine lv_aload_n hx hb dX4_loudness_11 rfl (lv_at hl 0 rfl) ?_
        refine lv_iload_n hx hb dX4_loudness_12 rfl (lv_at hl 2 rfl) ?_
        refine roV CX hE hP (c_X4_loudnessOf l G cA a tk h i (by omega)) (cwV 1 hts gX4_loudness_X4_loudnessOf rfl rfl rfl hdv_X4_loudnessOf ⟨Nat.le_of_ble_eq_true rfl, Nat.le_of_ble_eq_true rfl⟩) [0, 1] rfl 0 rfl rfl rfl B0_blind (fun _ _ _ => trivial) rfl hl.1 (rest := [.int mm]) rfl (Nat.le_of_ble_eq_true rfl) dX4_loudness_13 ⟨Nat.zero_le _, Nat.zero_le _⟩ ?_
        refine lv_iadd hx hb dX4_loudness_16 ?_
        refine lv_istore_n (lv' := [(1, .int (mm + (iabs (h i)))), (0, .ref (a 0)), (2, .int (nI i))]) hx hb dX4_loudness_17 rfl hl (by decide) rfl (fun ls hl => ?_)
        refine rn_iinc hx hb (n := 1) (lv' := [(2, .int (nI (i + 1))), (1, .int (mm + (iabs (h i)))), (0, .ref (a 0))]) rfl dX4_loudness_18 hl (k := 2) rfl (by decide) rfl (fun ls hl => ?_)
        refine lv_goto (tgt := 4) hx hb dX4_loudness_21 (by decide) ?_
        exact ih_4 (i + 1) (mm + (iabs (h i))) (by omega) (by omega) (by rw [hm]; rfl) ls (lv_sub hl [2, 1, 0] rfl)
  exact LP_4 _ 0 (nI 0) (Nat.lt_succ_self _) (by omega) rfl ls (lv_sub hl [2, 1, 0] rfl)
set_option maxHeartbeats 4000000 in
set_option maxRecDepth 100000 in
theorem c_X4_loudestCell (l : Launch) (G : va_G) (cA : Nat → ClassId) (a : Nat → Nat) (tk : Nat) (h : Nat → Int32)  : RO l yX4_loudestCell wsX4_loudestCell ({ frames := 2, cells := 0, slots := 0, locals := 45 }) G cA B0 [(a 0, .inr (4, [.ref (a 1), .ref (a 2), .ref (a 3), .ref (a 4), .ref (a 5), .ref (a 6), .ref (a 11), .int (nI tk)])), (a 3, .inl (cA 0, 60, .inl h))] [.ref (a 0)] (nI (ldF h 60)) := by
  refine RO.mk (own := RX4) (by decide) rfl rfl (Nat.le_of_ble_eq_true rfl) (fun p_ e_ s_ m_ below meth c_ ls CX hr hlk hP hE hB hl => ?_)
  obtain ⟨hx, hb, hml, hown, hts⟩ := id CX
  have hl : lv_has ls 3 [(0, .ref (a 0))] := hl
  refine rn_iconst hx hb 0 rfl dX4_loudestCell_0 ?_
  refine lv_istore_n (lv' := [(1, .int (nI 0)), (0, .ref (a 0))]) hx hb dX4_loudestCell_1 rfl hl (by decide) rfl (fun ls hl => ?_)
  refine rn_iconst hx hb 1 rfl dX4_loudestCell_2 ?_
  refine lv_istore_n (lv' := [(2, .int (nI 1)), (1, .int (nI 0)), (0, .ref (a 0))]) hx hb dX4_loudestCell_3 rfl hl (by decide) rfl (fun ls hl => ?_)
  have LP_4 : ∀ (nn_ : Nat) (i : Nat) (b : Nat), (60 - i) < nn_ → (i ≤ 60) → (b < 60) → (b = ldF h i) → ∀ ls : Array Slot, lv_has ls 3 [(0, .ref (a 0)), (1, .int (nI b)), (2, .int (nI i))] → W p_ l e_ ({ frames := 2, cells := 0, slots := 0, locals := 45 } : Room) s_ m_ ([.ref (a 0)] : List Value).toArray below meth c_ s_.heap [] 0 0 (MQ below (vp_Si (fun r_ => r_ = (nI (ldF h 60)))) ([.ref (a 0)] : List Value).toArray s_ 0 0 (fun _ => False)) (F0 m_ 4 ls []) := by
    intro nn_
    induction nn_ with
    | zero => intro i b hmu; exact absurd hmu (Nat.not_lt_zero _)
    | succ nn_ ih =>
      have ih_4 := ih
      clear ih
      intro i b hmu_4 hi hb60 hbe ls hl
      refine lv_iload_n hx hb dX4_loudestCell_4 rfl (lv_at hl 2 rfl) ?_
      refine lv_bipush (v := (nI 60)) hx hb dX4_loudestCell_5 kb_60 ?_
      refine rn_icmp_ge hx hb (by omega) (by omega) dX4_loudestCell_7 (by decide) (tgt := 31) (fun c_7 => ?_) (fun c_7 => ?_)
      · refine lv_iload_n hx hb dX4_loudestCell_31 rfl (lv_at hl 1 rfl) ?_
        exact ro_ret CX hr hlk (by rw [hbe, show i = 60 by omega]) rfl dX4_loudestCell_32
      · refine lv_aload_n hx hb dX4_loudestCell_10 rfl (lv_at hl 0 rfl) ?_
        refine lv_iload_n hx hb dX4_loudestCell_11 rfl (lv_at hl 2 rfl) ?_
        refine roV CX hE hP (c_X4_loudnessOf l G cA a tk h i (by omega)) (cwV 1 hts gX4_loudestCell_X4_loudnessOf rfl rfl rfl hdv_X4_loudnessOf ⟨Nat.le_of_ble_eq_true rfl, Nat.le_of_ble_eq_true rfl⟩) [0, 1] rfl 0 rfl rfl rfl B0_blind (fun _ _ _ => trivial) rfl hl.1 (rest := []) rfl (Nat.le_of_ble_eq_true rfl) dX4_loudestCell_12 ⟨Nat.zero_le _, Nat.zero_le _⟩ ?_
        refine lv_aload_n hx hb dX4_loudestCell_15 rfl (lv_at hl 0 rfl) ?_
        refine lv_iload_n hx hb dX4_loudestCell_16 rfl (lv_at hl 1 rfl) ?_
        refine roV CX hE hP (c_X4_loudnessOf l G cA a tk h b (by omega)) (cwV 1 hts gX4_loudestCell_X4_loudnessOf rfl rfl rfl hdv_X4_loudnessOf ⟨Nat.le_of_ble_eq_true rfl, Nat.le_of_ble_eq_true rfl⟩) [0, 1] rfl 0 rfl rfl rfl B0_blind (fun _ _ _ => trivial) rfl hl.1 (rest := [.int (iabs (h i))]) rfl (Nat.le_of_ble_eq_true rfl) dX4_loudestCell_17 ⟨Nat.zero_le _, Nat.zero_le _⟩ ?_
        refine lv_icmp_le hx hb dX4_loudestCell_20 (by decide) (tgt := 25) (fun c_20 => ?_) (fun c_20 => ?_)
        · refine rn_iinc hx hb (n := 1) (lv' := [(2, .int (nI (i + 1))), (0, .ref (a 0)), (1, .int (nI b))]) rfl dX4_loudestCell_25 hl (k := 2) rfl (by decide) rfl (fun ls hl => ?_)
          refine lv_goto (tgt := 4) hx hb dX4_loudestCell_28 (by decide) ?_
          exact ih_4 (i + 1) b (by omega) (by omega) (by omega) (by simp only [ldF]; rw [← hbe]; first | rw [if_neg (by grind)] | rw [if_pos (by grind)]) ls (lv_sub hl [1, 2, 0] rfl)
        · refine lv_iload_n hx hb dX4_loudestCell_23 rfl (lv_at hl 2 rfl) ?_
          refine lv_istore_n (lv' := [(1, .int (nI i)), (0, .ref (a 0)), (2, .int (nI i))]) hx hb dX4_loudestCell_24 rfl hl (by decide) rfl (fun ls hl => ?_)
          refine rn_iinc hx hb (n := 1) (lv' := [(2, .int (nI (i + 1))), (1, .int (nI i)), (0, .ref (a 0))]) rfl dX4_loudestCell_25 hl (k := 2) rfl (by decide) rfl (fun ls hl => ?_)
          refine lv_goto (tgt := 4) hx hb dX4_loudestCell_28 (by decide) ?_
          exact ih_4 (i + 1) i (by omega) (by omega) (by omega) (by simp only [ldF]; rw [← hbe]; first | rw [if_neg (by grind)] | rw [if_pos (by grind)]) ls (lv_sub hl [2, 1, 0] rfl)
  exact LP_4 _ 1 0 (Nat.lt_succ_self _) (by omega) (by omega) ldF_1.symm ls (lv_sub hl [2, 1, 0] rfl)
theorem fl_X0_isUp_15 : Cond.fieldLink RX0 15 RX0 (TX0 1).2.1 (TX0 1).2.2.1 ∈ wsX0_isUp := by decide +kernel
theorem in_X0_isUp_X0 : ∀ w ∈ wsX00, w ∈ wsX0_isUp := by decide +kernel
theorem fl_X0_isUp_21 : Cond.fieldLink RX0 21 RX0 (TX0 3).2.1 (TX0 3).2.2.1 ∈ wsX0_isUp := by decide +kernel
set_option maxHeartbeats 4000000 in
set_option maxRecDepth 100000 in
theorem c_X0_isUp (l : Launch) (G : va_G) (cA : Nat → ClassId) (a : Nat → Nat) (nd : Nat) (dp : Nat → Nat) (dh : Nat → Int32) (d : Nat) (t : Nat) (hd : d < 5) (hp : dp d ≤ 40) : RO l yX0_isUp wsX0_isUp ({ frames := 0, cells := 0, slots := 0, locals := 0 }) G cA B0 [(a 6, .inr (0, [.ref (a 7), .ref (a 8), .ref (a 9), .ref (a 10), .int (nI nd)])), (a 8, .inl (cA 0, 5, .inl (fun k => nI (dp k)))), (a 10, .inl (cA 0, 5, .inl dh))] [.ref (a 6), .int (nI d), .int (nI t)] (b2i (upP dp dh t d)) := by
  refine RO.mk (own := RX0) (by decide) rfl rfl (Nat.le_of_ble_eq_true rfl) (fun p_ e_ s_ m_ below meth c_ ls CX hr hlk hP hE hB hl => ?_)
  obtain ⟨hx, hb, hml, hown, hts⟩ := id CX
  have hl : lv_has ls 4 [(0, .ref (a 6)), (1, .int (nI d)), (2, .int (nI t))] := hl
  refine lv_aload_n hx hb dX0_isUp_0 rfl (lv_at hl 0 rfl) ?_
  refine rg (T := TX0) (N := 5) CX hE hP in_X0_isUp_X0 0 rfl rfl 1 (by decide) fl_X0_isUp_15 rfl rfl dX0_isUp_1 ?_
  refine lv_iload_n hx hb dX0_isUp_4 rfl (lv_at hl 1 rfl) ?_
  refine rn_iald CX hE hP 1 rfl (j := d) (by omega) (ltb rfl) dX0_isUp_5 ?_
  refine lv_istore_n (lv' := [(3, .int (nI (dp d))), (0, .ref (a 6)), (1, .int (nI d)), (2, .int (nI t))]) hx hb dX0_isUp_6 rfl hl (by decide) rfl (fun ls hl => ?_)
  refine lv_iload_n hx hb dX0_isUp_7 rfl (lv_at hl 0 rfl) ?_
  refine rn_if_le hx hb (by omega) dX0_isUp_8 (by decide) (tgt := 31) (fun c_8 => ?_) (fun c_8 => ?_)
  · refine rn_iconst hx hb 0 rfl dX0_isUp_31 ?_
    exact ro_ret CX hr hlk (by first | exact b2i_t ⟨c_8, Int32.not_lt.mp c_24⟩ | exact b2i_f (fun z => absurd z.1 (by omega)) | exact b2i_f (fun z => absurd c_24 (Int32.not_lt.mpr z.2))) rfl dX0_isUp_32
  · refine lv_iload_n hx hb dX0_isUp_11 rfl (lv_at hl 3 rfl) ?_
    refine lv_aload_n hx hb dX0_isUp_12 rfl (lv_at hl 1 rfl) ?_
    refine rg (T := TX0) (N := 5) CX hE hP in_X0_isUp_X0 0 rfl rfl 3 (by decide) fl_X0_isUp_21 rfl rfl dX0_isUp_13 ?_
    refine lv_iload_n hx hb dX0_isUp_16 rfl (lv_at hl 2 rfl) ?_
    refine rn_iald CX hE hP 2 rfl (j := d) (by omega) (ltb rfl) dX0_isUp_17 ?_
    refine lv_iadd hx hb dX0_isUp_18 ?_
    refine lv_iload_n hx hb dX0_isUp_19 rfl (lv_at hl 0 rfl) ?_
    refine lv_irem hx hb dX0_isUp_20 (nI_ne0 c_8 (by omega)) ?_
    refine lv_iload_n hx hb dX0_isUp_21 rfl (lv_at hl 0 rfl) ?_
    refine rn_iconst hx hb 2 rfl dX0_isUp_22 ?_
    refine rn_idiv hx hb (by omega) (by omega) (by omega) dX0_isUp_23 ?_
    refine lv_icmp_lt hx hb dX0_isUp_24 (by decide) (tgt := 31) (fun c_24 => ?_) (fun c_24 => ?_)
    · refine rn_iconst hx hb 0 rfl dX0_isUp_31 ?_
      exact ro_ret CX hr hlk (by first | exact b2i_t ⟨c_8, Int32.not_lt.mp c_24⟩ | exact b2i_f (fun z => absurd z.1 (by omega)) | exact b2i_f (fun z => absurd c_24 (Int32.not_lt.mpr z.2))) rfl dX0_isUp_32
    · refine rn_iconst hx hb 1 rfl dX0_isUp_27 ?_
      refine lv_goto (tgt := 32) hx hb dX0_isUp_28 (by decide) ?_
      exact ro_ret CX hr hlk (by first | exact b2i_t ⟨c_8, Int32.not_lt.mp c_24⟩ | exact b2i_f (fun z => absurd z.1 (by omega)) | exact b2i_f (fun z => absurd c_24 (Int32.not_lt.mpr z.2))) rfl dX0_isUp_32
theorem fl_X0_lastIn_24 : Cond.fieldLink RX0 24 RX0 (TX0 4).2.1 (TX0 4).2.2.1 ∈ wsX0_lastIn := by decide +kernel
theorem in_X0_lastIn_X0 : ∀ w ∈ wsX00, w ∈ wsX0_lastIn := by decide +kernel
theorem fl_X0_lastIn_9 : Cond.fieldLink RX0 9 RX0 (TX0 0).2.1 (TX0 0).2.2.1 ∈ wsX0_lastIn := by decide +kernel
set_option maxHeartbeats 4000000 in
set_option maxRecDepth 100000 in
theorem c_X0_lastIn (l : Launch) (G : va_G) (cA : Nat → ClassId) (a : Nat → Nat) (nd : Nat) (dc : Nat → Nat) (c : Nat) (hnd : nd ≤ 5) (hdc : ∀ k, k < nd → dc k < 60) (hc : c < 60) : RO l yX0_lastIn wsX0_lastIn ({ frames := 0, cells := 0, slots := 0, locals := 0 }) G cA B0 [(a 6, .inr (0, [.ref (a 7), .ref (a 8), .ref (a 9), .ref (a 10), .int (nI nd)])), (a 7, .inl (cA 0, 5, .inl (fun k => nI (dc k))))] [.ref (a 6), .int (nI c)] (lastF dc c nd) := by
  refine RO.mk (own := RX0) (by decide) rfl rfl (Nat.le_of_ble_eq_true rfl) (fun p_ e_ s_ m_ below meth c_ ls CX hr hlk hP hE hB hl => ?_)
  obtain ⟨hx, hb, hml, hown, hts⟩ := id CX
  have hl : lv_has ls 3 [(0, .ref (a 6)), (1, .int (nI c))] := hl
  refine lv_aload_n hx hb dX0_lastIn_0 rfl (lv_at hl 0 rfl) ?_
  refine rg (T := TX0) (N := 5) CX hE hP in_X0_lastIn_X0 0 rfl rfl 4 (by decide) fl_X0_lastIn_24 rfl rfl dX0_lastIn_1 ?_
  refine rn_iconst hx hb 1 rfl dX0_lastIn_4 ?_
  refine lv_isub hx hb dX0_lastIn_5 ?_
  refine lv_istore_n (lv' := [(2, .int ((nI nd) - (nI 1))), (0, .ref (a 6)), (1, .int (nI c))]) hx hb dX0_lastIn_6 rfl hl (by decide) rfl (fun ls hl => ?_)
  have LP_7 : ∀ (nn_ : Nat) (k : Nat), k < nn_ → (k ≤ nd) → (lastF dc c nd = lastF dc c k) → ∀ ls : Array Slot, lv_has ls 3 [(0, .ref (a 6)), (1, .int (nI c)), (2, .int (nI k - nI 1))] → W p_ l e_ ({ frames := 0, cells := 0, slots := 0, locals := 0 } : Room) s_ m_ ([.ref (a 6), .int (nI c)] : List Value).toArray below meth c_ s_.heap [] 0 0 (MQ below (vp_Si (fun r_ => r_ = (lastF dc c nd))) ([.ref (a 6), .int (nI c)] : List Value).toArray s_ 0 0 (fun _ => False)) (F0 m_ 7 ls []) := by
    intro nn_
    induction nn_ with
    | zero => intro k hmu; exact absurd hmu (Nat.not_lt_zero _)
    | succ nn_ ih =>
      have ih_7 := ih
      clear ih
      intro k hmu_7 hk hv ls hl
      refine lv_iload_n hx hb dX0_lastIn_7 rfl (lv_at hl 2 rfl) ?_
      rcases k with _ | k
      · refine rn_top (-1) (by decide +kernel) ?_
        refine lv_if_lt hx hb dX0_lastIn_8 (by decide) (tgt := 29) (fun c_8 => ?_) (fun c_8 => ?_)
        · refine lv_bipush (v := (-6)) hx hb dX0_lastIn_29 kb_m6 ?_
          exact ro_ret CX hr hlk hv.symm rfl dX0_lastIn_31
        · exact absurd (by decide) c_8
      · have hl : lv_has ls 3 [(0, .ref (a 6)), (1, .int (nI c)), (2, .int (nI k))] := by have z_ : (nI (k + 1) - nI 1) = (nI k) := nI_m1 k; rw [z_] at hl; exact hl
        refine rn_top (nI k) (nI_m1 k) ?_
        refine rn_if_lt hx hb (by omega) dX0_lastIn_8 (by decide) (tgt := 29) (fun c_8 => ?_) (fun c_8 => ?_)
        · exact c_8.elim
        · refine lv_aload_n hx hb dX0_lastIn_11 rfl (lv_at hl 0 rfl) ?_
          refine rg (T := TX0) (N := 5) CX hE hP in_X0_lastIn_X0 0 rfl rfl 0 (by decide) fl_X0_lastIn_9 rfl rfl dX0_lastIn_12 ?_
          refine lv_iload_n hx hb dX0_lastIn_15 rfl (lv_at hl 2 rfl) ?_
          refine rn_iald CX hE hP 1 rfl (j := k) (by omega) (ltb rfl) dX0_lastIn_16 ?_
          have hdk := hdc k (by omega)
          refine lv_iload_n hx hb dX0_lastIn_17 rfl (lv_at hl 1 rfl) ?_
          refine rn_icmp_ne hx hb (by omega) (by omega) dX0_lastIn_18 (by decide) (tgt := 23) (fun c_18 => ?_) (fun c_18 => ?_)
          · refine lv_iinc (v := (nI k - nI 1)) (lv' := [(2, .int (nI k - nI 1)), (0, .ref (a 6)), (1, .int (nI c))]) hx hb dX0_lastIn_23 hl (k := 2) rfl (by rw [Int32.sub_eq_add_neg]; rfl) (by decide) rfl (fun ls hl => ?_)
            refine lv_goto (tgt := 7) hx hb dX0_lastIn_26 (by decide) ?_
            exact ih_7 k (by omega) (by omega) (by rw [hv]; exact if_neg c_18) ls (lv_sub hl [1, 2, 0] rfl)
          · refine lv_iload_n hx hb dX0_lastIn_21 rfl (lv_at hl 2 rfl) ?_
            exact ro_ret CX hr hlk (by rw [hv]; exact (if_pos c_18).symm) rfl dX0_lastIn_22
  exact LP_7 _ nd (Nat.lt_succ_self _) (Nat.le_refl _) rfl ls (lv_sub hl [1, 2, 0] rfl)
