/-! The law's cases: cell, dipper, ofProbe, seen, count, loudest, crests. -/
theorem hdv_X5_cell : yX5_cell.cls = RX5 ∧ yX5_cell.cls ≠ "java/lang/invoke/MethodHandle" ∧ yX5_cell.cls ≠ "java/lang/invoke/VarHandle" ∧ (parseMethodDescriptor yX5_cell.desc).map (fun d => d.parameters.length) = some 3 := by decide +kernel
theorem hdv_X6_cell : yX6_cell.cls = RX6 ∧ yX6_cell.cls ≠ "java/lang/invoke/MethodHandle" ∧ yX6_cell.cls ≠ "java/lang/invoke/VarHandle" ∧ (parseMethodDescriptor yX6_cell.desc).map (fun d => d.parameters.length) = some 3 := by decide +kernel
set_option maxHeartbeats 8000000 in
set_option maxRecDepth 100000 in
theorem L_cell {p_ : Program} {l : Launch} {e_ : Env} {s_ : State} {m_ : MethodId} {args : Array Value} {below : List Frame} {meth : Method} {c_ : Code} {H : Heap} {locs : List Loc} {cells slots : Nat} {Q : State → Prop} {ls : Array Slot} {G : va_G} {cA : Nat → ClassId} {A_ : Nat → Prop} {x m : Nat → Nat} {bq L i tl_ tm_ q_ v_ : Nat} {xs : Nat → Int32} (CX : CallFix p_ m_ c_ cL_law 4 s_ args wsL_law RL) (hE : EK G cA s_) (hA : ∀ q, s_.heap.size ≤ q → A_ q) (hX : va_X bq L xs s_ s_.heap) (hbl : bq < s_.heap.size) (hbA : ¬ A_ bq) (hiL : i + 6 ≤ L) (hL : L ≤ 3072) (K : KSM tl_ tm_ A_ s_) (BB : BSM q_ v_ A_ s_) (hcs : cells ≤ room_1.cells ∧ slots ≤ room_1.slots) (hl : lv_has ls 4 [(3, .int (nI i)), (2, .ref (m 0)), (1, .ref (x 0)), (0, .ref bq)]) (hI : LInv G cA A_ x m s_.heap H locs) (kk : ∀ (H : Heap) (locs : List Loc), LInv G cA A_ x m s_.heap H locs → W p_ l e_ room_1 s_ m_ args below meth c_ H locs cells slots Q (F0 m_ 923 ls [])) : W p_ l e_ room_1 s_ m_ args below meth c_ H locs cells slots Q (F0 m_ 435 ls []) := by
  obtain ⟨hx, hb, hml, hown, hts⟩ := id CX
  obtain ⟨a, b, g, h, ha, T, S, U, V, hT, hn, ty, sv, svm, pd, pdm, z, pa, sl, sp, th, hW, hSt, hH, hsv, hU, hV, hty, hpd⟩ := hI
  have hR := hSt.1
  have hi := hSt.2.1
  have htk := hSt.2.2
  have hok := hi.1
  have hnd := hok.1.1
  have hnp := hok.2.1
  by_cases hq : cellP (xs (i + 1)) (xs (i + 2))
  · obtain ⟨kx, ky, hkx, hky, e1, e2⟩ := cellP_nat hq
    have hc : ky * 10 + kx < 60 := by omega
    refine lv_aload_n hx hb dL_law_435 rfl (lv_at hl 2 rfl) ?_
    refine lv_aload_n hx hb dL_law_436 rfl (lv_at hl 3 rfl) ?_
    refine lv_iload_n hx hb dL_law_437 rfl (lv_at hl 0 rfl) ?_
    refine rn_iconst hx hb 1 rfl dL_law_438 ?_
    refine rn_iadd hx hb dL_law_439 ?_
    refine rl_ld (v := (nI kx)) hx hb hX hbl hbA hW.flat.2.2 (j := i + 1) (by omega) hL e1 dL_law_440 ?_
    refine lv_aload_n hx hb dL_law_441 rfl (lv_at hl 3 rfl) ?_
    refine lv_iload_n hx hb dL_law_442 rfl (lv_at hl 0 rfl) ?_
    refine rn_iconst hx hb 2 rfl dL_law_443 ?_
    refine rn_iadd hx hb dL_law_444 ?_
    refine rl_ld (v := (nI ky)) hx hb hX hbl hbA hW.flat.2.2 (j := i + 2) (by omega) hL e2 dL_law_445 ?_
    refine lv_aload_n hx hb dL_law_446 rfl (lv_at hl 3 rfl) ?_
    refine lv_iload_n hx hb dL_law_447 rfl (lv_at hl 0 rfl) ?_
    refine rn_iconst hx hb 3 rfl dL_law_448 ?_
    refine rn_iadd hx hb dL_law_449 ?_
    refine rl_ld (v := (xs (i + 3))) hx hb hX hbl hbA hW.flat.2.2 (j := i + 3) (by omega) hL rfl dL_law_450 ?_
    refine roVg CX hE (va_P_segs (fun _ _ h => hW.hP _ h) [0, 8] rfl) (c_X5_cell_k l G cA x a b T kx ky (xs (i + 3)) hok hkx hky) (cwV 3 hts gL_law_X5_cell rfl rfl rfl hdv_X5_cell ⟨Nat.le_of_ble_eq_true rfl, Nat.le_of_ble_eq_true rfl⟩) (hW.hP 0 rfl) 0 rfl rfl rfl B0_blind (fun _ _ _ => trivial) rfl hl.1 (rest := []) rfl (Nat.le_of_ble_eq_true rfl) dL_law_451 hcs ?_
    refine lv_aload_n hx hb dL_law_454 rfl (lv_at hl 1 rfl) ?_
    refine lv_aload_n hx hb dL_law_455 rfl (lv_at hl 3 rfl) ?_
    refine lv_iload_n hx hb dL_law_456 rfl (lv_at hl 0 rfl) ?_
    refine rn_iconst hx hb 1 rfl dL_law_457 ?_
    refine rn_iadd hx hb dL_law_458 ?_
    refine rl_ld (v := (nI kx)) hx hb hX hbl hbA hW.flat.2.2 (j := i + 1) (by omega) hL e1 dL_law_459 ?_
    refine lv_aload_n hx hb dL_law_460 rfl (lv_at hl 3 rfl) ?_
    refine lv_iload_n hx hb dL_law_461 rfl (lv_at hl 0 rfl) ?_
    refine rn_iconst hx hb 2 rfl dL_law_462 ?_
    refine rn_iadd hx hb dL_law_463 ?_
    refine rl_ld (v := (nI ky)) hx hb hX hbl hbA hW.flat.2.2 (j := i + 2) (by omega) hL e2 dL_law_464 ?_
    refine lv_aload_n hx hb dL_law_465 rfl (lv_at hl 3 rfl) ?_
    refine lv_iload_n hx hb dL_law_466 rfl (lv_at hl 0 rfl) ?_
    refine rn_iconst hx hb 3 rfl dL_law_467 ?_
    refine rn_iadd hx hb dL_law_468 ?_
    refine rl_ld (v := (xs (i + 3))) hx hb hX hbl hbA hW.flat.2.2 (j := i + 3) (by omega) hL rfl dL_law_469 ?_
    refine roVg CX hE ((hW.hP 14 rfl).sub [0, 1] rfl) (c_X6_cell_k l G cA m hn ty z kx ky (xs (i + 3)) (T.2 4 1) hkx hky hnd hR.2.2.1.1) (cwV 3 hts gL_law_X6_cell rfl rfl rfl hdv_X6_cell ⟨Nat.le_of_ble_eq_true rfl, Nat.le_of_ble_eq_true rfl⟩) (hW.hP 14 rfl) 0 rfl rfl rfl B0_blind (fun _ _ _ => trivial) rfl hl.1 (rest := [.int (celT T (ky * 10 + kx) (tsel (xs (i + 3)) 6))]) rfl (Nat.le_of_ble_eq_true rfl) dL_law_470 hcs ?_
    refine lv_icmp_eq hx hb dL_law_473 (by decide) (tgt := 923) (fun _ => ?_) (fun c_ => absurd ((cell_rel hR hi hc _).symm) c_)
    exact kk _ _ ⟨a, b, g, h, ha, T, S, U, V, hT, hn, ty, sv, svm, pd, pdm, z, pa, sl, sp, th, hW, hSt, hH, hsv, hU, hV, hty, hpd⟩
  · refine lv_aload_n hx hb dL_law_435 rfl (lv_at hl 2 rfl) ?_
    refine lv_aload_n hx hb dL_law_436 rfl (lv_at hl 3 rfl) ?_
    refine lv_iload_n hx hb dL_law_437 rfl (lv_at hl 0 rfl) ?_
    refine rn_iconst hx hb 1 rfl dL_law_438 ?_
    refine rn_iadd hx hb dL_law_439 ?_
    refine rl_ld (v := (xs (i + 1))) hx hb hX hbl hbA hW.flat.2.2 (j := i + 1) (by omega) hL rfl dL_law_440 ?_
    refine lv_aload_n hx hb dL_law_441 rfl (lv_at hl 3 rfl) ?_
    refine lv_iload_n hx hb dL_law_442 rfl (lv_at hl 0 rfl) ?_
    refine rn_iconst hx hb 2 rfl dL_law_443 ?_
    refine rn_iadd hx hb dL_law_444 ?_
    refine rl_ld (v := (xs (i + 2))) hx hb hX hbl hbA hW.flat.2.2 (j := i + 2) (by omega) hL rfl dL_law_445 ?_
    refine lv_aload_n hx hb dL_law_446 rfl (lv_at hl 3 rfl) ?_
    refine lv_iload_n hx hb dL_law_447 rfl (lv_at hl 0 rfl) ?_
    refine rn_iconst hx hb 3 rfl dL_law_448 ?_
    refine rn_iadd hx hb dL_law_449 ?_
    refine rl_ld (v := (xs (i + 3))) hx hb hX hbl hbA hW.flat.2.2 (j := i + 3) (by omega) hL rfl dL_law_450 ?_
    refine roVg CX hE (va_P_segs (fun _ _ h => hW.hP _ h) [0, 8] rfl) (c_X5_cell_e l G cA x a b T (xs (i + 1)) (xs (i + 2)) (xs (i + 3)) hq) (cwV 3 hts gL_law_X5_cell rfl rfl rfl hdv_X5_cell ⟨Nat.le_of_ble_eq_true rfl, Nat.le_of_ble_eq_true rfl⟩) (hW.hP 0 rfl) 0 rfl rfl rfl B0_blind (fun _ _ _ => trivial) rfl hl.1 (rest := []) rfl (Nat.le_of_ble_eq_true rfl) dL_law_451 hcs ?_
    refine lv_aload_n hx hb dL_law_454 rfl (lv_at hl 1 rfl) ?_
    refine lv_aload_n hx hb dL_law_455 rfl (lv_at hl 3 rfl) ?_
    refine lv_iload_n hx hb dL_law_456 rfl (lv_at hl 0 rfl) ?_
    refine rn_iconst hx hb 1 rfl dL_law_457 ?_
    refine rn_iadd hx hb dL_law_458 ?_
    refine rl_ld (v := (xs (i + 1))) hx hb hX hbl hbA hW.flat.2.2 (j := i + 1) (by omega) hL rfl dL_law_459 ?_
    refine lv_aload_n hx hb dL_law_460 rfl (lv_at hl 3 rfl) ?_
    refine lv_iload_n hx hb dL_law_461 rfl (lv_at hl 0 rfl) ?_
    refine rn_iconst hx hb 2 rfl dL_law_462 ?_
    refine rn_iadd hx hb dL_law_463 ?_
    refine rl_ld (v := (xs (i + 2))) hx hb hX hbl hbA hW.flat.2.2 (j := i + 2) (by omega) hL rfl dL_law_464 ?_
    refine lv_aload_n hx hb dL_law_465 rfl (lv_at hl 3 rfl) ?_
    refine lv_iload_n hx hb dL_law_466 rfl (lv_at hl 0 rfl) ?_
    refine rn_iconst hx hb 3 rfl dL_law_467 ?_
    refine rn_iadd hx hb dL_law_468 ?_
    refine rl_ld (v := (xs (i + 3))) hx hb hX hbl hbA hW.flat.2.2 (j := i + 3) (by omega) hL rfl dL_law_469 ?_
    refine roVg CX hE ((hW.hP 14 rfl).sub [0, 1] rfl) (c_X6_cell_e l G cA m hn ty z (xs (i + 1)) (xs (i + 2)) (xs (i + 3)) hq) (cwV 3 hts gL_law_X6_cell rfl rfl rfl hdv_X6_cell ⟨Nat.le_of_ble_eq_true rfl, Nat.le_of_ble_eq_true rfl⟩) (hW.hP 14 rfl) 0 rfl rfl rfl B0_blind (fun _ _ _ => trivial) rfl hl.1 (rest := [.int (-1)]) rfl (Nat.le_of_ble_eq_true rfl) dL_law_470 hcs ?_
    refine lv_icmp_eq hx hb dL_law_473 (by decide) (tgt := 923) (fun _ => ?_) (fun c_ => absurd rfl c_)
    exact kk _ _ ⟨a, b, g, h, ha, T, S, U, V, hT, hn, ty, sv, svm, pd, pdm, z, pa, sl, sp, th, hW, hSt, hH, hsv, hU, hV, hty, hpd⟩
theorem hdv_X5_dipper : yX5_dipper.cls = RX5 ∧ yX5_dipper.cls ≠ "java/lang/invoke/MethodHandle" ∧ yX5_dipper.cls ≠ "java/lang/invoke/VarHandle" ∧ (parseMethodDescriptor yX5_dipper.desc).map (fun d => d.parameters.length) = some 2 := by decide +kernel
theorem hdv_X6_dipper : yX6_dipper.cls = RX6 ∧ yX6_dipper.cls ≠ "java/lang/invoke/MethodHandle" ∧ yX6_dipper.cls ≠ "java/lang/invoke/VarHandle" ∧ (parseMethodDescriptor yX6_dipper.desc).map (fun d => d.parameters.length) = some 2 := by decide +kernel
set_option maxHeartbeats 8000000 in
set_option maxRecDepth 100000 in
theorem L_dipper {p_ : Program} {l : Launch} {e_ : Env} {s_ : State} {m_ : MethodId} {args : Array Value} {below : List Frame} {meth : Method} {c_ : Code} {H : Heap} {locs : List Loc} {cells slots : Nat} {Q : State → Prop} {ls : Array Slot} {G : va_G} {cA : Nat → ClassId} {A_ : Nat → Prop} {x m : Nat → Nat} {bq L i tl_ tm_ q_ v_ : Nat} {xs : Nat → Int32} (CX : CallFix p_ m_ c_ cL_law 4 s_ args wsL_law RL) (hE : EK G cA s_) (hA : ∀ q, s_.heap.size ≤ q → A_ q) (hX : va_X bq L xs s_ s_.heap) (hbl : bq < s_.heap.size) (hbA : ¬ A_ bq) (hiL : i + 6 ≤ L) (hL : L ≤ 3072) (K : KSM tl_ tm_ A_ s_) (BB : BSM q_ v_ A_ s_) (hcs : cells ≤ room_1.cells ∧ slots ≤ room_1.slots) (hl : lv_has ls 4 [(3, .int (nI i)), (2, .ref (m 0)), (1, .ref (x 0)), (0, .ref bq)]) (hI : LInv G cA A_ x m s_.heap H locs) (kk : ∀ (H : Heap) (locs : List Loc), LInv G cA A_ x m s_.heap H locs → W p_ l e_ room_1 s_ m_ args below meth c_ H locs cells slots Q (F0 m_ 923 ls [])) : W p_ l e_ room_1 s_ m_ args below meth c_ H locs cells slots Q (F0 m_ 478 ls []) := by
  obtain ⟨hx, hb, hml, hown, hts⟩ := id CX
  obtain ⟨a, b, g, h, ha, T, S, U, V, hT, hn, ty, sv, svm, pd, pdm, z, pa, sl, sp, th, hW, hSt, hH, hsv, hU, hV, hty, hpd⟩ := hI
  have hR := hSt.1
  have hi := hSt.2.1
  have htk := hSt.2.2
  have hok := hi.1
  have hnd := hok.1.1
  have hnp := hok.2.1
  by_cases hq : 0 ≤ xs (i + 1) ∧ xs (i + 1) < nI (T.2 4 1)
  · obtain ⟨d, hd, e1⟩ := ltn_nat (by omega) hq
    have hpd2 := inv.pe hi hd
    have hpd4 := (hok.1.2 d hd).2
    have hpe : ¬ z (246 + 4 * d + 1) = 0 := by rw [(hR.2.2.1.2 d hd).2.1]; exact nI_ne0 (by omega) (by omega)
    refine lv_aload_n hx hb dL_law_478 rfl (lv_at hl 2 rfl) ?_
    refine lv_aload_n hx hb dL_law_479 rfl (lv_at hl 3 rfl) ?_
    refine lv_iload_n hx hb dL_law_480 rfl (lv_at hl 0 rfl) ?_
    refine rn_iconst hx hb 1 rfl dL_law_481 ?_
    refine rn_iadd hx hb dL_law_482 ?_
    refine rl_ld (v := (nI d)) hx hb hX hbl hbA hW.flat.2.2 (j := i + 1) (by omega) hL e1 dL_law_483 ?_
    refine lv_aload_n hx hb dL_law_484 rfl (lv_at hl 3 rfl) ?_
    refine lv_iload_n hx hb dL_law_485 rfl (lv_at hl 0 rfl) ?_
    refine rn_iconst hx hb 2 rfl dL_law_486 ?_
    refine rn_iadd hx hb dL_law_487 ?_
    refine rl_ld (v := (xs (i + 2))) hx hb hX hbl hbA hW.flat.2.2 (j := i + 2) (by omega) hL rfl dL_law_488 ?_
    refine roVg CX hE (va_P_segs (fun _ _ h => hW.hP _ h) [0, 8] rfl) (c_X5_dipper_k l G cA x a b T d (xs (i + 2)) hok hd) (cwV 2 hts gL_law_X5_dipper rfl rfl rfl hdv_X5_dipper ⟨Nat.le_of_ble_eq_true rfl, Nat.le_of_ble_eq_true rfl⟩) (hW.hP 0 rfl) 0 rfl rfl rfl B0_blind (fun _ _ _ => trivial) rfl hl.1 (rest := []) rfl (Nat.le_of_ble_eq_true rfl) dL_law_489 hcs ?_
    refine lv_aload_n hx hb dL_law_492 rfl (lv_at hl 1 rfl) ?_
    refine lv_aload_n hx hb dL_law_493 rfl (lv_at hl 3 rfl) ?_
    refine lv_iload_n hx hb dL_law_494 rfl (lv_at hl 0 rfl) ?_
    refine rn_iconst hx hb 1 rfl dL_law_495 ?_
    refine rn_iadd hx hb dL_law_496 ?_
    refine rl_ld (v := (nI d)) hx hb hX hbl hbA hW.flat.2.2 (j := i + 1) (by omega) hL e1 dL_law_497 ?_
    refine lv_aload_n hx hb dL_law_498 rfl (lv_at hl 3 rfl) ?_
    refine lv_iload_n hx hb dL_law_499 rfl (lv_at hl 0 rfl) ?_
    refine rn_iconst hx hb 2 rfl dL_law_500 ?_
    refine rn_iadd hx hb dL_law_501 ?_
    refine rl_ld (v := (xs (i + 2))) hx hb hX hbl hbA hW.flat.2.2 (j := i + 2) (by omega) hL rfl dL_law_502 ?_
    refine roVg CX hE ((hW.hP 14 rfl).sub [0, 1] rfl) (c_X6_dipper_k l G cA m hn ty z d (T.2 0 d) (xs (i + 2)) (T.2 4 1) hd hnd hR.2.2.1.1 ((hR.2.2.1.2 d hd).1) ((hok.1.2 d hd).1) hpe) (cwV 2 hts gL_law_X6_dipper rfl rfl rfl hdv_X6_dipper ⟨Nat.le_of_ble_eq_true rfl, Nat.le_of_ble_eq_true rfl⟩) (hW.hP 14 rfl) 0 rfl rfl rfl B0_blind (fun _ _ _ => trivial) rfl hl.1 (rest := [.int (dipQ T d (tsel (xs (i + 2)) 5))]) rfl (Nat.le_of_ble_eq_true rfl) dL_law_503 hcs ?_
    refine lv_icmp_eq hx hb dL_law_506 (by decide) (tgt := 923) (fun _ => ?_) (fun c_ => absurd ((dip_rel hR hi hd _).symm) c_)
    exact kk _ _ ⟨a, b, g, h, ha, T, S, U, V, hT, hn, ty, sv, svm, pd, pdm, z, pa, sl, sp, th, hW, hSt, hH, hsv, hU, hV, hty, hpd⟩
  · refine lv_aload_n hx hb dL_law_478 rfl (lv_at hl 2 rfl) ?_
    refine lv_aload_n hx hb dL_law_479 rfl (lv_at hl 3 rfl) ?_
    refine lv_iload_n hx hb dL_law_480 rfl (lv_at hl 0 rfl) ?_
    refine rn_iconst hx hb 1 rfl dL_law_481 ?_
    refine rn_iadd hx hb dL_law_482 ?_
    refine rl_ld (v := (xs (i + 1))) hx hb hX hbl hbA hW.flat.2.2 (j := i + 1) (by omega) hL rfl dL_law_483 ?_
    refine lv_aload_n hx hb dL_law_484 rfl (lv_at hl 3 rfl) ?_
    refine lv_iload_n hx hb dL_law_485 rfl (lv_at hl 0 rfl) ?_
    refine rn_iconst hx hb 2 rfl dL_law_486 ?_
    refine rn_iadd hx hb dL_law_487 ?_
    refine rl_ld (v := (xs (i + 2))) hx hb hX hbl hbA hW.flat.2.2 (j := i + 2) (by omega) hL rfl dL_law_488 ?_
    refine roVg CX hE (va_P_segs (fun _ _ h => hW.hP _ h) [0, 8] rfl) (c_X5_dipper_e l G cA x a b T (xs (i + 1)) (xs (i + 2)) hok hq) (cwV 2 hts gL_law_X5_dipper rfl rfl rfl hdv_X5_dipper ⟨Nat.le_of_ble_eq_true rfl, Nat.le_of_ble_eq_true rfl⟩) (hW.hP 0 rfl) 0 rfl rfl rfl B0_blind (fun _ _ _ => trivial) rfl hl.1 (rest := []) rfl (Nat.le_of_ble_eq_true rfl) dL_law_489 hcs ?_
    refine lv_aload_n hx hb dL_law_492 rfl (lv_at hl 1 rfl) ?_
    refine lv_aload_n hx hb dL_law_493 rfl (lv_at hl 3 rfl) ?_
    refine lv_iload_n hx hb dL_law_494 rfl (lv_at hl 0 rfl) ?_
    refine rn_iconst hx hb 1 rfl dL_law_495 ?_
    refine rn_iadd hx hb dL_law_496 ?_
    refine rl_ld (v := (xs (i + 1))) hx hb hX hbl hbA hW.flat.2.2 (j := i + 1) (by omega) hL rfl dL_law_497 ?_
    refine lv_aload_n hx hb dL_law_498 rfl (lv_at hl 3 rfl) ?_
    refine lv_iload_n hx hb dL_law_499 rfl (lv_at hl 0 rfl) ?_
    refine rn_iconst hx hb 2 rfl dL_law_500 ?_
    refine rn_iadd hx hb dL_law_501 ?_
    refine rl_ld (v := (xs (i + 2))) hx hb hX hbl hbA hW.flat.2.2 (j := i + 2) (by omega) hL rfl dL_law_502 ?_
    refine roVg CX hE ((hW.hP 14 rfl).sub [0, 1] rfl) (c_X6_dipper_e l G cA m hn ty z (xs (i + 1)) (xs (i + 2)) (by rw [hR.2.2.1.1]; exact hq)) (cwV 2 hts gL_law_X6_dipper rfl rfl rfl hdv_X6_dipper ⟨Nat.le_of_ble_eq_true rfl, Nat.le_of_ble_eq_true rfl⟩) (hW.hP 14 rfl) 0 rfl rfl rfl B0_blind (fun _ _ _ => trivial) rfl hl.1 (rest := [.int (-1)]) rfl (Nat.le_of_ble_eq_true rfl) dL_law_503 hcs ?_
    refine lv_icmp_eq hx hb dL_law_506 (by decide) (tgt := 923) (fun _ => ?_) (fun c_ => absurd rfl c_)
    exact kk _ _ ⟨a, b, g, h, ha, T, S, U, V, hT, hn, ty, sv, svm, pd, pdm, z, pa, sl, sp, th, hW, hSt, hH, hsv, hU, hV, hty, hpd⟩
theorem hdv_X5_ofProbe : yX5_ofProbe.cls = RX5 ∧ yX5_ofProbe.cls ≠ "java/lang/invoke/MethodHandle" ∧ yX5_ofProbe.cls ≠ "java/lang/invoke/VarHandle" ∧ (parseMethodDescriptor yX5_ofProbe.desc).map (fun d => d.parameters.length) = some 2 := by decide +kernel
theorem hdv_X6_ofProbe : yX6_ofProbe.cls = RX6 ∧ yX6_ofProbe.cls ≠ "java/lang/invoke/MethodHandle" ∧ yX6_ofProbe.cls ≠ "java/lang/invoke/VarHandle" ∧ (parseMethodDescriptor yX6_ofProbe.desc).map (fun d => d.parameters.length) = some 2 := by decide +kernel
set_option maxHeartbeats 8000000 in
set_option maxRecDepth 100000 in
theorem L_ofProbe {p_ : Program} {l : Launch} {e_ : Env} {s_ : State} {m_ : MethodId} {args : Array Value} {below : List Frame} {meth : Method} {c_ : Code} {H : Heap} {locs : List Loc} {cells slots : Nat} {Q : State → Prop} {ls : Array Slot} {G : va_G} {cA : Nat → ClassId} {A_ : Nat → Prop} {x m : Nat → Nat} {bq L i tl_ tm_ q_ v_ : Nat} {xs : Nat → Int32} (CX : CallFix p_ m_ c_ cL_law 4 s_ args wsL_law RL) (hE : EK G cA s_) (hA : ∀ q, s_.heap.size ≤ q → A_ q) (hX : va_X bq L xs s_ s_.heap) (hbl : bq < s_.heap.size) (hbA : ¬ A_ bq) (hiL : i + 6 ≤ L) (hL : L ≤ 3072) (K : KSM tl_ tm_ A_ s_) (BB : BSM q_ v_ A_ s_) (hcs : cells ≤ room_1.cells ∧ slots ≤ room_1.slots) (hl : lv_has ls 4 [(3, .int (nI i)), (2, .ref (m 0)), (1, .ref (x 0)), (0, .ref bq)]) (hI : LInv G cA A_ x m s_.heap H locs) (kk : ∀ (H : Heap) (locs : List Loc), LInv G cA A_ x m s_.heap H locs → W p_ l e_ room_1 s_ m_ args below meth c_ H locs cells slots Q (F0 m_ 923 ls [])) : W p_ l e_ room_1 s_ m_ args below meth c_ H locs cells slots Q (F0 m_ 511 ls []) := by
  obtain ⟨hx, hb, hml, hown, hts⟩ := id CX
  obtain ⟨a, b, g, h, ha, T, S, U, V, hT, hn, ty, sv, svm, pd, pdm, z, pa, sl, sp, th, hW, hSt, hH, hsv, hU, hV, hty, hpd⟩ := hI
  have hR := hSt.1
  have hi := hSt.2.1
  have htk := hSt.2.2
  have hok := hi.1
  have hnd := hok.1.1
  have hnp := hok.2.1
  by_cases hq : 0 ≤ xs (i + 1) ∧ xs (i + 1) < nI (T.2 4 2)
  · obtain ⟨p, hp, e1⟩ := ltn_nat (by omega) hq
    refine lv_aload_n hx hb dL_law_511 rfl (lv_at hl 2 rfl) ?_
    refine lv_aload_n hx hb dL_law_512 rfl (lv_at hl 3 rfl) ?_
    refine lv_iload_n hx hb dL_law_513 rfl (lv_at hl 0 rfl) ?_
    refine rn_iconst hx hb 1 rfl dL_law_514 ?_
    refine rn_iadd hx hb dL_law_515 ?_
    refine rl_ld (v := (nI p)) hx hb hX hbl hbA hW.flat.2.2 (j := i + 1) (by omega) hL e1 dL_law_516 ?_
    refine lv_aload_n hx hb dL_law_517 rfl (lv_at hl 3 rfl) ?_
    refine lv_iload_n hx hb dL_law_518 rfl (lv_at hl 0 rfl) ?_
    refine rn_iconst hx hb 2 rfl dL_law_519 ?_
    refine rn_iadd hx hb dL_law_520 ?_
    refine rl_ld (v := (xs (i + 2))) hx hb hX hbl hbA hW.flat.2.2 (j := i + 2) (by omega) hL rfl dL_law_521 ?_
    refine roVg CX hE (va_P_segs (fun _ _ h => hW.hP _ h) [0, 8] rfl) (c_X5_ofProbe_k l G cA x a b T p (xs (i + 2)) hok hp) (cwV 2 hts gL_law_X5_ofProbe rfl rfl rfl hdv_X5_ofProbe ⟨Nat.le_of_ble_eq_true rfl, Nat.le_of_ble_eq_true rfl⟩) (hW.hP 0 rfl) 0 rfl rfl rfl B0_blind (fun _ _ _ => trivial) rfl hl.1 (rest := []) rfl (Nat.le_of_ble_eq_true rfl) dL_law_522 hcs ?_
    refine lv_aload_n hx hb dL_law_525 rfl (lv_at hl 1 rfl) ?_
    refine lv_aload_n hx hb dL_law_526 rfl (lv_at hl 3 rfl) ?_
    refine lv_iload_n hx hb dL_law_527 rfl (lv_at hl 0 rfl) ?_
    refine rn_iconst hx hb 1 rfl dL_law_528 ?_
    refine rn_iadd hx hb dL_law_529 ?_
    refine rl_ld (v := (nI p)) hx hb hX hbl hbA hW.flat.2.2 (j := i + 1) (by omega) hL e1 dL_law_530 ?_
    refine lv_aload_n hx hb dL_law_531 rfl (lv_at hl 3 rfl) ?_
    refine lv_iload_n hx hb dL_law_532 rfl (lv_at hl 0 rfl) ?_
    refine rn_iconst hx hb 2 rfl dL_law_533 ?_
    refine rn_iadd hx hb dL_law_534 ?_
    refine rl_ld (v := (xs (i + 2))) hx hb hX hbl hbA hW.flat.2.2 (j := i + 2) (by omega) hL rfl dL_law_535 ?_
    refine roVg CX hE ((hW.hP 14 rfl).sub [0, 1] rfl) (c_X6_ofProbe_k l G cA m hn ty z p (T.2 2 p) (T.2 3 p) (xs (i + 2)) (T.2 4 2) hp hnp hR.2.2.2.1 ((hR.2.2.2.2 p hp).1) ((hok.2.2 p hp).1) ((hR.2.2.2.2 p hp).2.1) ((hok.2.2 p hp).2)) (cwV 2 hts gL_law_X6_ofProbe rfl rfl rfl hdv_X6_ofProbe ⟨Nat.le_of_ble_eq_true rfl, Nat.le_of_ble_eq_true rfl⟩) (hW.hP 14 rfl) 0 rfl rfl rfl B0_blind (fun _ _ _ => trivial) rfl hl.1 (rest := [.int (prbQ T p (tsel (xs (i + 2)) 4))]) rfl (Nat.le_of_ble_eq_true rfl) dL_law_536 hcs ?_
    refine lv_icmp_eq hx hb dL_law_539 (by decide) (tgt := 923) (fun _ => ?_) (fun c_ => absurd ((prb_rel hR hi hp _).symm) c_)
    exact kk _ _ ⟨a, b, g, h, ha, T, S, U, V, hT, hn, ty, sv, svm, pd, pdm, z, pa, sl, sp, th, hW, hSt, hH, hsv, hU, hV, hty, hpd⟩
  · refine lv_aload_n hx hb dL_law_511 rfl (lv_at hl 2 rfl) ?_
    refine lv_aload_n hx hb dL_law_512 rfl (lv_at hl 3 rfl) ?_
    refine lv_iload_n hx hb dL_law_513 rfl (lv_at hl 0 rfl) ?_
    refine rn_iconst hx hb 1 rfl dL_law_514 ?_
    refine rn_iadd hx hb dL_law_515 ?_
    refine rl_ld (v := (xs (i + 1))) hx hb hX hbl hbA hW.flat.2.2 (j := i + 1) (by omega) hL rfl dL_law_516 ?_
    refine lv_aload_n hx hb dL_law_517 rfl (lv_at hl 3 rfl) ?_
    refine lv_iload_n hx hb dL_law_518 rfl (lv_at hl 0 rfl) ?_
    refine rn_iconst hx hb 2 rfl dL_law_519 ?_
    refine rn_iadd hx hb dL_law_520 ?_
    refine rl_ld (v := (xs (i + 2))) hx hb hX hbl hbA hW.flat.2.2 (j := i + 2) (by omega) hL rfl dL_law_521 ?_
    refine roVg CX hE (va_P_segs (fun _ _ h => hW.hP _ h) [0, 8] rfl) (c_X5_ofProbe_e l G cA x a b T (xs (i + 1)) (xs (i + 2)) hok hq) (cwV 2 hts gL_law_X5_ofProbe rfl rfl rfl hdv_X5_ofProbe ⟨Nat.le_of_ble_eq_true rfl, Nat.le_of_ble_eq_true rfl⟩) (hW.hP 0 rfl) 0 rfl rfl rfl B0_blind (fun _ _ _ => trivial) rfl hl.1 (rest := []) rfl (Nat.le_of_ble_eq_true rfl) dL_law_522 hcs ?_
    refine lv_aload_n hx hb dL_law_525 rfl (lv_at hl 1 rfl) ?_
    refine lv_aload_n hx hb dL_law_526 rfl (lv_at hl 3 rfl) ?_
    refine lv_iload_n hx hb dL_law_527 rfl (lv_at hl 0 rfl) ?_
    refine rn_iconst hx hb 1 rfl dL_law_528 ?_
    refine rn_iadd hx hb dL_law_529 ?_
    refine rl_ld (v := (xs (i + 1))) hx hb hX hbl hbA hW.flat.2.2 (j := i + 1) (by omega) hL rfl dL_law_530 ?_
    refine lv_aload_n hx hb dL_law_531 rfl (lv_at hl 3 rfl) ?_
    refine lv_iload_n hx hb dL_law_532 rfl (lv_at hl 0 rfl) ?_
    refine rn_iconst hx hb 2 rfl dL_law_533 ?_
    refine rn_iadd hx hb dL_law_534 ?_
    refine rl_ld (v := (xs (i + 2))) hx hb hX hbl hbA hW.flat.2.2 (j := i + 2) (by omega) hL rfl dL_law_535 ?_
    refine roVg CX hE ((hW.hP 14 rfl).sub [0, 1] rfl) (c_X6_ofProbe_e l G cA m hn ty z (xs (i + 1)) (xs (i + 2)) (by rw [hR.2.2.2.1]; exact hq)) (cwV 2 hts gL_law_X6_ofProbe rfl rfl rfl hdv_X6_ofProbe ⟨Nat.le_of_ble_eq_true rfl, Nat.le_of_ble_eq_true rfl⟩) (hW.hP 14 rfl) 0 rfl rfl rfl B0_blind (fun _ _ _ => trivial) rfl hl.1 (rest := [.int (-1)]) rfl (Nat.le_of_ble_eq_true rfl) dL_law_536 hcs ?_
    refine lv_icmp_eq hx hb dL_law_539 (by decide) (tgt := 923) (fun _ => ?_) (fun c_ => absurd rfl c_)
    exact kk _ _ ⟨a, b, g, h, ha, T, S, U, V, hT, hn, ty, sv, svm, pd, pdm, z, pa, sl, sp, th, hW, hSt, hH, hsv, hU, hV, hty, hpd⟩
theorem hdv_X5_seen : yX5_seen.cls = RX5 ∧ yX5_seen.cls ≠ "java/lang/invoke/MethodHandle" ∧ yX5_seen.cls ≠ "java/lang/invoke/VarHandle" ∧ (parseMethodDescriptor yX5_seen.desc).map (fun d => d.parameters.length) = some 2 := by decide +kernel
theorem hdv_X6_seen : yX6_seen.cls = RX6 ∧ yX6_seen.cls ≠ "java/lang/invoke/MethodHandle" ∧ yX6_seen.cls ≠ "java/lang/invoke/VarHandle" ∧ (parseMethodDescriptor yX6_seen.desc).map (fun d => d.parameters.length) = some 2 := by decide +kernel
set_option maxHeartbeats 8000000 in
set_option maxRecDepth 100000 in
theorem L_seen {p_ : Program} {l : Launch} {e_ : Env} {s_ : State} {m_ : MethodId} {args : Array Value} {below : List Frame} {meth : Method} {c_ : Code} {H : Heap} {locs : List Loc} {cells slots : Nat} {Q : State → Prop} {ls : Array Slot} {G : va_G} {cA : Nat → ClassId} {A_ : Nat → Prop} {x m : Nat → Nat} {bq L i tl_ tm_ q_ v_ : Nat} {xs : Nat → Int32} (CX : CallFix p_ m_ c_ cL_law 4 s_ args wsL_law RL) (hE : EK G cA s_) (hA : ∀ q, s_.heap.size ≤ q → A_ q) (hX : va_X bq L xs s_ s_.heap) (hbl : bq < s_.heap.size) (hbA : ¬ A_ bq) (hiL : i + 6 ≤ L) (hL : L ≤ 3072) (K : KSM tl_ tm_ A_ s_) (BB : BSM q_ v_ A_ s_) (hcs : cells ≤ room_1.cells ∧ slots ≤ room_1.slots) (hl : lv_has ls 4 [(3, .int (nI i)), (2, .ref (m 0)), (1, .ref (x 0)), (0, .ref bq)]) (hI : LInv G cA A_ x m s_.heap H locs) (kk : ∀ (H : Heap) (locs : List Loc), LInv G cA A_ x m s_.heap H locs → W p_ l e_ room_1 s_ m_ args below meth c_ H locs cells slots Q (F0 m_ 923 ls [])) : W p_ l e_ room_1 s_ m_ args below meth c_ H locs cells slots Q (F0 m_ 544 ls []) := by
  obtain ⟨hx, hb, hml, hown, hts⟩ := id CX
  obtain ⟨a, b, g, h, ha, T, S, U, V, hT, hn, ty, sv, svm, pd, pdm, z, pa, sl, sp, th, hW, hSt, hH, hsv, hU, hV, hty, hpd⟩ := hI
  have hR := hSt.1
  have hi := hSt.2.1
  have htk := hSt.2.2
  have hok := hi.1
  have hnd := hok.1.1
  have hnp := hok.2.1
  by_cases hq : ∃ p k, p < T.2 4 2 ∧ k < T.2 3 p ∧ xs (i + 1) = nI p ∧ xs (i + 2) = nI k
  · obtain ⟨p, k, hp, hg, e1, e2⟩ := hq
    refine lv_aload_n hx hb dL_law_544 rfl (lv_at hl 2 rfl) ?_
    refine lv_aload_n hx hb dL_law_545 rfl (lv_at hl 3 rfl) ?_
    refine lv_iload_n hx hb dL_law_546 rfl (lv_at hl 0 rfl) ?_
    refine rn_iconst hx hb 1 rfl dL_law_547 ?_
    refine rn_iadd hx hb dL_law_548 ?_
    refine rl_ld (v := (nI p)) hx hb hX hbl hbA hW.flat.2.2 (j := i + 1) (by omega) hL e1 dL_law_549 ?_
    refine lv_aload_n hx hb dL_law_550 rfl (lv_at hl 3 rfl) ?_
    refine lv_iload_n hx hb dL_law_551 rfl (lv_at hl 0 rfl) ?_
    refine rn_iconst hx hb 2 rfl dL_law_552 ?_
    refine rn_iadd hx hb dL_law_553 ?_
    refine rl_ld (v := (nI k)) hx hb hX hbl hbA hW.flat.2.2 (j := i + 2) (by omega) hL e2 dL_law_554 ?_
    refine roVg CX hE (va_P_segs (fun _ _ h => hW.hP _ h) [0, 8] rfl) (c_X5_seen_k l G cA x a b T p k hok hp hg) (cwV 2 hts gL_law_X5_seen rfl rfl rfl hdv_X5_seen ⟨Nat.le_of_ble_eq_true rfl, Nat.le_of_ble_eq_true rfl⟩) (hW.hP 0 rfl) 0 rfl rfl rfl B0_blind (fun _ _ _ => trivial) rfl hl.1 (rest := []) rfl (Nat.le_of_ble_eq_true rfl) dL_law_555 hcs ?_
    refine lv_aload_n hx hb dL_law_558 rfl (lv_at hl 1 rfl) ?_
    refine lv_aload_n hx hb dL_law_559 rfl (lv_at hl 3 rfl) ?_
    refine lv_iload_n hx hb dL_law_560 rfl (lv_at hl 0 rfl) ?_
    refine rn_iconst hx hb 1 rfl dL_law_561 ?_
    refine rn_iadd hx hb dL_law_562 ?_
    refine rl_ld (v := (nI p)) hx hb hX hbl hbA hW.flat.2.2 (j := i + 1) (by omega) hL e1 dL_law_563 ?_
    refine lv_aload_n hx hb dL_law_564 rfl (lv_at hl 3 rfl) ?_
    refine lv_iload_n hx hb dL_law_565 rfl (lv_at hl 0 rfl) ?_
    refine rn_iconst hx hb 2 rfl dL_law_566 ?_
    refine rn_iadd hx hb dL_law_567 ?_
    refine rl_ld (v := (nI k)) hx hb hX hbl hbA hW.flat.2.2 (j := i + 2) (by omega) hL e2 dL_law_568 ?_
    refine roVg CX hE ((hW.hP 14 rfl).sub [0, 1] rfl) (c_X6_seen_k l G cA m hn ty z p k (T.2 3 p) (T.2 4 2) hp hnp hR.2.2.2.1 ((hR.2.2.2.2 p hp).2.1) ((hok.2.2 p hp).2) hg) (cwV 2 hts gL_law_X6_seen rfl rfl rfl hdv_X6_seen ⟨Nat.le_of_ble_eq_true rfl, Nat.le_of_ble_eq_true rfl⟩) (hW.hP 14 rfl) 0 rfl rfl rfl B0_blind (fun _ _ _ => trivial) rfl hl.1 (rest := [.int (T.1 (7 + p) k + nI 10000)]) rfl (Nat.le_of_ble_eq_true rfl) dL_law_569 hcs ?_
    refine lv_icmp_eq hx hb dL_law_572 (by decide) (tgt := 923) (fun _ => ?_) (fun c_ => absurd (by rw [(hR.2.2.2.2 p hp).2.2 k hg]) c_)
    exact kk _ _ ⟨a, b, g, h, ha, T, S, U, V, hT, hn, ty, sv, svm, pd, pdm, z, pa, sl, sp, th, hW, hSt, hH, hsv, hU, hV, hty, hpd⟩
  · refine lv_aload_n hx hb dL_law_544 rfl (lv_at hl 2 rfl) ?_
    refine lv_aload_n hx hb dL_law_545 rfl (lv_at hl 3 rfl) ?_
    refine lv_iload_n hx hb dL_law_546 rfl (lv_at hl 0 rfl) ?_
    refine rn_iconst hx hb 1 rfl dL_law_547 ?_
    refine rn_iadd hx hb dL_law_548 ?_
    refine rl_ld (v := (xs (i + 1))) hx hb hX hbl hbA hW.flat.2.2 (j := i + 1) (by omega) hL rfl dL_law_549 ?_
    refine lv_aload_n hx hb dL_law_550 rfl (lv_at hl 3 rfl) ?_
    refine lv_iload_n hx hb dL_law_551 rfl (lv_at hl 0 rfl) ?_
    refine rn_iconst hx hb 2 rfl dL_law_552 ?_
    refine rn_iadd hx hb dL_law_553 ?_
    refine rl_ld (v := (xs (i + 2))) hx hb hX hbl hbA hW.flat.2.2 (j := i + 2) (by omega) hL rfl dL_law_554 ?_
    refine roVg CX hE (va_P_segs (fun _ _ h => hW.hP _ h) [0, 8] rfl) (c_X5_seen_e l G cA x a b T (xs (i + 1)) (xs (i + 2)) hok (fun j_ a1 a2 a3 => by obtain ⟨k, hk, e⟩ := inS_nat (hok.2.2 j_ a1).2 a3; exact hq ⟨j_, k, a1, hk, a2, e⟩)) (cwV 2 hts gL_law_X5_seen rfl rfl rfl hdv_X5_seen ⟨Nat.le_of_ble_eq_true rfl, Nat.le_of_ble_eq_true rfl⟩) (hW.hP 0 rfl) 0 rfl rfl rfl B0_blind (fun _ _ _ => trivial) rfl hl.1 (rest := []) rfl (Nat.le_of_ble_eq_true rfl) dL_law_555 hcs ?_
    refine lv_aload_n hx hb dL_law_558 rfl (lv_at hl 1 rfl) ?_
    refine lv_aload_n hx hb dL_law_559 rfl (lv_at hl 3 rfl) ?_
    refine lv_iload_n hx hb dL_law_560 rfl (lv_at hl 0 rfl) ?_
    refine rn_iconst hx hb 1 rfl dL_law_561 ?_
    refine rn_iadd hx hb dL_law_562 ?_
    refine rl_ld (v := (xs (i + 1))) hx hb hX hbl hbA hW.flat.2.2 (j := i + 1) (by omega) hL rfl dL_law_563 ?_
    refine lv_aload_n hx hb dL_law_564 rfl (lv_at hl 3 rfl) ?_
    refine lv_iload_n hx hb dL_law_565 rfl (lv_at hl 0 rfl) ?_
    refine rn_iconst hx hb 2 rfl dL_law_566 ?_
    refine rn_iadd hx hb dL_law_567 ?_
    refine rl_ld (v := (xs (i + 2))) hx hb hX hbl hbA hW.flat.2.2 (j := i + 2) (by omega) hL rfl dL_law_568 ?_
    refine roVg CX hE ((hW.hP 14 rfl).sub [0, 1] rfl) (c_X6_seen_e l G cA m hn ty z (xs (i + 1)) (xs (i + 2)) (T.2 4 2) hnp hR.2.2.2.1 (fun j_ a1 a2 a3 => by rw [(hR.2.2.2.2 j_ a1).2.1] at a3; obtain ⟨k, hk, e⟩ := inS_nat (hok.2.2 j_ a1).2 a3; exact hq ⟨j_, k, a1, hk, a2, e⟩)) (cwV 2 hts gL_law_X6_seen rfl rfl rfl hdv_X6_seen ⟨Nat.le_of_ble_eq_true rfl, Nat.le_of_ble_eq_true rfl⟩) (hW.hP 14 rfl) 0 rfl rfl rfl B0_blind (fun _ _ _ => trivial) rfl hl.1 (rest := [.int (-1)]) rfl (Nat.le_of_ble_eq_true rfl) dL_law_569 hcs ?_
    refine lv_icmp_eq hx hb dL_law_572 (by decide) (tgt := 923) (fun _ => ?_) (fun c_ => absurd rfl c_)
    exact kk _ _ ⟨a, b, g, h, ha, T, S, U, V, hT, hn, ty, sv, svm, pd, pdm, z, pa, sl, sp, th, hW, hSt, hH, hsv, hU, hV, hty, hpd⟩
theorem hdv_X5_count : yX5_count.cls = RX5 ∧ yX5_count.cls ≠ "java/lang/invoke/MethodHandle" ∧ yX5_count.cls ≠ "java/lang/invoke/VarHandle" ∧ (parseMethodDescriptor yX5_count.desc).map (fun d => d.parameters.length) = some 1 := by decide +kernel
theorem hdv_X6_count : yX6_count.cls = RX6 ∧ yX6_count.cls ≠ "java/lang/invoke/MethodHandle" ∧ yX6_count.cls ≠ "java/lang/invoke/VarHandle" ∧ (parseMethodDescriptor yX6_count.desc).map (fun d => d.parameters.length) = some 1 := by decide +kernel
set_option maxHeartbeats 8000000 in
set_option maxRecDepth 100000 in
theorem L_count {p_ : Program} {l : Launch} {e_ : Env} {s_ : State} {m_ : MethodId} {args : Array Value} {below : List Frame} {meth : Method} {c_ : Code} {H : Heap} {locs : List Loc} {cells slots : Nat} {Q : State → Prop} {ls : Array Slot} {G : va_G} {cA : Nat → ClassId} {A_ : Nat → Prop} {x m : Nat → Nat} {bq L i tl_ tm_ q_ v_ : Nat} {xs : Nat → Int32} (CX : CallFix p_ m_ c_ cL_law 4 s_ args wsL_law RL) (hE : EK G cA s_) (hA : ∀ q, s_.heap.size ≤ q → A_ q) (hX : va_X bq L xs s_ s_.heap) (hbl : bq < s_.heap.size) (hbA : ¬ A_ bq) (hiL : i + 6 ≤ L) (hL : L ≤ 3072) (K : KSM tl_ tm_ A_ s_) (BB : BSM q_ v_ A_ s_) (hcs : cells ≤ room_1.cells ∧ slots ≤ room_1.slots) (hl : lv_has ls 4 [(3, .int (nI i)), (2, .ref (m 0)), (1, .ref (x 0)), (0, .ref bq)]) (hI : LInv G cA A_ x m s_.heap H locs) (kk : ∀ (H : Heap) (locs : List Loc), LInv G cA A_ x m s_.heap H locs → W p_ l e_ room_1 s_ m_ args below meth c_ H locs cells slots Q (F0 m_ 923 ls [])) : W p_ l e_ room_1 s_ m_ args below meth c_ H locs cells slots Q (F0 m_ 577 ls []) := by
  obtain ⟨hx, hb, hml, hown, hts⟩ := id CX
  obtain ⟨a, b, g, h, ha, T, S, U, V, hT, hn, ty, sv, svm, pd, pdm, z, pa, sl, sp, th, hW, hSt, hH, hsv, hU, hV, hty, hpd⟩ := hI
  have hR := hSt.1
  have hi := hSt.2.1
  have htk := hSt.2.2
  have hok := hi.1
  have hnd := hok.1.1
  have hnp := hok.2.1
  refine lv_aload_n hx hb dL_law_577 rfl (lv_at hl 2 rfl) ?_
  refine lv_aload_n hx hb dL_law_578 rfl (lv_at hl 3 rfl) ?_
  refine lv_iload_n hx hb dL_law_579 rfl (lv_at hl 0 rfl) ?_
  refine rn_iconst hx hb 1 rfl dL_law_580 ?_
  refine rn_iadd hx hb dL_law_581 ?_
  refine rl_ld (v := (xs (i + 1))) hx hb hX hbl hbA hW.flat.2.2 (j := i + 1) (by omega) hL rfl dL_law_582 ?_
  refine roVg CX hE (va_P_segs (fun _ _ h => hW.hP _ h) [0, 1, 13, 8] rfl) (c_X5_count l G cA x a b T hn ha ty pd (xs (i + 1)) ) (cwV 1 hts gL_law_X5_count rfl rfl rfl hdv_X5_count ⟨Nat.le_of_ble_eq_true rfl, Nat.le_of_ble_eq_true rfl⟩) (hW.hP 0 rfl) 0 rfl rfl rfl B0_blind (fun _ _ _ => trivial) rfl hl.1 (rest := []) rfl (Nat.le_of_ble_eq_true rfl) dL_law_583 hcs ?_
  refine lv_aload_n hx hb dL_law_586 rfl (lv_at hl 1 rfl) ?_
  refine lv_aload_n hx hb dL_law_587 rfl (lv_at hl 3 rfl) ?_
  refine lv_iload_n hx hb dL_law_588 rfl (lv_at hl 0 rfl) ?_
  refine rn_iconst hx hb 1 rfl dL_law_589 ?_
  refine rn_iadd hx hb dL_law_590 ?_
  refine rl_ld (v := (xs (i + 1))) hx hb hX hbl hbA hW.flat.2.2 (j := i + 1) (by omega) hL rfl dL_law_591 ?_
  refine roVg CX hE ((hW.hP 14 rfl).sub [0, 1] rfl) (c_X6_count l G cA m hn ty z (xs (i + 1)) ) (cwV 1 hts gL_law_X6_count rfl rfl rfl hdv_X6_count ⟨Nat.le_of_ble_eq_true rfl, Nat.le_of_ble_eq_true rfl⟩) (hW.hP 14 rfl) 0 rfl rfl rfl B0_blind (fun _ _ _ => trivial) rfl hl.1 (rest := [.int (cntT T hn ty (tsel (xs (i + 1)) 14))]) rfl (Nat.le_of_ble_eq_true rfl) dL_law_592 hcs ?_
  refine lv_icmp_eq hx hb dL_law_595 (by decide) (tgt := 923) (fun _ => ?_) (fun c_ => absurd ((cnt_rel hR hi hn ty _).symm) c_)
  exact kk _ _ ⟨a, b, g, h, ha, T, S, U, V, hT, hn, ty, sv, svm, pd, pdm, z, pa, sl, sp, th, hW, hSt, hH, hsv, hU, hV, hty, hpd⟩
theorem hdv_X5_loudest : yX5_loudest.cls = RX5 ∧ yX5_loudest.cls ≠ "java/lang/invoke/MethodHandle" ∧ yX5_loudest.cls ≠ "java/lang/invoke/VarHandle" ∧ (parseMethodDescriptor yX5_loudest.desc).map (fun d => d.parameters.length) = some 1 := by decide +kernel
theorem hdv_X6_loudest : yX6_loudest.cls = RX6 ∧ yX6_loudest.cls ≠ "java/lang/invoke/MethodHandle" ∧ yX6_loudest.cls ≠ "java/lang/invoke/VarHandle" ∧ (parseMethodDescriptor yX6_loudest.desc).map (fun d => d.parameters.length) = some 1 := by decide +kernel
set_option maxHeartbeats 8000000 in
set_option maxRecDepth 100000 in
theorem L_loudest {p_ : Program} {l : Launch} {e_ : Env} {s_ : State} {m_ : MethodId} {args : Array Value} {below : List Frame} {meth : Method} {c_ : Code} {H : Heap} {locs : List Loc} {cells slots : Nat} {Q : State → Prop} {ls : Array Slot} {G : va_G} {cA : Nat → ClassId} {A_ : Nat → Prop} {x m : Nat → Nat} {bq L i tl_ tm_ q_ v_ : Nat} {xs : Nat → Int32} (CX : CallFix p_ m_ c_ cL_law 4 s_ args wsL_law RL) (hE : EK G cA s_) (hA : ∀ q, s_.heap.size ≤ q → A_ q) (hX : va_X bq L xs s_ s_.heap) (hbl : bq < s_.heap.size) (hbA : ¬ A_ bq) (hiL : i + 6 ≤ L) (hL : L ≤ 3072) (K : KSM tl_ tm_ A_ s_) (BB : BSM q_ v_ A_ s_) (hcs : cells ≤ room_1.cells ∧ slots ≤ room_1.slots) (hl : lv_has ls 4 [(3, .int (nI i)), (2, .ref (m 0)), (1, .ref (x 0)), (0, .ref bq)]) (hI : LInv G cA A_ x m s_.heap H locs) (kk : ∀ (H : Heap) (locs : List Loc), LInv G cA A_ x m s_.heap H locs → W p_ l e_ room_1 s_ m_ args below meth c_ H locs cells slots Q (F0 m_ 923 ls [])) : W p_ l e_ room_1 s_ m_ args below meth c_ H locs cells slots Q (F0 m_ 600 ls []) := by
  obtain ⟨hx, hb, hml, hown, hts⟩ := id CX
  obtain ⟨a, b, g, h, ha, T, S, U, V, hT, hn, ty, sv, svm, pd, pdm, z, pa, sl, sp, th, hW, hSt, hH, hsv, hU, hV, hty, hpd⟩ := hI
  have hR := hSt.1
  have hi := hSt.2.1
  have htk := hSt.2.2
  have hok := hi.1
  have hnd := hok.1.1
  have hnp := hok.2.1
  by_cases hq : inP (xs (i + 1)) (nI 0) (nI 1)
  · refine lv_aload_n hx hb dL_law_600 rfl (lv_at hl 2 rfl) ?_
    refine lv_aload_n hx hb dL_law_601 rfl (lv_at hl 3 rfl) ?_
    refine lv_iload_n hx hb dL_law_602 rfl (lv_at hl 0 rfl) ?_
    refine rn_iconst hx hb 1 rfl dL_law_603 ?_
    refine rn_iadd hx hb dL_law_604 ?_
    refine rl_ld (v := (xs (i + 1))) hx hb hX hbl hbA hW.flat.2.2 (j := i + 1) (by omega) hL rfl dL_law_605 ?_
    refine roVg CX hE (va_P_segs (fun _ _ h => hW.hP _ h) [0, 8] rfl) (c_X5_loudest_k l G cA x a b T (xs (i + 1)) hok hq) (cwV 1 hts gL_law_X5_loudest rfl rfl rfl hdv_X5_loudest ⟨Nat.le_of_ble_eq_true rfl, Nat.le_of_ble_eq_true rfl⟩) (hW.hP 0 rfl) 0 rfl rfl rfl B0_blind (fun _ _ _ => trivial) rfl hl.1 (rest := []) rfl (Nat.le_of_ble_eq_true rfl) dL_law_606 hcs ?_
    refine lv_aload_n hx hb dL_law_609 rfl (lv_at hl 1 rfl) ?_
    refine lv_aload_n hx hb dL_law_610 rfl (lv_at hl 3 rfl) ?_
    refine lv_iload_n hx hb dL_law_611 rfl (lv_at hl 0 rfl) ?_
    refine rn_iconst hx hb 1 rfl dL_law_612 ?_
    refine rn_iadd hx hb dL_law_613 ?_
    refine rl_ld (v := (xs (i + 1))) hx hb hX hbl hbA hW.flat.2.2 (j := i + 1) (by omega) hL rfl dL_law_614 ?_
    refine roVg CX hE ((hW.hP 14 rfl).sub [0, 1] rfl) (c_X6_loudest_k l G cA m hn ty z (xs (i + 1)) hq (hab_rel hR hi)) (cwV 1 hts gL_law_X6_loudest rfl rfl rfl hdv_X6_loudest ⟨Nat.le_of_ble_eq_true rfl, Nat.le_of_ble_eq_true rfl⟩) (hW.hP 14 rfl) 0 rfl rfl rfl B0_blind (fun _ _ _ => trivial) rfl hl.1 (rest := [.int (louF (T.1 2) (xs (i + 1)))]) rfl (Nat.le_of_ble_eq_true rfl) dL_law_615 hcs ?_
    refine lv_icmp_eq hx hb dL_law_618 (by decide) (tgt := 923) (fun _ => ?_) (fun c_ => absurd ((lou_rel hR _).symm) c_)
    exact kk _ _ ⟨a, b, g, h, ha, T, S, U, V, hT, hn, ty, sv, svm, pd, pdm, z, pa, sl, sp, th, hW, hSt, hH, hsv, hU, hV, hty, hpd⟩
  · refine lv_aload_n hx hb dL_law_600 rfl (lv_at hl 2 rfl) ?_
    refine lv_aload_n hx hb dL_law_601 rfl (lv_at hl 3 rfl) ?_
    refine lv_iload_n hx hb dL_law_602 rfl (lv_at hl 0 rfl) ?_
    refine rn_iconst hx hb 1 rfl dL_law_603 ?_
    refine rn_iadd hx hb dL_law_604 ?_
    refine rl_ld (v := (xs (i + 1))) hx hb hX hbl hbA hW.flat.2.2 (j := i + 1) (by omega) hL rfl dL_law_605 ?_
    refine roVg CX hE (va_P_segs (fun _ _ h => hW.hP _ h) [0, 8] rfl) (c_X5_loudest_e l G cA x a b T (xs (i + 1)) hq) (cwV 1 hts gL_law_X5_loudest rfl rfl rfl hdv_X5_loudest ⟨Nat.le_of_ble_eq_true rfl, Nat.le_of_ble_eq_true rfl⟩) (hW.hP 0 rfl) 0 rfl rfl rfl B0_blind (fun _ _ _ => trivial) rfl hl.1 (rest := []) rfl (Nat.le_of_ble_eq_true rfl) dL_law_606 hcs ?_
    refine lv_aload_n hx hb dL_law_609 rfl (lv_at hl 1 rfl) ?_
    refine lv_aload_n hx hb dL_law_610 rfl (lv_at hl 3 rfl) ?_
    refine lv_iload_n hx hb dL_law_611 rfl (lv_at hl 0 rfl) ?_
    refine rn_iconst hx hb 1 rfl dL_law_612 ?_
    refine rn_iadd hx hb dL_law_613 ?_
    refine rl_ld (v := (xs (i + 1))) hx hb hX hbl hbA hW.flat.2.2 (j := i + 1) (by omega) hL rfl dL_law_614 ?_
    refine roVg CX hE ((hW.hP 14 rfl).sub [0, 1] rfl) (c_X6_loudest_e l G cA m hn ty z (xs (i + 1)) hq) (cwV 1 hts gL_law_X6_loudest rfl rfl rfl hdv_X6_loudest ⟨Nat.le_of_ble_eq_true rfl, Nat.le_of_ble_eq_true rfl⟩) (hW.hP 14 rfl) 0 rfl rfl rfl B0_blind (fun _ _ _ => trivial) rfl hl.1 (rest := [.int (-2)]) rfl (Nat.le_of_ble_eq_true rfl) dL_law_615 hcs ?_
    refine lv_icmp_eq hx hb dL_law_618 (by decide) (tgt := 923) (fun _ => ?_) (fun c_ => absurd rfl c_)
    exact kk _ _ ⟨a, b, g, h, ha, T, S, U, V, hT, hn, ty, sv, svm, pd, pdm, z, pa, sl, sp, th, hW, hSt, hH, hsv, hU, hV, hty, hpd⟩
theorem hdv_X5_crests : yX5_crests.cls = RX5 ∧ yX5_crests.cls ≠ "java/lang/invoke/MethodHandle" ∧ yX5_crests.cls ≠ "java/lang/invoke/VarHandle" ∧ (parseMethodDescriptor yX5_crests.desc).map (fun d => d.parameters.length) = some 1 := by decide +kernel
theorem hdv_X6_crests : yX6_crests.cls = RX6 ∧ yX6_crests.cls ≠ "java/lang/invoke/MethodHandle" ∧ yX6_crests.cls ≠ "java/lang/invoke/VarHandle" ∧ (parseMethodDescriptor yX6_crests.desc).map (fun d => d.parameters.length) = some 1 := by decide +kernel
set_option maxHeartbeats 8000000 in
set_option maxRecDepth 100000 in
theorem L_crests {p_ : Program} {l : Launch} {e_ : Env} {s_ : State} {m_ : MethodId} {args : Array Value} {below : List Frame} {meth : Method} {c_ : Code} {H : Heap} {locs : List Loc} {cells slots : Nat} {Q : State → Prop} {ls : Array Slot} {G : va_G} {cA : Nat → ClassId} {A_ : Nat → Prop} {x m : Nat → Nat} {bq L i tl_ tm_ q_ v_ : Nat} {xs : Nat → Int32} (CX : CallFix p_ m_ c_ cL_law 4 s_ args wsL_law RL) (hE : EK G cA s_) (hA : ∀ q, s_.heap.size ≤ q → A_ q) (hX : va_X bq L xs s_ s_.heap) (hbl : bq < s_.heap.size) (hbA : ¬ A_ bq) (hiL : i + 6 ≤ L) (hL : L ≤ 3072) (K : KSM tl_ tm_ A_ s_) (BB : BSM q_ v_ A_ s_) (hcs : cells ≤ room_1.cells ∧ slots ≤ room_1.slots) (hl : lv_has ls 4 [(3, .int (nI i)), (2, .ref (m 0)), (1, .ref (x 0)), (0, .ref bq)]) (hI : LInv G cA A_ x m s_.heap H locs) (kk : ∀ (H : Heap) (locs : List Loc), LInv G cA A_ x m s_.heap H locs → W p_ l e_ room_1 s_ m_ args below meth c_ H locs cells slots Q (F0 m_ 923 ls [])) : W p_ l e_ room_1 s_ m_ args below meth c_ H locs cells slots Q (F0 m_ 623 ls []) := by
  obtain ⟨hx, hb, hml, hown, hts⟩ := id CX
  obtain ⟨a, b, g, h, ha, T, S, U, V, hT, hn, ty, sv, svm, pd, pdm, z, pa, sl, sp, th, hW, hSt, hH, hsv, hU, hV, hty, hpd⟩ := hI
  have hR := hSt.1
  have hi := hSt.2.1
  have htk := hSt.2.2
  have hok := hi.1
  have hnd := hok.1.1
  have hnp := hok.2.1
  by_cases hq : inP (xs (i + 1)) (nI 0) (nI 5)
  · obtain ⟨ky, hky0, e1⟩ := inP_nat (by decide) hq
    have hky : ky < 6 := by omega
    refine lv_aload_n hx hb dL_law_623 rfl (lv_at hl 2 rfl) ?_
    refine lv_aload_n hx hb dL_law_624 rfl (lv_at hl 3 rfl) ?_
    refine lv_iload_n hx hb dL_law_625 rfl (lv_at hl 0 rfl) ?_
    refine rn_iconst hx hb 1 rfl dL_law_626 ?_
    refine rn_iadd hx hb dL_law_627 ?_
    refine rl_ld (v := (nI ky)) hx hb hX hbl hbA hW.flat.2.2 (j := i + 1) (by omega) hL e1 dL_law_628 ?_
    refine roVg CX hE (va_P_segs (fun _ _ h => hW.hP _ h) [0, 8] rfl) (c_X5_crests_k l G cA x a b T ky hok hky) (cwV 1 hts gL_law_X5_crests rfl rfl rfl hdv_X5_crests ⟨Nat.le_of_ble_eq_true rfl, Nat.le_of_ble_eq_true rfl⟩) (hW.hP 0 rfl) 0 rfl rfl rfl B0_blind (fun _ _ _ => trivial) rfl hl.1 (rest := []) rfl (Nat.le_of_ble_eq_true rfl) dL_law_629 hcs ?_
    refine lv_aload_n hx hb dL_law_632 rfl (lv_at hl 1 rfl) ?_
    refine lv_aload_n hx hb dL_law_633 rfl (lv_at hl 3 rfl) ?_
    refine lv_iload_n hx hb dL_law_634 rfl (lv_at hl 0 rfl) ?_
    refine rn_iconst hx hb 1 rfl dL_law_635 ?_
    refine rn_iadd hx hb dL_law_636 ?_
    refine rl_ld (v := (nI ky)) hx hb hX hbl hbA hW.flat.2.2 (j := i + 1) (by omega) hL e1 dL_law_637 ?_
    refine roVg CX hE ((hW.hP 14 rfl).sub [0, 1] rfl) (c_X6_crests_k l G cA m hn ty z ky hky) (cwV 1 hts gL_law_X6_crests rfl rfl rfl hdv_X6_crests ⟨Nat.le_of_ble_eq_true rfl, Nat.le_of_ble_eq_true rfl⟩) (hW.hP 14 rfl) 0 rfl rfl rfl B0_blind (fun _ _ _ => trivial) rfl hl.1 (rest := [.int (creM (T.1 2) ky 10)]) rfl (Nat.le_of_ble_eq_true rfl) dL_law_638 hcs ?_
    refine lv_icmp_eq hx hb dL_law_641 (by decide) (tgt := 923) (fun _ => ?_) (fun c_ => absurd ((cre_rel hR ky 10).symm) c_)
    exact kk _ _ ⟨a, b, g, h, ha, T, S, U, V, hT, hn, ty, sv, svm, pd, pdm, z, pa, sl, sp, th, hW, hSt, hH, hsv, hU, hV, hty, hpd⟩
  · refine lv_aload_n hx hb dL_law_623 rfl (lv_at hl 2 rfl) ?_
    refine lv_aload_n hx hb dL_law_624 rfl (lv_at hl 3 rfl) ?_
    refine lv_iload_n hx hb dL_law_625 rfl (lv_at hl 0 rfl) ?_
    refine rn_iconst hx hb 1 rfl dL_law_626 ?_
    refine rn_iadd hx hb dL_law_627 ?_
    refine rl_ld (v := (xs (i + 1))) hx hb hX hbl hbA hW.flat.2.2 (j := i + 1) (by omega) hL rfl dL_law_628 ?_
    refine roVg CX hE (va_P_segs (fun _ _ h => hW.hP _ h) [0, 8] rfl) (c_X5_crests_e l G cA x a b T (xs (i + 1)) hq) (cwV 1 hts gL_law_X5_crests rfl rfl rfl hdv_X5_crests ⟨Nat.le_of_ble_eq_true rfl, Nat.le_of_ble_eq_true rfl⟩) (hW.hP 0 rfl) 0 rfl rfl rfl B0_blind (fun _ _ _ => trivial) rfl hl.1 (rest := []) rfl (Nat.le_of_ble_eq_true rfl) dL_law_629 hcs ?_
    refine lv_aload_n hx hb dL_law_632 rfl (lv_at hl 1 rfl) ?_
    refine lv_aload_n hx hb dL_law_633 rfl (lv_at hl 3 rfl) ?_
    refine lv_iload_n hx hb dL_law_634 rfl (lv_at hl 0 rfl) ?_
    refine rn_iconst hx hb 1 rfl dL_law_635 ?_
    refine rn_iadd hx hb dL_law_636 ?_
    refine rl_ld (v := (xs (i + 1))) hx hb hX hbl hbA hW.flat.2.2 (j := i + 1) (by omega) hL rfl dL_law_637 ?_
    refine roVg CX hE ((hW.hP 14 rfl).sub [0, 1] rfl) (c_X6_crests_e l G cA m hn ty z (xs (i + 1)) hq) (cwV 1 hts gL_law_X6_crests rfl rfl rfl hdv_X6_crests ⟨Nat.le_of_ble_eq_true rfl, Nat.le_of_ble_eq_true rfl⟩) (hW.hP 14 rfl) 0 rfl rfl rfl B0_blind (fun _ _ _ => trivial) rfl hl.1 (rest := [.int (-1)]) rfl (Nat.le_of_ble_eq_true rfl) dL_law_638 hcs ?_
    refine lv_icmp_eq hx hb dL_law_641 (by decide) (tgt := 923) (fun _ => ?_) (fun c_ => absurd rfl c_)
    exact kk _ _ ⟨a, b, g, h, ha, T, S, U, V, hT, hn, ty, sv, svm, pd, pdm, z, pa, sl, sp, th, hW, hSt, hH, hsv, hU, hV, hty, hpd⟩
