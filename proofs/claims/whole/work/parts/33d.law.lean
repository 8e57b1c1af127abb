/-! The law's cases: ifPassed, comes, hush, put. -/
theorem hdv_X5_ifPassed : yX5_ifPassed.cls = RX5 ∧ yX5_ifPassed.cls ≠ "java/lang/invoke/MethodHandle" ∧ yX5_ifPassed.cls ≠ "java/lang/invoke/VarHandle" ∧ (parseMethodDescriptor yX5_ifPassed.desc).map (fun d => d.parameters.length) = some 3 := by decide +kernel
theorem hdv_X6_ifPassed : yX6_ifPassed.cls = RX6 ∧ yX6_ifPassed.cls ≠ "java/lang/invoke/MethodHandle" ∧ yX6_ifPassed.cls ≠ "java/lang/invoke/VarHandle" ∧ (parseMethodDescriptor yX6_ifPassed.desc).map (fun d => d.parameters.length) = some 3 := by decide +kernel
set_option maxHeartbeats 8000000 in
set_option maxRecDepth 100000 in
theorem L_ifPassed {p_ : Program} {l : Launch} {e_ : Env} {s_ : State} {m_ : MethodId} {args : Array Value} {below : List Frame} {meth : Method} {c_ : Code} {H : Heap} {locs : List Loc} {cells slots : Nat} {Q : State → Prop} {ls : Array Slot} {G : va_G} {cA : Nat → ClassId} {A_ : Nat → Prop} {x m : Nat → Nat} {bq L i tl_ tm_ q_ v_ : Nat} {xs : Nat → Int32} (CX : CallFix p_ m_ c_ cL_law 4 s_ args wsL_law RL) (hE : EK G cA s_) (hA : ∀ q, s_.heap.size ≤ q → A_ q) (hX : va_X bq L xs s_ s_.heap) (hbl : bq < s_.heap.size) (hbA : ¬ A_ bq) (hiL : i + 6 ≤ L) (hL : L ≤ 3072) (K : KSM tl_ tm_ A_ s_) (BB : BSM q_ v_ A_ s_) (hcs : cells ≤ room_1.cells ∧ slots ≤ room_1.slots) (hl : lv_has ls 4 [(3, .int (nI i)), (2, .ref (m 0)), (1, .ref (x 0)), (0, .ref bq)]) (hI : LInv G cA A_ x m s_.heap H locs) (kk : ∀ (H : Heap) (locs : List Loc), LInv G cA A_ x m s_.heap H locs → W p_ l e_ room_1 s_ m_ args below meth c_ H locs cells slots Q (F0 m_ 923 ls [])) : W p_ l e_ room_1 s_ m_ args below meth c_ H locs cells slots Q (F0 m_ 646 ls []) := by
  obtain ⟨hx, hb, hml, hown, hts⟩ := id CX
  obtain ⟨a, b, g, h, ha, T, S, U, V, hT, hn, ty, sv, svm, pd, pdm, z, pa, sl, sp, th, hW, hSt, hH, hsv, hU, hV, hty, hpd⟩ := hI
  have hR := hSt.1
  have hi := hSt.2.1
  have htk := hSt.2.2
  have hok := hi.1
  have hnd := hok.1.1
  have hnp := hok.2.1
  by_cases hq : cellP (xs (i + 1)) (xs (i + 2)) ∧ inP (xs (i + 3)) (nI 1) (nI 60)
  · obtain ⟨kx, ky, hkx, hky, e1, e2⟩ := cellP_nat hq.1
    obtain ⟨n, hn1, hn9, e3⟩ := inP_nat1 (by decide) hq.2 (by decide)
    have hc : ky * 10 + kx < 60 := by omega
    have hrn := run_rel hR hi n
    refine lv_aload_n hx hb dL_law_646 rfl (lv_at hl 2 rfl) ?_
    refine lv_aload_n hx hb dL_law_647 rfl (lv_at hl 3 rfl) ?_
    refine lv_iload_n hx hb dL_law_648 rfl (lv_at hl 0 rfl) ?_
    refine rn_iconst hx hb 1 rfl dL_law_649 ?_
    refine rn_iadd hx hb dL_law_650 ?_
    refine rl_ld (v := (nI kx)) hx hb hX hbl hbA hW.flat.2.2 (j := i + 1) (by omega) hL e1 dL_law_651 ?_
    refine lv_aload_n hx hb dL_law_652 rfl (lv_at hl 3 rfl) ?_
    refine lv_iload_n hx hb dL_law_653 rfl (lv_at hl 0 rfl) ?_
    refine rn_iconst hx hb 2 rfl dL_law_654 ?_
    refine rn_iadd hx hb dL_law_655 ?_
    refine rl_ld (v := (nI ky)) hx hb hX hbl hbA hW.flat.2.2 (j := i + 2) (by omega) hL e2 dL_law_656 ?_
    refine lv_aload_n hx hb dL_law_657 rfl (lv_at hl 3 rfl) ?_
    refine lv_iload_n hx hb dL_law_658 rfl (lv_at hl 0 rfl) ?_
    refine rn_iconst hx hb 3 rfl dL_law_659 ?_
    refine rn_iadd hx hb dL_law_660 ?_
    refine rl_ld (v := (nI n)) hx hb hX hbl hbA hW.flat.2.2 (j := i + 3) (by omega) hL e3 dL_law_661 ?_
    refine muiVS (segs' := [[(x 0, .inr (5, [.ref (a 0), .ref ((runA b n) 0), .ref (x 3), .ref (x 1), .ref (x 2), .ref (x 5)]))], [(x 3, .inr (1, [.ref (x 4), .int (nI hn)])), (x 4, .inl (cA 3, 6, .inr (.inr (.inr (.inr (stR ha))))))], tkW cA (ha 0) (hT 0), tkW cA (ha 1) (hT 1), tkW cA (ha 2) (hT 2), tkW cA (ha 3) (hT 3), tkW cA (ha 4) (hT 4), tkW cA (ha 5) (hT 5), tkW cA a T, tkW cA (runA b n) (runT T n), [(x 1, .inl (cA 3, 2, .inr (.inr (.inr (.inr (sl2 (g 0) (h 0))))))), (x 2, .inl (cA 2, 2, .inl sv))], tkW cA g U, tkW cA h V, [(x 5, .inr (2, [.ref (x 6), .int (nI ty)])), (x 6, .inl (cA 1, 72, .inl pd))], [(m 0, .inr (6, [.ref (m 1), .ref (m 2), .ref (m 3), .ref (m 4), .int (nI hn), .ref (m 5), .ref (m 6), .int (nI ty), .ref (m 7)])), (m 1, .inl (cA 0, 345, .inl z)), (m 2, .inl (cA 0, 2070, .inl pa)), (m 3, .inl (cA 0, 690, .inl sl)), (m 4, .inl (cA 2, 2, .inl svm)), (m 5, .inl (cA 0, 345, .inl sp)), (m 6, .inl (cA 1, 72, .inl pdm)), (m 7, .inl (cA 0, 60, .inl th))]]) CX hE hW hA (c_X5_ifPassed_k l G cA x a b T S kx ky n hok hkx hky hn1 hn9) (cwV 3 hts gL_law_X5_ifPassed rfl rfl rfl hdv_X5_ifPassed ⟨Nat.le_of_ble_eq_true rfl, Nat.le_of_ble_eq_true rfl⟩) [0, 8, 9] (by decide) rfl rfl rfl (hW.hP 0 rfl) 0 rfl rfl rfl BM0_blind (fun _ _ _ _ => trivial) rfl hl.1 (rest := []) rfl (Nat.le_of_ble_eq_true rfl) dL_law_662 hcs (fun H locs hW => ?_)
    refine lv_aload_n hx hb dL_law_665 rfl (lv_at hl 1 rfl) ?_
    refine lv_aload_n hx hb dL_law_666 rfl (lv_at hl 3 rfl) ?_
    refine lv_iload_n hx hb dL_law_667 rfl (lv_at hl 0 rfl) ?_
    refine rn_iconst hx hb 1 rfl dL_law_668 ?_
    refine rn_iadd hx hb dL_law_669 ?_
    refine rl_ld (v := (nI kx)) hx hb hX hbl hbA hW.flat.2.2 (j := i + 1) (by omega) hL e1 dL_law_670 ?_
    refine lv_aload_n hx hb dL_law_671 rfl (lv_at hl 3 rfl) ?_
    refine lv_iload_n hx hb dL_law_672 rfl (lv_at hl 0 rfl) ?_
    refine rn_iconst hx hb 2 rfl dL_law_673 ?_
    refine rn_iadd hx hb dL_law_674 ?_
    refine rl_ld (v := (nI ky)) hx hb hX hbl hbA hW.flat.2.2 (j := i + 2) (by omega) hL e2 dL_law_675 ?_
    refine lv_aload_n hx hb dL_law_676 rfl (lv_at hl 3 rfl) ?_
    refine lv_iload_n hx hb dL_law_677 rfl (lv_at hl 0 rfl) ?_
    refine rn_iconst hx hb 3 rfl dL_law_678 ?_
    refine rn_iadd hx hb dL_law_679 ?_
    refine rl_ld (v := (nI n)) hx hb hX hbl hbA hW.flat.2.2 (j := i + 3) (by omega) hL e3 dL_law_680 ?_
    refine muiVP (w' := [(m 0, .inr (6, [.ref (m 1), .ref (m 2), .ref (m 3), .ref (m 4), .int (nI hn), .ref (m 5), .ref (m 6), .int (nI ty), .ref (m 7)])), (m 1, .inl (cA 0, 345, .inl z)), (m 2, .inl (cA 0, 2070, .inl pa)), (m 3, .inl (cA 0, 690, .inl sl)), (m 4, .inl (cA 2, 2, .inl svm)), (m 5, .inl (cA 0, 345, .inl z)), (m 6, .inl (cA 1, 72, .inl pdm)), (m 7, .inl (cA 0, 60, .inl (thM z th (T.2 4 1) (T.2 4 2) n)))]) (segs' := [[(x 0, .inr (5, [.ref (a 0), .ref ((runA b n) 0), .ref (x 3), .ref (x 1), .ref (x 2), .ref (x 5)]))], [(x 3, .inr (1, [.ref (x 4), .int (nI hn)])), (x 4, .inl (cA 3, 6, .inr (.inr (.inr (.inr (stR ha))))))], tkW cA (ha 0) (hT 0), tkW cA (ha 1) (hT 1), tkW cA (ha 2) (hT 2), tkW cA (ha 3) (hT 3), tkW cA (ha 4) (hT 4), tkW cA (ha 5) (hT 5), tkW cA a T, tkW cA (runA b n) (runT T n), [(x 1, .inl (cA 3, 2, .inr (.inr (.inr (.inr (sl2 (g 0) (h 0))))))), (x 2, .inl (cA 2, 2, .inl sv))], tkW cA g U, tkW cA h V, [(x 5, .inr (2, [.ref (x 6), .int (nI ty)])), (x 6, .inl (cA 1, 72, .inl pd))], [(m 0, .inr (6, [.ref (m 1), .ref (m 2), .ref (m 3), .ref (m 4), .int (nI hn), .ref (m 5), .ref (m 6), .int (nI ty), .ref (m 7)])), (m 1, .inl (cA 0, 345, .inl z)), (m 2, .inl (cA 0, 2070, .inl pa)), (m 3, .inl (cA 0, 690, .inl sl)), (m 4, .inl (cA 2, 2, .inl svm)), (m 5, .inl (cA 0, 345, .inl z)), (m 6, .inl (cA 1, 72, .inl pdm)), (m 7, .inl (cA 0, 60, .inl (thM z th (T.2 4 1) (T.2 4 2) n)))]]) CX hE hW hA (c_X6_ifPassed_k l G cA m hn ty z sp th kx ky n (T.2 4 1) (T.2 4 2) hkx hky hn1 hn9 (okM_of hR hi)) (cwV 3 hts gL_law_X6_ifPassed rfl rfl rfl hdv_X6_ifPassed ⟨Nat.le_of_ble_eq_true rfl, Nat.le_of_ble_eq_true rfl⟩) 14 rfl [0, 1, 5, 7] (by decide) rfl rfl rfl rfl 0 rfl rfl rfl BM0_blind (fun _ _ _ _ => trivial) rfl hl.1 (rest := [.int ((runT T n).1 2 (ky * 10 + kx) + nI 10000)]) rfl (Nat.le_of_ble_eq_true rfl) dL_law_681 hcs (fun H locs hW => ?_)
    refine lv_icmp_eq hx hb dL_law_684 (by decide) (tgt := 923) (fun _ => ?_) (fun c_ => absurd (by rw [show shf 65 (runM z (T.2 4 1) (T.2 4 2) n) (ky * 10 + kx) = (runT T n).1 2 (ky * 10 + kx) from hrn.1.1.2.1.2.1 _ hc]) c_)
    exact kk _ _ ⟨a, runA b n, g, h, ha, T, runT T n, U, V, hT, hn, ty, sv, svm, pd, pdm, z, pa, sl, z, thM z th (T.2 4 1) (T.2 4 2) n, hW, hSt, hH, hsv, hU, hV, hty, hpd⟩
  · refine lv_aload_n hx hb dL_law_646 rfl (lv_at hl 2 rfl) ?_
    refine lv_aload_n hx hb dL_law_647 rfl (lv_at hl 3 rfl) ?_
    refine lv_iload_n hx hb dL_law_648 rfl (lv_at hl 0 rfl) ?_
    refine rn_iconst hx hb 1 rfl dL_law_649 ?_
    refine rn_iadd hx hb dL_law_650 ?_
    refine rl_ld (v := (xs (i + 1))) hx hb hX hbl hbA hW.flat.2.2 (j := i + 1) (by omega) hL rfl dL_law_651 ?_
    refine lv_aload_n hx hb dL_law_652 rfl (lv_at hl 3 rfl) ?_
    refine lv_iload_n hx hb dL_law_653 rfl (lv_at hl 0 rfl) ?_
    refine rn_iconst hx hb 2 rfl dL_law_654 ?_
    refine rn_iadd hx hb dL_law_655 ?_
    refine rl_ld (v := (xs (i + 2))) hx hb hX hbl hbA hW.flat.2.2 (j := i + 2) (by omega) hL rfl dL_law_656 ?_
    refine lv_aload_n hx hb dL_law_657 rfl (lv_at hl 3 rfl) ?_
    refine lv_iload_n hx hb dL_law_658 rfl (lv_at hl 0 rfl) ?_
    refine rn_iconst hx hb 3 rfl dL_law_659 ?_
    refine rn_iadd hx hb dL_law_660 ?_
    refine rl_ld (v := (xs (i + 3))) hx hb hX hbl hbA hW.flat.2.2 (j := i + 3) (by omega) hL rfl dL_law_661 ?_
    refine roVg CX hE (va_P_segs (fun _ _ h => hW.hP _ h) [0, 8] rfl) (c_X5_ifPassed_e l G cA x a b T (xs (i + 1)) (xs (i + 2)) (xs (i + 3)) (fun a1 a2 => hq ⟨a1, a2⟩)) (cwV 3 hts gL_law_X5_ifPassed rfl rfl rfl hdv_X5_ifPassed ⟨Nat.le_of_ble_eq_true rfl, Nat.le_of_ble_eq_true rfl⟩) (hW.hP 0 rfl) 0 rfl rfl rfl B0_blind (fun _ _ _ => trivial) rfl hl.1 (rest := []) rfl (Nat.le_of_ble_eq_true rfl) dL_law_662 hcs ?_
    refine lv_aload_n hx hb dL_law_665 rfl (lv_at hl 1 rfl) ?_
    refine lv_aload_n hx hb dL_law_666 rfl (lv_at hl 3 rfl) ?_
    refine lv_iload_n hx hb dL_law_667 rfl (lv_at hl 0 rfl) ?_
    refine rn_iconst hx hb 1 rfl dL_law_668 ?_
    refine rn_iadd hx hb dL_law_669 ?_
    refine rl_ld (v := (xs (i + 1))) hx hb hX hbl hbA hW.flat.2.2 (j := i + 1) (by omega) hL rfl dL_law_670 ?_
    refine lv_aload_n hx hb dL_law_671 rfl (lv_at hl 3 rfl) ?_
    refine lv_iload_n hx hb dL_law_672 rfl (lv_at hl 0 rfl) ?_
    refine rn_iconst hx hb 2 rfl dL_law_673 ?_
    refine rn_iadd hx hb dL_law_674 ?_
    refine rl_ld (v := (xs (i + 2))) hx hb hX hbl hbA hW.flat.2.2 (j := i + 2) (by omega) hL rfl dL_law_675 ?_
    refine lv_aload_n hx hb dL_law_676 rfl (lv_at hl 3 rfl) ?_
    refine lv_iload_n hx hb dL_law_677 rfl (lv_at hl 0 rfl) ?_
    refine rn_iconst hx hb 3 rfl dL_law_678 ?_
    refine rn_iadd hx hb dL_law_679 ?_
    refine rl_ld (v := (xs (i + 3))) hx hb hX hbl hbA hW.flat.2.2 (j := i + 3) (by omega) hL rfl dL_law_680 ?_
    refine roVg CX hE ((hW.hP 14 rfl).sub [0, 1] rfl) (c_X6_ifPassed_e l G cA m hn ty z (xs (i + 1)) (xs (i + 2)) (xs (i + 3)) (fun a1 a2 => hq ⟨a1, a2⟩)) (cwV 3 hts gL_law_X6_ifPassed rfl rfl rfl hdv_X6_ifPassed ⟨Nat.le_of_ble_eq_true rfl, Nat.le_of_ble_eq_true rfl⟩) (hW.hP 14 rfl) 0 rfl rfl rfl B0_blind (fun _ _ _ => trivial) rfl hl.1 (rest := [.int (if ¬ cellP (xs (i + 1)) (xs (i + 2)) then -1 else -2)]) rfl (Nat.le_of_ble_eq_true rfl) dL_law_681 hcs ?_
    refine lv_icmp_eq hx hb dL_law_684 (by decide) (tgt := 923) (fun _ => ?_) (fun c_ => absurd rfl c_)
    exact kk _ _ ⟨a, b, g, h, ha, T, S, U, V, hT, hn, ty, sv, svm, pd, pdm, z, pa, sl, sp, th, hW, hSt, hH, hsv, hU, hV, hty, hpd⟩
theorem hdv_X5_comes : yX5_comes.cls = RX5 ∧ yX5_comes.cls ≠ "java/lang/invoke/MethodHandle" ∧ yX5_comes.cls ≠ "java/lang/invoke/VarHandle" ∧ (parseMethodDescriptor yX5_comes.desc).map (fun d => d.parameters.length) = some 2 := by decide +kernel
theorem hdv_X6_comes : yX6_comes.cls = RX6 ∧ yX6_comes.cls ≠ "java/lang/invoke/MethodHandle" ∧ yX6_comes.cls ≠ "java/lang/invoke/VarHandle" ∧ (parseMethodDescriptor yX6_comes.desc).map (fun d => d.parameters.length) = some 2 := by decide +kernel
set_option maxHeartbeats 8000000 in
set_option maxRecDepth 100000 in
theorem L_comes {p_ : Program} {l : Launch} {e_ : Env} {s_ : State} {m_ : MethodId} {args : Array Value} {below : List Frame} {meth : Method} {c_ : Code} {H : Heap} {locs : List Loc} {cells slots : Nat} {Q : State → Prop} {ls : Array Slot} {G : va_G} {cA : Nat → ClassId} {A_ : Nat → Prop} {x m : Nat → Nat} {bq L i tl_ tm_ q_ v_ : Nat} {xs : Nat → Int32} (CX : CallFix p_ m_ c_ cL_law 4 s_ args wsL_law RL) (hE : EK G cA s_) (hA : ∀ q, s_.heap.size ≤ q → A_ q) (hX : va_X bq L xs s_ s_.heap) (hbl : bq < s_.heap.size) (hbA : ¬ A_ bq) (hiL : i + 6 ≤ L) (hL : L ≤ 3072) (K : KSM tl_ tm_ A_ s_) (BB : BSM q_ v_ A_ s_) (hcs : cells ≤ room_1.cells ∧ slots ≤ room_1.slots) (hl : lv_has ls 4 [(3, .int (nI i)), (2, .ref (m 0)), (1, .ref (x 0)), (0, .ref bq)]) (hI : LInv G cA A_ x m s_.heap H locs) (kk : ∀ (H : Heap) (locs : List Loc), LInv G cA A_ x m s_.heap H locs → W p_ l e_ room_1 s_ m_ args below meth c_ H locs cells slots Q (F0 m_ 923 ls [])) : W p_ l e_ room_1 s_ m_ args below meth c_ H locs cells slots Q (F0 m_ 689 ls []) := by
  obtain ⟨hx, hb, hml, hown, hts⟩ := id CX
  obtain ⟨a, b, g, h, ha, T, S, U, V, hT, hn, ty, sv, svm, pd, pdm, z, pa, sl, sp, th, hW, hSt, hH, hsv, hU, hV, hty, hpd⟩ := hI
  have hR := hSt.1
  have hi := hSt.2.1
  have htk := hSt.2.2
  have hok := hi.1
  have hnd := hok.1.1
  have hnp := hok.2.1
  by_cases hq : ∃ kx ky, kx < 10 ∧ ky < 6 ∧ xs (i + 1) = nI kx ∧ xs (i + 2) = nI ky ∧ stillP (T.1 0) (T.1 2) (T.1 3) (ky * 10 + kx)
  · obtain ⟨kx, ky, hkx, hky, e1, e2, hst⟩ := hq
    have hc : ky * 10 + kx < 60 := by omega
    refine lv_aload_n hx hb dL_law_689 rfl (lv_at hl 2 rfl) ?_
    refine lv_aload_n hx hb dL_law_690 rfl (lv_at hl 3 rfl) ?_
    refine lv_iload_n hx hb dL_law_691 rfl (lv_at hl 0 rfl) ?_
    refine rn_iconst hx hb 1 rfl dL_law_692 ?_
    refine rn_iadd hx hb dL_law_693 ?_
    refine rl_ld (v := (nI kx)) hx hb hX hbl hbA hW.flat.2.2 (j := i + 1) (by omega) hL e1 dL_law_694 ?_
    refine lv_aload_n hx hb dL_law_695 rfl (lv_at hl 3 rfl) ?_
    refine lv_iload_n hx hb dL_law_696 rfl (lv_at hl 0 rfl) ?_
    refine rn_iconst hx hb 2 rfl dL_law_697 ?_
    refine rn_iadd hx hb dL_law_698 ?_
    refine rl_ld (v := (nI ky)) hx hb hX hbl hbA hW.flat.2.2 (j := i + 2) (by omega) hL e2 dL_law_699 ?_
    refine muiVS (segs' := [[(x 0, .inr (5, [.ref (a 0), .ref ((runA b (comKT T (ky * 10 + kx) 80)) 0), .ref (x 3), .ref (x 1), .ref (x 2), .ref (x 5)]))], [(x 3, .inr (1, [.ref (x 4), .int (nI hn)])), (x 4, .inl (cA 3, 6, .inr (.inr (.inr (.inr (stR ha))))))], tkW cA (ha 0) (hT 0), tkW cA (ha 1) (hT 1), tkW cA (ha 2) (hT 2), tkW cA (ha 3) (hT 3), tkW cA (ha 4) (hT 4), tkW cA (ha 5) (hT 5), tkW cA a T, tkW cA (runA b (comKT T (ky * 10 + kx) 80)) (runT T (comKT T (ky * 10 + kx) 80)), [(x 1, .inl (cA 3, 2, .inr (.inr (.inr (.inr (sl2 (g 0) (h 0))))))), (x 2, .inl (cA 2, 2, .inl sv))], tkW cA g U, tkW cA h V, [(x 5, .inr (2, [.ref (x 6), .int (nI ty)])), (x 6, .inl (cA 1, 72, .inl pd))], [(m 0, .inr (6, [.ref (m 1), .ref (m 2), .ref (m 3), .ref (m 4), .int (nI hn), .ref (m 5), .ref (m 6), .int (nI ty), .ref (m 7)])), (m 1, .inl (cA 0, 345, .inl z)), (m 2, .inl (cA 0, 2070, .inl pa)), (m 3, .inl (cA 0, 690, .inl sl)), (m 4, .inl (cA 2, 2, .inl svm)), (m 5, .inl (cA 0, 345, .inl sp)), (m 6, .inl (cA 1, 72, .inl pdm)), (m 7, .inl (cA 0, 60, .inl th))]]) CX hE hW hA (c_X5_comes_k l G cA x a b T S kx ky hok hkx hky hst) (cwV 2 hts gL_law_X5_comes rfl rfl rfl hdv_X5_comes ⟨Nat.le_of_ble_eq_true rfl, Nat.le_of_ble_eq_true rfl⟩) [0, 8, 9] (by decide) rfl rfl rfl (hW.hP 0 rfl) 0 rfl rfl rfl BM0_blind (fun _ _ _ _ => trivial) rfl hl.1 (rest := []) rfl (Nat.le_of_ble_eq_true rfl) dL_law_700 hcs (fun H locs hW => ?_)
    refine lv_aload_n hx hb dL_law_703 rfl (lv_at hl 1 rfl) ?_
    refine lv_aload_n hx hb dL_law_704 rfl (lv_at hl 3 rfl) ?_
    refine lv_iload_n hx hb dL_law_705 rfl (lv_at hl 0 rfl) ?_
    refine rn_iconst hx hb 1 rfl dL_law_706 ?_
    refine rn_iadd hx hb dL_law_707 ?_
    refine rl_ld (v := (nI kx)) hx hb hX hbl hbA hW.flat.2.2 (j := i + 1) (by omega) hL e1 dL_law_708 ?_
    refine lv_aload_n hx hb dL_law_709 rfl (lv_at hl 3 rfl) ?_
    refine lv_iload_n hx hb dL_law_710 rfl (lv_at hl 0 rfl) ?_
    refine rn_iconst hx hb 2 rfl dL_law_711 ?_
    refine rn_iadd hx hb dL_law_712 ?_
    refine rl_ld (v := (nI ky)) hx hb hX hbl hbA hW.flat.2.2 (j := i + 2) (by omega) hL e2 dL_law_713 ?_
    refine muiVP (w' := [(m 0, .inr (6, [.ref (m 1), .ref (m 2), .ref (m 3), .ref (m 4), .int (nI hn), .ref (m 5), .ref (m 6), .int (nI ty), .ref (m 7)])), (m 1, .inl (cA 0, 345, .inl z)), (m 2, .inl (cA 0, 2070, .inl pa)), (m 3, .inl (cA 0, 690, .inl sl)), (m 4, .inl (cA 2, 2, .inl svm)), (m 5, .inl (cA 0, 345, .inl z)), (m 6, .inl (cA 1, 72, .inl pdm)), (m 7, .inl (cA 0, 60, .inl (thM z th (T.2 4 1) (T.2 4 2) (comK z (T.2 4 1) (T.2 4 2) (ky * 10 + kx) 80))))]) (segs' := [[(x 0, .inr (5, [.ref (a 0), .ref ((runA b (comKT T (ky * 10 + kx) 80)) 0), .ref (x 3), .ref (x 1), .ref (x 2), .ref (x 5)]))], [(x 3, .inr (1, [.ref (x 4), .int (nI hn)])), (x 4, .inl (cA 3, 6, .inr (.inr (.inr (.inr (stR ha))))))], tkW cA (ha 0) (hT 0), tkW cA (ha 1) (hT 1), tkW cA (ha 2) (hT 2), tkW cA (ha 3) (hT 3), tkW cA (ha 4) (hT 4), tkW cA (ha 5) (hT 5), tkW cA a T, tkW cA (runA b (comKT T (ky * 10 + kx) 80)) (runT T (comKT T (ky * 10 + kx) 80)), [(x 1, .inl (cA 3, 2, .inr (.inr (.inr (.inr (sl2 (g 0) (h 0))))))), (x 2, .inl (cA 2, 2, .inl sv))], tkW cA g U, tkW cA h V, [(x 5, .inr (2, [.ref (x 6), .int (nI ty)])), (x 6, .inl (cA 1, 72, .inl pd))], [(m 0, .inr (6, [.ref (m 1), .ref (m 2), .ref (m 3), .ref (m 4), .int (nI hn), .ref (m 5), .ref (m 6), .int (nI ty), .ref (m 7)])), (m 1, .inl (cA 0, 345, .inl z)), (m 2, .inl (cA 0, 2070, .inl pa)), (m 3, .inl (cA 0, 690, .inl sl)), (m 4, .inl (cA 2, 2, .inl svm)), (m 5, .inl (cA 0, 345, .inl z)), (m 6, .inl (cA 1, 72, .inl pdm)), (m 7, .inl (cA 0, 60, .inl (thM z th (T.2 4 1) (T.2 4 2) (comK z (T.2 4 1) (T.2 4 2) (ky * 10 + kx) 80))))]]) CX hE hW hA (c_X6_comes_k l G cA m hn ty z sp th kx ky (T.2 4 1) (T.2 4 2) hkx hky ((still_rel hR hc).mpr hst) (okM_of hR hi)) (cwV 2 hts gL_law_X6_comes rfl rfl rfl hdv_X6_comes ⟨Nat.le_of_ble_eq_true rfl, Nat.le_of_ble_eq_true rfl⟩) 14 rfl [0, 1, 5, 7] (by decide) rfl rfl rfl rfl 0 rfl rfl rfl BM0_blind (fun _ _ _ _ => trivial) rfl hl.1 (rest := [.int (comRT T (ky * 10 + kx) 80)]) rfl (Nat.le_of_ble_eq_true rfl) dL_law_714 hcs (fun H locs hW => ?_)
    refine lv_icmp_eq hx hb dL_law_717 (by decide) (tgt := 923) (fun _ => ?_) (fun c_ => absurd ((com_rel hR hi hc 80).symm) c_)
    exact kk _ _ ⟨a, runA b (comKT T (ky * 10 + kx) 80), g, h, ha, T, runT T (comKT T (ky * 10 + kx) 80), U, V, hT, hn, ty, sv, svm, pd, pdm, z, pa, sl, z, thM z th (T.2 4 1) (T.2 4 2) (comK z (T.2 4 1) (T.2 4 2) (ky * 10 + kx) 80), hW, hSt, hH, hsv, hU, hV, hty, hpd⟩
  · refine lv_aload_n hx hb dL_law_689 rfl (lv_at hl 2 rfl) ?_
    refine lv_aload_n hx hb dL_law_690 rfl (lv_at hl 3 rfl) ?_
    refine lv_iload_n hx hb dL_law_691 rfl (lv_at hl 0 rfl) ?_
    refine rn_iconst hx hb 1 rfl dL_law_692 ?_
    refine rn_iadd hx hb dL_law_693 ?_
    refine rl_ld (v := (xs (i + 1))) hx hb hX hbl hbA hW.flat.2.2 (j := i + 1) (by omega) hL rfl dL_law_694 ?_
    refine lv_aload_n hx hb dL_law_695 rfl (lv_at hl 3 rfl) ?_
    refine lv_iload_n hx hb dL_law_696 rfl (lv_at hl 0 rfl) ?_
    refine rn_iconst hx hb 2 rfl dL_law_697 ?_
    refine rn_iadd hx hb dL_law_698 ?_
    refine rl_ld (v := (xs (i + 2))) hx hb hX hbl hbA hW.flat.2.2 (j := i + 2) (by omega) hL rfl dL_law_699 ?_
    refine roVg CX hE (va_P_segs (fun _ _ h => hW.hP _ h) [0, 8] rfl) (c_X5_comes_e l G cA x a b T (xs (i + 1)) (xs (i + 2)) (fun i_ j_ a1 a2 a3 a4 a5 => hq ⟨i_, j_, a1, a2, a3, a4, a5⟩)) (cwV 2 hts gL_law_X5_comes rfl rfl rfl hdv_X5_comes ⟨Nat.le_of_ble_eq_true rfl, Nat.le_of_ble_eq_true rfl⟩) (hW.hP 0 rfl) 0 rfl rfl rfl B0_blind (fun _ _ _ => trivial) rfl hl.1 (rest := []) rfl (Nat.le_of_ble_eq_true rfl) dL_law_700 hcs ?_
    refine lv_aload_n hx hb dL_law_703 rfl (lv_at hl 1 rfl) ?_
    refine lv_aload_n hx hb dL_law_704 rfl (lv_at hl 3 rfl) ?_
    refine lv_iload_n hx hb dL_law_705 rfl (lv_at hl 0 rfl) ?_
    refine rn_iconst hx hb 1 rfl dL_law_706 ?_
    refine rn_iadd hx hb dL_law_707 ?_
    refine rl_ld (v := (xs (i + 1))) hx hb hX hbl hbA hW.flat.2.2 (j := i + 1) (by omega) hL rfl dL_law_708 ?_
    refine lv_aload_n hx hb dL_law_709 rfl (lv_at hl 3 rfl) ?_
    refine lv_iload_n hx hb dL_law_710 rfl (lv_at hl 0 rfl) ?_
    refine rn_iconst hx hb 2 rfl dL_law_711 ?_
    refine rn_iadd hx hb dL_law_712 ?_
    refine rl_ld (v := (xs (i + 2))) hx hb hX hbl hbA hW.flat.2.2 (j := i + 2) (by omega) hL rfl dL_law_713 ?_
    refine roVg CX hE ((hW.hP 14 rfl).sub [0, 1] rfl) (c_X6_comes_e l G cA m hn ty z (xs (i + 1)) (xs (i + 2)) (fun i_ j_ a1 a2 a3 a4 a5 => hq ⟨i_, j_, a1, a2, a3, a4, (still_rel hR (by omega)).mp a5⟩)) (cwV 2 hts gL_law_X6_comes rfl rfl rfl hdv_X6_comes ⟨Nat.le_of_ble_eq_true rfl, Nat.le_of_ble_eq_true rfl⟩) (hW.hP 14 rfl) 0 rfl rfl rfl B0_blind (fun _ _ _ => trivial) rfl hl.1 (rest := [.int (if ¬ cellP (xs (i + 1)) (xs (i + 2)) then -1 else -5)]) rfl (Nat.le_of_ble_eq_true rfl) dL_law_714 hcs ?_
    refine lv_icmp_eq hx hb dL_law_717 (by decide) (tgt := 923) (fun _ => ?_) (fun c_ => absurd rfl c_)
    exact kk _ _ ⟨a, b, g, h, ha, T, S, U, V, hT, hn, ty, sv, svm, pd, pdm, z, pa, sl, sp, th, hW, hSt, hH, hsv, hU, hV, hty, hpd⟩
theorem hdv_X5_hush : yX5_hush.cls = RX5 ∧ yX5_hush.cls ≠ "java/lang/invoke/MethodHandle" ∧ yX5_hush.cls ≠ "java/lang/invoke/VarHandle" ∧ (parseMethodDescriptor yX5_hush.desc).map (fun d => d.parameters.length) = some 5 := by decide +kernel
theorem hdv_X6_hush : yX6_hush.cls = RX6 ∧ yX6_hush.cls ≠ "java/lang/invoke/MethodHandle" ∧ yX6_hush.cls ≠ "java/lang/invoke/VarHandle" ∧ (parseMethodDescriptor yX6_hush.desc).map (fun d => d.parameters.length) = some 5 := by decide +kernel
set_option maxHeartbeats 8000000 in
set_option maxRecDepth 100000 in
theorem L_hush {p_ : Program} {l : Launch} {e_ : Env} {s_ : State} {m_ : MethodId} {args : Array Value} {below : List Frame} {meth : Method} {c_ : Code} {H : Heap} {locs : List Loc} {cells slots : Nat} {Q : State → Prop} {ls : Array Slot} {G : va_G} {cA : Nat → ClassId} {A_ : Nat → Prop} {x m : Nat → Nat} {bq L i tl_ tm_ q_ v_ : Nat} {xs : Nat → Int32} (CX : CallFix p_ m_ c_ cL_law 4 s_ args wsL_law RL) (hE : EK G cA s_) (hA : ∀ q, s_.heap.size ≤ q → A_ q) (hX : va_X bq L xs s_ s_.heap) (hbl : bq < s_.heap.size) (hbA : ¬ A_ bq) (hiL : i + 6 ≤ L) (hL : L ≤ 3072) (K : KSM tl_ tm_ A_ s_) (BB : BSM q_ v_ A_ s_) (hcs : cells ≤ room_1.cells ∧ slots ≤ room_1.slots) (hl : lv_has ls 4 [(3, .int (nI i)), (2, .ref (m 0)), (1, .ref (x 0)), (0, .ref bq)]) (hI : LInv G cA A_ x m s_.heap H locs) (kk : ∀ (H : Heap) (locs : List Loc), LInv G cA A_ x m s_.heap H locs → W p_ l e_ room_1 s_ m_ args below meth c_ H locs cells slots Q (F0 m_ 923 ls [])) : W p_ l e_ room_1 s_ m_ args below meth c_ H locs cells slots Q (F0 m_ 722 ls []) := by
  obtain ⟨hx, hb, hml, hown, hts⟩ := id CX
  obtain ⟨a, b, g, h, ha, T, S, U, V, hT, hn, ty, sv, svm, pd, pdm, z, pa, sl, sp, th, hW, hSt, hH, hsv, hU, hV, hty, hpd⟩ := hI
  have hR := hSt.1
  have hi := hSt.2.1
  have htk := hSt.2.2
  have hok := hi.1
  have hnd := hok.1.1
  have hnp := hok.2.1
  by_cases hq : (0 ≤ xs (i + 1) ∧ xs (i + 1) < nI (T.2 4 1)) ∧ cellP (xs (i + 2)) (xs (i + 3)) ∧ inP (xs (i + 4)) (nI 1) (nI 30) ∧ inP (xs (i + 5)) (nI 0) (nI 1)
  · obtain ⟨d, hd, e1⟩ := ltn_nat (by omega) hq.1
    obtain ⟨kx, ky, hkx, hky, e2, e3⟩ := cellP_nat hq.2.1
    obtain ⟨n, hn1, hn9, e4⟩ := inP_nat1 (by decide) hq.2.2.1 (by decide)
    have hc : ky * 10 + kx < 60 := by omega
    have hpe := inv.pe hi hd
    have hhr := hush_rel hR hi n hd hc (T.2 1 d - 1) (by omega)
    rw [show T.2 1 d - 1 + 1 = T.2 1 d by omega] at hhr
    refine lv_aload_n hx hb dL_law_722 rfl (lv_at hl 2 rfl) ?_
    refine lv_aload_n hx hb dL_law_723 rfl (lv_at hl 3 rfl) ?_
    refine lv_iload_n hx hb dL_law_724 rfl (lv_at hl 0 rfl) ?_
    refine rn_iconst hx hb 1 rfl dL_law_725 ?_
    refine rn_iadd hx hb dL_law_726 ?_
    refine rl_ld (v := (nI d)) hx hb hX hbl hbA hW.flat.2.2 (j := i + 1) (by omega) hL e1 dL_law_727 ?_
    refine lv_aload_n hx hb dL_law_728 rfl (lv_at hl 3 rfl) ?_
    refine lv_iload_n hx hb dL_law_729 rfl (lv_at hl 0 rfl) ?_
    refine rn_iconst hx hb 2 rfl dL_law_730 ?_
    refine rn_iadd hx hb dL_law_731 ?_
    refine rl_ld (v := (nI kx)) hx hb hX hbl hbA hW.flat.2.2 (j := i + 2) (by omega) hL e2 dL_law_732 ?_
    refine lv_aload_n hx hb dL_law_733 rfl (lv_at hl 3 rfl) ?_
    refine lv_iload_n hx hb dL_law_734 rfl (lv_at hl 0 rfl) ?_
    refine rn_iconst hx hb 3 rfl dL_law_735 ?_
    refine rn_iadd hx hb dL_law_736 ?_
    refine rl_ld (v := (nI ky)) hx hb hX hbl hbA hW.flat.2.2 (j := i + 3) (by omega) hL e3 dL_law_737 ?_
    refine lv_aload_n hx hb dL_law_738 rfl (lv_at hl 3 rfl) ?_
    refine lv_iload_n hx hb dL_law_739 rfl (lv_at hl 0 rfl) ?_
    refine rn_iconst hx hb 4 rfl dL_law_740 ?_
    refine rn_iadd hx hb dL_law_741 ?_
    refine rl_ld (v := (nI n)) hx hb hX hbl hbA hW.flat.2.2 (j := i + 4) (by omega) hL e4 dL_law_742 ?_
    refine lv_aload_n hx hb dL_law_743 rfl (lv_at hl 3 rfl) ?_
    refine lv_iload_n hx hb dL_law_744 rfl (lv_at hl 0 rfl) ?_
    refine rn_iconst hx hb 5 rfl dL_law_745 ?_
    refine rn_iadd hx hb dL_law_746 ?_
    refine rl_ld (v := (xs (i + 5))) hx hb hX hbl hbA hW.flat.2.2 (j := i + 5) (by omega) hL rfl dL_law_747 ?_
    refine muiVS (segs' := [[(x 0, .inr (5, [.ref (a 0), .ref ((hushA b n (T.2 1 d - 1)) 0), .ref (x 3), .ref (x 1), .ref (x 2), .ref (x 5)]))], [(x 3, .inr (1, [.ref (x 4), .int (nI hn)])), (x 4, .inl (cA 3, 6, .inr (.inr (.inr (.inr (stR ha))))))], tkW cA (ha 0) (hT 0), tkW cA (ha 1) (hT 1), tkW cA (ha 2) (hT 2), tkW cA (ha 3) (hT 3), tkW cA (ha 4) (hT 4), tkW cA (ha 5) (hT 5), tkW cA a T, tkW cA (hushA b n (T.2 1 d - 1)) (runT (shT T d (T.2 1 d - 1)) n), [(x 1, .inl (cA 3, 2, .inr (.inr (.inr (.inr (sl2 (g 0) (h 0))))))), (x 2, .inl (cA 2, 2, .inl sv))], tkW cA g U, tkW cA h V, [(x 5, .inr (2, [.ref (x 6), .int (nI ty)])), (x 6, .inl (cA 1, 72, .inl pd))], [(m 0, .inr (6, [.ref (m 1), .ref (m 2), .ref (m 3), .ref (m 4), .int (nI hn), .ref (m 5), .ref (m 6), .int (nI ty), .ref (m 7)])), (m 1, .inl (cA 0, 345, .inl z)), (m 2, .inl (cA 0, 2070, .inl pa)), (m 3, .inl (cA 0, 690, .inl sl)), (m 4, .inl (cA 2, 2, .inl svm)), (m 5, .inl (cA 0, 345, .inl sp)), (m 6, .inl (cA 1, 72, .inl pdm)), (m 7, .inl (cA 0, 60, .inl th))]]) CX hE hW hA (c_X5_hush_k l G cA x a b T S d kx ky n (xs (i + 5)) hok hd hkx hky hn1 hn9 hq.2.2.2 (by omega)) (cwV 5 hts gL_law_X5_hush rfl rfl rfl hdv_X5_hush ⟨Nat.le_of_ble_eq_true rfl, Nat.le_of_ble_eq_true rfl⟩) [0, 8, 9] (by decide) rfl rfl rfl (hW.hP 0 rfl) 0 rfl rfl rfl BM0_blind (fun _ _ _ _ => trivial) rfl hl.1 (rest := []) rfl (Nat.le_of_ble_eq_true rfl) dL_law_748 hcs (fun H locs hW => ?_)
    refine lv_aload_n hx hb dL_law_751 rfl (lv_at hl 1 rfl) ?_
    refine lv_aload_n hx hb dL_law_752 rfl (lv_at hl 3 rfl) ?_
    refine lv_iload_n hx hb dL_law_753 rfl (lv_at hl 0 rfl) ?_
    refine rn_iconst hx hb 1 rfl dL_law_754 ?_
    refine rn_iadd hx hb dL_law_755 ?_
    refine rl_ld (v := (nI d)) hx hb hX hbl hbA hW.flat.2.2 (j := i + 1) (by omega) hL e1 dL_law_756 ?_
    refine lv_aload_n hx hb dL_law_757 rfl (lv_at hl 3 rfl) ?_
    refine lv_iload_n hx hb dL_law_758 rfl (lv_at hl 0 rfl) ?_
    refine rn_iconst hx hb 2 rfl dL_law_759 ?_
    refine rn_iadd hx hb dL_law_760 ?_
    refine rl_ld (v := (nI kx)) hx hb hX hbl hbA hW.flat.2.2 (j := i + 2) (by omega) hL e2 dL_law_761 ?_
    refine lv_aload_n hx hb dL_law_762 rfl (lv_at hl 3 rfl) ?_
    refine lv_iload_n hx hb dL_law_763 rfl (lv_at hl 0 rfl) ?_
    refine rn_iconst hx hb 3 rfl dL_law_764 ?_
    refine rn_iadd hx hb dL_law_765 ?_
    refine rl_ld (v := (nI ky)) hx hb hX hbl hbA hW.flat.2.2 (j := i + 3) (by omega) hL e3 dL_law_766 ?_
    refine lv_aload_n hx hb dL_law_767 rfl (lv_at hl 3 rfl) ?_
    refine lv_iload_n hx hb dL_law_768 rfl (lv_at hl 0 rfl) ?_
    refine rn_iconst hx hb 4 rfl dL_law_769 ?_
    refine rn_iadd hx hb dL_law_770 ?_
    refine rl_ld (v := (nI n)) hx hb hX hbl hbA hW.flat.2.2 (j := i + 4) (by omega) hL e4 dL_law_771 ?_
    refine lv_aload_n hx hb dL_law_772 rfl (lv_at hl 3 rfl) ?_
    refine lv_iload_n hx hb dL_law_773 rfl (lv_at hl 0 rfl) ?_
    refine rn_iconst hx hb 5 rfl dL_law_774 ?_
    refine rn_iadd hx hb dL_law_775 ?_
    refine rl_ld (v := (xs (i + 5))) hx hb hX hbl hbA hW.flat.2.2 (j := i + 5) (by omega) hL rfl dL_law_776 ?_
    refine muiVP (w' := [(m 0, .inr (6, [.ref (m 1), .ref (m 2), .ref (m 3), .ref (m 4), .int (nI hn), .ref (m 5), .ref (m 6), .int (nI ty), .ref (m 7)])), (m 1, .inl (cA 0, 345, .inl z)), (m 2, .inl (cA 0, 2070, .inl pa)), (m 3, .inl (cA 0, 690, .inl sl)), (m 4, .inl (cA 2, 2, .inl svm)), (m 5, .inl (cA 0, 345, .inl z)), (m 6, .inl (cA 1, 72, .inl pdm)), (m 7, .inl (cA 0, 60, .inl (hushT z th (T.2 4 1) (T.2 4 2) d n (T.2 1 d))))]) (segs' := [[(x 0, .inr (5, [.ref (a 0), .ref ((hushA b n (T.2 1 d - 1)) 0), .ref (x 3), .ref (x 1), .ref (x 2), .ref (x 5)]))], [(x 3, .inr (1, [.ref (x 4), .int (nI hn)])), (x 4, .inl (cA 3, 6, .inr (.inr (.inr (.inr (stR ha))))))], tkW cA (ha 0) (hT 0), tkW cA (ha 1) (hT 1), tkW cA (ha 2) (hT 2), tkW cA (ha 3) (hT 3), tkW cA (ha 4) (hT 4), tkW cA (ha 5) (hT 5), tkW cA a T, tkW cA (hushA b n (T.2 1 d - 1)) (runT (shT T d (T.2 1 d - 1)) n), [(x 1, .inl (cA 3, 2, .inr (.inr (.inr (.inr (sl2 (g 0) (h 0))))))), (x 2, .inl (cA 2, 2, .inl sv))], tkW cA g U, tkW cA h V, [(x 5, .inr (2, [.ref (x 6), .int (nI ty)])), (x 6, .inl (cA 1, 72, .inl pd))], [(m 0, .inr (6, [.ref (m 1), .ref (m 2), .ref (m 3), .ref (m 4), .int (nI hn), .ref (m 5), .ref (m 6), .int (nI ty), .ref (m 7)])), (m 1, .inl (cA 0, 345, .inl z)), (m 2, .inl (cA 0, 2070, .inl pa)), (m 3, .inl (cA 0, 690, .inl sl)), (m 4, .inl (cA 2, 2, .inl svm)), (m 5, .inl (cA 0, 345, .inl z)), (m 6, .inl (cA 1, 72, .inl pdm)), (m 7, .inl (cA 0, 60, .inl (hushT z th (T.2 4 1) (T.2 4 2) d n (T.2 1 d))))]]) CX hE hW hA (c_X6_hush_k l G cA m hn ty z sp th d kx ky n (xs (i + 5)) (T.2 4 1) (T.2 4 2) (T.2 1 d) hd hkx hky hn1 hn9 hq.2.2.2 ((hR.2.2.1.2 d hd).2.1) ((hok.1.2 d hd).2) (okM_of hR hi)) (cwV 5 hts gL_law_X6_hush rfl rfl rfl hdv_X6_hush ⟨Nat.le_of_ble_eq_true rfl, Nat.le_of_ble_eq_true rfl⟩) 14 rfl [0, 1, 5, 7] (by decide) rfl rfl rfl rfl 0 rfl rfl rfl BM0_blind (fun _ _ _ _ => trivial) rfl hl.1 (rest := [.int (if (xs (i + 5)) = nI 0 then (hushQ T d (ky * 10 + kx) n (T.2 1 d - 1)).1 else (hushQ T d (ky * 10 + kx) n (T.2 1 d - 1)).2)]) rfl (Nat.le_of_ble_eq_true rfl) dL_law_777 hcs (fun H locs hW => ?_)
    refine lv_icmp_eq hx hb dL_law_780 (by decide) (tgt := 923) (fun _ => ?_) (fun c_ => absurd (by rw [hhr]) c_)
    exact kk _ _ ⟨a, hushA b n (T.2 1 d - 1), g, h, ha, T, runT (shT T d (T.2 1 d - 1)) n, U, V, hT, hn, ty, sv, svm, pd, pdm, z, pa, sl, z, hushT z th (T.2 4 1) (T.2 4 2) d n (T.2 1 d), hW, hSt, hH, hsv, hU, hV, hty, hpd⟩
  · refine lv_aload_n hx hb dL_law_722 rfl (lv_at hl 2 rfl) ?_
    refine lv_aload_n hx hb dL_law_723 rfl (lv_at hl 3 rfl) ?_
    refine lv_iload_n hx hb dL_law_724 rfl (lv_at hl 0 rfl) ?_
    refine rn_iconst hx hb 1 rfl dL_law_725 ?_
    refine rn_iadd hx hb dL_law_726 ?_
    refine rl_ld (v := (xs (i + 1))) hx hb hX hbl hbA hW.flat.2.2 (j := i + 1) (by omega) hL rfl dL_law_727 ?_
    refine lv_aload_n hx hb dL_law_728 rfl (lv_at hl 3 rfl) ?_
    refine lv_iload_n hx hb dL_law_729 rfl (lv_at hl 0 rfl) ?_
    refine rn_iconst hx hb 2 rfl dL_law_730 ?_
    refine rn_iadd hx hb dL_law_731 ?_
    refine rl_ld (v := (xs (i + 2))) hx hb hX hbl hbA hW.flat.2.2 (j := i + 2) (by omega) hL rfl dL_law_732 ?_
    refine lv_aload_n hx hb dL_law_733 rfl (lv_at hl 3 rfl) ?_
    refine lv_iload_n hx hb dL_law_734 rfl (lv_at hl 0 rfl) ?_
    refine rn_iconst hx hb 3 rfl dL_law_735 ?_
    refine rn_iadd hx hb dL_law_736 ?_
    refine rl_ld (v := (xs (i + 3))) hx hb hX hbl hbA hW.flat.2.2 (j := i + 3) (by omega) hL rfl dL_law_737 ?_
    refine lv_aload_n hx hb dL_law_738 rfl (lv_at hl 3 rfl) ?_
    refine lv_iload_n hx hb dL_law_739 rfl (lv_at hl 0 rfl) ?_
    refine rn_iconst hx hb 4 rfl dL_law_740 ?_
    refine rn_iadd hx hb dL_law_741 ?_
    refine rl_ld (v := (xs (i + 4))) hx hb hX hbl hbA hW.flat.2.2 (j := i + 4) (by omega) hL rfl dL_law_742 ?_
    refine lv_aload_n hx hb dL_law_743 rfl (lv_at hl 3 rfl) ?_
    refine lv_iload_n hx hb dL_law_744 rfl (lv_at hl 0 rfl) ?_
    refine rn_iconst hx hb 5 rfl dL_law_745 ?_
    refine rn_iadd hx hb dL_law_746 ?_
    refine rl_ld (v := (xs (i + 5))) hx hb hX hbl hbA hW.flat.2.2 (j := i + 5) (by omega) hL rfl dL_law_747 ?_
    refine roVg CX hE (va_P_segs (fun _ _ h => hW.hP _ h) [0, 8] rfl) (c_X5_hush_e l G cA x a b T (xs (i + 1)) (xs (i + 2)) (xs (i + 3)) (xs (i + 4)) (xs (i + 5)) hok (fun a1 a2 a3 a4 => hq ⟨a1, a2, a3, a4⟩)) (cwV 5 hts gL_law_X5_hush rfl rfl rfl hdv_X5_hush ⟨Nat.le_of_ble_eq_true rfl, Nat.le_of_ble_eq_true rfl⟩) (hW.hP 0 rfl) 0 rfl rfl rfl B0_blind (fun _ _ _ => trivial) rfl hl.1 (rest := []) rfl (Nat.le_of_ble_eq_true rfl) dL_law_748 hcs ?_
    refine lv_aload_n hx hb dL_law_751 rfl (lv_at hl 1 rfl) ?_
    refine lv_aload_n hx hb dL_law_752 rfl (lv_at hl 3 rfl) ?_
    refine lv_iload_n hx hb dL_law_753 rfl (lv_at hl 0 rfl) ?_
    refine rn_iconst hx hb 1 rfl dL_law_754 ?_
    refine rn_iadd hx hb dL_law_755 ?_
    refine rl_ld (v := (xs (i + 1))) hx hb hX hbl hbA hW.flat.2.2 (j := i + 1) (by omega) hL rfl dL_law_756 ?_
    refine lv_aload_n hx hb dL_law_757 rfl (lv_at hl 3 rfl) ?_
    refine lv_iload_n hx hb dL_law_758 rfl (lv_at hl 0 rfl) ?_
    refine rn_iconst hx hb 2 rfl dL_law_759 ?_
    refine rn_iadd hx hb dL_law_760 ?_
    refine rl_ld (v := (xs (i + 2))) hx hb hX hbl hbA hW.flat.2.2 (j := i + 2) (by omega) hL rfl dL_law_761 ?_
    refine lv_aload_n hx hb dL_law_762 rfl (lv_at hl 3 rfl) ?_
    refine lv_iload_n hx hb dL_law_763 rfl (lv_at hl 0 rfl) ?_
    refine rn_iconst hx hb 3 rfl dL_law_764 ?_
    refine rn_iadd hx hb dL_law_765 ?_
    refine rl_ld (v := (xs (i + 3))) hx hb hX hbl hbA hW.flat.2.2 (j := i + 3) (by omega) hL rfl dL_law_766 ?_
    refine lv_aload_n hx hb dL_law_767 rfl (lv_at hl 3 rfl) ?_
    refine lv_iload_n hx hb dL_law_768 rfl (lv_at hl 0 rfl) ?_
    refine rn_iconst hx hb 4 rfl dL_law_769 ?_
    refine rn_iadd hx hb dL_law_770 ?_
    refine rl_ld (v := (xs (i + 4))) hx hb hX hbl hbA hW.flat.2.2 (j := i + 4) (by omega) hL rfl dL_law_771 ?_
    refine lv_aload_n hx hb dL_law_772 rfl (lv_at hl 3 rfl) ?_
    refine lv_iload_n hx hb dL_law_773 rfl (lv_at hl 0 rfl) ?_
    refine rn_iconst hx hb 5 rfl dL_law_774 ?_
    refine rn_iadd hx hb dL_law_775 ?_
    refine rl_ld (v := (xs (i + 5))) hx hb hX hbl hbA hW.flat.2.2 (j := i + 5) (by omega) hL rfl dL_law_776 ?_
    refine roVg CX hE ((hW.hP 14 rfl).sub [0, 1] rfl) (c_X6_hush_e l G cA m hn ty z (xs (i + 1)) (xs (i + 2)) (xs (i + 3)) (xs (i + 4)) (xs (i + 5)) (fun a1 a2 a3 a4 => hq ⟨by rw [hR.2.2.1.1] at a1; exact a1, a2, a3, a4⟩)) (cwV 5 hts gL_law_X6_hush rfl rfl rfl hdv_X6_hush ⟨Nat.le_of_ble_eq_true rfl, Nat.le_of_ble_eq_true rfl⟩) (hW.hP 14 rfl) 0 rfl rfl rfl B0_blind (fun _ _ _ => trivial) rfl hl.1 (rest := [.int (if 0 ≤ (xs (i + 1)) ∧ (xs (i + 1)) < nI (T.2 4 1) ∧ cellP (xs (i + 2)) (xs (i + 3)) then -2 else -1)]) rfl (Nat.le_of_ble_eq_true rfl) dL_law_777 hcs ?_
    refine lv_icmp_eq hx hb dL_law_780 (by decide) (tgt := 923) (fun _ => ?_) (fun c_ => absurd (by rw [hR.2.2.1.1]) c_)
    exact kk _ _ ⟨a, b, g, h, ha, T, S, U, V, hT, hn, ty, sv, svm, pd, pdm, z, pa, sl, sp, th, hW, hSt, hH, hsv, hU, hV, hty, hpd⟩
theorem kb_32 : (Int8.ofInt (32)).toInt32 = (nI 32) := by decide +kernel
theorem w_L_law_cl94 : Cond.constantLong RL 94 4294967295 ∈ wsL_law := by decide +kernel
theorem hdv_X5_put : yX5_put.cls = RX5 ∧ yX5_put.cls ≠ "java/lang/invoke/MethodHandle" ∧ yX5_put.cls ≠ "java/lang/invoke/VarHandle" ∧ (parseMethodDescriptor yX5_put.desc).map (fun d => d.parameters.length) = some 1 := by decide +kernel
theorem hdv_X6_put : yX6_put.cls = RX6 ∧ yX6_put.cls ≠ "java/lang/invoke/MethodHandle" ∧ yX6_put.cls ≠ "java/lang/invoke/VarHandle" ∧ (parseMethodDescriptor yX6_put.desc).map (fun d => d.parameters.length) = some 1 := by decide +kernel
set_option maxHeartbeats 8000000 in
set_option maxRecDepth 100000 in
theorem L_put {p_ : Program} {l : Launch} {e_ : Env} {s_ : State} {m_ : MethodId} {args : Array Value} {below : List Frame} {meth : Method} {c_ : Code} {H : Heap} {locs : List Loc} {cells slots : Nat} {Q : State → Prop} {ls : Array Slot} {G : va_G} {cA : Nat → ClassId} {A_ : Nat → Prop} {x m : Nat → Nat} {bq L i tl_ tm_ q_ v_ : Nat} {xs : Nat → Int32} (CX : CallFix p_ m_ c_ cL_law 4 s_ args wsL_law RL) (hE : EK G cA s_) (hA : ∀ q, s_.heap.size ≤ q → A_ q) (hX : va_X bq L xs s_ s_.heap) (hbl : bq < s_.heap.size) (hbA : ¬ A_ bq) (hiL : i + 6 ≤ L) (hL : L ≤ 3072) (K : KSM tl_ tm_ A_ s_) (BB : BSM q_ v_ A_ s_) (hcs : cells ≤ room_1.cells ∧ slots ≤ room_1.slots) (hl : lv_has ls 4 [(3, .int (nI i)), (2, .ref (m 0)), (1, .ref (x 0)), (0, .ref bq)]) (hI : LInv G cA A_ x m s_.heap H locs) (kk : ∀ (H : Heap) (locs : List Loc), LInv G cA A_ x m s_.heap H locs → W p_ l e_ room_1 s_ m_ args below meth c_ H locs cells slots Q (F0 m_ 923 ls [])) : W p_ l e_ room_1 s_ m_ args below meth c_ H locs cells slots Q (F0 m_ 785 ls []) := by
  obtain ⟨hx, hb, hml, hown, hts⟩ := id CX
  obtain ⟨a, b, g, h, ha, T, S, U, V, hT, hn, ty, sv, svm, pd, pdm, z, pa, sl, sp, th, hW, hSt, hH, hsv, hU, hV, hty, hpd⟩ := hI
  have hR := hSt.1
  have hi := hSt.2.1
  have htk := hSt.2.2
  have hok := hi.1
  have hnd := hok.1.1
  have hnp := hok.2.1
  by_cases hq : ∃ n, (n < 2 ^ 64 ∧ ((((xs (i + 1)).toInt64) <<< ((nI 32).toInt64 &&& 63)) ||| (((xs (i + 2)).toInt64) &&& 4294967295)) = lN n) ∧ 1 ≤ chF 8 n 0 ∧ ty + chF 8 n 0 ≤ 72
  · obtain ⟨n, ⟨hn64, eL⟩, hc1, hc72⟩ := hq
    have hc8 : chF 8 n 0 ≤ 8 := by have := chF_le 8 n 0; omega
    refine lv_aload_n hx hb dL_law_785 rfl (lv_at hl 2 rfl) ?_
    refine lv_aload_n hx hb dL_law_786 rfl (lv_at hl 3 rfl) ?_
    refine lv_iload_n hx hb dL_law_787 rfl (lv_at hl 0 rfl) ?_
    refine rn_iconst hx hb 1 rfl dL_law_788 ?_
    refine rn_iadd hx hb dL_law_789 ?_
    refine rl_ld (v := (xs (i + 1))) hx hb hX hbl hbA hW.flat.2.2 (j := i + 1) (by omega) hL rfl dL_law_790 ?_
    refine lv_i2l (v := ((xs (i + 1))).toInt64) hx hb dL_law_791 rfl ?_
    refine lv_bipush (v := (nI 32)) hx hb dL_law_792 kb_32 ?_
    refine lv_lshl (v := ((((xs (i + 1))).toInt64) <<< ((nI 32).toInt64 &&& 63))) hx hb dL_law_794 rfl ?_
    refine lv_aload_n hx hb dL_law_795 rfl (lv_at hl 3 rfl) ?_
    refine lv_iload_n hx hb dL_law_796 rfl (lv_at hl 0 rfl) ?_
    refine rn_iconst hx hb 2 rfl dL_law_797 ?_
    refine rn_iadd hx hb dL_law_798 ?_
    refine rl_ld (v := (xs (i + 2))) hx hb hX hbl hbA hW.flat.2.2 (j := i + 2) (by omega) hL rfl dL_law_799 ?_
    refine lv_i2l (v := ((xs (i + 2))).toInt64) hx hb dL_law_800 rfl ?_
    refine lv_ldc2 hx hb hown (hts _ w_L_law_cl94) dL_law_801 ?_
    refine lv_land hx hb dL_law_804 ?_
    refine lv_lor hx hb dL_law_805 ?_
    refine rl_topl (lN n) eL ?_
    refine muiVS (segs' := [[(x 0, .inr (5, [.ref (a 0), .ref (b 0), .ref (x 3), .ref (x 1), .ref (x 2), .ref (x 5)]))], [(x 3, .inr (1, [.ref (x 4), .int (nI hn)])), (x 4, .inl (cA 3, 6, .inr (.inr (.inr (.inr (stR ha))))))], tkW cA (ha 0) (hT 0), tkW cA (ha 1) (hT 1), tkW cA (ha 2) (hT 2), tkW cA (ha 3) (hT 3), tkW cA (ha 4) (hT 4), tkW cA (ha 5) (hT 5), tkW cA a T, tkW cA b S, [(x 1, .inl (cA 3, 2, .inr (.inr (.inr (.inr (sl2 (g 0) (h 0))))))), (x 2, .inl (cA 2, 2, .inl sv))], tkW cA g U, tkW cA h V, [(x 5, .inr (2, [.ref (x 6), .int (nI (ty + (chF 8 n 0)))])), (x 6, .inl (cA 1, 72, .inl (padF pd n ty (chF 8 n 0) (chF 8 n 0))))], [(m 0, .inr (6, [.ref (m 1), .ref (m 2), .ref (m 3), .ref (m 4), .int (nI hn), .ref (m 5), .ref (m 6), .int (nI ty), .ref (m 7)])), (m 1, .inl (cA 0, 345, .inl z)), (m 2, .inl (cA 0, 2070, .inl pa)), (m 3, .inl (cA 0, 690, .inl sl)), (m 4, .inl (cA 2, 2, .inl svm)), (m 5, .inl (cA 0, 345, .inl sp)), (m 6, .inl (cA 1, 72, .inl pdm)), (m 7, .inl (cA 0, 60, .inl th))]]) CX hE hW hA (c_X5_put_k l G cA x a b ty pd n (chF 8 n 0) hn64 rfl hc1 hc8 hc72) (cwV 1 hts gL_law_X5_put rfl rfl rfl hdv_X5_put ⟨Nat.le_of_ble_eq_true rfl, Nat.le_of_ble_eq_true rfl⟩) [0, 13] (by decide) rfl rfl rfl (hW.hP 0 rfl) 0 rfl rfl rfl BM0_blind (fun _ _ _ _ => trivial) rfl hl.1 (rest := []) rfl (Nat.le_of_ble_eq_true rfl) dL_law_806 hcs (fun H locs hW => ?_)
    refine lv_aload_n hx hb dL_law_809 rfl (lv_at hl 1 rfl) ?_
    refine lv_aload_n hx hb dL_law_810 rfl (lv_at hl 3 rfl) ?_
    refine lv_iload_n hx hb dL_law_811 rfl (lv_at hl 0 rfl) ?_
    refine rn_iconst hx hb 1 rfl dL_law_812 ?_
    refine rn_iadd hx hb dL_law_813 ?_
    refine rl_ld (v := (xs (i + 1))) hx hb hX hbl hbA hW.flat.2.2 (j := i + 1) (by omega) hL rfl dL_law_814 ?_
    refine lv_i2l (v := ((xs (i + 1))).toInt64) hx hb dL_law_815 rfl ?_
    refine lv_bipush (v := (nI 32)) hx hb dL_law_816 kb_32 ?_
    refine lv_lshl (v := ((((xs (i + 1))).toInt64) <<< ((nI 32).toInt64 &&& 63))) hx hb dL_law_818 rfl ?_
    refine lv_aload_n hx hb dL_law_819 rfl (lv_at hl 3 rfl) ?_
    refine lv_iload_n hx hb dL_law_820 rfl (lv_at hl 0 rfl) ?_
    refine rn_iconst hx hb 2 rfl dL_law_821 ?_
    refine rn_iadd hx hb dL_law_822 ?_
    refine rl_ld (v := (xs (i + 2))) hx hb hX hbl hbA hW.flat.2.2 (j := i + 2) (by omega) hL rfl dL_law_823 ?_
    refine lv_i2l (v := ((xs (i + 2))).toInt64) hx hb dL_law_824 rfl ?_
    refine lv_ldc2 hx hb hown (hts _ w_L_law_cl94) dL_law_825 ?_
    refine lv_land hx hb dL_law_828 ?_
    refine lv_lor hx hb dL_law_829 ?_
    refine rl_topl (lN n) eL ?_
    refine muiVP (w' := [(m 0, .inr (6, [.ref (m 1), .ref (m 2), .ref (m 3), .ref (m 4), .int (nI hn), .ref (m 5), .ref (m 6), .int (nI (ty + (chF 8 n 0))), .ref (m 7)])), (m 1, .inl (cA 0, 345, .inl z)), (m 2, .inl (cA 0, 2070, .inl pa)), (m 3, .inl (cA 0, 690, .inl sl)), (m 4, .inl (cA 2, 2, .inl svm)), (m 5, .inl (cA 0, 345, .inl sp)), (m 6, .inl (cA 1, 72, .inl (padF pdm n ty (chF 8 n 0) (chF 8 n 0)))), (m 7, .inl (cA 0, 60, .inl th))]) (segs' := [[(x 0, .inr (5, [.ref (a 0), .ref (b 0), .ref (x 3), .ref (x 1), .ref (x 2), .ref (x 5)]))], [(x 3, .inr (1, [.ref (x 4), .int (nI hn)])), (x 4, .inl (cA 3, 6, .inr (.inr (.inr (.inr (stR ha))))))], tkW cA (ha 0) (hT 0), tkW cA (ha 1) (hT 1), tkW cA (ha 2) (hT 2), tkW cA (ha 3) (hT 3), tkW cA (ha 4) (hT 4), tkW cA (ha 5) (hT 5), tkW cA a T, tkW cA b S, [(x 1, .inl (cA 3, 2, .inr (.inr (.inr (.inr (sl2 (g 0) (h 0))))))), (x 2, .inl (cA 2, 2, .inl sv))], tkW cA g U, tkW cA h V, [(x 5, .inr (2, [.ref (x 6), .int (nI (ty + (chF 8 n 0)))])), (x 6, .inl (cA 1, 72, .inl (padF pd n ty (chF 8 n 0) (chF 8 n 0))))], [(m 0, .inr (6, [.ref (m 1), .ref (m 2), .ref (m 3), .ref (m 4), .int (nI hn), .ref (m 5), .ref (m 6), .int (nI (ty + (chF 8 n 0))), .ref (m 7)])), (m 1, .inl (cA 0, 345, .inl z)), (m 2, .inl (cA 0, 2070, .inl pa)), (m 3, .inl (cA 0, 690, .inl sl)), (m 4, .inl (cA 2, 2, .inl svm)), (m 5, .inl (cA 0, 345, .inl sp)), (m 6, .inl (cA 1, 72, .inl (padF pdm n ty (chF 8 n 0) (chF 8 n 0)))), (m 7, .inl (cA 0, 60, .inl th))]]) CX hE hW hA (c_X6_put_k l G cA m hn ty pdm n (chF 8 n 0) hn64 rfl hc1 hc8 hc72) (cwV 1 hts gL_law_X6_put rfl rfl rfl hdv_X6_put ⟨Nat.le_of_ble_eq_true rfl, Nat.le_of_ble_eq_true rfl⟩) 14 rfl [0, 6] (by decide) rfl rfl rfl rfl 0 rfl rfl rfl BM0_blind (fun _ _ _ _ => trivial) rfl hl.1 (rest := [.int (nI (ty + (chF 8 n 0)))]) rfl (Nat.le_of_ble_eq_true rfl) dL_law_830 hcs (fun H locs hW => ?_)
    refine lv_icmp_eq hx hb dL_law_833 (by decide) (tgt := 923) (fun _ => ?_) (fun c_ => absurd rfl c_)
    exact kk _ _ ⟨a, b, g, h, ha, T, S, U, V, hT, hn, ty + (chF 8 n 0), sv, svm, padF pd n ty (chF 8 n 0) (chF 8 n 0), padF pdm n ty (chF 8 n 0) (chF 8 n 0), z, pa, sl, sp, th, hW, hSt, hH, hsv, hU, hV, hc72, padF_congr hpd⟩
  · obtain ⟨n, hn64, eL⟩ := lN_some ((((xs (i + 1)).toInt64) <<< ((nI 32).toInt64 &&& 63)) ||| (((xs (i + 2)).toInt64) &&& 4294967295))
    have hc8 : chF 8 n 0 ≤ 8 := by have := chF_le 8 n 0; omega
    have hbd : chF 8 n 0 = 0 ∨ 72 < ty + chF 8 n 0 := by
      rcases Nat.eq_zero_or_pos (chF 8 n 0) with q | q
      · exact Or.inl q
      · exact Or.inr (Nat.not_le.mp (fun q2 => hq ⟨n, ⟨hn64, eL⟩, q, q2⟩))
    refine lv_aload_n hx hb dL_law_785 rfl (lv_at hl 2 rfl) ?_
    refine lv_aload_n hx hb dL_law_786 rfl (lv_at hl 3 rfl) ?_
    refine lv_iload_n hx hb dL_law_787 rfl (lv_at hl 0 rfl) ?_
    refine rn_iconst hx hb 1 rfl dL_law_788 ?_
    refine rn_iadd hx hb dL_law_789 ?_
    refine rl_ld (v := (xs (i + 1))) hx hb hX hbl hbA hW.flat.2.2 (j := i + 1) (by omega) hL rfl dL_law_790 ?_
    refine lv_i2l (v := ((xs (i + 1))).toInt64) hx hb dL_law_791 rfl ?_
    refine lv_bipush (v := (nI 32)) hx hb dL_law_792 kb_32 ?_
    refine lv_lshl (v := ((((xs (i + 1))).toInt64) <<< ((nI 32).toInt64 &&& 63))) hx hb dL_law_794 rfl ?_
    refine lv_aload_n hx hb dL_law_795 rfl (lv_at hl 3 rfl) ?_
    refine lv_iload_n hx hb dL_law_796 rfl (lv_at hl 0 rfl) ?_
    refine rn_iconst hx hb 2 rfl dL_law_797 ?_
    refine rn_iadd hx hb dL_law_798 ?_
    refine rl_ld (v := (xs (i + 2))) hx hb hX hbl hbA hW.flat.2.2 (j := i + 2) (by omega) hL rfl dL_law_799 ?_
    refine lv_i2l (v := ((xs (i + 2))).toInt64) hx hb dL_law_800 rfl ?_
    refine lv_ldc2 hx hb hown (hts _ w_L_law_cl94) dL_law_801 ?_
    refine lv_land hx hb dL_law_804 ?_
    refine lv_lor hx hb dL_law_805 ?_
    refine rl_topl (lN n) eL ?_
    refine roVg CX hE (va_P_segs (fun _ _ h => hW.hP _ h) [0, 13] rfl) (c_X5_put_e l G cA x a b ty pd n hn64 hty hc8 hbd) (cwV 1 hts gL_law_X5_put rfl rfl rfl hdv_X5_put ⟨Nat.le_of_ble_eq_true rfl, Nat.le_of_ble_eq_true rfl⟩) (hW.hP 0 rfl) 0 rfl rfl rfl B0_blind (fun _ _ _ => trivial) rfl hl.1 (rest := []) rfl (Nat.le_of_ble_eq_true rfl) dL_law_806 hcs ?_
    refine lv_aload_n hx hb dL_law_809 rfl (lv_at hl 1 rfl) ?_
    refine lv_aload_n hx hb dL_law_810 rfl (lv_at hl 3 rfl) ?_
    refine lv_iload_n hx hb dL_law_811 rfl (lv_at hl 0 rfl) ?_
    refine rn_iconst hx hb 1 rfl dL_law_812 ?_
    refine rn_iadd hx hb dL_law_813 ?_
    refine rl_ld (v := (xs (i + 1))) hx hb hX hbl hbA hW.flat.2.2 (j := i + 1) (by omega) hL rfl dL_law_814 ?_
    refine lv_i2l (v := ((xs (i + 1))).toInt64) hx hb dL_law_815 rfl ?_
    refine lv_bipush (v := (nI 32)) hx hb dL_law_816 kb_32 ?_
    refine lv_lshl (v := ((((xs (i + 1))).toInt64) <<< ((nI 32).toInt64 &&& 63))) hx hb dL_law_818 rfl ?_
    refine lv_aload_n hx hb dL_law_819 rfl (lv_at hl 3 rfl) ?_
    refine lv_iload_n hx hb dL_law_820 rfl (lv_at hl 0 rfl) ?_
    refine rn_iconst hx hb 2 rfl dL_law_821 ?_
    refine rn_iadd hx hb dL_law_822 ?_
    refine rl_ld (v := (xs (i + 2))) hx hb hX hbl hbA hW.flat.2.2 (j := i + 2) (by omega) hL rfl dL_law_823 ?_
    refine lv_i2l (v := ((xs (i + 2))).toInt64) hx hb dL_law_824 rfl ?_
    refine lv_ldc2 hx hb hown (hts _ w_L_law_cl94) dL_law_825 ?_
    refine lv_land hx hb dL_law_828 ?_
    refine lv_lor hx hb dL_law_829 ?_
    refine rl_topl (lN n) eL ?_
    refine roVg CX hE ((hW.hP 14 rfl).sub [0, 6] rfl) (c_X6_put_e l G cA m hn ty pdm n hn64 hty hbd) (cwV 1 hts gL_law_X6_put rfl rfl rfl hdv_X6_put ⟨Nat.le_of_ble_eq_true rfl, Nat.le_of_ble_eq_true rfl⟩) (hW.hP 14 rfl) 0 rfl rfl rfl B0_blind (fun _ _ _ => trivial) rfl hl.1 (rest := [.int (if chF 8 n 0 = 0 then -2 else -4)]) rfl (Nat.le_of_ble_eq_true rfl) dL_law_830 hcs ?_
    refine lv_icmp_eq hx hb dL_law_833 (by decide) (tgt := 923) (fun _ => ?_) (fun c_ => absurd rfl c_)
    exact kk _ _ ⟨a, b, g, h, ha, T, S, U, V, hT, hn, ty, sv, svm, pd, pdm, z, pa, sl, sp, th, hW, hSt, hH, hsv, hU, hV, hty, hpd⟩
