/-! The law's cases: dip, takeOut, drop, probe, pass. -/
theorem hdv_X5_dip : yX5_dip.cls = RX5 ∧ yX5_dip.cls ≠ "java/lang/invoke/MethodHandle" ∧ yX5_dip.cls ≠ "java/lang/invoke/VarHandle" ∧ (parseMethodDescriptor yX5_dip.desc).map (fun d => d.parameters.length) = some 5 := by decide +kernel
theorem hdv_X6_dip : yX6_dip.cls = RX6 ∧ yX6_dip.cls ≠ "java/lang/invoke/MethodHandle" ∧ yX6_dip.cls ≠ "java/lang/invoke/VarHandle" ∧ (parseMethodDescriptor yX6_dip.desc).map (fun d => d.parameters.length) = some 5 := by decide +kernel
set_option maxHeartbeats 8000000 in
set_option maxRecDepth 100000 in
theorem L_dip {p_ : Program} {l : Launch} {e_ : Env} {s_ : State} {m_ : MethodId} {args : Array Value} {below : List Frame} {meth : Method} {c_ : Code} {H : Heap} {locs : List Loc} {cells slots : Nat} {Q : State → Prop} {ls : Array Slot} {G : va_G} {cA : Nat → ClassId} {A_ : Nat → Prop} {x m : Nat → Nat} {bq L i tl_ tm_ q_ v_ : Nat} {xs : Nat → Int32} (CX : CallFix p_ m_ c_ cL_law 4 s_ args wsL_law RL) (hE : EK G cA s_) (hA : ∀ q, s_.heap.size ≤ q → A_ q) (hX : va_X bq L xs s_ s_.heap) (hbl : bq < s_.heap.size) (hbA : ¬ A_ bq) (hiL : i + 6 ≤ L) (hL : L ≤ 3072) (K : KSM tl_ tm_ A_ s_) (BB : BSM q_ v_ A_ s_) (hcs : cells ≤ room_1.cells ∧ slots ≤ room_1.slots) (hl : lv_has ls 4 [(3, .int (nI i)), (2, .ref (m 0)), (1, .ref (x 0)), (0, .ref bq)]) (hI : LInv G cA A_ x m s_.heap H locs) (kk : ∀ (H : Heap) (locs : List Loc), LInv G cA A_ x m s_.heap H locs → W p_ l e_ room_1 s_ m_ args below meth c_ H locs cells slots Q (F0 m_ 923 ls [])) : W p_ l e_ room_1 s_ m_ args below meth c_ H locs cells slots Q (F0 m_ 250 ls []) := by
  obtain ⟨hx, hb, hml, hown, hts⟩ := id CX
  obtain ⟨a, b, g, h, ha, T, S, U, V, hT, hn, ty, sv, svm, pd, pdm, z, pa, sl, sp, th, hW, hSt, hH, hsv, hU, hV, hty, hpd⟩ := hI
  have hR := hSt.1
  have hi := hSt.2.1
  have htk := hSt.2.2
  have hok := hi.1
  have hnd := hok.1.1
  have hnp := hok.2.1
  by_cases hq : ∃ kx ky p s k, kx < 10 ∧ ky < 6 ∧ (2 ≤ p ∧ p ≤ 40 ∧ 1 ≤ s ∧ s ≤ 900 ∧ k < p) ∧ xs (i + 1) = nI kx ∧ xs (i + 2) = nI ky ∧ xs (i + 3) = nI p ∧ xs (i + 4) = nI s ∧ xs (i + 5) = nI k ∧ ¬ T.1 1 (ky * 10 + kx) = nI 2 ∧ T.2 4 1 < 5
  · obtain ⟨kx, ky, p, s, k, hkx, hky, ⟨hp2, hp, hs1, hs9, hsh⟩, e1, e2, e3, e4, e5, hw, hn5⟩ := hq
    have hc : ky * 10 + kx < 60 := by omega
    have hw2 : ¬ shf 5 z (ky * 10 + kx) = nI 2 := by rw [show shf 5 z (ky * 10 + kx) = T.1 1 (ky * 10 + kx) from hR.2.1.1 _ hc]; exact hw
    have hdr := dipo_rel hR hi hc hp2 hp hs1 hs9 hsh hw hn5
    refine lv_aload_n hx hb dL_law_250 rfl (lv_at hl 2 rfl) ?_
    refine lv_aload_n hx hb dL_law_251 rfl (lv_at hl 3 rfl) ?_
    refine lv_iload_n hx hb dL_law_252 rfl (lv_at hl 0 rfl) ?_
    refine rn_iconst hx hb 1 rfl dL_law_253 ?_
    refine rn_iadd hx hb dL_law_254 ?_
    refine rl_ld (v := (nI kx)) hx hb hX hbl hbA hW.flat.2.2 (j := i + 1) (by omega) hL e1 dL_law_255 ?_
    refine lv_aload_n hx hb dL_law_256 rfl (lv_at hl 3 rfl) ?_
    refine lv_iload_n hx hb dL_law_257 rfl (lv_at hl 0 rfl) ?_
    refine rn_iconst hx hb 2 rfl dL_law_258 ?_
    refine rn_iadd hx hb dL_law_259 ?_
    refine rl_ld (v := (nI ky)) hx hb hX hbl hbA hW.flat.2.2 (j := i + 2) (by omega) hL e2 dL_law_260 ?_
    refine lv_aload_n hx hb dL_law_261 rfl (lv_at hl 3 rfl) ?_
    refine lv_iload_n hx hb dL_law_262 rfl (lv_at hl 0 rfl) ?_
    refine rn_iconst hx hb 3 rfl dL_law_263 ?_
    refine rn_iadd hx hb dL_law_264 ?_
    refine rl_ld (v := (nI p)) hx hb hX hbl hbA hW.flat.2.2 (j := i + 3) (by omega) hL e3 dL_law_265 ?_
    refine lv_aload_n hx hb dL_law_266 rfl (lv_at hl 3 rfl) ?_
    refine lv_iload_n hx hb dL_law_267 rfl (lv_at hl 0 rfl) ?_
    refine rn_iconst hx hb 4 rfl dL_law_268 ?_
    refine rn_iadd hx hb dL_law_269 ?_
    refine rl_ld (v := (nI s)) hx hb hX hbl hbA hW.flat.2.2 (j := i + 4) (by omega) hL e4 dL_law_270 ?_
    refine lv_aload_n hx hb dL_law_271 rfl (lv_at hl 3 rfl) ?_
    refine lv_iload_n hx hb dL_law_272 rfl (lv_at hl 0 rfl) ?_
    refine rn_iconst hx hb 5 rfl dL_law_273 ?_
    refine rn_iadd hx hb dL_law_274 ?_
    refine rl_ld (v := (nI k)) hx hb hX hbl hbA hW.flat.2.2 (j := i + 5) (by omega) hL e5 dL_law_275 ?_
    refine muiVS (segs' := [[(x 0, .inr (5, [.ref (a 0), .ref (b 0), .ref (x 3), .ref (x 1), .ref (x 2), .ref (x 5)]))], [(x 3, .inr (1, [.ref (x 4), .int (nI (keepN hn))])), (x 4, .inl (cA 3, 6, .inr (.inr (.inr (.inr (stR (keepA ha hn)))))))], tkW cA ((keepA ha hn) 0) ((keepT hT hn T) 0), tkW cA ((keepA ha hn) 1) ((keepT hT hn T) 1), tkW cA ((keepA ha hn) 2) ((keepT hT hn T) 2), tkW cA ((keepA ha hn) 3) ((keepT hT hn T) 3), tkW cA ((keepA ha hn) 4) ((keepT hT hn T) 4), tkW cA ((keepA ha hn) 5) ((keepT hT hn T) 5), tkW cA a (dipT T (ky * 10 + kx) p (nI s) (nI k)), tkW cA b S, [(x 1, .inl (cA 3, 2, .inr (.inr (.inr (.inr (sl2 (g 0) (h 0))))))), (x 2, .inl (cA 2, 2, .inl sv))], tkW cA g U, tkW cA h V, [(x 5, .inr (2, [.ref (x 6), .int (nI ty)])), (x 6, .inl (cA 1, 72, .inl pd))], [(m 0, .inr (6, [.ref (m 1), .ref (m 2), .ref (m 3), .ref (m 4), .int (nI hn), .ref (m 5), .ref (m 6), .int (nI ty), .ref (m 7)])), (m 1, .inl (cA 0, 345, .inl z)), (m 2, .inl (cA 0, 2070, .inl pa)), (m 3, .inl (cA 0, 690, .inl sl)), (m 4, .inl (cA 2, 2, .inl svm)), (m 5, .inl (cA 0, 345, .inl sp)), (m 6, .inl (cA 1, 72, .inl pdm)), (m 7, .inl (cA 0, 60, .inl th))]]) CX hE hW hA (c_X5_dip_k l G cA x a b T hn ha hT kx ky p s k hH.1 hok hkx hky hp2 hp hs1 hs9 hsh hw hn5) (cwV 5 hts gL_law_X5_dip rfl rfl rfl hdv_X5_dip ⟨Nat.le_of_ble_eq_true rfl, Nat.le_of_ble_eq_true rfl⟩) [0, 1, 2, 3, 4, 5, 6, 7, 8] (by decide) rfl rfl rfl (hW.hP 0 rfl) 0 rfl rfl rfl BM0_blind (fun _ _ _ _ => trivial) rfl hl.1 (rest := []) rfl (Nat.le_of_ble_eq_true rfl) dL_law_276 hcs (fun H locs hW => ?_)
    refine lv_aload_n hx hb dL_law_279 rfl (lv_at hl 1 rfl) ?_
    refine lv_aload_n hx hb dL_law_280 rfl (lv_at hl 3 rfl) ?_
    refine lv_iload_n hx hb dL_law_281 rfl (lv_at hl 0 rfl) ?_
    refine rn_iconst hx hb 1 rfl dL_law_282 ?_
    refine rn_iadd hx hb dL_law_283 ?_
    refine rl_ld (v := (nI kx)) hx hb hX hbl hbA hW.flat.2.2 (j := i + 1) (by omega) hL e1 dL_law_284 ?_
    refine lv_aload_n hx hb dL_law_285 rfl (lv_at hl 3 rfl) ?_
    refine lv_iload_n hx hb dL_law_286 rfl (lv_at hl 0 rfl) ?_
    refine rn_iconst hx hb 2 rfl dL_law_287 ?_
    refine rn_iadd hx hb dL_law_288 ?_
    refine rl_ld (v := (nI ky)) hx hb hX hbl hbA hW.flat.2.2 (j := i + 2) (by omega) hL e2 dL_law_289 ?_
    refine lv_aload_n hx hb dL_law_290 rfl (lv_at hl 3 rfl) ?_
    refine lv_iload_n hx hb dL_law_291 rfl (lv_at hl 0 rfl) ?_
    refine rn_iconst hx hb 3 rfl dL_law_292 ?_
    refine rn_iadd hx hb dL_law_293 ?_
    refine rl_ld (v := (nI p)) hx hb hX hbl hbA hW.flat.2.2 (j := i + 3) (by omega) hL e3 dL_law_294 ?_
    refine lv_aload_n hx hb dL_law_295 rfl (lv_at hl 3 rfl) ?_
    refine lv_iload_n hx hb dL_law_296 rfl (lv_at hl 0 rfl) ?_
    refine rn_iconst hx hb 4 rfl dL_law_297 ?_
    refine rn_iadd hx hb dL_law_298 ?_
    refine rl_ld (v := (nI s)) hx hb hX hbl hbA hW.flat.2.2 (j := i + 4) (by omega) hL e4 dL_law_299 ?_
    refine lv_aload_n hx hb dL_law_300 rfl (lv_at hl 3 rfl) ?_
    refine lv_iload_n hx hb dL_law_301 rfl (lv_at hl 0 rfl) ?_
    refine rn_iconst hx hb 5 rfl dL_law_302 ?_
    refine rn_iadd hx hb dL_law_303 ?_
    refine rl_ld (v := (nI k)) hx hb hX hbl hbA hW.flat.2.2 (j := i + 5) (by omega) hL e5 dL_law_304 ?_
    refine muiVP (w' := [(m 0, .inr (6, [.ref (m 1), .ref (m 2), .ref (m 3), .ref (m 4), .int (nI (rec1 hn + 1)), .ref (m 5), .ref (m 6), .int (nI ty), .ref (m 7)])), (m 1, .inl (cA 0, 345, .inl (dipM z (T.2 4 1) (ky * 10 + kx) p s k))), (m 2, .inl (cA 0, 2070, .inl (recP pa z hn))), (m 3, .inl (cA 0, 690, .inl sl)), (m 4, .inl (cA 2, 2, .inl svm)), (m 5, .inl (cA 0, 345, .inl sp)), (m 6, .inl (cA 1, 72, .inl pdm)), (m 7, .inl (cA 0, 60, .inl th))]) (segs' := [[(x 0, .inr (5, [.ref (a 0), .ref (b 0), .ref (x 3), .ref (x 1), .ref (x 2), .ref (x 5)]))], [(x 3, .inr (1, [.ref (x 4), .int (nI (keepN hn))])), (x 4, .inl (cA 3, 6, .inr (.inr (.inr (.inr (stR (keepA ha hn)))))))], tkW cA ((keepA ha hn) 0) ((keepT hT hn T) 0), tkW cA ((keepA ha hn) 1) ((keepT hT hn T) 1), tkW cA ((keepA ha hn) 2) ((keepT hT hn T) 2), tkW cA ((keepA ha hn) 3) ((keepT hT hn T) 3), tkW cA ((keepA ha hn) 4) ((keepT hT hn T) 4), tkW cA ((keepA ha hn) 5) ((keepT hT hn T) 5), tkW cA a (dipT T (ky * 10 + kx) p (nI s) (nI k)), tkW cA b S, [(x 1, .inl (cA 3, 2, .inr (.inr (.inr (.inr (sl2 (g 0) (h 0))))))), (x 2, .inl (cA 2, 2, .inl sv))], tkW cA g U, tkW cA h V, [(x 5, .inr (2, [.ref (x 6), .int (nI ty)])), (x 6, .inl (cA 1, 72, .inl pd))], [(m 0, .inr (6, [.ref (m 1), .ref (m 2), .ref (m 3), .ref (m 4), .int (nI (rec1 hn + 1)), .ref (m 5), .ref (m 6), .int (nI ty), .ref (m 7)])), (m 1, .inl (cA 0, 345, .inl (dipM z (T.2 4 1) (ky * 10 + kx) p s k))), (m 2, .inl (cA 0, 2070, .inl (recP pa z hn))), (m 3, .inl (cA 0, 690, .inl sl)), (m 4, .inl (cA 2, 2, .inl svm)), (m 5, .inl (cA 0, 345, .inl sp)), (m 6, .inl (cA 1, 72, .inl pdm)), (m 7, .inl (cA 0, 60, .inl th))]]) CX hE hW hA (c_X6_dip_k l G cA m hn ty z pa kx ky p s k (T.2 4 1) hH.1 hkx hky hp2 hp hs1 hs9 hsh hw2 hn5 hR.2.2.1.1) (cwV 5 hts gL_law_X6_dip rfl rfl rfl hdv_X6_dip ⟨Nat.le_of_ble_eq_true rfl, Nat.le_of_ble_eq_true rfl⟩) 14 rfl [0, 1, 2] (by decide) rfl rfl rfl rfl 0 rfl rfl rfl BM0_blind (fun _ _ _ _ => trivial) rfl hl.1 (rest := [.int (nI (T.2 4 1))]) rfl (Nat.le_of_ble_eq_true rfl) dL_law_305 hcs (fun H locs hW => ?_)
    refine lv_icmp_eq hx hb dL_law_308 (by decide) (tgt := 923) (fun _ => ?_) (fun c_ => absurd rfl c_)
    rw [keep_rec hH.1] at hW
    exact kk _ _ ⟨a, b, g, h, (keepA ha hn), dipT T (ky * 10 + kx) p (nI s) (nI k), S, U, V, (keepT hT hn T), keepN hn, ty, sv, svm, pd, pdm, dipM z (T.2 4 1) (ky * 10 + kx) p s k, recP pa z hn, sl, sp, th, hW, ⟨hdr.1, hdr.2, htk⟩, keep_rel hH hSt, hsv, hU, hV, hty, hpd⟩
  · refine lv_aload_n hx hb dL_law_250 rfl (lv_at hl 2 rfl) ?_
    refine lv_aload_n hx hb dL_law_251 rfl (lv_at hl 3 rfl) ?_
    refine lv_iload_n hx hb dL_law_252 rfl (lv_at hl 0 rfl) ?_
    refine rn_iconst hx hb 1 rfl dL_law_253 ?_
    refine rn_iadd hx hb dL_law_254 ?_
    refine rl_ld (v := (xs (i + 1))) hx hb hX hbl hbA hW.flat.2.2 (j := i + 1) (by omega) hL rfl dL_law_255 ?_
    refine lv_aload_n hx hb dL_law_256 rfl (lv_at hl 3 rfl) ?_
    refine lv_iload_n hx hb dL_law_257 rfl (lv_at hl 0 rfl) ?_
    refine rn_iconst hx hb 2 rfl dL_law_258 ?_
    refine rn_iadd hx hb dL_law_259 ?_
    refine rl_ld (v := (xs (i + 2))) hx hb hX hbl hbA hW.flat.2.2 (j := i + 2) (by omega) hL rfl dL_law_260 ?_
    refine lv_aload_n hx hb dL_law_261 rfl (lv_at hl 3 rfl) ?_
    refine lv_iload_n hx hb dL_law_262 rfl (lv_at hl 0 rfl) ?_
    refine rn_iconst hx hb 3 rfl dL_law_263 ?_
    refine rn_iadd hx hb dL_law_264 ?_
    refine rl_ld (v := (xs (i + 3))) hx hb hX hbl hbA hW.flat.2.2 (j := i + 3) (by omega) hL rfl dL_law_265 ?_
    refine lv_aload_n hx hb dL_law_266 rfl (lv_at hl 3 rfl) ?_
    refine lv_iload_n hx hb dL_law_267 rfl (lv_at hl 0 rfl) ?_
    refine rn_iconst hx hb 4 rfl dL_law_268 ?_
    refine rn_iadd hx hb dL_law_269 ?_
    refine rl_ld (v := (xs (i + 4))) hx hb hX hbl hbA hW.flat.2.2 (j := i + 4) (by omega) hL rfl dL_law_270 ?_
    refine lv_aload_n hx hb dL_law_271 rfl (lv_at hl 3 rfl) ?_
    refine lv_iload_n hx hb dL_law_272 rfl (lv_at hl 0 rfl) ?_
    refine rn_iconst hx hb 5 rfl dL_law_273 ?_
    refine rn_iadd hx hb dL_law_274 ?_
    refine rl_ld (v := (xs (i + 5))) hx hb hX hbl hbA hW.flat.2.2 (j := i + 5) (by omega) hL rfl dL_law_275 ?_
    refine roVg CX hE (va_P_segs (fun _ _ h => hW.hP _ h) [0, 8] rfl) (c_X5_dip_e l G cA x a b T (xs (i + 1)) (xs (i + 2)) (xs (i + 3)) (xs (i + 4)) (xs (i + 5)) hok (fun i_ j_ a1 a2 a3 a4 a5 a6 => by obtain ⟨p, s, k, b1, b2, b3, b4, b5, f3, f4, f5⟩ := okDip_nat a5; exact Classical.byContradiction (fun q => hq ⟨i_, j_, p, s, k, a1, a2, ⟨b1, b2, b3, b4, b5⟩, a3, a4, f3, f4, f5, a6, by omega⟩))) (cwV 5 hts gL_law_X5_dip rfl rfl rfl hdv_X5_dip ⟨Nat.le_of_ble_eq_true rfl, Nat.le_of_ble_eq_true rfl⟩) (hW.hP 0 rfl) 0 rfl rfl rfl B0_blind (fun _ _ _ => trivial) rfl hl.1 (rest := []) rfl (Nat.le_of_ble_eq_true rfl) dL_law_276 hcs ?_
    refine lv_aload_n hx hb dL_law_279 rfl (lv_at hl 1 rfl) ?_
    refine lv_aload_n hx hb dL_law_280 rfl (lv_at hl 3 rfl) ?_
    refine lv_iload_n hx hb dL_law_281 rfl (lv_at hl 0 rfl) ?_
    refine rn_iconst hx hb 1 rfl dL_law_282 ?_
    refine rn_iadd hx hb dL_law_283 ?_
    refine rl_ld (v := (xs (i + 1))) hx hb hX hbl hbA hW.flat.2.2 (j := i + 1) (by omega) hL rfl dL_law_284 ?_
    refine lv_aload_n hx hb dL_law_285 rfl (lv_at hl 3 rfl) ?_
    refine lv_iload_n hx hb dL_law_286 rfl (lv_at hl 0 rfl) ?_
    refine rn_iconst hx hb 2 rfl dL_law_287 ?_
    refine rn_iadd hx hb dL_law_288 ?_
    refine rl_ld (v := (xs (i + 2))) hx hb hX hbl hbA hW.flat.2.2 (j := i + 2) (by omega) hL rfl dL_law_289 ?_
    refine lv_aload_n hx hb dL_law_290 rfl (lv_at hl 3 rfl) ?_
    refine lv_iload_n hx hb dL_law_291 rfl (lv_at hl 0 rfl) ?_
    refine rn_iconst hx hb 3 rfl dL_law_292 ?_
    refine rn_iadd hx hb dL_law_293 ?_
    refine rl_ld (v := (xs (i + 3))) hx hb hX hbl hbA hW.flat.2.2 (j := i + 3) (by omega) hL rfl dL_law_294 ?_
    refine lv_aload_n hx hb dL_law_295 rfl (lv_at hl 3 rfl) ?_
    refine lv_iload_n hx hb dL_law_296 rfl (lv_at hl 0 rfl) ?_
    refine rn_iconst hx hb 4 rfl dL_law_297 ?_
    refine rn_iadd hx hb dL_law_298 ?_
    refine rl_ld (v := (xs (i + 4))) hx hb hX hbl hbA hW.flat.2.2 (j := i + 4) (by omega) hL rfl dL_law_299 ?_
    refine lv_aload_n hx hb dL_law_300 rfl (lv_at hl 3 rfl) ?_
    refine lv_iload_n hx hb dL_law_301 rfl (lv_at hl 0 rfl) ?_
    refine rn_iconst hx hb 5 rfl dL_law_302 ?_
    refine rn_iadd hx hb dL_law_303 ?_
    refine rl_ld (v := (xs (i + 5))) hx hb hX hbl hbA hW.flat.2.2 (j := i + 5) (by omega) hL rfl dL_law_304 ?_
    refine roVg CX hE ((hW.hP 14 rfl).sub [0, 1] rfl) (c_X6_dip_e l G cA m hn ty z (xs (i + 1)) (xs (i + 2)) (xs (i + 3)) (xs (i + 4)) (xs (i + 5)) (T.2 4 1) hR.2.2.1.1 hnd (fun i_ j_ a1 a2 a3 a4 a5 a6 => by rw [show shf 5 z (j_ * 10 + i_) = T.1 1 (j_ * 10 + i_) from hR.2.1.1 _ (by omega)] at a6; exact (by obtain ⟨p, s, k, b1, b2, b3, b4, b5, f3, f4, f5⟩ := okDip_nat a5; exact Classical.byContradiction (fun q => hq ⟨i_, j_, p, s, k, a1, a2, ⟨b1, b2, b3, b4, b5⟩, a3, a4, f3, f4, f5, a6, by omega⟩)))) (cwV 5 hts gL_law_X6_dip rfl rfl rfl hdv_X6_dip ⟨Nat.le_of_ble_eq_true rfl, Nat.le_of_ble_eq_true rfl⟩) (hW.hP 14 rfl) 0 rfl rfl rfl B0_blind (fun _ _ _ => trivial) rfl hl.1 (rest := [.int (dipEf (T.1 1) (xs (i + 1)) (xs (i + 2)) (xs (i + 3)) (xs (i + 4)) (xs (i + 5)))]) rfl (Nat.le_of_ble_eq_true rfl) dL_law_305 hcs ?_
    refine lv_icmp_eq hx hb dL_law_308 (by decide) (tgt := 923) (fun _ => ?_) (fun c_ => absurd (dipEf_rel hR _ _ _ _ _) c_)
    exact kk _ _ ⟨a, b, g, h, ha, T, S, U, V, hT, hn, ty, sv, svm, pd, pdm, z, pa, sl, sp, th, hW, hSt, hH, hsv, hU, hV, hty, hpd⟩
theorem hdv_X5_takeOut : yX5_takeOut.cls = RX5 ∧ yX5_takeOut.cls ≠ "java/lang/invoke/MethodHandle" ∧ yX5_takeOut.cls ≠ "java/lang/invoke/VarHandle" ∧ (parseMethodDescriptor yX5_takeOut.desc).map (fun d => d.parameters.length) = some 1 := by decide +kernel
theorem hdv_X6_takeOut : yX6_takeOut.cls = RX6 ∧ yX6_takeOut.cls ≠ "java/lang/invoke/MethodHandle" ∧ yX6_takeOut.cls ≠ "java/lang/invoke/VarHandle" ∧ (parseMethodDescriptor yX6_takeOut.desc).map (fun d => d.parameters.length) = some 1 := by decide +kernel
set_option maxHeartbeats 8000000 in
set_option maxRecDepth 100000 in
theorem L_takeOut {p_ : Program} {l : Launch} {e_ : Env} {s_ : State} {m_ : MethodId} {args : Array Value} {below : List Frame} {meth : Method} {c_ : Code} {H : Heap} {locs : List Loc} {cells slots : Nat} {Q : State → Prop} {ls : Array Slot} {G : va_G} {cA : Nat → ClassId} {A_ : Nat → Prop} {x m : Nat → Nat} {bq L i tl_ tm_ q_ v_ : Nat} {xs : Nat → Int32} (CX : CallFix p_ m_ c_ cL_law 4 s_ args wsL_law RL) (hE : EK G cA s_) (hA : ∀ q, s_.heap.size ≤ q → A_ q) (hX : va_X bq L xs s_ s_.heap) (hbl : bq < s_.heap.size) (hbA : ¬ A_ bq) (hiL : i + 6 ≤ L) (hL : L ≤ 3072) (K : KSM tl_ tm_ A_ s_) (BB : BSM q_ v_ A_ s_) (hcs : cells ≤ room_1.cells ∧ slots ≤ room_1.slots) (hl : lv_has ls 4 [(3, .int (nI i)), (2, .ref (m 0)), (1, .ref (x 0)), (0, .ref bq)]) (hI : LInv G cA A_ x m s_.heap H locs) (kk : ∀ (H : Heap) (locs : List Loc), LInv G cA A_ x m s_.heap H locs → W p_ l e_ room_1 s_ m_ args below meth c_ H locs cells slots Q (F0 m_ 923 ls [])) : W p_ l e_ room_1 s_ m_ args below meth c_ H locs cells slots Q (F0 m_ 313 ls []) := by
  obtain ⟨hx, hb, hml, hown, hts⟩ := id CX
  obtain ⟨a, b, g, h, ha, T, S, U, V, hT, hn, ty, sv, svm, pd, pdm, z, pa, sl, sp, th, hW, hSt, hH, hsv, hU, hV, hty, hpd⟩ := hI
  have hR := hSt.1
  have hi := hSt.2.1
  have htk := hSt.2.2
  have hok := hi.1
  have hnd := hok.1.1
  have hnp := hok.2.1
  by_cases hq : 0 ≤ xs (i + 1) ∧ xs (i + 1) < nI (T.2 4 1)
  · obtain ⟨d, hd, e1⟩ := ltn_nat (by omega) hq
    have htr := take_rel hR hi hd
    refine lv_aload_n hx hb dL_law_313 rfl (lv_at hl 2 rfl) ?_
    refine lv_aload_n hx hb dL_law_314 rfl (lv_at hl 3 rfl) ?_
    refine lv_iload_n hx hb dL_law_315 rfl (lv_at hl 0 rfl) ?_
    refine rn_iconst hx hb 1 rfl dL_law_316 ?_
    refine rn_iadd hx hb dL_law_317 ?_
    refine rl_ld (v := (nI d)) hx hb hX hbl hbA hW.flat.2.2 (j := i + 1) (by omega) hL e1 dL_law_318 ?_
    refine muiVS (segs' := [[(x 0, .inr (5, [.ref (a 0), .ref (b 0), .ref (x 3), .ref (x 1), .ref (x 2), .ref (x 5)]))], [(x 3, .inr (1, [.ref (x 4), .int (nI (keepN hn))])), (x 4, .inl (cA 3, 6, .inr (.inr (.inr (.inr (stR (keepA ha hn)))))))], tkW cA ((keepA ha hn) 0) ((keepT hT hn T) 0), tkW cA ((keepA ha hn) 1) ((keepT hT hn T) 1), tkW cA ((keepA ha hn) 2) ((keepT hT hn T) 2), tkW cA ((keepA ha hn) 3) ((keepT hT hn T) 3), tkW cA ((keepA ha hn) 4) ((keepT hT hn T) 4), tkW cA ((keepA ha hn) 5) ((keepT hT hn T) 5), tkW cA a (takeT T d), tkW cA b S, [(x 1, .inl (cA 3, 2, .inr (.inr (.inr (.inr (sl2 (g 0) (h 0))))))), (x 2, .inl (cA 2, 2, .inl sv))], tkW cA g U, tkW cA h V, [(x 5, .inr (2, [.ref (x 6), .int (nI ty)])), (x 6, .inl (cA 1, 72, .inl pd))], [(m 0, .inr (6, [.ref (m 1), .ref (m 2), .ref (m 3), .ref (m 4), .int (nI hn), .ref (m 5), .ref (m 6), .int (nI ty), .ref (m 7)])), (m 1, .inl (cA 0, 345, .inl z)), (m 2, .inl (cA 0, 2070, .inl pa)), (m 3, .inl (cA 0, 690, .inl sl)), (m 4, .inl (cA 2, 2, .inl svm)), (m 5, .inl (cA 0, 345, .inl sp)), (m 6, .inl (cA 1, 72, .inl pdm)), (m 7, .inl (cA 0, 60, .inl th))]]) CX hE hW hA (c_X5_takeOut_k l G cA x a b T hn ha hT d hH.1 hok hd) (cwV 1 hts gL_law_X5_takeOut rfl rfl rfl hdv_X5_takeOut ⟨Nat.le_of_ble_eq_true rfl, Nat.le_of_ble_eq_true rfl⟩) [0, 1, 2, 3, 4, 5, 6, 7, 8] (by decide) rfl rfl rfl (hW.hP 0 rfl) 0 rfl rfl rfl BM0_blind (fun _ _ _ _ => trivial) rfl hl.1 (rest := []) rfl (Nat.le_of_ble_eq_true rfl) dL_law_319 hcs (fun H locs hW => ?_)
    refine lv_aload_n hx hb dL_law_322 rfl (lv_at hl 1 rfl) ?_
    refine lv_aload_n hx hb dL_law_323 rfl (lv_at hl 3 rfl) ?_
    refine lv_iload_n hx hb dL_law_324 rfl (lv_at hl 0 rfl) ?_
    refine rn_iconst hx hb 1 rfl dL_law_325 ?_
    refine rn_iadd hx hb dL_law_326 ?_
    refine rl_ld (v := (nI d)) hx hb hX hbl hbA hW.flat.2.2 (j := i + 1) (by omega) hL e1 dL_law_327 ?_
    refine muiVP (w' := [(m 0, .inr (6, [.ref (m 1), .ref (m 2), .ref (m 3), .ref (m 4), .int (nI (rec1 hn + 1)), .ref (m 5), .ref (m 6), .int (nI ty), .ref (m 7)])), (m 1, .inl (cA 0, 345, .inl (takeM z (T.2 4 1) d))), (m 2, .inl (cA 0, 2070, .inl (recP pa z hn))), (m 3, .inl (cA 0, 690, .inl sl)), (m 4, .inl (cA 2, 2, .inl svm)), (m 5, .inl (cA 0, 345, .inl sp)), (m 6, .inl (cA 1, 72, .inl pdm)), (m 7, .inl (cA 0, 60, .inl th))]) (segs' := [[(x 0, .inr (5, [.ref (a 0), .ref (b 0), .ref (x 3), .ref (x 1), .ref (x 2), .ref (x 5)]))], [(x 3, .inr (1, [.ref (x 4), .int (nI (keepN hn))])), (x 4, .inl (cA 3, 6, .inr (.inr (.inr (.inr (stR (keepA ha hn)))))))], tkW cA ((keepA ha hn) 0) ((keepT hT hn T) 0), tkW cA ((keepA ha hn) 1) ((keepT hT hn T) 1), tkW cA ((keepA ha hn) 2) ((keepT hT hn T) 2), tkW cA ((keepA ha hn) 3) ((keepT hT hn T) 3), tkW cA ((keepA ha hn) 4) ((keepT hT hn T) 4), tkW cA ((keepA ha hn) 5) ((keepT hT hn T) 5), tkW cA a (takeT T d), tkW cA b S, [(x 1, .inl (cA 3, 2, .inr (.inr (.inr (.inr (sl2 (g 0) (h 0))))))), (x 2, .inl (cA 2, 2, .inl sv))], tkW cA g U, tkW cA h V, [(x 5, .inr (2, [.ref (x 6), .int (nI ty)])), (x 6, .inl (cA 1, 72, .inl pd))], [(m 0, .inr (6, [.ref (m 1), .ref (m 2), .ref (m 3), .ref (m 4), .int (nI (rec1 hn + 1)), .ref (m 5), .ref (m 6), .int (nI ty), .ref (m 7)])), (m 1, .inl (cA 0, 345, .inl (takeM z (T.2 4 1) d))), (m 2, .inl (cA 0, 2070, .inl (recP pa z hn))), (m 3, .inl (cA 0, 690, .inl sl)), (m 4, .inl (cA 2, 2, .inl svm)), (m 5, .inl (cA 0, 345, .inl sp)), (m 6, .inl (cA 1, 72, .inl pdm)), (m 7, .inl (cA 0, 60, .inl th))]]) CX hE hW hA (c_X6_takeOut_k l G cA m hn ty z pa d (T.2 4 1) hH.1 hd hnd hR.2.2.1.1) (cwV 1 hts gL_law_X6_takeOut rfl rfl rfl hdv_X6_takeOut ⟨Nat.le_of_ble_eq_true rfl, Nat.le_of_ble_eq_true rfl⟩) 14 rfl [0, 1, 2] (by decide) rfl rfl rfl rfl 0 rfl rfl rfl BM0_blind (fun _ _ _ _ => trivial) rfl hl.1 (rest := [.int (nI (T.2 4 1 - 1))]) rfl (Nat.le_of_ble_eq_true rfl) dL_law_328 hcs (fun H locs hW => ?_)
    refine lv_icmp_eq hx hb dL_law_331 (by decide) (tgt := 923) (fun _ => ?_) (fun c_ => absurd rfl c_)
    rw [keep_rec hH.1] at hW
    exact kk _ _ ⟨a, b, g, h, (keepA ha hn), takeT T d, S, U, V, (keepT hT hn T), keepN hn, ty, sv, svm, pd, pdm, takeM z (T.2 4 1) d, recP pa z hn, sl, sp, th, hW, ⟨htr.1, htr.2, htk⟩, keep_rel hH hSt, hsv, hU, hV, hty, hpd⟩
  · refine lv_aload_n hx hb dL_law_313 rfl (lv_at hl 2 rfl) ?_
    refine lv_aload_n hx hb dL_law_314 rfl (lv_at hl 3 rfl) ?_
    refine lv_iload_n hx hb dL_law_315 rfl (lv_at hl 0 rfl) ?_
    refine rn_iconst hx hb 1 rfl dL_law_316 ?_
    refine rn_iadd hx hb dL_law_317 ?_
    refine rl_ld (v := (xs (i + 1))) hx hb hX hbl hbA hW.flat.2.2 (j := i + 1) (by omega) hL rfl dL_law_318 ?_
    refine roVg CX hE (va_P_segs (fun _ _ h => hW.hP _ h) [0, 8] rfl) (c_X5_takeOut_e l G cA x a b T (xs (i + 1)) hok hq) (cwV 1 hts gL_law_X5_takeOut rfl rfl rfl hdv_X5_takeOut ⟨Nat.le_of_ble_eq_true rfl, Nat.le_of_ble_eq_true rfl⟩) (hW.hP 0 rfl) 0 rfl rfl rfl B0_blind (fun _ _ _ => trivial) rfl hl.1 (rest := []) rfl (Nat.le_of_ble_eq_true rfl) dL_law_319 hcs ?_
    refine lv_aload_n hx hb dL_law_322 rfl (lv_at hl 1 rfl) ?_
    refine lv_aload_n hx hb dL_law_323 rfl (lv_at hl 3 rfl) ?_
    refine lv_iload_n hx hb dL_law_324 rfl (lv_at hl 0 rfl) ?_
    refine rn_iconst hx hb 1 rfl dL_law_325 ?_
    refine rn_iadd hx hb dL_law_326 ?_
    refine rl_ld (v := (xs (i + 1))) hx hb hX hbl hbA hW.flat.2.2 (j := i + 1) (by omega) hL rfl dL_law_327 ?_
    refine roVg CX hE ((hW.hP 14 rfl).sub [0, 1] rfl) (c_X6_takeOut_e l G cA m hn ty z (xs (i + 1)) (by rw [hR.2.2.1.1]; exact hq)) (cwV 1 hts gL_law_X6_takeOut rfl rfl rfl hdv_X6_takeOut ⟨Nat.le_of_ble_eq_true rfl, Nat.le_of_ble_eq_true rfl⟩) (hW.hP 14 rfl) 0 rfl rfl rfl B0_blind (fun _ _ _ => trivial) rfl hl.1 (rest := [.int (-1)]) rfl (Nat.le_of_ble_eq_true rfl) dL_law_328 hcs ?_
    refine lv_icmp_eq hx hb dL_law_331 (by decide) (tgt := 923) (fun _ => ?_) (fun c_ => absurd rfl c_)
    exact kk _ _ ⟨a, b, g, h, ha, T, S, U, V, hT, hn, ty, sv, svm, pd, pdm, z, pa, sl, sp, th, hW, hSt, hH, hsv, hU, hV, hty, hpd⟩
theorem hdv_X5_drop : yX5_drop.cls = RX5 ∧ yX5_drop.cls ≠ "java/lang/invoke/MethodHandle" ∧ yX5_drop.cls ≠ "java/lang/invoke/VarHandle" ∧ (parseMethodDescriptor yX5_drop.desc).map (fun d => d.parameters.length) = some 3 := by decide +kernel
theorem hdv_X6_drop : yX6_drop.cls = RX6 ∧ yX6_drop.cls ≠ "java/lang/invoke/MethodHandle" ∧ yX6_drop.cls ≠ "java/lang/invoke/VarHandle" ∧ (parseMethodDescriptor yX6_drop.desc).map (fun d => d.parameters.length) = some 3 := by decide +kernel
set_option maxHeartbeats 8000000 in
set_option maxRecDepth 100000 in
theorem L_drop {p_ : Program} {l : Launch} {e_ : Env} {s_ : State} {m_ : MethodId} {args : Array Value} {below : List Frame} {meth : Method} {c_ : Code} {H : Heap} {locs : List Loc} {cells slots : Nat} {Q : State → Prop} {ls : Array Slot} {G : va_G} {cA : Nat → ClassId} {A_ : Nat → Prop} {x m : Nat → Nat} {bq L i tl_ tm_ q_ v_ : Nat} {xs : Nat → Int32} (CX : CallFix p_ m_ c_ cL_law 4 s_ args wsL_law RL) (hE : EK G cA s_) (hA : ∀ q, s_.heap.size ≤ q → A_ q) (hX : va_X bq L xs s_ s_.heap) (hbl : bq < s_.heap.size) (hbA : ¬ A_ bq) (hiL : i + 6 ≤ L) (hL : L ≤ 3072) (K : KSM tl_ tm_ A_ s_) (BB : BSM q_ v_ A_ s_) (hcs : cells ≤ room_1.cells ∧ slots ≤ room_1.slots) (hl : lv_has ls 4 [(3, .int (nI i)), (2, .ref (m 0)), (1, .ref (x 0)), (0, .ref bq)]) (hI : LInv G cA A_ x m s_.heap H locs) (kk : ∀ (H : Heap) (locs : List Loc), LInv G cA A_ x m s_.heap H locs → W p_ l e_ room_1 s_ m_ args below meth c_ H locs cells slots Q (F0 m_ 923 ls [])) : W p_ l e_ room_1 s_ m_ args below meth c_ H locs cells slots Q (F0 m_ 336 ls []) := by
  obtain ⟨hx, hb, hml, hown, hts⟩ := id CX
  obtain ⟨a, b, g, h, ha, T, S, U, V, hT, hn, ty, sv, svm, pd, pdm, z, pa, sl, sp, th, hW, hSt, hH, hsv, hU, hV, hty, hpd⟩ := hI
  have hR := hSt.1
  have hi := hSt.2.1
  have htk := hSt.2.2
  have hok := hi.1
  have hnd := hok.1.1
  have hnp := hok.2.1
  by_cases hq : ∃ kx ky, kx < 10 ∧ ky < 6 ∧ xs (i + 1) = nI kx ∧ xs (i + 2) = nI ky ∧ inP (xs (i + 3)) (-999) (nI 999) ∧ ¬ T.1 1 (ky * 10 + kx) = nI 2
  · obtain ⟨kx, ky, hkx, hky, e1, e2, hv, hw⟩ := hq
    have hc : ky * 10 + kx < 60 := by omega
    have hw2 : ¬ shf 5 z (ky * 10 + kx) = nI 2 := by rw [show shf 5 z (ky * 10 + kx) = T.1 1 (ky * 10 + kx) from hR.2.1.1 _ hc]; exact hw
    have hdr := drop_rel (v := xs (i + 3)) hR hi hc hw
    refine lv_aload_n hx hb dL_law_336 rfl (lv_at hl 2 rfl) ?_
    refine lv_aload_n hx hb dL_law_337 rfl (lv_at hl 3 rfl) ?_
    refine lv_iload_n hx hb dL_law_338 rfl (lv_at hl 0 rfl) ?_
    refine rn_iconst hx hb 1 rfl dL_law_339 ?_
    refine rn_iadd hx hb dL_law_340 ?_
    refine rl_ld (v := (nI kx)) hx hb hX hbl hbA hW.flat.2.2 (j := i + 1) (by omega) hL e1 dL_law_341 ?_
    refine lv_aload_n hx hb dL_law_342 rfl (lv_at hl 3 rfl) ?_
    refine lv_iload_n hx hb dL_law_343 rfl (lv_at hl 0 rfl) ?_
    refine rn_iconst hx hb 2 rfl dL_law_344 ?_
    refine rn_iadd hx hb dL_law_345 ?_
    refine rl_ld (v := (nI ky)) hx hb hX hbl hbA hW.flat.2.2 (j := i + 2) (by omega) hL e2 dL_law_346 ?_
    refine lv_aload_n hx hb dL_law_347 rfl (lv_at hl 3 rfl) ?_
    refine lv_iload_n hx hb dL_law_348 rfl (lv_at hl 0 rfl) ?_
    refine rn_iconst hx hb 3 rfl dL_law_349 ?_
    refine rn_iadd hx hb dL_law_350 ?_
    refine rl_ld (v := (xs (i + 3))) hx hb hX hbl hbA hW.flat.2.2 (j := i + 3) (by omega) hL rfl dL_law_351 ?_
    refine muiVS (segs' := [[(x 0, .inr (5, [.ref (a 0), .ref (b 0), .ref (x 3), .ref (x 1), .ref (x 2), .ref (x 5)]))], [(x 3, .inr (1, [.ref (x 4), .int (nI (keepN hn))])), (x 4, .inl (cA 3, 6, .inr (.inr (.inr (.inr (stR (keepA ha hn)))))))], tkW cA ((keepA ha hn) 0) ((keepT hT hn T) 0), tkW cA ((keepA ha hn) 1) ((keepT hT hn T) 1), tkW cA ((keepA ha hn) 2) ((keepT hT hn T) 2), tkW cA ((keepA ha hn) 3) ((keepT hT hn T) 3), tkW cA ((keepA ha hn) 4) ((keepT hT hn T) 4), tkW cA ((keepA ha hn) 5) ((keepT hT hn T) 5), tkW cA a (dropT T (ky * 10 + kx) (xs (i + 3))), tkW cA b S, [(x 1, .inl (cA 3, 2, .inr (.inr (.inr (.inr (sl2 (g 0) (h 0))))))), (x 2, .inl (cA 2, 2, .inl sv))], tkW cA g U, tkW cA h V, [(x 5, .inr (2, [.ref (x 6), .int (nI ty)])), (x 6, .inl (cA 1, 72, .inl pd))], [(m 0, .inr (6, [.ref (m 1), .ref (m 2), .ref (m 3), .ref (m 4), .int (nI hn), .ref (m 5), .ref (m 6), .int (nI ty), .ref (m 7)])), (m 1, .inl (cA 0, 345, .inl z)), (m 2, .inl (cA 0, 2070, .inl pa)), (m 3, .inl (cA 0, 690, .inl sl)), (m 4, .inl (cA 2, 2, .inl svm)), (m 5, .inl (cA 0, 345, .inl sp)), (m 6, .inl (cA 1, 72, .inl pdm)), (m 7, .inl (cA 0, 60, .inl th))]]) CX hE hW hA (c_X5_drop_k l G cA x a b T hn ha hT kx ky (xs (i + 3)) hH.1 hok hkx hky hv hw) (cwV 3 hts gL_law_X5_drop rfl rfl rfl hdv_X5_drop ⟨Nat.le_of_ble_eq_true rfl, Nat.le_of_ble_eq_true rfl⟩) [0, 1, 2, 3, 4, 5, 6, 7, 8] (by decide) rfl rfl rfl (hW.hP 0 rfl) 0 rfl rfl rfl BM0_blind (fun _ _ _ _ => trivial) rfl hl.1 (rest := []) rfl (Nat.le_of_ble_eq_true rfl) dL_law_352 hcs (fun H locs hW => ?_)
    refine lv_aload_n hx hb dL_law_355 rfl (lv_at hl 1 rfl) ?_
    refine lv_aload_n hx hb dL_law_356 rfl (lv_at hl 3 rfl) ?_
    refine lv_iload_n hx hb dL_law_357 rfl (lv_at hl 0 rfl) ?_
    refine rn_iconst hx hb 1 rfl dL_law_358 ?_
    refine rn_iadd hx hb dL_law_359 ?_
    refine rl_ld (v := (nI kx)) hx hb hX hbl hbA hW.flat.2.2 (j := i + 1) (by omega) hL e1 dL_law_360 ?_
    refine lv_aload_n hx hb dL_law_361 rfl (lv_at hl 3 rfl) ?_
    refine lv_iload_n hx hb dL_law_362 rfl (lv_at hl 0 rfl) ?_
    refine rn_iconst hx hb 2 rfl dL_law_363 ?_
    refine rn_iadd hx hb dL_law_364 ?_
    refine rl_ld (v := (nI ky)) hx hb hX hbl hbA hW.flat.2.2 (j := i + 2) (by omega) hL e2 dL_law_365 ?_
    refine lv_aload_n hx hb dL_law_366 rfl (lv_at hl 3 rfl) ?_
    refine lv_iload_n hx hb dL_law_367 rfl (lv_at hl 0 rfl) ?_
    refine rn_iconst hx hb 3 rfl dL_law_368 ?_
    refine rn_iadd hx hb dL_law_369 ?_
    refine rl_ld (v := (xs (i + 3))) hx hb hX hbl hbA hW.flat.2.2 (j := i + 3) (by omega) hL rfl dL_law_370 ?_
    refine muiVP (w' := [(m 0, .inr (6, [.ref (m 1), .ref (m 2), .ref (m 3), .ref (m 4), .int (nI (rec1 hn + 1)), .ref (m 5), .ref (m 6), .int (nI ty), .ref (m 7)])), (m 1, .inl (cA 0, 345, .inl (upd z (65 + (ky * 10 + kx)) (boundF (shf 65 z (ky * 10 + kx) + (xs (i + 3))))))), (m 2, .inl (cA 0, 2070, .inl (recP pa z hn))), (m 3, .inl (cA 0, 690, .inl sl)), (m 4, .inl (cA 2, 2, .inl svm)), (m 5, .inl (cA 0, 345, .inl sp)), (m 6, .inl (cA 1, 72, .inl pdm)), (m 7, .inl (cA 0, 60, .inl th))]) (segs' := [[(x 0, .inr (5, [.ref (a 0), .ref (b 0), .ref (x 3), .ref (x 1), .ref (x 2), .ref (x 5)]))], [(x 3, .inr (1, [.ref (x 4), .int (nI (keepN hn))])), (x 4, .inl (cA 3, 6, .inr (.inr (.inr (.inr (stR (keepA ha hn)))))))], tkW cA ((keepA ha hn) 0) ((keepT hT hn T) 0), tkW cA ((keepA ha hn) 1) ((keepT hT hn T) 1), tkW cA ((keepA ha hn) 2) ((keepT hT hn T) 2), tkW cA ((keepA ha hn) 3) ((keepT hT hn T) 3), tkW cA ((keepA ha hn) 4) ((keepT hT hn T) 4), tkW cA ((keepA ha hn) 5) ((keepT hT hn T) 5), tkW cA a (dropT T (ky * 10 + kx) (xs (i + 3))), tkW cA b S, [(x 1, .inl (cA 3, 2, .inr (.inr (.inr (.inr (sl2 (g 0) (h 0))))))), (x 2, .inl (cA 2, 2, .inl sv))], tkW cA g U, tkW cA h V, [(x 5, .inr (2, [.ref (x 6), .int (nI ty)])), (x 6, .inl (cA 1, 72, .inl pd))], [(m 0, .inr (6, [.ref (m 1), .ref (m 2), .ref (m 3), .ref (m 4), .int (nI (rec1 hn + 1)), .ref (m 5), .ref (m 6), .int (nI ty), .ref (m 7)])), (m 1, .inl (cA 0, 345, .inl (upd z (65 + (ky * 10 + kx)) (boundF (shf 65 z (ky * 10 + kx) + (xs (i + 3))))))), (m 2, .inl (cA 0, 2070, .inl (recP pa z hn))), (m 3, .inl (cA 0, 690, .inl sl)), (m 4, .inl (cA 2, 2, .inl svm)), (m 5, .inl (cA 0, 345, .inl sp)), (m 6, .inl (cA 1, 72, .inl pdm)), (m 7, .inl (cA 0, 60, .inl th))]]) CX hE hW hA (c_X6_drop_k l G cA m hn ty z pa kx ky (xs (i + 3)) hH.1 hkx hky hv hw2) (cwV 3 hts gL_law_X6_drop rfl rfl rfl hdv_X6_drop ⟨Nat.le_of_ble_eq_true rfl, Nat.le_of_ble_eq_true rfl⟩) 14 rfl [0, 1, 2] (by decide) rfl rfl rfl rfl 0 rfl rfl rfl BM0_blind (fun _ _ _ _ => trivial) rfl hl.1 (rest := [.int ((boundF (T.1 2 (ky * 10 + kx) + (xs (i + 3)))) + nI 10000)]) rfl (Nat.le_of_ble_eq_true rfl) dL_law_371 hcs (fun H locs hW => ?_)
    refine lv_icmp_eq hx hb dL_law_374 (by decide) (tgt := 923) (fun _ => ?_) (fun c_ => absurd (by rw [show shf 65 z (ky * 10 + kx) = T.1 2 (ky * 10 + kx) from hR.2.1.2.1 _ hc]) c_)
    rw [keep_rec hH.1] at hW
    exact kk _ _ ⟨a, b, g, h, (keepA ha hn), dropT T (ky * 10 + kx) (xs (i + 3)), S, U, V, (keepT hT hn T), keepN hn, ty, sv, svm, pd, pdm, upd z (65 + (ky * 10 + kx)) (boundF (shf 65 z (ky * 10 + kx) + (xs (i + 3)))), recP pa z hn, sl, sp, th, hW, ⟨hdr.1, hdr.2, htk⟩, keep_rel hH hSt, hsv, hU, hV, hty, hpd⟩
  · refine lv_aload_n hx hb dL_law_336 rfl (lv_at hl 2 rfl) ?_
    refine lv_aload_n hx hb dL_law_337 rfl (lv_at hl 3 rfl) ?_
    refine lv_iload_n hx hb dL_law_338 rfl (lv_at hl 0 rfl) ?_
    refine rn_iconst hx hb 1 rfl dL_law_339 ?_
    refine rn_iadd hx hb dL_law_340 ?_
    refine rl_ld (v := (xs (i + 1))) hx hb hX hbl hbA hW.flat.2.2 (j := i + 1) (by omega) hL rfl dL_law_341 ?_
    refine lv_aload_n hx hb dL_law_342 rfl (lv_at hl 3 rfl) ?_
    refine lv_iload_n hx hb dL_law_343 rfl (lv_at hl 0 rfl) ?_
    refine rn_iconst hx hb 2 rfl dL_law_344 ?_
    refine rn_iadd hx hb dL_law_345 ?_
    refine rl_ld (v := (xs (i + 2))) hx hb hX hbl hbA hW.flat.2.2 (j := i + 2) (by omega) hL rfl dL_law_346 ?_
    refine lv_aload_n hx hb dL_law_347 rfl (lv_at hl 3 rfl) ?_
    refine lv_iload_n hx hb dL_law_348 rfl (lv_at hl 0 rfl) ?_
    refine rn_iconst hx hb 3 rfl dL_law_349 ?_
    refine rn_iadd hx hb dL_law_350 ?_
    refine rl_ld (v := (xs (i + 3))) hx hb hX hbl hbA hW.flat.2.2 (j := i + 3) (by omega) hL rfl dL_law_351 ?_
    refine roVg CX hE (va_P_segs (fun _ _ h => hW.hP _ h) [0, 8] rfl) (c_X5_drop_e l G cA x a b T (xs (i + 1)) (xs (i + 2)) (xs (i + 3)) (fun i_ j_ a1 a2 a3 a4 a5 => Classical.byContradiction (fun q => hq ⟨i_, j_, a1, a2, a3, a4, a5, q⟩))) (cwV 3 hts gL_law_X5_drop rfl rfl rfl hdv_X5_drop ⟨Nat.le_of_ble_eq_true rfl, Nat.le_of_ble_eq_true rfl⟩) (hW.hP 0 rfl) 0 rfl rfl rfl B0_blind (fun _ _ _ => trivial) rfl hl.1 (rest := []) rfl (Nat.le_of_ble_eq_true rfl) dL_law_352 hcs ?_
    refine lv_aload_n hx hb dL_law_355 rfl (lv_at hl 1 rfl) ?_
    refine lv_aload_n hx hb dL_law_356 rfl (lv_at hl 3 rfl) ?_
    refine lv_iload_n hx hb dL_law_357 rfl (lv_at hl 0 rfl) ?_
    refine rn_iconst hx hb 1 rfl dL_law_358 ?_
    refine rn_iadd hx hb dL_law_359 ?_
    refine rl_ld (v := (xs (i + 1))) hx hb hX hbl hbA hW.flat.2.2 (j := i + 1) (by omega) hL rfl dL_law_360 ?_
    refine lv_aload_n hx hb dL_law_361 rfl (lv_at hl 3 rfl) ?_
    refine lv_iload_n hx hb dL_law_362 rfl (lv_at hl 0 rfl) ?_
    refine rn_iconst hx hb 2 rfl dL_law_363 ?_
    refine rn_iadd hx hb dL_law_364 ?_
    refine rl_ld (v := (xs (i + 2))) hx hb hX hbl hbA hW.flat.2.2 (j := i + 2) (by omega) hL rfl dL_law_365 ?_
    refine lv_aload_n hx hb dL_law_366 rfl (lv_at hl 3 rfl) ?_
    refine lv_iload_n hx hb dL_law_367 rfl (lv_at hl 0 rfl) ?_
    refine rn_iconst hx hb 3 rfl dL_law_368 ?_
    refine rn_iadd hx hb dL_law_369 ?_
    refine rl_ld (v := (xs (i + 3))) hx hb hX hbl hbA hW.flat.2.2 (j := i + 3) (by omega) hL rfl dL_law_370 ?_
    refine roVg CX hE ((hW.hP 14 rfl).sub [0, 1] rfl) (c_X6_drop_e l G cA m hn ty z (xs (i + 1)) (xs (i + 2)) (xs (i + 3)) (fun i_ j_ a1 a2 a3 a4 a5 => by rw [show shf 5 z (j_ * 10 + i_) = T.1 1 (j_ * 10 + i_) from hR.2.1.1 _ (by omega)]; exact Classical.byContradiction (fun q => hq ⟨i_, j_, a1, a2, a3, a4, a5, q⟩))) (cwV 3 hts gL_law_X6_drop rfl rfl rfl hdv_X6_drop ⟨Nat.le_of_ble_eq_true rfl, Nat.le_of_ble_eq_true rfl⟩) (hW.hP 14 rfl) 0 rfl rfl rfl B0_blind (fun _ _ _ => trivial) rfl hl.1 (rest := [.int (dropE (xs (i + 1)) (xs (i + 2)) (xs (i + 3)))]) rfl (Nat.le_of_ble_eq_true rfl) dL_law_371 hcs ?_
    refine lv_icmp_eq hx hb dL_law_374 (by decide) (tgt := 923) (fun _ => ?_) (fun c_ => absurd rfl c_)
    exact kk _ _ ⟨a, b, g, h, ha, T, S, U, V, hT, hn, ty, sv, svm, pd, pdm, z, pa, sl, sp, th, hW, hSt, hH, hsv, hU, hV, hty, hpd⟩
theorem hdv_X5_probe : yX5_probe.cls = RX5 ∧ yX5_probe.cls ≠ "java/lang/invoke/MethodHandle" ∧ yX5_probe.cls ≠ "java/lang/invoke/VarHandle" ∧ (parseMethodDescriptor yX5_probe.desc).map (fun d => d.parameters.length) = some 2 := by decide +kernel
theorem hdv_X6_probe : yX6_probe.cls = RX6 ∧ yX6_probe.cls ≠ "java/lang/invoke/MethodHandle" ∧ yX6_probe.cls ≠ "java/lang/invoke/VarHandle" ∧ (parseMethodDescriptor yX6_probe.desc).map (fun d => d.parameters.length) = some 2 := by decide +kernel
set_option maxHeartbeats 8000000 in
set_option maxRecDepth 100000 in
theorem L_probe {p_ : Program} {l : Launch} {e_ : Env} {s_ : State} {m_ : MethodId} {args : Array Value} {below : List Frame} {meth : Method} {c_ : Code} {H : Heap} {locs : List Loc} {cells slots : Nat} {Q : State → Prop} {ls : Array Slot} {G : va_G} {cA : Nat → ClassId} {A_ : Nat → Prop} {x m : Nat → Nat} {bq L i tl_ tm_ q_ v_ : Nat} {xs : Nat → Int32} (CX : CallFix p_ m_ c_ cL_law 4 s_ args wsL_law RL) (hE : EK G cA s_) (hA : ∀ q, s_.heap.size ≤ q → A_ q) (hX : va_X bq L xs s_ s_.heap) (hbl : bq < s_.heap.size) (hbA : ¬ A_ bq) (hiL : i + 6 ≤ L) (hL : L ≤ 3072) (K : KSM tl_ tm_ A_ s_) (BB : BSM q_ v_ A_ s_) (hcs : cells ≤ room_1.cells ∧ slots ≤ room_1.slots) (hl : lv_has ls 4 [(3, .int (nI i)), (2, .ref (m 0)), (1, .ref (x 0)), (0, .ref bq)]) (hI : LInv G cA A_ x m s_.heap H locs) (kk : ∀ (H : Heap) (locs : List Loc), LInv G cA A_ x m s_.heap H locs → W p_ l e_ room_1 s_ m_ args below meth c_ H locs cells slots Q (F0 m_ 923 ls [])) : W p_ l e_ room_1 s_ m_ args below meth c_ H locs cells slots Q (F0 m_ 379 ls []) := by
  obtain ⟨hx, hb, hml, hown, hts⟩ := id CX
  obtain ⟨a, b, g, h, ha, T, S, U, V, hT, hn, ty, sv, svm, pd, pdm, z, pa, sl, sp, th, hW, hSt, hH, hsv, hU, hV, hty, hpd⟩ := hI
  have hR := hSt.1
  have hi := hSt.2.1
  have htk := hSt.2.2
  have hok := hi.1
  have hnd := hok.1.1
  have hnp := hok.2.1
  by_cases hq : ∃ kx ky, kx < 10 ∧ ky < 6 ∧ xs (i + 1) = nI kx ∧ xs (i + 2) = nI ky ∧ T.2 4 2 < 3
  · obtain ⟨kx, ky, hkx, hky, e1, e2, hn3⟩ := hq
    have hc : ky * 10 + kx < 60 := by omega
    have hpr := prob_rel hR hi hc hn3
    refine lv_aload_n hx hb dL_law_379 rfl (lv_at hl 2 rfl) ?_
    refine lv_aload_n hx hb dL_law_380 rfl (lv_at hl 3 rfl) ?_
    refine lv_iload_n hx hb dL_law_381 rfl (lv_at hl 0 rfl) ?_
    refine rn_iconst hx hb 1 rfl dL_law_382 ?_
    refine rn_iadd hx hb dL_law_383 ?_
    refine rl_ld (v := (nI kx)) hx hb hX hbl hbA hW.flat.2.2 (j := i + 1) (by omega) hL e1 dL_law_384 ?_
    refine lv_aload_n hx hb dL_law_385 rfl (lv_at hl 3 rfl) ?_
    refine lv_iload_n hx hb dL_law_386 rfl (lv_at hl 0 rfl) ?_
    refine rn_iconst hx hb 2 rfl dL_law_387 ?_
    refine rn_iadd hx hb dL_law_388 ?_
    refine rl_ld (v := (nI ky)) hx hb hX hbl hbA hW.flat.2.2 (j := i + 2) (by omega) hL e2 dL_law_389 ?_
    refine muiVS (segs' := [[(x 0, .inr (5, [.ref (a 0), .ref (b 0), .ref (x 3), .ref (x 1), .ref (x 2), .ref (x 5)]))], [(x 3, .inr (1, [.ref (x 4), .int (nI (keepN hn))])), (x 4, .inl (cA 3, 6, .inr (.inr (.inr (.inr (stR (keepA ha hn)))))))], tkW cA ((keepA ha hn) 0) ((keepT hT hn T) 0), tkW cA ((keepA ha hn) 1) ((keepT hT hn T) 1), tkW cA ((keepA ha hn) 2) ((keepT hT hn T) 2), tkW cA ((keepA ha hn) 3) ((keepT hT hn T) 3), tkW cA ((keepA ha hn) 4) ((keepT hT hn T) 4), tkW cA ((keepA ha hn) 5) ((keepT hT hn T) 5), tkW cA a (probT T (ky * 10 + kx)), tkW cA b S, [(x 1, .inl (cA 3, 2, .inr (.inr (.inr (.inr (sl2 (g 0) (h 0))))))), (x 2, .inl (cA 2, 2, .inl sv))], tkW cA g U, tkW cA h V, [(x 5, .inr (2, [.ref (x 6), .int (nI ty)])), (x 6, .inl (cA 1, 72, .inl pd))], [(m 0, .inr (6, [.ref (m 1), .ref (m 2), .ref (m 3), .ref (m 4), .int (nI hn), .ref (m 5), .ref (m 6), .int (nI ty), .ref (m 7)])), (m 1, .inl (cA 0, 345, .inl z)), (m 2, .inl (cA 0, 2070, .inl pa)), (m 3, .inl (cA 0, 690, .inl sl)), (m 4, .inl (cA 2, 2, .inl svm)), (m 5, .inl (cA 0, 345, .inl sp)), (m 6, .inl (cA 1, 72, .inl pdm)), (m 7, .inl (cA 0, 60, .inl th))]]) CX hE hW hA (c_X5_probe_k l G cA x a b T hn ha hT kx ky hH.1 hok hkx hky hn3) (cwV 2 hts gL_law_X5_probe rfl rfl rfl hdv_X5_probe ⟨Nat.le_of_ble_eq_true rfl, Nat.le_of_ble_eq_true rfl⟩) [0, 1, 2, 3, 4, 5, 6, 7, 8] (by decide) rfl rfl rfl (hW.hP 0 rfl) 0 rfl rfl rfl BM0_blind (fun _ _ _ _ => trivial) rfl hl.1 (rest := []) rfl (Nat.le_of_ble_eq_true rfl) dL_law_390 hcs (fun H locs hW => ?_)
    refine lv_aload_n hx hb dL_law_393 rfl (lv_at hl 1 rfl) ?_
    refine lv_aload_n hx hb dL_law_394 rfl (lv_at hl 3 rfl) ?_
    refine lv_iload_n hx hb dL_law_395 rfl (lv_at hl 0 rfl) ?_
    refine rn_iconst hx hb 1 rfl dL_law_396 ?_
    refine rn_iadd hx hb dL_law_397 ?_
    refine rl_ld (v := (nI kx)) hx hb hX hbl hbA hW.flat.2.2 (j := i + 1) (by omega) hL e1 dL_law_398 ?_
    refine lv_aload_n hx hb dL_law_399 rfl (lv_at hl 3 rfl) ?_
    refine lv_iload_n hx hb dL_law_400 rfl (lv_at hl 0 rfl) ?_
    refine rn_iconst hx hb 2 rfl dL_law_401 ?_
    refine rn_iadd hx hb dL_law_402 ?_
    refine rl_ld (v := (nI ky)) hx hb hX hbl hbA hW.flat.2.2 (j := i + 2) (by omega) hL e2 dL_law_403 ?_
    refine muiVP (w' := [(m 0, .inr (6, [.ref (m 1), .ref (m 2), .ref (m 3), .ref (m 4), .int (nI (rec1 hn + 1)), .ref (m 5), .ref (m 6), .int (nI ty), .ref (m 7)])), (m 1, .inl (cA 0, 345, .inl (probM z (T.2 4 2) (ky * 10 + kx)))), (m 2, .inl (cA 0, 2070, .inl (recP pa z hn))), (m 3, .inl (cA 0, 690, .inl sl)), (m 4, .inl (cA 2, 2, .inl svm)), (m 5, .inl (cA 0, 345, .inl sp)), (m 6, .inl (cA 1, 72, .inl pdm)), (m 7, .inl (cA 0, 60, .inl th))]) (segs' := [[(x 0, .inr (5, [.ref (a 0), .ref (b 0), .ref (x 3), .ref (x 1), .ref (x 2), .ref (x 5)]))], [(x 3, .inr (1, [.ref (x 4), .int (nI (keepN hn))])), (x 4, .inl (cA 3, 6, .inr (.inr (.inr (.inr (stR (keepA ha hn)))))))], tkW cA ((keepA ha hn) 0) ((keepT hT hn T) 0), tkW cA ((keepA ha hn) 1) ((keepT hT hn T) 1), tkW cA ((keepA ha hn) 2) ((keepT hT hn T) 2), tkW cA ((keepA ha hn) 3) ((keepT hT hn T) 3), tkW cA ((keepA ha hn) 4) ((keepT hT hn T) 4), tkW cA ((keepA ha hn) 5) ((keepT hT hn T) 5), tkW cA a (probT T (ky * 10 + kx)), tkW cA b S, [(x 1, .inl (cA 3, 2, .inr (.inr (.inr (.inr (sl2 (g 0) (h 0))))))), (x 2, .inl (cA 2, 2, .inl sv))], tkW cA g U, tkW cA h V, [(x 5, .inr (2, [.ref (x 6), .int (nI ty)])), (x 6, .inl (cA 1, 72, .inl pd))], [(m 0, .inr (6, [.ref (m 1), .ref (m 2), .ref (m 3), .ref (m 4), .int (nI (rec1 hn + 1)), .ref (m 5), .ref (m 6), .int (nI ty), .ref (m 7)])), (m 1, .inl (cA 0, 345, .inl (probM z (T.2 4 2) (ky * 10 + kx)))), (m 2, .inl (cA 0, 2070, .inl (recP pa z hn))), (m 3, .inl (cA 0, 690, .inl sl)), (m 4, .inl (cA 2, 2, .inl svm)), (m 5, .inl (cA 0, 345, .inl sp)), (m 6, .inl (cA 1, 72, .inl pdm)), (m 7, .inl (cA 0, 60, .inl th))]]) CX hE hW hA (c_X6_probe_k l G cA m hn ty z pa kx ky (T.2 4 2) hH.1 hkx hky hn3 hR.2.2.2.1) (cwV 2 hts gL_law_X6_probe rfl rfl rfl hdv_X6_probe ⟨Nat.le_of_ble_eq_true rfl, Nat.le_of_ble_eq_true rfl⟩) 14 rfl [0, 1, 2] (by decide) rfl rfl rfl rfl 0 rfl rfl rfl BM0_blind (fun _ _ _ _ => trivial) rfl hl.1 (rest := [.int (nI (T.2 4 2))]) rfl (Nat.le_of_ble_eq_true rfl) dL_law_404 hcs (fun H locs hW => ?_)
    refine lv_icmp_eq hx hb dL_law_407 (by decide) (tgt := 923) (fun _ => ?_) (fun c_ => absurd rfl c_)
    rw [keep_rec hH.1] at hW
    exact kk _ _ ⟨a, b, g, h, (keepA ha hn), probT T (ky * 10 + kx), S, U, V, (keepT hT hn T), keepN hn, ty, sv, svm, pd, pdm, probM z (T.2 4 2) (ky * 10 + kx), recP pa z hn, sl, sp, th, hW, ⟨hpr.1, hpr.2, htk⟩, keep_rel hH hSt, hsv, hU, hV, hty, hpd⟩
  · refine lv_aload_n hx hb dL_law_379 rfl (lv_at hl 2 rfl) ?_
    refine lv_aload_n hx hb dL_law_380 rfl (lv_at hl 3 rfl) ?_
    refine lv_iload_n hx hb dL_law_381 rfl (lv_at hl 0 rfl) ?_
    refine rn_iconst hx hb 1 rfl dL_law_382 ?_
    refine rn_iadd hx hb dL_law_383 ?_
    refine rl_ld (v := (xs (i + 1))) hx hb hX hbl hbA hW.flat.2.2 (j := i + 1) (by omega) hL rfl dL_law_384 ?_
    refine lv_aload_n hx hb dL_law_385 rfl (lv_at hl 3 rfl) ?_
    refine lv_iload_n hx hb dL_law_386 rfl (lv_at hl 0 rfl) ?_
    refine rn_iconst hx hb 2 rfl dL_law_387 ?_
    refine rn_iadd hx hb dL_law_388 ?_
    refine rl_ld (v := (xs (i + 2))) hx hb hX hbl hbA hW.flat.2.2 (j := i + 2) (by omega) hL rfl dL_law_389 ?_
    refine roVg CX hE (va_P_segs (fun _ _ h => hW.hP _ h) [0, 8] rfl) (c_X5_probe_e l G cA x a b T (xs (i + 1)) (xs (i + 2)) hok (fun i_ j_ a1 a2 a3 a4 => Classical.byContradiction (fun q => hq ⟨i_, j_, a1, a2, a3, a4, by omega⟩))) (cwV 2 hts gL_law_X5_probe rfl rfl rfl hdv_X5_probe ⟨Nat.le_of_ble_eq_true rfl, Nat.le_of_ble_eq_true rfl⟩) (hW.hP 0 rfl) 0 rfl rfl rfl B0_blind (fun _ _ _ => trivial) rfl hl.1 (rest := []) rfl (Nat.le_of_ble_eq_true rfl) dL_law_390 hcs ?_
    refine lv_aload_n hx hb dL_law_393 rfl (lv_at hl 1 rfl) ?_
    refine lv_aload_n hx hb dL_law_394 rfl (lv_at hl 3 rfl) ?_
    refine lv_iload_n hx hb dL_law_395 rfl (lv_at hl 0 rfl) ?_
    refine rn_iconst hx hb 1 rfl dL_law_396 ?_
    refine rn_iadd hx hb dL_law_397 ?_
    refine rl_ld (v := (xs (i + 1))) hx hb hX hbl hbA hW.flat.2.2 (j := i + 1) (by omega) hL rfl dL_law_398 ?_
    refine lv_aload_n hx hb dL_law_399 rfl (lv_at hl 3 rfl) ?_
    refine lv_iload_n hx hb dL_law_400 rfl (lv_at hl 0 rfl) ?_
    refine rn_iconst hx hb 2 rfl dL_law_401 ?_
    refine rn_iadd hx hb dL_law_402 ?_
    refine rl_ld (v := (xs (i + 2))) hx hb hX hbl hbA hW.flat.2.2 (j := i + 2) (by omega) hL rfl dL_law_403 ?_
    refine roVg CX hE ((hW.hP 14 rfl).sub [0, 1] rfl) (c_X6_probe_e l G cA m hn ty z (xs (i + 1)) (xs (i + 2)) (T.2 4 2) hR.2.2.2.1 hnp (fun i_ j_ a1 a2 a3 a4 => Classical.byContradiction (fun q => hq ⟨i_, j_, a1, a2, a3, a4, by omega⟩))) (cwV 2 hts gL_law_X6_probe rfl rfl rfl hdv_X6_probe ⟨Nat.le_of_ble_eq_true rfl, Nat.le_of_ble_eq_true rfl⟩) (hW.hP 14 rfl) 0 rfl rfl rfl B0_blind (fun _ _ _ => trivial) rfl hl.1 (rest := [.int (if ¬ cellP (xs (i + 1)) (xs (i + 2)) then -1 else -4)]) rfl (Nat.le_of_ble_eq_true rfl) dL_law_404 hcs ?_
    refine lv_icmp_eq hx hb dL_law_407 (by decide) (tgt := 923) (fun _ => ?_) (fun c_ => absurd rfl c_)
    exact kk _ _ ⟨a, b, g, h, ha, T, S, U, V, hT, hn, ty, sv, svm, pd, pdm, z, pa, sl, sp, th, hW, hSt, hH, hsv, hU, hV, hty, hpd⟩
theorem hdv_X5_pass : yX5_pass.cls = RX5 ∧ yX5_pass.cls ≠ "java/lang/invoke/MethodHandle" ∧ yX5_pass.cls ≠ "java/lang/invoke/VarHandle" ∧ (parseMethodDescriptor yX5_pass.desc).map (fun d => d.parameters.length) = some 1 := by decide +kernel
theorem hdv_X6_pass : yX6_pass.cls = RX6 ∧ yX6_pass.cls ≠ "java/lang/invoke/MethodHandle" ∧ yX6_pass.cls ≠ "java/lang/invoke/VarHandle" ∧ (parseMethodDescriptor yX6_pass.desc).map (fun d => d.parameters.length) = some 1 := by decide +kernel
set_option maxHeartbeats 8000000 in
set_option maxRecDepth 100000 in
theorem L_pass {p_ : Program} {l : Launch} {e_ : Env} {s_ : State} {m_ : MethodId} {args : Array Value} {below : List Frame} {meth : Method} {c_ : Code} {H : Heap} {locs : List Loc} {cells slots : Nat} {Q : State → Prop} {ls : Array Slot} {G : va_G} {cA : Nat → ClassId} {A_ : Nat → Prop} {x m : Nat → Nat} {bq L i tl_ tm_ q_ v_ : Nat} {xs : Nat → Int32} (CX : CallFix p_ m_ c_ cL_law 4 s_ args wsL_law RL) (hE : EK G cA s_) (hA : ∀ q, s_.heap.size ≤ q → A_ q) (hX : va_X bq L xs s_ s_.heap) (hbl : bq < s_.heap.size) (hbA : ¬ A_ bq) (hiL : i + 6 ≤ L) (hL : L ≤ 3072) (K : KSM tl_ tm_ A_ s_) (BB : BSM q_ v_ A_ s_) (hcs : cells ≤ room_1.cells ∧ slots ≤ room_1.slots) (hl : lv_has ls 4 [(3, .int (nI i)), (2, .ref (m 0)), (1, .ref (x 0)), (0, .ref bq)]) (hI : LInv G cA A_ x m s_.heap H locs) (kk : ∀ (H : Heap) (locs : List Loc), LInv G cA A_ x m s_.heap H locs → W p_ l e_ room_1 s_ m_ args below meth c_ H locs cells slots Q (F0 m_ 923 ls [])) : W p_ l e_ room_1 s_ m_ args below meth c_ H locs cells slots Q (F0 m_ 412 ls []) := by
  obtain ⟨hx, hb, hml, hown, hts⟩ := id CX
  obtain ⟨a, b, g, h, ha, T, S, U, V, hT, hn, ty, sv, svm, pd, pdm, z, pa, sl, sp, th, hW, hSt, hH, hsv, hU, hV, hty, hpd⟩ := hI
  have hR := hSt.1
  have hi := hSt.2.1
  have htk := hSt.2.2
  have hok := hi.1
  have hnd := hok.1.1
  have hnp := hok.2.1
  by_cases hq : ∃ n, 1 ≤ n ∧ n ≤ 100 ∧ T.2 4 0 + n ≤ 100000 ∧ xs (i + 1) = nI n
  · obtain ⟨n, hn1, hn9, htn, e1⟩ := hq
    have hrn := run_rel hR hi n
    refine lv_aload_n hx hb dL_law_412 rfl (lv_at hl 2 rfl) ?_
    refine lv_aload_n hx hb dL_law_413 rfl (lv_at hl 3 rfl) ?_
    refine lv_iload_n hx hb dL_law_414 rfl (lv_at hl 0 rfl) ?_
    refine rn_iconst hx hb 1 rfl dL_law_415 ?_
    refine rn_iadd hx hb dL_law_416 ?_
    refine rl_ld (v := (nI n)) hx hb hX hbl hbA hW.flat.2.2 (j := i + 1) (by omega) hL e1 dL_law_417 ?_
    refine muiVS (segs' := [[(x 0, .inr (5, [.ref ((runA a n) 0), .ref (b 0), .ref (x 3), .ref (x 1), .ref (x 2), .ref (x 5)]))], [(x 3, .inr (1, [.ref (x 4), .int (nI (keepN hn))])), (x 4, .inl (cA 3, 6, .inr (.inr (.inr (.inr (stR (keepA ha hn)))))))], tkW cA ((keepA ha hn) 0) ((keepT hT hn T) 0), tkW cA ((keepA ha hn) 1) ((keepT hT hn T) 1), tkW cA ((keepA ha hn) 2) ((keepT hT hn T) 2), tkW cA ((keepA ha hn) 3) ((keepT hT hn T) 3), tkW cA ((keepA ha hn) 4) ((keepT hT hn T) 4), tkW cA ((keepA ha hn) 5) ((keepT hT hn T) 5), tkW cA (runA a n) (runT T n), tkW cA b S, [(x 1, .inl (cA 3, 2, .inr (.inr (.inr (.inr (sl2 (g 0) (h 0))))))), (x 2, .inl (cA 2, 2, .inl sv))], tkW cA g U, tkW cA h V, [(x 5, .inr (2, [.ref (x 6), .int (nI ty)])), (x 6, .inl (cA 1, 72, .inl pd))], [(m 0, .inr (6, [.ref (m 1), .ref (m 2), .ref (m 3), .ref (m 4), .int (nI hn), .ref (m 5), .ref (m 6), .int (nI ty), .ref (m 7)])), (m 1, .inl (cA 0, 345, .inl z)), (m 2, .inl (cA 0, 2070, .inl pa)), (m 3, .inl (cA 0, 690, .inl sl)), (m 4, .inl (cA 2, 2, .inl svm)), (m 5, .inl (cA 0, 345, .inl sp)), (m 6, .inl (cA 1, 72, .inl pdm)), (m 7, .inl (cA 0, 60, .inl th))]]) CX hE hW hA (c_X5_pass_k l G cA x a b T hn ha hT n hH.1 hok hn1 hn9 htn) (cwV 1 hts gL_law_X5_pass rfl rfl rfl hdv_X5_pass ⟨Nat.le_of_ble_eq_true rfl, Nat.le_of_ble_eq_true rfl⟩) [0, 1, 2, 3, 4, 5, 6, 7, 8] (by decide) rfl rfl rfl (hW.hP 0 rfl) 0 rfl rfl rfl BM0_blind (fun _ _ _ _ => trivial) rfl hl.1 (rest := []) rfl (Nat.le_of_ble_eq_true rfl) dL_law_418 hcs (fun H locs hW => ?_)
    refine lv_aload_n hx hb dL_law_421 rfl (lv_at hl 1 rfl) ?_
    refine lv_aload_n hx hb dL_law_422 rfl (lv_at hl 3 rfl) ?_
    refine lv_iload_n hx hb dL_law_423 rfl (lv_at hl 0 rfl) ?_
    refine rn_iconst hx hb 1 rfl dL_law_424 ?_
    refine rn_iadd hx hb dL_law_425 ?_
    refine rl_ld (v := (nI n)) hx hb hX hbl hbA hW.flat.2.2 (j := i + 1) (by omega) hL e1 dL_law_426 ?_
    refine muiVP (w' := [(m 0, .inr (6, [.ref (m 1), .ref (m 2), .ref (m 3), .ref (m 4), .int (nI (rec1 hn + 1)), .ref (m 5), .ref (m 6), .int (nI ty), .ref (m 7)])), (m 1, .inl (cA 0, 345, .inl (runM z (T.2 4 1) (T.2 4 2) n))), (m 2, .inl (cA 0, 2070, .inl (recP pa z hn))), (m 3, .inl (cA 0, 690, .inl sl)), (m 4, .inl (cA 2, 2, .inl svm)), (m 5, .inl (cA 0, 345, .inl sp)), (m 6, .inl (cA 1, 72, .inl pdm)), (m 7, .inl (cA 0, 60, .inl (thM z th (T.2 4 1) (T.2 4 2) n)))]) (segs' := [[(x 0, .inr (5, [.ref ((runA a n) 0), .ref (b 0), .ref (x 3), .ref (x 1), .ref (x 2), .ref (x 5)]))], [(x 3, .inr (1, [.ref (x 4), .int (nI (keepN hn))])), (x 4, .inl (cA 3, 6, .inr (.inr (.inr (.inr (stR (keepA ha hn)))))))], tkW cA ((keepA ha hn) 0) ((keepT hT hn T) 0), tkW cA ((keepA ha hn) 1) ((keepT hT hn T) 1), tkW cA ((keepA ha hn) 2) ((keepT hT hn T) 2), tkW cA ((keepA ha hn) 3) ((keepT hT hn T) 3), tkW cA ((keepA ha hn) 4) ((keepT hT hn T) 4), tkW cA ((keepA ha hn) 5) ((keepT hT hn T) 5), tkW cA (runA a n) (runT T n), tkW cA b S, [(x 1, .inl (cA 3, 2, .inr (.inr (.inr (.inr (sl2 (g 0) (h 0))))))), (x 2, .inl (cA 2, 2, .inl sv))], tkW cA g U, tkW cA h V, [(x 5, .inr (2, [.ref (x 6), .int (nI ty)])), (x 6, .inl (cA 1, 72, .inl pd))], [(m 0, .inr (6, [.ref (m 1), .ref (m 2), .ref (m 3), .ref (m 4), .int (nI (rec1 hn + 1)), .ref (m 5), .ref (m 6), .int (nI ty), .ref (m 7)])), (m 1, .inl (cA 0, 345, .inl (runM z (T.2 4 1) (T.2 4 2) n))), (m 2, .inl (cA 0, 2070, .inl (recP pa z hn))), (m 3, .inl (cA 0, 690, .inl sl)), (m 4, .inl (cA 2, 2, .inl svm)), (m 5, .inl (cA 0, 345, .inl sp)), (m 6, .inl (cA 1, 72, .inl pdm)), (m 7, .inl (cA 0, 60, .inl (thM z th (T.2 4 1) (T.2 4 2) n)))]]) CX hE hW hA (c_X6_pass_k l G cA m hn ty z pa th n (T.2 4 1) (T.2 4 2) (T.2 4 0) hH.1 hn1 hn9 hR.1.2 htn (okM_of hR hi)) (cwV 1 hts gL_law_X6_pass rfl rfl rfl hdv_X6_pass ⟨Nat.le_of_ble_eq_true rfl, Nat.le_of_ble_eq_true rfl⟩) 14 rfl [0, 1, 2, 7] (by decide) rfl rfl rfl rfl 0 rfl rfl rfl BM0_blind (fun _ _ _ _ => trivial) rfl hl.1 (rest := [.int (restF ((runT T n).1 0) ((runT T n).1 1) ((runT T n).1 2) ((runT T n).1 3))]) rfl (Nat.le_of_ble_eq_true rfl) dL_law_427 hcs (fun H locs hW => ?_)
    refine lv_icmp_eq hx hb dL_law_430 (by decide) (tgt := 923) (fun _ => ?_) (fun c_ => absurd ((rest_rel hrn.1.1).symm) c_)
    rw [keep_rec hH.1] at hW
    exact kk _ _ ⟨runA a n, b, g, h, (keepA ha hn), runT T n, S, U, V, (keepT hT hn T), keepN hn, ty, sv, svm, pd, pdm, runM z (T.2 4 1) (T.2 4 2) n, recP pa z hn, sl, sp, thM z th (T.2 4 1) (T.2 4 2) n, hW, ⟨hrn.1.1, hrn.1.2, by rw [hrn.2.2.2]; exact htn⟩, keep_rel hH hSt, hsv, hU, hV, hty, hpd⟩
  · refine lv_aload_n hx hb dL_law_412 rfl (lv_at hl 2 rfl) ?_
    refine lv_aload_n hx hb dL_law_413 rfl (lv_at hl 3 rfl) ?_
    refine lv_iload_n hx hb dL_law_414 rfl (lv_at hl 0 rfl) ?_
    refine rn_iconst hx hb 1 rfl dL_law_415 ?_
    refine rn_iadd hx hb dL_law_416 ?_
    refine rl_ld (v := (xs (i + 1))) hx hb hX hbl hbA hW.flat.2.2 (j := i + 1) (by omega) hL rfl dL_law_417 ?_
    refine roVg CX hE (va_P_segs (fun _ _ h => hW.hP _ h) [0, 8] rfl) (c_X5_pass_e l G cA x a b T (xs (i + 1)) htk (fun k a1 a2 a3 => Nat.not_le.mp (fun q => hq ⟨k, a1, a2, q, a3⟩))) (cwV 1 hts gL_law_X5_pass rfl rfl rfl hdv_X5_pass ⟨Nat.le_of_ble_eq_true rfl, Nat.le_of_ble_eq_true rfl⟩) (hW.hP 0 rfl) 0 rfl rfl rfl B0_blind (fun _ _ _ => trivial) rfl hl.1 (rest := []) rfl (Nat.le_of_ble_eq_true rfl) dL_law_418 hcs ?_
    refine lv_aload_n hx hb dL_law_421 rfl (lv_at hl 1 rfl) ?_
    refine lv_aload_n hx hb dL_law_422 rfl (lv_at hl 3 rfl) ?_
    refine lv_iload_n hx hb dL_law_423 rfl (lv_at hl 0 rfl) ?_
    refine rn_iconst hx hb 1 rfl dL_law_424 ?_
    refine rn_iadd hx hb dL_law_425 ?_
    refine rl_ld (v := (xs (i + 1))) hx hb hX hbl hbA hW.flat.2.2 (j := i + 1) (by omega) hL rfl dL_law_426 ?_
    refine roVg CX hE ((hW.hP 14 rfl).sub [0, 1] rfl) (c_X6_pass_e l G cA m hn ty z (xs (i + 1)) (T.2 4 0) hR.1.2 htk (fun k a1 a2 a3 => Nat.not_le.mp (fun q => hq ⟨k, a1, a2, q, a3⟩))) (cwV 1 hts gL_law_X6_pass rfl rfl rfl hdv_X6_pass ⟨Nat.le_of_ble_eq_true rfl, Nat.le_of_ble_eq_true rfl⟩) (hW.hP 14 rfl) 0 rfl rfl rfl B0_blind (fun _ _ _ => trivial) rfl hl.1 (rest := [.int (if ¬ inP (xs (i + 1)) (nI 1) (nI 100) then -2 else -4)]) rfl (Nat.le_of_ble_eq_true rfl) dL_law_427 hcs ?_
    refine lv_icmp_eq hx hb dL_law_430 (by decide) (tgt := 923) (fun _ => ?_) (fun c_ => absurd rfl c_)
    exact kk _ _ ⟨a, b, g, h, ha, T, S, U, V, hT, hn, ty, sv, svm, pd, pdm, z, pa, sl, sp, th, hW, hSt, hH, hsv, hU, hV, hty, hpd⟩
