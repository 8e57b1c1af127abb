/-! The law's cases: set, floor, read, clear. -/
theorem in01 (x : Int32) : x = nI 0 ∨ x = nI 1 ∨ ¬ inP x (nI 0) (nI 1) := by
  by_cases h : inP x (nI 0) (nI 1)
  · obtain ⟨k, hk, rfl⟩ := inP_nat (by decide) h
    rcases (show k = 0 ∨ k = 1 by omega) with rfl | rfl
    · exact Or.inl rfl
    · exact Or.inr (Or.inl rfl)
  · exact Or.inr (Or.inr h)
theorem rs01 (sv : Nat → Int32) (x : Int32) : (x = nI 0 ∧ ¬ sv 0 = 0) ∨ (x = nI 1 ∧ ¬ sv 1 = 0) ∨ ∀ i, i < 2 → x = nI i → sv i = 0 := by
  by_cases h0 : x = nI 0 ∧ ¬ sv 0 = 0
  · exact Or.inl h0
  · by_cases h1 : x = nI 1 ∧ ¬ sv 1 = 0
    · exact Or.inr (Or.inl h1)
    · refine Or.inr (Or.inr fun i hi e => ?_)
      rcases (show i = 0 ∨ i = 1 by omega) with rfl | rfl
      · exact Classical.byContradiction (fun q => h0 ⟨e, q⟩)
      · exact Classical.byContradiction (fun q => h1 ⟨e, q⟩)
theorem hdv_X5_set : yX5_set.cls = RX5 ∧ yX5_set.cls ≠ "java/lang/invoke/MethodHandle" ∧ yX5_set.cls ≠ "java/lang/invoke/VarHandle" ∧ (parseMethodDescriptor yX5_set.desc).map (fun d => d.parameters.length) = some 2 := by decide +kernel
theorem hdv_X6_set : yX6_set.cls = RX6 ∧ yX6_set.cls ≠ "java/lang/invoke/MethodHandle" ∧ yX6_set.cls ≠ "java/lang/invoke/VarHandle" ∧ (parseMethodDescriptor yX6_set.desc).map (fun d => d.parameters.length) = some 2 := by decide +kernel
set_option maxHeartbeats 8000000 in
set_option maxRecDepth 100000 in
theorem L_set {p_ : Program} {l : Launch} {e_ : Env} {s_ : State} {m_ : MethodId} {args : Array Value} {below : List Frame} {meth : Method} {c_ : Code} {H : Heap} {locs : List Loc} {cells slots : Nat} {Q : State → Prop} {ls : Array Slot} {G : va_G} {cA : Nat → ClassId} {A_ : Nat → Prop} {x m : Nat → Nat} {bq L i tl_ tm_ q_ v_ : Nat} {xs : Nat → Int32} (CX : CallFix p_ m_ c_ cL_law 4 s_ args wsL_law RL) (hE : EK G cA s_) (hA : ∀ q, s_.heap.size ≤ q → A_ q) (hX : va_X bq L xs s_ s_.heap) (hbl : bq < s_.heap.size) (hbA : ¬ A_ bq) (hiL : i + 6 ≤ L) (hL : L ≤ 3072) (K : KSM tl_ tm_ A_ s_) (BB : BSM q_ v_ A_ s_) (hcs : cells ≤ room_1.cells ∧ slots ≤ room_1.slots) (hl : lv_has ls 4 [(3, .int (nI i)), (2, .ref (m 0)), (1, .ref (x 0)), (0, .ref bq)]) (hI : LInv G cA A_ x m s_.heap H locs) (kk : ∀ (H : Heap) (locs : List Loc), LInv G cA A_ x m s_.heap H locs → W p_ l e_ room_1 s_ m_ args below meth c_ H locs cells slots Q (F0 m_ 923 ls [])) : W p_ l e_ room_1 s_ m_ args below meth c_ H locs cells slots Q (F0 m_ 148 ls []) := by
  obtain ⟨hx, hb, hml, hown, hts⟩ := id CX
  obtain ⟨a, b, g, h, ha, T, S, U, V, hT, hn, ty, sv, svm, pd, pdm, z, pa, sl, sp, th, hW, hSt, hH, hsv, hU, hV, hty, hpd⟩ := hI
  have hR := hSt.1
  have hi := hSt.2.1
  have htk := hSt.2.2
  have hok := hi.1
  have hnd := hok.1.1
  have hnp := hok.2.1
  by_cases hq : okSet (xs (i + 1)) (xs (i + 2))
  · obtain ⟨k, hk, e1⟩ : ∃ k, k < 4 ∧ xs (i + 1) = nI k := by
      obtain ⟨k, hk, e⟩ := inP_nat (by decide) hq.1
      exact ⟨k, by omega, e⟩
    have hv : inP (xs (i + 2)) (leastF (nI k)) (mostF (nI k)) := by rw [← e1]; exact hq.2
    refine lv_aload_n hx hb dL_law_148 rfl (lv_at hl 2 rfl) ?_
    refine lv_aload_n hx hb dL_law_149 rfl (lv_at hl 3 rfl) ?_
    refine lv_iload_n hx hb dL_law_150 rfl (lv_at hl 0 rfl) ?_
    refine rn_iconst hx hb 1 rfl dL_law_151 ?_
    refine rn_iadd hx hb dL_law_152 ?_
    refine rl_ld (v := (nI k)) hx hb hX hbl hbA hW.flat.2.2 (j := i + 1) (by omega) hL e1 dL_law_153 ?_
    refine lv_aload_n hx hb dL_law_154 rfl (lv_at hl 3 rfl) ?_
    refine lv_iload_n hx hb dL_law_155 rfl (lv_at hl 0 rfl) ?_
    refine rn_iconst hx hb 2 rfl dL_law_156 ?_
    refine rn_iadd hx hb dL_law_157 ?_
    refine rl_ld (v := (xs (i + 2))) hx hb hX hbl hbA hW.flat.2.2 (j := i + 2) (by omega) hL rfl dL_law_158 ?_
    refine muiVS (segs' := [[(x 0, .inr (5, [.ref (a 0), .ref (b 0), .ref (x 3), .ref (x 1), .ref (x 2), .ref (x 5)]))], [(x 3, .inr (1, [.ref (x 4), .int (nI (keepN hn))])), (x 4, .inl (cA 3, 6, .inr (.inr (.inr (.inr (stR (keepA ha hn)))))))], tkW cA ((keepA ha hn) 0) ((keepT hT hn T) 0), tkW cA ((keepA ha hn) 1) ((keepT hT hn T) 1), tkW cA ((keepA ha hn) 2) ((keepT hT hn T) 2), tkW cA ((keepA ha hn) 3) ((keepT hT hn T) 3), tkW cA ((keepA ha hn) 4) ((keepT hT hn T) 4), tkW cA ((keepA ha hn) 5) ((keepT hT hn T) 5), tkW cA a (setT T k (xs (i + 2))), tkW cA b S, [(x 1, .inl (cA 3, 2, .inr (.inr (.inr (.inr (sl2 (g 0) (h 0))))))), (x 2, .inl (cA 2, 2, .inl sv))], tkW cA g U, tkW cA h V, [(x 5, .inr (2, [.ref (x 6), .int (nI ty)])), (x 6, .inl (cA 1, 72, .inl pd))], [(m 0, .inr (6, [.ref (m 1), .ref (m 2), .ref (m 3), .ref (m 4), .int (nI hn), .ref (m 5), .ref (m 6), .int (nI ty), .ref (m 7)])), (m 1, .inl (cA 0, 345, .inl z)), (m 2, .inl (cA 0, 2070, .inl pa)), (m 3, .inl (cA 0, 690, .inl sl)), (m 4, .inl (cA 2, 2, .inl svm)), (m 5, .inl (cA 0, 345, .inl sp)), (m 6, .inl (cA 1, 72, .inl pdm)), (m 7, .inl (cA 0, 60, .inl th))]]) CX hE hW hA (c_X5_set_k l G cA tl_ tm_ x a b T hn ha hT k (xs (i + 2)) hH.1 hok hk hv) (cwV 2 hts gL_law_X5_set rfl rfl rfl hdv_X5_set ⟨Nat.le_of_ble_eq_true rfl, Nat.le_of_ble_eq_true rfl⟩) [0, 1, 2, 3, 4, 5, 6, 7, 8] (by decide) rfl rfl rfl (hW.hP 0 rfl) 0 rfl rfl rfl (KSM_blind tl_ tm_) (fun U hU hW2 hq => K.sub hW.flat.2.2 hU hW2 hq) rfl hl.1 (rest := []) rfl (Nat.le_of_ble_eq_true rfl) dL_law_159 hcs (fun H locs hW => ?_)
    refine lv_aload_n hx hb dL_law_162 rfl (lv_at hl 1 rfl) ?_
    refine lv_aload_n hx hb dL_law_163 rfl (lv_at hl 3 rfl) ?_
    refine lv_iload_n hx hb dL_law_164 rfl (lv_at hl 0 rfl) ?_
    refine rn_iconst hx hb 1 rfl dL_law_165 ?_
    refine rn_iadd hx hb dL_law_166 ?_
    refine rl_ld (v := (nI k)) hx hb hX hbl hbA hW.flat.2.2 (j := i + 1) (by omega) hL e1 dL_law_167 ?_
    refine lv_aload_n hx hb dL_law_168 rfl (lv_at hl 3 rfl) ?_
    refine lv_iload_n hx hb dL_law_169 rfl (lv_at hl 0 rfl) ?_
    refine rn_iconst hx hb 2 rfl dL_law_170 ?_
    refine rn_iadd hx hb dL_law_171 ?_
    refine rl_ld (v := (xs (i + 2))) hx hb hX hbl hbA hW.flat.2.2 (j := i + 2) (by omega) hL rfl dL_law_172 ?_
    refine muiVP (w' := [(m 0, .inr (6, [.ref (m 1), .ref (m 2), .ref (m 3), .ref (m 4), .int (nI (rec1 hn + 1)), .ref (m 5), .ref (m 6), .int (nI ty), .ref (m 7)])), (m 1, .inl (cA 0, 345, .inl (upd z k (xs (i + 2))))), (m 2, .inl (cA 0, 2070, .inl (recP pa z hn))), (m 3, .inl (cA 0, 690, .inl sl)), (m 4, .inl (cA 2, 2, .inl svm)), (m 5, .inl (cA 0, 345, .inl sp)), (m 6, .inl (cA 1, 72, .inl pdm)), (m 7, .inl (cA 0, 60, .inl th))]) (segs' := [[(x 0, .inr (5, [.ref (a 0), .ref (b 0), .ref (x 3), .ref (x 1), .ref (x 2), .ref (x 5)]))], [(x 3, .inr (1, [.ref (x 4), .int (nI (keepN hn))])), (x 4, .inl (cA 3, 6, .inr (.inr (.inr (.inr (stR (keepA ha hn)))))))], tkW cA ((keepA ha hn) 0) ((keepT hT hn T) 0), tkW cA ((keepA ha hn) 1) ((keepT hT hn T) 1), tkW cA ((keepA ha hn) 2) ((keepT hT hn T) 2), tkW cA ((keepA ha hn) 3) ((keepT hT hn T) 3), tkW cA ((keepA ha hn) 4) ((keepT hT hn T) 4), tkW cA ((keepA ha hn) 5) ((keepT hT hn T) 5), tkW cA a (setT T k (xs (i + 2))), tkW cA b S, [(x 1, .inl (cA 3, 2, .inr (.inr (.inr (.inr (sl2 (g 0) (h 0))))))), (x 2, .inl (cA 2, 2, .inl sv))], tkW cA g U, tkW cA h V, [(x 5, .inr (2, [.ref (x 6), .int (nI ty)])), (x 6, .inl (cA 1, 72, .inl pd))], [(m 0, .inr (6, [.ref (m 1), .ref (m 2), .ref (m 3), .ref (m 4), .int (nI (rec1 hn + 1)), .ref (m 5), .ref (m 6), .int (nI ty), .ref (m 7)])), (m 1, .inl (cA 0, 345, .inl (upd z k (xs (i + 2))))), (m 2, .inl (cA 0, 2070, .inl (recP pa z hn))), (m 3, .inl (cA 0, 690, .inl sl)), (m 4, .inl (cA 2, 2, .inl svm)), (m 5, .inl (cA 0, 345, .inl sp)), (m 6, .inl (cA 1, 72, .inl pdm)), (m 7, .inl (cA 0, 60, .inl th))]]) CX hE hW hA (c_X6_set_k l G cA m hn ty z pa k (xs (i + 2)) hH.1 hk hv) (cwV 2 hts gL_law_X6_set rfl rfl rfl hdv_X6_set ⟨Nat.le_of_ble_eq_true rfl, Nat.le_of_ble_eq_true rfl⟩) 14 rfl [0, 1, 2] (by decide) rfl rfl rfl rfl 0 rfl rfl rfl BM0_blind (fun _ _ _ _ => trivial) rfl hl.1 (rest := [.int (T.1 0 k)]) rfl (Nat.le_of_ble_eq_true rfl) dL_law_173 hcs (fun H locs hW => ?_)
    refine lv_icmp_eq hx hb dL_law_176 (by decide) (tgt := 923) (fun _ => ?_) (fun c_ => absurd ((hR.1.1 k hk).symm) c_)
    rw [keep_rec hH.1] at hW
    exact kk _ _ ⟨a, b, g, h, (keepA ha hn), setT T k (xs (i + 2)), S, U, V, (keepT hT hn T), keepN hn, ty, sv, svm, pd, pdm, upd z k (xs (i + 2)), recP pa z hn, sl, sp, th, hW, ⟨(set_rel hR hi hk hv).1, (set_rel hR hi hk hv).2, htk⟩, keep_rel hH hSt, hsv, hU, hV, hty, hpd⟩
  · refine lv_aload_n hx hb dL_law_148 rfl (lv_at hl 2 rfl) ?_
    refine lv_aload_n hx hb dL_law_149 rfl (lv_at hl 3 rfl) ?_
    refine lv_iload_n hx hb dL_law_150 rfl (lv_at hl 0 rfl) ?_
    refine rn_iconst hx hb 1 rfl dL_law_151 ?_
    refine rn_iadd hx hb dL_law_152 ?_
    refine rl_ld (v := (xs (i + 1))) hx hb hX hbl hbA hW.flat.2.2 (j := i + 1) (by omega) hL rfl dL_law_153 ?_
    refine lv_aload_n hx hb dL_law_154 rfl (lv_at hl 3 rfl) ?_
    refine lv_iload_n hx hb dL_law_155 rfl (lv_at hl 0 rfl) ?_
    refine rn_iconst hx hb 2 rfl dL_law_156 ?_
    refine rn_iadd hx hb dL_law_157 ?_
    refine rl_ld (v := (xs (i + 2))) hx hb hX hbl hbA hW.flat.2.2 (j := i + 2) (by omega) hL rfl dL_law_158 ?_
    refine roVg CX hE (va_P_segs (fun _ _ h => hW.hP _ h) [0] rfl) (c_X5_set_e l G cA tl_ tm_ x a b (xs (i + 1)) (xs (i + 2)) hq) (cwV 2 hts gL_law_X5_set rfl rfl rfl hdv_X5_set ⟨Nat.le_of_ble_eq_true rfl, Nat.le_of_ble_eq_true rfl⟩) (hW.hP 0 rfl) 0 rfl rfl rfl (fun U g mk a h => KSM_blind tl_ tm_ AF U g mk a h) (fun U hU hW2 => K.sub (A' := AF) hW.flat.2.2 hU hW2 (fun _ z_ => z_.elim)) rfl hl.1 (rest := []) rfl (Nat.le_of_ble_eq_true rfl) dL_law_159 hcs ?_
    refine lv_aload_n hx hb dL_law_162 rfl (lv_at hl 1 rfl) ?_
    refine lv_aload_n hx hb dL_law_163 rfl (lv_at hl 3 rfl) ?_
    refine lv_iload_n hx hb dL_law_164 rfl (lv_at hl 0 rfl) ?_
    refine rn_iconst hx hb 1 rfl dL_law_165 ?_
    refine rn_iadd hx hb dL_law_166 ?_
    refine rl_ld (v := (xs (i + 1))) hx hb hX hbl hbA hW.flat.2.2 (j := i + 1) (by omega) hL rfl dL_law_167 ?_
    refine lv_aload_n hx hb dL_law_168 rfl (lv_at hl 3 rfl) ?_
    refine lv_iload_n hx hb dL_law_169 rfl (lv_at hl 0 rfl) ?_
    refine rn_iconst hx hb 2 rfl dL_law_170 ?_
    refine rn_iadd hx hb dL_law_171 ?_
    refine rl_ld (v := (xs (i + 2))) hx hb hX hbl hbA hW.flat.2.2 (j := i + 2) (by omega) hL rfl dL_law_172 ?_
    refine roVg CX hE ((hW.hP 14 rfl).sub [0, 1] rfl) (c_X6_set_e l G cA m hn ty z (xs (i + 1)) (xs (i + 2)) hq) (cwV 2 hts gL_law_X6_set rfl rfl rfl hdv_X6_set ⟨Nat.le_of_ble_eq_true rfl, Nat.le_of_ble_eq_true rfl⟩) (hW.hP 14 rfl) 0 rfl rfl rfl B0_blind (fun _ _ _ => trivial) rfl hl.1 (rest := [.int (-2)]) rfl (Nat.le_of_ble_eq_true rfl) dL_law_173 hcs ?_
    refine lv_icmp_eq hx hb dL_law_176 (by decide) (tgt := 923) (fun _ => ?_) (fun c_ => absurd rfl c_)
    exact kk _ _ ⟨a, b, g, h, ha, T, S, U, V, hT, hn, ty, sv, svm, pd, pdm, z, pa, sl, sp, th, hW, hSt, hH, hsv, hU, hV, hty, hpd⟩
theorem hdv_X5_floor : yX5_floor.cls = RX5 ∧ yX5_floor.cls ≠ "java/lang/invoke/MethodHandle" ∧ yX5_floor.cls ≠ "java/lang/invoke/VarHandle" ∧ (parseMethodDescriptor yX5_floor.desc).map (fun d => d.parameters.length) = some 3 := by decide +kernel
theorem hdv_X6_floor : yX6_floor.cls = RX6 ∧ yX6_floor.cls ≠ "java/lang/invoke/MethodHandle" ∧ yX6_floor.cls ≠ "java/lang/invoke/VarHandle" ∧ (parseMethodDescriptor yX6_floor.desc).map (fun d => d.parameters.length) = some 3 := by decide +kernel
set_option maxHeartbeats 8000000 in
set_option maxRecDepth 100000 in
theorem L_floor {p_ : Program} {l : Launch} {e_ : Env} {s_ : State} {m_ : MethodId} {args : Array Value} {below : List Frame} {meth : Method} {c_ : Code} {H : Heap} {locs : List Loc} {cells slots : Nat} {Q : State → Prop} {ls : Array Slot} {G : va_G} {cA : Nat → ClassId} {A_ : Nat → Prop} {x m : Nat → Nat} {bq L i tl_ tm_ q_ v_ : Nat} {xs : Nat → Int32} (CX : CallFix p_ m_ c_ cL_law 4 s_ args wsL_law RL) (hE : EK G cA s_) (hA : ∀ q, s_.heap.size ≤ q → A_ q) (hX : va_X bq L xs s_ s_.heap) (hbl : bq < s_.heap.size) (hbA : ¬ A_ bq) (hiL : i + 6 ≤ L) (hL : L ≤ 3072) (K : KSM tl_ tm_ A_ s_) (BB : BSM q_ v_ A_ s_) (hcs : cells ≤ room_1.cells ∧ slots ≤ room_1.slots) (hl : lv_has ls 4 [(3, .int (nI i)), (2, .ref (m 0)), (1, .ref (x 0)), (0, .ref bq)]) (hI : LInv G cA A_ x m s_.heap H locs) (kk : ∀ (H : Heap) (locs : List Loc), LInv G cA A_ x m s_.heap H locs → W p_ l e_ room_1 s_ m_ args below meth c_ H locs cells slots Q (F0 m_ 923 ls [])) : W p_ l e_ room_1 s_ m_ args below meth c_ H locs cells slots Q (F0 m_ 181 ls []) := by
  obtain ⟨hx, hb, hml, hown, hts⟩ := id CX
  obtain ⟨a, b, g, h, ha, T, S, U, V, hT, hn, ty, sv, svm, pd, pdm, z, pa, sl, sp, th, hW, hSt, hH, hsv, hU, hV, hty, hpd⟩ := hI
  have hR := hSt.1
  have hi := hSt.2.1
  have htk := hSt.2.2
  have hok := hi.1
  have hnd := hok.1.1
  have hnp := hok.2.1
  by_cases hq : ∃ kx ky, kx < 10 ∧ ky < 6 ∧ xs (i + 1) = nI kx ∧ xs (i + 2) = nI ky ∧ inP (xs (i + 3)) (nI 0) (nI 3) ∧ ¬ (xs (i + 3) = nI 2 ∧ ¬ lastF (T.2 0) (ky * 10 + kx) (T.2 4 1) = -6)
  · obtain ⟨kx, ky, hkx, hky, e1, e2, hf, hno⟩ := hq
    have hc : ky * 10 + kx < 60 := by omega
    have hdk : ∀ k, k < T.2 4 1 → T.2 0 k < 60 := fun k q => (hok.1.2 k q).1
    have hdl := din_last hR.2.2.1 hc hdk _ (Nat.le_refl _)
    refine lv_aload_n hx hb dL_law_181 rfl (lv_at hl 2 rfl) ?_
    refine lv_aload_n hx hb dL_law_182 rfl (lv_at hl 3 rfl) ?_
    refine lv_iload_n hx hb dL_law_183 rfl (lv_at hl 0 rfl) ?_
    refine rn_iconst hx hb 1 rfl dL_law_184 ?_
    refine rn_iadd hx hb dL_law_185 ?_
    refine rl_ld (v := (nI kx)) hx hb hX hbl hbA hW.flat.2.2 (j := i + 1) (by omega) hL e1 dL_law_186 ?_
    refine lv_aload_n hx hb dL_law_187 rfl (lv_at hl 3 rfl) ?_
    refine lv_iload_n hx hb dL_law_188 rfl (lv_at hl 0 rfl) ?_
    refine rn_iconst hx hb 2 rfl dL_law_189 ?_
    refine rn_iadd hx hb dL_law_190 ?_
    refine rl_ld (v := (nI ky)) hx hb hX hbl hbA hW.flat.2.2 (j := i + 2) (by omega) hL e2 dL_law_191 ?_
    refine lv_aload_n hx hb dL_law_192 rfl (lv_at hl 3 rfl) ?_
    refine lv_iload_n hx hb dL_law_193 rfl (lv_at hl 0 rfl) ?_
    refine rn_iconst hx hb 3 rfl dL_law_194 ?_
    refine rn_iadd hx hb dL_law_195 ?_
    refine rl_ld (v := (xs (i + 3))) hx hb hX hbl hbA hW.flat.2.2 (j := i + 3) (by omega) hL rfl dL_law_196 ?_
    refine muiVS (segs' := [[(x 0, .inr (5, [.ref (a 0), .ref (b 0), .ref (x 3), .ref (x 1), .ref (x 2), .ref (x 5)]))], [(x 3, .inr (1, [.ref (x 4), .int (nI (keepN hn))])), (x 4, .inl (cA 3, 6, .inr (.inr (.inr (.inr (stR (keepA ha hn)))))))], tkW cA ((keepA ha hn) 0) ((keepT hT hn T) 0), tkW cA ((keepA ha hn) 1) ((keepT hT hn T) 1), tkW cA ((keepA ha hn) 2) ((keepT hT hn T) 2), tkW cA ((keepA ha hn) 3) ((keepT hT hn T) 3), tkW cA ((keepA ha hn) 4) ((keepT hT hn T) 4), tkW cA ((keepA ha hn) 5) ((keepT hT hn T) 5), tkW cA a (layT T (ky * 10 + kx) (xs (i + 3))), tkW cA b S, [(x 1, .inl (cA 3, 2, .inr (.inr (.inr (.inr (sl2 (g 0) (h 0))))))), (x 2, .inl (cA 2, 2, .inl sv))], tkW cA g U, tkW cA h V, [(x 5, .inr (2, [.ref (x 6), .int (nI ty)])), (x 6, .inl (cA 1, 72, .inl pd))], [(m 0, .inr (6, [.ref (m 1), .ref (m 2), .ref (m 3), .ref (m 4), .int (nI hn), .ref (m 5), .ref (m 6), .int (nI ty), .ref (m 7)])), (m 1, .inl (cA 0, 345, .inl z)), (m 2, .inl (cA 0, 2070, .inl pa)), (m 3, .inl (cA 0, 690, .inl sl)), (m 4, .inl (cA 2, 2, .inl svm)), (m 5, .inl (cA 0, 345, .inl sp)), (m 6, .inl (cA 1, 72, .inl pdm)), (m 7, .inl (cA 0, 60, .inl th))]]) CX hE hW hA (c_X5_floor_k l G cA x a b T hn ha hT kx ky (xs (i + 3)) hH.1 hok hkx hky hf hno) (cwV 3 hts gL_law_X5_floor rfl rfl rfl hdv_X5_floor ⟨Nat.le_of_ble_eq_true rfl, Nat.le_of_ble_eq_true rfl⟩) [0, 1, 2, 3, 4, 5, 6, 7, 8] (by decide) rfl rfl rfl (hW.hP 0 rfl) 0 rfl rfl rfl BM0_blind (fun _ _ _ _ => trivial) rfl hl.1 (rest := []) rfl (Nat.le_of_ble_eq_true rfl) dL_law_197 hcs (fun H locs hW => ?_)
    refine lv_aload_n hx hb dL_law_200 rfl (lv_at hl 1 rfl) ?_
    refine lv_aload_n hx hb dL_law_201 rfl (lv_at hl 3 rfl) ?_
    refine lv_iload_n hx hb dL_law_202 rfl (lv_at hl 0 rfl) ?_
    refine rn_iconst hx hb 1 rfl dL_law_203 ?_
    refine rn_iadd hx hb dL_law_204 ?_
    refine rl_ld (v := (nI kx)) hx hb hX hbl hbA hW.flat.2.2 (j := i + 1) (by omega) hL e1 dL_law_205 ?_
    refine lv_aload_n hx hb dL_law_206 rfl (lv_at hl 3 rfl) ?_
    refine lv_iload_n hx hb dL_law_207 rfl (lv_at hl 0 rfl) ?_
    refine rn_iconst hx hb 2 rfl dL_law_208 ?_
    refine rn_iadd hx hb dL_law_209 ?_
    refine rl_ld (v := (nI ky)) hx hb hX hbl hbA hW.flat.2.2 (j := i + 2) (by omega) hL e2 dL_law_210 ?_
    refine lv_aload_n hx hb dL_law_211 rfl (lv_at hl 3 rfl) ?_
    refine lv_iload_n hx hb dL_law_212 rfl (lv_at hl 0 rfl) ?_
    refine rn_iconst hx hb 3 rfl dL_law_213 ?_
    refine rn_iadd hx hb dL_law_214 ?_
    refine rl_ld (v := (xs (i + 3))) hx hb hX hbl hbA hW.flat.2.2 (j := i + 3) (by omega) hL rfl dL_law_215 ?_
    refine muiVP (w' := [(m 0, .inr (6, [.ref (m 1), .ref (m 2), .ref (m 3), .ref (m 4), .int (nI (rec1 hn + 1)), .ref (m 5), .ref (m 6), .int (nI ty), .ref (m 7)])), (m 1, .inl (cA 0, 345, .inl (flM z (ky * 10 + kx) (xs (i + 3))))), (m 2, .inl (cA 0, 2070, .inl (recP pa z hn))), (m 3, .inl (cA 0, 690, .inl sl)), (m 4, .inl (cA 2, 2, .inl svm)), (m 5, .inl (cA 0, 345, .inl sp)), (m 6, .inl (cA 1, 72, .inl pdm)), (m 7, .inl (cA 0, 60, .inl th))]) (segs' := [[(x 0, .inr (5, [.ref (a 0), .ref (b 0), .ref (x 3), .ref (x 1), .ref (x 2), .ref (x 5)]))], [(x 3, .inr (1, [.ref (x 4), .int (nI (keepN hn))])), (x 4, .inl (cA 3, 6, .inr (.inr (.inr (.inr (stR (keepA ha hn)))))))], tkW cA ((keepA ha hn) 0) ((keepT hT hn T) 0), tkW cA ((keepA ha hn) 1) ((keepT hT hn T) 1), tkW cA ((keepA ha hn) 2) ((keepT hT hn T) 2), tkW cA ((keepA ha hn) 3) ((keepT hT hn T) 3), tkW cA ((keepA ha hn) 4) ((keepT hT hn T) 4), tkW cA ((keepA ha hn) 5) ((keepT hT hn T) 5), tkW cA a (layT T (ky * 10 + kx) (xs (i + 3))), tkW cA b S, [(x 1, .inl (cA 3, 2, .inr (.inr (.inr (.inr (sl2 (g 0) (h 0))))))), (x 2, .inl (cA 2, 2, .inl sv))], tkW cA g U, tkW cA h V, [(x 5, .inr (2, [.ref (x 6), .int (nI ty)])), (x 6, .inl (cA 1, 72, .inl pd))], [(m 0, .inr (6, [.ref (m 1), .ref (m 2), .ref (m 3), .ref (m 4), .int (nI (rec1 hn + 1)), .ref (m 5), .ref (m 6), .int (nI ty), .ref (m 7)])), (m 1, .inl (cA 0, 345, .inl (flM z (ky * 10 + kx) (xs (i + 3))))), (m 2, .inl (cA 0, 2070, .inl (recP pa z hn))), (m 3, .inl (cA 0, 690, .inl sl)), (m 4, .inl (cA 2, 2, .inl svm)), (m 5, .inl (cA 0, 345, .inl sp)), (m 6, .inl (cA 1, 72, .inl pdm)), (m 7, .inl (cA 0, 60, .inl th))]]) CX hE hW hA (c_X6_floor_k l G cA m hn ty z pa kx ky (xs (i + 3)) (T.2 4 1) hH.1 hkx hky hf hnd hR.2.2.1.1 (by rw [hdl]; exact hno)) (cwV 3 hts gL_law_X6_floor rfl rfl rfl hdv_X6_floor ⟨Nat.le_of_ble_eq_true rfl, Nat.le_of_ble_eq_true rfl⟩) 14 rfl [0, 1, 2] (by decide) rfl rfl rfl rfl 0 rfl rfl rfl BM0_blind (fun _ _ _ _ => trivial) rfl hl.1 (rest := [.int (T.1 1 (ky * 10 + kx))]) rfl (Nat.le_of_ble_eq_true rfl) dL_law_216 hcs (fun H locs hW => ?_)
    refine lv_icmp_eq hx hb dL_law_219 (by decide) (tgt := 923) (fun _ => ?_) (fun c_ => absurd ((hR.2.1.1 _ hc).symm) c_)
    rw [keep_rec hH.1] at hW
    exact kk _ _ ⟨a, b, g, h, (keepA ha hn), layT T (ky * 10 + kx) (xs (i + 3)), S, U, V, (keepT hT hn T), keepN hn, ty, sv, svm, pd, pdm, flM z (ky * 10 + kx) (xs (i + 3)), recP pa z hn, sl, sp, th, hW, ⟨(lay_rel hR hi hc hno).1, (lay_rel hR hi hc hno).2, htk⟩, keep_rel hH hSt, hsv, hU, hV, hty, hpd⟩
  · have hdk : ∀ k, k < T.2 4 1 → T.2 0 k < 60 := fun k q => (hok.1.2 k q).1
    refine lv_aload_n hx hb dL_law_181 rfl (lv_at hl 2 rfl) ?_
    refine lv_aload_n hx hb dL_law_182 rfl (lv_at hl 3 rfl) ?_
    refine lv_iload_n hx hb dL_law_183 rfl (lv_at hl 0 rfl) ?_
    refine rn_iconst hx hb 1 rfl dL_law_184 ?_
    refine rn_iadd hx hb dL_law_185 ?_
    refine rl_ld (v := (xs (i + 1))) hx hb hX hbl hbA hW.flat.2.2 (j := i + 1) (by omega) hL rfl dL_law_186 ?_
    refine lv_aload_n hx hb dL_law_187 rfl (lv_at hl 3 rfl) ?_
    refine lv_iload_n hx hb dL_law_188 rfl (lv_at hl 0 rfl) ?_
    refine rn_iconst hx hb 2 rfl dL_law_189 ?_
    refine rn_iadd hx hb dL_law_190 ?_
    refine rl_ld (v := (xs (i + 2))) hx hb hX hbl hbA hW.flat.2.2 (j := i + 2) (by omega) hL rfl dL_law_191 ?_
    refine lv_aload_n hx hb dL_law_192 rfl (lv_at hl 3 rfl) ?_
    refine lv_iload_n hx hb dL_law_193 rfl (lv_at hl 0 rfl) ?_
    refine rn_iconst hx hb 3 rfl dL_law_194 ?_
    refine rn_iadd hx hb dL_law_195 ?_
    refine rl_ld (v := (xs (i + 3))) hx hb hX hbl hbA hW.flat.2.2 (j := i + 3) (by omega) hL rfl dL_law_196 ?_
    refine roVg CX hE (va_P_segs (fun _ _ h => hW.hP _ h) [0, 8] rfl) (c_X5_floor_e l G cA x a b T (xs (i + 1)) (xs (i + 2)) (xs (i + 3)) hok (fun i_ j_ a1 a2 a3 a4 a5 => Classical.byContradiction (fun q => hq ⟨i_, j_, a1, a2, a3, a4, a5, q⟩))) (cwV 3 hts gL_law_X5_floor rfl rfl rfl hdv_X5_floor ⟨Nat.le_of_ble_eq_true rfl, Nat.le_of_ble_eq_true rfl⟩) (hW.hP 0 rfl) 0 rfl rfl rfl B0_blind (fun _ _ _ => trivial) rfl hl.1 (rest := []) rfl (Nat.le_of_ble_eq_true rfl) dL_law_197 hcs ?_
    refine lv_aload_n hx hb dL_law_200 rfl (lv_at hl 1 rfl) ?_
    refine lv_aload_n hx hb dL_law_201 rfl (lv_at hl 3 rfl) ?_
    refine lv_iload_n hx hb dL_law_202 rfl (lv_at hl 0 rfl) ?_
    refine rn_iconst hx hb 1 rfl dL_law_203 ?_
    refine rn_iadd hx hb dL_law_204 ?_
    refine rl_ld (v := (xs (i + 1))) hx hb hX hbl hbA hW.flat.2.2 (j := i + 1) (by omega) hL rfl dL_law_205 ?_
    refine lv_aload_n hx hb dL_law_206 rfl (lv_at hl 3 rfl) ?_
    refine lv_iload_n hx hb dL_law_207 rfl (lv_at hl 0 rfl) ?_
    refine rn_iconst hx hb 2 rfl dL_law_208 ?_
    refine rn_iadd hx hb dL_law_209 ?_
    refine rl_ld (v := (xs (i + 2))) hx hb hX hbl hbA hW.flat.2.2 (j := i + 2) (by omega) hL rfl dL_law_210 ?_
    refine lv_aload_n hx hb dL_law_211 rfl (lv_at hl 3 rfl) ?_
    refine lv_iload_n hx hb dL_law_212 rfl (lv_at hl 0 rfl) ?_
    refine rn_iconst hx hb 3 rfl dL_law_213 ?_
    refine rn_iadd hx hb dL_law_214 ?_
    refine rl_ld (v := (xs (i + 3))) hx hb hX hbl hbA hW.flat.2.2 (j := i + 3) (by omega) hL rfl dL_law_215 ?_
    refine roVg CX hE ((hW.hP 14 rfl).sub [0, 1] rfl) (c_X6_floor_e l G cA m hn ty z (xs (i + 1)) (xs (i + 2)) (xs (i + 3)) (T.2 4 1) hnd hR.2.2.1.1 (fun i_ j_ a1 a2 a3 a4 a5 => by rw [din_last hR.2.2.1 (show j_ * 10 + i_ < 60 by omega) hdk _ (Nat.le_refl _)]; exact Classical.byContradiction (fun q => hq ⟨i_, j_, a1, a2, a3, a4, a5, q⟩))) (cwV 3 hts gL_law_X6_floor rfl rfl rfl hdv_X6_floor ⟨Nat.le_of_ble_eq_true rfl, Nat.le_of_ble_eq_true rfl⟩) (hW.hP 14 rfl) 0 rfl rfl rfl B0_blind (fun _ _ _ => trivial) rfl hl.1 (rest := [.int (flE (xs (i + 1)) (xs (i + 2)) (xs (i + 3)))]) rfl (Nat.le_of_ble_eq_true rfl) dL_law_216 hcs ?_
    refine lv_icmp_eq hx hb dL_law_219 (by decide) (tgt := 923) (fun _ => ?_) (fun c_ => absurd rfl c_)
    exact kk _ _ ⟨a, b, g, h, ha, T, S, U, V, hT, hn, ty, sv, svm, pd, pdm, z, pa, sl, sp, th, hW, hSt, hH, hsv, hU, hV, hty, hpd⟩
theorem hdv_X5_read : yX5_read.cls = RX5 ∧ yX5_read.cls ≠ "java/lang/invoke/MethodHandle" ∧ yX5_read.cls ≠ "java/lang/invoke/VarHandle" ∧ (parseMethodDescriptor yX5_read.desc).map (fun d => d.parameters.length) = some 0 := by decide +kernel
theorem hdv_X6_read : yX6_read.cls = RX6 ∧ yX6_read.cls ≠ "java/lang/invoke/MethodHandle" ∧ yX6_read.cls ≠ "java/lang/invoke/VarHandle" ∧ (parseMethodDescriptor yX6_read.desc).map (fun d => d.parameters.length) = some 0 := by decide +kernel
set_option maxHeartbeats 8000000 in
set_option maxRecDepth 100000 in
theorem L_read {p_ : Program} {l : Launch} {e_ : Env} {s_ : State} {m_ : MethodId} {args : Array Value} {below : List Frame} {meth : Method} {c_ : Code} {H : Heap} {locs : List Loc} {cells slots : Nat} {Q : State → Prop} {ls : Array Slot} {G : va_G} {cA : Nat → ClassId} {A_ : Nat → Prop} {x m : Nat → Nat} {bq L i tl_ tm_ q_ v_ : Nat} {xs : Nat → Int32} (CX : CallFix p_ m_ c_ cL_law 4 s_ args wsL_law RL) (hE : EK G cA s_) (hA : ∀ q, s_.heap.size ≤ q → A_ q) (hX : va_X bq L xs s_ s_.heap) (hbl : bq < s_.heap.size) (hbA : ¬ A_ bq) (hiL : i + 6 ≤ L) (hL : L ≤ 3072) (K : KSM tl_ tm_ A_ s_) (BB : BSM q_ v_ A_ s_) (hcs : cells ≤ room_1.cells ∧ slots ≤ room_1.slots) (hl : lv_has ls 4 [(3, .int (nI i)), (2, .ref (m 0)), (1, .ref (x 0)), (0, .ref bq)]) (hI : LInv G cA A_ x m s_.heap H locs) (kk : ∀ (H : Heap) (locs : List Loc), LInv G cA A_ x m s_.heap H locs → W p_ l e_ room_1 s_ m_ args below meth c_ H locs cells slots Q (F0 m_ 923 ls [])) : W p_ l e_ room_1 s_ m_ args below meth c_ H locs cells slots Q (F0 m_ 224 ls []) := by
  obtain ⟨hx, hb, hml, hown, hts⟩ := id CX
  obtain ⟨a, b, g, h, ha, T, S, U, V, hT, hn, ty, sv, svm, pd, pdm, z, pa, sl, sp, th, hW, hSt, hH, hsv, hU, hV, hty, hpd⟩ := hI
  have hR := hSt.1
  have hi := hSt.2.1
  have htk := hSt.2.2
  have hok := hi.1
  have hnd := hok.1.1
  have hnp := hok.2.1
  by_cases hq : badF pd ty = -6
  · have hb2 : badF pdm ty = -6 := by rw [← badF_congr hpd]; exact hq
    obtain ⟨h65, hpo⟩ := pad_good hty hq
    have hrr := read_rel (pd := pd) hR hi hpo
    have hrc : readM z pdm = readM z pd := readM_congr (fun j hj => hpd j (by omega))
    have hop := open_rel hrr.1
    refine lv_aload_n hx hb dL_law_224 rfl (lv_at hl 2 rfl) ?_
    refine muiVS (segs' := [[(x 0, .inr (5, [.ref (a 0), .ref (b 0), .ref (x 3), .ref (x 1), .ref (x 2), .ref (x 5)]))], [(x 3, .inr (1, [.ref (x 4), .int (nI (keepN hn))])), (x 4, .inl (cA 3, 6, .inr (.inr (.inr (.inr (stR (keepA ha hn)))))))], tkW cA ((keepA ha hn) 0) ((keepT hT hn T) 0), tkW cA ((keepA ha hn) 1) ((keepT hT hn T) 1), tkW cA ((keepA ha hn) 2) ((keepT hT hn T) 2), tkW cA ((keepA ha hn) 3) ((keepT hT hn T) 3), tkW cA ((keepA ha hn) 4) ((keepT hT hn T) 4), tkW cA ((keepA ha hn) 5) ((keepT hT hn T) 5), tkW cA a (layAllT T pd), tkW cA b S, [(x 1, .inl (cA 3, 2, .inr (.inr (.inr (.inr (sl2 (g 0) (h 0))))))), (x 2, .inl (cA 2, 2, .inl sv))], tkW cA g U, tkW cA h V, [(x 5, .inr (2, [.ref (x 6), .int (nI 0)])), (x 6, .inl (cA 1, 72, .inl pd))], [(m 0, .inr (6, [.ref (m 1), .ref (m 2), .ref (m 3), .ref (m 4), .int (nI hn), .ref (m 5), .ref (m 6), .int (nI ty), .ref (m 7)])), (m 1, .inl (cA 0, 345, .inl z)), (m 2, .inl (cA 0, 2070, .inl pa)), (m 3, .inl (cA 0, 690, .inl sl)), (m 4, .inl (cA 2, 2, .inl svm)), (m 5, .inl (cA 0, 345, .inl sp)), (m 6, .inl (cA 1, 72, .inl pdm)), (m 7, .inl (cA 0, 60, .inl th))]]) CX hE hW hA (c_X5_read_k l G cA q_ v_ x a b T hn ha hT ty pd hH.1 hok hty hq) (cwV 0 hts gL_law_X5_read rfl rfl rfl hdv_X5_read ⟨Nat.le_of_ble_eq_true rfl, Nat.le_of_ble_eq_true rfl⟩) [0, 1, 2, 3, 4, 5, 6, 7, 8, 13] (by decide) rfl rfl rfl (hW.hP 0 rfl) 0 rfl rfl rfl (BSM_blind q_ v_) (fun U hU hW2 hq => BB.sub hW.flat.2.2 hU hW2 hq) rfl hl.1 (rest := []) rfl (Nat.le_of_ble_eq_true rfl) dL_law_225 hcs (fun H locs hW => ?_)
    refine lv_aload_n hx hb dL_law_228 rfl (lv_at hl 1 rfl) ?_
    refine muiVP (w' := [(m 0, .inr (6, [.ref (m 1), .ref (m 2), .ref (m 3), .ref (m 4), .int (nI (rec1 hn + 1)), .ref (m 5), .ref (m 6), .int (nI 0), .ref (m 7)])), (m 1, .inl (cA 0, 345, .inl (readM z pdm))), (m 2, .inl (cA 0, 2070, .inl (recP pa z hn))), (m 3, .inl (cA 0, 690, .inl sl)), (m 4, .inl (cA 2, 2, .inl svm)), (m 5, .inl (cA 0, 345, .inl sp)), (m 6, .inl (cA 1, 72, .inl pdm)), (m 7, .inl (cA 0, 60, .inl th))]) (segs' := [[(x 0, .inr (5, [.ref (a 0), .ref (b 0), .ref (x 3), .ref (x 1), .ref (x 2), .ref (x 5)]))], [(x 3, .inr (1, [.ref (x 4), .int (nI (keepN hn))])), (x 4, .inl (cA 3, 6, .inr (.inr (.inr (.inr (stR (keepA ha hn)))))))], tkW cA ((keepA ha hn) 0) ((keepT hT hn T) 0), tkW cA ((keepA ha hn) 1) ((keepT hT hn T) 1), tkW cA ((keepA ha hn) 2) ((keepT hT hn T) 2), tkW cA ((keepA ha hn) 3) ((keepT hT hn T) 3), tkW cA ((keepA ha hn) 4) ((keepT hT hn T) 4), tkW cA ((keepA ha hn) 5) ((keepT hT hn T) 5), tkW cA a (layAllT T pd), tkW cA b S, [(x 1, .inl (cA 3, 2, .inr (.inr (.inr (.inr (sl2 (g 0) (h 0))))))), (x 2, .inl (cA 2, 2, .inl sv))], tkW cA g U, tkW cA h V, [(x 5, .inr (2, [.ref (x 6), .int (nI 0)])), (x 6, .inl (cA 1, 72, .inl pd))], [(m 0, .inr (6, [.ref (m 1), .ref (m 2), .ref (m 3), .ref (m 4), .int (nI (rec1 hn + 1)), .ref (m 5), .ref (m 6), .int (nI 0), .ref (m 7)])), (m 1, .inl (cA 0, 345, .inl (readM z pdm))), (m 2, .inl (cA 0, 2070, .inl (recP pa z hn))), (m 3, .inl (cA 0, 690, .inl sl)), (m 4, .inl (cA 2, 2, .inl svm)), (m 5, .inl (cA 0, 345, .inl sp)), (m 6, .inl (cA 1, 72, .inl pdm)), (m 7, .inl (cA 0, 60, .inl th))]]) CX hE hW hA (c_X6_read_k l G cA m hn ty z pa pdm hH.1 hty hb2) (cwV 0 hts gL_law_X6_read rfl rfl rfl hdv_X6_read ⟨Nat.le_of_ble_eq_true rfl, Nat.le_of_ble_eq_true rfl⟩) 14 rfl [0, 1, 2, 6] (by decide) rfl rfl rfl rfl 0 rfl rfl rfl BM0_blind (fun _ _ _ _ => trivial) rfl hl.1 (rest := [.int (openF ((layAllT T pd).1 1))]) rfl (Nat.le_of_ble_eq_true rfl) dL_law_229 hcs (fun H locs hW => ?_)
    refine lv_icmp_eq hx hb dL_law_232 (by decide) (tgt := 923) (fun _ => ?_) (fun c_ => absurd (by rw [hrc]; exact hop.symm) c_)
    rw [keep_rec hH.1] at hW
    exact kk _ _ ⟨a, b, g, h, (keepA ha hn), layAllT T pd, S, U, V, (keepT hT hn T), keepN hn, 0, sv, svm, pd, pdm, readM z pdm, recP pa z hn, sl, sp, th, hW, ⟨by rw [hrc]; exact hrr.1, hrr.2, Nat.zero_le _⟩, keep_rel hH hSt, hsv, hU, hV, Nat.zero_le _, fun j hj => absurd hj (Nat.not_lt_zero j)⟩
  · have hb2 : ¬ badF pdm ty = -6 := by rw [← badF_congr hpd]; exact hq
    refine lv_aload_n hx hb dL_law_224 rfl (lv_at hl 2 rfl) ?_
    refine roVg CX hE (va_P_segs (fun _ _ h => hW.hP _ h) [0, 13] rfl) (c_X5_read_e l G cA q_ v_ x a b ty pd hty hq) (cwV 0 hts gL_law_X5_read rfl rfl rfl hdv_X5_read ⟨Nat.le_of_ble_eq_true rfl, Nat.le_of_ble_eq_true rfl⟩) (hW.hP 0 rfl) 0 rfl rfl rfl (BS_blind q_ v_) (fun U hU hW2 => BB.use hW.flat.2.2 hU hW2) rfl hl.1 (rest := []) rfl (Nat.le_of_ble_eq_true rfl) dL_law_225 hcs ?_
    refine lv_aload_n hx hb dL_law_228 rfl (lv_at hl 1 rfl) ?_
    refine roVg CX hE ((hW.hP 14 rfl).sub [0, 6] rfl) (c_X6_read_e l G cA m hn ty pdm hty hb2) (cwV 0 hts gL_law_X6_read rfl rfl rfl hdv_X6_read ⟨Nat.le_of_ble_eq_true rfl, Nat.le_of_ble_eq_true rfl⟩) (hW.hP 14 rfl) 0 rfl rfl rfl B0_blind (fun _ _ _ => trivial) rfl hl.1 (rest := [.int (-3)]) rfl (Nat.le_of_ble_eq_true rfl) dL_law_229 hcs ?_
    refine lv_icmp_eq hx hb dL_law_232 (by decide) (tgt := 923) (fun _ => ?_) (fun c_ => absurd rfl c_)
    exact kk _ _ ⟨a, b, g, h, ha, T, S, U, V, hT, hn, ty, sv, svm, pd, pdm, z, pa, sl, sp, th, hW, hSt, hH, hsv, hU, hV, hty, hpd⟩
theorem hdv_X5_clear : yX5_clear.cls = RX5 ∧ yX5_clear.cls ≠ "java/lang/invoke/MethodHandle" ∧ yX5_clear.cls ≠ "java/lang/invoke/VarHandle" ∧ (parseMethodDescriptor yX5_clear.desc).map (fun d => d.parameters.length) = some 0 := by decide +kernel
theorem hdv_X6_clear : yX6_clear.cls = RX6 ∧ yX6_clear.cls ≠ "java/lang/invoke/MethodHandle" ∧ yX6_clear.cls ≠ "java/lang/invoke/VarHandle" ∧ (parseMethodDescriptor yX6_clear.desc).map (fun d => d.parameters.length) = some 0 := by decide +kernel
set_option maxHeartbeats 8000000 in
set_option maxRecDepth 100000 in
theorem L_clear {p_ : Program} {l : Launch} {e_ : Env} {s_ : State} {m_ : MethodId} {args : Array Value} {below : List Frame} {meth : Method} {c_ : Code} {H : Heap} {locs : List Loc} {cells slots : Nat} {Q : State → Prop} {ls : Array Slot} {G : va_G} {cA : Nat → ClassId} {A_ : Nat → Prop} {x m : Nat → Nat} {bq L i tl_ tm_ q_ v_ : Nat} {xs : Nat → Int32} (CX : CallFix p_ m_ c_ cL_law 4 s_ args wsL_law RL) (hE : EK G cA s_) (hA : ∀ q, s_.heap.size ≤ q → A_ q) (hX : va_X bq L xs s_ s_.heap) (hbl : bq < s_.heap.size) (hbA : ¬ A_ bq) (hiL : i + 6 ≤ L) (hL : L ≤ 3072) (K : KSM tl_ tm_ A_ s_) (BB : BSM q_ v_ A_ s_) (hcs : cells ≤ room_1.cells ∧ slots ≤ room_1.slots) (hl : lv_has ls 4 [(3, .int (nI i)), (2, .ref (m 0)), (1, .ref (x 0)), (0, .ref bq)]) (hI : LInv G cA A_ x m s_.heap H locs) (kk : ∀ (H : Heap) (locs : List Loc), LInv G cA A_ x m s_.heap H locs → W p_ l e_ room_1 s_ m_ args below meth c_ H locs cells slots Q (F0 m_ 923 ls [])) : W p_ l e_ room_1 s_ m_ args below meth c_ H locs cells slots Q (F0 m_ 237 ls []) := by
  obtain ⟨hx, hb, hml, hown, hts⟩ := id CX
  obtain ⟨a, b, g, h, ha, T, S, U, V, hT, hn, ty, sv, svm, pd, pdm, z, pa, sl, sp, th, hW, hSt, hH, hsv, hU, hV, hty, hpd⟩ := hI
  have hR := hSt.1
  have hi := hSt.2.1
  have htk := hSt.2.2
  have hok := hi.1
  have hnd := hok.1.1
  have hnp := hok.2.1
  refine lv_aload_n hx hb dL_law_237 rfl (lv_at hl 2 rfl) ?_
  refine muiVS (segs' := [[(x 0, .inr (5, [.ref (a 0), .ref (b 0), .ref (x 3), .ref (x 1), .ref (x 2), .ref (x 5)]))], [(x 3, .inr (1, [.ref (x 4), .int (nI (keepN hn))])), (x 4, .inl (cA 3, 6, .inr (.inr (.inr (.inr (stR (keepA ha hn)))))))], tkW cA ((keepA ha hn) 0) ((keepT hT hn T) 0), tkW cA ((keepA ha hn) 1) ((keepT hT hn T) 1), tkW cA ((keepA ha hn) 2) ((keepT hT hn T) 2), tkW cA ((keepA ha hn) 3) ((keepT hT hn T) 3), tkW cA ((keepA ha hn) 4) ((keepT hT hn T) 4), tkW cA ((keepA ha hn) 5) ((keepT hT hn T) 5), tkW cA a (calmT T), tkW cA b S, [(x 1, .inl (cA 3, 2, .inr (.inr (.inr (.inr (sl2 (g 0) (h 0))))))), (x 2, .inl (cA 2, 2, .inl sv))], tkW cA g U, tkW cA h V, [(x 5, .inr (2, [.ref (x 6), .int (nI ty)])), (x 6, .inl (cA 1, 72, .inl pd))], [(m 0, .inr (6, [.ref (m 1), .ref (m 2), .ref (m 3), .ref (m 4), .int (nI hn), .ref (m 5), .ref (m 6), .int (nI ty), .ref (m 7)])), (m 1, .inl (cA 0, 345, .inl z)), (m 2, .inl (cA 0, 2070, .inl pa)), (m 3, .inl (cA 0, 690, .inl sl)), (m 4, .inl (cA 2, 2, .inl svm)), (m 5, .inl (cA 0, 345, .inl sp)), (m 6, .inl (cA 1, 72, .inl pdm)), (m 7, .inl (cA 0, 60, .inl th))]]) CX hE hW hA (c_X5_clear l G cA x a b T hn ha hT hH.1 hok) (cwV 0 hts gL_law_X5_clear rfl rfl rfl hdv_X5_clear ⟨Nat.le_of_ble_eq_true rfl, Nat.le_of_ble_eq_true rfl⟩) [0, 1, 2, 3, 4, 5, 6, 7, 8] (by decide) rfl rfl rfl (hW.hP 0 rfl) 0 rfl rfl rfl BM0_blind (fun _ _ _ _ => trivial) rfl hl.1 (rest := []) rfl (Nat.le_of_ble_eq_true rfl) dL_law_238 hcs (fun H locs hW => ?_)
  refine lv_aload_n hx hb dL_law_241 rfl (lv_at hl 1 rfl) ?_
  refine muiVP (w' := [(m 0, .inr (6, [.ref (m 1), .ref (m 2), .ref (m 3), .ref (m 4), .int (nI (rec1 hn + 1)), .ref (m 5), .ref (m 6), .int (nI ty), .ref (m 7)])), (m 1, .inl (cA 0, 345, .inl (clrsM (calmM z) (T.2 4 2)))), (m 2, .inl (cA 0, 2070, .inl (recP pa z hn))), (m 3, .inl (cA 0, 690, .inl sl)), (m 4, .inl (cA 2, 2, .inl svm)), (m 5, .inl (cA 0, 345, .inl sp)), (m 6, .inl (cA 1, 72, .inl pdm)), (m 7, .inl (cA 0, 60, .inl th))]) (segs' := [[(x 0, .inr (5, [.ref (a 0), .ref (b 0), .ref (x 3), .ref (x 1), .ref (x 2), .ref (x 5)]))], [(x 3, .inr (1, [.ref (x 4), .int (nI (keepN hn))])), (x 4, .inl (cA 3, 6, .inr (.inr (.inr (.inr (stR (keepA ha hn)))))))], tkW cA ((keepA ha hn) 0) ((keepT hT hn T) 0), tkW cA ((keepA ha hn) 1) ((keepT hT hn T) 1), tkW cA ((keepA ha hn) 2) ((keepT hT hn T) 2), tkW cA ((keepA ha hn) 3) ((keepT hT hn T) 3), tkW cA ((keepA ha hn) 4) ((keepT hT hn T) 4), tkW cA ((keepA ha hn) 5) ((keepT hT hn T) 5), tkW cA a (calmT T), tkW cA b S, [(x 1, .inl (cA 3, 2, .inr (.inr (.inr (.inr (sl2 (g 0) (h 0))))))), (x 2, .inl (cA 2, 2, .inl sv))], tkW cA g U, tkW cA h V, [(x 5, .inr (2, [.ref (x 6), .int (nI ty)])), (x 6, .inl (cA 1, 72, .inl pd))], [(m 0, .inr (6, [.ref (m 1), .ref (m 2), .ref (m 3), .ref (m 4), .int (nI (rec1 hn + 1)), .ref (m 5), .ref (m 6), .int (nI ty), .ref (m 7)])), (m 1, .inl (cA 0, 345, .inl (clrsM (calmM z) (T.2 4 2)))), (m 2, .inl (cA 0, 2070, .inl (recP pa z hn))), (m 3, .inl (cA 0, 690, .inl sl)), (m 4, .inl (cA 2, 2, .inl svm)), (m 5, .inl (cA 0, 345, .inl sp)), (m 6, .inl (cA 1, 72, .inl pdm)), (m 7, .inl (cA 0, 60, .inl th))]]) CX hE hW hA (c_X6_clear l G cA m hn ty z pa (T.2 4 2) hH.1 hnp hR.2.2.2.1) (cwV 0 hts gL_law_X6_clear rfl rfl rfl hdv_X6_clear ⟨Nat.le_of_ble_eq_true rfl, Nat.le_of_ble_eq_true rfl⟩) 14 rfl [0, 1, 2] (by decide) rfl rfl rfl rfl 0 rfl rfl rfl BM0_blind (fun _ _ _ _ => trivial) rfl hl.1 (rest := [.int (loudF (T.1 2))]) rfl (Nat.le_of_ble_eq_true rfl) dL_law_242 hcs (fun H locs hW => ?_)
  refine lv_icmp_eq hx hb dL_law_245 (by decide) (tgt := 923) (fun _ => ?_) (fun c_ => absurd ((loud_rel hR).symm) c_)
  rw [keep_rec hH.1] at hW
  exact kk _ _ ⟨a, b, g, h, (keepA ha hn), calmT T, S, U, V, (keepT hT hn T), keepN hn, ty, sv, svm, pd, pdm, clrsM (calmM z) (T.2 4 2), recP pa z hn, sl, sp, th, hW, ⟨(clear_rel hR hi).1, (clear_rel hR hi).2, Nat.zero_le _⟩, keep_rel hH hSt, hsv, hU, hV, hty, hpd⟩
