/-! pass. -/
theorem hdv_X5_pass : yX5_pass.cls = RX5 ∧ yX5_pass.cls ≠ "java/lang/invoke/MethodHandle" ∧ yX5_pass.cls ≠ "java/lang/invoke/VarHandle" ∧ (parseMethodDescriptor yX5_pass.desc).map (fun d => d.parameters.length) = some 1 := by decide +kernel
theorem hdn_L_tick : yL_tick.cls ≠ "java/lang/invoke/MethodHandle" ∧ yL_tick.cls ≠ "java/lang/invoke/VarHandle" ∧ (parseMethodDescriptor yL_tick.desc).map (fun d => d.parameters.length) = some 6 := by decide +kernel
set_option maxHeartbeats 16000000 in
set_option maxRecDepth 100000 in
theorem L_pass {p_ : Program} {l : Launch} {e_ : Env} {s_ : State} {m_ : MethodId} {args : Array Value} {below : List Frame} {meth : Method} {c_ : Code} {H : Heap} {locs : List Loc} {cells slots : Nat} {Q : State → Prop} {ls : Array Slot} {G : va_G} {cA : Nat → ClassId} {A_ : Nat → Prop} {x b r : Nat → Nat} {bq L e : Nat} {xs : Nat → Int32} {T : TV} {h : Int32} {i j : Nat} (CX : CallFix p_ m_ c_ cL_law 23 s_ args wsL_law RL) (hE : EK G cA s_) (hA : ∀ q, s_.heap.size ≤ q → A_ q) (hcs : cells + 9 ≤ room_1.cells ∧ slots + 540 ≤ room_1.slots) (he : e < 46) (htk : T.2 4 0 ≤ 9 * e) (hi10 : i < 10) (hj6 : j < 6) (hl : lv_has ls 23 [(18, .int (nI 1)), (17, .int (nI j)), (16, .int (nI i)), (15, .int (nI (j * 10 + i))), (13, .int h), (12, .int (nI e)), (11, .int (whF T)), (10, .int (seF T)), (8, .ref (r 6)), (7, .ref (r 5)), (6, .ref (r 4)), (5, .ref (r 3)), (4, .ref (r 2)), (3, .ref (r 1)), (2, .ref (r 0)), (1, .ref (x 0)), (0, .ref bq)]) (hI : LInv G cA A_ x b r T s_.heap H locs) (kk : ∀ (T' : TV) (cells' slots' : Nat) (H : Heap) (locs : List Loc) (ls : Array Slot), cells' ≤ cells + 9 → slots' ≤ slots + 540 → LInv G cA A_ x b r T' s_.heap H locs → T'.2 4 0 ≤ 9 * (e + 1) → lv_has ls 23 [(18, .int (nI 1)), (12, .int (nI e)), (11, .int (whF T')), (10, .int (seF T')), (8, .ref (r 6)), (7, .ref (r 5)), (6, .ref (r 4)), (5, .ref (r 3)), (4, .ref (r 2)), (3, .ref (r 1)), (2, .ref (r 0)), (1, .ref (x 0)), (0, .ref bq)] → W p_ l e_ room_1 s_ m_ args below meth c_ H locs cells' slots' Q (F0 m_ 1204 ls [])) : W p_ l e_ room_1 s_ m_ args below meth c_ H locs cells slots Q (F0 m_ 1020 ls []) := by
  obtain ⟨hx, hb, hml, hown, hts⟩ := id CX
  obtain ⟨a, ha, hT, hn, ty, pd, hW, hhn, hinv, hfi⟩ := hI
  have hok := hinv.1
  have hdc := hok.1.2
  have hnd := hok.1.1
  have hnp := hok.2.1
  have hc60 : j * 10 + i < 60 := by omega
  refine rn_iconst hx hb 1 rfl dL_law_1020 ?_
  refine lv_iload hx hb dL_law_1021 (lv_at hl 4 rfl) ?_
  refine lv_bipush (v := (nI 10)) hx hb dL_law_1023 kb_10 ?_
  refine lv_ishr hx hb dL_law_1025 ?_
  refine lv_bipush (v := (nI 9)) hx hb dL_law_1026 kb_9 ?_
  refine roS CX hE va_P_nil (c_L_low l G cA (h >>> ((nI 10) &&& 31)) (nI 9) (by decide +kernel)) (va_cwS 2 hts gL_law_L_low rfl rfl rfl hdn_L_low ⟨Nat.le_of_ble_eq_true rfl, Nat.le_of_ble_eq_true rfl⟩) [] rfl B0_blind (fun _ _ _ => trivial) rfl hl.1 (rest := [.int (nI 1)]) rfl (Nat.le_of_ble_eq_true rfl) dL_law_1028 ⟨by omega, by omega⟩ ?_
  obtain ⟨u1, h_u1, e_u1⟩ : ∃ k, k < 9 ∧ (lowF (h >>> ((nI 10) &&& 31)) (nI 9)) = nI k := low_nat _ (by omega) (by omega)
  refine rn_top (nI u1) e_u1 ?_
  refine rn_iadd hx hb dL_law_1031 ?_
  refine lv_istore (lv' := [(19, .int (nI (1 + u1))), (18, .int (nI 1)), (17, .int (nI j)), (16, .int (nI i)), (15, .int (nI (j * 10 + i))), (13, .int h), (12, .int (nI e)), (11, .int (whF T)), (10, .int (seF T)), (8, .ref (r 6)), (7, .ref (r 5)), (6, .ref (r 4)), (5, .ref (r 3)), (4, .ref (r 2)), (3, .ref (r 1)), (2, .ref (r 0)), (1, .ref (x 0)), (0, .ref bq)]) hx hb dL_law_1032 hl (by decide) rfl (fun ls hl => ?_)
  refine rn_iconst hx hb 0 rfl dL_law_1034 ?_
  refine lv_istore (lv' := [(20, .int (nI 0)), (19, .int (nI (1 + u1))), (18, .int (nI 1)), (17, .int (nI j)), (16, .int (nI i)), (15, .int (nI (j * 10 + i))), (13, .int h), (12, .int (nI e)), (11, .int (whF T)), (10, .int (seF T)), (8, .ref (r 6)), (7, .ref (r 5)), (6, .ref (r 4)), (5, .ref (r 3)), (4, .ref (r 2)), (3, .ref (r 1)), (2, .ref (r 0)), (1, .ref (x 0)), (0, .ref bq)]) hx hb dL_law_1035 hl (by decide) rfl (fun ls hl => ?_)
  have LP_1037 : ∀ (nn_ : Nat) (k : Nat) (S : TV), (1 + u1 - k) < nn_ → (k ≤ 1 + u1) → (S = runT T k) → ∀ (H : Heap) (locs : List Loc) (ls : Array Slot), wldS G A_ [[(x 0, .inr (5, [.ref (a 0), .ref (b 0), .ref (x 3), .ref (x 1), .ref (x 2), .ref (x 5)]))], [(x 3, .inr (1, [.ref (x 4), .int (nI hn)])), (x 4, .inl (cA 3, 6, .inr (.inr (.inr (.inr (stR ha))))))], tkW cA (ha 0) (hT 0), tkW cA (ha 1) (hT 1), tkW cA (ha 2) (hT 2), tkW cA (ha 3) (hT 3), tkW cA (ha 4) (hT 4), tkW cA (ha 5) (hT 5), tkW cA a T, [(x 5, .inr (2, [.ref (x 6), .int (nI ty)])), (x 6, .inl (cA 1, 72, .inl pd))], lawW cA r S, [(r 5, .inl (cA 0, 24, .inl (S.1 7)))]] s_.heap H locs → lv_has ls 23 [(0, .ref bq), (1, .ref (x 0)), (2, .ref (r 0)), (3, .ref (r 1)), (4, .ref (r 2)), (5, .ref (r 3)), (6, .ref (r 4)), (7, .ref (r 5)), (8, .ref (r 6)), (10, .int (seF S)), (11, .int (whF T)), (12, .int (nI e)), (19, .int (nI (1 + u1))), (20, .int (nI k))] → W p_ l e_ room_1 s_ m_ args below meth c_ H locs (cells + k) (slots + 60 * k) Q (F0 m_ 1037 ls []) := by
    intro nn_
    induction nn_ with
    | zero => intro k S hmu; exact absurd hmu (Nat.not_lt_zero _)
    | succ nn_ ih =>
      have ih_1037 := ih
      clear ih
      intro k S hmu_1037 hk hS H locs ls hW hl
      refine lv_iload hx hb dL_law_1037 (lv_at hl 13 rfl) ?_
      refine lv_iload hx hb dL_law_1039 (lv_at hl 12 rfl) ?_
      refine rn_icmp_ge hx hb (by omega) (by omega) dL_law_1041 (by decide) (tgt := 1143) (fun c_1041 => ?_) (fun c_1041 => ?_)
      · have hrun := run_all hinv hfi k
        rw [← hS] at hrun
        refine rn_iconst hx hb 0 rfl dL_law_1143 ?_
        refine lv_istore (lv' := [(20, .int (nI 0)), (0, .ref bq), (1, .ref (x 0)), (2, .ref (r 0)), (3, .ref (r 1)), (4, .ref (r 2)), (5, .ref (r 3)), (6, .ref (r 4)), (7, .ref (r 5)), (8, .ref (r 6)), (10, .int (seF S)), (11, .int (whF T)), (12, .int (nI e)), (19, .int (nI (1 + u1)))]) hx hb dL_law_1144 hl (by decide) rfl (fun ls hl => ?_)
        refine rn_iconst hx hb 0 rfl dL_law_1146 ?_
        refine lv_istore (lv' := [(21, .int (nI 0)), (20, .int (nI 0)), (0, .ref bq), (1, .ref (x 0)), (2, .ref (r 0)), (3, .ref (r 1)), (4, .ref (r 2)), (5, .ref (r 3)), (6, .ref (r 4)), (7, .ref (r 5)), (8, .ref (r 6)), (10, .int (seF S)), (11, .int (whF T)), (12, .int (nI e)), (19, .int (nI (1 + u1)))]) hx hb dL_law_1147 hl (by decide) rfl (fun ls hl => ?_)
        have LP_1149 : ∀ (nn_ : Nat) (i3 : Nat) (w_ : Int32), (60 - i3) < nn_ → (i3 ≤ 60) → (w_ = sumI i3 (fun j => if stillP (S.1 0) (S.1 2) (S.1 3) j then nI 0 else nI 1)) → ∀ (H : Heap) (locs : List Loc) (ls : Array Slot), wldS G A_ [[(x 0, .inr (5, [.ref (a 0), .ref (b 0), .ref (x 3), .ref (x 1), .ref (x 2), .ref (x 5)]))], [(x 3, .inr (1, [.ref (x 4), .int (nI hn)])), (x 4, .inl (cA 3, 6, .inr (.inr (.inr (.inr (stR ha))))))], tkW cA (ha 0) (hT 0), tkW cA (ha 1) (hT 1), tkW cA (ha 2) (hT 2), tkW cA (ha 3) (hT 3), tkW cA (ha 4) (hT 4), tkW cA (ha 5) (hT 5), tkW cA a T, [(x 5, .inr (2, [.ref (x 6), .int (nI ty)])), (x 6, .inl (cA 1, 72, .inl pd))], lawW cA r S, [(r 5, .inl (cA 0, 24, .inl (S.1 7)))]] s_.heap H locs → lv_has ls 23 [(0, .ref bq), (1, .ref (x 0)), (2, .ref (r 0)), (3, .ref (r 1)), (4, .ref (r 2)), (5, .ref (r 3)), (6, .ref (r 4)), (7, .ref (r 5)), (8, .ref (r 6)), (10, .int (seF S)), (11, .int (whF T)), (12, .int (nI e)), (19, .int (nI (1 + u1))), (20, .int w_), (21, .int (nI i3))] → W p_ l e_ room_1 s_ m_ args below meth c_ H locs (cells + k) (slots + 60 * k) Q (F0 m_ 1149 ls []) := by
          intro nn_
          induction nn_ with
          | zero => intro i3 w_ hmu; exact absurd hmu (Nat.not_lt_zero _)
          | succ nn_ ih =>
            have ih_1149 := ih
            clear ih
            intro i3 w_ hmu_1149 hi3 hw_ H locs ls hW hl
            refine lv_iload hx hb dL_law_1149 (lv_at hl 14 rfl) ?_
            refine lv_bipush (v := (nI 60)) hx hb dL_law_1151 kb_60 ?_
            refine rn_icmp_ge hx hb (by omega) (by omega) dL_law_1153 (by decide) (tgt := 1186) (fun c_1153 => ?_) (fun c_1153 => ?_)
            · refine lv_aload_n hx hb dL_law_1186 rfl (lv_at hl 1 rfl) ?_
              refine lv_iload hx hb dL_law_1187 (lv_at hl 12 rfl) ?_
              refine muiVS (segs' := [[(x 0, .inr (5, [.ref ((runA a (1 + u1)) 0), .ref (b 0), .ref (x 3), .ref (x 1), .ref (x 2), .ref (x 5)]))], [(x 3, .inr (1, [.ref (x 4), .int (nI (keepN hn))])), (x 4, .inl (cA 3, 6, .inr (.inr (.inr (.inr (stR (keepA ha hn)))))))], tkW cA ((keepA ha hn) 0) ((keepT hT hn T) 0), tkW cA ((keepA ha hn) 1) ((keepT hT hn T) 1), tkW cA ((keepA ha hn) 2) ((keepT hT hn T) 2), tkW cA ((keepA ha hn) 3) ((keepT hT hn T) 3), tkW cA ((keepA ha hn) 4) ((keepT hT hn T) 4), tkW cA ((keepA ha hn) 5) ((keepT hT hn T) 5), tkW cA (runA a (1 + u1)) (runT T (1 + u1)), [(x 5, .inr (2, [.ref (x 6), .int (nI ty)])), (x 6, .inl (cA 1, 72, .inl pd))], lawW cA r S, [(r 5, .inl (cA 0, 24, .inl (S.1 7)))]]) CX hE hW hA (c_X5_pass_k l G cA x a b T hn ha hT (1 + u1) (by omega) (by assumption) (by omega) (by omega) (by omega)) (cwV 1 hts gL_law_X5_pass rfl rfl rfl hdv_X5_pass ⟨Nat.le_of_ble_eq_true rfl, Nat.le_of_ble_eq_true rfl⟩) [0, 1, 2, 3, 4, 5, 6, 7, 8] (by decide) rfl rfl rfl (hW.hP 0 rfl) 0 rfl rfl rfl BM0_blind (fun _ _ _ _ => trivial) rfl hl.1 (rest := []) rfl (Nat.le_of_ble_eq_true rfl) dL_law_1189 ⟨by omega, by omega⟩ (fun H locs hW => ?_)
              refine lv_iload hx hb dL_law_1192 (lv_at hl 13 rfl) ?_
              refine lv_icmp_ne hx hb dL_law_1194 (by decide) (tgt := 1201) (fun c_1194 => ?_) (fun c_1194 => ?_)
              · exact absurd (by have z_ := rest_sum hrun.1 (show i3 = 60 by omega) hw_; rw [hS, show k = 1 + u1 by omega] at z_; exact z_) c_1194
              · refine rn_iconst hx hb 1 rfl dL_law_1197 ?_
                refine lv_goto (tgt := 1202) hx hb dL_law_1198 (by decide) ?_
                refine lv_istore (lv' := [(18, .int (nI 1)), (0, .ref bq), (1, .ref (x 0)), (2, .ref (r 0)), (3, .ref (r 1)), (4, .ref (r 2)), (5, .ref (r 3)), (6, .ref (r 4)), (7, .ref (r 5)), (8, .ref (r 6)), (10, .int (seF S)), (11, .int (whF T)), (12, .int (nI e)), (19, .int (nI (1 + u1))), (20, .int w_), (21, .int (nI i3))]) hx hb dL_law_1202 hl (by decide) rfl (fun ls hl => ?_)
                have eS : S = runT T (1 + u1) := by rw [hS, show k = 1 + u1 by omega]
                subst eS
                have hl : lv_has ls 23 [(18, .int (nI 1)), (0, .ref bq), (1, .ref (x 0)), (2, .ref (r 0)), (3, .ref (r 1)), (4, .ref (r 2)), (5, .ref (r 3)), (6, .ref (r 4)), (7, .ref (r 5)), (8, .ref (r 6)), (10, .int (seF (runT T (1 + u1)))), (11, .int (whF (runT T (1 + u1)))), (12, .int (nI e)), (19, .int (nI (1 + u1))), (20, .int w_), (21, .int (nI i3))] := by have z_ : (whF T) = (whF (runT T (1 + u1))) := (wh_run hinv hfi _).symm; rw [z_] at hl; exact hl
                exact kk (runT T (1 + u1)) _ _ _ _ ls (by omega) (by omega) ⟨runA a (1 + u1), (keepA ha hn), (keepT hT hn T), keepN hn, ty, pd, hW, kn_le, hrun.1, hrun.2.1⟩ (by have z_ := (run_all hinv hfi (1 + u1)).2.2.1; omega) (lv_sub hl [0, 12, 11, 10, 9, 8, 7, 6, 5, 4, 3, 2, 1] rfl)
            · have hi7 : i3 < 60 := c_1153
              have stw := stl_wall hrun.1 hi7
              refine lv_iload hx hb dL_law_1156 (lv_at hl 13 rfl) ?_
              refine lv_aload_n hx hb dL_law_1158 rfl (lv_at hl 2 rfl) ?_
              refine lv_aload_n hx hb dL_law_1159 rfl (lv_at hl 3 rfl) ?_
              refine lv_aload hx hb dL_law_1160 (lv_at hl 4 rfl) ?_
              refine lv_aload hx hb dL_law_1162 (lv_at hl 8 rfl) ?_
              refine lv_iload hx hb dL_law_1164 (lv_at hl 14 rfl) ?_
              refine roSg CX hE ((hW.hP 10 rfl).sub [0, 1, 2, 5] rfl) (c_L_isStill l G cA (r 0) (r 1) (r 2) (r 6) (S.1 1) (S.1 2) (S.1 3) (tF S) i3 (by omega)) (va_cwS 5 hts gL_law_L_isStill rfl rfl rfl hdn_L_isStill ⟨Nat.le_of_ble_eq_true rfl, Nat.le_of_ble_eq_true rfl⟩) B0_blind (fun _ _ _ => trivial) rfl hl.1 (rest := [.int w_]) rfl (Nat.le_of_ble_eq_true rfl) dL_law_1166 ⟨by omega, by omega⟩ ?_
              have J_1177 : ∀ v : Int32, v = (if stillP (S.1 0) (S.1 2) (S.1 3) i3 then nI 0 else nI 1) → W p_ l e_ room_1 s_ m_ args below meth c_ H locs (cells + k) (slots + 60 * k) Q (F0 m_ 1177 ls [.int v, .int w_]) := by
                intro v hv
                subst hv
                refine lv_iadd hx hb dL_law_1177 ?_
                refine lv_istore (lv' := [(20, .int (w_ + (if stillP (S.1 0) (S.1 2) (S.1 3) i3 then nI 0 else nI 1))), (0, .ref bq), (1, .ref (x 0)), (2, .ref (r 0)), (3, .ref (r 1)), (4, .ref (r 2)), (5, .ref (r 3)), (6, .ref (r 4)), (7, .ref (r 5)), (8, .ref (r 6)), (10, .int (seF S)), (11, .int (whF T)), (12, .int (nI e)), (19, .int (nI (1 + u1))), (21, .int (nI i3))]) hx hb dL_law_1178 hl (by decide) rfl (fun ls hl => ?_)
                refine rn_iinc hx hb (n := 1) (lv' := [(21, .int (nI (i3 + 1))), (20, .int (w_ + (if stillP (S.1 0) (S.1 2) (S.1 3) i3 then nI 0 else nI 1))), (0, .ref bq), (1, .ref (x 0)), (2, .ref (r 0)), (3, .ref (r 1)), (4, .ref (r 2)), (5, .ref (r 3)), (6, .ref (r 4)), (7, .ref (r 5)), (8, .ref (r 6)), (10, .int (seF S)), (11, .int (whF T)), (12, .int (nI e)), (19, .int (nI (1 + u1)))]) rfl dL_law_1180 hl (k := 14) rfl (by decide) rfl (fun ls hl => ?_)
                refine lv_goto (tgt := 1149) hx hb dL_law_1183 (by decide) ?_
                exact ih_1149 (i3 + 1) (w_ + (if stillP (S.1 0) (S.1 2) (S.1 3) i3 then nI 0 else nI 1)) (by omega) (by omega) (by rw [hw_]; rfl) _ _ ls hW (lv_sub hl [2, 3, 4, 5, 6, 7, 8, 9, 10, 11, 12, 13, 14, 1, 0] rfl)
              refine rb_if_eq hx hb dL_law_1169 (by decide) (tgt := 1176) (fun c_1169 => ?_) (fun c_1169 => ?_)
              · refine rn_iconst hx hb 1 rfl dL_law_1176 ?_
                exact J_1177 _ (by first | exact (if_neg (fun z => c_1169 (stw.mpr z))).symm | exact (if_pos (stw.mp c_1169)).symm)
              · refine rn_iconst hx hb 0 rfl dL_law_1172 ?_
                refine lv_goto (tgt := 1177) hx hb dL_law_1173 (by decide) ?_
                exact J_1177 _ (by first | exact (if_neg (fun z => c_1169 (stw.mpr z))).symm | exact (if_pos (stw.mp c_1169)).symm)
        exact LP_1149 _ 0 (nI 0) (Nat.lt_succ_self _) (by omega) rfl _ _ ls hW (lv_sub hl [2, 3, 4, 5, 6, 7, 8, 9, 10, 11, 12, 13, 14, 1, 0] rfl)
      · have hrun := run_all hinv hfi k
        rw [← hS] at hrun
        have htkS : S.2 4 0 ≤ 100000 := by have z_ := hrun.2.2.1; omega
        have hwhS : whF T = whF S := by rw [hS]; exact (wh_run hinv hfi k).symm
        refine lv_aload_n hx hb dL_law_1044 rfl (lv_at hl 2 rfl) ?_
        refine lv_aload_n hx hb dL_law_1045 rfl (lv_at hl 3 rfl) ?_
        refine lv_aload hx hb dL_law_1046 (lv_at hl 4 rfl) ?_
        refine lv_aload hx hb dL_law_1048 (lv_at hl 5 rfl) ?_
        refine lv_aload hx hb dL_law_1050 (lv_at hl 6 rfl) ?_
        refine lv_aload hx hb dL_law_1052 (lv_at hl 8 rfl) ?_
        refine mgSP (w := lawW cA r S) (w1 := lawW cA r (stepT S)) (segs' := [[(x 0, .inr (5, [.ref (a 0), .ref (b 0), .ref (x 3), .ref (x 1), .ref (x 2), .ref (x 5)]))], [(x 3, .inr (1, [.ref (x 4), .int (nI hn)])), (x 4, .inl (cA 3, 6, .inr (.inr (.inr (.inr (stR ha))))))], tkW cA (ha 0) (hT 0), tkW cA (ha 1) (hT 1), tkW cA (ha 2) (hT 2), tkW cA (ha 3) (hT 3), tkW cA (ha 4) (hT 4), tkW cA (ha 5) (hT 5), tkW cA a T, [(x 5, .inr (2, [.ref (x 6), .int (nI ty)])), (x 6, .inl (cA 1, 72, .inl pd))], lawW cA r (stepT S), [(r 5, .inl (cA 0, 24, .inl (S.1 7)))]]) CX hE hW hA (c_L_tick l G cA r S hrun.1 hrun.2.1 htkS) (va_cwS 6 hts gL_law_L_tick rfl rfl rfl hdn_L_tick ⟨Nat.le_of_ble_eq_true rfl, Nat.le_of_ble_eq_true rfl⟩) 10 rfl rfl rfl rfl rfl hl.1 (rest := []) rfl (Nat.le_of_ble_eq_true rfl) dL_law_1054 ⟨by omega, by omega⟩ (fun H locs hW => ?_)
        rcases Nat.eq_zero_or_pos (S.2 4 2) with hp | hp
        · have hl : lv_has ls 23 [(0, .ref bq), (1, .ref (x 0)), (2, .ref (r 0)), (3, .ref (r 1)), (4, .ref (r 2)), (5, .ref (r 3)), (6, .ref (r 4)), (7, .ref (r 5)), (8, .ref (r 6)), (10, .int (-1)), (11, .int (whF T)), (12, .int (nI e)), (19, .int (nI (1 + u1))), (20, .int (nI k))] := by have z_ : (seF S) = (-1) := se_no hp; rw [z_] at hl; exact hl
          refine lv_bipush (v := (nI 23)) hx hb dL_law_1057 kb_23 ?_
          refine lv_istore (lv' := [(21, .int (nI 23)), (0, .ref bq), (1, .ref (x 0)), (2, .ref (r 0)), (3, .ref (r 1)), (4, .ref (r 2)), (5, .ref (r 3)), (6, .ref (r 4)), (7, .ref (r 5)), (8, .ref (r 6)), (10, .int (-1)), (11, .int (whF T)), (12, .int (nI e)), (19, .int (nI (1 + u1))), (20, .int (nI k))]) hx hb dL_law_1059 hl (by decide) rfl (fun ls hl => ?_)
          refine lv_iload hx hb dL_law_1061 (lv_at hl 0 rfl) ?_
          refine rn_if_le hx hb (by omega) dL_law_1063 (by decide) (tgt := 1089) (fun c_1063 => ?_) (fun c_1063 => ?_)
          · exact absurd c_1063 (by omega)
          · refine lv_iload hx hb dL_law_1066 (lv_at hl 10 rfl) ?_
            refine lv_if_lt hx hb dL_law_1068 (by decide) (tgt := 1089) (fun c_1068 => ?_) (fun c_1068 => ?_)
            · refine lv_aload hx hb dL_law_1089 (lv_at hl 8 rfl) ?_
              refine rn_iconst hx hb 0 rfl dL_law_1091 ?_
              refine lv_iload hx hb dL_law_1092 (lv_at hl 10 rfl) ?_
              refine lv_if_lt hx hb dL_law_1094 (by decide) (tgt := 1104) (fun c_1094 => ?_) (fun c_1094 => ?_)
              · refine lv_aload hx hb dL_law_1104 (lv_at hl 8 rfl) ?_
                refine rn_iconst hx hb 0 rfl dL_law_1106 ?_
                refine rn_iald CX hE (hW.hP 11 rfl) 0 rfl (j := 0) (by omega) (ltb rfl) dL_law_1107 ?_
                refine rn_iastS (w' := [(r 5, .inl (cA 0, 24, .inl (upd (S.1 7) 0 ((S.1 7) 0))))]) (segs' := [[(x 0, .inr (5, [.ref (a 0), .ref (b 0), .ref (x 3), .ref (x 1), .ref (x 2), .ref (x 5)]))], [(x 3, .inr (1, [.ref (x 4), .int (nI hn)])), (x 4, .inl (cA 3, 6, .inr (.inr (.inr (.inr (stR ha))))))], tkW cA (ha 0) (hT 0), tkW cA (ha 1) (hT 1), tkW cA (ha 2) (hT 2), tkW cA (ha 3) (hT 3), tkW cA (ha 4) (hT 4), tkW cA (ha 5) (hT 5), tkW cA a T, [(x 5, .inr (2, [.ref (x 6), .int (nI ty)])), (x 6, .inl (cA 1, 72, .inl pd))], lawW cA r (stepT S), [(r 5, .inl (cA 0, 24, .inl (upd (S.1 7) 0 ((S.1 7) 0))))]]) CX hE hW 11 rfl 0 rfl (j := 0) (by omega) (ltb rfl) rfl rfl dL_law_1108 (fun H locs hW => ?_)
                refine lv_iload hx hb dL_law_1109 (lv_at hl 10 rfl) ?_
                refine lv_if_ge hx hb dL_law_1111 (by decide) (tgt := 1119) (fun c_1111 => ?_) (fun c_1111 => ?_)
                · exact absurd c_1111 (by decide +kernel)
                · refine lv_iload hx hb dL_law_1114 (lv_at hl 10 rfl) ?_
                  refine lv_goto (tgt := 1135) hx hb dL_law_1116 (by decide) ?_
                  refine lv_istore (lv' := [(10, .int (-1)), (21, .int (nI 23)), (0, .ref bq), (1, .ref (x 0)), (2, .ref (r 0)), (3, .ref (r 1)), (4, .ref (r 2)), (5, .ref (r 3)), (6, .ref (r 4)), (7, .ref (r 5)), (8, .ref (r 6)), (11, .int (whF T)), (12, .int (nI e)), (19, .int (nI (1 + u1))), (20, .int (nI k))]) hx hb dL_law_1135 hl (by decide) rfl (fun ls hl => ?_)
                  have hW := wldS.ext hW (w' := [(r 5, .inl (cA 0, 24, .inl ((stepT S).1 7)))]) (segs' := [[(x 0, .inr (5, [.ref (a 0), .ref (b 0), .ref (x 3), .ref (x 1), .ref (x 2), .ref (x 5)]))], [(x 3, .inr (1, [.ref (x 4), .int (nI hn)])), (x 4, .inl (cA 3, 6, .inr (.inr (.inr (.inr (stR ha))))))], tkW cA (ha 0) (hT 0), tkW cA (ha 1) (hT 1), tkW cA (ha 2) (hT 2), tkW cA (ha 3) (hT 3), tkW cA (ha 4) (hT 4), tkW cA (ha 5) (hT 5), tkW cA a T, [(x 5, .inr (2, [.ref (x 6), .int (nI ty)])), (x 6, .inl (cA 1, 72, .inl pd))], lawW cA r (stepT S), [(r 5, .inl (cA 0, 24, .inl ((stepT S).1 7)))]]) 11 rfl 0 (g := (stepT S).1 7) rfl (q_no hp rfl) rfl rfl
                  have hl : lv_has ls 23 [(10, .int (seF (stepT S))), (21, .int (nI 23)), (0, .ref bq), (1, .ref (x 0)), (2, .ref (r 0)), (3, .ref (r 1)), (4, .ref (r 2)), (5, .ref (r 3)), (6, .ref (r 4)), (7, .ref (r 5)), (8, .ref (r 6)), (11, .int (whF T)), (12, .int (nI e)), (19, .int (nI (1 + u1))), (20, .int (nI k))] := by have z_ : (-1) = (seF (stepT S)) := se_step0 hp; rw [z_] at hl; exact hl
                  refine rn_iinc hx hb (n := 1) (lv' := [(20, .int (nI (k + 1))), (10, .int (seF (stepT S))), (21, .int (nI 23)), (0, .ref bq), (1, .ref (x 0)), (2, .ref (r 0)), (3, .ref (r 1)), (4, .ref (r 2)), (5, .ref (r 3)), (6, .ref (r 4)), (7, .ref (r 5)), (8, .ref (r 6)), (11, .int (whF T)), (12, .int (nI e)), (19, .int (nI (1 + u1)))]) rfl dL_law_1137 hl (k := 14) rfl (by decide) rfl (fun ls hl => ?_)
                  refine lv_goto (tgt := 1037) hx hb dL_law_1140 (by decide) ?_
                  refine W.widen (k := cells + (k + 1)) (n := slots + 60 * (k + 1)) (by omega) (by omega) ?_
                  exact ih_1037 (k + 1) (stepT S) (by omega) (by omega) (by rw [hS]; rfl) _ _ ls hW (lv_sub hl [3, 4, 5, 6, 7, 8, 9, 10, 11, 1, 12, 13, 14, 0] rfl)
              · exact absurd (by decide +kernel) c_1094
            · exact absurd (by decide +kernel) c_1068
        · have hpS := hrun.1.1.2.2 0 hp
          have hl : lv_has ls 23 [(0, .ref bq), (1, .ref (x 0)), (2, .ref (r 0)), (3, .ref (r 1)), (4, .ref (r 2)), (5, .ref (r 3)), (6, .ref (r 4)), (7, .ref (r 5)), (8, .ref (r 6)), (10, .int (nI (S.2 3 0))), (11, .int (whF T)), (12, .int (nI e)), (19, .int (nI (1 + u1))), (20, .int (nI k))] := by have z_ : (seF S) = (nI (S.2 3 0)) := se_at hp; rw [z_] at hl; exact hl
          have hl : lv_has ls 23 [(0, .ref bq), (1, .ref (x 0)), (2, .ref (r 0)), (3, .ref (r 1)), (4, .ref (r 2)), (5, .ref (r 3)), (6, .ref (r 4)), (7, .ref (r 5)), (8, .ref (r 6)), (10, .int (nI (S.2 3 0))), (11, .int (nI (S.2 2 0))), (12, .int (nI e)), (19, .int (nI (1 + u1))), (20, .int (nI k))] := by have z_ : (whF T) = (nI (S.2 2 0)) := hwhS.trans (wh_at hp); rw [z_] at hl; exact hl
          refine lv_bipush (v := (nI 23)) hx hb dL_law_1057 kb_23 ?_
          refine lv_istore (lv' := [(21, .int (nI 23)), (0, .ref bq), (1, .ref (x 0)), (2, .ref (r 0)), (3, .ref (r 1)), (4, .ref (r 2)), (5, .ref (r 3)), (6, .ref (r 4)), (7, .ref (r 5)), (8, .ref (r 6)), (10, .int (nI (S.2 3 0))), (11, .int (nI (S.2 2 0))), (12, .int (nI e)), (19, .int (nI (1 + u1))), (20, .int (nI k))]) hx hb dL_law_1059 hl (by decide) rfl (fun ls hl => ?_)
          have LP_1061 : ∀ (nn_ : Nat) (i2 : Nat) (qq : Nat → Int32), i2 < nn_ → (i2 ≤ 23) → (qq = shQ (S.1 7) i2) → ∀ (H : Heap) (locs : List Loc) (ls : Array Slot), wldS G A_ [[(x 0, .inr (5, [.ref (a 0), .ref (b 0), .ref (x 3), .ref (x 1), .ref (x 2), .ref (x 5)]))], [(x 3, .inr (1, [.ref (x 4), .int (nI hn)])), (x 4, .inl (cA 3, 6, .inr (.inr (.inr (.inr (stR ha))))))], tkW cA (ha 0) (hT 0), tkW cA (ha 1) (hT 1), tkW cA (ha 2) (hT 2), tkW cA (ha 3) (hT 3), tkW cA (ha 4) (hT 4), tkW cA (ha 5) (hT 5), tkW cA a T, [(x 5, .inr (2, [.ref (x 6), .int (nI ty)])), (x 6, .inl (cA 1, 72, .inl pd))], lawW cA r (stepT S), [(r 5, .inl (cA 0, 24, .inl qq))]] s_.heap H locs → lv_has ls 23 [(0, .ref bq), (1, .ref (x 0)), (2, .ref (r 0)), (3, .ref (r 1)), (4, .ref (r 2)), (5, .ref (r 3)), (6, .ref (r 4)), (7, .ref (r 5)), (8, .ref (r 6)), (10, .int (nI (S.2 3 0))), (11, .int (nI (S.2 2 0))), (12, .int (nI e)), (19, .int (nI (1 + u1))), (20, .int (nI k)), (21, .int (nI i2))] → W p_ l e_ room_1 s_ m_ args below meth c_ H locs (cells + k + 1) (slots + 60 * k + 60) Q (F0 m_ 1061 ls []) := by
            intro nn_
            induction nn_ with
            | zero => intro i2 qq hmu; exact absurd hmu (Nat.not_lt_zero _)
            | succ nn_ ih =>
              have ih_1061 := ih
              clear ih
              intro i2 qq hmu_1061 hi23 hqq H locs ls hW hl
              refine lv_iload hx hb dL_law_1061 (lv_at hl 14 rfl) ?_
              refine rn_if_le hx hb (by omega) dL_law_1063 (by decide) (tgt := 1089) (fun c_1063 => ?_) (fun c_1063 => ?_)
              · refine lv_aload hx hb dL_law_1089 (lv_at hl 7 rfl) ?_
                refine rn_iconst hx hb 0 rfl dL_law_1091 ?_
                refine lv_iload hx hb dL_law_1092 (lv_at hl 9 rfl) ?_
                refine rn_if_lt hx hb (by omega) dL_law_1094 (by decide) (tgt := 1104) (fun c_1094 => ?_) (fun c_1094 => ?_)
                · exact c_1094.elim
                · refine lv_aload_n hx hb dL_law_1097 rfl (lv_at hl 3 rfl) ?_
                  refine lv_iload hx hb dL_law_1098 (lv_at hl 10 rfl) ?_
                  refine rn_iald CX hE (hW.hP 10 rfl) 1 rfl (j := (S.2 2 0)) (by omega) (ltb rfl) dL_law_1100 ?_
                  refine lv_goto (tgt := 1108) hx hb dL_law_1101 (by decide) ?_
                  refine rn_iastS (w' := [(r 5, .inl (cA 0, 24, .inl (upd qq 0 (((stepT S).1 2) (S.2 2 0)))))]) (segs' := [[(x 0, .inr (5, [.ref (a 0), .ref (b 0), .ref (x 3), .ref (x 1), .ref (x 2), .ref (x 5)]))], [(x 3, .inr (1, [.ref (x 4), .int (nI hn)])), (x 4, .inl (cA 3, 6, .inr (.inr (.inr (.inr (stR ha))))))], tkW cA (ha 0) (hT 0), tkW cA (ha 1) (hT 1), tkW cA (ha 2) (hT 2), tkW cA (ha 3) (hT 3), tkW cA (ha 4) (hT 4), tkW cA (ha 5) (hT 5), tkW cA a T, [(x 5, .inr (2, [.ref (x 6), .int (nI ty)])), (x 6, .inl (cA 1, 72, .inl pd))], lawW cA r (stepT S), [(r 5, .inl (cA 0, 24, .inl (upd qq 0 (((stepT S).1 2) (S.2 2 0)))))]]) CX hE hW 11 rfl 0 rfl (j := 0) (by omega) (ltb rfl) rfl rfl dL_law_1108 (fun H locs hW => ?_)
                  refine lv_iload hx hb dL_law_1109 (lv_at hl 9 rfl) ?_
                  refine lv_if_ge hx hb dL_law_1111 (by decide) (tgt := 1119) (fun c_1111 => ?_) (fun c_1111 => ?_)
                  · refine lv_iload hx hb dL_law_1119 (lv_at hl 9 rfl) ?_
                    refine lv_bipush (v := (nI 24)) hx hb dL_law_1121 kb_24 ?_
                    have J_1135 : ∀ v : Int32, v = (nI (min (S.2 3 0 + 1) 24)) → W p_ l e_ room_1 s_ m_ args below meth c_ H locs (cells + k + 1) (slots + 60 * k + 60) Q (F0 m_ 1135 ls [.int v]) := by
                      intro v hv
                      subst hv
                      refine lv_istore (lv' := [(10, .int (nI (min (S.2 3 0 + 1) 24))), (0, .ref bq), (1, .ref (x 0)), (2, .ref (r 0)), (3, .ref (r 1)), (4, .ref (r 2)), (5, .ref (r 3)), (6, .ref (r 4)), (7, .ref (r 5)), (8, .ref (r 6)), (11, .int (nI (S.2 2 0))), (12, .int (nI e)), (19, .int (nI (1 + u1))), (20, .int (nI k)), (21, .int (nI i2))]) hx hb dL_law_1135 hl (by decide) rfl (fun ls hl => ?_)
                      have hW := wldS.ext hW (w' := [(r 5, .inl (cA 0, 24, .inl ((stepT S).1 7)))]) (segs' := [[(x 0, .inr (5, [.ref (a 0), .ref (b 0), .ref (x 3), .ref (x 1), .ref (x 2), .ref (x 5)]))], [(x 3, .inr (1, [.ref (x 4), .int (nI hn)])), (x 4, .inl (cA 3, 6, .inr (.inr (.inr (.inr (stR ha))))))], tkW cA (ha 0) (hT 0), tkW cA (ha 1) (hT 1), tkW cA (ha 2) (hT 2), tkW cA (ha 3) (hT 3), tkW cA (ha 4) (hT 4), tkW cA (ha 5) (hT 5), tkW cA a T, [(x 5, .inr (2, [.ref (x 6), .int (nI ty)])), (x 6, .inl (cA 1, 72, .inl pd))], lawW cA r (stepT S), [(r 5, .inl (cA 0, 24, .inl ((stepT S).1 7)))]]) 11 rfl 0 (g := (stepT S).1 7) rfl (q_run hp (by omega) hqq rfl) rfl rfl
                      have hl : lv_has ls 23 [(10, .int (seF (stepT S))), (0, .ref bq), (1, .ref (x 0)), (2, .ref (r 0)), (3, .ref (r 1)), (4, .ref (r 2)), (5, .ref (r 3)), (6, .ref (r 4)), (7, .ref (r 5)), (8, .ref (r 6)), (11, .int (nI (S.2 2 0))), (12, .int (nI e)), (19, .int (nI (1 + u1))), (20, .int (nI k)), (21, .int (nI i2))] := by have z_ : (nI (min (S.2 3 0 + 1) 24)) = (seF (stepT S)) := se_step hp; rw [z_] at hl; exact hl
                      have hl : lv_has ls 23 [(10, .int (seF (stepT S))), (0, .ref bq), (1, .ref (x 0)), (2, .ref (r 0)), (3, .ref (r 1)), (4, .ref (r 2)), (5, .ref (r 3)), (6, .ref (r 4)), (7, .ref (r 5)), (8, .ref (r 6)), (11, .int (whF T)), (12, .int (nI e)), (19, .int (nI (1 + u1))), (20, .int (nI k)), (21, .int (nI i2))] := by have z_ : (nI (S.2 2 0)) = (whF T) := (hwhS.trans (wh_at hp)).symm; rw [z_] at hl; exact hl
                      refine rn_iinc hx hb (n := 1) (lv' := [(20, .int (nI (k + 1))), (10, .int (seF (stepT S))), (0, .ref bq), (1, .ref (x 0)), (2, .ref (r 0)), (3, .ref (r 1)), (4, .ref (r 2)), (5, .ref (r 3)), (6, .ref (r 4)), (7, .ref (r 5)), (8, .ref (r 6)), (11, .int (whF T)), (12, .int (nI e)), (19, .int (nI (1 + u1))), (21, .int (nI i2))]) rfl dL_law_1137 hl (k := 13) rfl (by decide) rfl (fun ls hl => ?_)
                      refine lv_goto (tgt := 1037) hx hb dL_law_1140 (by decide) ?_
                      refine W.widen (k := cells + (k + 1)) (n := slots + 60 * (k + 1)) (by omega) (by omega) ?_
                      exact ih_1037 (k + 1) (stepT S) (by omega) (by omega) (by rw [hS]; rfl) _ _ ls hW (lv_sub hl [2, 3, 4, 5, 6, 7, 8, 9, 10, 1, 11, 12, 13, 0] rfl)
                    refine rn_icmp_ge hx hb (by omega) (by omega) dL_law_1123 (by decide) (tgt := 1133) (fun c_1123 => ?_) (fun c_1123 => ?_)
                    · refine lv_bipush (v := (nI 24)) hx hb dL_law_1133 kb_24 ?_
                      exact J_1135 _ (by exact congrArg nI (by omega))
                    · refine lv_iload hx hb dL_law_1126 (lv_at hl 9 rfl) ?_
                      refine rn_iconst hx hb 1 rfl dL_law_1128 ?_
                      refine rn_iadd hx hb dL_law_1129 ?_
                      refine lv_goto (tgt := 1135) hx hb dL_law_1130 (by decide) ?_
                      exact J_1135 _ (by exact congrArg nI (by omega))
                  · exact absurd (nI_pos' (by omega)) c_1111
              · refine lv_iload hx hb dL_law_1066 (lv_at hl 9 rfl) ?_
                refine rn_if_lt hx hb (by omega) dL_law_1068 (by decide) (tgt := 1089) (fun c_1068 => ?_) (fun c_1068 => ?_)
                · exact c_1068.elim
                · refine lv_aload hx hb dL_law_1071 (lv_at hl 7 rfl) ?_
                  refine lv_iload hx hb dL_law_1073 (lv_at hl 14 rfl) ?_
                  refine lv_aload hx hb dL_law_1075 (lv_at hl 7 rfl) ?_
                  refine lv_iload hx hb dL_law_1077 (lv_at hl 14 rfl) ?_
                  refine rn_iconst hx hb 1 rfl dL_law_1079 ?_
                  refine rn_isub hx hb (by omega) dL_law_1080 ?_
                  refine rn_iald CX hE (hW.hP 11 rfl) 0 rfl (j := (i2 - 1)) (by omega) (ltb rfl) dL_law_1081 ?_
                  refine rn_iastS (w' := [(r 5, .inl (cA 0, 24, .inl (upd qq i2 (qq (i2 - 1)))))]) (segs' := [[(x 0, .inr (5, [.ref (a 0), .ref (b 0), .ref (x 3), .ref (x 1), .ref (x 2), .ref (x 5)]))], [(x 3, .inr (1, [.ref (x 4), .int (nI hn)])), (x 4, .inl (cA 3, 6, .inr (.inr (.inr (.inr (stR ha))))))], tkW cA (ha 0) (hT 0), tkW cA (ha 1) (hT 1), tkW cA (ha 2) (hT 2), tkW cA (ha 3) (hT 3), tkW cA (ha 4) (hT 4), tkW cA (ha 5) (hT 5), tkW cA a T, [(x 5, .inr (2, [.ref (x 6), .int (nI ty)])), (x 6, .inl (cA 1, 72, .inl pd))], lawW cA r (stepT S), [(r 5, .inl (cA 0, 24, .inl (upd qq i2 (qq (i2 - 1)))))]]) CX hE hW 11 rfl 0 rfl (j := i2) (by omega) (ltb rfl) rfl rfl dL_law_1082 (fun H locs hW => ?_)
                  refine rn_iincm hx hb (n := 1) (by omega) (lv' := [(21, .int (nI (i2 - 1))), (0, .ref bq), (1, .ref (x 0)), (2, .ref (r 0)), (3, .ref (r 1)), (4, .ref (r 2)), (5, .ref (r 3)), (6, .ref (r 4)), (7, .ref (r 5)), (8, .ref (r 6)), (10, .int (nI (S.2 3 0))), (11, .int (nI (S.2 2 0))), (12, .int (nI e)), (19, .int (nI (1 + u1))), (20, .int (nI k))]) rfl dL_law_1083 hl (k := 14) rfl (by decide) rfl (fun ls hl => ?_)
                  refine lv_goto (tgt := 1061) hx hb dL_law_1086 (by decide) ?_
                  exact ih_1061 (i2 - 1) (upd qq i2 (qq (i2 - 1))) (by omega) (by omega) (shQ_next hqq (by omega) hi23) _ _ ls hW (lv_sub hl [1, 2, 3, 4, 5, 6, 7, 8, 9, 10, 11, 12, 13, 14, 0] rfl)
          exact LP_1061 _ 23 (S.1 7) (Nat.lt_succ_self _) (by omega) shQ_0 _ _ ls hW (lv_sub hl [1, 2, 3, 4, 5, 6, 7, 8, 9, 10, 11, 12, 13, 14, 0] rfl)
  exact LP_1037 _ 0 T (Nat.lt_succ_self _) (Nat.zero_le _) rfl _ _ ls hW (lv_sub hl [18, 17, 16, 15, 14, 13, 12, 11, 10, 9, 8, 7, 1, 0] rfl)
