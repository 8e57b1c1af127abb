/-! The loop's body: which case; its checks; the law's end. -/
theorem hdn_L_cell : yL_cell.cls ≠ "java/lang/invoke/MethodHandle" ∧ yL_cell.cls ≠ "java/lang/invoke/VarHandle" ∧ (parseMethodDescriptor yL_cell.desc).map (fun d => d.parameters.length) = some 2 := by decide +kernel
set_option maxHeartbeats 16000000 in
set_option maxRecDepth 100000 in
theorem L_body {p_ : Program} {l : Launch} {e_ : Env} {s_ : State} {m_ : MethodId} {args : Array Value} {below : List Frame} {meth : Method} {c_ : Code} {H : Heap} {locs : List Loc} {cells slots : Nat} {Q : State → Prop} {ls : Array Slot} {G : va_G} {cA : Nat → ClassId} {A_ : Nat → Prop} {x b r : Nat → Nat} {bq L e : Nat} {xs : Nat → Int32} {T : TV} (CX : CallFix p_ m_ c_ cL_law 23 s_ args wsL_law RL) (hE : EK G cA s_) (hA : ∀ q, s_.heap.size ≤ q → A_ q) (hcs : cells + 9 ≤ room_1.cells ∧ slots + 540 ≤ room_1.slots) (he : e < 46) (hX : va_X bq L xs s_ s_.heap) (hbl : bq < s_.heap.size) (hbA : ¬ A_ bq) (hL : L ≤ 260) (htk : T.2 4 0 ≤ 9 * e) (hl : lv_has ls 23 [(12, .int (nI e)), (11, .int (whF T)), (10, .int (seF T)), (8, .ref (r 6)), (7, .ref (r 5)), (6, .ref (r 4)), (5, .ref (r 3)), (4, .ref (r 2)), (3, .ref (r 1)), (2, .ref (r 0)), (1, .ref (x 0)), (0, .ref bq)]) (hI : LInv G cA A_ x b r T s_.heap H locs) (kk : ∀ (T' : TV) (cells' slots' : Nat) (H : Heap) (locs : List Loc) (ls : Array Slot), cells' ≤ cells + 9 → slots' ≤ slots + 540 → LInv G cA A_ x b r T' s_.heap H locs → T'.2 4 0 ≤ 9 * (e + 1) → lv_has ls 23 [(18, .int (nI 1)), (12, .int (nI e)), (11, .int (whF T')), (10, .int (seF T')), (8, .ref (r 6)), (7, .ref (r 5)), (6, .ref (r 4)), (5, .ref (r 3)), (4, .ref (r 2)), (3, .ref (r 1)), (2, .ref (r 0)), (1, .ref (x 0)), (0, .ref bq)] → W p_ l e_ room_1 s_ m_ args below meth c_ H locs cells' slots' Q (F0 m_ 1204 ls [])) : W p_ l e_ room_1 s_ m_ args below meth c_ H locs cells slots Q (F0 m_ 242 ls []) := by
  obtain ⟨hx, hb, hml, hown, hts⟩ := id CX
  obtain ⟨a, ha, hT, hn, ty, pd, hW, hhn, hinv, hfi⟩ := hI
  have hok := hinv.1
  have hdc := hok.1.2
  have hnd := hok.1.1
  have hnp := hok.2.1
  refine lv_aload_n hx hb dL_law_242 rfl (lv_at hl 11 rfl) ?_
  refine rn_iconst hx hb 1 rfl dL_law_243 ?_
  refine lv_iload hx hb dL_law_244 (lv_at hl 0 rfl) ?_
  refine rn_iadd hx hb dL_law_246 ?_
  refine roS CX hE va_P_nil (c_L_cell l G cA bq L xs (1 + e) (by omega) (by omega)) (va_cwS 2 hts gL_law_L_cell rfl rfl rfl hdn_L_cell ⟨Nat.le_of_ble_eq_true rfl, Nat.le_of_ble_eq_true rfl⟩) [] rfl (SX_blind bq L xs) (fun U hU hWm => SX.use hX hbl hbA hW.2.2 hU hWm) rfl hl.1 (rest := []) rfl (Nat.le_of_ble_eq_true rfl) dL_law_247 ⟨by omega, by omega⟩ ?_
  generalize cellF xs L (1 + e) = h
  refine lv_istore (lv' := [(13, .int h), (12, .int (nI e)), (11, .int (whF T)), (10, .int (seF T)), (8, .ref (r 6)), (7, .ref (r 5)), (6, .ref (r 4)), (5, .ref (r 3)), (4, .ref (r 2)), (3, .ref (r 1)), (2, .ref (r 0)), (1, .ref (x 0)), (0, .ref bq)]) hx hb dL_law_250 hl (by decide) rfl (fun ls hl => ?_)
  refine lv_iload hx hb dL_law_252 (lv_at hl 0 rfl) ?_
  refine lv_bipush (v := (nI 13)) hx hb dL_law_254 kb_13 ?_
  refine roS CX hE va_P_nil (c_L_low l G cA h (nI 13) (by decide +kernel)) (va_cwS 2 hts gL_law_L_low rfl rfl rfl hdn_L_low ⟨Nat.le_of_ble_eq_true rfl, Nat.le_of_ble_eq_true rfl⟩) [] rfl B0_blind (fun _ _ _ => trivial) rfl hl.1 (rest := []) rfl (Nat.le_of_ble_eq_true rfl) dL_law_256 ⟨by omega, by omega⟩ ?_
  obtain ⟨kd, h_kd, e_kd⟩ : ∃ k, k < 13 ∧ (lowF h (nI 13)) = nI k := low_nat _ (by omega) (by omega)
  refine rn_top (nI kd) e_kd ?_
  refine lv_istore (lv' := [(14, .int (nI kd)), (13, .int h), (12, .int (nI e)), (11, .int (whF T)), (10, .int (seF T)), (8, .ref (r 6)), (7, .ref (r 5)), (6, .ref (r 4)), (5, .ref (r 3)), (4, .ref (r 2)), (3, .ref (r 1)), (2, .ref (r 0)), (1, .ref (x 0)), (0, .ref bq)]) hx hb dL_law_259 hl (by decide) rfl (fun ls hl => ?_)
  refine lv_iload hx hb dL_law_261 (lv_at hl 1 rfl) ?_
  refine rn_iconst hx hb 4 rfl dL_law_263 ?_
  refine lv_ishr hx hb dL_law_264 ?_
  refine lv_bipush (v := (nI 60)) hx hb dL_law_265 kb_60 ?_
  refine roS CX hE va_P_nil (c_L_low l G cA (h >>> ((nI 4) &&& 31)) (nI 60) (by decide +kernel)) (va_cwS 2 hts gL_law_L_low rfl rfl rfl hdn_L_low ⟨Nat.le_of_ble_eq_true rfl, Nat.le_of_ble_eq_true rfl⟩) [] rfl B0_blind (fun _ _ _ => trivial) rfl hl.1 (rest := []) rfl (Nat.le_of_ble_eq_true rfl) dL_law_267 ⟨by omega, by omega⟩ ?_
  obtain ⟨c, h_c, e_c⟩ : ∃ k, k < 60 ∧ (lowF (h >>> ((nI 4) &&& 31)) (nI 60)) = nI k := low_nat _ (by omega) (by omega)
  refine rn_top (nI c) e_c ?_
  obtain ⟨i, j, hi10, hj6, ec⟩ : ∃ i j, i < 10 ∧ j < 6 ∧ c = j * 10 + i := ⟨c % 10, c / 10, by omega, by omega, by omega⟩
  subst ec
  refine lv_istore (lv' := [(15, .int (nI (j * 10 + i))), (14, .int (nI kd)), (13, .int h), (12, .int (nI e)), (11, .int (whF T)), (10, .int (seF T)), (8, .ref (r 6)), (7, .ref (r 5)), (6, .ref (r 4)), (5, .ref (r 3)), (4, .ref (r 2)), (3, .ref (r 1)), (2, .ref (r 0)), (1, .ref (x 0)), (0, .ref bq)]) hx hb dL_law_270 hl (by decide) rfl (fun ls hl => ?_)
  refine lv_iload hx hb dL_law_272 (lv_at hl 0 rfl) ?_
  refine lv_bipush (v := (nI 10)) hx hb dL_law_274 kb_10 ?_
  refine rn_irem hx hb (by omega) (by omega) (by omega) dL_law_276 ?_
  refine rn_top (nI i) (congrArg nI (by omega)) ?_
  refine lv_istore (lv' := [(16, .int (nI i)), (15, .int (nI (j * 10 + i))), (14, .int (nI kd)), (13, .int h), (12, .int (nI e)), (11, .int (whF T)), (10, .int (seF T)), (8, .ref (r 6)), (7, .ref (r 5)), (6, .ref (r 4)), (5, .ref (r 3)), (4, .ref (r 2)), (3, .ref (r 1)), (2, .ref (r 0)), (1, .ref (x 0)), (0, .ref bq)]) hx hb dL_law_277 hl (by decide) rfl (fun ls hl => ?_)
  refine lv_iload hx hb dL_law_279 (lv_at hl 1 rfl) ?_
  refine lv_bipush (v := (nI 10)) hx hb dL_law_281 kb_10 ?_
  refine rn_idiv hx hb (by omega) (by omega) (by omega) dL_law_283 ?_
  refine rn_top (nI j) (congrArg nI (by omega)) ?_
  refine lv_istore (lv' := [(17, .int (nI j)), (16, .int (nI i)), (15, .int (nI (j * 10 + i))), (14, .int (nI kd)), (13, .int h), (12, .int (nI e)), (11, .int (whF T)), (10, .int (seF T)), (8, .ref (r 6)), (7, .ref (r 5)), (6, .ref (r 4)), (5, .ref (r 3)), (4, .ref (r 2)), (3, .ref (r 1)), (2, .ref (r 0)), (1, .ref (x 0)), (0, .ref bq)]) hx hb dL_law_284 hl (by decide) rfl (fun ls hl => ?_)
  refine rn_iconst hx hb 1 rfl dL_law_286 ?_
  refine lv_istore (lv' := [(18, .int (nI 1)), (17, .int (nI j)), (16, .int (nI i)), (15, .int (nI (j * 10 + i))), (14, .int (nI kd)), (13, .int h), (12, .int (nI e)), (11, .int (whF T)), (10, .int (seF T)), (8, .ref (r 6)), (7, .ref (r 5)), (6, .ref (r 4)), (5, .ref (r 3)), (4, .ref (r 2)), (3, .ref (r 1)), (2, .ref (r 0)), (1, .ref (x 0)), (0, .ref bq)]) hx hb dL_law_287 hl (by decide) rfl (fun ls hl => ?_)
  refine lv_iload hx hb dL_law_289 (lv_at hl 4 rfl) ?_
  refine rn_iconst hx hb 4 rfl dL_law_291 ?_
  refine rn_icmp_ge hx hb (by omega) (by omega) dL_law_292 (by decide) (tgt := 466) (fun c_292 => ?_) (fun c_292 => ?_)
  · refine lv_iload hx hb dL_law_466 (lv_at hl 4 rfl) ?_
    refine lv_bipush (v := (nI 6)) hx hb dL_law_468 kb_6 ?_
    refine rn_icmp_ge hx hb (by omega) (by omega) dL_law_470 (by decide) (tgt := 671) (fun c_470 => ?_) (fun c_470 => ?_)
    · refine lv_iload hx hb dL_law_671 (lv_at hl 4 rfl) ?_
      refine lv_bipush (v := (nI 6)) hx hb dL_law_673 kb_6 ?_
      refine rn_icmp_ne hx hb (by omega) (by omega) dL_law_675 (by decide) (tgt := 767) (fun c_675 => ?_) (fun c_675 => ?_)
      · refine lv_iload hx hb dL_law_767 (lv_at hl 4 rfl) ?_
        refine lv_bipush (v := (nI 9)) hx hb dL_law_769 kb_9 ?_
        refine rn_icmp_ge hx hb (by omega) (by omega) dL_law_771 (by decide) (tgt := 892) (fun c_771 => ?_) (fun c_771 => ?_)
        · refine lv_iload hx hb dL_law_892 (lv_at hl 4 rfl) ?_
          refine lv_bipush (v := (nI 9)) hx hb dL_law_894 kb_9 ?_
          refine rn_icmp_ne hx hb (by omega) (by omega) dL_law_896 (by decide) (tgt := 1020) (fun c_896 => ?_) (fun c_896 => ?_)
          · exact L_pass (L := L) (xs := xs) CX hE hA hcs he htk hi10 hj6 (lv_sub hl [0, 1, 2, 3, 5, 6, 7, 8, 9, 10, 11, 12, 13, 14, 15, 16, 17] rfl) ⟨a, ha, hT, hn, ty, pd, hW, hhn, hinv, hfi⟩ kk
          · refine lv_aload hx hb dL_law_899 (lv_at hl 9 rfl) ?_
            refine lv_bipush (v := (nI 6)) hx hb dL_law_901 kb_6 ?_
            refine rn_iald CX hE (hW.hP 10 rfl) 5 rfl (j := 6) (by omega) (ltb rfl) dL_law_903 ?_
            refine rn_top (nI (T.2 4 2)) rfl ?_
            refine rn_iconst hx hb 3 rfl dL_law_904 ?_
            refine rn_icmp_ge hx hb (by omega) (by omega) dL_law_905 (by decide) (tgt := 1020) (fun c_905 => ?_) (fun c_905 => ?_)
            · exact L_pass (L := L) (xs := xs) CX hE hA hcs he htk hi10 hj6 (lv_sub hl [0, 1, 2, 3, 5, 6, 7, 8, 9, 10, 11, 12, 13, 14, 15, 16, 17] rfl) ⟨a, ha, hT, hn, ty, pd, hW, hhn, hinv, hfi⟩ kk
            · exact L_probe (L := L) (xs := xs) CX hE hA hcs he htk hi10 hj6 (lv_sub hl [0, 1, 2, 3, 5, 6, 7, 8, 9, 10, 11, 12, 13, 14, 15, 16, 17] rfl) ⟨a, ha, hT, hn, ty, pd, hW, hhn, hinv, hfi⟩ (by omega) kk
        · exact L_drop (L := L) (xs := xs) CX hE hA hcs he htk hi10 hj6 (lv_sub hl [0, 1, 2, 3, 5, 6, 7, 8, 9, 10, 11, 12, 13, 14, 15, 16, 17] rfl) ⟨a, ha, hT, hn, ty, pd, hW, hhn, hinv, hfi⟩ kk
      · refine lv_aload hx hb dL_law_678 (lv_at hl 9 rfl) ?_
        refine rn_iconst hx hb 5 rfl dL_law_680 ?_
        refine rn_iald CX hE (hW.hP 10 rfl) 5 rfl (j := 5) (by omega) (ltb rfl) dL_law_681 ?_
        refine rn_top (nI (T.2 4 1)) rfl ?_
        refine rn_if_le hx hb (by omega) dL_law_682 (by decide) (tgt := 767) (fun c_682 => ?_) (fun c_682 => ?_)
        · refine lv_iload hx hb dL_law_767 (lv_at hl 4 rfl) ?_
          refine lv_bipush (v := (nI 9)) hx hb dL_law_769 kb_9 ?_
          refine rn_icmp_ge hx hb (by omega) (by omega) dL_law_771 (by decide) (tgt := 892) (fun c_771 => ?_) (fun c_771 => ?_)
          · refine lv_iload hx hb dL_law_892 (lv_at hl 4 rfl) ?_
            refine lv_bipush (v := (nI 9)) hx hb dL_law_894 kb_9 ?_
            refine rn_icmp_ne hx hb (by omega) (by omega) dL_law_896 (by decide) (tgt := 1020) (fun c_896 => ?_) (fun c_896 => ?_)
            · exact L_pass (L := L) (xs := xs) CX hE hA hcs he htk hi10 hj6 (lv_sub hl [0, 1, 2, 3, 5, 6, 7, 8, 9, 10, 11, 12, 13, 14, 15, 16, 17] rfl) ⟨a, ha, hT, hn, ty, pd, hW, hhn, hinv, hfi⟩ kk
            · refine lv_aload hx hb dL_law_899 (lv_at hl 9 rfl) ?_
              refine lv_bipush (v := (nI 6)) hx hb dL_law_901 kb_6 ?_
              refine rn_iald CX hE (hW.hP 10 rfl) 5 rfl (j := 6) (by omega) (ltb rfl) dL_law_903 ?_
              refine rn_top (nI (T.2 4 2)) rfl ?_
              refine rn_iconst hx hb 3 rfl dL_law_904 ?_
              refine rn_icmp_ge hx hb (by omega) (by omega) dL_law_905 (by decide) (tgt := 1020) (fun c_905 => ?_) (fun c_905 => ?_)
              · exact L_pass (L := L) (xs := xs) CX hE hA hcs he htk hi10 hj6 (lv_sub hl [0, 1, 2, 3, 5, 6, 7, 8, 9, 10, 11, 12, 13, 14, 15, 16, 17] rfl) ⟨a, ha, hT, hn, ty, pd, hW, hhn, hinv, hfi⟩ kk
              · exact L_probe (L := L) (xs := xs) CX hE hA hcs he htk hi10 hj6 (lv_sub hl [0, 1, 2, 3, 5, 6, 7, 8, 9, 10, 11, 12, 13, 14, 15, 16, 17] rfl) ⟨a, ha, hT, hn, ty, pd, hW, hhn, hinv, hfi⟩ (by omega) kk
          · exact L_drop (L := L) (xs := xs) CX hE hA hcs he htk hi10 hj6 (lv_sub hl [0, 1, 2, 3, 5, 6, 7, 8, 9, 10, 11, 12, 13, 14, 15, 16, 17] rfl) ⟨a, ha, hT, hn, ty, pd, hW, hhn, hinv, hfi⟩ kk
        · exact L_take (L := L) (xs := xs) CX hE hA hcs he htk hi10 hj6 (lv_sub hl [0, 1, 2, 3, 5, 6, 7, 8, 9, 10, 11, 12, 13, 14, 15, 16, 17] rfl) ⟨a, ha, hT, hn, ty, pd, hW, hhn, hinv, hfi⟩ (by omega) kk
    · exact L_dip (L := L) (xs := xs) CX hE hA hcs he htk hi10 hj6 (lv_sub hl [0, 1, 2, 3, 5, 6, 7, 8, 9, 10, 11, 12, 13, 14, 15, 16, 17] rfl) ⟨a, ha, hT, hn, ty, pd, hW, hhn, hinv, hfi⟩ kk
  · exact L_floor (L := L) (xs := xs) CX hE hA hcs he htk hi10 hj6 (lv_sub hl [0, 1, 2, 3, 5, 6, 7, 8, 9, 10, 11, 12, 13, 14, 15, 16, 17] rfl) ⟨a, ha, hT, hn, ty, pd, hW, hhn, hinv, hfi⟩ kk
theorem hdn_L_probe : yL_probe.cls ≠ "java/lang/invoke/MethodHandle" ∧ yL_probe.cls ≠ "java/lang/invoke/VarHandle" ∧ (parseMethodDescriptor yL_probe.desc).map (fun d => d.parameters.length) = some 3 := by decide +kernel
theorem hdn_L_counts : yL_counts.cls ≠ "java/lang/invoke/MethodHandle" ∧ yL_counts.cls ≠ "java/lang/invoke/VarHandle" ∧ (parseMethodDescriptor yL_counts.desc).map (fun d => d.parameters.length) = some 6 := by decide +kernel
theorem hdn_L_cells : yL_cells.cls ≠ "java/lang/invoke/MethodHandle" ∧ yL_cells.cls ≠ "java/lang/invoke/VarHandle" ∧ (parseMethodDescriptor yL_cells.desc).map (fun d => d.parameters.length) = some 7 := by decide +kernel
set_option maxHeartbeats 16000000 in
set_option maxRecDepth 100000 in
theorem L_next {p_ : Program} {l : Launch} {e_ : Env} {s_ : State} {m_ : MethodId} {args : Array Value} {below : List Frame} {meth : Method} {c_ : Code} {H : Heap} {locs : List Loc} {cells slots : Nat} {Q : State → Prop} {ls : Array Slot} {G : va_G} {cA : Nat → ClassId} {A_ : Nat → Prop} {x b r : Nat → Nat} {bq L e : Nat} {xs : Nat → Int32} {T : TV} (CX : CallFix p_ m_ c_ cL_law 23 s_ args wsL_law RL) (hE : EK G cA s_) (hA : ∀ q, s_.heap.size ≤ q → A_ q) (hcs : cells ≤ room_1.cells ∧ slots ≤ room_1.slots) (he : e < 46) (htk : T.2 4 0 ≤ 9 * (e + 1)) (hl : lv_has ls 23 [(18, .int (nI 1)), (12, .int (nI e)), (11, .int (whF T)), (10, .int (seF T)), (8, .ref (r 6)), (7, .ref (r 5)), (6, .ref (r 4)), (5, .ref (r 3)), (4, .ref (r 2)), (3, .ref (r 1)), (2, .ref (r 0)), (1, .ref (x 0)), (0, .ref bq)]) (hI : LInv G cA A_ x b r T s_.heap H locs) (kk : ∀ ls : Array Slot, lv_has ls 23 [(12, .int (nI (e + 1))), (11, .int (whF T)), (10, .int (seF T)), (8, .ref (r 6)), (7, .ref (r 5)), (6, .ref (r 4)), (5, .ref (r 3)), (4, .ref (r 2)), (3, .ref (r 1)), (2, .ref (r 0)), (1, .ref (x 0)), (0, .ref bq)] → W p_ l e_ room_1 s_ m_ args below meth c_ H locs cells slots Q (F0 m_ 235 ls [])) : W p_ l e_ room_1 s_ m_ args below meth c_ H locs cells slots Q (F0 m_ 1204 ls []) := by
  obtain ⟨hx, hb, hml, hown, hts⟩ := id CX
  obtain ⟨a, ha, hT, hn, ty, pd, hW, hhn, hinv, hfi⟩ := hI
  have hok := hinv.1
  have hdc := hok.1.2
  have hnd := hok.1.1
  have hnp := hok.2.1
  have htk5 : T.2 4 0 ≤ 100000 := by omega
  refine lv_iload hx hb dL_law_1204 (lv_at hl 0 rfl) ?_
  refine rn_if_eq hx hb (by omega) dL_law_1206 (by decide) (tgt := 1273) (fun c_1206 => ?_) (fun c_1206 => ?_)
  · exact absurd c_1206 (by decide)
  · refine lv_iload hx hb dL_law_1209 (lv_at hl 1 rfl) ?_
    refine rn_iconst hx hb 3 rfl dL_law_1211 ?_
    refine rn_irem hx hb (by omega) (by omega) (by omega) dL_law_1212 ?_
    refine rn_iconst hx hb 2 rfl dL_law_1213 ?_
    refine rn_icmp_ne hx hb (by omega) (by omega) dL_law_1214 (by decide) (tgt := 1234) (fun c_1214 => ?_) (fun c_1214 => ?_)
    · refine lv_iload hx hb dL_law_1234 (lv_at hl 1 rfl) ?_
      refine rn_iconst hx hb 2 rfl dL_law_1236 ?_
      refine rn_irem hx hb (by omega) (by omega) (by omega) dL_law_1237 ?_
      refine rn_iconst hx hb 1 rfl dL_law_1238 ?_
      refine rn_icmp_ne hx hb (by omega) (by omega) dL_law_1239 (by decide) (tgt := 1257) (fun c_1239 => ?_) (fun c_1239 => ?_)
      · refine lv_iload hx hb dL_law_1257 (lv_at hl 3 rfl) ?_
        refine lv_if_lt hx hb dL_law_1259 (by decide) (tgt := 1275) (fun c_1259 => ?_) (fun c_1259 => ?_)
        · refine rn_iinc hx hb (n := 1) (lv' := [(12, .int (nI (e + 1))), (18, .int (nI 1)), (11, .int (whF T)), (10, .int (seF T)), (8, .ref (r 6)), (7, .ref (r 5)), (6, .ref (r 4)), (5, .ref (r 3)), (4, .ref (r 2)), (3, .ref (r 1)), (2, .ref (r 0)), (1, .ref (x 0)), (0, .ref bq)]) rfl dL_law_1275 hl (k := 1) rfl (by decide) rfl (fun ls hl => ?_)
          refine lv_goto (tgt := 235) hx hb dL_law_1278 (by decide) ?_
          exact kk ls (lv_sub hl [0, 2, 3, 4, 5, 6, 7, 8, 9, 10, 11, 12] rfl)
        · have hp1 := se_pos c_1259
          have hl : lv_has ls 23 [(18, .int (nI 1)), (12, .int (nI e)), (11, .int (whF T)), (10, .int (nI (T.2 3 0))), (8, .ref (r 6)), (7, .ref (r 5)), (6, .ref (r 4)), (5, .ref (r 3)), (4, .ref (r 2)), (3, .ref (r 1)), (2, .ref (r 0)), (1, .ref (x 0)), (0, .ref bq)] := by have z_ : (seF T) = (nI (T.2 3 0)) := se_at hp1; rw [z_] at hl; exact hl
          refine lv_aload_n hx hb dL_law_1262 rfl (lv_at hl 11 rfl) ?_
          refine lv_aload hx hb dL_law_1263 (lv_at hl 5 rfl) ?_
          refine lv_iload hx hb dL_law_1265 (lv_at hl 3 rfl) ?_
          refine roSg CX hE (va_P_segs (fun _ _ h => hW.hP _ h) [0, 8, 11] rfl) (c_L_probe l G cA x a b T r (by assumption) (by omega)) (va_cwS 3 hts gL_law_L_probe rfl rfl rfl hdn_L_probe ⟨Nat.le_of_ble_eq_true rfl, Nat.le_of_ble_eq_true rfl⟩) B0_blind (fun _ _ _ => trivial) rfl hl.1 (rest := []) rfl (Nat.le_of_ble_eq_true rfl) dL_law_1267 ⟨by omega, by omega⟩ ?_
          refine rn_if_ne hx hb (by omega) dL_law_1270 (by decide) (tgt := 1275) (fun c_1270 => ?_) (fun c_1270 => ?_)
          · have hl : lv_has ls 23 [(18, .int (nI 1)), (12, .int (nI e)), (11, .int (whF T)), (10, .int (seF T)), (8, .ref (r 6)), (7, .ref (r 5)), (6, .ref (r 4)), (5, .ref (r 3)), (4, .ref (r 2)), (3, .ref (r 1)), (2, .ref (r 0)), (1, .ref (x 0)), (0, .ref bq)] := by have z_ : (nI (T.2 3 0)) = (seF T) := (se_at hp1).symm; rw [z_] at hl; exact hl
            refine rn_iinc hx hb (n := 1) (lv' := [(12, .int (nI (e + 1))), (18, .int (nI 1)), (11, .int (whF T)), (10, .int (seF T)), (8, .ref (r 6)), (7, .ref (r 5)), (6, .ref (r 4)), (5, .ref (r 3)), (4, .ref (r 2)), (3, .ref (r 1)), (2, .ref (r 0)), (1, .ref (x 0)), (0, .ref bq)]) rfl dL_law_1275 hl (k := 1) rfl (by decide) rfl (fun ls hl => ?_)
            refine lv_goto (tgt := 235) hx hb dL_law_1278 (by decide) ?_
            exact kk ls (lv_sub hl [0, 2, 3, 4, 5, 6, 7, 8, 9, 10, 11, 12] rfl)
          · exact absurd c_1270 (by decide)
      · refine lv_aload_n hx hb dL_law_1242 rfl (lv_at hl 11 rfl) ?_
        refine lv_aload_n hx hb dL_law_1243 rfl (lv_at hl 10 rfl) ?_
        refine lv_aload_n hx hb dL_law_1244 rfl (lv_at hl 9 rfl) ?_
        refine lv_aload hx hb dL_law_1245 (lv_at hl 8 rfl) ?_
        refine lv_aload hx hb dL_law_1247 (lv_at hl 7 rfl) ?_
        refine lv_aload hx hb dL_law_1249 (lv_at hl 4 rfl) ?_
        refine roSg CX hE (va_P_segs (fun _ _ h => hW.hP _ h) [0, 1, 9, 8, 10] rfl) (c_L_counts l G cA x a b T hn ha ty pd r (by assumption) (by assumption) (by assumption)) (va_cwS 6 hts gL_law_L_counts rfl rfl rfl hdn_L_counts ⟨Nat.le_of_ble_eq_true rfl, Nat.le_of_ble_eq_true rfl⟩) B0_blind (fun _ _ _ => trivial) rfl hl.1 (rest := []) rfl (Nat.le_of_ble_eq_true rfl) dL_law_1251 ⟨by omega, by omega⟩ ?_
        refine rn_if_eq hx hb (by omega) dL_law_1254 (by decide) (tgt := 1273) (fun c_1254 => ?_) (fun c_1254 => ?_)
        · exact absurd c_1254 (by decide)
        · refine lv_iload hx hb dL_law_1257 (lv_at hl 3 rfl) ?_
          refine lv_if_lt hx hb dL_law_1259 (by decide) (tgt := 1275) (fun c_1259 => ?_) (fun c_1259 => ?_)
          · refine rn_iinc hx hb (n := 1) (lv' := [(12, .int (nI (e + 1))), (18, .int (nI 1)), (11, .int (whF T)), (10, .int (seF T)), (8, .ref (r 6)), (7, .ref (r 5)), (6, .ref (r 4)), (5, .ref (r 3)), (4, .ref (r 2)), (3, .ref (r 1)), (2, .ref (r 0)), (1, .ref (x 0)), (0, .ref bq)]) rfl dL_law_1275 hl (k := 1) rfl (by decide) rfl (fun ls hl => ?_)
            refine lv_goto (tgt := 235) hx hb dL_law_1278 (by decide) ?_
            exact kk ls (lv_sub hl [0, 2, 3, 4, 5, 6, 7, 8, 9, 10, 11, 12] rfl)
          · have hp1 := se_pos c_1259
            have hl : lv_has ls 23 [(18, .int (nI 1)), (12, .int (nI e)), (11, .int (whF T)), (10, .int (nI (T.2 3 0))), (8, .ref (r 6)), (7, .ref (r 5)), (6, .ref (r 4)), (5, .ref (r 3)), (4, .ref (r 2)), (3, .ref (r 1)), (2, .ref (r 0)), (1, .ref (x 0)), (0, .ref bq)] := by have z_ : (seF T) = (nI (T.2 3 0)) := se_at hp1; rw [z_] at hl; exact hl
            refine lv_aload_n hx hb dL_law_1262 rfl (lv_at hl 11 rfl) ?_
            refine lv_aload hx hb dL_law_1263 (lv_at hl 5 rfl) ?_
            refine lv_iload hx hb dL_law_1265 (lv_at hl 3 rfl) ?_
            refine roSg CX hE (va_P_segs (fun _ _ h => hW.hP _ h) [0, 8, 11] rfl) (c_L_probe l G cA x a b T r (by assumption) (by omega)) (va_cwS 3 hts gL_law_L_probe rfl rfl rfl hdn_L_probe ⟨Nat.le_of_ble_eq_true rfl, Nat.le_of_ble_eq_true rfl⟩) B0_blind (fun _ _ _ => trivial) rfl hl.1 (rest := []) rfl (Nat.le_of_ble_eq_true rfl) dL_law_1267 ⟨by omega, by omega⟩ ?_
            refine rn_if_ne hx hb (by omega) dL_law_1270 (by decide) (tgt := 1275) (fun c_1270 => ?_) (fun c_1270 => ?_)
            · have hl : lv_has ls 23 [(18, .int (nI 1)), (12, .int (nI e)), (11, .int (whF T)), (10, .int (seF T)), (8, .ref (r 6)), (7, .ref (r 5)), (6, .ref (r 4)), (5, .ref (r 3)), (4, .ref (r 2)), (3, .ref (r 1)), (2, .ref (r 0)), (1, .ref (x 0)), (0, .ref bq)] := by have z_ : (nI (T.2 3 0)) = (seF T) := (se_at hp1).symm; rw [z_] at hl; exact hl
              refine rn_iinc hx hb (n := 1) (lv' := [(12, .int (nI (e + 1))), (18, .int (nI 1)), (11, .int (whF T)), (10, .int (seF T)), (8, .ref (r 6)), (7, .ref (r 5)), (6, .ref (r 4)), (5, .ref (r 3)), (4, .ref (r 2)), (3, .ref (r 1)), (2, .ref (r 0)), (1, .ref (x 0)), (0, .ref bq)]) rfl dL_law_1275 hl (k := 1) rfl (by decide) rfl (fun ls hl => ?_)
              refine lv_goto (tgt := 235) hx hb dL_law_1278 (by decide) ?_
              exact kk ls (lv_sub hl [0, 2, 3, 4, 5, 6, 7, 8, 9, 10, 11, 12] rfl)
            · exact absurd c_1270 (by decide)
    · refine lv_aload_n hx hb dL_law_1217 rfl (lv_at hl 11 rfl) ?_
      refine lv_aload_n hx hb dL_law_1218 rfl (lv_at hl 10 rfl) ?_
      refine lv_aload_n hx hb dL_law_1219 rfl (lv_at hl 9 rfl) ?_
      refine lv_aload hx hb dL_law_1220 (lv_at hl 8 rfl) ?_
      refine lv_aload hx hb dL_law_1222 (lv_at hl 7 rfl) ?_
      refine lv_aload hx hb dL_law_1224 (lv_at hl 6 rfl) ?_
      refine lv_aload hx hb dL_law_1226 (lv_at hl 4 rfl) ?_
      refine roSg CX hE (va_P_segs (fun _ _ h => hW.hP _ h) [0, 8, 10] rfl) (c_L_cells l G cA x a b T r (by assumption) (by assumption) (by assumption)) (va_cwS 7 hts gL_law_L_cells rfl rfl rfl hdn_L_cells ⟨Nat.le_of_ble_eq_true rfl, Nat.le_of_ble_eq_true rfl⟩) B0_blind (fun _ _ _ => trivial) rfl hl.1 (rest := []) rfl (Nat.le_of_ble_eq_true rfl) dL_law_1228 ⟨by omega, by omega⟩ ?_
      refine rn_if_eq hx hb (by omega) dL_law_1231 (by decide) (tgt := 1273) (fun c_1231 => ?_) (fun c_1231 => ?_)
      · exact absurd c_1231 (by decide)
      · refine lv_iload hx hb dL_law_1234 (lv_at hl 1 rfl) ?_
        refine rn_iconst hx hb 2 rfl dL_law_1236 ?_
        refine rn_irem hx hb (by omega) (by omega) (by omega) dL_law_1237 ?_
        refine rn_iconst hx hb 1 rfl dL_law_1238 ?_
        refine rn_icmp_ne hx hb (by omega) (by omega) dL_law_1239 (by decide) (tgt := 1257) (fun c_1239 => ?_) (fun c_1239 => ?_)
        · refine lv_iload hx hb dL_law_1257 (lv_at hl 3 rfl) ?_
          refine lv_if_lt hx hb dL_law_1259 (by decide) (tgt := 1275) (fun c_1259 => ?_) (fun c_1259 => ?_)
          · refine rn_iinc hx hb (n := 1) (lv' := [(12, .int (nI (e + 1))), (18, .int (nI 1)), (11, .int (whF T)), (10, .int (seF T)), (8, .ref (r 6)), (7, .ref (r 5)), (6, .ref (r 4)), (5, .ref (r 3)), (4, .ref (r 2)), (3, .ref (r 1)), (2, .ref (r 0)), (1, .ref (x 0)), (0, .ref bq)]) rfl dL_law_1275 hl (k := 1) rfl (by decide) rfl (fun ls hl => ?_)
            refine lv_goto (tgt := 235) hx hb dL_law_1278 (by decide) ?_
            exact kk ls (lv_sub hl [0, 2, 3, 4, 5, 6, 7, 8, 9, 10, 11, 12] rfl)
          · have hp1 := se_pos c_1259
            have hl : lv_has ls 23 [(18, .int (nI 1)), (12, .int (nI e)), (11, .int (whF T)), (10, .int (nI (T.2 3 0))), (8, .ref (r 6)), (7, .ref (r 5)), (6, .ref (r 4)), (5, .ref (r 3)), (4, .ref (r 2)), (3, .ref (r 1)), (2, .ref (r 0)), (1, .ref (x 0)), (0, .ref bq)] := by have z_ : (seF T) = (nI (T.2 3 0)) := se_at hp1; rw [z_] at hl; exact hl
            refine lv_aload_n hx hb dL_law_1262 rfl (lv_at hl 11 rfl) ?_
            refine lv_aload hx hb dL_law_1263 (lv_at hl 5 rfl) ?_
            refine lv_iload hx hb dL_law_1265 (lv_at hl 3 rfl) ?_
            refine roSg CX hE (va_P_segs (fun _ _ h => hW.hP _ h) [0, 8, 11] rfl) (c_L_probe l G cA x a b T r (by assumption) (by omega)) (va_cwS 3 hts gL_law_L_probe rfl rfl rfl hdn_L_probe ⟨Nat.le_of_ble_eq_true rfl, Nat.le_of_ble_eq_true rfl⟩) B0_blind (fun _ _ _ => trivial) rfl hl.1 (rest := []) rfl (Nat.le_of_ble_eq_true rfl) dL_law_1267 ⟨by omega, by omega⟩ ?_
            refine rn_if_ne hx hb (by omega) dL_law_1270 (by decide) (tgt := 1275) (fun c_1270 => ?_) (fun c_1270 => ?_)
            · have hl : lv_has ls 23 [(18, .int (nI 1)), (12, .int (nI e)), (11, .int (whF T)), (10, .int (seF T)), (8, .ref (r 6)), (7, .ref (r 5)), (6, .ref (r 4)), (5, .ref (r 3)), (4, .ref (r 2)), (3, .ref (r 1)), (2, .ref (r 0)), (1, .ref (x 0)), (0, .ref bq)] := by have z_ : (nI (T.2 3 0)) = (seF T) := (se_at hp1).symm; rw [z_] at hl; exact hl
              refine rn_iinc hx hb (n := 1) (lv' := [(12, .int (nI (e + 1))), (18, .int (nI 1)), (11, .int (whF T)), (10, .int (seF T)), (8, .ref (r 6)), (7, .ref (r 5)), (6, .ref (r 4)), (5, .ref (r 3)), (4, .ref (r 2)), (3, .ref (r 1)), (2, .ref (r 0)), (1, .ref (x 0)), (0, .ref bq)]) rfl dL_law_1275 hl (k := 1) rfl (by decide) rfl (fun ls hl => ?_)
              refine lv_goto (tgt := 235) hx hb dL_law_1278 (by decide) ?_
              exact kk ls (lv_sub hl [0, 2, 3, 4, 5, 6, 7, 8, 9, 10, 11, 12] rfl)
            · exact absurd c_1270 (by decide)
        · refine lv_aload_n hx hb dL_law_1242 rfl (lv_at hl 11 rfl) ?_
          refine lv_aload_n hx hb dL_law_1243 rfl (lv_at hl 10 rfl) ?_
          refine lv_aload_n hx hb dL_law_1244 rfl (lv_at hl 9 rfl) ?_
          refine lv_aload hx hb dL_law_1245 (lv_at hl 8 rfl) ?_
          refine lv_aload hx hb dL_law_1247 (lv_at hl 7 rfl) ?_
          refine lv_aload hx hb dL_law_1249 (lv_at hl 4 rfl) ?_
          refine roSg CX hE (va_P_segs (fun _ _ h => hW.hP _ h) [0, 1, 9, 8, 10] rfl) (c_L_counts l G cA x a b T hn ha ty pd r (by assumption) (by assumption) (by assumption)) (va_cwS 6 hts gL_law_L_counts rfl rfl rfl hdn_L_counts ⟨Nat.le_of_ble_eq_true rfl, Nat.le_of_ble_eq_true rfl⟩) B0_blind (fun _ _ _ => trivial) rfl hl.1 (rest := []) rfl (Nat.le_of_ble_eq_true rfl) dL_law_1251 ⟨by omega, by omega⟩ ?_
          refine rn_if_eq hx hb (by omega) dL_law_1254 (by decide) (tgt := 1273) (fun c_1254 => ?_) (fun c_1254 => ?_)
          · exact absurd c_1254 (by decide)
          · refine lv_iload hx hb dL_law_1257 (lv_at hl 3 rfl) ?_
            refine lv_if_lt hx hb dL_law_1259 (by decide) (tgt := 1275) (fun c_1259 => ?_) (fun c_1259 => ?_)
            · refine rn_iinc hx hb (n := 1) (lv' := [(12, .int (nI (e + 1))), (18, .int (nI 1)), (11, .int (whF T)), (10, .int (seF T)), (8, .ref (r 6)), (7, .ref (r 5)), (6, .ref (r 4)), (5, .ref (r 3)), (4, .ref (r 2)), (3, .ref (r 1)), (2, .ref (r 0)), (1, .ref (x 0)), (0, .ref bq)]) rfl dL_law_1275 hl (k := 1) rfl (by decide) rfl (fun ls hl => ?_)
              refine lv_goto (tgt := 235) hx hb dL_law_1278 (by decide) ?_
              exact kk ls (lv_sub hl [0, 2, 3, 4, 5, 6, 7, 8, 9, 10, 11, 12] rfl)
            · have hp1 := se_pos c_1259
              have hl : lv_has ls 23 [(18, .int (nI 1)), (12, .int (nI e)), (11, .int (whF T)), (10, .int (nI (T.2 3 0))), (8, .ref (r 6)), (7, .ref (r 5)), (6, .ref (r 4)), (5, .ref (r 3)), (4, .ref (r 2)), (3, .ref (r 1)), (2, .ref (r 0)), (1, .ref (x 0)), (0, .ref bq)] := by have z_ : (seF T) = (nI (T.2 3 0)) := se_at hp1; rw [z_] at hl; exact hl
              refine lv_aload_n hx hb dL_law_1262 rfl (lv_at hl 11 rfl) ?_
              refine lv_aload hx hb dL_law_1263 (lv_at hl 5 rfl) ?_
              refine lv_iload hx hb dL_law_1265 (lv_at hl 3 rfl) ?_
              refine roSg CX hE (va_P_segs (fun _ _ h => hW.hP _ h) [0, 8, 11] rfl) (c_L_probe l G cA x a b T r (by assumption) (by omega)) (va_cwS 3 hts gL_law_L_probe rfl rfl rfl hdn_L_probe ⟨Nat.le_of_ble_eq_true rfl, Nat.le_of_ble_eq_true rfl⟩) B0_blind (fun _ _ _ => trivial) rfl hl.1 (rest := []) rfl (Nat.le_of_ble_eq_true rfl) dL_law_1267 ⟨by omega, by omega⟩ ?_
              refine rn_if_ne hx hb (by omega) dL_law_1270 (by decide) (tgt := 1275) (fun c_1270 => ?_) (fun c_1270 => ?_)
              · have hl : lv_has ls 23 [(18, .int (nI 1)), (12, .int (nI e)), (11, .int (whF T)), (10, .int (seF T)), (8, .ref (r 6)), (7, .ref (r 5)), (6, .ref (r 4)), (5, .ref (r 3)), (4, .ref (r 2)), (3, .ref (r 1)), (2, .ref (r 0)), (1, .ref (x 0)), (0, .ref bq)] := by have z_ : (nI (T.2 3 0)) = (seF T) := (se_at hp1).symm; rw [z_] at hl; exact hl
                refine rn_iinc hx hb (n := 1) (lv' := [(12, .int (nI (e + 1))), (18, .int (nI 1)), (11, .int (whF T)), (10, .int (seF T)), (8, .ref (r 6)), (7, .ref (r 5)), (6, .ref (r 4)), (5, .ref (r 3)), (4, .ref (r 2)), (3, .ref (r 1)), (2, .ref (r 0)), (1, .ref (x 0)), (0, .ref bq)]) rfl dL_law_1275 hl (k := 1) rfl (by decide) rfl (fun ls hl => ?_)
                refine lv_goto (tgt := 235) hx hb dL_law_1278 (by decide) ?_
                exact kk ls (lv_sub hl [0, 2, 3, 4, 5, 6, 7, 8, 9, 10, 11, 12] rfl)
              · exact absurd c_1270 (by decide)
set_option maxHeartbeats 16000000 in
set_option maxRecDepth 100000 in
theorem L_end {p_ : Program} {l : Launch} {e_ : Env} {s_ : State} {m_ : MethodId} {args : Array Value} {below : List Frame} {meth : Method} {c_ : Code} {H : Heap} {locs : List Loc} {cells slots : Nat} {Q : State → Prop} {ls : Array Slot} {G : va_G} {cA : Nat → ClassId} {A_ : Nat → Prop} {x b r : Nat → Nat} {bq L e : Nat} {xs : Nat → Int32} {T : TV} (CX : CallFix p_ m_ c_ cL_law 23 s_ args wsL_law RL) (hE : EK G cA s_) (hA : ∀ q, s_.heap.size ≤ q → A_ q) (hcs : cells ≤ room_1.cells ∧ slots ≤ room_1.slots) (htk : T.2 4 0 ≤ 9 * 46) (hl : lv_has ls 23 [(12, .int (nI e)), (11, .int (whF T)), (10, .int (seF T)), (8, .ref (r 6)), (7, .ref (r 5)), (6, .ref (r 4)), (5, .ref (r 3)), (4, .ref (r 2)), (3, .ref (r 1)), (2, .ref (r 0)), (1, .ref (x 0)), (0, .ref bq)]) (hI : LInv G cA A_ x b r T s_.heap H locs) (kk : ∀ ls : Array Slot, W p_ l e_ room_1 s_ m_ args below meth c_ H locs cells slots Q (F0 m_ 1318 ls [.int (nI 1)])) : W p_ l e_ room_1 s_ m_ args below meth c_ H locs cells slots Q (F0 m_ 1281 ls []) := by
  obtain ⟨hx, hb, hml, hown, hts⟩ := id CX
  obtain ⟨a, ha, hT, hn, ty, pd, hW, hhn, hinv, hfi⟩ := hI
  have hok := hinv.1
  have hdc := hok.1.2
  have hnd := hok.1.1
  have hnp := hok.2.1
  have htk5 : T.2 4 0 ≤ 100000 := by omega
  refine lv_aload_n hx hb dL_law_1281 rfl (lv_at hl 10 rfl) ?_
  refine lv_aload_n hx hb dL_law_1282 rfl (lv_at hl 9 rfl) ?_
  refine lv_aload_n hx hb dL_law_1283 rfl (lv_at hl 8 rfl) ?_
  refine lv_aload hx hb dL_law_1284 (lv_at hl 7 rfl) ?_
  refine lv_aload hx hb dL_law_1286 (lv_at hl 6 rfl) ?_
  refine lv_aload hx hb dL_law_1288 (lv_at hl 5 rfl) ?_
  refine lv_aload hx hb dL_law_1290 (lv_at hl 3 rfl) ?_
  refine roSg CX hE (va_P_segs (fun _ _ h => hW.hP _ h) [0, 8, 10] rfl) (c_L_cells l G cA x a b T r (by assumption) (by assumption) (by assumption)) (va_cwS 7 hts gL_law_L_cells rfl rfl rfl hdn_L_cells ⟨Nat.le_of_ble_eq_true rfl, Nat.le_of_ble_eq_true rfl⟩) B0_blind (fun _ _ _ => trivial) rfl hl.1 (rest := []) rfl (Nat.le_of_ble_eq_true rfl) dL_law_1292 ⟨by omega, by omega⟩ ?_
  refine rn_if_eq hx hb (by omega) dL_law_1295 (by decide) (tgt := 1317) (fun c_1295 => ?_) (fun c_1295 => ?_)
  · exact absurd c_1295 (by decide)
  · refine lv_aload_n hx hb dL_law_1298 rfl (lv_at hl 10 rfl) ?_
    refine lv_aload_n hx hb dL_law_1299 rfl (lv_at hl 9 rfl) ?_
    refine lv_aload_n hx hb dL_law_1300 rfl (lv_at hl 8 rfl) ?_
    refine lv_aload hx hb dL_law_1301 (lv_at hl 7 rfl) ?_
    refine lv_aload hx hb dL_law_1303 (lv_at hl 6 rfl) ?_
    refine lv_aload hx hb dL_law_1305 (lv_at hl 3 rfl) ?_
    refine roSg CX hE (va_P_segs (fun _ _ h => hW.hP _ h) [0, 1, 9, 8, 10] rfl) (c_L_counts l G cA x a b T hn ha ty pd r (by assumption) (by assumption) (by assumption)) (va_cwS 6 hts gL_law_L_counts rfl rfl rfl hdn_L_counts ⟨Nat.le_of_ble_eq_true rfl, Nat.le_of_ble_eq_true rfl⟩) B0_blind (fun _ _ _ => trivial) rfl hl.1 (rest := []) rfl (Nat.le_of_ble_eq_true rfl) dL_law_1307 ⟨by omega, by omega⟩ ?_
    refine rn_if_eq hx hb (by omega) dL_law_1310 (by decide) (tgt := 1317) (fun c_1310 => ?_) (fun c_1310 => ?_)
    · exact absurd c_1310 (by decide)
    · refine rn_iconst hx hb 1 rfl dL_law_1313 ?_
      refine lv_goto (tgt := 1318) hx hb dL_law_1314 (by decide) ?_
      exact kk ls
