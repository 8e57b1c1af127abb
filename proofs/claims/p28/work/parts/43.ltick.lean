theorem w_L_tick_acI : Cond.arrayClass .int ∈ wsL_tick := by decide +kernel
theorem hdn_L_slope : yL_slope.cls ≠ "java/lang/invoke/MethodHandle" ∧ yL_slope.cls ≠ "java/lang/invoke/VarHandle" ∧ (parseMethodDescriptor yL_slope.desc).map (fun d => d.parameters.length) = some 3 := by decide +kernel
set_option maxHeartbeats 16000000 in
set_option maxRecDepth 100000 in
theorem c_L_tick (l : Launch) (G : va_G) (cA : Nat → ClassId) (r : Nat → Nat) (T : TV) (hinv : inv T) (hfi : fiOK T) (htk : T.2 4 0 ≤ 100000) : MK l yL_tick wsL_tick ({ frames := 2, cells := 1, slots := 60, locals := 48 }) G cA BM0 [(r 0, .inl (cA 0, 60, .inl (T.1 1))), (r 1, .inl (cA 0, 60, .inl (T.1 2))), (r 2, .inl (cA 0, 60, .inl (T.1 3))), (r 3, .inl (cA 0, 60, .inl (fun jj_ => gF (T.1 4 jj_)))), (r 4, .inl (cA 0, 20, .inl (dF T))), (r 6, .inl (cA 0, 7, .inl (tF T)))] [.ref (r 0), .ref (r 1), .ref (r 2), .ref (r 3), .ref (r 4), .ref (r 6)] (fun _ => [(r 0, .inl (cA 0, 60, .inl ((stepT T).1 1))), (r 1, .inl (cA 0, 60, .inl ((stepT T).1 2))), (r 2, .inl (cA 0, 60, .inl ((stepT T).1 3))), (r 3, .inl (cA 0, 60, .inl (fun jj_ => gF ((stepT T).1 4 jj_)))), (r 4, .inl (cA 0, 20, .inl (dF (stepT T)))), (r 6, .inl (cA 0, 7, .inl (tF (stepT T))))]) 1 60 := by
  refine MK.mk (own := RL) (by decide) rfl rfl (Nat.le_of_ble_eq_true rfl) (fun p_ e_ s_ m_ below meth c_ ls A_ CX hr hlk hnm_ hW hA hE hB hl => ?_)
  obtain ⟨hx, hb, hml, hown, hts⟩ := id CX
  have hl : lv_has ls 13 [(0, .ref (r 0)), (1, .ref (r 1)), (2, .ref (r 2)), (3, .ref (r 3)), (4, .ref (r 4)), (5, .ref (r 6))] := hl
  have hW : wld G A_ [(r 0, .inl (cA 0, 60, .inl (T.1 1))), (r 1, .inl (cA 0, 60, .inl (T.1 2))), (r 2, .inl (cA 0, 60, .inl (T.1 3))), (r 3, .inl (cA 0, 60, .inl (fun jj_ => gF (T.1 4 jj_)))), (r 4, .inl (cA 0, 20, .inl (dF T))), (r 6, .inl (cA 0, 7, .inl (tF T)))] s_.heap s_.heap [] := hW
  have hdc := hinv.1.1.2
  have hnd := hinv.1.1.1
  refine lv_bipush (v := (nI 60)) hx hb dL_tick_0 kb_60 ?_
  refine rn_newI (n := 60) hx hb (hts _ w_L_tick_acI) hE hW hA (by decide) (Nat.le_of_ble_eq_true rfl) (Nat.le_of_ble_eq_true rfl) dL_tick_2 (fun q1 H hW => ?_)
  have hW : wld G A_ [(r 0, .inl (cA 0, 60, .inl (T.1 1))), (r 1, .inl (cA 0, 60, .inl (T.1 2))), (r 2, .inl (cA 0, 60, .inl (T.1 3))), (r 3, .inl (cA 0, 60, .inl (fun jj_ => gF (T.1 4 jj_)))), (r 4, .inl (cA 0, 20, .inl (dF T))), (r 6, .inl (cA 0, 7, .inl (tF T))), (q1, .inl (cA 0, 60, .inl (fun _ => nI 0)))] s_.heap _ _ := hW
  refine lv_astore (lv' := [(6, .ref q1), (0, .ref (r 0)), (1, .ref (r 1)), (2, .ref (r 2)), (3, .ref (r 3)), (4, .ref (r 4)), (5, .ref (r 6))]) hx hb dL_tick_4 hl (by decide) rfl (fun ls hl => ?_)
  refine rn_iconst hx hb 0 rfl dL_tick_6 ?_
  refine lv_istore (lv' := [(7, .int (nI 0)), (6, .ref q1), (0, .ref (r 0)), (1, .ref (r 1)), (2, .ref (r 2)), (3, .ref (r 3)), (4, .ref (r 4)), (5, .ref (r 6))]) hx hb dL_tick_7 hl (by decide) rfl (fun ls hl => ?_)
  have LP_9 : ∀ (nn_ : Nat) (i : Nat) (n_ : Nat → Int32), (60 - i) < nn_ → (i ≤ 60) → (n_ = spl (stepH T) (fun _ => nI 0) i) → ∀ (H : Heap) (locs : List Loc) (ls : Array Slot), wld G A_ [(r 0, .inl (cA 0, 60, .inl (T.1 1))), (r 1, .inl (cA 0, 60, .inl (T.1 2))), (r 2, .inl (cA 0, 60, .inl (T.1 3))), (r 3, .inl (cA 0, 60, .inl (fun jj_ => gF (T.1 4 jj_)))), (r 4, .inl (cA 0, 20, .inl (dF T))), (r 6, .inl (cA 0, 7, .inl (tF T))), (q1, .inl (cA 0, 60, .inl n_))] s_.heap H locs → lv_has ls 13 [(0, .ref (r 0)), (1, .ref (r 1)), (2, .ref (r 2)), (3, .ref (r 3)), (4, .ref (r 4)), (5, .ref (r 6)), (6, .ref q1), (7, .int (nI i))] → W p_ l e_ ({ frames := 2, cells := 1, slots := 60, locals := 48 } : Room) s_ m_ ([.ref (r 0), .ref (r 1), .ref (r 2), .ref (r 3), .ref (r 4), .ref (r 6)] : List Value).toArray below meth c_ H locs 1 60 (MQ below (va_Qv (fun _ : Nat → Nat => True) (fun _ t_ => va_P G vwCl [(r 0, .inl (cA 0, 60, .inl ((stepT T).1 1))), (r 1, .inl (cA 0, 60, .inl ((stepT T).1 2))), (r 2, .inl (cA 0, 60, .inl ((stepT T).1 3))), (r 3, .inl (cA 0, 60, .inl (fun jj_ => gF ((stepT T).1 4 jj_)))), (r 4, .inl (cA 0, 20, .inl (dF (stepT T)))), (r 6, .inl (cA 0, 7, .inl (tF (stepT T))))] t_.heap ∧ va_D A_ [(r 0, .inl (cA 0, 60, .inl ((stepT T).1 1))), (r 1, .inl (cA 0, 60, .inl ((stepT T).1 2))), (r 2, .inl (cA 0, 60, .inl ((stepT T).1 3))), (r 3, .inl (cA 0, 60, .inl (fun jj_ => gF ((stepT T).1 4 jj_)))), (r 4, .inl (cA 0, 20, .inl (dF (stepT T)))), (r 6, .inl (cA 0, 7, .inl (tF (stepT T))))]) A_) ([.ref (r 0), .ref (r 1), .ref (r 2), .ref (r 3), .ref (r 4), .ref (r 6)] : List Value).toArray s_ 1 60 A_) (F0 m_ 9 ls []) := by
    intro nn_
    induction nn_ with
    | zero => intro i n_ hmu; exact absurd hmu (Nat.not_lt_zero _)
    | succ nn_ ih =>
      have ih_9 := ih
      clear ih
      intro i n_ hmu_9 hi hn_ H locs ls hW hl
      refine lv_iload hx hb dL_tick_9 (lv_at hl 7 rfl) ?_
      refine lv_bipush (v := (nI 60)) hx hb dL_tick_11 kb_60 ?_
      refine rn_icmp_ge hx hb (by omega) (by omega) dL_tick_13 (by decide) (tgt := 316) (fun c_13 => ?_) (fun c_13 => ?_)
      · -- ext
        have hW : wld G A_ [(r 0, .inl (cA 0, 60, .inl (T.1 1))), (r 1, .inl (cA 0, 60, .inl (T.1 2))), (r 2, .inl (cA 0, 60, .inl (T.1 3))), (r 3, .inl (cA 0, 60, .inl (fun jj_ => gF (T.1 4 jj_)))), (r 4, .inl (cA 0, 20, .inl (dF T))), (r 6, .inl (cA 0, 7, .inl (tF T))), (q1, .inl (cA 0, 60, .inl (stepH T)))] s_.heap _ _ := hW.ext 6 (g := (stepH T)) rfl (fun j hj => by rw [hn_, spl_in (by omega)]) rfl
        refine rn_iconst hx hb 0 rfl dL_tick_316 ?_
        refine lv_istore (lv' := [(7, .int (nI 0)), (0, .ref (r 0)), (1, .ref (r 1)), (2, .ref (r 2)), (3, .ref (r 3)), (4, .ref (r 4)), (5, .ref (r 6)), (6, .ref q1)]) hx hb dL_tick_317 hl (by decide) rfl (fun ls hl => ?_)
        have LP_319 : ∀ (nn_ : Nat) (i : Nat) (fb : Nat → Int32) (fa : Nat → Int32) (fg : Nat → Int32), (60 - i) < nn_ → (i ≤ 60) → (fb = spl (T.1 2) (T.1 3) i) → (fa = spl (stepH T) (T.1 2) i) → (fg = spl (fun j => gF (kfF (T.1 0) (stepH T) (T.1 4) (T.2 4 0) j)) (fun j => gF (T.1 4 j)) i) → ∀ (H : Heap) (locs : List Loc) (ls : Array Slot), wld G A_ [(r 0, .inl (cA 0, 60, .inl (T.1 1))), (r 1, .inl (cA 0, 60, .inl fa)), (r 2, .inl (cA 0, 60, .inl fb)), (r 3, .inl (cA 0, 60, .inl fg)), (r 4, .inl (cA 0, 20, .inl (dF T))), (r 6, .inl (cA 0, 7, .inl (tF T))), (q1, .inl (cA 0, 60, .inl (stepH T)))] s_.heap H locs → lv_has ls 13 [(0, .ref (r 0)), (1, .ref (r 1)), (2, .ref (r 2)), (3, .ref (r 3)), (4, .ref (r 4)), (5, .ref (r 6)), (6, .ref q1), (7, .int (nI i))] → W p_ l e_ ({ frames := 2, cells := 1, slots := 60, locals := 48 } : Room) s_ m_ ([.ref (r 0), .ref (r 1), .ref (r 2), .ref (r 3), .ref (r 4), .ref (r 6)] : List Value).toArray below meth c_ H locs 1 60 (MQ below (va_Qv (fun _ : Nat → Nat => True) (fun _ t_ => va_P G vwCl [(r 0, .inl (cA 0, 60, .inl ((stepT T).1 1))), (r 1, .inl (cA 0, 60, .inl ((stepT T).1 2))), (r 2, .inl (cA 0, 60, .inl ((stepT T).1 3))), (r 3, .inl (cA 0, 60, .inl (fun jj_ => gF ((stepT T).1 4 jj_)))), (r 4, .inl (cA 0, 20, .inl (dF (stepT T)))), (r 6, .inl (cA 0, 7, .inl (tF (stepT T))))] t_.heap ∧ va_D A_ [(r 0, .inl (cA 0, 60, .inl ((stepT T).1 1))), (r 1, .inl (cA 0, 60, .inl ((stepT T).1 2))), (r 2, .inl (cA 0, 60, .inl ((stepT T).1 3))), (r 3, .inl (cA 0, 60, .inl (fun jj_ => gF ((stepT T).1 4 jj_)))), (r 4, .inl (cA 0, 20, .inl (dF (stepT T)))), (r 6, .inl (cA 0, 7, .inl (tF (stepT T))))]) A_) ([.ref (r 0), .ref (r 1), .ref (r 2), .ref (r 3), .ref (r 4), .ref (r 6)] : List Value).toArray s_ 1 60 A_) (F0 m_ 319 ls []) := by
          intro nn_
          induction nn_ with
          | zero => intro i fb fa fg hmu; exact absurd hmu (Nat.not_lt_zero _)
          | succ nn_ ih =>
            have ih_319 := ih
            clear ih
            intro i fb fa fg hmu_319 hi hfb hfa hfg H locs ls hW hl
            refine lv_iload hx hb dL_tick_319 (lv_at hl 7 rfl) ?_
            refine lv_bipush (v := (nI 60)) hx hb dL_tick_321 kb_60 ?_
            refine rn_icmp_ge hx hb (by omega) (by omega) dL_tick_323 (by decide) (tgt := 385) (fun c_323 => ?_) (fun c_323 => ?_)
            · refine lv_aload hx hb dL_tick_385 (lv_at hl 5 rfl) ?_
              refine rn_iconst hx hb 4 rfl dL_tick_387 ?_
              refine lv_dup2_11 hx hb dL_tick_388 rfl rfl ?_
              refine rn_iald CX hE hW.1 5 rfl (j := 4) (by omega) (ltb rfl) dL_tick_389 ?_
              refine rn_top (nI (T.2 4 0)) rfl ?_
              refine rn_iconst hx hb 1 rfl dL_tick_390 ?_
              refine rn_iadd hx hb dL_tick_391 ?_
              refine rn_iast (ws' := [(r 0, .inl (cA 0, 60, .inl (T.1 1))), (r 1, .inl (cA 0, 60, .inl fa)), (r 2, .inl (cA 0, 60, .inl fb)), (r 3, .inl (cA 0, 60, .inl fg)), (r 4, .inl (cA 0, 20, .inl (dF T))), (r 6, .inl (cA 0, 7, .inl (upd (tF T) 4 (nI ((T.2 4 0) + 1))))), (q1, .inl (cA 0, 60, .inl (stepH T)))]) CX hE hW 5 rfl (j := 4) (by omega) (ltb rfl) rfl dL_tick_392 (fun H locs hW => ?_)
              have hW := hW.ext (ws' := [(r 0, .inl (cA 0, 60, .inl ((stepT T).1 1))), (r 1, .inl (cA 0, 60, .inl fa)), (r 2, .inl (cA 0, 60, .inl fb)), (r 3, .inl (cA 0, 60, .inl fg)), (r 4, .inl (cA 0, 20, .inl (dF T))), (r 6, .inl (cA 0, 7, .inl (upd (tF T) 4 (nI ((T.2 4 0) + 1))))), (q1, .inl (cA 0, 60, .inl (stepH T)))]) 0 (g := ((stepT T).1 1)) rfl (fun _ _ => rfl) rfl
              have hW := hW.ext (ws' := [(r 0, .inl (cA 0, 60, .inl ((stepT T).1 1))), (r 1, .inl (cA 0, 60, .inl ((stepT T).1 2))), (r 2, .inl (cA 0, 60, .inl fb)), (r 3, .inl (cA 0, 60, .inl fg)), (r 4, .inl (cA 0, 20, .inl (dF T))), (r 6, .inl (cA 0, 7, .inl (upd (tF T) 4 (nI ((T.2 4 0) + 1))))), (q1, .inl (cA 0, 60, .inl (stepH T)))]) 1 (g := ((stepT T).1 2)) rfl (fun j hj => by rw [hfa, spl_in (by omega)]; rfl) rfl
              have hW := hW.ext (ws' := [(r 0, .inl (cA 0, 60, .inl ((stepT T).1 1))), (r 1, .inl (cA 0, 60, .inl ((stepT T).1 2))), (r 2, .inl (cA 0, 60, .inl ((stepT T).1 3))), (r 3, .inl (cA 0, 60, .inl fg)), (r 4, .inl (cA 0, 20, .inl (dF T))), (r 6, .inl (cA 0, 7, .inl (upd (tF T) 4 (nI ((T.2 4 0) + 1))))), (q1, .inl (cA 0, 60, .inl (stepH T)))]) 2 (g := ((stepT T).1 3)) rfl (fun j hj => by rw [hfb, spl_in (by omega)]; rfl) rfl
              have hW := hW.ext (ws' := [(r 0, .inl (cA 0, 60, .inl ((stepT T).1 1))), (r 1, .inl (cA 0, 60, .inl ((stepT T).1 2))), (r 2, .inl (cA 0, 60, .inl ((stepT T).1 3))), (r 3, .inl (cA 0, 60, .inl (fun jj_ => gF ((stepT T).1 4 jj_)))), (r 4, .inl (cA 0, 20, .inl (dF T))), (r 6, .inl (cA 0, 7, .inl (upd (tF T) 4 (nI ((T.2 4 0) + 1))))), (q1, .inl (cA 0, 60, .inl (stepH T)))]) 3 (g := (fun jj_ => gF ((stepT T).1 4 jj_))) rfl (fun j hj => by rw [hfg, spl_in (by omega)]; rfl) rfl
              have hW := hW.ext (ws' := [(r 0, .inl (cA 0, 60, .inl ((stepT T).1 1))), (r 1, .inl (cA 0, 60, .inl ((stepT T).1 2))), (r 2, .inl (cA 0, 60, .inl ((stepT T).1 3))), (r 3, .inl (cA 0, 60, .inl (fun jj_ => gF ((stepT T).1 4 jj_)))), (r 4, .inl (cA 0, 20, .inl (dF (stepT T)))), (r 6, .inl (cA 0, 7, .inl (upd (tF T) 4 (nI ((T.2 4 0) + 1))))), (q1, .inl (cA 0, 60, .inl (stepH T)))]) 4 (g := (dF (stepT T))) rfl (fun _ _ => rfl) rfl
              have hW := hW.ext (ws' := [(r 0, .inl (cA 0, 60, .inl ((stepT T).1 1))), (r 1, .inl (cA 0, 60, .inl ((stepT T).1 2))), (r 2, .inl (cA 0, 60, .inl ((stepT T).1 3))), (r 3, .inl (cA 0, 60, .inl (fun jj_ => gF ((stepT T).1 4 jj_)))), (r 4, .inl (cA 0, 20, .inl (dF (stepT T)))), (r 6, .inl (cA 0, 7, .inl (tF (stepT T)))), (q1, .inl (cA 0, 60, .inl (stepH T)))]) 5 (g := (tF (stepT T))) rfl tF_step rfl
              exact mk_ret CX hr hlk (fun _ => 0) (hW.sub (wc := [(r 0, .inl (cA 0, 60, .inl ((stepT T).1 1))), (r 1, .inl (cA 0, 60, .inl ((stepT T).1 2))), (r 2, .inl (cA 0, 60, .inl ((stepT T).1 3))), (r 3, .inl (cA 0, 60, .inl (fun jj_ => gF ((stepT T).1 4 jj_)))), (r 4, .inl (cA 0, 20, .inl (dF (stepT T)))), (r 6, .inl (cA 0, 7, .inl (tF (stepT T))))]) [0, 1, 2, 3, 4, 5] (by decide) rfl) dL_tick_393
            · have hi7 : i < 60 := c_323
              refine lv_aload_n hx hb dL_tick_326 rfl (lv_at hl 2 rfl) ?_
              refine lv_iload hx hb dL_tick_327 (lv_at hl 7 rfl) ?_
              refine lv_aload_n hx hb dL_tick_329 rfl (lv_at hl 1 rfl) ?_
              refine lv_iload hx hb dL_tick_330 (lv_at hl 7 rfl) ?_
              refine rn_iald CX hE hW.1 1 rfl (j := i) (by omega) (ltb rfl) dL_tick_332 ?_
              refine rn_iast (ws' := [(r 0, .inl (cA 0, 60, .inl (T.1 1))), (r 1, .inl (cA 0, 60, .inl fa)), (r 2, .inl (cA 0, 60, .inl (upd fb i (fa i)))), (r 3, .inl (cA 0, 60, .inl fg)), (r 4, .inl (cA 0, 20, .inl (dF T))), (r 6, .inl (cA 0, 7, .inl (tF T))), (q1, .inl (cA 0, 60, .inl (stepH T)))]) CX hE hW 2 rfl (j := i) (by omega) (ltb rfl) rfl dL_tick_333 (fun H locs hW => ?_)
              refine lv_aload_n hx hb dL_tick_334 rfl (lv_at hl 1 rfl) ?_
              refine lv_iload hx hb dL_tick_335 (lv_at hl 7 rfl) ?_
              refine lv_aload hx hb dL_tick_337 (lv_at hl 6 rfl) ?_
              refine lv_iload hx hb dL_tick_339 (lv_at hl 7 rfl) ?_
              refine rn_iald CX hE hW.1 6 rfl (j := i) (by omega) (ltb rfl) dL_tick_341 ?_
              refine rn_iast (ws' := [(r 0, .inl (cA 0, 60, .inl (T.1 1))), (r 1, .inl (cA 0, 60, .inl (upd fa i ((stepH T) i)))), (r 2, .inl (cA 0, 60, .inl (upd fb i (fa i)))), (r 3, .inl (cA 0, 60, .inl fg)), (r 4, .inl (cA 0, 20, .inl (dF T))), (r 6, .inl (cA 0, 7, .inl (tF T))), (q1, .inl (cA 0, 60, .inl (stepH T)))]) CX hE hW 1 rfl (j := i) (by omega) (ltb rfl) rfl dL_tick_342 (fun H locs hW => ?_)
              refine lv_aload_n hx hb dL_tick_343 rfl (lv_at hl 3 rfl) ?_
              refine lv_iload hx hb dL_tick_344 (lv_at hl 7 rfl) ?_
              refine lv_aload_n hx hb dL_tick_346 rfl (lv_at hl 3 rfl) ?_
              refine lv_iload hx hb dL_tick_347 (lv_at hl 7 rfl) ?_
              refine rn_iald CX hE hW.1 3 rfl (j := i) (by omega) (ltb rfl) dL_tick_349 ?_
              refine rn_top (gF (T.1 4 i)) (by rw [hfg, spl_at]) ?_
              have J_378 : ∀ v : Int32, v = (gF (kfF (T.1 0) (stepH T) (T.1 4) (T.2 4 0) i)) → W p_ l e_ ({ frames := 2, cells := 1, slots := 60, locals := 48 } : Room) s_ m_ ([.ref (r 0), .ref (r 1), .ref (r 2), .ref (r 3), .ref (r 4), .ref (r 6)] : List Value).toArray below meth c_ H locs 1 60 (MQ below (va_Qv (fun _ : Nat → Nat => True) (fun _ t_ => va_P G vwCl [(r 0, .inl (cA 0, 60, .inl ((stepT T).1 1))), (r 1, .inl (cA 0, 60, .inl ((stepT T).1 2))), (r 2, .inl (cA 0, 60, .inl ((stepT T).1 3))), (r 3, .inl (cA 0, 60, .inl (fun jj_ => gF ((stepT T).1 4 jj_)))), (r 4, .inl (cA 0, 20, .inl (dF (stepT T)))), (r 6, .inl (cA 0, 7, .inl (tF (stepT T))))] t_.heap ∧ va_D A_ [(r 0, .inl (cA 0, 60, .inl ((stepT T).1 1))), (r 1, .inl (cA 0, 60, .inl ((stepT T).1 2))), (r 2, .inl (cA 0, 60, .inl ((stepT T).1 3))), (r 3, .inl (cA 0, 60, .inl (fun jj_ => gF ((stepT T).1 4 jj_)))), (r 4, .inl (cA 0, 20, .inl (dF (stepT T)))), (r 6, .inl (cA 0, 7, .inl (tF (stepT T))))]) A_) ([.ref (r 0), .ref (r 1), .ref (r 2), .ref (r 3), .ref (r 4), .ref (r 6)] : List Value).toArray s_ 1 60 A_) (F0 m_ 378 ls [.int v, .int (nI i), .ref (r 3)]) := by
                intro v hv
                subst hv
                refine rn_iast (ws' := [(r 0, .inl (cA 0, 60, .inl (T.1 1))), (r 1, .inl (cA 0, 60, .inl (upd fa i ((stepH T) i)))), (r 2, .inl (cA 0, 60, .inl (upd fb i (fa i)))), (r 3, .inl (cA 0, 60, .inl (upd fg i (gF (kfF (T.1 0) (stepH T) (T.1 4) (T.2 4 0) i))))), (r 4, .inl (cA 0, 20, .inl (dF T))), (r 6, .inl (cA 0, 7, .inl (tF T))), (q1, .inl (cA 0, 60, .inl (stepH T)))]) CX hE hW 3 rfl (j := i) (by omega) (ltb rfl) rfl dL_tick_378 (fun H locs hW => ?_)
                refine rn_iinc hx hb (n := 1) (lv' := [(7, .int (nI (i + 1))), (0, .ref (r 0)), (1, .ref (r 1)), (2, .ref (r 2)), (3, .ref (r 3)), (4, .ref (r 4)), (5, .ref (r 6)), (6, .ref q1)]) rfl dL_tick_379 hl (k := 7) rfl (by decide) rfl (fun ls hl => ?_)
                refine lv_goto (tgt := 319) hx hb dL_tick_382 (by decide) ?_
                exact ih_319 (i + 1) (upd fb i (fa i)) (upd fa i ((stepH T) i)) (upd fg i (gF (kfF (T.1 0) (stepH T) (T.1 4) (T.2 4 0) i))) (by omega) (by omega) (spl_next hfb (by rw [hfa, spl_at])) (spl_next hfa rfl) (spl_next hfg rfl) _ _ ls hW (lv_sub hl [1, 2, 3, 4, 5, 6, 7, 0] rfl)
              refine lv_if_ge hx hb dL_tick_350 (by decide) (tgt := 374) (fun c_350 => ?_) (fun c_350 => ?_)
              · refine lv_aload_n hx hb dL_tick_374 rfl (lv_at hl 3 rfl) ?_
                refine lv_iload hx hb dL_tick_375 (lv_at hl 7 rfl) ?_
                refine rn_iald CX hE hW.1 3 rfl (j := i) (by omega) (ltb rfl) dL_tick_377 ?_
                exact J_378 _ (by first | exact gk_take hfi htk hi7 c_350 c_364 | (rw [hfg, spl_at]; first | exact gk_keep hfi htk hi7 c_350 | exact gk_keep2 c_364))
              · refine lv_aload_n hx hb dL_tick_353 rfl (lv_at hl 1 rfl) ?_
                refine lv_iload hx hb dL_tick_354 (lv_at hl 7 rfl) ?_
                refine rn_iald CX hE hW.1 1 rfl (j := i) (by omega) (ltb rfl) dL_tick_356 ?_
                refine rn_top (stepH T i) (updE rfl) ?_
                refine roS CX hE hW.1 (c_L_amount l G cA (stepH T i) ) (va_cwS 1 hts gL_tick_L_amount rfl rfl rfl hdn_L_amount ⟨Nat.le_of_ble_eq_true rfl, Nat.le_of_ble_eq_true rfl⟩) [] rfl B0_blind (fun _ _ _ => trivial) rfl hl.1 (rest := [.int (nI i), .ref (r 3)]) rfl (Nat.le_of_ble_eq_true rfl) dL_tick_357 ⟨Nat.le_of_ble_eq_true rfl, Nat.le_of_ble_eq_true rfl⟩ ?_
                refine lv_aload hx hb dL_tick_360 (lv_at hl 5 rfl) ?_
                refine rn_iconst hx hb 3 rfl dL_tick_362 ?_
                refine rn_iald CX hE hW.1 5 rfl (j := 3) (by omega) (ltb rfl) dL_tick_363 ?_
                refine rn_top (T.1 0 3) rfl ?_
                refine lv_icmp_le hx hb dL_tick_364 (by decide) (tgt := 374) (fun c_364 => ?_) (fun c_364 => ?_)
                · refine lv_aload_n hx hb dL_tick_374 rfl (lv_at hl 3 rfl) ?_
                  refine lv_iload hx hb dL_tick_375 (lv_at hl 7 rfl) ?_
                  refine rn_iald CX hE hW.1 3 rfl (j := i) (by omega) (ltb rfl) dL_tick_377 ?_
                  exact J_378 _ (by first | exact gk_take hfi htk hi7 c_350 c_364 | (rw [hfg, spl_at]; first | exact gk_keep hfi htk hi7 c_350 | exact gk_keep2 c_364))
                · refine lv_aload hx hb dL_tick_367 (lv_at hl 5 rfl) ?_
                  refine rn_iconst hx hb 4 rfl dL_tick_369 ?_
                  refine rn_iald CX hE hW.1 5 rfl (j := 4) (by omega) (ltb rfl) dL_tick_370 ?_
                  refine rn_top (nI (T.2 4 0)) rfl ?_
                  refine lv_goto (tgt := 378) hx hb dL_tick_371 (by decide) ?_
                  exact J_378 _ (by first | exact gk_take hfi htk hi7 c_350 c_364 | (rw [hfg, spl_at]; first | exact gk_keep hfi htk hi7 c_350 | exact gk_keep2 c_364))
        exact LP_319 _ 0 (T.1 3) (T.1 2) (fun jj_ => gF (T.1 4 jj_)) (Nat.lt_succ_self _) (by omega) spl_0 spl_0 spl_0 _ _ ls hW (lv_sub hl [1, 2, 3, 4, 5, 6, 7, 0] rfl)
      · have hi6 : i < 60 := c_13
        refine lv_aload_n hx hb dL_tick_16 rfl (lv_at hl 0 rfl) ?_
        refine lv_aload_n hx hb dL_tick_17 rfl (lv_at hl 1 rfl) ?_
        refine lv_iload hx hb dL_tick_18 (lv_at hl 7 rfl) ?_
        refine roS CX hE hW.1 (c_L_slope l G cA (r 0) (r 1) (T.1 1) (T.1 2) i (by omega)) (va_cwS 3 hts gL_tick_L_slope rfl rfl rfl hdn_L_slope ⟨Nat.le_of_ble_eq_true rfl, Nat.le_of_ble_eq_true rfl⟩) [0, 1] rfl B0_blind (fun _ _ _ => trivial) rfl hl.1 (rest := []) rfl (Nat.le_of_ble_eq_true rfl) dL_tick_20 ⟨Nat.le_of_ble_eq_true rfl, Nat.le_of_ble_eq_true rfl⟩ ?_
        refine lv_aload_n hx hb dL_tick_23 rfl (lv_at hl 0 rfl) ?_
        refine lv_iload hx hb dL_tick_24 (lv_at hl 7 rfl) ?_
        refine rn_iald CX hE hW.1 0 rfl (j := i) (by omega) (ltb rfl) dL_tick_26 ?_
        have J_41 : ∀ v : Int32, v = (if T.1 1 i = nI 0 then T.1 0 1 else T.1 0 2) → W p_ l e_ ({ frames := 2, cells := 1, slots := 60, locals := 48 } : Room) s_ m_ ([.ref (r 0), .ref (r 1), .ref (r 2), .ref (r 3), .ref (r 4), .ref (r 6)] : List Value).toArray below meth c_ H locs 1 60 (MQ below (va_Qv (fun _ : Nat → Nat => True) (fun _ t_ => va_P G vwCl [(r 0, .inl (cA 0, 60, .inl ((stepT T).1 1))), (r 1, .inl (cA 0, 60, .inl ((stepT T).1 2))), (r 2, .inl (cA 0, 60, .inl ((stepT T).1 3))), (r 3, .inl (cA 0, 60, .inl (fun jj_ => gF ((stepT T).1 4 jj_)))), (r 4, .inl (cA 0, 20, .inl (dF (stepT T)))), (r 6, .inl (cA 0, 7, .inl (tF (stepT T))))] t_.heap ∧ va_D A_ [(r 0, .inl (cA 0, 60, .inl ((stepT T).1 1))), (r 1, .inl (cA 0, 60, .inl ((stepT T).1 2))), (r 2, .inl (cA 0, 60, .inl ((stepT T).1 3))), (r 3, .inl (cA 0, 60, .inl (fun jj_ => gF ((stepT T).1 4 jj_)))), (r 4, .inl (cA 0, 20, .inl (dF (stepT T)))), (r 6, .inl (cA 0, 7, .inl (tF (stepT T))))]) A_) ([.ref (r 0), .ref (r 1), .ref (r 2), .ref (r 3), .ref (r 4), .ref (r 6)] : List Value).toArray s_ 1 60 A_) (F0 m_ 41 ls [.int v, .int (slopeF (T.1 1) (T.1 2) i)]) := by
          intro v hv
          subst hv
          refine lv_imul hx hb dL_tick_41 ?_
          refine lv_istore (lv' := [(8, .int ((slopeF (T.1 1) (T.1 2) i) * (if T.1 1 i = nI 0 then T.1 0 1 else T.1 0 2))), (0, .ref (r 0)), (1, .ref (r 1)), (2, .ref (r 2)), (3, .ref (r 3)), (4, .ref (r 4)), (5, .ref (r 6)), (6, .ref q1), (7, .int (nI i))]) hx hb dL_tick_42 hl (by decide) rfl (fun ls hl => ?_)
          refine lv_aload_n hx hb dL_tick_44 rfl (lv_at hl 2 rfl) ?_
          refine lv_iload hx hb dL_tick_45 (lv_at hl 8 rfl) ?_
          refine rn_iald CX hE hW.1 1 rfl (j := i) (by omega) (ltb rfl) dL_tick_47 ?_
          refine lv_aload_n hx hb dL_tick_48 rfl (lv_at hl 2 rfl) ?_
          refine lv_iload hx hb dL_tick_49 (lv_at hl 8 rfl) ?_
          refine rn_iald CX hE hW.1 1 rfl (j := i) (by omega) (ltb rfl) dL_tick_51 ?_
          refine lv_iadd hx hb dL_tick_52 ?_
          refine lv_aload_n hx hb dL_tick_53 rfl (lv_at hl 3 rfl) ?_
          refine lv_iload hx hb dL_tick_54 (lv_at hl 8 rfl) ?_
          refine rn_iald CX hE hW.1 2 rfl (j := i) (by omega) (ltb rfl) dL_tick_56 ?_
          refine lv_isub hx hb dL_tick_57 ?_
          refine lv_iload hx hb dL_tick_58 (lv_at hl 0 rfl) ?_
          have J_78 : ∀ v : Int32, v = ((slopeF (T.1 1) (T.1 2) i * (if T.1 1 i = nI 0 then T.1 0 1 else T.1 0 2)) / nI 16) → W p_ l e_ ({ frames := 2, cells := 1, slots := 60, locals := 48 } : Room) s_ m_ ([.ref (r 0), .ref (r 1), .ref (r 2), .ref (r 3), .ref (r 4), .ref (r 6)] : List Value).toArray below meth c_ H locs 1 60 (MQ below (va_Qv (fun _ : Nat → Nat => True) (fun _ t_ => va_P G vwCl [(r 0, .inl (cA 0, 60, .inl ((stepT T).1 1))), (r 1, .inl (cA 0, 60, .inl ((stepT T).1 2))), (r 2, .inl (cA 0, 60, .inl ((stepT T).1 3))), (r 3, .inl (cA 0, 60, .inl (fun jj_ => gF ((stepT T).1 4 jj_)))), (r 4, .inl (cA 0, 20, .inl (dF (stepT T)))), (r 6, .inl (cA 0, 7, .inl (tF (stepT T))))] t_.heap ∧ va_D A_ [(r 0, .inl (cA 0, 60, .inl ((stepT T).1 1))), (r 1, .inl (cA 0, 60, .inl ((stepT T).1 2))), (r 2, .inl (cA 0, 60, .inl ((stepT T).1 3))), (r 3, .inl (cA 0, 60, .inl (fun jj_ => gF ((stepT T).1 4 jj_)))), (r 4, .inl (cA 0, 20, .inl (dF (stepT T)))), (r 6, .inl (cA 0, 7, .inl (tF (stepT T))))]) A_) ([.ref (r 0), .ref (r 1), .ref (r 2), .ref (r 3), .ref (r 4), .ref (r 6)] : List Value).toArray s_ 1 60 A_) (F0 m_ 78 ls [.int v, .int ((((T.1 2) i) + ((T.1 2) i)) - ((T.1 3) i))]) := by
            intro v hv
            subst hv
            refine lv_iadd hx hb dL_tick_78 ?_
            refine rn_top (nextH0 (T.1 0) (T.1 1) (T.1 2) (T.1 3) i) tk_h0 ?_
            refine lv_istore (lv' := [(9, .int (nextH0 (T.1 0) (T.1 1) (T.1 2) (T.1 3) i)), (8, .int ((slopeF (T.1 1) (T.1 2) i) * (if T.1 1 i = nI 0 then T.1 0 1 else T.1 0 2))), (0, .ref (r 0)), (1, .ref (r 1)), (2, .ref (r 2)), (3, .ref (r 3)), (4, .ref (r 4)), (5, .ref (r 6)), (6, .ref q1), (7, .int (nI i))]) hx hb dL_tick_79 hl (by decide) rfl (fun ls hl => ?_)
            refine lv_iload hx hb dL_tick_81 (lv_at hl 0 rfl) ?_
            refine roS CX hE hW.1 (c_L_amount l G cA (nextH0 (T.1 0) (T.1 1) (T.1 2) (T.1 3) i) ) (va_cwS 1 hts gL_tick_L_amount rfl rfl rfl hdn_L_amount ⟨Nat.le_of_ble_eq_true rfl, Nat.le_of_ble_eq_true rfl⟩) [] rfl B0_blind (fun _ _ _ => trivial) rfl hl.1 (rest := []) rfl (Nat.le_of_ble_eq_true rfl) dL_tick_83 ⟨Nat.le_of_ble_eq_true rfl, Nat.le_of_ble_eq_true rfl⟩ ?_
            refine lv_aload hx hb dL_tick_86 (lv_at hl 7 rfl) ?_
            refine rn_iconst hx hb 0 rfl dL_tick_88 ?_
            refine rn_iald CX hE hW.1 5 rfl (j := 0) (by omega) (ltb rfl) dL_tick_89 ?_
            refine lv_imul hx hb dL_tick_90 ?_
            refine lv_sipush (v := (nI 1000)) hx hb dL_tick_91 ks_1000 ?_
            refine lv_idiv hx hb dL_tick_94 (by decide +kernel) ?_
            refine lv_istore (lv' := [(10, .int (((iabs (nextH0 (T.1 0) (T.1 1) (T.1 2) (T.1 3) i)) * ((tF T) 0)) / (nI 1000))), (9, .int (nextH0 (T.1 0) (T.1 1) (T.1 2) (T.1 3) i)), (8, .int ((slopeF (T.1 1) (T.1 2) i) * (if T.1 1 i = nI 0 then T.1 0 1 else T.1 0 2))), (0, .ref (r 0)), (1, .ref (r 1)), (2, .ref (r 2)), (3, .ref (r 3)), (4, .ref (r 4)), (5, .ref (r 6)), (6, .ref q1), (7, .int (nI i))]) hx hb dL_tick_95 hl (by decide) rfl (fun ls hl => ?_)
            refine lv_iload hx hb dL_tick_97 (lv_at hl 1 rfl) ?_
            have J_115 : ∀ v : Int32, v = (nextH1 (T.1 0) (T.1 1) (T.1 2) (T.1 3) i) → W p_ l e_ ({ frames := 2, cells := 1, slots := 60, locals := 48 } : Room) s_ m_ ([.ref (r 0), .ref (r 1), .ref (r 2), .ref (r 3), .ref (r 4), .ref (r 6)] : List Value).toArray below meth c_ H locs 1 60 (MQ below (va_Qv (fun _ : Nat → Nat => True) (fun _ t_ => va_P G vwCl [(r 0, .inl (cA 0, 60, .inl ((stepT T).1 1))), (r 1, .inl (cA 0, 60, .inl ((stepT T).1 2))), (r 2, .inl (cA 0, 60, .inl ((stepT T).1 3))), (r 3, .inl (cA 0, 60, .inl (fun jj_ => gF ((stepT T).1 4 jj_)))), (r 4, .inl (cA 0, 20, .inl (dF (stepT T)))), (r 6, .inl (cA 0, 7, .inl (tF (stepT T))))] t_.heap ∧ va_D A_ [(r 0, .inl (cA 0, 60, .inl ((stepT T).1 1))), (r 1, .inl (cA 0, 60, .inl ((stepT T).1 2))), (r 2, .inl (cA 0, 60, .inl ((stepT T).1 3))), (r 3, .inl (cA 0, 60, .inl (fun jj_ => gF ((stepT T).1 4 jj_)))), (r 4, .inl (cA 0, 20, .inl (dF (stepT T)))), (r 6, .inl (cA 0, 7, .inl (tF (stepT T))))]) A_) ([.ref (r 0), .ref (r 1), .ref (r 2), .ref (r 3), .ref (r 4), .ref (r 6)] : List Value).toArray s_ 1 60 A_) (F0 m_ 115 ls [.int v]) := by
              intro v hv
              subst hv
              refine lv_istore (lv' := [(9, .int (nextH1 (T.1 0) (T.1 1) (T.1 2) (T.1 3) i)), (10, .int (((iabs (nextH0 (T.1 0) (T.1 1) (T.1 2) (T.1 3) i)) * ((tF T) 0)) / (nI 1000))), (8, .int ((slopeF (T.1 1) (T.1 2) i) * (if T.1 1 i = nI 0 then T.1 0 1 else T.1 0 2))), (0, .ref (r 0)), (1, .ref (r 1)), (2, .ref (r 2)), (3, .ref (r 3)), (4, .ref (r 4)), (5, .ref (r 6)), (6, .ref q1), (7, .int (nI i))]) hx hb dL_tick_115 hl (by decide) rfl (fun ls hl => ?_)
              refine lv_aload_n hx hb dL_tick_117 rfl (lv_at hl 3 rfl) ?_
              refine lv_iload hx hb dL_tick_118 (lv_at hl 10 rfl) ?_
              refine rn_iald CX hE hW.1 0 rfl (j := i) (by omega) (ltb rfl) dL_tick_120 ?_
              refine rn_iconst hx hb 3 rfl dL_tick_121 ?_
              have J_148 : ∀ v : Int32, v = (if T.1 1 i = nI 3 then (nextH1 (T.1 0) (T.1 1) (T.1 2) (T.1 3) i) / nI 2 else (nextH1 (T.1 0) (T.1 1) (T.1 2) (T.1 3) i)) → W p_ l e_ ({ frames := 2, cells := 1, slots := 60, locals := 48 } : Room) s_ m_ ([.ref (r 0), .ref (r 1), .ref (r 2), .ref (r 3), .ref (r 4), .ref (r 6)] : List Value).toArray below meth c_ H locs 1 60 (MQ below (va_Qv (fun _ : Nat → Nat => True) (fun _ t_ => va_P G vwCl [(r 0, .inl (cA 0, 60, .inl ((stepT T).1 1))), (r 1, .inl (cA 0, 60, .inl ((stepT T).1 2))), (r 2, .inl (cA 0, 60, .inl ((stepT T).1 3))), (r 3, .inl (cA 0, 60, .inl (fun jj_ => gF ((stepT T).1 4 jj_)))), (r 4, .inl (cA 0, 20, .inl (dF (stepT T)))), (r 6, .inl (cA 0, 7, .inl (tF (stepT T))))] t_.heap ∧ va_D A_ [(r 0, .inl (cA 0, 60, .inl ((stepT T).1 1))), (r 1, .inl (cA 0, 60, .inl ((stepT T).1 2))), (r 2, .inl (cA 0, 60, .inl ((stepT T).1 3))), (r 3, .inl (cA 0, 60, .inl (fun jj_ => gF ((stepT T).1 4 jj_)))), (r 4, .inl (cA 0, 20, .inl (dF (stepT T)))), (r 6, .inl (cA 0, 7, .inl (tF (stepT T))))]) A_) ([.ref (r 0), .ref (r 1), .ref (r 2), .ref (r 3), .ref (r 4), .ref (r 6)] : List Value).toArray s_ 1 60 A_) (F0 m_ 148 ls [.int v]) := by
                intro v hv
                subst hv
                refine lv_istore (lv' := [(9, .int (if T.1 1 i = nI 3 then (nextH1 (T.1 0) (T.1 1) (T.1 2) (T.1 3) i) / nI 2 else (nextH1 (T.1 0) (T.1 1) (T.1 2) (T.1 3) i))), (10, .int (((iabs (nextH0 (T.1 0) (T.1 1) (T.1 2) (T.1 3) i)) * ((tF T) 0)) / (nI 1000))), (8, .int ((slopeF (T.1 1) (T.1 2) i) * (if T.1 1 i = nI 0 then T.1 0 1 else T.1 0 2))), (0, .ref (r 0)), (1, .ref (r 1)), (2, .ref (r 2)), (3, .ref (r 3)), (4, .ref (r 4)), (5, .ref (r 6)), (6, .ref q1), (7, .int (nI i))]) hx hb dL_tick_148 hl (by decide) rfl (fun ls hl => ?_)
                refine lv_iload hx hb dL_tick_150 (lv_at hl 0 rfl) ?_
                refine lv_sipush (v := (nI 9999)) hx hb dL_tick_152 ks_9999 ?_
                have J_180 : ∀ v : Int32, v = (nextF (T.1 0) (T.1 1) (T.1 2) (T.1 3) i) → W p_ l e_ ({ frames := 2, cells := 1, slots := 60, locals := 48 } : Room) s_ m_ ([.ref (r 0), .ref (r 1), .ref (r 2), .ref (r 3), .ref (r 4), .ref (r 6)] : List Value).toArray below meth c_ H locs 1 60 (MQ below (va_Qv (fun _ : Nat → Nat => True) (fun _ t_ => va_P G vwCl [(r 0, .inl (cA 0, 60, .inl ((stepT T).1 1))), (r 1, .inl (cA 0, 60, .inl ((stepT T).1 2))), (r 2, .inl (cA 0, 60, .inl ((stepT T).1 3))), (r 3, .inl (cA 0, 60, .inl (fun jj_ => gF ((stepT T).1 4 jj_)))), (r 4, .inl (cA 0, 20, .inl (dF (stepT T)))), (r 6, .inl (cA 0, 7, .inl (tF (stepT T))))] t_.heap ∧ va_D A_ [(r 0, .inl (cA 0, 60, .inl ((stepT T).1 1))), (r 1, .inl (cA 0, 60, .inl ((stepT T).1 2))), (r 2, .inl (cA 0, 60, .inl ((stepT T).1 3))), (r 3, .inl (cA 0, 60, .inl (fun jj_ => gF ((stepT T).1 4 jj_)))), (r 4, .inl (cA 0, 20, .inl (dF (stepT T)))), (r 6, .inl (cA 0, 7, .inl (tF (stepT T))))]) A_) ([.ref (r 0), .ref (r 1), .ref (r 2), .ref (r 3), .ref (r 4), .ref (r 6)] : List Value).toArray s_ 1 60 A_) (F0 m_ 180 ls [.int v]) := by
                  intro v hv
                  subst hv
                  refine lv_istore (lv' := [(9, .int (nextF (T.1 0) (T.1 1) (T.1 2) (T.1 3) i)), (10, .int (((iabs (nextH0 (T.1 0) (T.1 1) (T.1 2) (T.1 3) i)) * ((tF T) 0)) / (nI 1000))), (8, .int ((slopeF (T.1 1) (T.1 2) i) * (if T.1 1 i = nI 0 then T.1 0 1 else T.1 0 2))), (0, .ref (r 0)), (1, .ref (r 1)), (2, .ref (r 2)), (3, .ref (r 3)), (4, .ref (r 4)), (5, .ref (r 6)), (6, .ref q1), (7, .int (nI i))]) hx hb dL_tick_180 hl (by decide) rfl (fun ls hl => ?_)
                  refine rn_iconst hx hb 0 rfl dL_tick_182 ?_
                  refine lv_istore (lv' := [(11, .int (nI 0)), (9, .int (nextF (T.1 0) (T.1 1) (T.1 2) (T.1 3) i)), (10, .int (((iabs (nextH0 (T.1 0) (T.1 1) (T.1 2) (T.1 3) i)) * ((tF T) 0)) / (nI 1000))), (8, .int ((slopeF (T.1 1) (T.1 2) i) * (if T.1 1 i = nI 0 then T.1 0 1 else T.1 0 2))), (0, .ref (r 0)), (1, .ref (r 1)), (2, .ref (r 2)), (3, .ref (r 3)), (4, .ref (r 4)), (5, .ref (r 6)), (6, .ref q1), (7, .int (nI i))]) hx hb dL_tick_183 hl (by decide) rfl (fun ls hl => ?_)
                  have LP_185 : ∀ (nn_ : Nat) (k : Nat) (vv : Int32), (T.2 4 1 - k) < nn_ → (k ≤ T.2 4 1) → (vv = beatF (T.2 0) (T.2 1) (T.1 5) (T.1 6) (T.2 4 0) (fun _ => (nextF (T.1 0) (T.1 1) (T.1 2) (T.1 3) i)) k i) → ∀ (H : Heap) (locs : List Loc) (ls : Array Slot), wld G A_ [(r 0, .inl (cA 0, 60, .inl (T.1 1))), (r 1, .inl (cA 0, 60, .inl (T.1 2))), (r 2, .inl (cA 0, 60, .inl (T.1 3))), (r 3, .inl (cA 0, 60, .inl (fun jj_ => gF (T.1 4 jj_)))), (r 4, .inl (cA 0, 20, .inl (dF T))), (r 6, .inl (cA 0, 7, .inl (tF T))), (q1, .inl (cA 0, 60, .inl n_))] s_.heap H locs → lv_has ls 13 [(0, .ref (r 0)), (1, .ref (r 1)), (2, .ref (r 2)), (3, .ref (r 3)), (4, .ref (r 4)), (5, .ref (r 6)), (6, .ref q1), (7, .int (nI i)), (9, .int vv), (11, .int (nI k))] → W p_ l e_ ({ frames := 2, cells := 1, slots := 60, locals := 48 } : Room) s_ m_ ([.ref (r 0), .ref (r 1), .ref (r 2), .ref (r 3), .ref (r 4), .ref (r 6)] : List Value).toArray below meth c_ H locs 1 60 (MQ below (va_Qv (fun _ : Nat → Nat => True) (fun _ t_ => va_P G vwCl [(r 0, .inl (cA 0, 60, .inl ((stepT T).1 1))), (r 1, .inl (cA 0, 60, .inl ((stepT T).1 2))), (r 2, .inl (cA 0, 60, .inl ((stepT T).1 3))), (r 3, .inl (cA 0, 60, .inl (fun jj_ => gF ((stepT T).1 4 jj_)))), (r 4, .inl (cA 0, 20, .inl (dF (stepT T)))), (r 6, .inl (cA 0, 7, .inl (tF (stepT T))))] t_.heap ∧ va_D A_ [(r 0, .inl (cA 0, 60, .inl ((stepT T).1 1))), (r 1, .inl (cA 0, 60, .inl ((stepT T).1 2))), (r 2, .inl (cA 0, 60, .inl ((stepT T).1 3))), (r 3, .inl (cA 0, 60, .inl (fun jj_ => gF ((stepT T).1 4 jj_)))), (r 4, .inl (cA 0, 20, .inl (dF (stepT T)))), (r 6, .inl (cA 0, 7, .inl (tF (stepT T))))]) A_) ([.ref (r 0), .ref (r 1), .ref (r 2), .ref (r 3), .ref (r 4), .ref (r 6)] : List Value).toArray s_ 1 60 A_) (F0 m_ 185 ls []) := by
                    intro nn_
                    induction nn_ with
                    | zero => intro k vv hmu; exact absurd hmu (Nat.not_lt_zero _)
                    | succ nn_ ih =>
                      have ih_185 := ih
                      clear ih
                      intro k vv hmu_185 hk hvv H locs ls hW hl
                      refine lv_iload hx hb dL_tick_185 (lv_at hl 9 rfl) ?_
                      refine lv_aload hx hb dL_tick_187 (lv_at hl 5 rfl) ?_
                      refine rn_iconst hx hb 5 rfl dL_tick_189 ?_
                      refine rn_iald CX hE hW.1 5 rfl (j := 5) (by omega) (ltb rfl) dL_tick_190 ?_
                      refine rn_top (nI (T.2 4 1)) rfl ?_
                      refine rn_icmp_ge hx hb (by omega) (by omega) dL_tick_191 (by decide) (tgt := 291) (fun c_191 => ?_) (fun c_191 => ?_)
                      · refine lv_aload hx hb dL_tick_291 (lv_at hl 6 rfl) ?_
                        refine lv_iload hx hb dL_tick_293 (lv_at hl 7 rfl) ?_
                        refine lv_aload_n hx hb dL_tick_295 rfl (lv_at hl 0 rfl) ?_
                        refine lv_iload hx hb dL_tick_296 (lv_at hl 7 rfl) ?_
                        refine rn_iald CX hE hW.1 0 rfl (j := i) (by omega) (ltb rfl) dL_tick_298 ?_
                        refine rn_iconst hx hb 2 rfl dL_tick_299 ?_
                        have J_309 : ∀ v : Int32, v = (stepH T i) → W p_ l e_ ({ frames := 2, cells := 1, slots := 60, locals := 48 } : Room) s_ m_ ([.ref (r 0), .ref (r 1), .ref (r 2), .ref (r 3), .ref (r 4), .ref (r 6)] : List Value).toArray below meth c_ H locs 1 60 (MQ below (va_Qv (fun _ : Nat → Nat => True) (fun _ t_ => va_P G vwCl [(r 0, .inl (cA 0, 60, .inl ((stepT T).1 1))), (r 1, .inl (cA 0, 60, .inl ((stepT T).1 2))), (r 2, .inl (cA 0, 60, .inl ((stepT T).1 3))), (r 3, .inl (cA 0, 60, .inl (fun jj_ => gF ((stepT T).1 4 jj_)))), (r 4, .inl (cA 0, 20, .inl (dF (stepT T)))), (r 6, .inl (cA 0, 7, .inl (tF (stepT T))))] t_.heap ∧ va_D A_ [(r 0, .inl (cA 0, 60, .inl ((stepT T).1 1))), (r 1, .inl (cA 0, 60, .inl ((stepT T).1 2))), (r 2, .inl (cA 0, 60, .inl ((stepT T).1 3))), (r 3, .inl (cA 0, 60, .inl (fun jj_ => gF ((stepT T).1 4 jj_)))), (r 4, .inl (cA 0, 20, .inl (dF (stepT T)))), (r 6, .inl (cA 0, 7, .inl (tF (stepT T))))]) A_) ([.ref (r 0), .ref (r 1), .ref (r 2), .ref (r 3), .ref (r 4), .ref (r 6)] : List Value).toArray s_ 1 60 A_) (F0 m_ 309 ls [.int v, .int (nI i), .ref q1]) := by
                          intro v hv
                          subst hv
                          refine rn_iast (ws' := [(r 0, .inl (cA 0, 60, .inl (T.1 1))), (r 1, .inl (cA 0, 60, .inl (T.1 2))), (r 2, .inl (cA 0, 60, .inl (T.1 3))), (r 3, .inl (cA 0, 60, .inl (fun jj_ => gF (T.1 4 jj_)))), (r 4, .inl (cA 0, 20, .inl (dF T))), (r 6, .inl (cA 0, 7, .inl (tF T))), (q1, .inl (cA 0, 60, .inl (upd n_ i (stepH T i))))]) CX hE hW 6 rfl (j := i) (by omega) (ltb rfl) rfl dL_tick_309 (fun H locs hW => ?_)
                          refine rn_iinc hx hb (n := 1) (lv' := [(7, .int (nI (i + 1))), (0, .ref (r 0)), (1, .ref (r 1)), (2, .ref (r 2)), (3, .ref (r 3)), (4, .ref (r 4)), (5, .ref (r 6)), (6, .ref q1), (9, .int vv), (11, .int (nI k))]) rfl dL_tick_310 hl (k := 7) rfl (by decide) rfl (fun ls hl => ?_)
                          refine lv_goto (tgt := 9) hx hb dL_tick_313 (by decide) ?_
                          exact ih_9 (i + 1) (upd n_ i (stepH T i)) (by omega) (by omega) (spl_next hn_ rfl) _ _ ls hW (lv_sub hl [1, 2, 3, 4, 5, 6, 7, 0] rfl)
                        refine lv_icmp_ne hx hb dL_tick_300 (by decide) (tgt := 307) (fun c_300 => ?_) (fun c_300 => ?_)
                        · refine lv_iload hx hb dL_tick_307 (lv_at hl 8 rfl) ?_
                          exact J_309 _ (by first | exact tk_wall hinv hi6 c_300 | exact tk_free c_300 hk c_191 hvv)
                        · refine rn_iconst hx hb 0 rfl dL_tick_303 ?_
                          refine lv_goto (tgt := 309) hx hb dL_tick_304 (by decide) ?_
                          exact J_309 _ (by first | exact tk_wall hinv hi6 c_300 | exact tk_free c_300 hk c_191 hvv)
                      · have hdk := hdc k (by omega)
                        have hdp := (hinv.2.2.2.1 k (by omega)).1
                        refine lv_aload hx hb dL_tick_194 (lv_at hl 5 rfl) ?_
                        refine rn_iconst hx hb 4 rfl dL_tick_196 ?_
                        refine rn_iald CX hE hW.1 5 rfl (j := 4) (by omega) (ltb rfl) dL_tick_197 ?_
                        refine rn_top (nI (T.2 4 0)) rfl ?_
                        refine lv_aload hx hb dL_tick_198 (lv_at hl 4 rfl) ?_
                        refine rn_iconst hx hb 4 rfl dL_tick_200 ?_
                        refine lv_iload hx hb dL_tick_201 (lv_at hl 9 rfl) ?_
                        refine rn_imul hx hb dL_tick_203 ?_
                        refine rn_iconst hx hb 3 rfl dL_tick_204 ?_
                        refine rn_iadd hx hb dL_tick_205 ?_
                        refine rn_iald CX hE hW.1 4 rfl (j := ((4 * k) + 3)) (by omega) (ltb rfl) dL_tick_206 ?_
                        refine rn_top (T.1 6 k) dF_3 ?_
                        refine lv_iadd hx hb dL_tick_207 ?_
                        refine lv_aload hx hb dL_tick_208 (lv_at hl 4 rfl) ?_
                        refine rn_iconst hx hb 4 rfl dL_tick_210 ?_
                        refine lv_iload hx hb dL_tick_211 (lv_at hl 9 rfl) ?_
                        refine rn_imul hx hb dL_tick_213 ?_
                        refine rn_iconst hx hb 1 rfl dL_tick_214 ?_
                        refine rn_iadd hx hb dL_tick_215 ?_
                        refine rn_iald CX hE hW.1 4 rfl (j := ((4 * k) + 1)) (by omega) (ltb rfl) dL_tick_216 ?_
                        refine rn_top (nI (T.2 1 k)) dF_1 ?_
                        refine lv_irem hx hb dL_tick_217 (nI_ne0 (by omega) (by omega)) ?_
                        refine lv_aload hx hb dL_tick_218 (lv_at hl 4 rfl) ?_
                        refine rn_iconst hx hb 4 rfl dL_tick_220 ?_
                        refine lv_iload hx hb dL_tick_221 (lv_at hl 9 rfl) ?_
                        refine rn_imul hx hb dL_tick_223 ?_
                        refine rn_iconst hx hb 1 rfl dL_tick_224 ?_
                        refine rn_iadd hx hb dL_tick_225 ?_
                        refine rn_iald CX hE hW.1 4 rfl (j := ((4 * k) + 1)) (by omega) (ltb rfl) dL_tick_226 ?_
                        refine rn_top (nI (T.2 1 k)) dF_1 ?_
                        refine rn_iconst hx hb 2 rfl dL_tick_227 ?_
                        refine rn_idiv hx hb (by omega) (by omega) (by omega) dL_tick_228 ?_
                        have J_237 : ∀ v : Int32, v = (b2i (¬ upP (T.2 1) (T.1 6) (T.2 4 0) k)) → W p_ l e_ ({ frames := 2, cells := 1, slots := 60, locals := 48 } : Room) s_ m_ ([.ref (r 0), .ref (r 1), .ref (r 2), .ref (r 3), .ref (r 4), .ref (r 6)] : List Value).toArray below meth c_ H locs 1 60 (MQ below (va_Qv (fun _ : Nat → Nat => True) (fun _ t_ => va_P G vwCl [(r 0, .inl (cA 0, 60, .inl ((stepT T).1 1))), (r 1, .inl (cA 0, 60, .inl ((stepT T).1 2))), (r 2, .inl (cA 0, 60, .inl ((stepT T).1 3))), (r 3, .inl (cA 0, 60, .inl (fun jj_ => gF ((stepT T).1 4 jj_)))), (r 4, .inl (cA 0, 20, .inl (dF (stepT T)))), (r 6, .inl (cA 0, 7, .inl (tF (stepT T))))] t_.heap ∧ va_D A_ [(r 0, .inl (cA 0, 60, .inl ((stepT T).1 1))), (r 1, .inl (cA 0, 60, .inl ((stepT T).1 2))), (r 2, .inl (cA 0, 60, .inl ((stepT T).1 3))), (r 3, .inl (cA 0, 60, .inl (fun jj_ => gF ((stepT T).1 4 jj_)))), (r 4, .inl (cA 0, 20, .inl (dF (stepT T)))), (r 6, .inl (cA 0, 7, .inl (tF (stepT T))))]) A_) ([.ref (r 0), .ref (r 1), .ref (r 2), .ref (r 3), .ref (r 4), .ref (r 6)] : List Value).toArray s_ 1 60 A_) (F0 m_ 237 ls [.int v]) := by
                          intro v hv
                          subst hv
                          refine lv_istore (lv' := [(12, .int (b2i (¬ upP (T.2 1) (T.1 6) (T.2 4 0) k))), (0, .ref (r 0)), (1, .ref (r 1)), (2, .ref (r 2)), (3, .ref (r 3)), (4, .ref (r 4)), (5, .ref (r 6)), (6, .ref q1), (7, .int (nI i)), (9, .int vv), (11, .int (nI k))]) hx hb dL_tick_237 hl (by decide) rfl (fun ls hl => ?_)
                          refine lv_aload hx hb dL_tick_239 (lv_at hl 5 rfl) ?_
                          refine rn_iconst hx hb 4 rfl dL_tick_241 ?_
                          refine lv_iload hx hb dL_tick_242 (lv_at hl 10 rfl) ?_
                          refine rn_imul hx hb dL_tick_244 ?_
                          refine rn_iald CX hE hW.1 4 rfl (j := (4 * k)) (by omega) (ltb rfl) dL_tick_245 ?_
                          refine rn_top (nI (T.2 0 k)) dF_0 ?_
                          refine lv_iload hx hb dL_tick_246 (lv_at hl 8 rfl) ?_
                          have J_283 : ∀ v : Int32, v = (if T.2 0 k = i then (if upP (T.2 1) (T.1 6) (T.2 4 0) k then T.1 5 k else -T.1 5 k) else vv) → W p_ l e_ ({ frames := 2, cells := 1, slots := 60, locals := 48 } : Room) s_ m_ ([.ref (r 0), .ref (r 1), .ref (r 2), .ref (r 3), .ref (r 4), .ref (r 6)] : List Value).toArray below meth c_ H locs 1 60 (MQ below (va_Qv (fun _ : Nat → Nat => True) (fun _ t_ => va_P G vwCl [(r 0, .inl (cA 0, 60, .inl ((stepT T).1 1))), (r 1, .inl (cA 0, 60, .inl ((stepT T).1 2))), (r 2, .inl (cA 0, 60, .inl ((stepT T).1 3))), (r 3, .inl (cA 0, 60, .inl (fun jj_ => gF ((stepT T).1 4 jj_)))), (r 4, .inl (cA 0, 20, .inl (dF (stepT T)))), (r 6, .inl (cA 0, 7, .inl (tF (stepT T))))] t_.heap ∧ va_D A_ [(r 0, .inl (cA 0, 60, .inl ((stepT T).1 1))), (r 1, .inl (cA 0, 60, .inl ((stepT T).1 2))), (r 2, .inl (cA 0, 60, .inl ((stepT T).1 3))), (r 3, .inl (cA 0, 60, .inl (fun jj_ => gF ((stepT T).1 4 jj_)))), (r 4, .inl (cA 0, 20, .inl (dF (stepT T)))), (r 6, .inl (cA 0, 7, .inl (tF (stepT T))))]) A_) ([.ref (r 0), .ref (r 1), .ref (r 2), .ref (r 3), .ref (r 4), .ref (r 6)] : List Value).toArray s_ 1 60 A_) (F0 m_ 283 ls [.int v]) := by
                            intro v hv
                            subst hv
                            refine lv_istore (lv' := [(9, .int (if T.2 0 k = i then (if upP (T.2 1) (T.1 6) (T.2 4 0) k then T.1 5 k else -T.1 5 k) else vv)), (12, .int (b2i (¬ upP (T.2 1) (T.1 6) (T.2 4 0) k))), (0, .ref (r 0)), (1, .ref (r 1)), (2, .ref (r 2)), (3, .ref (r 3)), (4, .ref (r 4)), (5, .ref (r 6)), (6, .ref q1), (7, .int (nI i)), (11, .int (nI k))]) hx hb dL_tick_283 hl (by decide) rfl (fun ls hl => ?_)
                            refine rn_iinc hx hb (n := 1) (lv' := [(11, .int (nI (k + 1))), (9, .int (if T.2 0 k = i then (if upP (T.2 1) (T.1 6) (T.2 4 0) k then T.1 5 k else -T.1 5 k) else vv)), (12, .int (b2i (¬ upP (T.2 1) (T.1 6) (T.2 4 0) k))), (0, .ref (r 0)), (1, .ref (r 1)), (2, .ref (r 2)), (3, .ref (r 3)), (4, .ref (r 4)), (5, .ref (r 6)), (6, .ref q1), (7, .int (nI i))]) rfl dL_tick_285 hl (k := 10) rfl (by decide) rfl (fun ls hl => ?_)
                            refine lv_goto (tgt := 185) hx hb dL_tick_288 (by decide) ?_
                            exact ih_185 (k + 1) (if T.2 0 k = i then (if upP (T.2 1) (T.1 6) (T.2 4 0) k then T.1 5 k else -T.1 5 k) else vv) (by omega) (by omega) (bt_next hvv) _ _ ls hW (lv_sub hl [3, 4, 5, 6, 7, 8, 9, 10, 1, 0] rfl)
                          refine rn_icmp_ne hx hb (by omega) (by omega) dL_tick_248 (by decide) (tgt := 281) (fun c_248 => ?_) (fun c_248 => ?_)
                          · refine lv_iload hx hb dL_tick_281 (lv_at hl 9 rfl) ?_
                            exact J_283 _ (by first | exact (if_neg c_248).symm | (rw [if_pos c_248]; first | exact (if_pos (Decidable.not_not.mp c_253)).symm | exact (if_neg c_253).symm))
                          · refine lv_iload hx hb dL_tick_251 (lv_at hl 0 rfl) ?_
                            refine rb_if_eq hx hb dL_tick_253 (by decide) (tgt := 269) (fun c_253 => ?_) (fun c_253 => ?_)
                            · refine lv_aload hx hb dL_tick_269 (lv_at hl 5 rfl) ?_
                              refine rn_iconst hx hb 4 rfl dL_tick_271 ?_
                              refine lv_iload hx hb dL_tick_272 (lv_at hl 10 rfl) ?_
                              refine rn_imul hx hb dL_tick_274 ?_
                              refine rn_iconst hx hb 2 rfl dL_tick_275 ?_
                              refine rn_iadd hx hb dL_tick_276 ?_
                              refine rn_iald CX hE hW.1 4 rfl (j := ((4 * k) + 2)) (by omega) (ltb rfl) dL_tick_277 ?_
                              refine rn_top (T.1 5 k) dF_2 ?_
                              refine lv_goto (tgt := 283) hx hb dL_tick_278 (by decide) ?_
                              exact J_283 _ (by first | exact (if_neg c_248).symm | (rw [if_pos c_248]; first | exact (if_pos (Decidable.not_not.mp c_253)).symm | exact (if_neg c_253).symm))
                            · refine lv_aload hx hb dL_tick_256 (lv_at hl 5 rfl) ?_
                              refine rn_iconst hx hb 4 rfl dL_tick_258 ?_
                              refine lv_iload hx hb dL_tick_259 (lv_at hl 10 rfl) ?_
                              refine rn_imul hx hb dL_tick_261 ?_
                              refine rn_iconst hx hb 2 rfl dL_tick_262 ?_
                              refine rn_iadd hx hb dL_tick_263 ?_
                              refine rn_iald CX hE hW.1 4 rfl (j := ((4 * k) + 2)) (by omega) (ltb rfl) dL_tick_264 ?_
                              refine rn_top (T.1 5 k) dF_2 ?_
                              refine lv_ineg hx hb dL_tick_265 ?_
                              refine lv_goto (tgt := 283) hx hb dL_tick_266 (by decide) ?_
                              exact J_283 _ (by first | exact (if_neg c_248).symm | (rw [if_pos c_248]; first | exact (if_pos (Decidable.not_not.mp c_253)).symm | exact (if_neg c_253).symm))
                        refine lv_icmp_ge hx hb dL_tick_229 (by decide) (tgt := 236) (fun c_229 => ?_) (fun c_229 => ?_)
                        · refine rn_iconst hx hb 0 rfl dL_tick_236 ?_
                          exact J_237 _ (by first | exact b2i_f (fun z => z ⟨by omega, c_229⟩) | exact b2i_t (fun z => c_229 z.2))
                        · refine rn_iconst hx hb 1 rfl dL_tick_232 ?_
                          refine lv_goto (tgt := 237) hx hb dL_tick_233 (by decide) ?_
                          exact J_237 _ (by first | exact b2i_f (fun z => z ⟨by omega, c_229⟩) | exact b2i_t (fun z => c_229 z.2))
                  exact LP_185 _ 0 (nextF (T.1 0) (T.1 1) (T.1 2) (T.1 3) i) (Nat.lt_succ_self _) (Nat.zero_le _) rfl _ _ ls hW (lv_sub hl [4, 5, 6, 7, 8, 9, 10, 11, 1, 0] rfl)
                refine lv_icmp_le hx hb dL_tick_155 (by decide) (tgt := 164) (fun c_155 => ?_) (fun c_155 => ?_)
                · refine lv_iload hx hb dL_tick_164 (lv_at hl 0 rfl) ?_
                  refine lv_sipush (v := (-9999)) hx hb dL_tick_166 ks_m9999 ?_
                  refine lv_icmp_ge hx hb dL_tick_169 (by decide) (tgt := 178) (fun c_169 => ?_) (fun c_169 => ?_)
                  · refine lv_iload hx hb dL_tick_178 (lv_at hl 0 rfl) ?_
                    exact J_180 _ (by first | exact kept_hi c_155 | exact kept_mid c_169 c_155 | exact kept_lo c_169)
                  · refine lv_sipush (v := (-9999)) hx hb dL_tick_172 ks_m9999 ?_
                    refine lv_goto (tgt := 180) hx hb dL_tick_175 (by decide) ?_
                    exact J_180 _ (by first | exact kept_hi c_155 | exact kept_mid c_169 c_155 | exact kept_lo c_169)
                · refine lv_sipush (v := (nI 9999)) hx hb dL_tick_158 ks_9999 ?_
                  refine lv_goto (tgt := 180) hx hb dL_tick_161 (by decide) ?_
                  exact J_180 _ (by first | exact kept_hi c_155 | exact kept_mid c_169 c_155 | exact kept_lo c_169)
              refine lv_icmp_eq hx hb dL_tick_122 (by decide) (tgt := 130) (fun c_122 => ?_) (fun c_122 => ?_)
              · refine lv_iload hx hb dL_tick_130 (lv_at hl 0 rfl) ?_
                refine lv_if_ge hx hb dL_tick_132 (by decide) (tgt := 144) (fun c_132 => ?_) (fun c_132 => ?_)
                · refine lv_iload hx hb dL_tick_144 (lv_at hl 0 rfl) ?_
                  refine rn_iconst hx hb 2 rfl dL_tick_146 ?_
                  refine lv_idiv hx hb dL_tick_147 (by decide +kernel) ?_
                  exact J_148 _ (by first | exact (if_neg c_122).symm | exact (if_pos c_122).symm | exact (tk_2 hinv hi6).trans (if_pos c_122).symm)
                · refine lv_iload hx hb dL_tick_135 (lv_at hl 0 rfl) ?_
                  refine lv_ineg hx hb dL_tick_137 ?_
                  refine rn_iconst hx hb 2 rfl dL_tick_138 ?_
                  refine lv_idiv hx hb dL_tick_139 (by decide +kernel) ?_
                  refine lv_ineg hx hb dL_tick_140 ?_
                  refine lv_goto (tgt := 148) hx hb dL_tick_141 (by decide) ?_
                  exact J_148 _ (by first | exact (if_neg c_122).symm | exact (if_pos c_122).symm | exact (tk_2 hinv hi6).trans (if_pos c_122).symm)
              · refine lv_iload hx hb dL_tick_125 (lv_at hl 0 rfl) ?_
                refine lv_goto (tgt := 148) hx hb dL_tick_127 (by decide) ?_
                exact J_148 _ (by first | exact (if_neg c_122).symm | exact (if_pos c_122).symm | exact (tk_2 hinv hi6).trans (if_pos c_122).symm)
            refine lv_if_ge hx hb dL_tick_99 (by decide) (tgt := 110) (fun c_99 => ?_) (fun c_99 => ?_)
            · refine lv_iload hx hb dL_tick_110 (lv_at hl 1 rfl) ?_
              refine lv_iload hx hb dL_tick_112 (lv_at hl 0 rfl) ?_
              refine lv_isub hx hb dL_tick_114 ?_
              exact J_115 _ (by first | exact tk_h1p c_99 | exact tk_h1n hinv hi6 c_99)
            · refine lv_iload hx hb dL_tick_102 (lv_at hl 1 rfl) ?_
              refine lv_iload hx hb dL_tick_104 (lv_at hl 0 rfl) ?_
              refine lv_iadd hx hb dL_tick_106 ?_
              refine lv_goto (tgt := 115) hx hb dL_tick_107 (by decide) ?_
              exact J_115 _ (by first | exact tk_h1p c_99 | exact tk_h1n hinv hi6 c_99)
          refine lv_if_ge hx hb dL_tick_60 (by decide) (tgt := 73) (fun c_60 => ?_) (fun c_60 => ?_)
          · refine lv_iload hx hb dL_tick_73 (lv_at hl 0 rfl) ?_
            refine lv_bipush (v := (nI 16)) hx hb dL_tick_75 kb_16 ?_
            refine lv_idiv hx hb dL_tick_77 (by decide +kernel) ?_
            exact J_78 _ (by first | rfl | exact tk_16 hinv hi6)
          · refine lv_iload hx hb dL_tick_63 (lv_at hl 0 rfl) ?_
            refine lv_ineg hx hb dL_tick_65 ?_
            refine lv_bipush (v := (nI 16)) hx hb dL_tick_66 kb_16 ?_
            refine lv_idiv hx hb dL_tick_68 (by decide +kernel) ?_
            refine lv_ineg hx hb dL_tick_69 ?_
            refine lv_goto (tgt := 78) hx hb dL_tick_70 (by decide) ?_
            exact J_78 _ (by first | rfl | exact tk_16 hinv hi6)
        refine lv_if_ne hx hb dL_tick_27 (by decide) (tgt := 37) (fun c_27 => ?_) (fun c_27 => ?_)
        · refine lv_aload hx hb dL_tick_37 (lv_at hl 5 rfl) ?_
          refine rn_iconst hx hb 2 rfl dL_tick_39 ?_
          refine rn_iald CX hE hW.1 5 rfl (j := 2) (by omega) (ltb rfl) dL_tick_40 ?_
          exact J_41 _ (by first | exact (if_neg c_27).symm | exact (if_pos c_27).symm)
        · refine lv_aload hx hb dL_tick_30 (lv_at hl 5 rfl) ?_
          refine rn_iconst hx hb 1 rfl dL_tick_32 ?_
          refine rn_iald CX hE hW.1 5 rfl (j := 1) (by omega) (ltb rfl) dL_tick_33 ?_
          refine lv_goto (tgt := 41) hx hb dL_tick_34 (by decide) ?_
          exact J_41 _ (by first | exact (if_neg c_27).symm | exact (if_pos c_27).symm)
  exact LP_9 _ 0 (fun _ => nI 0) (Nat.lt_succ_self _) (by omega) spl_0 _ _ ls hW (lv_sub hl [2, 3, 4, 5, 6, 7, 1, 0] rfl)
