theorem hdv_X6_dipperIn : yX6_dipperIn.cls = RX6 ∧ yX6_dipperIn.cls ≠ "java/lang/invoke/MethodHandle" ∧ yX6_dipperIn.cls ≠ "java/lang/invoke/VarHandle" ∧ (parseMethodDescriptor yX6_dipperIn.desc).map (fun d => d.parameters.length) = some 1 := by decide +kernel
theorem fl_X6_heightThen_7 : Cond.fieldLink RX6 7 RX6 (TX6 0).2.1 (TX6 0).2.2.1 ∈ wsX6_heightThen := by decide +kernel
theorem in_X6_heightThen_X6 : ∀ w ∈ wsX60, w ∈ wsX6_heightThen := by decide +kernel
theorem hdv_X6_slope : yX6_slope.cls = RX6 ∧ yX6_slope.cls ≠ "java/lang/invoke/MethodHandle" ∧ yX6_slope.cls ≠ "java/lang/invoke/VarHandle" ∧ (parseMethodDescriptor yX6_slope.desc).map (fun d => d.parameters.length) = some 1 := by decide +kernel
theorem hdn_X6_kept : yX6_kept.cls ≠ "java/lang/invoke/MethodHandle" ∧ yX6_kept.cls ≠ "java/lang/invoke/VarHandle" ∧ (parseMethodDescriptor yX6_kept.desc).map (fun d => d.parameters.length) = some 1 := by decide +kernel
theorem hdv_X6_isUp : yX6_isUp.cls = RX6 ∧ yX6_isUp.cls ≠ "java/lang/invoke/MethodHandle" ∧ yX6_isUp.cls ≠ "java/lang/invoke/VarHandle" ∧ (parseMethodDescriptor yX6_isUp.desc).map (fun d => d.parameters.length) = some 1 := by decide +kernel
set_option maxHeartbeats 4000000 in
set_option maxRecDepth 100000 in
theorem c_X6_heightThen (l : Launch) (G : va_G) (cA : Nat → ClassId) (m : Nat → Nat) (pm : Nat) (ty : Nat) (z : Nat → Int32) (nd : Nat) (c : Nat) (hc : c < 60) (hnd : nd ≤ 5) (hz : z 245 = nI nd) (hpe : ∀ d, d < nd → ¬ z (246 + 4 * d + 1) = 0) : RO l yX6_heightThen wsX6_heightThen ({ frames := 4, cells := 0, slots := 0, locals := 89 }) G cA B0 [(m 0, .inr (6, [.ref (m 1), .ref (m 2), .ref (m 3), .ref (m 4), .int (nI pm), .ref (m 5), .ref (m 6), .int (nI ty), .ref (m 7)])), (m 1, .inl (cA 0, 345, .inl z))] [.ref (m 0), .int (nI c)] (thenF z nd c) := by
  refine RO.mk (own := RX6) (by decide) rfl rfl (Nat.le_of_ble_eq_true rfl) (fun p_ e_ s_ m_ below meth c_ ls CX hr hlk hP hE hB hl => ?_)
  obtain ⟨hx, hb, hml, hown, hts⟩ := id CX
  have hl : lv_has ls 5 [(0, .ref (m 0)), (1, .int (nI c))] := hl
  refine lv_aload_n hx hb dX6_heightThen_0 rfl (lv_at hl 0 rfl) ?_
  refine lv_iload_n hx hb dX6_heightThen_1 rfl (lv_at hl 1 rfl) ?_
  refine roV CX hE hP (c_X6_isWall l G cA m pm ty z c (by omega)) (cwV 1 hts gX6_heightThen_X6_isWall rfl rfl rfl hdv_X6_isWall ⟨Nat.le_of_ble_eq_true rfl, Nat.le_of_ble_eq_true rfl⟩) [0, 1] rfl 0 rfl rfl rfl B0_blind (fun _ _ _ => trivial) rfl hl.1 (rest := []) rfl (Nat.le_of_ble_eq_true rfl) dX6_heightThen_2 ⟨Nat.zero_le _, Nat.zero_le _⟩ ?_
  refine rb_if_eq hx hb dX6_heightThen_5 (by decide) (tgt := 10) (fun c_5 => ?_) (fun c_5 => ?_)
  · refine lv_aload_n hx hb dX6_heightThen_10 rfl (lv_at hl 0 rfl) ?_
    refine lv_iload_n hx hb dX6_heightThen_11 rfl (lv_at hl 1 rfl) ?_
    refine roV CX hE hP (c_X6_dipperIn l G cA m pm ty z nd c (by omega) (by assumption)) (cwV 1 hts gX6_heightThen_X6_dipperIn rfl rfl rfl hdv_X6_dipperIn ⟨Nat.le_of_ble_eq_true rfl, Nat.le_of_ble_eq_true rfl⟩) [0, 1] rfl 0 rfl rfl rfl B0_blind (fun _ _ _ => trivial) rfl hl.1 (rest := []) rfl (Nat.le_of_ble_eq_true rfl) dX6_heightThen_12 ⟨Nat.zero_le _, Nat.zero_le _⟩ ?_
    refine lv_istore_n (lv' := [(2, .int (dinF z c nd)), (0, .ref (m 0)), (1, .int (nI c))]) hx hb dX6_heightThen_15 rfl hl (by decide) rfl (fun ls hl => ?_)
    refine lv_iload_n hx hb dX6_heightThen_16 rfl (lv_at hl 0 rfl) ?_
    refine lv_bipush (v := (-6)) hx hb dX6_heightThen_17 kb_m6 ?_
    refine lv_icmp_eq hx hb dX6_heightThen_19 (by decide) (tgt := 47) (fun c_19 => ?_) (fun c_19 => ?_)
    · refine lv_aload_n hx hb dX6_heightThen_47 rfl (lv_at hl 1 rfl) ?_
      refine rg (T := TX6) (N := 9) CX hE hP in_X6_heightThen_X6 0 rfl rfl 0 (by decide) fl_X6_heightThen_7 rfl rfl dX6_heightThen_48 ?_
      refine rn_iconst hx hb 5 rfl dX6_heightThen_51 ?_
      refine lv_iload_n hx hb dX6_heightThen_52 rfl (lv_at hl 2 rfl) ?_
      refine rn_iadd hx hb dX6_heightThen_53 ?_
      refine rn_iald CX hE hP 1 rfl (j := (5 + c)) (by omega) (ltb rfl) dX6_heightThen_54 ?_
      have J_73 : ∀ v : Int32, v = (if shf 5 z c = nI 0 then z 1 else z 2) → W p_ l e_ ({ frames := 4, cells := 0, slots := 0, locals := 89 } : Room) s_ m_ ([.ref (m 0), .int (nI c)] : List Value).toArray below meth c_ s_.heap [] 0 0 (MQ below (vp_Si (fun r_ => r_ = (thenF z nd c))) ([.ref (m 0), .int (nI c)] : List Value).toArray s_ 0 0 (fun _ => False)) (F0 m_ 73 ls [.int v]) := by
        intro v hv
        subst hv
        refine lv_istore_n (lv' := [(3, .int (if shf 5 z c = nI 0 then z 1 else z 2)), (2, .int (dinF z c nd)), (0, .ref (m 0)), (1, .int (nI c))]) hx hb dX6_heightThen_73 rfl hl (by decide) rfl (fun ls hl => ?_)
        refine rn_iconst hx hb 2 rfl dX6_heightThen_74 ?_
        refine lv_aload_n hx hb dX6_heightThen_75 rfl (lv_at hl 2 rfl) ?_
        refine lv_iload_n hx hb dX6_heightThen_76 rfl (lv_at hl 3 rfl) ?_
        refine roV CX hE hP (c_X6_now l G cA m pm ty z c (by omega)) (cwV 1 hts gX6_heightThen_X6_now rfl rfl rfl hdv_X6_now ⟨Nat.le_of_ble_eq_true rfl, Nat.le_of_ble_eq_true rfl⟩) [0, 1] rfl 0 rfl rfl rfl B0_blind (fun _ _ _ => trivial) rfl hl.1 (rest := [.int (nI 2)]) rfl (Nat.le_of_ble_eq_true rfl) dX6_heightThen_77 ⟨Nat.zero_le _, Nat.zero_le _⟩ ?_
        refine lv_imul hx hb dX6_heightThen_80 ?_
        refine lv_aload_n hx hb dX6_heightThen_81 rfl (lv_at hl 2 rfl) ?_
        refine rg (T := TX6) (N := 9) CX hE hP in_X6_heightThen_X6 0 rfl rfl 0 (by decide) fl_X6_heightThen_7 rfl rfl dX6_heightThen_82 ?_
        refine lv_bipush (v := (nI 125)) hx hb dX6_heightThen_85 kb_125 ?_
        refine lv_iload_n hx hb dX6_heightThen_87 rfl (lv_at hl 3 rfl) ?_
        refine rn_iadd hx hb dX6_heightThen_88 ?_
        refine rn_iald CX hE hP 1 rfl (j := (125 + c)) (by omega) (ltb rfl) dX6_heightThen_89 ?_
        refine lv_isub hx hb dX6_heightThen_90 ?_
        refine lv_aload_n hx hb dX6_heightThen_91 rfl (lv_at hl 2 rfl) ?_
        refine lv_iload_n hx hb dX6_heightThen_92 rfl (lv_at hl 3 rfl) ?_
        refine roV CX hE hP (c_X6_slope l G cA m pm ty z c (by omega)) (cwV 1 hts gX6_heightThen_X6_slope rfl rfl rfl hdv_X6_slope ⟨Nat.le_of_ble_eq_true rfl, Nat.le_of_ble_eq_true rfl⟩) [0, 1] rfl 0 rfl rfl rfl B0_blind (fun _ _ _ => trivial) rfl hl.1 (rest := [.int (((nI 2) * (shf 65 z c)) - (z (125 + c)))]) rfl (Nat.le_of_ble_eq_true rfl) dX6_heightThen_93 ⟨Nat.zero_le _, Nat.zero_le _⟩ ?_
        refine lv_iload_n hx hb dX6_heightThen_96 rfl (lv_at hl 0 rfl) ?_
        refine lv_imul hx hb dX6_heightThen_97 ?_
        refine lv_bipush (v := (nI 16)) hx hb dX6_heightThen_98 kb_16 ?_
        refine lv_idiv hx hb dX6_heightThen_100 (by decide +kernel) ?_
        refine lv_iadd hx hb dX6_heightThen_101 ?_
        refine lv_istore (lv' := [(4, .int ((((nI 2) * (shf 65 z c)) - (z (125 + c))) + (((slopeF (shf 5 z) (shf 65 z) c) * (if shf 5 z c = nI 0 then z 1 else z 2)) / (nI 16)))), (3, .int (if shf 5 z c = nI 0 then z 1 else z 2)), (2, .int (dinF z c nd)), (0, .ref (m 0)), (1, .int (nI c))]) hx hb dX6_heightThen_102 hl (by decide) rfl (fun ls hl => ?_)
        have hl : lv_has ls 5 [(4, .int (h0M z c)), (3, .int (if shf 5 z c = nI 0 then z 1 else z 2)), (2, .int (dinF z c nd)), (0, .ref (m 0)), (1, .int (nI c))] := by have z_ : ((((nI 2) * (shf 65 z c)) - (z (125 + c))) + (((slopeF (shf 5 z) (shf 65 z) c) * (if shf 5 z c = nI 0 then z 1 else z 2)) / (nI 16))) = (h0M z c) := rfl; rw [z_] at hl; exact hl
        refine lv_iload hx hb dX6_heightThen_104 (lv_at hl 0 rfl) ?_
        refine lv_iload hx hb dX6_heightThen_106 (lv_at hl 0 rfl) ?_
        refine lv_aload_n hx hb dX6_heightThen_108 rfl (lv_at hl 3 rfl) ?_
        refine rg (T := TX6) (N := 9) CX hE hP in_X6_heightThen_X6 0 rfl rfl 0 (by decide) fl_X6_heightThen_7 rfl rfl dX6_heightThen_109 ?_
        refine rn_iconst hx hb 0 rfl dX6_heightThen_112 ?_
        refine rn_iald CX hE hP 1 rfl (j := 0) (by omega) (ltb rfl) dX6_heightThen_113 ?_
        refine lv_imul hx hb dX6_heightThen_114 ?_
        refine lv_sipush (v := (nI 1000)) hx hb dX6_heightThen_115 ks_1000 ?_
        refine lv_idiv hx hb dX6_heightThen_118 (by decide +kernel) ?_
        refine lv_isub hx hb dX6_heightThen_119 ?_
        refine lv_istore (lv' := [(4, .int ((h0M z c) - (((h0M z c) * (z 0)) / (nI 1000)))), (3, .int (if shf 5 z c = nI 0 then z 1 else z 2)), (2, .int (dinF z c nd)), (0, .ref (m 0)), (1, .int (nI c))]) hx hb dX6_heightThen_120 hl (by decide) rfl (fun ls hl => ?_)
        have hl : lv_has ls 5 [(4, .int (h1M z c)), (3, .int (if shf 5 z c = nI 0 then z 1 else z 2)), (2, .int (dinF z c nd)), (0, .ref (m 0)), (1, .int (nI c))] := by have z_ : ((h0M z c) - (((h0M z c) * (z 0)) / (nI 1000))) = (h1M z c) := rfl; rw [z_] at hl; exact hl
        refine lv_aload_n hx hb dX6_heightThen_122 rfl (lv_at hl 3 rfl) ?_
        refine rg (T := TX6) (N := 9) CX hE hP in_X6_heightThen_X6 0 rfl rfl 0 (by decide) fl_X6_heightThen_7 rfl rfl dX6_heightThen_123 ?_
        refine rn_iconst hx hb 5 rfl dX6_heightThen_126 ?_
        refine lv_iload_n hx hb dX6_heightThen_127 rfl (lv_at hl 4 rfl) ?_
        refine rn_iadd hx hb dX6_heightThen_128 ?_
        refine rn_iald CX hE hP 1 rfl (j := (5 + c)) (by omega) (ltb rfl) dX6_heightThen_129 ?_
        refine rn_iconst hx hb 3 rfl dX6_heightThen_130 ?_
        refine lv_icmp_ne hx hb dX6_heightThen_131 (by decide) (tgt := 141) (fun c_131 => ?_) (fun c_131 => ?_)
        · refine lv_iload hx hb dX6_heightThen_141 (lv_at hl 0 rfl) ?_
          refine lv_istore (lv' := [(4, .int (h1M z c)), (3, .int (if shf 5 z c = nI 0 then z 1 else z 2)), (2, .int (dinF z c nd)), (0, .ref (m 0)), (1, .int (nI c))]) hx hb dX6_heightThen_143 hl (by decide) rfl (fun ls hl => ?_)
          refine lv_iload hx hb dX6_heightThen_145 (lv_at hl 0 rfl) ?_
          refine roS CX hE hP (c_X6_kept l G cA (h1M z c) ) (va_cwS 1 hts gX6_heightThen_X6_kept rfl rfl rfl hdn_X6_kept ⟨Nat.le_of_ble_eq_true rfl, Nat.le_of_ble_eq_true rfl⟩) [] rfl B0_blind (fun _ _ _ => trivial) rfl hl.1 (rest := []) rfl (Nat.le_of_ble_eq_true rfl) dX6_heightThen_147 ⟨Nat.zero_le _, Nat.zero_le _⟩ ?_
          exact ro_ret CX hr hlk (by first | (have q := thenF_beach c_5 c_19 c_131; exact q) | (have q := thenF_free c_5 c_19 c_131; exact q)) rfl dX6_heightThen_150
        · refine lv_iload hx hb dX6_heightThen_134 (lv_at hl 0 rfl) ?_
          refine rn_iconst hx hb 2 rfl dX6_heightThen_136 ?_
          refine lv_idiv hx hb dX6_heightThen_137 (by decide +kernel) ?_
          refine lv_goto (tgt := 143) hx hb dX6_heightThen_138 (by decide) ?_
          refine lv_istore (lv' := [(4, .int ((h1M z c) / (nI 2))), (3, .int (if shf 5 z c = nI 0 then z 1 else z 2)), (2, .int (dinF z c nd)), (0, .ref (m 0)), (1, .int (nI c))]) hx hb dX6_heightThen_143 hl (by decide) rfl (fun ls hl => ?_)
          refine lv_iload hx hb dX6_heightThen_145 (lv_at hl 0 rfl) ?_
          refine roS CX hE hP (c_X6_kept l G cA ((h1M z c) / (nI 2)) ) (va_cwS 1 hts gX6_heightThen_X6_kept rfl rfl rfl hdn_X6_kept ⟨Nat.le_of_ble_eq_true rfl, Nat.le_of_ble_eq_true rfl⟩) [] rfl B0_blind (fun _ _ _ => trivial) rfl hl.1 (rest := []) rfl (Nat.le_of_ble_eq_true rfl) dX6_heightThen_147 ⟨Nat.zero_le _, Nat.zero_le _⟩ ?_
          exact ro_ret CX hr hlk (by first | (have q := thenF_beach c_5 c_19 c_131; exact q) | (have q := thenF_free c_5 c_19 c_131; exact q)) rfl dX6_heightThen_150
      refine lv_if_ne hx hb dX6_heightThen_55 (by decide) (tgt := 67) (fun c_55 => ?_) (fun c_55 => ?_)
      · refine lv_aload_n hx hb dX6_heightThen_67 rfl (lv_at hl 1 rfl) ?_
        refine rg (T := TX6) (N := 9) CX hE hP in_X6_heightThen_X6 0 rfl rfl 0 (by decide) fl_X6_heightThen_7 rfl rfl dX6_heightThen_68 ?_
        refine rn_iconst hx hb 2 rfl dX6_heightThen_71 ?_
        refine rn_iald CX hE hP 1 rfl (j := 2) (by omega) (ltb rfl) dX6_heightThen_72 ?_
        exact J_73 _ (by first | exact (if_pos c_55).symm | exact (if_neg c_55).symm)
      · refine lv_aload_n hx hb dX6_heightThen_58 rfl (lv_at hl 1 rfl) ?_
        refine rg (T := TX6) (N := 9) CX hE hP in_X6_heightThen_X6 0 rfl rfl 0 (by decide) fl_X6_heightThen_7 rfl rfl dX6_heightThen_59 ?_
        refine rn_iconst hx hb 1 rfl dX6_heightThen_62 ?_
        refine rn_iald CX hE hP 1 rfl (j := 1) (by omega) (ltb rfl) dX6_heightThen_63 ?_
        refine lv_goto (tgt := 73) hx hb dX6_heightThen_64 (by decide) ?_
        exact J_73 _ (by first | exact (if_pos c_55).symm | exact (if_neg c_55).symm)
    · obtain ⟨d, hd, hde, hdc⟩ := dinF_some c_19
      have hl : lv_has ls 5 [(2, .int (nI d)), (0, .ref (m 0)), (1, .int (nI c))] := by have z_ : (dinF z c nd) = (nI d) := hde; rw [z_] at hl; exact hl
      refine lv_aload_n hx hb dX6_heightThen_22 rfl (lv_at hl 1 rfl) ?_
      refine lv_iload_n hx hb dX6_heightThen_23 rfl (lv_at hl 0 rfl) ?_
      refine roV CX hE hP (c_X6_isUp l G cA m pm ty z d (by omega) (hpe d hd)) (cwV 1 hts gX6_heightThen_X6_isUp rfl rfl rfl hdv_X6_isUp ⟨Nat.le_of_ble_eq_true rfl, Nat.le_of_ble_eq_true rfl⟩) [0, 1] rfl 0 rfl rfl rfl B0_blind (fun _ _ _ => trivial) rfl hl.1 (rest := []) rfl (Nat.le_of_ble_eq_true rfl) dX6_heightThen_24 ⟨Nat.zero_le _, Nat.zero_le _⟩ ?_
      refine rb_if_eq hx hb dX6_heightThen_27 (by decide) (tgt := 39) (fun c_27 => ?_) (fun c_27 => ?_)
      · refine lv_aload_n hx hb dX6_heightThen_39 rfl (lv_at hl 1 rfl) ?_
        refine lv_iload_n hx hb dX6_heightThen_40 rfl (lv_at hl 0 rfl) ?_
        refine rn_iconst hx hb 2 rfl dX6_heightThen_41 ?_
        refine roV CX hE hP (c_X6_ofDipper l G cA m pm ty z d 2 (by omega) (by omega)) (cwV 2 hts gX6_heightThen_X6_ofDipper rfl rfl rfl hdv_X6_ofDipper ⟨Nat.le_of_ble_eq_true rfl, Nat.le_of_ble_eq_true rfl⟩) [0, 1] rfl 0 rfl rfl rfl B0_blind (fun _ _ _ => trivial) rfl hl.1 (rest := []) rfl (Nat.le_of_ble_eq_true rfl) dX6_heightThen_42 ⟨Nat.zero_le _, Nat.zero_le _⟩ ?_
        refine lv_ineg hx hb dX6_heightThen_45 ?_
        exact ro_ret CX hr hlk (by first | (have q := thenF_up c_5 c_19 (by omega) hde c_27; exact q) | (have q := thenF_down c_5 c_19 (by omega) hde c_27; exact q)) rfl dX6_heightThen_46
      · refine lv_aload_n hx hb dX6_heightThen_30 rfl (lv_at hl 1 rfl) ?_
        refine lv_iload_n hx hb dX6_heightThen_31 rfl (lv_at hl 0 rfl) ?_
        refine rn_iconst hx hb 2 rfl dX6_heightThen_32 ?_
        refine roV CX hE hP (c_X6_ofDipper l G cA m pm ty z d 2 (by omega) (by omega)) (cwV 2 hts gX6_heightThen_X6_ofDipper rfl rfl rfl hdv_X6_ofDipper ⟨Nat.le_of_ble_eq_true rfl, Nat.le_of_ble_eq_true rfl⟩) [0, 1] rfl 0 rfl rfl rfl B0_blind (fun _ _ _ => trivial) rfl hl.1 (rest := []) rfl (Nat.le_of_ble_eq_true rfl) dX6_heightThen_33 ⟨Nat.zero_le _, Nat.zero_le _⟩ ?_
        refine lv_goto (tgt := 46) hx hb dX6_heightThen_36 (by decide) ?_
        exact ro_ret CX hr hlk (by first | (have q := thenF_up c_5 c_19 (by omega) hde c_27; exact q) | (have q := thenF_down c_5 c_19 (by omega) hde c_27; exact q)) rfl dX6_heightThen_46
  · refine rn_iconst hx hb 0 rfl dX6_heightThen_8 ?_
    exact ro_ret CX hr hlk ((if_pos c_5).symm) rfl dX6_heightThen_9
theorem hdv_X6_seenMany : yX6_seenMany.cls = RX6 ∧ yX6_seenMany.cls ≠ "java/lang/invoke/MethodHandle" ∧ yX6_seenMany.cls ≠ "java/lang/invoke/VarHandle" ∧ (parseMethodDescriptor yX6_seenMany.desc).map (fun d => d.parameters.length) = some 1 := by decide +kernel
theorem hdv_X6_seenBy : yX6_seenBy.cls = RX6 ∧ yX6_seenBy.cls ≠ "java/lang/invoke/MethodHandle" ∧ yX6_seenBy.cls ≠ "java/lang/invoke/VarHandle" ∧ (parseMethodDescriptor yX6_seenBy.desc).map (fun d => d.parameters.length) = some 2 := by decide +kernel
set_option maxHeartbeats 4000000 in
set_option maxRecDepth 100000 in
theorem c_X6_beat (l : Launch) (G : va_G) (cA : Nat → ClassId) (m : Nat → Nat) (pm : Nat) (ty : Nat) (z : Nat → Int32) (p : Nat) (hp : p < 3) : RO l yX6_beat wsX6_beat ({ frames := 1, cells := 0, slots := 0, locals := 22 }) G cA B0 [(m 0, .inr (6, [.ref (m 1), .ref (m 2), .ref (m 3), .ref (m 4), .int (nI pm), .ref (m 5), .ref (m 6), .int (nI ty), .ref (m 7)])), (m 1, .inl (cA 0, 345, .inl z))] [.ref (m 0), .int (nI p)] (if z (267 + 26 * p + 1) < nI 24 then -6 else nI (btF (rowM z p) 10).1) := by
  refine RO.mk (own := RX6) (by decide) rfl rfl (Nat.le_of_ble_eq_true rfl) (fun p_ e_ s_ m_ below meth c_ ls CX hr hlk hP hE hB hl => ?_)
  obtain ⟨hx, hb, hml, hown, hts⟩ := id CX
  have hl : lv_has ls 7 [(0, .ref (m 0)), (1, .int (nI p))] := hl
  refine lv_aload_n hx hb dX6_beat_0 rfl (lv_at hl 0 rfl) ?_
  refine lv_iload_n hx hb dX6_beat_1 rfl (lv_at hl 1 rfl) ?_
  refine roV CX hE hP (c_X6_seenMany l G cA m pm ty z p (by omega)) (cwV 1 hts gX6_beat_X6_seenMany rfl rfl rfl hdv_X6_seenMany ⟨Nat.le_of_ble_eq_true rfl, Nat.le_of_ble_eq_true rfl⟩) [0, 1] rfl 0 rfl rfl rfl B0_blind (fun _ _ _ => trivial) rfl hl.1 (rest := []) rfl (Nat.le_of_ble_eq_true rfl) dX6_beat_2 ⟨Nat.zero_le _, Nat.zero_le _⟩ ?_
  refine lv_bipush (v := (nI 24)) hx hb dX6_beat_5 kb_24 ?_
  refine lv_icmp_ge hx hb dX6_beat_7 (by decide) (tgt := 13) (fun c_7 => ?_) (fun c_7 => ?_)
  · refine lv_bipush (v := (-6)) hx hb dX6_beat_13 kb_m6 ?_
    refine lv_istore_n (lv' := [(2, .int (-6)), (0, .ref (m 0)), (1, .int (nI p))]) hx hb dX6_beat_15 rfl hl (by decide) rfl (fun ls hl => ?_)
    refine rn_iconst hx hb 0 rfl dX6_beat_16 ?_
    refine lv_istore_n (lv' := [(3, .int (nI 0)), (2, .int (-6)), (0, .ref (m 0)), (1, .int (nI p))]) hx hb dX6_beat_17 rfl hl (by decide) rfl (fun ls hl => ?_)
    refine rn_iconst hx hb 2 rfl dX6_beat_18 ?_
    refine lv_istore (lv' := [(4, .int (nI 2)), (3, .int (nI 0)), (2, .int (-6)), (0, .ref (m 0)), (1, .int (nI p))]) hx hb dX6_beat_19 hl (by decide) rfl (fun ls hl => ?_)
    have LP_21 : ∀ (nn_ : Nat) (L : Nat) (bst : Int32) (lst : Int32), (13 - L) < nn_ → (2 ≤ L) → (L ≤ 13) → (bst = (bmF (rowM z p) L).1) → (lst = (bmF (rowM z p) L).2) → ∀ ls : Array Slot, lv_has ls 7 [(0, .ref (m 0)), (1, .int (nI p)), (2, .int bst), (3, .int lst), (4, .int (nI L))] → W p_ l e_ ({ frames := 1, cells := 0, slots := 0, locals := 22 } : Room) s_ m_ ([.ref (m 0), .int (nI p)] : List Value).toArray below meth c_ s_.heap [] 0 0 (MQ below (vp_Si (fun r_ => r_ = (if z (267 + 26 * p + 1) < nI 24 then -6 else nI (btF (rowM z p) 10).1))) ([.ref (m 0), .int (nI p)] : List Value).toArray s_ 0 0 (fun _ => False)) (F0 m_ 21 ls []) := by
      intro nn_
      induction nn_ with
      | zero => intro L bst lst hmu; exact absurd hmu (Nat.not_lt_zero _)
      | succ nn_ ih =>
        have ih_21 := ih
        clear ih
        intro L bst lst hmu_21 hL2 hL hb1 hb2 ls hl
        refine lv_iload hx hb dX6_beat_21 (lv_at hl 4 rfl) ?_
        refine lv_bipush (v := (nI 12)) hx hb dX6_beat_23 kb_12 ?_
        refine rn_icmp_gt hx hb (by omega) (by omega) dX6_beat_25 (by decide) (tgt := 122) (fun c_25 => ?_) (fun c_25 => ?_)
        · refine lv_iload_n hx hb dX6_beat_122 rfl (lv_at hl 2 rfl) ?_
          exact ro_ret CX hr hlk (by rw [if_neg (Int32.not_lt.mpr c_7), hb1, show L = 13 by omega]; rfl) rfl dX6_beat_123
        · refine rn_iconst hx hb 0 rfl dX6_beat_28 ?_
          refine lv_istore (lv' := [(5, .int (nI 0)), (0, .ref (m 0)), (1, .int (nI p)), (2, .int bst), (3, .int lst), (4, .int (nI L))]) hx hb dX6_beat_29 hl (by decide) rfl (fun ls hl => ?_)
          refine rn_iconst hx hb 0 rfl dX6_beat_31 ?_
          refine lv_istore (lv' := [(6, .int (nI 0)), (5, .int (nI 0)), (0, .ref (m 0)), (1, .int (nI p)), (2, .int bst), (3, .int lst), (4, .int (nI L))]) hx hb dX6_beat_32 hl (by decide) rfl (fun ls hl => ?_)
          have LP_34 : ∀ (nn_ : Nat) (k : Nat) (sm : Int32), (12 - k) < nn_ → (k ≤ 12) → (sm = sumI k (fun j => iabs (rowM z p j - rowM z p (j + L)))) → ∀ ls : Array Slot, lv_has ls 7 [(0, .ref (m 0)), (1, .int (nI p)), (2, .int bst), (3, .int lst), (4, .int (nI L)), (5, .int sm), (6, .int (nI k))] → W p_ l e_ ({ frames := 1, cells := 0, slots := 0, locals := 22 } : Room) s_ m_ ([.ref (m 0), .int (nI p)] : List Value).toArray below meth c_ s_.heap [] 0 0 (MQ below (vp_Si (fun r_ => r_ = (if z (267 + 26 * p + 1) < nI 24 then -6 else nI (btF (rowM z p) 10).1))) ([.ref (m 0), .int (nI p)] : List Value).toArray s_ 0 0 (fun _ => False)) (F0 m_ 34 ls []) := by
            intro nn_
            induction nn_ with
            | zero => intro k sm hmu; exact absurd hmu (Nat.not_lt_zero _)
            | succ nn_ ih =>
              have ih_34 := ih
              clear ih
              intro k sm hmu_34 hk hsm ls hl
              refine lv_iload hx hb dX6_beat_34 (lv_at hl 6 rfl) ?_
              refine lv_bipush (v := (nI 12)) hx hb dX6_beat_36 kb_12 ?_
              refine rn_icmp_ge hx hb (by omega) (by omega) dX6_beat_38 (by decide) (tgt := 73) (fun c_38 => ?_) (fun c_38 => ?_)
              · refine lv_iload_n hx hb dX6_beat_73 rfl (lv_at hl 2 rfl) ?_
                refine lv_bipush (v := (-6)) hx hb dX6_beat_74 kb_m6 ?_
                have J_90 : ∀ v : Int32, v = (b2i (bst = -6 ∨ sm < lst)) → W p_ l e_ ({ frames := 1, cells := 0, slots := 0, locals := 22 } : Room) s_ m_ ([.ref (m 0), .int (nI p)] : List Value).toArray below meth c_ s_.heap [] 0 0 (MQ below (vp_Si (fun r_ => r_ = (if z (267 + 26 * p + 1) < nI 24 then -6 else nI (btF (rowM z p) 10).1))) ([.ref (m 0), .int (nI p)] : List Value).toArray s_ 0 0 (fun _ => False)) (F0 m_ 90 ls [.int v]) := by
                  intro v hv
                  subst hv
                  refine lv_istore (lv' := [(6, .int (b2i (bst = -6 ∨ sm < lst))), (0, .ref (m 0)), (1, .int (nI p)), (2, .int bst), (3, .int lst), (4, .int (nI L)), (5, .int sm)]) hx hb dX6_beat_90 hl (by decide) rfl (fun ls hl => ?_)
                  refine lv_iload hx hb dX6_beat_92 (lv_at hl 0 rfl) ?_
                  have J_103 : ∀ v : Int32, v = (if bst = -6 ∨ sm < lst then nI L else bst) → W p_ l e_ ({ frames := 1, cells := 0, slots := 0, locals := 22 } : Room) s_ m_ ([.ref (m 0), .int (nI p)] : List Value).toArray below meth c_ s_.heap [] 0 0 (MQ below (vp_Si (fun r_ => r_ = (if z (267 + 26 * p + 1) < nI 24 then -6 else nI (btF (rowM z p) 10).1))) ([.ref (m 0), .int (nI p)] : List Value).toArray s_ 0 0 (fun _ => False)) (F0 m_ 103 ls [.int v]) := by
                    intro v hv
                    subst hv
                    refine lv_istore_n (lv' := [(2, .int (if bst = -6 ∨ sm < lst then nI L else bst)), (6, .int (b2i (bst = -6 ∨ sm < lst))), (0, .ref (m 0)), (1, .int (nI p)), (3, .int lst), (4, .int (nI L)), (5, .int sm)]) hx hb dX6_beat_103 rfl hl (by decide) rfl (fun ls hl => ?_)
                    refine lv_iload hx hb dX6_beat_104 (lv_at hl 1 rfl) ?_
                    have J_115 : ∀ v : Int32, v = (if bst = -6 ∨ sm < lst then sm else lst) → W p_ l e_ ({ frames := 1, cells := 0, slots := 0, locals := 22 } : Room) s_ m_ ([.ref (m 0), .int (nI p)] : List Value).toArray below meth c_ s_.heap [] 0 0 (MQ below (vp_Si (fun r_ => r_ = (if z (267 + 26 * p + 1) < nI 24 then -6 else nI (btF (rowM z p) 10).1))) ([.ref (m 0), .int (nI p)] : List Value).toArray s_ 0 0 (fun _ => False)) (F0 m_ 115 ls [.int v]) := by
                      intro v hv
                      subst hv
                      refine lv_istore_n (lv' := [(3, .int (if bst = -6 ∨ sm < lst then sm else lst)), (2, .int (if bst = -6 ∨ sm < lst then nI L else bst)), (6, .int (b2i (bst = -6 ∨ sm < lst))), (0, .ref (m 0)), (1, .int (nI p)), (4, .int (nI L)), (5, .int sm)]) hx hb dX6_beat_115 rfl hl (by decide) rfl (fun ls hl => ?_)
                      refine rn_iinc hx hb (n := 1) (lv' := [(4, .int (nI (L + 1))), (3, .int (if bst = -6 ∨ sm < lst then sm else lst)), (2, .int (if bst = -6 ∨ sm < lst then nI L else bst)), (6, .int (b2i (bst = -6 ∨ sm < lst))), (0, .ref (m 0)), (1, .int (nI p)), (5, .int sm)]) rfl dX6_beat_116 hl (k := 5) rfl (by decide) rfl (fun ls hl => ?_)
                      refine lv_goto (tgt := 21) hx hb dX6_beat_119 (by decide) ?_
                      have hsd : sm = diffF (rowM z p) L := by rw [hsm, show k = 12 by omega]; rfl
                      have hnn := bmF_next (r := rowM z p) hL2 (by omega)
                      rw [← hsd, ← hb1, ← hb2] at hnn
                      have hn1 := congrArg Prod.fst hnn
                      have hn2 := congrArg Prod.snd hnn
                      exact ih_21 (L + 1) (if bst = -6 ∨ sm < lst then nI L else bst) (if bst = -6 ∨ sm < lst then sm else lst) (by omega) (by omega) (by omega) hn1 hn2 ls (lv_sub hl [4, 5, 2, 1, 0] rfl)
                    refine rb_if_eq hx hb dX6_beat_106 (by decide) (tgt := 114) (fun c_106 => ?_) (fun c_106 => ?_)
                    · refine lv_iload_n hx hb dX6_beat_114 rfl (lv_at hl 4 rfl) ?_
                      exact J_115 _ (by first | exact (if_pos c_106).symm | exact (if_neg c_106).symm)
                    · refine lv_iload hx hb dX6_beat_109 (lv_at hl 6 rfl) ?_
                      refine lv_goto (tgt := 115) hx hb dX6_beat_111 (by decide) ?_
                      exact J_115 _ (by first | exact (if_pos c_106).symm | exact (if_neg c_106).symm)
                  refine rb_if_eq hx hb dX6_beat_94 (by decide) (tgt := 102) (fun c_94 => ?_) (fun c_94 => ?_)
                  · refine lv_iload_n hx hb dX6_beat_102 rfl (lv_at hl 3 rfl) ?_
                    exact J_103 _ (by first | exact (if_pos c_94).symm | exact (if_neg c_94).symm)
                  · refine lv_iload hx hb dX6_beat_97 (lv_at hl 5 rfl) ?_
                    refine lv_goto (tgt := 103) hx hb dX6_beat_99 (by decide) ?_
                    exact J_103 _ (by first | exact (if_pos c_94).symm | exact (if_neg c_94).symm)
                refine lv_icmp_eq hx hb dX6_beat_76 (by decide) (tgt := 85) (fun c_76 => ?_) (fun c_76 => ?_)
                · refine rn_iconst hx hb 1 rfl dX6_beat_85 ?_
                  refine lv_goto (tgt := 90) hx hb dX6_beat_86 (by decide) ?_
                  exact J_90 _ (by first | exact b2i_t (Or.inl c_76) | exact b2i_t (Or.inr (Int32.not_le.mp c_82)) | exact b2i_f (fun h => h.elim c_76 (fun q => absurd c_82 (Int32.not_le.mpr q))))
                · refine lv_iload hx hb dX6_beat_79 (lv_at hl 5 rfl) ?_
                  refine lv_iload_n hx hb dX6_beat_81 rfl (lv_at hl 3 rfl) ?_
                  refine lv_icmp_ge hx hb dX6_beat_82 (by decide) (tgt := 89) (fun c_82 => ?_) (fun c_82 => ?_)
                  · refine rn_iconst hx hb 0 rfl dX6_beat_89 ?_
                    exact J_90 _ (by first | exact b2i_t (Or.inl c_76) | exact b2i_t (Or.inr (Int32.not_le.mp c_82)) | exact b2i_f (fun h => h.elim c_76 (fun q => absurd c_82 (Int32.not_le.mpr q))))
                  · refine rn_iconst hx hb 1 rfl dX6_beat_85 ?_
                    refine lv_goto (tgt := 90) hx hb dX6_beat_86 (by decide) ?_
                    exact J_90 _ (by first | exact b2i_t (Or.inl c_76) | exact b2i_t (Or.inr (Int32.not_le.mp c_82)) | exact b2i_f (fun h => h.elim c_76 (fun q => absurd c_82 (Int32.not_le.mpr q))))
              · refine lv_iload hx hb dX6_beat_41 (lv_at hl 5 rfl) ?_
                refine lv_aload_n hx hb dX6_beat_43 rfl (lv_at hl 0 rfl) ?_
                refine lv_iload_n hx hb dX6_beat_44 rfl (lv_at hl 1 rfl) ?_
                refine lv_iload hx hb dX6_beat_45 (lv_at hl 6 rfl) ?_
                refine roV CX hE hP (c_X6_seenBy l G cA m pm ty z p k (by omega) (by omega)) (cwV 2 hts gX6_beat_X6_seenBy rfl rfl rfl hdv_X6_seenBy ⟨Nat.le_of_ble_eq_true rfl, Nat.le_of_ble_eq_true rfl⟩) [0, 1] rfl 0 rfl rfl rfl B0_blind (fun _ _ _ => trivial) rfl hl.1 (rest := [.int sm]) rfl (Nat.le_of_ble_eq_true rfl) dX6_beat_47 ⟨Nat.zero_le _, Nat.zero_le _⟩ ?_
                refine lv_aload_n hx hb dX6_beat_50 rfl (lv_at hl 0 rfl) ?_
                refine lv_iload_n hx hb dX6_beat_51 rfl (lv_at hl 1 rfl) ?_
                refine lv_iload hx hb dX6_beat_52 (lv_at hl 6 rfl) ?_
                refine lv_iload hx hb dX6_beat_54 (lv_at hl 4 rfl) ?_
                refine rn_iadd hx hb dX6_beat_56 ?_
                refine roV CX hE hP (c_X6_seenBy l G cA m pm ty z p (k + L) (by omega) (by omega)) (cwV 2 hts gX6_beat_X6_seenBy rfl rfl rfl hdv_X6_seenBy ⟨Nat.le_of_ble_eq_true rfl, Nat.le_of_ble_eq_true rfl⟩) [0, 1] rfl 0 rfl rfl rfl B0_blind (fun _ _ _ => trivial) rfl hl.1 (rest := [.int (z (267 + 26 * p + 2 + k)), .int sm]) rfl (Nat.le_of_ble_eq_true rfl) dX6_beat_57 ⟨Nat.zero_le _, Nat.zero_le _⟩ ?_
                refine lv_isub hx hb dX6_beat_60 ?_
                refine roS CX hE hP (c_X6_size l G cA ((z (267 + 26 * p + 2 + k)) - (z (267 + 26 * p + 2 + (k + L)))) ) (va_cwS 1 hts gX6_beat_X6_size rfl rfl rfl hdn_X6_size ⟨Nat.le_of_ble_eq_true rfl, Nat.le_of_ble_eq_true rfl⟩) [] rfl B0_blind (fun _ _ _ => trivial) rfl hl.1 (rest := [.int sm]) rfl (Nat.le_of_ble_eq_true rfl) dX6_beat_61 ⟨Nat.zero_le _, Nat.zero_le _⟩ ?_
                refine lv_iadd hx hb dX6_beat_64 ?_
                refine lv_istore (lv' := [(5, .int (sm + (iabs ((z (267 + 26 * p + 2 + k)) - (z (267 + 26 * p + 2 + (k + L))))))), (0, .ref (m 0)), (1, .int (nI p)), (2, .int bst), (3, .int lst), (4, .int (nI L)), (6, .int (nI k))]) hx hb dX6_beat_65 hl (by decide) rfl (fun ls hl => ?_)
                refine rn_iinc hx hb (n := 1) (lv' := [(6, .int (nI (k + 1))), (5, .int (sm + (iabs ((z (267 + 26 * p + 2 + k)) - (z (267 + 26 * p + 2 + (k + L))))))), (0, .ref (m 0)), (1, .int (nI p)), (2, .int bst), (3, .int lst), (4, .int (nI L))]) rfl dX6_beat_67 hl (k := 6) rfl (by decide) rfl (fun ls hl => ?_)
                refine lv_goto (tgt := 34) hx hb dX6_beat_70 (by decide) ?_
                exact ih_34 (k + 1) (sm + (iabs ((z (267 + 26 * p + 2 + k)) - (z (267 + 26 * p + 2 + (k + L)))))) (by omega) (by omega) (by rw [hsm]; rfl) ls (lv_sub hl [2, 3, 4, 5, 6, 1, 0] rfl)
          exact LP_34 _ 0 (nI 0) (Nat.lt_succ_self _) (by omega) rfl ls (lv_sub hl [2, 3, 4, 5, 6, 1, 0] rfl)
    exact LP_21 _ 2 (-6) (nI 0) (Nat.lt_succ_self _) (by omega) (by omega) rfl rfl ls (lv_sub hl [3, 4, 2, 1, 0] rfl)
  · refine lv_bipush (v := (-6)) hx hb dX6_beat_10 kb_m6 ?_
    exact ro_ret CX hr hlk ((if_pos (Int32.not_le.mp c_7)).symm) rfl dX6_beat_12
theorem ks_10000 : (Int16.ofInt (10000)).toInt32 = (nI 10000) := by decide +kernel
set_option maxHeartbeats 4000000 in
set_option maxRecDepth 100000 in
theorem c_X6_greatestSeen (l : Launch) (G : va_G) (cA : Nat → ClassId) (m : Nat → Nat) (pm : Nat) (ty : Nat) (z : Nat → Int32) (p : Nat) (ln : Nat) (hp : p < 3) (hln : z (267 + 26 * p + 1) = nI ln) (hl24 : ln ≤ 24) : RO l yX6_greatestSeen wsX6_greatestSeen ({ frames := 1, cells := 0, slots := 0, locals := 22 }) G cA B0 [(m 0, .inr (6, [.ref (m 1), .ref (m 2), .ref (m 3), .ref (m 4), .int (nI pm), .ref (m 5), .ref (m 6), .int (nI ty), .ref (m 7)])), (m 1, .inl (cA 0, 345, .inl z))] [.ref (m 0), .int (nI p)] (gsF (rowM z p) ln) := by
  refine RO.mk (own := RX6) (by decide) rfl rfl (Nat.le_of_ble_eq_true rfl) (fun p_ e_ s_ m_ below meth c_ ls CX hr hlk hP hE hB hl => ?_)
  obtain ⟨hx, hb, hml, hown, hts⟩ := id CX
  have hl : lv_has ls 5 [(0, .ref (m 0)), (1, .int (nI p))] := hl
  refine lv_bipush (v := (-6)) hx hb dX6_greatestSeen_0 kb_m6 ?_
  refine lv_istore_n (lv' := [(2, .int (-6)), (0, .ref (m 0)), (1, .int (nI p))]) hx hb dX6_greatestSeen_2 rfl hl (by decide) rfl (fun ls hl => ?_)
  refine rn_iconst hx hb 0 rfl dX6_greatestSeen_3 ?_
  refine lv_istore_n (lv' := [(3, .int (nI 0)), (2, .int (-6)), (0, .ref (m 0)), (1, .int (nI p))]) hx hb dX6_greatestSeen_4 rfl hl (by decide) rfl (fun ls hl => ?_)
  have LP_5 : ∀ (nn_ : Nat) (i : Nat) (mm : Int32), (ln - i) < nn_ → (i ≤ ln) → (mm = gsF (rowM z p) i) → ∀ ls : Array Slot, lv_has ls 5 [(0, .ref (m 0)), (1, .int (nI p)), (2, .int mm), (3, .int (nI i))] → W p_ l e_ ({ frames := 1, cells := 0, slots := 0, locals := 22 } : Room) s_ m_ ([.ref (m 0), .int (nI p)] : List Value).toArray below meth c_ s_.heap [] 0 0 (MQ below (vp_Si (fun r_ => r_ = (gsF (rowM z p) ln))) ([.ref (m 0), .int (nI p)] : List Value).toArray s_ 0 0 (fun _ => False)) (F0 m_ 5 ls []) := by
    intro nn_
    induction nn_ with
    | zero => intro i mm hmu; exact absurd hmu (Nat.not_lt_zero _)
    | succ nn_ ih =>
      have ih_5 := ih
      clear ih
      intro i mm hmu_5 hi hm ls hl
      refine lv_iload_n hx hb dX6_greatestSeen_5 rfl (lv_at hl 3 rfl) ?_
      refine lv_aload_n hx hb dX6_greatestSeen_6 rfl (lv_at hl 0 rfl) ?_
      refine lv_iload_n hx hb dX6_greatestSeen_7 rfl (lv_at hl 1 rfl) ?_
      refine roV CX hE hP (c_X6_seenMany l G cA m pm ty z p (by omega)) (cwV 1 hts gX6_greatestSeen_X6_seenMany rfl rfl rfl hdv_X6_seenMany ⟨Nat.le_of_ble_eq_true rfl, Nat.le_of_ble_eq_true rfl⟩) [0, 1] rfl 0 rfl rfl rfl B0_blind (fun _ _ _ => trivial) rfl hl.1 (rest := [.int (nI i)]) rfl (Nat.le_of_ble_eq_true rfl) dX6_greatestSeen_8 ⟨Nat.zero_le _, Nat.zero_le _⟩ ?_
      refine rn_top (nI ln) hln ?_
      refine rn_icmp_ge hx hb (by omega) (by omega) dX6_greatestSeen_11 (by decide) (tgt := 45) (fun c_11 => ?_) (fun c_11 => ?_)
      · refine lv_iload_n hx hb dX6_greatestSeen_45 rfl (lv_at hl 2 rfl) ?_
        exact ro_ret CX hr hlk (by rw [hm, show i = ln by omega]) rfl dX6_greatestSeen_46
      · refine lv_aload_n hx hb dX6_greatestSeen_14 rfl (lv_at hl 0 rfl) ?_
        refine lv_iload_n hx hb dX6_greatestSeen_15 rfl (lv_at hl 1 rfl) ?_
        refine lv_iload_n hx hb dX6_greatestSeen_16 rfl (lv_at hl 3 rfl) ?_
        refine roV CX hE hP (c_X6_seenBy l G cA m pm ty z p i (by omega) (by omega)) (cwV 2 hts gX6_greatestSeen_X6_seenBy rfl rfl rfl hdv_X6_seenBy ⟨Nat.le_of_ble_eq_true rfl, Nat.le_of_ble_eq_true rfl⟩) [0, 1] rfl 0 rfl rfl rfl B0_blind (fun _ _ _ => trivial) rfl hl.1 (rest := []) rfl (Nat.le_of_ble_eq_true rfl) dX6_greatestSeen_17 ⟨Nat.zero_le _, Nat.zero_le _⟩ ?_
        refine lv_sipush (v := (nI 10000)) hx hb dX6_greatestSeen_20 ks_10000 ?_
        refine lv_iadd hx hb dX6_greatestSeen_23 ?_
        refine lv_istore (lv' := [(4, .int ((z (267 + 26 * p + 2 + i)) + (nI 10000))), (0, .ref (m 0)), (1, .int (nI p)), (2, .int mm), (3, .int (nI i))]) hx hb dX6_greatestSeen_24 hl (by decide) rfl (fun ls hl => ?_)
        refine lv_iload hx hb dX6_greatestSeen_26 (lv_at hl 0 rfl) ?_
        refine lv_iload_n hx hb dX6_greatestSeen_28 rfl (lv_at hl 3 rfl) ?_
        have J_38 : ∀ v : Int32, v = (if mm < rowM z p i + nI 10000 then rowM z p i + nI 10000 else mm) → W p_ l e_ ({ frames := 1, cells := 0, slots := 0, locals := 22 } : Room) s_ m_ ([.ref (m 0), .int (nI p)] : List Value).toArray below meth c_ s_.heap [] 0 0 (MQ below (vp_Si (fun r_ => r_ = (gsF (rowM z p) ln))) ([.ref (m 0), .int (nI p)] : List Value).toArray s_ 0 0 (fun _ => False)) (F0 m_ 38 ls [.int v]) := by
          intro v hv
          subst hv
          refine lv_istore_n (lv' := [(2, .int (if mm < rowM z p i + nI 10000 then rowM z p i + nI 10000 else mm)), (4, .int ((z (267 + 26 * p + 2 + i)) + (nI 10000))), (0, .ref (m 0)), (1, .int (nI p)), (3, .int (nI i))]) hx hb dX6_greatestSeen_38 rfl hl (by decide) rfl (fun ls hl => ?_)
          refine rn_iinc hx hb (n := 1) (lv' := [(3, .int (nI (i + 1))), (2, .int (if mm < rowM z p i + nI 10000 then rowM z p i + nI 10000 else mm)), (4, .int ((z (267 + 26 * p + 2 + i)) + (nI 10000))), (0, .ref (m 0)), (1, .int (nI p))]) rfl dX6_greatestSeen_39 hl (k := 4) rfl (by decide) rfl (fun ls hl => ?_)
          refine lv_goto (tgt := 5) hx hb dX6_greatestSeen_42 (by decide) ?_
          exact ih_5 (i + 1) (if mm < rowM z p i + nI 10000 then rowM z p i + nI 10000 else mm) (by omega) (by omega) (by rw [hm]; rfl) ls (lv_sub hl [3, 4, 1, 0] rfl)
        refine lv_icmp_le hx hb dX6_greatestSeen_29 (by decide) (tgt := 37) (fun c_29 => ?_) (fun c_29 => ?_)
        · refine lv_iload_n hx hb dX6_greatestSeen_37 rfl (lv_at hl 3 rfl) ?_
          exact J_38 _ (by first | exact (if_pos (Int32.not_le.mp c_29)).symm | exact (if_neg (Int32.not_lt.mpr c_29)).symm)
        · refine lv_iload hx hb dX6_greatestSeen_32 (lv_at hl 0 rfl) ?_
          refine lv_goto (tgt := 38) hx hb dX6_greatestSeen_34 (by decide) ?_
          exact J_38 _ (by first | exact (if_pos (Int32.not_le.mp c_29)).symm | exact (if_neg (Int32.not_lt.mpr c_29)).symm)
  exact LP_5 _ 0 (-6) (Nat.lt_succ_self _) (Nat.zero_le _) rfl ls (lv_sub hl [2, 3, 1, 0] rfl)
theorem fl_X6_forgetFirst_7 : Cond.fieldLink RX6 7 RX6 (TX6 0).2.1 (TX6 0).2.2.1 ∈ wsX6_forgetFirst := by decide +kernel
theorem in_X6_forgetFirst_X6 : ∀ w ∈ wsX60, w ∈ wsX6_forgetFirst := by decide +kernel
set_option maxHeartbeats 4000000 in
set_option maxRecDepth 100000 in
theorem c_X6_forgetFirst (l : Launch) (G : va_G) (cA : Nat → ClassId) (m : Nat → Nat) (pm : Nat) (ty : Nat) (z : Nat → Int32)  : MUv l yX6_forgetFirst wsX6_forgetFirst ({ frames := 0, cells := 0, slots := 0, locals := 0 }) G cA BM0 [(m 0, .inr (6, [.ref (m 1), .ref (m 2), .ref (m 3), .ref (m 4), .int (nI pm), .ref (m 5), .ref (m 6), .int (nI ty), .ref (m 7)])), (m 1, .inl (cA 0, 345, .inl z))] [.ref (m 0)] [(m 0, .inr (6, [.ref (m 1), .ref (m 2), .ref (m 3), .ref (m 4), .int (nI pm), .ref (m 5), .ref (m 6), .int (nI ty), .ref (m 7)])), (m 1, .inl (cA 0, 345, .inl (rgF 185 60 (fun _ => -6) z)))] := by
  refine MUv.mk (own := RX6) (by decide) rfl rfl (Nat.le_of_ble_eq_true rfl) (fun p_ e_ s_ m_ below meth c_ ls A_ CX hr hlk hW hA hE hB hl => ?_)
  obtain ⟨hx, hb, hml, hown, hts⟩ := id CX
  have hl : lv_has ls 2 [(0, .ref (m 0))] := hl
  have hW : wld G A_ [(m 0, .inr (6, [.ref (m 1), .ref (m 2), .ref (m 3), .ref (m 4), .int (nI pm), .ref (m 5), .ref (m 6), .int (nI ty), .ref (m 7)])), (m 1, .inl (cA 0, 345, .inl z))] s_.heap s_.heap [] := hW
  refine rn_iconst hx hb 0 rfl dX6_forgetFirst_0 ?_
  refine lv_istore_n (lv' := [(1, .int (nI 0)), (0, .ref (m 0))]) hx hb dX6_forgetFirst_1 rfl hl (by decide) rfl (fun ls hl => ?_)
  have LP_2 : ∀ (nn_ : Nat) (i : Nat) (zz : Nat → Int32), (60 - i) < nn_ → (i ≤ 60) → (zz = rgF 185 i (fun _ => -6) z) → ∀ (H : Heap) (locs : List Loc) (ls : Array Slot), wld G A_ [(m 0, .inr (6, [.ref (m 1), .ref (m 2), .ref (m 3), .ref (m 4), .int (nI pm), .ref (m 5), .ref (m 6), .int (nI ty), .ref (m 7)])), (m 1, .inl (cA 0, 345, .inl zz))] s_.heap H locs → lv_has ls 2 [(0, .ref (m 0)), (1, .int (nI i))] → W p_ l e_ ({ frames := 0, cells := 0, slots := 0, locals := 0 } : Room) s_ m_ ([.ref (m 0)] : List Value).toArray below meth c_ H locs 0 0 (MQ below (va_Qv (fun _ : Unit => True) (fun _ t_ => va_P G vwCl [(m 0, .inr (6, [.ref (m 1), .ref (m 2), .ref (m 3), .ref (m 4), .int (nI pm), .ref (m 5), .ref (m 6), .int (nI ty), .ref (m 7)])), (m 1, .inl (cA 0, 345, .inl (rgF 185 60 (fun _ => -6) z)))] t_.heap ∧ va_D A_ [(m 0, .inr (6, [.ref (m 1), .ref (m 2), .ref (m 3), .ref (m 4), .int (nI pm), .ref (m 5), .ref (m 6), .int (nI ty), .ref (m 7)])), (m 1, .inl (cA 0, 345, .inl (rgF 185 60 (fun _ => -6) z)))]) A_) ([.ref (m 0)] : List Value).toArray s_ 0 0 A_) (F0 m_ 2 ls []) := by
    intro nn_
    induction nn_ with
    | zero => intro i zz hmu; exact absurd hmu (Nat.not_lt_zero _)
    | succ nn_ ih =>
      have ih_2 := ih
      clear ih
      intro i zz hmu_2 hi hzz H locs ls hW hl
      refine lv_iload_n hx hb dX6_forgetFirst_2 rfl (lv_at hl 1 rfl) ?_
      refine lv_bipush (v := (nI 60)) hx hb dX6_forgetFirst_3 kb_60 ?_
      refine rn_icmp_ge hx hb (by omega) (by omega) dX6_forgetFirst_5 (by decide) (tgt := 26) (fun c_5 => ?_) (fun c_5 => ?_)
      · have hW := hW.ext (ws' := [(m 0, .inr (6, [.ref (m 1), .ref (m 2), .ref (m 3), .ref (m 4), .int (nI pm), .ref (m 5), .ref (m 6), .int (nI ty), .ref (m 7)])), (m 1, .inl (cA 0, 345, .inl (rgF 185 60 (fun _ => -6) z)))]) 1 (g := (rgF 185 60 (fun _ => -6) z)) rfl (fun j _ => by rw [hzz, show i = 60 by omega]) rfl
        exact mu_retv CX hr hlk hW dX6_forgetFirst_26
      · refine lv_aload_n hx hb dX6_forgetFirst_8 rfl (lv_at hl 0 rfl) ?_
        refine rg (T := TX6) (N := 9) CX hE hW.1 in_X6_forgetFirst_X6 0 rfl rfl 0 (by decide) fl_X6_forgetFirst_7 rfl rfl dX6_forgetFirst_9 ?_
        refine lv_sipush (v := (nI 185)) hx hb dX6_forgetFirst_12 ks_185 ?_
        refine lv_iload_n hx hb dX6_forgetFirst_15 rfl (lv_at hl 1 rfl) ?_
        refine rn_iadd hx hb dX6_forgetFirst_16 ?_
        refine lv_bipush (v := (-6)) hx hb dX6_forgetFirst_17 kb_m6 ?_
        refine rn_iast (ws' := [(m 0, .inr (6, [.ref (m 1), .ref (m 2), .ref (m 3), .ref (m 4), .int (nI pm), .ref (m 5), .ref (m 6), .int (nI ty), .ref (m 7)])), (m 1, .inl (cA 0, 345, .inl (upd zz (185 + i) (-6))))]) CX hE hW 1 rfl (j := (185 + i)) (by omega) (ltb rfl) rfl dX6_forgetFirst_19 (fun H locs hW => ?_)
        refine rn_iinc hx hb (n := 1) (lv' := [(1, .int (nI (i + 1))), (0, .ref (m 0))]) rfl dX6_forgetFirst_20 hl (k := 1) rfl (by decide) rfl (fun ls hl => ?_)
        refine lv_goto (tgt := 2) hx hb dX6_forgetFirst_23 (by decide) ?_
        exact ih_2 (i + 1) (upd zz (185 + i) (-6)) (by omega) (by omega) (rgF_next hzz (by omega) rfl) _ _ ls hW (lv_sub hl [1, 0] rfl)
  exact LP_2 _ 0 z (Nat.lt_succ_self _) (by omega) rgF_0 _ _ ls hW (lv_sub hl [1, 0] rfl)
theorem ks_345 : (Int16.ofInt (345)).toInt32 = (nI 345) := by decide +kernel
theorem fl_X6_putAside_23 : Cond.fieldLink RX6 23 RX6 (TX6 5).2.1 (TX6 5).2.2.1 ∈ wsX6_putAside := by decide +kernel
theorem in_X6_putAside_X6 : ∀ w ∈ wsX60, w ∈ wsX6_putAside := by decide +kernel
theorem fl_X6_putAside_7 : Cond.fieldLink RX6 7 RX6 (TX6 0).2.1 (TX6 0).2.2.1 ∈ wsX6_putAside := by decide +kernel
set_option maxHeartbeats 4000000 in
set_option maxRecDepth 100000 in
theorem c_X6_putAside (l : Launch) (G : va_G) (cA : Nat → ClassId) (m : Nat → Nat) (pm : Nat) (ty : Nat) (z : Nat → Int32) (sp : Nat → Int32)  : MUv l yX6_putAside wsX6_putAside ({ frames := 0, cells := 0, slots := 0, locals := 0 }) G cA BM0 [(m 0, .inr (6, [.ref (m 1), .ref (m 2), .ref (m 3), .ref (m 4), .int (nI pm), .ref (m 5), .ref (m 6), .int (nI ty), .ref (m 7)])), (m 1, .inl (cA 0, 345, .inl z)), (m 5, .inl (cA 0, 345, .inl sp))] [.ref (m 0)] [(m 0, .inr (6, [.ref (m 1), .ref (m 2), .ref (m 3), .ref (m 4), .int (nI pm), .ref (m 5), .ref (m 6), .int (nI ty), .ref (m 7)])), (m 1, .inl (cA 0, 345, .inl z)), (m 5, .inl (cA 0, 345, .inl z))] := by
  refine MUv.mk (own := RX6) (by decide) rfl rfl (Nat.le_of_ble_eq_true rfl) (fun p_ e_ s_ m_ below meth c_ ls A_ CX hr hlk hW hA hE hB hl => ?_)
  obtain ⟨hx, hb, hml, hown, hts⟩ := id CX
  have hl : lv_has ls 2 [(0, .ref (m 0))] := hl
  have hW : wld G A_ [(m 0, .inr (6, [.ref (m 1), .ref (m 2), .ref (m 3), .ref (m 4), .int (nI pm), .ref (m 5), .ref (m 6), .int (nI ty), .ref (m 7)])), (m 1, .inl (cA 0, 345, .inl z)), (m 5, .inl (cA 0, 345, .inl sp))] s_.heap s_.heap [] := hW
  refine rn_iconst hx hb 0 rfl dX6_putAside_0 ?_
  refine lv_istore_n (lv' := [(1, .int (nI 0)), (0, .ref (m 0))]) hx hb dX6_putAside_1 rfl hl (by decide) rfl (fun ls hl => ?_)
  have LP_2 : ∀ (nn_ : Nat) (i : Nat) (ss : Nat → Int32), (345 - i) < nn_ → (i ≤ 345) → (ss = rgF 0 i z sp) → ∀ (H : Heap) (locs : List Loc) (ls : Array Slot), wld G A_ [(m 0, .inr (6, [.ref (m 1), .ref (m 2), .ref (m 3), .ref (m 4), .int (nI pm), .ref (m 5), .ref (m 6), .int (nI ty), .ref (m 7)])), (m 1, .inl (cA 0, 345, .inl z)), (m 5, .inl (cA 0, 345, .inl ss))] s_.heap H locs → lv_has ls 2 [(0, .ref (m 0)), (1, .int (nI i))] → W p_ l e_ ({ frames := 0, cells := 0, slots := 0, locals := 0 } : Room) s_ m_ ([.ref (m 0)] : List Value).toArray below meth c_ H locs 0 0 (MQ below (va_Qv (fun _ : Unit => True) (fun _ t_ => va_P G vwCl [(m 0, .inr (6, [.ref (m 1), .ref (m 2), .ref (m 3), .ref (m 4), .int (nI pm), .ref (m 5), .ref (m 6), .int (nI ty), .ref (m 7)])), (m 1, .inl (cA 0, 345, .inl z)), (m 5, .inl (cA 0, 345, .inl z))] t_.heap ∧ va_D A_ [(m 0, .inr (6, [.ref (m 1), .ref (m 2), .ref (m 3), .ref (m 4), .int (nI pm), .ref (m 5), .ref (m 6), .int (nI ty), .ref (m 7)])), (m 1, .inl (cA 0, 345, .inl z)), (m 5, .inl (cA 0, 345, .inl z))]) A_) ([.ref (m 0)] : List Value).toArray s_ 0 0 A_) (F0 m_ 2 ls []) := by
    intro nn_
    induction nn_ with
    | zero => intro i ss hmu; exact absurd hmu (Nat.not_lt_zero _)
    | succ nn_ ih =>
      have ih_2 := ih
      clear ih
      intro i ss hmu_2 hi hss H locs ls hW hl
      refine lv_iload_n hx hb dX6_putAside_2 rfl (lv_at hl 1 rfl) ?_
      refine lv_sipush (v := (nI 345)) hx hb dX6_putAside_3 ks_345 ?_
      refine rn_icmp_ge hx hb (by omega) (by omega) dX6_putAside_6 (by decide) (tgt := 27) (fun c_6 => ?_) (fun c_6 => ?_)
      · have hW := hW.ext (ws' := [(m 0, .inr (6, [.ref (m 1), .ref (m 2), .ref (m 3), .ref (m 4), .int (nI pm), .ref (m 5), .ref (m 6), .int (nI ty), .ref (m 7)])), (m 1, .inl (cA 0, 345, .inl z)), (m 5, .inl (cA 0, 345, .inl z))]) 2 (g := z) rfl (fun j hj => by rw [hss, rgF_in (Nat.zero_le _) (by omega)]; rfl) rfl
        exact mu_retv CX hr hlk hW dX6_putAside_27
      · refine lv_aload_n hx hb dX6_putAside_9 rfl (lv_at hl 0 rfl) ?_
        refine rg (T := TX6) (N := 9) CX hE hW.1 in_X6_putAside_X6 0 rfl rfl 5 (by decide) fl_X6_putAside_23 rfl rfl dX6_putAside_10 ?_
        refine lv_iload_n hx hb dX6_putAside_13 rfl (lv_at hl 1 rfl) ?_
        refine lv_aload_n hx hb dX6_putAside_14 rfl (lv_at hl 0 rfl) ?_
        refine rg (T := TX6) (N := 9) CX hE hW.1 in_X6_putAside_X6 0 rfl rfl 0 (by decide) fl_X6_putAside_7 rfl rfl dX6_putAside_15 ?_
        refine lv_iload_n hx hb dX6_putAside_18 rfl (lv_at hl 1 rfl) ?_
        refine rn_iald CX hE hW.1 1 rfl (j := i) (by omega) (ltb rfl) dX6_putAside_19 ?_
        refine rn_iast (ws' := [(m 0, .inr (6, [.ref (m 1), .ref (m 2), .ref (m 3), .ref (m 4), .int (nI pm), .ref (m 5), .ref (m 6), .int (nI ty), .ref (m 7)])), (m 1, .inl (cA 0, 345, .inl z)), (m 5, .inl (cA 0, 345, .inl (upd ss i (z i))))]) CX hE hW 2 rfl (j := i) (by omega) (ltb rfl) rfl dX6_putAside_20 (fun H locs hW => ?_)
        refine rn_iinc hx hb (n := 1) (lv' := [(1, .int (nI (i + 1))), (0, .ref (m 0))]) rfl dX6_putAside_21 hl (k := 1) rfl (by decide) rfl (fun ls hl => ?_)
        refine lv_goto (tgt := 2) hx hb dX6_putAside_24 (by decide) ?_
        exact ih_2 (i + 1) (upd ss i (z i)) (by omega) (by omega) (rgF_next hss (by omega) rfl) _ _ ls hW (lv_sub hl [1, 0] rfl)
  exact LP_2 _ 0 sp (Nat.lt_succ_self _) (by omega) rgF_0 _ _ ls hW (lv_sub hl [1, 0] rfl)
theorem fl_X6_bringBack_7 : Cond.fieldLink RX6 7 RX6 (TX6 0).2.1 (TX6 0).2.2.1 ∈ wsX6_bringBack := by decide +kernel
theorem in_X6_bringBack_X6 : ∀ w ∈ wsX60, w ∈ wsX6_bringBack := by decide +kernel
theorem fl_X6_bringBack_23 : Cond.fieldLink RX6 23 RX6 (TX6 5).2.1 (TX6 5).2.2.1 ∈ wsX6_bringBack := by decide +kernel
set_option maxHeartbeats 4000000 in
set_option maxRecDepth 100000 in
theorem c_X6_bringBack (l : Launch) (G : va_G) (cA : Nat → ClassId) (m : Nat → Nat) (pm : Nat) (ty : Nat) (z : Nat → Int32) (sp : Nat → Int32)  : MUv l yX6_bringBack wsX6_bringBack ({ frames := 0, cells := 0, slots := 0, locals := 0 }) G cA BM0 [(m 0, .inr (6, [.ref (m 1), .ref (m 2), .ref (m 3), .ref (m 4), .int (nI pm), .ref (m 5), .ref (m 6), .int (nI ty), .ref (m 7)])), (m 1, .inl (cA 0, 345, .inl z)), (m 5, .inl (cA 0, 345, .inl sp))] [.ref (m 0)] [(m 0, .inr (6, [.ref (m 1), .ref (m 2), .ref (m 3), .ref (m 4), .int (nI pm), .ref (m 5), .ref (m 6), .int (nI ty), .ref (m 7)])), (m 1, .inl (cA 0, 345, .inl sp)), (m 5, .inl (cA 0, 345, .inl sp))] := by
  refine MUv.mk (own := RX6) (by decide) rfl rfl (Nat.le_of_ble_eq_true rfl) (fun p_ e_ s_ m_ below meth c_ ls A_ CX hr hlk hW hA hE hB hl => ?_)
  obtain ⟨hx, hb, hml, hown, hts⟩ := id CX
  have hl : lv_has ls 2 [(0, .ref (m 0))] := hl
  have hW : wld G A_ [(m 0, .inr (6, [.ref (m 1), .ref (m 2), .ref (m 3), .ref (m 4), .int (nI pm), .ref (m 5), .ref (m 6), .int (nI ty), .ref (m 7)])), (m 1, .inl (cA 0, 345, .inl z)), (m 5, .inl (cA 0, 345, .inl sp))] s_.heap s_.heap [] := hW
  refine rn_iconst hx hb 0 rfl dX6_bringBack_0 ?_
  refine lv_istore_n (lv' := [(1, .int (nI 0)), (0, .ref (m 0))]) hx hb dX6_bringBack_1 rfl hl (by decide) rfl (fun ls hl => ?_)
  have LP_2 : ∀ (nn_ : Nat) (i : Nat) (zz : Nat → Int32), (345 - i) < nn_ → (i ≤ 345) → (zz = rgF 0 i sp z) → ∀ (H : Heap) (locs : List Loc) (ls : Array Slot), wld G A_ [(m 0, .inr (6, [.ref (m 1), .ref (m 2), .ref (m 3), .ref (m 4), .int (nI pm), .ref (m 5), .ref (m 6), .int (nI ty), .ref (m 7)])), (m 1, .inl (cA 0, 345, .inl zz)), (m 5, .inl (cA 0, 345, .inl sp))] s_.heap H locs → lv_has ls 2 [(0, .ref (m 0)), (1, .int (nI i))] → W p_ l e_ ({ frames := 0, cells := 0, slots := 0, locals := 0 } : Room) s_ m_ ([.ref (m 0)] : List Value).toArray below meth c_ H locs 0 0 (MQ below (va_Qv (fun _ : Unit => True) (fun _ t_ => va_P G vwCl [(m 0, .inr (6, [.ref (m 1), .ref (m 2), .ref (m 3), .ref (m 4), .int (nI pm), .ref (m 5), .ref (m 6), .int (nI ty), .ref (m 7)])), (m 1, .inl (cA 0, 345, .inl sp)), (m 5, .inl (cA 0, 345, .inl sp))] t_.heap ∧ va_D A_ [(m 0, .inr (6, [.ref (m 1), .ref (m 2), .ref (m 3), .ref (m 4), .int (nI pm), .ref (m 5), .ref (m 6), .int (nI ty), .ref (m 7)])), (m 1, .inl (cA 0, 345, .inl sp)), (m 5, .inl (cA 0, 345, .inl sp))]) A_) ([.ref (m 0)] : List Value).toArray s_ 0 0 A_) (F0 m_ 2 ls []) := by
    intro nn_
    induction nn_ with
    | zero => intro i zz hmu; exact absurd hmu (Nat.not_lt_zero _)
    | succ nn_ ih =>
      have ih_2 := ih
      clear ih
      intro i zz hmu_2 hi hzz H locs ls hW hl
      refine lv_iload_n hx hb dX6_bringBack_2 rfl (lv_at hl 1 rfl) ?_
      refine lv_sipush (v := (nI 345)) hx hb dX6_bringBack_3 ks_345 ?_
      refine rn_icmp_ge hx hb (by omega) (by omega) dX6_bringBack_6 (by decide) (tgt := 27) (fun c_6 => ?_) (fun c_6 => ?_)
      · have hW := hW.ext (ws' := [(m 0, .inr (6, [.ref (m 1), .ref (m 2), .ref (m 3), .ref (m 4), .int (nI pm), .ref (m 5), .ref (m 6), .int (nI ty), .ref (m 7)])), (m 1, .inl (cA 0, 345, .inl sp)), (m 5, .inl (cA 0, 345, .inl sp))]) 1 (g := sp) rfl (fun j hj => by rw [hzz, rgF_in (Nat.zero_le _) (by omega)]; rfl) rfl
        exact mu_retv CX hr hlk hW dX6_bringBack_27
      · refine lv_aload_n hx hb dX6_bringBack_9 rfl (lv_at hl 0 rfl) ?_
        refine rg (T := TX6) (N := 9) CX hE hW.1 in_X6_bringBack_X6 0 rfl rfl 0 (by decide) fl_X6_bringBack_7 rfl rfl dX6_bringBack_10 ?_
        refine lv_iload_n hx hb dX6_bringBack_13 rfl (lv_at hl 1 rfl) ?_
        refine lv_aload_n hx hb dX6_bringBack_14 rfl (lv_at hl 0 rfl) ?_
        refine rg (T := TX6) (N := 9) CX hE hW.1 in_X6_bringBack_X6 0 rfl rfl 5 (by decide) fl_X6_bringBack_23 rfl rfl dX6_bringBack_15 ?_
        refine lv_iload_n hx hb dX6_bringBack_18 rfl (lv_at hl 1 rfl) ?_
        refine rn_iald CX hE hW.1 2 rfl (j := i) (by omega) (ltb rfl) dX6_bringBack_19 ?_
        refine rn_iast (ws' := [(m 0, .inr (6, [.ref (m 1), .ref (m 2), .ref (m 3), .ref (m 4), .int (nI pm), .ref (m 5), .ref (m 6), .int (nI ty), .ref (m 7)])), (m 1, .inl (cA 0, 345, .inl (upd zz i (sp i)))), (m 5, .inl (cA 0, 345, .inl sp))]) CX hE hW 1 rfl (j := i) (by omega) (ltb rfl) rfl dX6_bringBack_20 (fun H locs hW => ?_)
        refine rn_iinc hx hb (n := 1) (lv' := [(1, .int (nI (i + 1))), (0, .ref (m 0))]) rfl dX6_bringBack_21 hl (k := 1) rfl (by decide) rfl (fun ls hl => ?_)
        refine lv_goto (tgt := 2) hx hb dX6_bringBack_24 (by decide) ?_
        exact ih_2 (i + 1) (upd zz i (sp i)) (by omega) (by omega) (rgF_next hzz (by omega) rfl) _ _ ls hW (lv_sub hl [1, 0] rfl)
  exact LP_2 _ 0 z (Nat.lt_succ_self _) (by omega) rgF_0 _ _ ls hW (lv_sub hl [1, 0] rfl)
