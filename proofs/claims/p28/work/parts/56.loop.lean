/-! What holds at the law's entry, its end (the names' own text), its loop. -/
def R_law : String := "DippedWavesLaw"
def lw_P (b : Addr) (xs : List Int32) (args : Array Value) (s : State) : Prop := args = #[.ref b] ∧ s.IntsAt b xs ∧ xs.length ≤ 260 ∧ (Jvm.Cond.and given_1 narrow_1).before args s = true
def lw_Q (_ : Array Value) (s : State) (o : Outcome) (t : State) : Prop := o = .returned (some (.int 1)) ∧ Framed s o t [] 600000 7302250
def lw_Z (below : List Frame) (a : Array Value) (s : State) : State → Prop := fun t => ∃ o, t.status = .running ∧ Ended t below o ∧ lw_Q a s o t
/-- the law's own end, with 1 on the stack, nothing written that was there before, its room as the claim has it -/
theorem lw_ret {p : Program} {l : Launch} {e : Env} {s : State} {m : MethodId} {below : List Frame} {meth : Method} {c : Code} {b : Nat} (hx : p.tables.exec = Jvm.exec) (hb : c.code = code) (hr : meth.sig.returnType = ret) (hlocks : meth.locks = false) {pc : Nat} {H : Heap} {ls : Array Slot} (hdg : decode code pc = .ok (.ireturn, 1)) : W p l e room_1 s m #[Value.ref b] below meth c H [] 600000 7302250 (lw_Z below #[Value.ref b] s) (F0 m pc ls [.int 1]) := by
  intro T hT X
  obtain ⟨fs, hret, hrun, hended, hW, hframe⟩ := X.leave (v := some (.int 1)) (hlocks := hlocks) (fun h => by rw [hr] at h; cases h)
  have hmeth' : T.vm.method? m = some meth := X.method'
  refine ⟨T.setFrames fs, ?_, .returned (some (.int 1)), hrun, hended, rfl, ⟨_, rfl⟩, hW, hframe⟩
  jvm_step X.here [X.here.top, hx, hb, hdg, hmeth', hr, ret, narrow_b1]
  (try refine ⟨rfl, ?_⟩); (try refine ⟨rfl, ?_⟩)
  first | (intro acts; rw [hret _ acts rfl rfl rfl]) | rw [hret _ _ rfl rfl rfl]
  exact Steps.refl _
/-- what holds at the law's entry: the machine, the code, the tables' words (any of lw_tbl by 'hts w (by decide +kernel)'), the script of L ints xs at the cell b, what the Statement gives of the start (any of its parts by flat_of_before) -/
def lw_At (p : Program) (s : State) (m : MethodId) (meth : Method) (c : Code) (b L : Nat) (xs : Nat → Int32) : Prop :=
  p.tables.exec = Jvm.exec ∧ c.code = code ∧ meth.sig.returnType = ret ∧ c.maxLocals = 23 ∧ s.vm.findClass R_law = some m.cls ∧ (∀ w ∈ lw_tbl, w.before #[Value.ref b] s = true) ∧ va_X b L xs s s.heap ∧ b < s.heap.size ∧ meth.locks = false ∧ (Jvm.Cond.and given_1 narrow_1).before #[Value.ref b] s = true

set_option maxHeartbeats 8000000 in
set_option maxRecDepth 100000 in
theorem law_loop {p_ : Program} {l : Launch} {e_ : Env} {s_ : State} {m_ : MethodId} {below : List Frame} {meth : Method} {c_ : Code} {G : va_G} {cA : Nat → ClassId} {x b r : Nat → Nat} {bq L : Nat} {xs : Nat → Int32} (hL : L ≤ 260) (C0 : lw_At p_ s_ m_ meth c_ bq L xs) (hE : EK G cA s_) :
    ∀ (n e : Nat), e + n = 46 → ∀ (T : TV) (cells slots : Nat) (H : Heap) (locs : List Loc) (ls : Array Slot), cells ≤ 1000 + 9 * e → slots ≤ 10000 + 540 * e → LInv G cA (fun q => s_.heap.size ≤ q) x b r T s_.heap H locs → T.2 4 0 ≤ 9 * e → lv_has ls 23 [(12, .int (nI e)), (11, .int (whF T)), (10, .int (seF T)), (8, .ref (r 6)), (7, .ref (r 5)), (6, .ref (r 4)), (5, .ref (r 3)), (4, .ref (r 2)), (3, .ref (r 1)), (2, .ref (r 0)), (1, .ref (x 0)), (0, .ref bq)] → W p_ l e_ room_1 s_ m_ #[Value.ref bq] below meth c_ H locs cells slots (lw_Z below #[Value.ref bq] s_) (F0 m_ 235 ls []) := by
  obtain ⟨hx, hb, hr, hml, hown, htn, hX, hbl, hlocks, hgv⟩ := C0
  have hts : ∀ w ∈ wsL_law, w.before #[Value.ref bq] s_ = true := fun w h => htn w (wsL_law_in w h)
  have CX : CallFix p_ m_ c_ cL_law 23 s_ #[Value.ref bq] wsL_law RL := ⟨hx, hb, hml, hown, hts⟩
  have hA : ∀ q : Nat, s_.heap.size ≤ q → (fun q : Nat => s_.heap.size ≤ q) q := fun _ h => h
  have hbA : ¬ (fun q : Nat => s_.heap.size ≤ q) bq := Nat.not_le.mpr hbl
  have r1 : 5000 ≤ room_1.cells := Nat.le_of_ble_eq_true rfl
  have r2 : 50000 ≤ room_1.slots := Nat.le_of_ble_eq_true rfl
  intro n
  induction n with
  | zero =>
    intro e he T cells slots H locs ls hc hs hI ht hl
    have hS : va_S (fun q => s_.heap.size ≤ q) s_.heap H locs := by
      obtain ⟨a, ha, hT, hn, ty, pd, hW, -⟩ := hI
      exact hW.2.2
    have e46 : e = 46 := by omega
    subst e46
    refine lv_iload hx hb dL_law_235 (lv_at hl 0 rfl) ?_
    refine lv_bipush (v := nI 46) hx hb dL_law_237 (by decide +kernel) ?_
    refine rn_icmp_ge hx hb (by omega) (by omega) dL_law_239 (by decide) (tgt := 1281) (fun c_239 => ?_) (fun c_239 => absurd c_239 (by omega))
    exact L_end (L := L) (xs := xs) CX hE hA ⟨by omega, by omega⟩ ht hl hI (fun ls => by
      refine va_forget (fun q hq => hS.2.2 q hq) ?_
      refine W.widen (k := 600000) (n := 7302250) (by omega) (by omega) ?_
      exact lw_ret hx hb hr hlocks dL_law_1318)
  | succ n ih =>
    intro e he T cells slots H locs ls hc hs hI ht hl
    refine lv_iload hx hb dL_law_235 (lv_at hl 0 rfl) ?_
    refine lv_bipush (v := nI 46) hx hb dL_law_237 (by decide +kernel) ?_
    refine rn_icmp_ge hx hb (by omega) (by omega) dL_law_239 (by decide) (tgt := 1281) (fun c_239 => absurd c_239 (by omega)) (fun c_239 => ?_)
    exact L_body CX hE hA ⟨by omega, by omega⟩ c_239 hX hbl hbA hL ht hl hI (fun T' cells' slots' H locs ls h1 h2 hI' ht' hl' => L_next (L := L) (xs := xs) CX hE hA ⟨by omega, by omega⟩ c_239 ht' hl' hI' (fun ls hl2 => ih (e + 1) (by omega) T' cells' slots' H locs ls (by omega) (by omega) hI' ht' hl2))
theorem lwm_X5 : Cond.instanceMethod yX5_init ∈ wsL_law := by decide +kernel
theorem lwl_X5 : Cond.methodLink RL 52 yX5_init ∈ wsL_law := by decide +kernel
theorem lwc_X5 : Cond.classLink RL 24 RX5 ∈ wsL_law := by decide +kernel
theorem lwn_X5 : Cond.initialized RX5 ∈ wsL_law := by decide +kernel
theorem lwa_I : Cond.arrayClass .int ∈ wsL_law := by decide +kernel
theorem dfsl_X5 : ∀ j, j < 6 → defaultValue (tyX5 j) = vp_V [.null, .null, .null, .null, .null, .null] j
  | 0, _ => rfl
  | 1, _ => rfl
  | 2, _ => rfl
  | 3, _ => rfl
  | 4, _ => rfl
  | 5, _ => rfl
  | j + 6, h => absurd h (by omega)
theorem hdl_X5_init : yX5_init.cls ≠ "java/lang/invoke/MethodHandle" ∧ yX5_init.cls ≠ "java/lang/invoke/VarHandle" ∧ (parseMethodDescriptor yX5_init.desc).map (fun d => d.parameters.length) = some 0 := by decide +kernel
set_option maxHeartbeats 16000000 in
set_option maxRecDepth 100000 in
theorem whole_start {p : Program} {e : Env} {s : State} {m : MethodId} {below : List Frame} {meth : Method} {c : Code} (l : Launch) (hflags : l.flags = flags0) {b L : Nat} {xs : Nat → Int32} (hL : L ≤ 260) (C0 : lw_At p s m meth c b L xs) : W p l e room_1 s m #[Value.ref b] below meth c s.heap [] 0 0 (lw_Z below #[Value.ref b] s) (entryFrame m ([Value.ref b] : List Value).toArray 23) := by
  obtain ⟨hx, hb, hr, hml, hown, htn, hX, hbl, hlocks, hgv⟩ := id C0
  have hts : ∀ w ∈ wsL_law, w.before #[Value.ref b] s = true := fun w h => htn w (wsL_law_in w h)
  have CX : CallFix p m c cL_law 23 s #[Value.ref b] wsL_law RL := ⟨hx, hb, hml, hown, hts⟩
  have hA : ∀ q : Nat, s.heap.size ≤ q → (fun q : Nat => s.heap.size ≤ q) q := fun _ h => h
  have hnA : ∀ a : Nat, a < s.heap.size → ¬ (fun q : Nat => s.heap.size ≤ q) a := fun a h => Nat.not_le.mpr h
  obtain ⟨G, cA, hE⟩ := ek_start hts htn
  obtain ⟨tl_, tm_, K⟩ := ks_start htn hgv hnA
  obtain ⟨t_, F⟩ := fs_start htn hgv hnA
  have hl := lv_entry ([.ref b]) (n := 23) (Nat.le_of_ble_eq_true rfl)
  rw [lg_entry_eq]
  generalize (lg_sl ([.ref b]) ++ List.replicate (23 - (lg_sl ([.ref b])).length) Slot.unset).toArray = ls at hl ⊢
  have hl : lv_has ls 23 [(0, .ref b)] := hl
  have hW : wld G (fun q => s.heap.size ≤ q) [] s.heap s.heap [] := ⟨fun k q h => by simp at h, ⟨fun i j p q h => by simp at h, fun k q h => by simp at h⟩, va_S.rf⟩
  refine rn_new (C := RX5) (T := TX5) (N := 6) (ci := 5) (fs := [.null, .null, .null, .null, .null, .null]) CX hE hW hA inlX5 tyX5 tyX5_ok lwc_X5 lwi_X5 lwn_X5 rfl dfsl_X5 (Nat.le_of_ble_eq_true rfl) (Nat.le_of_ble_eq_true rfl) dL_law_0 (fun q1 H hW => ?_)
  refine lv_dup hx hb dL_law_3 rfl ?_
  refine mkI (ws := []) (rest := [.ref q1]) CX hE hW hA (c_X5_init l G cA t_ q1) (cwI 0 hts gL_law_X5_init rfl rfl rfl (hts _ lwn_X5) (hts _ lwl_X5) (hts _ lwm_X5) rfl hdl_X5_init ⟨Nat.le_of_ble_eq_true rfl, Nat.le_of_ble_eq_true rfl⟩) (FSM_blind t_) (fun U hU hWm hq => F.sub hW.2.2 hU hWm hq) hl.1 rfl (Nat.le_of_ble_eq_true rfl) dL_law_4 ⟨Nat.le_of_ble_eq_true rfl, Nat.le_of_ble_eq_true rfl⟩ (fun u1 H locs hW => ?_)
  refine lv_astore_n (lv' := [(1, .ref q1), (0, .ref b)]) hx hb dL_law_7 rfl hl (by decide) rfl (fun ls hl => ?_)
  have hW : wldS G (fun q => s.heap.size ≤ q) [[(q1, .inr (5, [.ref (prt u1 1 0), .ref (prt u1 2 0), .ref (prt u1 0 2), .ref (prt u1 0 0), .ref (prt u1 0 1), .ref (prt u1 0 4)]))], [(prt u1 0 2, .inr (1, [.ref (prt u1 0 3), .int (nI 0)])), (prt u1 0 3, .inl (cA 3, 6, .inr (.inr (.inr (.inr (stR (fun k => prt u1 (5 + k))))))))], tkW cA (prt u1 5) T0, tkW cA (prt u1 6) T0, tkW cA (prt u1 7) T0, tkW cA (prt u1 8) T0, tkW cA (prt u1 9) T0, tkW cA (prt u1 10) T0, tkW cA (prt u1 1) T0, tkW cA (prt u1 2) T0, [(prt u1 0 0, .inl (cA 3, 2, .inr (.inr (.inr (.inr (sl2 (prt u1 3 0) (prt u1 4 0))))))), (prt u1 0 1, .inl (cA 2, 2, .inl (fun _ => nI 0)))], tkW cA (prt u1 3) T0, tkW cA (prt u1 4) T0, [(prt u1 0 4, .inr (2, [.ref (prt u1 0 5), .int (nI 0)])), (prt u1 0 5, .inl (cA 1, 72, .inl (fun _ => nI 0)))]] s.heap H locs := wldS.of hW
  refine lv_bipush (v := nI 60) hx hb dL_law_8 (by decide +kernel) ?_
  refine rn_newI (n := 60) hx hb (hts _ lwa_I) hE hW.flat hA (by decide) (Nat.le_of_ble_eq_true rfl) (Nat.le_of_ble_eq_true rfl) dL_law_10 (fun qf H hW => ?_)
  have hW : wldS G (fun q => s.heap.size ≤ q) [[(q1, .inr (5, [.ref (prt u1 1 0), .ref (prt u1 2 0), .ref (prt u1 0 2), .ref (prt u1 0 0), .ref (prt u1 0 1), .ref (prt u1 0 4)]))], [(prt u1 0 2, .inr (1, [.ref (prt u1 0 3), .int (nI 0)])), (prt u1 0 3, .inl (cA 3, 6, .inr (.inr (.inr (.inr (stR (fun k => prt u1 (5 + k))))))))], tkW cA (prt u1 5) T0, tkW cA (prt u1 6) T0, tkW cA (prt u1 7) T0, tkW cA (prt u1 8) T0, tkW cA (prt u1 9) T0, tkW cA (prt u1 10) T0, tkW cA (prt u1 1) T0, tkW cA (prt u1 2) T0, [(prt u1 0 0, .inl (cA 3, 2, .inr (.inr (.inr (.inr (sl2 (prt u1 3 0) (prt u1 4 0))))))), (prt u1 0 1, .inl (cA 2, 2, .inl (fun _ => nI 0)))], tkW cA (prt u1 3) T0, tkW cA (prt u1 4) T0, [(prt u1 0 4, .inr (2, [.ref (prt u1 0 5), .int (nI 0)])), (prt u1 0 5, .inl (cA 1, 72, .inl (fun _ => nI 0)))], [(qf, .inl (cA 0, 60, .inl (fun _ => nI 0)))]] s.heap H locs := wldS.snoc hW
  refine lv_astore_n (lv' := [(2, .ref qf), (1, .ref q1), (0, .ref b)]) hx hb dL_law_12 rfl hl (by decide) rfl (fun ls hl => ?_)
  refine lv_bipush (v := nI 60) hx hb dL_law_13 (by decide +kernel) ?_
  refine rn_newI (n := 60) hx hb (hts _ lwa_I) hE hW.flat hA (by decide) (Nat.le_of_ble_eq_true rfl) (Nat.le_of_ble_eq_true rfl) dL_law_15 (fun qa H hW => ?_)
  have hW : wldS G (fun q => s.heap.size ≤ q) [[(q1, .inr (5, [.ref (prt u1 1 0), .ref (prt u1 2 0), .ref (prt u1 0 2), .ref (prt u1 0 0), .ref (prt u1 0 1), .ref (prt u1 0 4)]))], [(prt u1 0 2, .inr (1, [.ref (prt u1 0 3), .int (nI 0)])), (prt u1 0 3, .inl (cA 3, 6, .inr (.inr (.inr (.inr (stR (fun k => prt u1 (5 + k))))))))], tkW cA (prt u1 5) T0, tkW cA (prt u1 6) T0, tkW cA (prt u1 7) T0, tkW cA (prt u1 8) T0, tkW cA (prt u1 9) T0, tkW cA (prt u1 10) T0, tkW cA (prt u1 1) T0, tkW cA (prt u1 2) T0, [(prt u1 0 0, .inl (cA 3, 2, .inr (.inr (.inr (.inr (sl2 (prt u1 3 0) (prt u1 4 0))))))), (prt u1 0 1, .inl (cA 2, 2, .inl (fun _ => nI 0)))], tkW cA (prt u1 3) T0, tkW cA (prt u1 4) T0, [(prt u1 0 4, .inr (2, [.ref (prt u1 0 5), .int (nI 0)])), (prt u1 0 5, .inl (cA 1, 72, .inl (fun _ => nI 0)))], [(qf, .inl (cA 0, 60, .inl (fun _ => nI 0)))], [(qa, .inl (cA 0, 60, .inl (fun _ => nI 0)))]] s.heap H locs := wldS.snoc hW
  refine lv_astore_n (lv' := [(3, .ref qa), (2, .ref qf), (1, .ref q1), (0, .ref b)]) hx hb dL_law_17 rfl hl (by decide) rfl (fun ls hl => ?_)
  refine lv_bipush (v := nI 60) hx hb dL_law_18 (by decide +kernel) ?_
  refine rn_newI (n := 60) hx hb (hts _ lwa_I) hE hW.flat hA (by decide) (Nat.le_of_ble_eq_true rfl) (Nat.le_of_ble_eq_true rfl) dL_law_20 (fun qb H hW => ?_)
  have hW : wldS G (fun q => s.heap.size ≤ q) [[(q1, .inr (5, [.ref (prt u1 1 0), .ref (prt u1 2 0), .ref (prt u1 0 2), .ref (prt u1 0 0), .ref (prt u1 0 1), .ref (prt u1 0 4)]))], [(prt u1 0 2, .inr (1, [.ref (prt u1 0 3), .int (nI 0)])), (prt u1 0 3, .inl (cA 3, 6, .inr (.inr (.inr (.inr (stR (fun k => prt u1 (5 + k))))))))], tkW cA (prt u1 5) T0, tkW cA (prt u1 6) T0, tkW cA (prt u1 7) T0, tkW cA (prt u1 8) T0, tkW cA (prt u1 9) T0, tkW cA (prt u1 10) T0, tkW cA (prt u1 1) T0, tkW cA (prt u1 2) T0, [(prt u1 0 0, .inl (cA 3, 2, .inr (.inr (.inr (.inr (sl2 (prt u1 3 0) (prt u1 4 0))))))), (prt u1 0 1, .inl (cA 2, 2, .inl (fun _ => nI 0)))], tkW cA (prt u1 3) T0, tkW cA (prt u1 4) T0, [(prt u1 0 4, .inr (2, [.ref (prt u1 0 5), .int (nI 0)])), (prt u1 0 5, .inl (cA 1, 72, .inl (fun _ => nI 0)))], [(qf, .inl (cA 0, 60, .inl (fun _ => nI 0)))], [(qa, .inl (cA 0, 60, .inl (fun _ => nI 0)))], [(qb, .inl (cA 0, 60, .inl (fun _ => nI 0)))]] s.heap H locs := wldS.snoc hW
  refine lv_astore (lv' := [(4, .ref qb), (3, .ref qa), (2, .ref qf), (1, .ref q1), (0, .ref b)]) hx hb dL_law_22 hl (by decide) rfl (fun ls hl => ?_)
  refine lv_bipush (v := nI 60) hx hb dL_law_24 (by decide +kernel) ?_
  refine rn_newI (n := 60) hx hb (hts _ lwa_I) hE hW.flat hA (by decide) (Nat.le_of_ble_eq_true rfl) (Nat.le_of_ble_eq_true rfl) dL_law_26 (fun qg H hW => ?_)
  have hW : wldS G (fun q => s.heap.size ≤ q) [[(q1, .inr (5, [.ref (prt u1 1 0), .ref (prt u1 2 0), .ref (prt u1 0 2), .ref (prt u1 0 0), .ref (prt u1 0 1), .ref (prt u1 0 4)]))], [(prt u1 0 2, .inr (1, [.ref (prt u1 0 3), .int (nI 0)])), (prt u1 0 3, .inl (cA 3, 6, .inr (.inr (.inr (.inr (stR (fun k => prt u1 (5 + k))))))))], tkW cA (prt u1 5) T0, tkW cA (prt u1 6) T0, tkW cA (prt u1 7) T0, tkW cA (prt u1 8) T0, tkW cA (prt u1 9) T0, tkW cA (prt u1 10) T0, tkW cA (prt u1 1) T0, tkW cA (prt u1 2) T0, [(prt u1 0 0, .inl (cA 3, 2, .inr (.inr (.inr (.inr (sl2 (prt u1 3 0) (prt u1 4 0))))))), (prt u1 0 1, .inl (cA 2, 2, .inl (fun _ => nI 0)))], tkW cA (prt u1 3) T0, tkW cA (prt u1 4) T0, [(prt u1 0 4, .inr (2, [.ref (prt u1 0 5), .int (nI 0)])), (prt u1 0 5, .inl (cA 1, 72, .inl (fun _ => nI 0)))], [(qf, .inl (cA 0, 60, .inl (fun _ => nI 0)))], [(qa, .inl (cA 0, 60, .inl (fun _ => nI 0)))], [(qb, .inl (cA 0, 60, .inl (fun _ => nI 0)))], [(qg, .inl (cA 0, 60, .inl (fun _ => nI 0)))]] s.heap H locs := wldS.snoc hW
  refine lv_astore (lv' := [(5, .ref qg), (4, .ref qb), (3, .ref qa), (2, .ref qf), (1, .ref q1), (0, .ref b)]) hx hb dL_law_28 hl (by decide) rfl (fun ls hl => ?_)
  refine lv_bipush (v := nI 20) hx hb dL_law_30 (by decide +kernel) ?_
  refine rn_newI (n := 20) hx hb (hts _ lwa_I) hE hW.flat hA (by decide) (Nat.le_of_ble_eq_true rfl) (Nat.le_of_ble_eq_true rfl) dL_law_32 (fun qd H hW => ?_)
  have hW : wldS G (fun q => s.heap.size ≤ q) [[(q1, .inr (5, [.ref (prt u1 1 0), .ref (prt u1 2 0), .ref (prt u1 0 2), .ref (prt u1 0 0), .ref (prt u1 0 1), .ref (prt u1 0 4)]))], [(prt u1 0 2, .inr (1, [.ref (prt u1 0 3), .int (nI 0)])), (prt u1 0 3, .inl (cA 3, 6, .inr (.inr (.inr (.inr (stR (fun k => prt u1 (5 + k))))))))], tkW cA (prt u1 5) T0, tkW cA (prt u1 6) T0, tkW cA (prt u1 7) T0, tkW cA (prt u1 8) T0, tkW cA (prt u1 9) T0, tkW cA (prt u1 10) T0, tkW cA (prt u1 1) T0, tkW cA (prt u1 2) T0, [(prt u1 0 0, .inl (cA 3, 2, .inr (.inr (.inr (.inr (sl2 (prt u1 3 0) (prt u1 4 0))))))), (prt u1 0 1, .inl (cA 2, 2, .inl (fun _ => nI 0)))], tkW cA (prt u1 3) T0, tkW cA (prt u1 4) T0, [(prt u1 0 4, .inr (2, [.ref (prt u1 0 5), .int (nI 0)])), (prt u1 0 5, .inl (cA 1, 72, .inl (fun _ => nI 0)))], [(qf, .inl (cA 0, 60, .inl (fun _ => nI 0)))], [(qa, .inl (cA 0, 60, .inl (fun _ => nI 0)))], [(qb, .inl (cA 0, 60, .inl (fun _ => nI 0)))], [(qg, .inl (cA 0, 60, .inl (fun _ => nI 0)))], [(qd, .inl (cA 0, 20, .inl (fun _ => nI 0)))]] s.heap H locs := wldS.snoc hW
  refine lv_astore (lv' := [(6, .ref qd), (5, .ref qg), (4, .ref qb), (3, .ref qa), (2, .ref qf), (1, .ref q1), (0, .ref b)]) hx hb dL_law_34 hl (by decide) rfl (fun ls hl => ?_)
  refine lv_bipush (v := nI 24) hx hb dL_law_36 (by decide +kernel) ?_
  refine rn_newI (n := 24) hx hb (hts _ lwa_I) hE hW.flat hA (by decide) (Nat.le_of_ble_eq_true rfl) (Nat.le_of_ble_eq_true rfl) dL_law_38 (fun qq H hW => ?_)
  have hW : wldS G (fun q => s.heap.size ≤ q) [[(q1, .inr (5, [.ref (prt u1 1 0), .ref (prt u1 2 0), .ref (prt u1 0 2), .ref (prt u1 0 0), .ref (prt u1 0 1), .ref (prt u1 0 4)]))], [(prt u1 0 2, .inr (1, [.ref (prt u1 0 3), .int (nI 0)])), (prt u1 0 3, .inl (cA 3, 6, .inr (.inr (.inr (.inr (stR (fun k => prt u1 (5 + k))))))))], tkW cA (prt u1 5) T0, tkW cA (prt u1 6) T0, tkW cA (prt u1 7) T0, tkW cA (prt u1 8) T0, tkW cA (prt u1 9) T0, tkW cA (prt u1 10) T0, tkW cA (prt u1 1) T0, tkW cA (prt u1 2) T0, [(prt u1 0 0, .inl (cA 3, 2, .inr (.inr (.inr (.inr (sl2 (prt u1 3 0) (prt u1 4 0))))))), (prt u1 0 1, .inl (cA 2, 2, .inl (fun _ => nI 0)))], tkW cA (prt u1 3) T0, tkW cA (prt u1 4) T0, [(prt u1 0 4, .inr (2, [.ref (prt u1 0 5), .int (nI 0)])), (prt u1 0 5, .inl (cA 1, 72, .inl (fun _ => nI 0)))], [(qf, .inl (cA 0, 60, .inl (fun _ => nI 0)))], [(qa, .inl (cA 0, 60, .inl (fun _ => nI 0)))], [(qb, .inl (cA 0, 60, .inl (fun _ => nI 0)))], [(qg, .inl (cA 0, 60, .inl (fun _ => nI 0)))], [(qd, .inl (cA 0, 20, .inl (fun _ => nI 0)))], [(qq, .inl (cA 0, 24, .inl (fun _ => nI 0)))]] s.heap H locs := wldS.snoc hW
  refine lv_astore (lv' := [(7, .ref qq), (6, .ref qd), (5, .ref qg), (4, .ref qb), (3, .ref qa), (2, .ref qf), (1, .ref q1), (0, .ref b)]) hx hb dL_law_40 hl (by decide) rfl (fun ls hl => ?_)
  refine lv_bipush (v := nI 7) hx hb dL_law_42 (by decide +kernel) ?_
  refine rn_newI (n := 7) hx hb (hts _ lwa_I) hE hW.flat hA (by decide) (Nat.le_of_ble_eq_true rfl) (Nat.le_of_ble_eq_true rfl) dL_law_44 (fun qt H hW => ?_)
  have hW : wldS G (fun q => s.heap.size ≤ q) [[(q1, .inr (5, [.ref (prt u1 1 0), .ref (prt u1 2 0), .ref (prt u1 0 2), .ref (prt u1 0 0), .ref (prt u1 0 1), .ref (prt u1 0 4)]))], [(prt u1 0 2, .inr (1, [.ref (prt u1 0 3), .int (nI 0)])), (prt u1 0 3, .inl (cA 3, 6, .inr (.inr (.inr (.inr (stR (fun k => prt u1 (5 + k))))))))], tkW cA (prt u1 5) T0, tkW cA (prt u1 6) T0, tkW cA (prt u1 7) T0, tkW cA (prt u1 8) T0, tkW cA (prt u1 9) T0, tkW cA (prt u1 10) T0, tkW cA (prt u1 1) T0, tkW cA (prt u1 2) T0, [(prt u1 0 0, .inl (cA 3, 2, .inr (.inr (.inr (.inr (sl2 (prt u1 3 0) (prt u1 4 0))))))), (prt u1 0 1, .inl (cA 2, 2, .inl (fun _ => nI 0)))], tkW cA (prt u1 3) T0, tkW cA (prt u1 4) T0, [(prt u1 0 4, .inr (2, [.ref (prt u1 0 5), .int (nI 0)])), (prt u1 0 5, .inl (cA 1, 72, .inl (fun _ => nI 0)))], [(qf, .inl (cA 0, 60, .inl (fun _ => nI 0)))], [(qa, .inl (cA 0, 60, .inl (fun _ => nI 0)))], [(qb, .inl (cA 0, 60, .inl (fun _ => nI 0)))], [(qg, .inl (cA 0, 60, .inl (fun _ => nI 0)))], [(qd, .inl (cA 0, 20, .inl (fun _ => nI 0)))], [(qq, .inl (cA 0, 24, .inl (fun _ => nI 0)))], [(qt, .inl (cA 0, 7, .inl (fun _ => nI 0)))]] s.heap H locs := wldS.snoc hW
  refine lv_astore (lv' := [(8, .ref qt), (7, .ref qq), (6, .ref qd), (5, .ref qg), (4, .ref qb), (3, .ref qa), (2, .ref qf), (1, .ref q1), (0, .ref b)]) hx hb dL_law_46 hl (by decide) rfl (fun ls hl => ?_)
  have hW := hW.sub (wc := [[(q1, .inr (5, [.ref (prt u1 1 0), .ref (prt u1 2 0), .ref (prt u1 0 2), .ref (prt u1 0 0), .ref (prt u1 0 1), .ref (prt u1 0 4)]))], [(prt u1 0 2, .inr (1, [.ref (prt u1 0 3), .int (nI 0)])), (prt u1 0 3, .inl (cA 3, 6, .inr (.inr (.inr (.inr (stR (fun k => prt u1 (5 + k))))))))], tkW cA (prt u1 5) T0, tkW cA (prt u1 6) T0, tkW cA (prt u1 7) T0, tkW cA (prt u1 8) T0, tkW cA (prt u1 9) T0, tkW cA (prt u1 10) T0, tkW cA (prt u1 1) T0, [(prt u1 0 4, .inr (2, [.ref (prt u1 0 5), .int (nI 0)])), (prt u1 0 5, .inl (cA 1, 72, .inl (fun _ => nI 0)))], [(qf, .inl (cA 0, 60, .inl (fun _ => nI 0)))], [(qa, .inl (cA 0, 60, .inl (fun _ => nI 0)))], [(qb, .inl (cA 0, 60, .inl (fun _ => nI 0)))], [(qg, .inl (cA 0, 60, .inl (fun _ => nI 0)))], [(qd, .inl (cA 0, 20, .inl (fun _ => nI 0)))], [(qt, .inl (cA 0, 7, .inl (fun _ => nI 0)))], [(qq, .inl (cA 0, 24, .inl (fun _ => nI 0)))]]) [0, 1, 2, 3, 4, 5, 6, 7, 8, 13, 14, 15, 16, 17, 18, 20, 19] (by decide) rfl
  have hW : wldS G (fun q => s.heap.size ≤ q) [[(q1, .inr (5, [.ref (prt u1 1 0), .ref (prt u1 2 0), .ref (prt u1 0 2), .ref (prt u1 0 0), .ref (prt u1 0 1), .ref (prt u1 0 4)]))], [(prt u1 0 2, .inr (1, [.ref (prt u1 0 3), .int (nI 0)])), (prt u1 0 3, .inl (cA 3, 6, .inr (.inr (.inr (.inr (stR (fun k => prt u1 (5 + k))))))))], tkW cA (prt u1 5) T0, tkW cA (prt u1 6) T0, tkW cA (prt u1 7) T0, tkW cA (prt u1 8) T0, tkW cA (prt u1 9) T0, tkW cA (prt u1 10) T0, tkW cA (prt u1 1) T0, [(prt u1 0 4, .inr (2, [.ref (prt u1 0 5), .int (nI 0)])), (prt u1 0 5, .inl (cA 1, 72, .inl (fun _ => nI 0)))], [(qf, .inl (cA 0, 60, .inl (fun _ => nI 0))), (qa, .inl (cA 0, 60, .inl (fun _ => nI 0))), (qb, .inl (cA 0, 60, .inl (fun _ => nI 0))), (qg, .inl (cA 0, 60, .inl (fun _ => nI 0))), (qd, .inl (cA 0, 20, .inl (fun _ => nI 0))), (qt, .inl (cA 0, 7, .inl (fun _ => nI 0)))], [(qq, .inl (cA 0, 24, .inl (fun _ => nI 0)))]] s.heap H locs := wldS.fl hW rfl
  exact L_init (a := prt u1 1) (b := prt u1 2) (x := consN q1 (prt u1 0)) (r := (consN qf (consN qa (consN qb (consN qg (consN qd (consN qq (fun _ => qt)))))))) (ha := fun k => prt u1 (5 + k)) (hT := fun _ => T0) (ty := 0) (pd := fun _ => nI 0) CX hE hA ⟨Nat.le_of_ble_eq_true rfl, Nat.le_of_ble_eq_true rfl⟩ hX hbl (Nat.not_le.mpr hbl) hL K hl hW (fun T H locs ls hI ht hl => law_loop hL C0 hE 46 0 rfl T _ _ H locs ls (Nat.le_of_ble_eq_true rfl) (Nat.le_of_ble_eq_true rfl) hI (Nat.le_trans ht (Nat.zero_le _)) hl)
