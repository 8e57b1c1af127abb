/-! What holds at the law's start: the classes, the array classes, the statics, the literal. -/
theorem inlX0 : ∀ w ∈ wsX00, w ∈ wsL_law := fun _ h => List.mem_append_left _ (List.mem_append_left _ (List.mem_append_right _ h))
theorem inlX1 : ∀ w ∈ wsX10, w ∈ wsL_law := fun _ h => List.mem_append_left _ (List.mem_append_left _ (List.mem_append_left _ (List.mem_append_left _ (List.mem_append_right _ h))))
theorem inlX2 : ∀ w ∈ wsX20, w ∈ wsL_law := fun _ h => List.mem_append_left _ (List.mem_append_left _ (List.mem_append_left _ (List.mem_append_right _ h)))
theorem inlX3 : ∀ w ∈ wsX30, w ∈ wsL_law := fun _ h => List.mem_append_left _ (List.mem_append_right _ h)
theorem inlX4 : ∀ w ∈ wsX40, w ∈ wsL_law := fun _ h => List.mem_append_left _ (List.mem_append_left _ (List.mem_append_left _ (List.mem_append_left _ (List.mem_append_left _ (List.mem_append_right _ h)))))
theorem inlX5 : ∀ w ∈ wsX50, w ∈ wsL_law := fun _ h => List.mem_append_left _ (List.mem_append_left _ (List.mem_append_left _ (List.mem_append_left _ (List.mem_append_left _ (List.mem_append_left _ (List.mem_append_right _ h))))))
theorem lwi_X0 : Cond.instantiable RX0 5 ∈ wsL_law := by decide +kernel
theorem lwi_X1 : Cond.instantiable RX1 2 ∈ wsL_law := by decide +kernel
theorem lwi_X2 : Cond.instantiable RX2 2 ∈ wsL_law := by decide +kernel
theorem lwi_X3 : Cond.instantiable RX3 4 ∈ wsL_law := by decide +kernel
theorem lwi_X4 : Cond.instantiable RX4 8 ∈ wsL_law := by decide +kernel
theorem lwi_X5 : Cond.instantiable RX5 6 ∈ wsL_law := by decide +kernel
theorem lw_nest : ∀ w ∈ nestW, w ∈ lw_tbl := by decide +kernel
theorem lwt_acI : (.arrayClass .int : Cond) ∈ lw_tbl := by decide +kernel
theorem lwt_acC : (.arrayClass .char : Cond) ∈ lw_tbl := by decide +kernel
theorem lwt_acZ : (.arrayClass .boolean : Cond) ∈ lw_tbl := by decide +kernel
theorem lwt_aoQ : (.arrayOver (.object "DippedWaves$Tank") : Cond) ∈ lw_tbl := by decide +kernel
theorem lwt_aoA : (.arrayOver (.array .int) : Cond) ∈ lw_tbl := by decide +kernel
theorem lwt_cst : (.castable "[I" "java/lang/Cloneable" : Cond) ∈ lw_tbl := by decide +kernel
theorem lwt_lsL : (.laysStatic "DippedWaves" "LEAST_SETTINGS" "[I" : Cond) ∈ lw_tbl := by decide +kernel
theorem lwt_lsM : (.laysStatic "DippedWaves" "MOST_SETTINGS" "[I" : Cond) ∈ lw_tbl := by decide +kernel
theorem lwt_lsF : (.laysStatic "DippedWaves" "FIRST_SETTINGS" "[I" : Cond) ∈ lw_tbl := by decide +kernel
theorem lwt_iD : (.initialized "DippedWaves" : Cond) ∈ lw_tbl := by decide +kernel
theorem len_small {args : Array Value} {s : State} {t : Term} {v : Value} (h : (Term.length t).eval args s none [] s = some v) : ∃ a cell, t.eval args s none [] s = some (.ref a) ∧ s.arrayAt? a = some cell ∧ cell.slots.size < 2147483648 ∧ v = .int cell.slots.size.toInt32 := by
  simp only [Term.eval, Option.bind_eq_bind] at h
  cases ht : t.eval args s none [] s with
  | none => simp [ht] at h
  | some x =>
    cases x <;> simp [ht] at h
    case ref a =>
      obtain ⟨cell, hcell, h⟩ := Option.bind_eq_some_iff.mp h
      by_cases hn : cell.slots.size < 2147483648
      · rw [if_pos hn] at h; cases h; exact ⟨a, cell, rfl, hcell, hn, rfl⟩
      · rw [if_neg hn] at h; cases h
theorem arr_of {s : State} {args : Array Value} {ty : FieldType} (h : (Cond.arrayClass ty).before args s = true) : ∃ c, ArrOfT s c ty ∧ s.vm.findClass ("[" ++ ty.toString) = some c := by
  obtain ⟨c, k, comp, h1, h2, h3⟩ := Cond.arrayClass_spec h
  exact ⟨c, fun n z => ⟨fun k h => (by cases h), k, h2, comp, h3⟩, h1⟩
theorem ek_start {s : State} {args : Array Value} (hts : ∀ w ∈ wsL_law, w.before args s = true) (htn : ∀ w ∈ lw_tbl, w.before args s = true) : ∃ (G : va_G) (cA : Nat → ClassId), EK G cA s := by
  obtain ⟨cX0, iX0, kX0⟩ := u_known (C := RX0) (T := TX0) (N := 5) (n := 5) hts inlX0 (hts _ lwi_X0)
  obtain ⟨cX1, iX1, kX1⟩ := u_known (C := RX1) (T := TX1) (N := 2) (n := 2) hts inlX1 (hts _ lwi_X1)
  obtain ⟨cX2, iX2, kX2⟩ := u_known (C := RX2) (T := TX2) (N := 2) (n := 2) hts inlX2 (hts _ lwi_X2)
  obtain ⟨cX3, iX3, kX3⟩ := u_known (C := RX3) (T := TX3) (N := 4) (n := 4) hts inlX3 (hts _ lwi_X3)
  obtain ⟨cX4, iX4, kX4⟩ := u_known (C := RX4) (T := TX4) (N := 8) (n := 8) hts inlX4 (hts _ lwi_X4)
  obtain ⟨cX5, iX5, kX5⟩ := u_known (C := RX5) (T := TX5) (N := 6) (n := 6) hts inlX5 (hts _ lwi_X5)
  obtain ⟨a0, h0, n0⟩ := arr_of (htn _ lwt_acI)
  obtain ⟨a1, h1, n1⟩ := arr_of (htn _ lwt_acC)
  obtain ⟨a2, h2, n2⟩ := arr_of (htn _ lwt_acZ)
  obtain ⟨comp3, a3, k3, p1, -, p3, p4, p5⟩ := Cond.arrayOver_spec (htn _ lwt_aoQ)
  obtain ⟨comp4, a4, k4, q1, -, q3, q4, q5⟩ := arrayOver_specB (htn _ lwt_aoA)
  refine ⟨(fun k => match k with | 0 => cX0 | 1 => cX1 | 2 => cX2 | 3 => cX3 | 4 => cX4 | _ => cX5, fun k => match k with | 0 => iX0 | 1 => iX1 | 2 => iX2 | 3 => iX3 | 4 => iX4 | _ => iX5), fun k => match k with | 0 => a0 | 1 => a1 | 2 => a2 | 3 => a3 | _ => a4, ⟨fun k q hq => ?_, fun k q hq => ?_⟩, fun w hw => ?_⟩
  · match k, hq with
    | 0, hq => cases hq; exact kX0
    | 1, hq => cases hq; exact kX1
    | 2, hq => cases hq; exact kX2
    | 3, hq => cases hq; exact kX3
    | 4, hq => cases hq; exact kX4
    | 5, hq => cases hq; exact kX5
    | k + 6, hq => simp [vwCl] at hq
  · match k, hq with
    | 0, hq => cases hq; exact ⟨h0, n0⟩
    | 1, hq => cases hq; exact ⟨h1, n1⟩
    | 2, hq => cases hq; exact ⟨h2, n2⟩
    | 3, hq => cases hq; exact ⟨fun n z => ⟨fun k h => (by cases h), k3, p3, comp3, p4⟩, k3, comp3, p3, p4, p1, p5⟩
    | 4, hq => cases hq; exact ⟨fun n z => ⟨fun k h => (by cases h), k4, q3, comp4, q4⟩, q5⟩
    | k + 5, hq => simp [tys0] at hq
  · have hb := htn _ (lw_nest w hw)
    simp only [nestW, List.mem_cons, List.not_mem_nil, or_false] at hw
    rcases hw with rfl | rfl | rfl | rfl | rfl | rfl | rfl <;> exact va_Nw.of rfl hb
theorem st_arr {s : State} {args : Array Value} {A : Nat → Prop} {nm : String} (f : Nat → Int32) (h1 : (Cond.arrayOf (.static "DippedWaves" nm "[I") .int).before args s = true) (h2 : (Cond.eq (.length (.static "DippedWaves" nm "[I")) (.int 4)).before args s = true) (h3 : ∀ j, j < 4 → (Cond.eq (.elem (.static "DippedWaves" nm "[I") (.int (Int32.ofNat j))) (.int (f j))).before args s = true) (lays : (Cond.laysStatic "DippedWaves" nm "[I").before args s = true) (ini : (Cond.initialized "DippedWaves").before args s = true) (hA : ∀ a : Nat, a < s.heap.size → ¬ A a) :
    ∃ t, (Term.static "DippedWaves" nm "[I").eval args s none [] s = some (.ref t) ∧ va_Z "DippedWaves" nm "[I" (.ref t) A s s.heap ∧ va_T .int t 4 (fun j => .int (f j)) A s s.heap := by
  obtain ⟨t, ht, hT⟩ := va_Tof (N := 4) (f := fun j => .int (f j)) (A := A) (by decide) h1 (va_eqt h2) (fun j hj => va_eqt (h3 j hj)) hA
  exact ⟨t, ht, va_Zref lays ini ht hA, hT⟩
abbrev pre1 : Cond := Jvm.Cond.and given_1 narrow_1
theorem ks_start {s : State} {args : Array Value} {A : Nat → Prop} (htn : ∀ w ∈ lw_tbl, w.before args s = true) (hg : pre1.before args s = true) (hA : ∀ a : Nat, a < s.heap.size → ¬ A a) : ∃ tl tm, KSM tl tm A s := by
  have hs := flat_of_before _ hg
  obtain ⟨tl, -, z1, t1⟩ := st_arr (A := A) (nm := "LEAST_SETTINGS") (fun j => leastF (nI j)) (hs _ (by decide +kernel)) (hs _ (by decide +kernel)) (fun j hj => match j, hj with
    | 0, _ => hs _ (by decide +kernel)
    | 1, _ => hs _ (by decide +kernel)
    | 2, _ => hs _ (by decide +kernel)
    | 3, _ => hs _ (by decide +kernel)
    | j + 4, h => absurd h (by omega)) (htn _ lwt_lsL) (htn _ lwt_iD) hA
  obtain ⟨tm, -, z2, t2⟩ := st_arr (A := A) (nm := "MOST_SETTINGS") (fun j => mostF (nI j)) (hs _ (by decide +kernel)) (hs _ (by decide +kernel)) (fun j hj => match j, hj with
    | 0, _ => hs _ (by decide +kernel)
    | 1, _ => hs _ (by decide +kernel)
    | 2, _ => hs _ (by decide +kernel)
    | 3, _ => hs _ (by decide +kernel)
    | j + 4, h => absurd h (by omega)) (htn _ lwt_lsM) (htn _ lwt_iD) hA
  exact ⟨tl, tm, z1, t1, z2, t2⟩
theorem fs_start {s : State} {args : Array Value} {A : Nat → Prop} (htn : ∀ w ∈ lw_tbl, w.before args s = true) (hg : pre1.before args s = true) (hA : ∀ a : Nat, a < s.heap.size → ¬ A a) : ∃ t, FSM t A s := by
  have hs := flat_of_before _ hg
  have hlen : (Cond.eq (.length (.static "DippedWaves" "FIRST_SETTINGS" "[I")) (.int 4)).before args s = true := hs _ (by decide +kernel)
  obtain ⟨t, ht, hZ, cell, g1, g2, g3, g4, g5, g6, g7⟩ := st_arr (A := A) (nm := "FIRST_SETTINGS") firstF (hs _ (by decide +kernel)) hlen (fun j hj => match j, hj with
    | 0, _ => hs _ (by decide +kernel)
    | 1, _ => hs _ (by decide +kernel)
    | 2, _ => hs _ (by decide +kernel)
    | 3, _ => hs _ (by decide +kernel)
    | j + 4, h => absurd h (by omega)) (htn _ lwt_lsF) (htn _ lwt_iD) hA
  obtain ⟨a, cell2, b1, b2, b3, b4⟩ := len_small (va_eqt hlen)
  have ea : t = a := by
    have q := ht.symm.trans b1
    cases q
    rfl
  subst ea
  obtain ⟨b5, -, -, -⟩ := State.arrayAt?_spec b2
  have ec : cell = cell2 := Option.some.inj (g1.symm.trans b5)
  subst ec
  have hsz : cell.slots.size = 4 := by
    have q : (4 : Int32) = cell.slots.size.toInt32 := Value.int.inj b4
    have q2 := congrArg Int32.toInt q
    rw [show cell.slots.size.toInt32 = nI cell.slots.size from rfl, nI_toInt b3, show (4 : Int32).toInt = 4 from by decide] at q2
    omega
  have hex : (Cond.exactly (.static "DippedWaves" "FIRST_SETTINGS" "[I") "[I").before args s = true := hs _ (by decide +kernel)
  obtain ⟨a3, c3, cell3, k3, d1, d2, d3, -, -, d6, -⟩ := Cond.exactly_spec hex
  have ea3 : t = a3 := by
    have q := ht.symm.trans d1
    cases q
    rfl
  subst ea3
  have ec3 : cell = cell3 := Option.some.inj (g1.symm.trans d3)
  subst ec3
  refine ⟨t, hZ, ⟨cell, g1, g2.1, g3, by rw [d6]; exact d2, ?_, g7⟩, va_AO.of (htn _ lwt_aoQ), arrayOver_alikeB (Vm.Alike.refl s.vm) (htn _ lwt_aoA), va_Nw.of rfl (htn _ lwt_cst)⟩
  apply Array.ext
  · rw [hsz, arrV_size]
  · intro i h1 h2
    have q := g6 i (by omega)
    have q3 : (arrV 0 4 (fun j => .int (firstF j))).slots[i]? = some (.int (firstF i)) := arrV_read _ _ (by omega)
    rw [Array.getElem?_eq_getElem h1] at q
    rw [Array.getElem?_eq_getElem h2] at q3
    exact (Option.some.inj q).trans (Option.some.inj q3).symm
