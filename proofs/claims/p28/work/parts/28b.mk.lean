/-! A constructor's call: the fresh cell stands last. -/
theorem nd_of {l : List Nat} (h : l.Nodup) : va_nd l = true := by
  induction l with
  | nil => rfl
  | cons a l ih =>
    have h2 := List.nodup_cons.mp h
    simp [va_nd, h2.1, ih h2.2]
theorem range_map {α : Type} (ws x : List α) : (List.range ws.length).map (fun i => (ws ++ x)[i]?) = ws.map some := by
  apply List.ext_getElem?
  intro k
  rw [List.getElem?_map, List.getElem?_map]
  by_cases h : k < ws.length
  · rw [List.getElem?_range h, List.getElem?_eq_getElem h]
    show some ((ws ++ x)[k]?) = _
    rw [List.getElem?_append_left h, List.getElem?_eq_getElem h]
    rfl
  · rw [List.getElem?_eq_none (by rw [List.length_range]; omega), List.getElem?_eq_none (by omega)]
    rfl
section ROWSL2
variable {p : Program} {l : Launch} {e : Env} {R : Room} {s : State} {m : MethodId} {args : Array Value} {below : List Frame} {meth : Method} {c : Code} {H : Heap} {locs : List Loc} {cells slots : Nat} {Q : State → Prop}
variable {cc : ByteArray} {pc nL : Nat} {ls : Array Slot} {rest : List Value} {G : va_G} {cA : Nat → ClassId} {A : Nat → Prop} {ws ws' : va_W} {H0 : Heap} {own : String} {Ts : List Cond}
theorem mk_last {x : Nat × va_E} {w1 : (Nat → Nat) → va_W} {ar : Array Value} {st0 : List Value} {mc ms : Nat} (hW : wld G A (ws ++ [x]) H0 H locs) (hA : ∀ q, H0.size ≤ q → A q)
    (hr : va_Run p l e R s m args below meth c H locs cells slots mc ms (F0 m pc ls st0) rest (va_Qv (fun _ : Nat → Nat => True) (fun u t => va_P G vwCl (w1 u) t.heap ∧ va_D (va_A [x] H.size) (w1 u)) (va_A [x] H.size) ar) (va_A [x] H.size))
    (kk : ∀ (u : Nat → Nat) (H1 : Heap) (locs1 : List Loc), wld G A (ws ++ w1 u) H0 H1 locs1 → W p l e R s m args below meth c H1 locs1 (cells + mc) (slots + ms) Q (F0 m (pc + 3) ls rest)) : W p l e R s m args below meth c H locs cells slots Q (F0 m pc ls st0) :=
  mk_call hW hA [ws.length] (List.range ws.length) (by simp) (range_map ws [x]) (nd_of List.nodup_range) (fun i hi => by
    rw [List.mem_singleton]
    have := List.mem_range.mp hi
    omega) hr kk
end ROWSL2
