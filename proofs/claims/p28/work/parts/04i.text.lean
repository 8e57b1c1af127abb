/-! Longs as naturals, and what the pad's operations compute. -/
theorem lN_bits {n : Nat} (h : n < 2 ^ 64) : (lN n).toBitVec.toNat = n := by
  show (BitVec.ofNat 64 n).toNat = n
  rw [BitVec.toNat_ofNat, Nat.mod_eq_of_lt h]
theorem lN_some (x : Int64) : ∃ n, n < 2 ^ 64 ∧ x = lN n := ⟨x.toBitVec.toNat, x.toBitVec.isLt, Int64.toBitVec_inj.mp (by
  show x.toBitVec = BitVec.ofNat 64 x.toBitVec.toNat
  rw [BitVec.ofNat_toNat]
  exact (BitVec.setWidth_eq _).symm)⟩
theorem lN_zero {n : Nat} (h : n < 2 ^ 64) : lN n = lN 0 ↔ n = 0 := ⟨fun e => by
  have q := congrArg (fun z : Int64 => z.toBitVec.toNat) e
  simp only [lN_bits h, lN_bits (show 0 < 2 ^ 64 by decide)] at q
  exact q, fun e => by rw [e]⟩
theorem lN_and255 {n : Nat} (h : n < 2 ^ 64) : lN n &&& lN 255 = lN (n % 256) := by
  apply Int64.toBitVec_inj.mp
  apply BitVec.eq_of_toNat_eq
  rw [Int64.toBitVec_and, BitVec.toNat_and, lN_bits h, lN_bits (by decide), lN_bits (by omega)]
  exact Nat.and_two_pow_sub_one_eq_mod n 8
theorem amt63 : ∀ k, k < 64 → ((nI k).toInt64.toUInt64 &&& Int64.toUInt64 63) = UInt64.ofNat k := by decide +kernel
theorem lN_ushr {n k : Nat} (h : n < 2 ^ 64) (hk : k < 64) : ((lN n).toUInt64 >>> ((nI k).toInt64.toUInt64 &&& Int64.toUInt64 63)).toInt64 = lN (n / 2 ^ k) := by
  rw [amt63 k hk]
  apply Int64.toBitVec_inj.mp
  apply BitVec.eq_of_toNat_eq
  rw [lN_bits (Nat.lt_of_le_of_lt (Nat.div_le_self n _) h)]
  show ((lN n).toUInt64 >>> UInt64.ofNat k).toNat = _
  rw [UInt64.toNat_shiftRight, show (lN n).toUInt64.toNat = n from lN_bits h, show (UInt64.ofNat k).toNat % 64 = k from by
    rw [show (UInt64.ofNat k).toNat = k % 2 ^ 64 from rfl]
    omega, Nat.shiftRight_eq_div_pow]
theorem i2c_nI : ∀ k, k < 256 → ((nI k).toUInt32 % 65536).toInt32 = nI k := by decide +kernel
theorem char_nI : ∀ k, k < 256 → vp_nar .char (nI k) = nI k := by decide +kernel
theorem inP_iff {a b c : Nat} (ha : a < 2147483648) (hb : b < 2147483648) (hc : c < 2147483648) : inP (nI a) (nI b) (nI c) ↔ b ≤ a ∧ a ≤ c :=
  ⟨fun h => ⟨(nI_leI hb ha).mp h.1, (nI_leI ha hc).mp h.2⟩, fun h => ⟨nI_le h.1 ha, nI_le h.2 hc⟩⟩
section ROWSL
variable {p : Program} {l : Launch} {e : Env} {R : Room} {s : State} {m : MethodId} {args : Array Value} {below : List Frame} {meth : Method} {c : Code} {H : Heap} {locs : List Loc} {cells slots : Nat} {Q : State → Prop}
variable {cc : ByteArray} {pc nL : Nat} {ls : Array Slot} {rest : List Value} {own : String}
theorem rn_lcmp0 (hx : p.tables.exec = Jvm.exec) (hb : c.code = cc) {n : Nat} (hn : n < 2 ^ 64) (hdg : decode cc pc = .ok (.lcmp, 1)) (k0 : n = 0 → W p l e R s m args below meth c H locs cells slots Q (F0 m (pc + 1) ls (.int 0 :: rest)))
    (k1 : n ≠ 0 → ∀ v : Int32, ¬ v = 0 → W p l e R s m args below meth c H locs cells slots Q (F0 m (pc + 1) ls (.int v :: rest))) : W p l e R s m args below meth c H locs cells slots Q (F0 m pc ls (.long (lN 0) :: .long (lN n) :: rest)) := by
  intro T hT X
  by_cases h : n = 0
  · obtain ⟨t, a, b⟩ := k0 h T hT X
    refine ⟨t, ?_, b⟩
    subst h
    jvm_step X.here [X.here.top, hx, hb, hdg]
    exact a
  · have hne : ¬ lN n = lN 0 := fun q => h ((lN_zero hn).mp q)
    by_cases h1 : lN n > lN 0
    · obtain ⟨t, a, b⟩ := k1 h 1 (by decide +kernel) T hT X
      refine ⟨t, ?_, b⟩
      jvm_step X.here [X.here.top, hx, hb, hdg]
      simp only [h1, if_true] at a ⊢
      exact a
    · obtain ⟨t, a, b⟩ := k1 h (-1) (by decide +kernel) T hT X
      refine ⟨t, ?_, b⟩
      jvm_step X.here [X.here.top, hx, hb, hdg]
      simp [h1, hne] at a ⊢
      exact a
theorem rn_land255 (hx : p.tables.exec = Jvm.exec) (hb : c.code = cc) {n : Nat} (hn : n < 2 ^ 64) (hdg : decode cc pc = .ok (.land, 1)) (k : W p l e R s m args below meth c H locs cells slots Q (F0 m (pc + 1) ls (.long (lN (n % 256)) :: rest))) : W p l e R s m args below meth c H locs cells slots Q (F0 m pc ls (.long (lN 255) :: .long (lN n) :: rest)) :=
  lv_land hx hb hdg (by rw [lN_and255 hn]; exact k)
theorem rn_ldc255 (hx : p.tables.exec = Jvm.exec) (hb : c.code = cc) {index : Nat} (hown : s.vm.findClass own = some m.cls) (hconst : (Jvm.Cond.constantLong own index 255).before args s = true) (hdg : decode cc pc = .ok (.ldc2_w index, 3)) (k : W p l e R s m args below meth c H locs cells slots Q (F0 m (pc + 3) ls (.long (lN 255) :: rest))) : W p l e R s m args below meth c H locs cells slots Q (F0 m pc ls rest) :=
  lv_ldc2 hx hb hown hconst hdg k
theorem rn_lushr (hx : p.tables.exec = Jvm.exec) (hb : c.code = cc) {n k : Nat} (hn : n < 2 ^ 64) (hk : k < 64) (hdg : decode cc pc = .ok (.lushr, 1)) (kk : W p l e R s m args below meth c H locs cells slots Q (F0 m (pc + 1) ls (.long (lN (n / 2 ^ k)) :: rest))) : W p l e R s m args below meth c H locs cells slots Q (F0 m pc ls (.int (nI k) :: .long (lN n) :: rest)) :=
  lv_lushr hx hb hdg (lN_ushr hn hk) kk
theorem rn_l2i (hx : p.tables.exec = Jvm.exec) (hb : c.code = cc) {n : Nat} (hdg : decode cc pc = .ok (.l2i, 1)) (k : W p l e R s m args below meth c H locs cells slots Q (F0 m (pc + 1) ls (.int (nI n) :: rest))) : W p l e R s m args below meth c H locs cells slots Q (F0 m pc ls (.long (lN n) :: rest)) :=
  lv_l2i hx hb hdg (lN_i n) k
theorem rn_i2c (hx : p.tables.exec = Jvm.exec) (hb : c.code = cc) {n : Nat} (hn : n < 256) (hdg : decode cc pc = .ok (.i2c, 1)) (k : W p l e R s m args below meth c H locs cells slots Q (F0 m (pc + 1) ls (.int (nI n) :: rest))) : W p l e R s m args below meth c H locs cells slots Q (F0 m pc ls (.int (nI n) :: rest)) :=
  lv_i2c hx hb hdg (i2c_nI n hn) k
end ROWSL
/-- how many characters a number gives; 0 where it gives none -/
def chF : Nat → Nat → Nat → Nat
  | 0, r, m => if r = 0 then m else 0
  | f + 1, r, m => if r % 256 = 0 then (if r = 0 then m else 0) else if 33 ≤ r % 256 ∧ r % 256 ≤ 126 then chF f (r / 256) (m + 1) else 0
theorem chF_end {f r m : Nat} (h : f = 0 ∨ r % 256 = 0) : chF f r m = if r = 0 then m else 0 := by
  cases f with
  | zero => rfl
  | succ f =>
    rw [chF]
    rcases h with h | h
    · omega
    · rw [if_pos h]
theorem chF_bad {f r m : Nat} (hf : 1 ≤ f) (hr : ¬ r = 0) (h : ¬ (33 ≤ r % 256 ∧ r % 256 ≤ 126)) : chF f r m = 0 := by
  obtain ⟨g, rfl⟩ : ∃ g, f = g + 1 := ⟨f - 1, by omega⟩
  rw [chF]
  by_cases q : r % 256 = 0
  · rw [if_pos q, if_neg hr]
  · rw [if_neg q, if_neg h]
theorem chF_step {f r m : Nat} (hf : 1 ≤ f) (h : 33 ≤ r % 256 ∧ r % 256 ≤ 126) : chF f r m = chF (f - 1) (r / 256) (m + 1) := by
  obtain ⟨g, rfl⟩ : ∃ g, f = g + 1 := ⟨f - 1, by omega⟩
  rw [chF, if_neg (by omega), if_pos h, Nat.add_sub_cancel]
/-- the pad, q of ct characters written on -/
def padF (pd : Nat → Int32) (n ty ct q : Nat) : Nat → Int32 := fun j => if ty ≤ j ∧ j < ty + q then nI (n / 2 ^ (8 * (ct - 1 - (j - ty))) % 256) else pd j
theorem padF_0 {pd : Nat → Int32} {n ty ct : Nat} : pd = padF pd n ty ct 0 := by funext j; unfold padF; rw [if_neg (by omega)]
theorem padF_next {pd pq : Nat → Int32} {n ty ct q j k : Nat} {x : Int32} (h : pq = padF pd n ty ct q) (hj : j = ty + q) (hk : k = ct - 1 - q) (hx : x = vp_nar .char (nI (n / 2 ^ (8 * k) % 256))) : upd pq j x = padF pd n ty ct (q + 1) := by
  subst h hj hk hx
  rw [char_nI _ (Nat.mod_lt _ (by decide))]
  funext i
  by_cases e : i = ty + q
  · rw [updE e]; unfold padF; rw [if_pos (by omega), show i - ty = q by omega]
  · rw [updN e]
    unfold padF
    by_cases r : ty ≤ i ∧ i < ty + q
    · rw [if_pos r, if_pos (by omega)]
    · rw [if_neg r, if_neg (by omega)]
def floF (c : Int32) : Int32 := if c = nI 46 then nI 0 else if c = nI 45 then nI 1 else if c = nI 35 then nI 2 else if c = nI 126 then nI 3 else -6
abbrev padOk (pd : Nat → Int32) (k : Nat) : Prop := k < 65 ∧ ((k % 11 = 10 ∧ pd k = nI 47) ∨ (¬ k % 11 = 10 ∧ ¬ floF (pd k) = -6))
/-- the first place at fault among n of the pad, or n -/
def badN (pd : Nat → Int32) : Nat → Nat
  | 0 => 0
  | n + 1 => if badN pd n < n then badN pd n else if padOk pd n then n + 1 else n
def badF (pd : Nat → Int32) (n : Nat) : Int32 := if badN pd n < n then nI (badN pd n) else if n < 65 then nI n else -6
theorem badN_all {pd : Nat → Int32} : ∀ n, (∀ j, j < n → padOk pd j) → badN pd n = n
  | 0, _ => rfl
  | n + 1, h => by rw [badN, badN_all n (fun j hj => h j (by omega)), if_neg (Nat.lt_irrefl n), if_pos (h n (by omega))]
theorem badN_at {pd : Nat → Int32} {k : Nat} (h : ∀ j, j < k → padOk pd j) (hk : ¬ padOk pd k) : ∀ m, badN pd (k + 1 + m) = k
  | 0 => by rw [Nat.add_zero, badN, badN_all k h, if_neg (Nat.lt_irrefl k), if_neg hk]
  | m + 1 => by
    have e := badN_at h hk m
    show badN pd (k + 1 + m + 1) = k
    rw [badN, e, if_pos (by omega)]
theorem badF_at {pd : Nat → Int32} {k n : Nat} (h : ∀ j, j < k → padOk pd j) (hk : ¬ padOk pd k) (hn : k < n) : nI k = badF pd n := by
  have e : badN pd n = k := by
    have q := badN_at h hk (n - (k + 1))
    rw [show k + 1 + (n - (k + 1)) = n by omega] at q
    exact q
  unfold badF
  rw [e, if_pos hn]
theorem badF_all {pd : Nat → Int32} {n : Nat} (h : ∀ j, j < n → padOk pd j) : (if n < 65 then nI n else -6) = badF pd n := by
  unfold badF
  rw [badN_all n h, if_neg (Nat.lt_irrefl n)]
def readM (z pd : Nat → Int32) : Nat → Int32 := rgF 245 100 (fun _ => nI 0) (calmM (rgF 5 60 (fun c => floF (pd (c / 10 * 11 + c % 10))) z))
/-- how put's count stands at its head: all good so far, or one was not -/
abbrev putG (n k r : Nat) (g : Int32) : Prop := (g = nI 1 ∧ chF (8 - k) r k = chF 8 n 0 ∧ r < 256 ^ (8 - k)) ∨ (g = nI 0 ∧ chF 8 n 0 = 0 ∧ 1 ≤ k)
theorem put_next {n k r : Nat} {g : Int32} (h : putG n k r g) (hk : k ≤ 8) (hr : r ≠ 0) (hg : ¬ g = 0) : k + 1 ≤ 8 ∧ putG n (k + 1) (r / 2 ^ 8) (b2i (inP (nI (r % 256)) (nI 33) (nI 126))) := by
  rcases h with ⟨h1, h2, h3⟩ | ⟨h1, h2, h3⟩
  · have k7 : k + 1 ≤ 8 := by
      rcases Nat.lt_or_ge k 8 with q | q
      · exact q
      · rw [show 8 - k = 0 by omega] at h3
        omega
    refine ⟨k7, ?_⟩
    by_cases q : inP (nI (r % 256)) (nI 33) (nI 126)
    · refine Or.inl ⟨b2i_1 q, ?_, ?_⟩
      · rw [← h2, chF_step (by omega) ((inP_iff (by omega) (by omega) (by omega)).mp q), show 8 - (k + 1) = 8 - k - 1 by omega]
      · rw [show 8 - k = 8 - (k + 1) + 1 by omega, Nat.pow_succ] at h3
        exact Nat.div_lt_of_lt_mul (by rw [Nat.mul_comm]; exact h3)
    · refine Or.inr ⟨b2i_0 q, ?_, by omega⟩
      rw [← h2, chF_bad (by omega) hr (fun z => q ((inP_iff (by omega) (by omega) (by omega)).mpr z))]
  · exact absurd h1 hg
theorem put_end {n k r : Nat} {g : Int32} (h : putG n k r g) (hr : r = 0) (hg : ¬ g = 0) : chF 8 n 0 = k := by
  rcases h with ⟨h1, h2, h3⟩ | ⟨h1, h2, h3⟩
  · rw [← h2, hr, chF_end (Or.inr rfl), if_pos rfl]
  · exact absurd h1 hg
theorem put_zero {n k r : Nat} {g : Int32} (h : putG n k r g) (hz : (r = 0 ∧ k = 0) ∨ g = 0) : chF 8 n 0 = 0 := by
  rcases h with ⟨h1, h2, h3⟩ | ⟨h1, h2, h3⟩
  · rcases hz with ⟨a, b⟩ | a
    · rw [← h2, a, chF_end (Or.inr rfl), if_pos rfl, b]
    · exact absurd (h1.symm.trans a) (by decide +kernel)
  · exact h2
theorem down_pos {i : Nat} (h : ¬ nI i - nI 1 < 0) : ∃ j, i = j + 1 := by
  cases i with
  | zero => exact absurd (by decide +kernel) h
  | succ j => exact ⟨j, rfl⟩
theorem down_zero {i : Nat} (hi : i < 2147483648) (h : nI i - nI 1 < 0) : i = 0 := by
  cases i with
  | zero => rfl
  | succ j => rw [nI_m1] at h; exact absurd h (nI_pos (by omega))
