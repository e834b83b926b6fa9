/-! Values of the class: their bits. -/
theorem s463 : ((4 : Int64) &&& 63) = 4 := by decide
theorem vb_of (c : Int32) (k : Nat) (hk : k < 4) (i : Nat) (hi : i < 64) : (v_of (nI k) c).toBitVec.getLsbD i = if i < 4 then k.testBit i else (c.toBitVec.signExtend 64).getLsbD (i - 4) := by
  have hs : (c.toInt64 <<< ((4 : Int64) &&& 63)).toBitVec = c.toInt64.toBitVec <<< 4 := by
    rw [s463]
    rfl
  have e : (v_of (nI k) c).toBitVec = (c.toInt64 <<< ((4 : Int64) &&& 63)).toBitVec ||| (nI k).toInt64.toBitVec := rfl
  have ek : (nI k).toInt64.toBitVec.getLsbD i = (k.testBit i && decide (i < 4)) := by
    have : ∀ k, k < 4 → ∀ i, i < 64 → (nI k).toInt64.toBitVec.getLsbD i = (k.testBit i && decide (i < 4)) := by decide +kernel
    exact this k hk i hi
  rw [e, hs, BitVec.getLsbD_or, BitVec.getLsbD_shiftLeft, ek]
  by_cases h4 : i < 4
  · simp [h4]
  · have : c.toInt64.toBitVec = c.toBitVec.signExtend 64 := rfl
    simp [h4, hi, this]
theorem i64_ext {x y : Int64} (h : ∀ i, i < 64 → x.toBitVec.getLsbD i = y.toBitVec.getLsbD i) : x = y := by
  have : x.toBitVec = y.toBitVec := BitVec.eq_of_getLsbD_eq (fun i hi => h i hi)
  exact Int64.toBitVec_inj.mp this
theorem i32_ext {x y : Int32} (h : ∀ i, i < 32 → x.toBitVec.getLsbD i = y.toBitVec.getLsbD i) : x = y := by
  have : x.toBitVec = y.toBitVec := BitVec.eq_of_getLsbD_eq (fun i hi => h i hi)
  exact Int32.toBitVec_inj.mp this
theorem lit_b (n : Nat) (hn : n < 16) (i : Nat) (hi : i < 64) : (Int64.ofNat n).toBitVec.getLsbD i = (n.testBit i && decide (i < 4)) := by
  have : ∀ n, n < 16 → ∀ i, i < 64 → (Int64.ofNat n).toBitVec.getLsbD i = (n.testBit i && decide (i < 4)) := by decide +kernel
  exact this n hn i hi
theorem and_b (x y : Int64) (i : Nat) : (x &&& y).toBitVec.getLsbD i = (x.toBitVec.getLsbD i && y.toBitVec.getLsbD i) := by
  have : (x &&& y).toBitVec = x.toBitVec &&& y.toBitVec := rfl
  rw [this, BitVec.getLsbD_and]
theorem or_b (x y : Int64) (i : Nat) : (x ||| y).toBitVec.getLsbD i = (x.toBitVec.getLsbD i || y.toBitVec.getLsbD i) := by
  have : (x ||| y).toBitVec = x.toBitVec ||| y.toBitVec := rfl
  rw [this, BitVec.getLsbD_or]
theorem kd_b (x : Int64) (i : Nat) (hi : i < 32) : (v_kd x).toBitVec.getLsbD i = (x.toBitVec.getLsbD i && decide (i < 2)) := by
  have e : (v_kd x).toBitVec = (x &&& 3).toBitVec.signExtend 32 := rfl
  rw [e, BitVec.getLsbD_signExtend, if_pos (show i < 64 by omega), and_b]
  have h3 := lit_b 3 (by omega) i (by omega)
  have e3 : (Int64.ofNat 3) = 3 := rfl
  rw [e3] at h3
  rw [h3]
  by_cases h2 : i < 2
  · have : Nat.testBit 3 i = true := by
      have : ∀ i, i < 2 → Nat.testBit 3 i = true := by decide
      exact this i h2
    simp [hi, h2, this, show i < 4 by omega]
  · have : Nat.testBit 3 i = false ∨ ¬ i < 4 := by
      by_cases h4 : i < 4
      · left
        have : ∀ i, i < 4 → ¬ i < 2 → Nat.testBit 3 i = false := by decide
        exact this i h4 h2
      · exact .inr h4
    rcases this with z | z <;> simp [h2, z]
theorem ca_b (x : Int64) (i : Nat) (hi : i < 32) : (v_ca x).toBitVec.getLsbD i = x.toBitVec.getLsbD (i + 4) := by
  have e : (v_ca x).toBitVec = (x >>> ((4 : Int64) &&& 63)).toBitVec.signExtend 32 := rfl
  have hs : (x >>> ((4 : Int64) &&& 63)).toBitVec = x.toBitVec.sshiftRight 4 := by
    rw [s463]
    rfl
  rw [e, BitVec.getLsbD_signExtend, if_pos (show i < 64 by omega), hs, BitVec.getLsbD_sshiftRight]
  simp [hi, show ¬ 64 ≤ i by omega, show 4 + i < 64 by omega, Nat.add_comm]
  intro h
  exact absurd h (by omega)
/-- the facts of a value -/
theorem of_kd (c : Int32) (k : Nat) (hk : k < 4) : v_kd (v_of (nI k) c) = nI k := by
  refine i32_ext (fun i hi => ?_)
  rw [kd_b _ _ hi, vb_of c k hk i (by omega)]
  have e2 : ∀ k, k < 4 → ∀ i, i < 32 → (nI k).toBitVec.getLsbD i = (k.testBit i && decide (i < 2)) := by decide +kernel
  rw [e2 k hk i hi]
  by_cases h : i < 2
  · simp [h, show i < 4 by omega]
  · simp [h]
theorem of_ca (c : Int32) (k : Nat) (hk : k < 4) : v_ca (v_of (nI k) c) = c := by
  refine i32_ext (fun i hi => ?_)
  rw [ca_b _ _ hi, vb_of c k hk (i + 4) (by omega), if_neg (by omega), Nat.add_sub_cancel, BitVec.getLsbD_signExtend, if_pos hi]
  simp [show i < 64 by omega]
theorem tb_of (k : Nat) (hk : k < 4) (i : Nat) (h : 2 ≤ i) : k.testBit i = false := by
  refine Nat.testBit_lt_two_pow ?_
  calc k < 2 ^ 2 := by omega
    _ ≤ 2 ^ i := Nat.pow_le_pow_right (by omega) h
theorem of_4 (c : Int32) (k : Nat) (hk : k < 4) : v_of (nI k) c &&& 4 = 0 := by
  refine i64_ext (fun i hi => ?_)
  have l4 := lit_b 4 (by omega) i hi
  have l0 := lit_b 0 (by omega) i hi
  rw [show Int64.ofNat 4 = 4 from rfl] at l4
  rw [show Int64.ofNat 0 = 0 from rfl] at l0
  rw [and_b, vb_of c k hk i hi, l4, l0, Nat.zero_testBit]
  by_cases h4 : i < 4
  · by_cases h2 : i = 2
    · subst h2
      simp [tb_of k hk 2 (by omega)]
    · have : ∀ i, i < 4 → ¬ i = 2 → Nat.testBit 4 i = false := by decide
      simp [this i h4 h2]
  · simp [h4]
theorem of_8 (c : Int32) (k : Nat) (hk : k < 4) : v_of (nI k) c &&& 8 = 0 := by
  refine i64_ext (fun i hi => ?_)
  have l4 := lit_b 8 (by omega) i hi
  have l0 := lit_b 0 (by omega) i hi
  rw [show Int64.ofNat 8 = 8 from rfl] at l4
  rw [show Int64.ofNat 0 = 0 from rfl] at l0
  rw [and_b, vb_of c k hk i hi, l4, l0, Nat.zero_testBit]
  by_cases h4 : i < 4
  · by_cases h2 : i = 3
    · subst h2
      simp [tb_of k hk 3 (by omega)]
    · have : ∀ i, i < 4 → ¬ i = 3 → Nat.testBit 8 i = false := by decide
      simp [this i h4 h2]
  · simp [h4]
theorem oc_eq (k c : Int32) : v_oc k c = v_of k c ||| 4 := by
  unfold v_oc v_of
  refine i64_ext (fun i _ => ?_)
  simp only [or_b]
  cases (c.toInt64 <<< ((4 : Int64) &&& 63)).toBitVec.getLsbD i <;> cases (4 : Int64).toBitVec.getLsbD i <;> cases k.toInt64.toBitVec.getLsbD i <;> rfl
theorem b4 (i : Nat) (hi : i < 64) : (4 : Int64).toBitVec.getLsbD i = decide (i = 2) := by
  have : ∀ i, i < 64 → (4 : Int64).toBitVec.getLsbD i = decide (i = 2) := by decide +kernel
  exact this i hi
theorem b8 (i : Nat) (hi : i < 64) : (8 : Int64).toBitVec.getLsbD i = decide (i = 3) := by
  have : ∀ i, i < 64 → (8 : Int64).toBitVec.getLsbD i = decide (i = 3) := by decide +kernel
  exact this i hi
theorem b9 (i : Nat) (hi : i < 64) : (-9 : Int64).toBitVec.getLsbD i = !decide (i = 3) := by
  have : ∀ i, i < 64 → (-9 : Int64).toBitVec.getLsbD i = !decide (i = 3) := by decide +kernel
  exact this i hi
theorem b0 (i : Nat) (hi : i < 64) : (0 : Int64).toBitVec.getLsbD i = false := by
  have : ∀ i, i < 64 → (0 : Int64).toBitVec.getLsbD i = false := by decide +kernel
  exact this i hi
/-- or-ing a high bit leaves kind and what is carried -/
theorem or_kd (x y : Int64) (h : y = 4 ∨ y = 8) : v_kd (x ||| y) = v_kd x := by
  refine i32_ext (fun i hi => ?_)
  rw [kd_b _ _ hi, kd_b _ _ hi, or_b]
  by_cases h2 : i < 2
  · rcases h with h | h <;> subst h
    · rw [b4 i (by omega)]
      simp [h2, show ¬ i = 2 by omega]
    · rw [b8 i (by omega)]
      simp [h2, show ¬ i = 3 by omega]
  · simp [h2]
theorem or_ca (x y : Int64) (h : y = 4 ∨ y = 8) : v_ca (x ||| y) = v_ca x := by
  refine i32_ext (fun i hi => ?_)
  rw [ca_b _ _ hi, ca_b _ _ hi, or_b]
  rcases h with h | h <;> subst h
  · rw [b4 (i + 4) (by omega)]
    simp
  · rw [b8 (i + 4) (by omega)]
    simp
theorem z_bit {x : Int64} {j : Nat} (hj : j < 64) {y : Int64} (hy : ∀ i, i < 64 → y.toBitVec.getLsbD i = decide (i = j)) : x &&& y = 0 ↔ x.toBitVec.getLsbD j = false := by
  constructor
  · intro h
    have := congrArg (fun z => z.toBitVec.getLsbD j) h
    simp only [and_b, hy j hj, b0 j hj] at this
    simpa using this
  · intro h
    refine i64_ext (fun i hi => ?_)
    rw [and_b, hy i hi, b0 i hi]
    by_cases e : i = j
    · subst e
      simp [h]
    · simp [e]
theorem tag_8 (x : Int64) : ¬ (x ||| 8) &&& 8 = 0 := by
  rw [z_bit (j := 3) (by omega) b8, or_b, b8 3 (by omega)]
  simp
theorem tag_4 (x : Int64) : ((x ||| 8) &&& 4 = 0) ↔ (x &&& 4 = 0) := by
  rw [z_bit (j := 2) (by omega) b4, z_bit (j := 2) (by omega) b4, or_b, b8 2 (by omega)]
  simp
theorem oc_4 (k c : Int32) : ¬ v_oc k c &&& 4 = 0 := by
  rw [oc_eq, z_bit (j := 2) (by omega) b4, or_b, b4 2 (by omega)]
  simp
theorem oc_8 (c : Int32) (k : Nat) (hk : k < 4) : v_oc (nI k) c &&& 8 = 0 := by
  have h := of_8 c k hk
  rw [z_bit (j := 3) (by omega) b8] at h
  rw [oc_eq, z_bit (j := 3) (by omega) b8, or_b, h, b4 3 (by omega)]
  simp
theorem oc_kd (c : Int32) (k : Nat) (hk : k < 4) : v_kd (v_oc (nI k) c) = nI k := by
  rw [oc_eq, or_kd _ _ (.inl rfl), of_kd c k hk]
theorem oc_ca (c : Int32) (k : Nat) (hk : k < 4) : v_ca (v_oc (nI k) c) = c := by
  rw [oc_eq, or_ca _ _ (.inl rfl), of_ca c k hk]
theorem untag (x : Int64) (h : x &&& 8 = 0) : (x ||| 8) &&& -9 = x := by
  rw [z_bit (j := 3) (by omega) b8] at h
  refine i64_ext (fun i hi => ?_)
  rw [and_b, or_b, b8 i hi, b9 i hi]
  by_cases e : i = 3
  · subst e
    rw [h]
    rfl
  · simp [e]
