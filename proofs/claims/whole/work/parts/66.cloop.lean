/-! Checking: the loops. -/
def h20 (scr : Nat → Int32) (L F d : Nat) (I : am_I) (J : am_J) (Mx : am_I) (i N : Nat) (R : Option am_X) : Prop := ∀ (f : Nat) (tl : am_L), N ≤ f → kb 2 tl → am_f (d + 45) scr L (am_r scr L (F + 63000) (d + 45)) 20 f 2 ((0, .ref 21) :: (1, .int (nI i)) :: tl) [] (hp I J Mx) = R
def h11 (scr : Nat → Int32) (L F d : Nat) (Ix : am_I) (J : am_J) (M : am_I) (k N : Nat) (R : Option am_X) : Prop := ∀ (f : Nat) (tl : am_L), N ≤ f → kb 3 tl → am_f (d + 45) scr L (am_r scr L (F + 63000) (d + 45)) 111 f 78 ((0, .ref 37) :: (1, .int 1) :: (2, .int (nI k)) :: tl) [] (hp Ix J M) = R
theorem m1m (a : Nat) (h : a < 2 ^ 31) : (-1 - nI a : Int32) < 0 ∧ -1 - (-1 - nI a) = nI a ∧ ¬ (0 : Int32) ≤ -1 - nI a := by
  have e : (-1 - nI a : Int32).toInt = -1 - (a : Int) := by
    rw [Int32.toInt_sub, nI_toInt h, show (-1 : Int32).toInt = -1 by decide]
    rw [Int.bmod_eq_of_le] <;> omega
  have l : (-1 - nI a : Int32) < 0 := by
    rw [Int32.lt_iff_toInt_lt, e, show (0 : Int32).toInt = 0 by decide]
    omega
  refine ⟨l, ?_, fun z => ?_⟩
  · refine Int32.toInt_inj.mp ?_
    rw [Int32.toInt_sub, e, nI_toInt h, show (-1 : Int32).toInt = -1 by decide]
    rw [Int.bmod_eq_of_le] <;> omega
  · rw [Int32.le_iff_toInt_le, e, show (0 : Int32).toInt = 0 by decide] at z
    omega
set_option maxRecDepth 100000 in
set_option maxHeartbeats 4000000 in
theorem h20_end (scr : Nat → Int32) (L F d : Nat) (I : am_I) (J : am_J) (Mx : am_I) (i K : Nat) (hK : I 1 12 = nI K) (hK2 : K ≤ 100) (hi : i = K) : h20 scr L F d I J Mx i 60 (some (some (.int (-1)), hp I J Mx, 0, 0)) := by
  subst hi
  have hl : nI i ≤ nI i := nI_le (by omega) (by omega)
  intro f tl hf hk
  obtain ⟨g, rfl⟩ : ∃ g, f = g + 60 := ⟨f - 60, by omega⟩
  obtain ⟨tl1, e2, k2⟩ := kb_st hk
  have f1 := kb_f hk (show 1 < 2 by omega)
  have f2 := kb_f k2 (show 1 < 3 by omega)
  rw [s_20_2]
  simp [s_20_0, s_20_1, s_20_3, s_20_4, s_20_7, s_20_10, s_20_13, s_20_14, s_20_15, s_20_18, s_20_21, s_20_22, s_20_23, s_20_26, s_20_27, s_20_28, s_20_29, s_20_32, s_20_33, s_20_34, s_20_37, s_20_40, s_20_41, ha_0, hg_0_0, hg_0_1, hg_0_2, hg_0_3, hg_0_4, hq_0_4, hg_0_5, hq_0_5, ha_1, hg_1_0, hg_1_1, hg_1_2, hg_1_3, hg_1_4, hg_1_5, hg_1_6, hg_1_7, hg_1_8, hg_1_9, hg_1_10, hg_1_11, hg_1_12, hq_1_12, ha_2, hg_2_0, hg_2_1, hg_2_2, hg_2_3, hg_2_4, hq_2_4, hl_3, hs_3, hl_4, hs_4, hl_5, hs_5, hl_6, hs_6, hl_7, hs_7, hl_8, hs_8, hl_9, hs_9, hl_10, hs_10, hl_11, hs_11, hl_12, hs_12, hl_13, hs_13, hl_14, hs_14, hl_15, hs_15, hl_16, hs_16, hl_17, hs_17, ha_18, hg_18_0, hg_18_1, hg_18_2, hq_18_2, hg_18_3, hq_18_3, hl_19, hs_19, ha_20, hg_20_0, hg_20_1, ha_21, hg_21_0, hg_21_1, hg_21_2, hg_21_3, hg_21_4, hg_21_5, hg_21_6, hq_21_6, hg_21_7, hg_21_8, hg_21_9, hg_21_10, hq_21_10, hg_21_11, hq_21_11, hg_21_12, hq_21_12, hg_21_13, hq_21_13, hg_21_14, hq_21_14, hg_21_15, hq_21_15, hg_21_16, hq_21_16, hg_21_17, hq_21_17, ha_22, hg_22_0, hg_22_1, hg_22_2, hg_22_3, hg_22_4, hg_22_5, hg_22_6, hq_22_6, hg_22_7, hq_22_7, hg_22_8, hq_22_8, hl_23, hs_23, hl_24, hs_24, hl_25, hs_25, hl_26, hs_26, hl_27, hs_27, ha_28, hg_28_0, hg_28_1, hq_28_1, hl_29, hs_29, hl_30, hs_30, hl_31, hs_31, hl_32, hs_32, hl_33, hs_33, hl_34, hs_34, hl_35, hs_35, am_ld_cons, am_ld_nil, am_st1_cons, am_st1_nil, am_st2_cons, am_st2_nil, am_P1, am_P2, Value.category, am_add_add, am_add0, am_add_some, hK, hl]
set_option maxRecDepth 100000 in
set_option maxHeartbeats 4000000 in
theorem h20_err (scr : Nat → Int32) (L F d : Nat) (I : am_I) (J : am_J) (Mx : am_I) (i K : Nat) (hK : I 1 12 = nI K) (hK2 : K ≤ 100) (hi : i < K) (q qa : Nat) (h17 : I 17 i = nI q) (hqa : qa < 100) (I1 : am_I) (k : am_r scr L (F + 63000) (d + 45) 21 [.ref 21, .int (nI q)] (hp I J Mx) = some (some (.int (nI qa)), hp I1 J Mx, 0, 0)) : h20 scr L F d I J Mx i 60 (some (some (.int (nI qa)), hp I1 J Mx, 0, 0)) := by
  have g1 : ¬ nI i < 0 := nI_pos (by omega)
  have g2 : (nI i).toNatClampNeg = i := nI_clamp (by omega)
  have g3 : ¬ 100 ≤ i := by omega
  have hl : ¬ nI K ≤ nI i := nI_ge hi (by omega)
  have hl2 : nI i < nI K := nI_lt hi (by omega)
  have ei : nI i + 1 = nI (i + 1) := nI_1 i
  have n1 : ¬ nI qa = -1 := nI_nm (by omega)
  intro f tl hf hk
  obtain ⟨g, rfl⟩ : ∃ g, f = g + 60 := ⟨f - 60, by omega⟩
  obtain ⟨tl1, e2, k2⟩ := kb_st hk
  have f1 := kb_f hk (show 1 < 2 by omega)
  have f2 := kb_f k2 (show 1 < 3 by omega)
  rw [s_20_2]
  simp [s_20_0, s_20_1, s_20_3, s_20_4, s_20_7, s_20_10, s_20_13, s_20_14, s_20_15, s_20_18, s_20_21, s_20_22, s_20_23, s_20_26, s_20_27, s_20_28, s_20_29, s_20_32, s_20_33, s_20_34, s_20_37, s_20_40, s_20_41, ha_0, hg_0_0, hg_0_1, hg_0_2, hg_0_3, hg_0_4, hq_0_4, hg_0_5, hq_0_5, ha_1, hg_1_0, hg_1_1, hg_1_2, hg_1_3, hg_1_4, hg_1_5, hg_1_6, hg_1_7, hg_1_8, hg_1_9, hg_1_10, hg_1_11, hg_1_12, hq_1_12, ha_2, hg_2_0, hg_2_1, hg_2_2, hg_2_3, hg_2_4, hq_2_4, hl_3, hs_3, hl_4, hs_4, hl_5, hs_5, hl_6, hs_6, hl_7, hs_7, hl_8, hs_8, hl_9, hs_9, hl_10, hs_10, hl_11, hs_11, hl_12, hs_12, hl_13, hs_13, hl_14, hs_14, hl_15, hs_15, hl_16, hs_16, hl_17, hs_17, ha_18, hg_18_0, hg_18_1, hg_18_2, hq_18_2, hg_18_3, hq_18_3, hl_19, hs_19, ha_20, hg_20_0, hg_20_1, ha_21, hg_21_0, hg_21_1, hg_21_2, hg_21_3, hg_21_4, hg_21_5, hg_21_6, hq_21_6, hg_21_7, hg_21_8, hg_21_9, hg_21_10, hq_21_10, hg_21_11, hq_21_11, hg_21_12, hq_21_12, hg_21_13, hq_21_13, hg_21_14, hq_21_14, hg_21_15, hq_21_15, hg_21_16, hq_21_16, hg_21_17, hq_21_17, ha_22, hg_22_0, hg_22_1, hg_22_2, hg_22_3, hg_22_4, hg_22_5, hg_22_6, hq_22_6, hg_22_7, hq_22_7, hg_22_8, hq_22_8, hl_23, hs_23, hl_24, hs_24, hl_25, hs_25, hl_26, hs_26, hl_27, hs_27, ha_28, hg_28_0, hg_28_1, hq_28_1, hl_29, hs_29, hl_30, hs_30, hl_31, hs_31, hl_32, hs_32, hl_33, hs_33, hl_34, hs_34, hl_35, hs_35, am_ld_cons, am_ld_nil, am_st1_cons, am_st1_nil, am_st2_cons, am_st2_nil, am_P1, am_P2, Value.category, am_add_add, am_add0, am_add_some, hK, hl, hl2, g1, g2, g3, h17, k, e2, n1]
set_option maxRecDepth 100000 in
set_option maxHeartbeats 4000000 in
theorem h20_go (scr : Nat → Int32) (L F d : Nat) (I : am_I) (J : am_J) (Mx : am_I) (i K : Nat) (hK : I 1 12 = nI K) (hK2 : K ≤ 100) (hi : i < K) (q : Nat) (h17 : I 17 i = nI q) (I1 : am_I) (k : am_r scr L (F + 63000) (d + 45) 21 [.ref 21, .int (nI q)] (hp I J Mx) = some (some (.int (-1)), hp I1 J Mx, 0, 0)) (N : Nat) (R : Option am_X) (key : h20 scr L F d I1 J Mx (i + 1) N R) : h20 scr L F d I J Mx i (N + 60) R := by
  have g1 : ¬ nI i < 0 := nI_pos (by omega)
  have g2 : (nI i).toNatClampNeg = i := nI_clamp (by omega)
  have g3 : ¬ 100 ≤ i := by omega
  have hl : ¬ nI K ≤ nI i := nI_ge hi (by omega)
  have hl2 : nI i < nI K := nI_lt hi (by omega)
  have ei : nI i + 1 = nI (i + 1) := nI_1 i
  intro f tl hf hk
  obtain ⟨g, rfl⟩ : ∃ g, f = g + 60 := ⟨f - 60, by omega⟩
  obtain ⟨tl1, e2, k2⟩ := kb_st hk
  have f1 := kb_f hk (show 1 < 2 by omega)
  have f2 := kb_f k2 (show 1 < 3 by omega)
  rw [s_20_2]
  simp [s_20_0, s_20_1, s_20_3, s_20_4, s_20_7, s_20_10, s_20_13, s_20_14, s_20_15, s_20_18, s_20_21, s_20_22, s_20_23, s_20_26, s_20_27, s_20_28, s_20_29, s_20_32, s_20_33, s_20_34, s_20_37, s_20_40, s_20_41, ha_0, hg_0_0, hg_0_1, hg_0_2, hg_0_3, hg_0_4, hq_0_4, hg_0_5, hq_0_5, ha_1, hg_1_0, hg_1_1, hg_1_2, hg_1_3, hg_1_4, hg_1_5, hg_1_6, hg_1_7, hg_1_8, hg_1_9, hg_1_10, hg_1_11, hg_1_12, hq_1_12, ha_2, hg_2_0, hg_2_1, hg_2_2, hg_2_3, hg_2_4, hq_2_4, hl_3, hs_3, hl_4, hs_4, hl_5, hs_5, hl_6, hs_6, hl_7, hs_7, hl_8, hs_8, hl_9, hs_9, hl_10, hs_10, hl_11, hs_11, hl_12, hs_12, hl_13, hs_13, hl_14, hs_14, hl_15, hs_15, hl_16, hs_16, hl_17, hs_17, ha_18, hg_18_0, hg_18_1, hg_18_2, hq_18_2, hg_18_3, hq_18_3, hl_19, hs_19, ha_20, hg_20_0, hg_20_1, ha_21, hg_21_0, hg_21_1, hg_21_2, hg_21_3, hg_21_4, hg_21_5, hg_21_6, hq_21_6, hg_21_7, hg_21_8, hg_21_9, hg_21_10, hq_21_10, hg_21_11, hq_21_11, hg_21_12, hq_21_12, hg_21_13, hq_21_13, hg_21_14, hq_21_14, hg_21_15, hq_21_15, hg_21_16, hq_21_16, hg_21_17, hq_21_17, ha_22, hg_22_0, hg_22_1, hg_22_2, hg_22_3, hg_22_4, hg_22_5, hg_22_6, hq_22_6, hg_22_7, hq_22_7, hg_22_8, hq_22_8, hl_23, hs_23, hl_24, hs_24, hl_25, hs_25, hl_26, hs_26, hl_27, hs_27, ha_28, hg_28_0, hg_28_1, hq_28_1, hl_29, hs_29, hl_30, hs_30, hl_31, hs_31, hl_32, hs_32, hl_33, hs_33, hl_34, hs_34, hl_35, hs_35, am_ld_cons, am_ld_nil, am_st1_cons, am_st1_nil, am_st2_cons, am_st2_nil, am_P1, am_P2, Value.category, am_add_add, am_add0, am_add_some, hK, hl, hl2, g1, g2, g3, h17, k, e2, f1, f2, ei]
  exact key _ _ (by omega) (kb_cons (by omega) (kb_le (by omega) k2))
set_option maxRecDepth 100000 in
set_option maxHeartbeats 4000000 in
theorem c20_go (scr : Nat → Int32) (L F d : Nat) (I : Nat → Nat → Int32) (J : Nat → Nat → Int64) (M : Nat → Nat → Int32) (N : Nat) (R : Option am_X) (hN : N ≤ F + 62900) (key : h20 scr L F d I J M 0 N R) : am_r scr L (F + 63000) (d + 46) 20 [.ref 21] (hp I J M) = R := by
  unfold h20 at key
  rw [nI_0] at key
  simp [r_20, s_20_0, s_20_1, s_20_3, s_20_4, s_20_7, s_20_10, s_20_13, s_20_14, s_20_15, s_20_18, s_20_21, s_20_22, s_20_23, s_20_26, s_20_27, s_20_28, s_20_29, s_20_32, s_20_33, s_20_34, s_20_37, s_20_40, s_20_41, ha_0, hg_0_0, hg_0_1, hg_0_2, hg_0_3, hg_0_4, hq_0_4, hg_0_5, hq_0_5, ha_1, hg_1_0, hg_1_1, hg_1_2, hg_1_3, hg_1_4, hg_1_5, hg_1_6, hg_1_7, hg_1_8, hg_1_9, hg_1_10, hg_1_11, hg_1_12, hq_1_12, ha_2, hg_2_0, hg_2_1, hg_2_2, hg_2_3, hg_2_4, hq_2_4, hl_3, hs_3, hl_4, hs_4, hl_5, hs_5, hl_6, hs_6, hl_7, hs_7, hl_8, hs_8, hl_9, hs_9, hl_10, hs_10, hl_11, hs_11, hl_12, hs_12, hl_13, hs_13, hl_14, hs_14, hl_15, hs_15, hl_16, hs_16, hl_17, hs_17, ha_18, hg_18_0, hg_18_1, hg_18_2, hq_18_2, hg_18_3, hq_18_3, hl_19, hs_19, ha_20, hg_20_0, hg_20_1, ha_21, hg_21_0, hg_21_1, hg_21_2, hg_21_3, hg_21_4, hg_21_5, hg_21_6, hq_21_6, hg_21_7, hg_21_8, hg_21_9, hg_21_10, hq_21_10, hg_21_11, hq_21_11, hg_21_12, hq_21_12, hg_21_13, hq_21_13, hg_21_14, hq_21_14, hg_21_15, hq_21_15, hg_21_16, hq_21_16, hg_21_17, hq_21_17, ha_22, hg_22_0, hg_22_1, hg_22_2, hg_22_3, hg_22_4, hg_22_5, hg_22_6, hq_22_6, hg_22_7, hq_22_7, hg_22_8, hq_22_8, hl_23, hs_23, hl_24, hs_24, hl_25, hs_25, hl_26, hs_26, hl_27, hs_27, ha_28, hg_28_0, hg_28_1, hq_28_1, hl_29, hs_29, hl_30, hs_30, hl_31, hs_31, hl_32, hs_32, hl_33, hs_33, hl_34, hs_34, hl_35, hs_35, am_ld_cons, am_ld_nil, am_st1_cons, am_st1_nil, am_st2_cons, am_st2_nil, am_P1, am_P2, Value.category, am_add_add, am_add0, am_add_some]
  exact key _ _ (by omega) (kb_nil 2)
set_option maxRecDepth 100000 in
set_option maxHeartbeats 4000000 in
theorem h11_go (scr : Nat → Int32) (L F d : Nat) (Ix : am_I) (J : am_J) (M : am_I) (k K : Nat) (hK : M 36 18 = nI K) (hK2 : K ≤ 100) (hi : k < K) (y t : Nat) (h50 : M 50 k = nI y) (hy : y < 101) (ht : t < 105) (M1 : am_I) (kt : am_r scr L (F + 63000) (d + 45) 110 [.ref 37, .int (nI y)] (hp Ix J M) = some (some (.int (nI t)), hp Ix J M1, 0, 0)) (N : Nat) (R : Option am_X) (key : h11 scr L F d Ix J (wr M1 71 y (nI t)) (k + 1) N R) : h11 scr L F d Ix J M k (N + 60) R := by
  have g1 : ¬ nI k < 0 := nI_pos (by omega)
  have g2 : (nI k).toNatClampNeg = k := nI_clamp (by omega)
  have g3 : ¬ 101 ≤ k := by omega
  have hl : ¬ nI K ≤ nI k := nI_ge hi (by omega)
  have hl2 : nI k < nI K := nI_lt hi (by omega)
  have ei : nI k + 1 = nI (k + 1) := nI_1 k
  have y1 : ¬ nI y < 0 := nI_pos (by omega)
  have y2 : (nI y).toNatClampNeg = y := nI_clamp (by omega)
  have y3 : ¬ 101 ≤ y := by omega
  have t1 : 0 ≤ nI t := nI_pos' (by omega)
  have t2 : wr M1 71 y (nI t) 71 y = nI t := wr_s _ _ _ _
  intro f tl hf hkb
  obtain ⟨g, rfl⟩ : ∃ g, f = g + 60 := ⟨f - 60, by omega⟩
  obtain ⟨tl1, e3, k3⟩ := kb_st hkb
  have f1 := kb_f hkb (show 2 < 3 by omega)
  have f2 := kb_f k3 (show 2 < 4 by omega)
  rw [s_111_78]
  simp [s_111_79, s_111_80, s_111_83, s_111_86, s_111_87, s_111_90, s_111_91, s_111_92, s_111_93, s_111_94, s_111_97, s_111_98, s_111_99, s_111_100, s_111_103, s_111_104, s_111_105, s_111_108, s_111_109, s_111_110, s_111_113, s_111_114, s_111_115, s_111_118, s_111_119, s_111_120, s_111_123, s_111_124, s_111_125, s_111_126, s_111_127, s_111_130, s_111_131, s_111_132, s_111_135, s_111_138, s_111_139, s_111_140, s_111_143, s_111_144, s_111_147, s_111_148, s_111_151, s_111_152, s_111_153, s_111_156, s_111_157, ha_36, hg_36_0, hq_36_0, hg_36_1, hg_36_2, hq_36_2, hg_36_3, hg_36_4, hg_36_5, hg_36_6, hq_36_6, hg_36_7, hq_36_7, hg_36_8, hq_36_8, hg_36_9, hg_36_10, hg_36_11, hg_36_12, hg_36_13, hg_36_14, hg_36_15, hg_36_16, hg_36_17, hg_36_18, hq_36_18, hg_36_19, hg_36_20, hq_36_20, hg_36_21, hq_36_21, hg_36_22, hg_36_23, hq_36_23, hg_36_24, hg_36_25, hq_36_25, hg_36_26, hq_36_26, hg_36_27, hq_36_27, hg_36_28, hq_36_28, hg_36_29, hg_36_30, hg_36_31, hq_36_31, hg_36_32, hg_36_33, hg_36_34, hg_36_35, hq_36_35, hg_36_36, hg_36_37, hg_36_38, hg_36_39, hg_36_40, hq_36_40, hg_36_41, hg_36_42, hg_36_43, hg_36_44, hq_36_44, hg_36_45, hg_36_46, hg_36_47, hg_36_48, hg_36_49, hq_36_49, hg_36_50, hg_36_51, hq_36_51, hg_36_52, hq_36_52, hg_36_53, hq_36_53, hg_36_54, hq_36_54, hg_36_55, hq_36_55, hg_36_56, hq_36_56, hg_36_57, hg_36_58, hq_36_58, hg_36_59, hq_36_59, hg_36_60, hq_36_60, hg_36_61, hl_37, hs_37, hl_38, hs_38, hl_39, hs_39, hl_40, hs_40, hl_41, hs_41, hl_42, hs_42, hl_43, hs_43, hl_44, hs_44, hl_45, hs_45, hl_46, hs_46, hl_47, hs_47, hl_48, hs_48, hl_49, hs_49, hl_50, hs_50, hl_51, hs_51, hl_52, hs_52, hl_53, hs_53, hl_54, hs_54, hl_55, hs_55, hl_56, hs_56, hl_57, hs_57, hl_58, hs_58, hl_59, hs_59, hl_60, hs_60, hl_61, hs_61, hl_62, hs_62, hl_63, hs_63, hl_64, hs_64, hl_65, hs_65, hl_66, hs_66, hl_67, hs_67, hl_68, hs_68, hl_69, hs_69, hl_70, hs_70, hl_71, hs_71, am_ld_cons, am_ld_nil, am_st1_cons, am_st1_nil, am_st2_cons, am_st2_nil, am_P1, am_P2, Value.category, am_add_add, am_add0, am_add_some, hK, hl, hl2, g1, g2, g3, h50, kt, e3, f1, f2, ei, y1, y2, y3, wr_fold, t2, t1]
  exact key _ _ (by omega) (kb_cons (by omega) (kb_le (by omega) k3))
set_option maxRecDepth 100000 in
set_option maxHeartbeats 4000000 in
theorem h11_err (scr : Nat → Int32) (L F d : Nat) (Ix : am_I) (J : am_J) (M : am_I) (k K : Nat) (hK : M 36 18 = nI K) (hK2 : K ≤ 100) (hi : k < K) (y a : Nat) (h50 : M 50 k = nI y) (hy : y < 101) (ha : a < 101) (M1 : am_I) (kt : am_r scr L (F + 63000) (d + 45) 110 [.ref 37, .int (nI y)] (hp Ix J M) = some (some (.int (-1 - nI a)), hp Ix J M1, 0, 0)) (x : Int32) (h42 : M1 42 a = x) : h11 scr L F d Ix J M k 60 (some (some (.int 2), hp Ix J (wr (wr M1 71 y (-1 - nI a)) 36 27 x), 0, 0)) := by
  have g1 : ¬ nI k < 0 := nI_pos (by omega)
  have g2 : (nI k).toNatClampNeg = k := nI_clamp (by omega)
  have g3 : ¬ 101 ≤ k := by omega
  have hl : ¬ nI K ≤ nI k := nI_ge hi (by omega)
  have hl2 : nI k < nI K := nI_lt hi (by omega)
  have ei : nI k + 1 = nI (k + 1) := nI_1 k
  have y1 : ¬ nI y < 0 := nI_pos (by omega)
  have y2 : (nI y).toNatClampNeg = y := nI_clamp (by omega)
  have y3 : ¬ 101 ≤ y := by omega
  obtain ⟨t1, t3, t4⟩ := m1m a (by omega)
  have t2 : wr M1 71 y (-1 - nI a) 71 y = -1 - nI a := wr_s _ _ _ _
  have t5 : wr M1 71 y (-1 - nI a) 42 a = x := (wr_ap _ _ _ _ _ _ (by omega)).trans h42
  have a1 : ¬ nI a < 0 := nI_pos (by omega)
  have a2 : (nI a).toNatClampNeg = a := nI_clamp (by omega)
  have a3 : ¬ 101 ≤ a := by omega
  intro f tl hf hkb
  obtain ⟨g, rfl⟩ : ∃ g, f = g + 60 := ⟨f - 60, by omega⟩
  obtain ⟨tl1, e3, k3⟩ := kb_st hkb
  have f1 := kb_f hkb (show 2 < 3 by omega)
  have f2 := kb_f k3 (show 2 < 4 by omega)
  rw [s_111_78]
  simp [s_111_79, s_111_80, s_111_83, s_111_86, s_111_87, s_111_90, s_111_91, s_111_92, s_111_93, s_111_94, s_111_97, s_111_98, s_111_99, s_111_100, s_111_103, s_111_104, s_111_105, s_111_108, s_111_109, s_111_110, s_111_113, s_111_114, s_111_115, s_111_118, s_111_119, s_111_120, s_111_123, s_111_124, s_111_125, s_111_126, s_111_127, s_111_130, s_111_131, s_111_132, s_111_135, s_111_138, s_111_139, s_111_140, s_111_143, s_111_144, s_111_147, s_111_148, s_111_151, s_111_152, s_111_153, s_111_156, s_111_157, ha_36, hg_36_0, hq_36_0, hg_36_1, hg_36_2, hq_36_2, hg_36_3, hg_36_4, hg_36_5, hg_36_6, hq_36_6, hg_36_7, hq_36_7, hg_36_8, hq_36_8, hg_36_9, hg_36_10, hg_36_11, hg_36_12, hg_36_13, hg_36_14, hg_36_15, hg_36_16, hg_36_17, hg_36_18, hq_36_18, hg_36_19, hg_36_20, hq_36_20, hg_36_21, hq_36_21, hg_36_22, hg_36_23, hq_36_23, hg_36_24, hg_36_25, hq_36_25, hg_36_26, hq_36_26, hg_36_27, hq_36_27, hg_36_28, hq_36_28, hg_36_29, hg_36_30, hg_36_31, hq_36_31, hg_36_32, hg_36_33, hg_36_34, hg_36_35, hq_36_35, hg_36_36, hg_36_37, hg_36_38, hg_36_39, hg_36_40, hq_36_40, hg_36_41, hg_36_42, hg_36_43, hg_36_44, hq_36_44, hg_36_45, hg_36_46, hg_36_47, hg_36_48, hg_36_49, hq_36_49, hg_36_50, hg_36_51, hq_36_51, hg_36_52, hq_36_52, hg_36_53, hq_36_53, hg_36_54, hq_36_54, hg_36_55, hq_36_55, hg_36_56, hq_36_56, hg_36_57, hg_36_58, hq_36_58, hg_36_59, hq_36_59, hg_36_60, hq_36_60, hg_36_61, hl_37, hs_37, hl_38, hs_38, hl_39, hs_39, hl_40, hs_40, hl_41, hs_41, hl_42, hs_42, hl_43, hs_43, hl_44, hs_44, hl_45, hs_45, hl_46, hs_46, hl_47, hs_47, hl_48, hs_48, hl_49, hs_49, hl_50, hs_50, hl_51, hs_51, hl_52, hs_52, hl_53, hs_53, hl_54, hs_54, hl_55, hs_55, hl_56, hs_56, hl_57, hs_57, hl_58, hs_58, hl_59, hs_59, hl_60, hs_60, hl_61, hs_61, hl_62, hs_62, hl_63, hs_63, hl_64, hs_64, hl_65, hs_65, hl_66, hs_66, hl_67, hs_67, hl_68, hs_68, hl_69, hs_69, hl_70, hs_70, hl_71, hs_71, am_ld_cons, am_ld_nil, am_st1_cons, am_st1_nil, am_st2_cons, am_st2_nil, am_P1, am_P2, Value.category, am_add_add, am_add0, am_add_some, hK, hl, hl2, g1, g2, g3, h50, kt, e3, f1, f2, ei, y1, y2, y3, wr_fold, t2, t1, t3, t4, a1, a2, a3, t5]
set_option maxRecDepth 100000 in
set_option maxHeartbeats 4000000 in
theorem h11_end (scr : Nat → Int32) (L F d : Nat) (Ix : am_I) (J : am_J) (M : am_I) (k K : Nat) (hK : M 36 18 = nI K) (hK2 : K ≤ 100) (hi : k = K) (r t : Nat) (h26 : M 36 26 = nI r) (hr : r < 101) (h71 : M 71 r = nI t) (M1 : am_I) (kw : am_r scr L (F + 63000) (d + 45) 98 [.ref 37, .int (nI t)] (hp Ix J M) = some (none, hp Ix J M1, 0, 0)) : h11 scr L F d Ix J M k 60 (some (some (.int 0), hp Ix J (wr M1 36 25 1), 0, 0)) := by
  subst hi
  have hl : nI k ≤ nI k := nI_le (by omega) (by omega)
  have y1 : ¬ nI r < 0 := nI_pos (by omega)
  have y2 : (nI r).toNatClampNeg = r := nI_clamp (by omega)
  have y3 : ¬ 101 ≤ r := by omega
  intro f tl hf hkb
  obtain ⟨g, rfl⟩ : ∃ g, f = g + 60 := ⟨f - 60, by omega⟩
  obtain ⟨tl1, e3, k3⟩ := kb_st hkb
  have f1 := kb_f hkb (show 2 < 3 by omega)
  have f2 := kb_f k3 (show 2 < 4 by omega)
  rw [s_111_78]
  simp [s_111_79, s_111_80, s_111_83, s_111_86, s_111_87, s_111_90, s_111_91, s_111_92, s_111_93, s_111_94, s_111_97, s_111_98, s_111_99, s_111_100, s_111_103, s_111_104, s_111_105, s_111_108, s_111_109, s_111_110, s_111_113, s_111_114, s_111_115, s_111_118, s_111_119, s_111_120, s_111_123, s_111_124, s_111_125, s_111_126, s_111_127, s_111_130, s_111_131, s_111_132, s_111_135, s_111_138, s_111_139, s_111_140, s_111_143, s_111_144, s_111_147, s_111_148, s_111_151, s_111_152, s_111_153, s_111_156, s_111_157, ha_36, hg_36_0, hq_36_0, hg_36_1, hg_36_2, hq_36_2, hg_36_3, hg_36_4, hg_36_5, hg_36_6, hq_36_6, hg_36_7, hq_36_7, hg_36_8, hq_36_8, hg_36_9, hg_36_10, hg_36_11, hg_36_12, hg_36_13, hg_36_14, hg_36_15, hg_36_16, hg_36_17, hg_36_18, hq_36_18, hg_36_19, hg_36_20, hq_36_20, hg_36_21, hq_36_21, hg_36_22, hg_36_23, hq_36_23, hg_36_24, hg_36_25, hq_36_25, hg_36_26, hq_36_26, hg_36_27, hq_36_27, hg_36_28, hq_36_28, hg_36_29, hg_36_30, hg_36_31, hq_36_31, hg_36_32, hg_36_33, hg_36_34, hg_36_35, hq_36_35, hg_36_36, hg_36_37, hg_36_38, hg_36_39, hg_36_40, hq_36_40, hg_36_41, hg_36_42, hg_36_43, hg_36_44, hq_36_44, hg_36_45, hg_36_46, hg_36_47, hg_36_48, hg_36_49, hq_36_49, hg_36_50, hg_36_51, hq_36_51, hg_36_52, hq_36_52, hg_36_53, hq_36_53, hg_36_54, hq_36_54, hg_36_55, hq_36_55, hg_36_56, hq_36_56, hg_36_57, hg_36_58, hq_36_58, hg_36_59, hq_36_59, hg_36_60, hq_36_60, hg_36_61, hl_37, hs_37, hl_38, hs_38, hl_39, hs_39, hl_40, hs_40, hl_41, hs_41, hl_42, hs_42, hl_43, hs_43, hl_44, hs_44, hl_45, hs_45, hl_46, hs_46, hl_47, hs_47, hl_48, hs_48, hl_49, hs_49, hl_50, hs_50, hl_51, hs_51, hl_52, hs_52, hl_53, hs_53, hl_54, hs_54, hl_55, hs_55, hl_56, hs_56, hl_57, hs_57, hl_58, hs_58, hl_59, hs_59, hl_60, hs_60, hl_61, hs_61, hl_62, hs_62, hl_63, hs_63, hl_64, hs_64, hl_65, hs_65, hl_66, hs_66, hl_67, hs_67, hl_68, hs_68, hl_69, hs_69, hl_70, hs_70, hl_71, hs_71, am_ld_cons, am_ld_nil, am_st1_cons, am_st1_nil, am_st2_cons, am_st2_nil, am_P1, am_P2, Value.category, am_add_add, am_add0, am_add_some, hK, hl, h26, y1, y2, y3, h71, kw, wr_fold]
def fgM (M : am_I) : am_I := va_up M 36 (upd (upd (upd (upd (upd (upd (upd (upd (M 36) 51 0) 53 0) 49 0) 56 0) 31 0) 35 0) 40 0) 44 0)
def cp1 (M : am_I) : am_I := wr (wr (wr M 36 2 3) 38 1 1) 38 2 2
def cp2 (M : am_I) : am_I := wr (ty_M (cp1 M) 3 3 2 2) 36 6 3
def cp3 (M : am_I) : am_I := wr (ty_M (cp2 M) 4 4 2 0) 36 7 4
def cp (M : am_I) : am_I := wr (wr (wr (fgM (cp3 M)) 36 25 0) 36 27 (-1)) 36 28 0
theorem cp1_c (M : am_I) : cp1 M 36 2 = nI 3 := by
  unfold cp1
  rw [wr_q _ _ _ _ _ _ (by omega), wr_q _ _ _ _ _ _ (by omega), wr_s]
  decide +kernel
theorem cp1_z (M : am_I) : kz (cp1 M) 3 3 2 2 = (nI 3, ty_M (cp1 M) 3 3 2 2) := rfl
theorem cp2_c (M : am_I) : cp2 M 36 2 = nI 4 := by
  unfold cp2
  rw [wr_q _ _ _ _ _ _ (by omega)]
  simp [ty_M, va_up, upd]
theorem cp2_3 (M : am_I) : cp2 M 38 3 = 3 := by
  unfold cp2
  rw [wr_q _ _ _ _ _ _ (by omega)]
  simp [ty_M, va_up, upd]
theorem cp2_z (M : am_I) : kz (cp2 M) 4 4 2 0 = (nI 4, ty_M (cp2 M) 4 4 2 0) := by
  unfold kz
  have e : kf (cp2 M 38) (cp2 M 39) (cp2 M 40) 4 2 0 (4 - 3) 3 = none := by
    show kf (cp2 M 38) (cp2 M 39) (cp2 M 40) 4 2 0 (0 + 1) 3 = none
    unfold kf
    rw [if_neg (fun z => n34 ((cp2_3 M).symm.trans z.1))]
    rfl
  rw [e]
set_option maxRecDepth 100000 in
set_option maxHeartbeats 4000000 in
theorem r111_f (scr : Nat → Int32) (L F d : Nat) (I : Nat → Nat → Int32) (J : Nat → Nat → Int64) (M : Nat → Nat → Int32) (M1 : am_I) (kr : am_r scr L (F + 63000) (d + 45) 109 [.ref 37] (hp I J (cp M)) = some (some (.int 0), hp I J M1, 0, 0)) : am_r scr L (F + 63000) (d + 46) 111 [.ref 37] (hp I J M) = some (some (.int 1), hp I J (wr M1 36 0 0), 0, 0) := by
  have k1 := n_95 scr L (F + 51000) (d + 44) I J (cp1 M) 3 2 2 3 (cp1_c M) (by omega) (by omega)
  rw [cp1_z] at k1
  have k2 := n_95 scr L (F + 51000) (d + 44) I J (cp2 M) 4 2 0 4 (cp2_c M) (by omega) (by omega)
  rw [cp2_z] at k2
  have k3 := m_120 scr L (F + 62900) (d + 44) I J (cp3 M)
  have e1 : wr (wr (wr M 36 2 3) 38 1 1) 38 2 2 = cp1 M := rfl
  have e2 : wr (ty_M (cp1 M) 3 3 2 2) 36 6 3 = cp2 M := rfl
  have e3 : wr (ty_M (cp2 M) 4 4 2 0) 36 7 4 = cp3 M := rfl
  rw [show va_up (cp3 M) 36 (upd (upd (upd (upd (upd (upd (upd (upd (cp3 M 36) 51 0) 53 0) 49 0) 56 0) 31 0) 35 0) 40 0) 44 0) = fgM (cp3 M) from rfl] at k3
  have e4 : wr (wr (wr (fgM (cp3 M)) 36 25 0) 36 27 (-1)) 36 28 0 = cp M := rfl
  have n3 := nI_3
  have n4 := nI_4
  rw [n3] at k1
  rw [n4] at k2
  have i1 : (1 : Int32).toNatClampNeg = 1 := by decide +kernel
  have i2 : (2 : Int32).toNatClampNeg = 2 := by decide +kernel
  simp [r_111, s_111_0, s_111_1, s_111_2, s_111_5, s_111_6, s_111_9, s_111_10, s_111_11, s_111_12, s_111_13, s_111_16, s_111_17, s_111_18, s_111_19, s_111_20, s_111_21, s_111_22, s_111_23, s_111_24, s_111_27, s_111_30, s_111_31, s_111_32, s_111_33, s_111_34, s_111_35, s_111_38, s_111_41, s_111_42, s_111_45, s_111_46, s_111_47, s_111_50, s_111_51, s_111_52, s_111_55, s_111_56, s_111_57, s_111_60, s_111_61, s_111_64, s_111_65, s_111_66, s_111_67, s_111_70, s_111_71, s_111_74, s_111_75, s_111_76, s_111_77, ha_36, hg_36_0, hq_36_0, hg_36_1, hg_36_2, hq_36_2, hg_36_3, hg_36_4, hg_36_5, hg_36_6, hq_36_6, hg_36_7, hq_36_7, hg_36_8, hq_36_8, hg_36_9, hg_36_10, hg_36_11, hg_36_12, hg_36_13, hg_36_14, hg_36_15, hg_36_16, hg_36_17, hg_36_18, hq_36_18, hg_36_19, hg_36_20, hq_36_20, hg_36_21, hq_36_21, hg_36_22, hg_36_23, hq_36_23, hg_36_24, hg_36_25, hq_36_25, hg_36_26, hq_36_26, hg_36_27, hq_36_27, hg_36_28, hq_36_28, hg_36_29, hg_36_30, hg_36_31, hq_36_31, hg_36_32, hg_36_33, hg_36_34, hg_36_35, hq_36_35, hg_36_36, hg_36_37, hg_36_38, hg_36_39, hg_36_40, hq_36_40, hg_36_41, hg_36_42, hg_36_43, hg_36_44, hq_36_44, hg_36_45, hg_36_46, hg_36_47, hg_36_48, hg_36_49, hq_36_49, hg_36_50, hg_36_51, hq_36_51, hg_36_52, hq_36_52, hg_36_53, hq_36_53, hg_36_54, hq_36_54, hg_36_55, hq_36_55, hg_36_56, hq_36_56, hg_36_57, hg_36_58, hq_36_58, hg_36_59, hq_36_59, hg_36_60, hq_36_60, hg_36_61, hl_37, hs_37, hl_38, hs_38, hl_39, hs_39, hl_40, hs_40, hl_41, hs_41, hl_42, hs_42, hl_43, hs_43, hl_44, hs_44, hl_45, hs_45, hl_46, hs_46, hl_47, hs_47, hl_48, hs_48, hl_49, hs_49, hl_50, hs_50, hl_51, hs_51, hl_52, hs_52, hl_53, hs_53, hl_54, hs_54, hl_55, hs_55, hl_56, hs_56, hl_57, hs_57, hl_58, hs_58, hl_59, hs_59, hl_60, hs_60, hl_61, hs_61, hl_62, hs_62, hl_63, hs_63, hl_64, hs_64, hl_65, hs_65, hl_66, hs_66, hl_67, hs_67, hl_68, hs_68, hl_69, hs_69, hl_70, hs_70, hl_71, hs_71, am_ld_cons, am_ld_nil, am_st1_cons, am_st1_nil, am_st2_cons, am_st2_nil, am_P1, am_P2, Value.category, am_add_add, am_add0, am_add_some, k1, k2, k3, e1, e2, e3, e4, wr_fold, i1, i2, kr]
set_option maxRecDepth 100000 in
set_option maxHeartbeats 4000000 in
theorem r111_g (scr : Nat → Int32) (L F d : Nat) (I : Nat → Nat → Int32) (J : Nat → Nat → Int64) (M : Nat → Nat → Int32) (M1 : am_I) (kr : am_r scr L (F + 63000) (d + 45) 109 [.ref 37] (hp I J (cp M)) = some (some (.int 1), hp I J M1, 0, 0)) (N : Nat) (R : Option am_X) (hN : N ≤ F + 62900) (key : h11 scr L F d I J (wr M1 36 0 0) 0 N R) : am_r scr L (F + 63000) (d + 46) 111 [.ref 37] (hp I J M) = R := by
  have k1 := n_95 scr L (F + 51000) (d + 44) I J (cp1 M) 3 2 2 3 (cp1_c M) (by omega) (by omega)
  rw [cp1_z] at k1
  have k2 := n_95 scr L (F + 51000) (d + 44) I J (cp2 M) 4 2 0 4 (cp2_c M) (by omega) (by omega)
  rw [cp2_z] at k2
  have k3 := m_120 scr L (F + 62900) (d + 44) I J (cp3 M)
  have e1 : wr (wr (wr M 36 2 3) 38 1 1) 38 2 2 = cp1 M := rfl
  have e2 : wr (ty_M (cp1 M) 3 3 2 2) 36 6 3 = cp2 M := rfl
  have e3 : wr (ty_M (cp2 M) 4 4 2 0) 36 7 4 = cp3 M := rfl
  rw [show va_up (cp3 M) 36 (upd (upd (upd (upd (upd (upd (upd (upd (cp3 M 36) 51 0) 53 0) 49 0) 56 0) 31 0) 35 0) 40 0) 44 0) = fgM (cp3 M) from rfl] at k3
  have e4 : wr (wr (wr (fgM (cp3 M)) 36 25 0) 36 27 (-1)) 36 28 0 = cp M := rfl
  have n3 := nI_3
  have n4 := nI_4
  rw [n3] at k1
  rw [n4] at k2
  have i1 : (1 : Int32).toNatClampNeg = 1 := by decide +kernel
  have i2 : (2 : Int32).toNatClampNeg = 2 := by decide +kernel
  unfold h11 at key
  rw [nI_0] at key
  simp [r_111, s_111_0, s_111_1, s_111_2, s_111_5, s_111_6, s_111_9, s_111_10, s_111_11, s_111_12, s_111_13, s_111_16, s_111_17, s_111_18, s_111_19, s_111_20, s_111_21, s_111_22, s_111_23, s_111_24, s_111_27, s_111_30, s_111_31, s_111_32, s_111_33, s_111_34, s_111_35, s_111_38, s_111_41, s_111_42, s_111_45, s_111_46, s_111_47, s_111_50, s_111_51, s_111_52, s_111_55, s_111_56, s_111_57, s_111_60, s_111_61, s_111_64, s_111_65, s_111_66, s_111_67, s_111_70, s_111_71, s_111_74, s_111_75, s_111_76, s_111_77, ha_36, hg_36_0, hq_36_0, hg_36_1, hg_36_2, hq_36_2, hg_36_3, hg_36_4, hg_36_5, hg_36_6, hq_36_6, hg_36_7, hq_36_7, hg_36_8, hq_36_8, hg_36_9, hg_36_10, hg_36_11, hg_36_12, hg_36_13, hg_36_14, hg_36_15, hg_36_16, hg_36_17, hg_36_18, hq_36_18, hg_36_19, hg_36_20, hq_36_20, hg_36_21, hq_36_21, hg_36_22, hg_36_23, hq_36_23, hg_36_24, hg_36_25, hq_36_25, hg_36_26, hq_36_26, hg_36_27, hq_36_27, hg_36_28, hq_36_28, hg_36_29, hg_36_30, hg_36_31, hq_36_31, hg_36_32, hg_36_33, hg_36_34, hg_36_35, hq_36_35, hg_36_36, hg_36_37, hg_36_38, hg_36_39, hg_36_40, hq_36_40, hg_36_41, hg_36_42, hg_36_43, hg_36_44, hq_36_44, hg_36_45, hg_36_46, hg_36_47, hg_36_48, hg_36_49, hq_36_49, hg_36_50, hg_36_51, hq_36_51, hg_36_52, hq_36_52, hg_36_53, hq_36_53, hg_36_54, hq_36_54, hg_36_55, hq_36_55, hg_36_56, hq_36_56, hg_36_57, hg_36_58, hq_36_58, hg_36_59, hq_36_59, hg_36_60, hq_36_60, hg_36_61, hl_37, hs_37, hl_38, hs_38, hl_39, hs_39, hl_40, hs_40, hl_41, hs_41, hl_42, hs_42, hl_43, hs_43, hl_44, hs_44, hl_45, hs_45, hl_46, hs_46, hl_47, hs_47, hl_48, hs_48, hl_49, hs_49, hl_50, hs_50, hl_51, hs_51, hl_52, hs_52, hl_53, hs_53, hl_54, hs_54, hl_55, hs_55, hl_56, hs_56, hl_57, hs_57, hl_58, hs_58, hl_59, hs_59, hl_60, hs_60, hl_61, hs_61, hl_62, hs_62, hl_63, hs_63, hl_64, hs_64, hl_65, hs_65, hl_66, hs_66, hl_67, hs_67, hl_68, hs_68, hl_69, hs_69, hl_70, hs_70, hl_71, hs_71, am_ld_cons, am_ld_nil, am_st1_cons, am_st1_nil, am_st2_cons, am_st2_nil, am_P1, am_P2, Value.category, am_add_add, am_add0, am_add_some, k1, k2, k3, e1, e2, e3, e4, wr_fold, i1, i2, kr]
  exact key _ _ (by omega) (kb_nil 3)
set_option maxRecDepth 100000 in
set_option maxHeartbeats 4000000 in
theorem r109_go (scr : Nat → Int32) (L F d : Nat) (I : Nat → Nat → Int32) (J : Nat → Nat → Int64) (M : Nat → Nat → Int32) (N : Nat) (R : Option am_X) (hN : N ≤ F + 62900) (key : hO scr L F d I J N 0 (wr (wr (wr (wr M 36 20 0) 36 8 0) 36 21 0) 36 18 0) R) : am_r scr L (F + 63000) (d + 31) 109 [.ref 37] (hp I J M) = R := by
  unfold hO at key
  rw [nI_0] at key
  simp [r_109, s_109_0, s_109_1, s_109_2, s_109_5, s_109_6, s_109_7, s_109_10, s_109_11, s_109_12, s_109_15, s_109_16, s_109_17, s_109_20, s_109_21, ha_36, hg_36_0, hq_36_0, hg_36_1, hg_36_2, hq_36_2, hg_36_3, hg_36_4, hg_36_5, hg_36_6, hq_36_6, hg_36_7, hq_36_7, hg_36_8, hq_36_8, hg_36_9, hg_36_10, hg_36_11, hg_36_12, hg_36_13, hg_36_14, hg_36_15, hg_36_16, hg_36_17, hg_36_18, hq_36_18, hg_36_19, hg_36_20, hq_36_20, hg_36_21, hq_36_21, hg_36_22, hg_36_23, hq_36_23, hg_36_24, hg_36_25, hq_36_25, hg_36_26, hq_36_26, hg_36_27, hq_36_27, hg_36_28, hq_36_28, hg_36_29, hg_36_30, hg_36_31, hq_36_31, hg_36_32, hg_36_33, hg_36_34, hg_36_35, hq_36_35, hg_36_36, hg_36_37, hg_36_38, hg_36_39, hg_36_40, hq_36_40, hg_36_41, hg_36_42, hg_36_43, hg_36_44, hq_36_44, hg_36_45, hg_36_46, hg_36_47, hg_36_48, hg_36_49, hq_36_49, hg_36_50, hg_36_51, hq_36_51, hg_36_52, hq_36_52, hg_36_53, hq_36_53, hg_36_54, hq_36_54, hg_36_55, hq_36_55, hg_36_56, hq_36_56, hg_36_57, hg_36_58, hq_36_58, hg_36_59, hq_36_59, hg_36_60, hq_36_60, hg_36_61, hl_37, hs_37, hl_38, hs_38, hl_39, hs_39, hl_40, hs_40, hl_41, hs_41, hl_42, hs_42, hl_43, hs_43, hl_44, hs_44, hl_45, hs_45, hl_46, hs_46, hl_47, hs_47, hl_48, hs_48, hl_49, hs_49, hl_50, hs_50, hl_51, hs_51, hl_52, hs_52, hl_53, hs_53, hl_54, hs_54, hl_55, hs_55, hl_56, hs_56, hl_57, hs_57, hl_58, hs_58, hl_59, hs_59, hl_60, hs_60, hl_61, hs_61, hl_62, hs_62, hl_63, hs_63, hl_64, hs_64, hl_65, hs_65, hl_66, hs_66, hl_67, hs_67, hl_68, hs_68, hl_69, hs_69, hl_70, hs_70, hl_71, hs_71, am_ld_cons, am_ld_nil, am_st1_cons, am_st1_nil, am_st2_cons, am_st2_nil, am_P1, am_P2, Value.category, am_add_add, am_add0, am_add_some, wr_fold]
  exact key _ _ (by omega) (kb_nil 2)
def clI (I : am_I) : am_I := wr (va_up (va_up I 2 (upd (I 2) 4 5)) 1 (upd (I 1) 12 0)) 18 3 0
set_option maxRecDepth 100000 in
set_option maxHeartbeats 4000000 in
theorem c58_f (scr : Nat → Int32) (L F d : Nat) (I : Nat → Nat → Int32) (J : Nat → Nat → Int64) (M : Nat → Nat → Int32) (I1 : am_I) (k : am_r scr L (F + 63000) (d + 120) 61 [.ref 19, .int (-1), .int 1] (hp (clI I) J M) = some (some (.int (-1)), hp I1 J M, 0, 0)) : am_r scr L (F + 63000) (d + 121) 58 [.ref 19] (hp I J M) = some (some (.int 0), hp I1 J M, 0, 0) := by
  have k1 := m_52 scr L (F + 62800) (d + 118) I J M
  have e1 : wr (va_up (va_up I 2 (upd (I 2) 4 5)) 1 (upd (I 1) 12 0)) 18 3 0 = clI I := rfl
  obtain ⟨Ia, hIa⟩ : ∃ Ia, va_up (va_up I 2 (upd (I 2) 4 5)) 1 (upd (I 1) 12 0) = Ia := ⟨_, rfl⟩
  rw [hIa] at k1 e1
  simp [r_58, s_58_0, s_58_1, s_58_4, s_58_7, s_58_8, s_58_9, s_58_12, s_58_13, s_58_14, s_58_15, s_58_18, s_58_19, s_58_22, s_58_23, s_58_26, s_58_27, s_58_30, s_58_33, s_58_34, s_58_37, s_58_38, ha_0, hg_0_0, hg_0_1, hg_0_2, hg_0_3, hg_0_4, hq_0_4, hg_0_5, hq_0_5, ha_1, hg_1_0, hg_1_1, hg_1_2, hg_1_3, hg_1_4, hg_1_5, hg_1_6, hg_1_7, hg_1_8, hg_1_9, hg_1_10, hg_1_11, hg_1_12, hq_1_12, ha_2, hg_2_0, hg_2_1, hg_2_2, hg_2_3, hg_2_4, hq_2_4, hl_3, hs_3, hl_4, hs_4, hl_5, hs_5, hl_6, hs_6, hl_7, hs_7, hl_8, hs_8, hl_9, hs_9, hl_10, hs_10, hl_11, hs_11, hl_12, hs_12, hl_13, hs_13, hl_14, hs_14, hl_15, hs_15, hl_16, hs_16, hl_17, hs_17, ha_18, hg_18_0, hg_18_1, hg_18_2, hq_18_2, hg_18_3, hq_18_3, hl_19, hs_19, ha_20, hg_20_0, hg_20_1, ha_21, hg_21_0, hg_21_1, hg_21_2, hg_21_3, hg_21_4, hg_21_5, hg_21_6, hq_21_6, hg_21_7, hg_21_8, hg_21_9, hg_21_10, hq_21_10, hg_21_11, hq_21_11, hg_21_12, hq_21_12, hg_21_13, hq_21_13, hg_21_14, hq_21_14, hg_21_15, hq_21_15, hg_21_16, hq_21_16, hg_21_17, hq_21_17, ha_22, hg_22_0, hg_22_1, hg_22_2, hg_22_3, hg_22_4, hg_22_5, hg_22_6, hq_22_6, hg_22_7, hq_22_7, hg_22_8, hq_22_8, hl_23, hs_23, hl_24, hs_24, hl_25, hs_25, hl_26, hs_26, hl_27, hs_27, ha_28, hg_28_0, hg_28_1, hq_28_1, hl_29, hs_29, hl_30, hs_30, hl_31, hs_31, hl_32, hs_32, hl_33, hs_33, hl_34, hs_34, hl_35, hs_35, am_ld_cons, am_ld_nil, am_st1_cons, am_st1_nil, am_st2_cons, am_st2_nil, am_P1, am_P2, Value.category, am_add_add, am_add0, am_add_some, k1, wr_fold, e1, k]
set_option maxRecDepth 100000 in
set_option maxHeartbeats 4000000 in
theorem c58_g (scr : Nat → Int32) (L F d : Nat) (I : Nat → Nat → Int32) (J : Nat → Nat → Int64) (M : Nat → Nat → Int32) (I1 : am_I) (n p : Nat) (h : rdI I1 n p) (k : am_r scr L (F + 63000) (d + 120) 61 [.ref 19, .int (-1), .int 1] (hp (clI I) J M) = some (some (.int 0), hp I1 J M, 0, 0)) : am_r scr L (F + 63000) (d + 121) 58 [.ref 19] (hp I J M) = some (some (.int (if p = n then 1 else 0)), hp I1 J M, 0, 0) := by
  have k1 := m_52 scr L (F + 62800) (d + 118) I J M
  have e1 : wr (va_up (va_up I 2 (upd (I 2) 4 5)) 1 (upd (I 1) 12 0)) 18 3 0 = clI I := rfl
  obtain ⟨Ia, hIa⟩ : ∃ Ia, va_up (va_up I 2 (upd (I 2) 4 5)) 1 (upd (I 1) 12 0) = Ia := ⟨_, rfl⟩
  rw [hIa] at k1 e1
  obtain ⟨h1, h2, h3, h4, h5⟩ := h
  by_cases q : p = n
  · subst q
    simp [r_58, s_58_0, s_58_1, s_58_4, s_58_7, s_58_8, s_58_9, s_58_12, s_58_13, s_58_14, s_58_15, s_58_18, s_58_19, s_58_22, s_58_23, s_58_26, s_58_27, s_58_30, s_58_33, s_58_34, s_58_37, s_58_38, ha_0, hg_0_0, hg_0_1, hg_0_2, hg_0_3, hg_0_4, hq_0_4, hg_0_5, hq_0_5, ha_1, hg_1_0, hg_1_1, hg_1_2, hg_1_3, hg_1_4, hg_1_5, hg_1_6, hg_1_7, hg_1_8, hg_1_9, hg_1_10, hg_1_11, hg_1_12, hq_1_12, ha_2, hg_2_0, hg_2_1, hg_2_2, hg_2_3, hg_2_4, hq_2_4, hl_3, hs_3, hl_4, hs_4, hl_5, hs_5, hl_6, hs_6, hl_7, hs_7, hl_8, hs_8, hl_9, hs_9, hl_10, hs_10, hl_11, hs_11, hl_12, hs_12, hl_13, hs_13, hl_14, hs_14, hl_15, hs_15, hl_16, hs_16, hl_17, hs_17, ha_18, hg_18_0, hg_18_1, hg_18_2, hq_18_2, hg_18_3, hq_18_3, hl_19, hs_19, ha_20, hg_20_0, hg_20_1, ha_21, hg_21_0, hg_21_1, hg_21_2, hg_21_3, hg_21_4, hg_21_5, hg_21_6, hq_21_6, hg_21_7, hg_21_8, hg_21_9, hg_21_10, hq_21_10, hg_21_11, hq_21_11, hg_21_12, hq_21_12, hg_21_13, hq_21_13, hg_21_14, hq_21_14, hg_21_15, hq_21_15, hg_21_16, hq_21_16, hg_21_17, hq_21_17, ha_22, hg_22_0, hg_22_1, hg_22_2, hg_22_3, hg_22_4, hg_22_5, hg_22_6, hq_22_6, hg_22_7, hq_22_7, hg_22_8, hq_22_8, hl_23, hs_23, hl_24, hs_24, hl_25, hs_25, hl_26, hs_26, hl_27, hs_27, ha_28, hg_28_0, hg_28_1, hq_28_1, hl_29, hs_29, hl_30, hs_30, hl_31, hs_31, hl_32, hs_32, hl_33, hs_33, hl_34, hs_34, hl_35, hs_35, am_ld_cons, am_ld_nil, am_st1_cons, am_st1_nil, am_st2_cons, am_st2_nil, am_P1, am_P2, Value.category, am_add_add, am_add0, am_add_some, k1, wr_fold, e1, k, h1, h2]
  · have q1 : ¬ nI p = nI n := fun z => q (nI_inj (by omega) (by omega) z)
    simp [r_58, s_58_0, s_58_1, s_58_4, s_58_7, s_58_8, s_58_9, s_58_12, s_58_13, s_58_14, s_58_15, s_58_18, s_58_19, s_58_22, s_58_23, s_58_26, s_58_27, s_58_30, s_58_33, s_58_34, s_58_37, s_58_38, ha_0, hg_0_0, hg_0_1, hg_0_2, hg_0_3, hg_0_4, hq_0_4, hg_0_5, hq_0_5, ha_1, hg_1_0, hg_1_1, hg_1_2, hg_1_3, hg_1_4, hg_1_5, hg_1_6, hg_1_7, hg_1_8, hg_1_9, hg_1_10, hg_1_11, hg_1_12, hq_1_12, ha_2, hg_2_0, hg_2_1, hg_2_2, hg_2_3, hg_2_4, hq_2_4, hl_3, hs_3, hl_4, hs_4, hl_5, hs_5, hl_6, hs_6, hl_7, hs_7, hl_8, hs_8, hl_9, hs_9, hl_10, hs_10, hl_11, hs_11, hl_12, hs_12, hl_13, hs_13, hl_14, hs_14, hl_15, hs_15, hl_16, hs_16, hl_17, hs_17, ha_18, hg_18_0, hg_18_1, hg_18_2, hq_18_2, hg_18_3, hq_18_3, hl_19, hs_19, ha_20, hg_20_0, hg_20_1, ha_21, hg_21_0, hg_21_1, hg_21_2, hg_21_3, hg_21_4, hg_21_5, hg_21_6, hq_21_6, hg_21_7, hg_21_8, hg_21_9, hg_21_10, hq_21_10, hg_21_11, hq_21_11, hg_21_12, hq_21_12, hg_21_13, hq_21_13, hg_21_14, hq_21_14, hg_21_15, hq_21_15, hg_21_16, hq_21_16, hg_21_17, hq_21_17, ha_22, hg_22_0, hg_22_1, hg_22_2, hg_22_3, hg_22_4, hg_22_5, hg_22_6, hq_22_6, hg_22_7, hq_22_7, hg_22_8, hq_22_8, hl_23, hs_23, hl_24, hs_24, hl_25, hs_25, hl_26, hs_26, hl_27, hs_27, ha_28, hg_28_0, hg_28_1, hq_28_1, hl_29, hs_29, hl_30, hs_30, hl_31, hs_31, hl_32, hs_32, hl_33, hs_33, hl_34, hs_34, hl_35, hs_35, am_ld_cons, am_ld_nil, am_st1_cons, am_st1_nil, am_st2_cons, am_st2_nil, am_P1, am_P2, Value.category, am_add_add, am_add0, am_add_some, k1, wr_fold, e1, k, h1, h2, q, q1]
def ckI (I : am_I) : am_I := wr (wr (va_up (va_up I 28 (upd (I 28) 1 0)) 21 (upd (upd (upd (I 21) 10 0) 11 0) 12 5)) 0 4 0) 0 5 (-1)
set_option maxRecDepth 100000 in
set_option maxHeartbeats 4000000 in
theorem c3_1 (scr : Nat → Int32) (L F d : Nat) (I : Nat → Nat → Int32) (J : Nat → Nat → Int64) (M : Nat → Nat → Int32) (I1 : am_I) (kr : am_r scr L (F + 63000) (d + 122) 58 [.ref 19] (hp (ckI I) J M) = some (some (.int 0), hp I1 J M, 0, 0)) : am_r scr L (F + 63000) (d + 123) 3 [.ref 1] (hp I J M) = some (some (.int 1), hp (wr I1 18 2 0) J M, 0, 0) := by
  have k1 := m_30 scr L (F + 62800) (d + 120) I J M
  have e1 : wr (wr (va_up (va_up I 28 (upd (I 28) 1 0)) 21 (upd (upd (upd (I 21) 10 0) 11 0) 12 5)) 0 4 0) 0 5 (-1) = ckI I := rfl
  obtain ⟨Ia, hIa⟩ : ∃ Ia, va_up (va_up I 28 (upd (I 28) 1 0)) 21 (upd (upd (upd (I 21) 10 0) 11 0) 12 5) = Ia := ⟨_, rfl⟩
  rw [hIa] at k1 e1
  have k2 := m_56 scr L (F + 62900) (d + 121) I1 J M
  simp [r_3, s_3_0, s_3_1, s_3_4, s_3_7, s_3_8, s_3_9, s_3_12, s_3_13, s_3_14, s_3_17, s_3_18, s_3_21, s_3_24, s_3_25, s_3_26, s_3_29, s_3_32, s_3_33, s_3_36, s_3_37, s_3_38, s_3_39, s_3_40, s_3_43, s_3_46, s_3_49, s_3_50, s_3_53, s_3_54, s_3_57, s_3_58, s_3_59, s_3_60, s_3_61, s_3_64, s_3_65, ha_0, hg_0_0, hg_0_1, hg_0_2, hg_0_3, hg_0_4, hq_0_4, hg_0_5, hq_0_5, ha_1, hg_1_0, hg_1_1, hg_1_2, hg_1_3, hg_1_4, hg_1_5, hg_1_6, hg_1_7, hg_1_8, hg_1_9, hg_1_10, hg_1_11, hg_1_12, hq_1_12, ha_2, hg_2_0, hg_2_1, hg_2_2, hg_2_3, hg_2_4, hq_2_4, hl_3, hs_3, hl_4, hs_4, hl_5, hs_5, hl_6, hs_6, hl_7, hs_7, hl_8, hs_8, hl_9, hs_9, hl_10, hs_10, hl_11, hs_11, hl_12, hs_12, hl_13, hs_13, hl_14, hs_14, hl_15, hs_15, hl_16, hs_16, hl_17, hs_17, ha_18, hg_18_0, hg_18_1, hg_18_2, hq_18_2, hg_18_3, hq_18_3, hl_19, hs_19, ha_20, hg_20_0, hg_20_1, ha_21, hg_21_0, hg_21_1, hg_21_2, hg_21_3, hg_21_4, hg_21_5, hg_21_6, hq_21_6, hg_21_7, hg_21_8, hg_21_9, hg_21_10, hq_21_10, hg_21_11, hq_21_11, hg_21_12, hq_21_12, hg_21_13, hq_21_13, hg_21_14, hq_21_14, hg_21_15, hq_21_15, hg_21_16, hq_21_16, hg_21_17, hq_21_17, ha_22, hg_22_0, hg_22_1, hg_22_2, hg_22_3, hg_22_4, hg_22_5, hg_22_6, hq_22_6, hg_22_7, hq_22_7, hg_22_8, hq_22_8, hl_23, hs_23, hl_24, hs_24, hl_25, hs_25, hl_26, hs_26, hl_27, hs_27, ha_28, hg_28_0, hg_28_1, hq_28_1, hl_29, hs_29, hl_30, hs_30, hl_31, hs_31, hl_32, hs_32, hl_33, hs_33, hl_34, hs_34, hl_35, hs_35, am_ld_cons, am_ld_nil, am_st1_cons, am_st1_nil, am_st2_cons, am_st2_nil, am_P1, am_P2, Value.category, am_add_add, am_add0, am_add_some, k1, wr_fold, e1, kr, k2]
set_option maxRecDepth 100000 in
set_option maxHeartbeats 4000000 in
theorem c3_2 (scr : Nat → Int32) (L F d : Nat) (I : Nat → Nat → Int32) (J : Nat → Nat → Int64) (M : Nat → Nat → Int32) (I1 I2 : am_I) (kr : am_r scr L (F + 63000) (d + 122) 58 [.ref 19] (hp (ckI I) J M) = some (some (.int 1), hp I1 J M, 0, 0)) (q : Nat) (hq : q < 100) (ke : am_r scr L (F + 63000) (d + 122) 20 [.ref 21] (hp (wr I1 18 2 0) J M) = some (some (.int (nI q)), hp I2 J M, 0, 0)) : am_r scr L (F + 63000) (d + 123) 3 [.ref 1] (hp I J M) = some (some (.int 2), hp (wr I2 0 5 (nI q)) J M, 0, 0) := by
  have k1 := m_30 scr L (F + 62800) (d + 120) I J M
  have e1 : wr (wr (va_up (va_up I 28 (upd (I 28) 1 0)) 21 (upd (upd (upd (I 21) 10 0) 11 0) 12 5)) 0 4 0) 0 5 (-1) = ckI I := rfl
  obtain ⟨Ia, hIa⟩ : ∃ Ia, va_up (va_up I 28 (upd (I 28) 1 0)) 21 (upd (upd (upd (I 21) 10 0) 11 0) 12 5) = Ia := ⟨_, rfl⟩
  rw [hIa] at k1 e1
  have k2 := m_56 scr L (F + 62900) (d + 121) I1 J M
  have n1 : ¬ nI q = -1 := nI_nm (by omega)
  have e5 : wr I2 0 5 (nI q) 0 5 = nI q := wr_s _ _ _ _
  simp [r_3, s_3_0, s_3_1, s_3_4, s_3_7, s_3_8, s_3_9, s_3_12, s_3_13, s_3_14, s_3_17, s_3_18, s_3_21, s_3_24, s_3_25, s_3_26, s_3_29, s_3_32, s_3_33, s_3_36, s_3_37, s_3_38, s_3_39, s_3_40, s_3_43, s_3_46, s_3_49, s_3_50, s_3_53, s_3_54, s_3_57, s_3_58, s_3_59, s_3_60, s_3_61, s_3_64, s_3_65, ha_0, hg_0_0, hg_0_1, hg_0_2, hg_0_3, hg_0_4, hq_0_4, hg_0_5, hq_0_5, ha_1, hg_1_0, hg_1_1, hg_1_2, hg_1_3, hg_1_4, hg_1_5, hg_1_6, hg_1_7, hg_1_8, hg_1_9, hg_1_10, hg_1_11, hg_1_12, hq_1_12, ha_2, hg_2_0, hg_2_1, hg_2_2, hg_2_3, hg_2_4, hq_2_4, hl_3, hs_3, hl_4, hs_4, hl_5, hs_5, hl_6, hs_6, hl_7, hs_7, hl_8, hs_8, hl_9, hs_9, hl_10, hs_10, hl_11, hs_11, hl_12, hs_12, hl_13, hs_13, hl_14, hs_14, hl_15, hs_15, hl_16, hs_16, hl_17, hs_17, ha_18, hg_18_0, hg_18_1, hg_18_2, hq_18_2, hg_18_3, hq_18_3, hl_19, hs_19, ha_20, hg_20_0, hg_20_1, ha_21, hg_21_0, hg_21_1, hg_21_2, hg_21_3, hg_21_4, hg_21_5, hg_21_6, hq_21_6, hg_21_7, hg_21_8, hg_21_9, hg_21_10, hq_21_10, hg_21_11, hq_21_11, hg_21_12, hq_21_12, hg_21_13, hq_21_13, hg_21_14, hq_21_14, hg_21_15, hq_21_15, hg_21_16, hq_21_16, hg_21_17, hq_21_17, ha_22, hg_22_0, hg_22_1, hg_22_2, hg_22_3, hg_22_4, hg_22_5, hg_22_6, hq_22_6, hg_22_7, hq_22_7, hg_22_8, hq_22_8, hl_23, hs_23, hl_24, hs_24, hl_25, hs_25, hl_26, hs_26, hl_27, hs_27, ha_28, hg_28_0, hg_28_1, hq_28_1, hl_29, hs_29, hl_30, hs_30, hl_31, hs_31, hl_32, hs_32, hl_33, hs_33, hl_34, hs_34, hl_35, hs_35, am_ld_cons, am_ld_nil, am_st1_cons, am_st1_nil, am_st2_cons, am_st2_nil, am_P1, am_P2, Value.category, am_add_add, am_add0, am_add_some, k1, wr_fold, e1, kr, k2, ke, e5, n1]
set_option maxRecDepth 100000 in
set_option maxHeartbeats 4000000 in
theorem c3_0 (scr : Nat → Int32) (L F d : Nat) (I : Nat → Nat → Int32) (J : Nat → Nat → Int64) (M : Nat → Nat → Int32) (I1 I2 : am_I) (kr : am_r scr L (F + 63000) (d + 122) 58 [.ref 19] (hp (ckI I) J M) = some (some (.int 1), hp I1 J M, 0, 0)) (ke : am_r scr L (F + 63000) (d + 122) 20 [.ref 21] (hp (wr I1 18 2 0) J M) = some (some (.int (-1)), hp I2 J M, 0, 0)) : am_r scr L (F + 63000) (d + 123) 3 [.ref 1] (hp I J M) = some (some (.int 0), hp (wr (wr I2 0 5 (-1)) 0 4 1) J M, 0, 0) := by
  have k1 := m_30 scr L (F + 62800) (d + 120) I J M
  have e1 : wr (wr (va_up (va_up I 28 (upd (I 28) 1 0)) 21 (upd (upd (upd (I 21) 10 0) 11 0) 12 5)) 0 4 0) 0 5 (-1) = ckI I := rfl
  obtain ⟨Ia, hIa⟩ : ∃ Ia, va_up (va_up I 28 (upd (I 28) 1 0)) 21 (upd (upd (upd (I 21) 10 0) 11 0) 12 5) = Ia := ⟨_, rfl⟩
  rw [hIa] at k1 e1
  have k2 := m_56 scr L (F + 62900) (d + 121) I1 J M
  have e5 : wr I2 0 5 (-1) 0 5 = -1 := wr_s _ _ _ _
  simp [r_3, s_3_0, s_3_1, s_3_4, s_3_7, s_3_8, s_3_9, s_3_12, s_3_13, s_3_14, s_3_17, s_3_18, s_3_21, s_3_24, s_3_25, s_3_26, s_3_29, s_3_32, s_3_33, s_3_36, s_3_37, s_3_38, s_3_39, s_3_40, s_3_43, s_3_46, s_3_49, s_3_50, s_3_53, s_3_54, s_3_57, s_3_58, s_3_59, s_3_60, s_3_61, s_3_64, s_3_65, ha_0, hg_0_0, hg_0_1, hg_0_2, hg_0_3, hg_0_4, hq_0_4, hg_0_5, hq_0_5, ha_1, hg_1_0, hg_1_1, hg_1_2, hg_1_3, hg_1_4, hg_1_5, hg_1_6, hg_1_7, hg_1_8, hg_1_9, hg_1_10, hg_1_11, hg_1_12, hq_1_12, ha_2, hg_2_0, hg_2_1, hg_2_2, hg_2_3, hg_2_4, hq_2_4, hl_3, hs_3, hl_4, hs_4, hl_5, hs_5, hl_6, hs_6, hl_7, hs_7, hl_8, hs_8, hl_9, hs_9, hl_10, hs_10, hl_11, hs_11, hl_12, hs_12, hl_13, hs_13, hl_14, hs_14, hl_15, hs_15, hl_16, hs_16, hl_17, hs_17, ha_18, hg_18_0, hg_18_1, hg_18_2, hq_18_2, hg_18_3, hq_18_3, hl_19, hs_19, ha_20, hg_20_0, hg_20_1, ha_21, hg_21_0, hg_21_1, hg_21_2, hg_21_3, hg_21_4, hg_21_5, hg_21_6, hq_21_6, hg_21_7, hg_21_8, hg_21_9, hg_21_10, hq_21_10, hg_21_11, hq_21_11, hg_21_12, hq_21_12, hg_21_13, hq_21_13, hg_21_14, hq_21_14, hg_21_15, hq_21_15, hg_21_16, hq_21_16, hg_21_17, hq_21_17, ha_22, hg_22_0, hg_22_1, hg_22_2, hg_22_3, hg_22_4, hg_22_5, hg_22_6, hq_22_6, hg_22_7, hq_22_7, hg_22_8, hq_22_8, hl_23, hs_23, hl_24, hs_24, hl_25, hs_25, hl_26, hs_26, hl_27, hs_27, ha_28, hg_28_0, hg_28_1, hq_28_1, hl_29, hs_29, hl_30, hs_30, hl_31, hs_31, hl_32, hs_32, hl_33, hs_33, hl_34, hs_34, hl_35, hs_35, am_ld_cons, am_ld_nil, am_st1_cons, am_st1_nil, am_st2_cons, am_st2_nil, am_P1, am_P2, Value.category, am_add_add, am_add0, am_add_some, k1, wr_fold, e1, kr, k2, ke, e5]
