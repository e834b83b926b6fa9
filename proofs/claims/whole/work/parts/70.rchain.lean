/-! Running: casts on the way in and on the way out, turn by turn. -/
theorem kb_f2 {i j : Nat} {tl : am_L} (hk : kb i tl) (h : j + 1 < i) : tl.filter (am_P2 j) = tl := by
  rw [List.filter_eq_self]
  intro q hq
  have h1 := hk q hq
  have h2 : ¬ q.1 = j := by omega
  have h3 : ¬ q.1 = j + 1 := by omega
  have h4 : ¬ q.1 + 1 = j := by omega
  simp [am_P2, h2, h3, h4]
theorem am1 (x : Int32) : x + (-1) = x - 1 := by rw [Int32.sub_eq_add_neg]
theorem m0_1 : nI 0 - 1 = -1 := by decide +kernel
def h17 (scr : Nat → Int32) (L F d : Nat) (I : am_I) (J : am_J) (Mx : am_I) (fv gv x v : Int64) (i N : Nat) (R : Option am_X) : Prop := ∀ (f : Nat) (tl : am_L), N ≤ f → kb 10 tl → am_f (d + 6) scr L (am_r scr L (F + 200000) (d + 6)) 17 f 9 ((0, .ref 23) :: (1, .long fv) :: (3, .long gv) :: (5, .long x) :: (7, .long v) :: (9, .int (nI i)) :: tl) [] (hp I J Mx) = R
set_option maxRecDepth 100000 in
set_option maxHeartbeats 4000000 in
theorem h17_200 (scr : Nat → Int32) (L F d : Nat) (I : am_I) (J : am_J) (Mx : am_I) (fv gv x v : Int64) (i : Nat) (hi : i = 200) : h17 scr L F d I J Mx fv gv x v i 80 (some (some (.long v), hp I J Mx, 0, 0)) := by
  subst hi
  have e : nI 200 = 200 := by decide +kernel
  intro f tl hf hk
  obtain ⟨g, rfl⟩ : ∃ g, f = g + 80 := ⟨f - 80, by omega⟩
  obtain ⟨tl1, e10, k10⟩ := kb_st hk
  have f1 := kb_f k10 (show 9 < 11 by omega)
  have f2 := kb_f2 k10 (show 7 + 1 < 11 by omega)
  have f3 := kb_f2 k10 (show 5 + 1 < 11 by omega)
  have f4 := kb_f hk (show 9 < 10 by omega)
  have f5 := kb_f2 hk (show 7 + 1 < 10 by omega)
  rw [s_17_9]
  simp [s_17_0, s_17_1, s_17_3, s_17_4, s_17_6, s_17_7, s_17_11, s_17_14, s_17_17, s_17_18, s_17_21, s_17_23, s_17_26, s_17_28, s_17_31, s_17_34, s_17_36, s_17_39, s_17_41, s_17_42, s_17_44, s_17_45, s_17_48, s_17_51, s_17_52, s_17_55, s_17_57, s_17_58, s_17_59, s_17_60, s_17_63, s_17_66, s_17_67, s_17_70, s_17_72, s_17_73, s_17_74, s_17_75, s_17_78, s_17_80, s_17_81, s_17_82, s_17_83, s_17_86, s_17_88, s_17_89, s_17_92, s_17_94, s_17_95, s_17_97, s_17_100, s_17_103, s_17_105, ha_0, hg_0_0, hg_0_1, hg_0_2, hg_0_3, hg_0_4, hq_0_4, hg_0_5, hq_0_5, ha_1, hg_1_0, hg_1_1, hg_1_2, hg_1_3, hg_1_4, hg_1_5, hg_1_6, hg_1_7, hg_1_8, hg_1_9, hg_1_10, hg_1_11, hg_1_12, hq_1_12, ha_2, hg_2_0, hg_2_1, hg_2_2, hg_2_3, hg_2_4, hq_2_4, hl_3, hs_3, hl_4, hs_4, hl_5, hs_5, hl_6, hs_6, hl_7, hs_7, hl_8, hs_8, hl_9, hs_9, hl_10, hs_10, hl_11, hs_11, hl_12, hs_12, hl_13, hs_13, hl_14, hs_14, hl_15, hs_15, hl_16, hs_16, hl_17, hs_17, ha_18, hg_18_0, hg_18_1, hg_18_2, hq_18_2, hg_18_3, hq_18_3, hl_19, hs_19, ha_20, hg_20_0, hg_20_1, ha_21, hg_21_0, hg_21_1, hg_21_2, hg_21_3, hg_21_4, hg_21_5, hg_21_6, hq_21_6, hg_21_7, hg_21_8, hg_21_9, hg_21_10, hq_21_10, hg_21_11, hq_21_11, hg_21_12, hq_21_12, hg_21_13, hq_21_13, hg_21_14, hq_21_14, hg_21_15, hq_21_15, hg_21_16, hq_21_16, hg_21_17, hq_21_17, ha_22, hg_22_0, hg_22_1, hg_22_2, hg_22_3, hg_22_4, hg_22_5, hg_22_6, hq_22_6, hg_22_7, hq_22_7, hg_22_8, hq_22_8, hl_23, hs_23, hl_24, hs_24, hl_25, hs_25, hl_26, hs_26, hl_27, hs_27, ha_28, hg_28_0, hg_28_1, hq_28_1, hl_29, hs_29, hl_30, hs_30, hl_31, hs_31, hl_32, hs_32, hl_33, hs_33, hl_34, hs_34, hl_35, hs_35, am_ld_cons, am_ld_nil, am_st1_cons, am_st1_nil, am_st2_cons, am_st2_nil, am_P1, am_P2, Value.category, am_add_add, am_add0, am_add_some, e]
set_option maxRecDepth 100000 in
set_option maxHeartbeats 4000000 in
theorem h17_stop (scr : Nat → Int32) (L F d : Nat) (I : am_I) (J : am_J) (Mx : am_I) (fv gv x v : Int64) (i : Nat) (hi : i < 200) (h : ¬ I 22 7 = 6) : h17 scr L F d I J Mx fv gv x v i 80 (some (some (.long v), hp I J Mx, 0, 0)) := by
  have hi2 : ¬ (200 : Int32) ≤ nI i := by
    rw [show (200 : Int32) = nI 200 by decide +kernel]
    exact nI_ge hi (by decide)
  have ei : nI i + 1 = nI (i + 1) := nI_1 i
  intro f tl hf hk
  obtain ⟨g, rfl⟩ : ∃ g, f = g + 80 := ⟨f - 80, by omega⟩
  obtain ⟨tl1, e10, k10⟩ := kb_st hk
  have f1 := kb_f k10 (show 9 < 11 by omega)
  have f2 := kb_f2 k10 (show 7 + 1 < 11 by omega)
  have f3 := kb_f2 k10 (show 5 + 1 < 11 by omega)
  have f4 := kb_f hk (show 9 < 10 by omega)
  have f5 := kb_f2 hk (show 7 + 1 < 10 by omega)
  rw [s_17_9]
  simp [s_17_0, s_17_1, s_17_3, s_17_4, s_17_6, s_17_7, s_17_11, s_17_14, s_17_17, s_17_18, s_17_21, s_17_23, s_17_26, s_17_28, s_17_31, s_17_34, s_17_36, s_17_39, s_17_41, s_17_42, s_17_44, s_17_45, s_17_48, s_17_51, s_17_52, s_17_55, s_17_57, s_17_58, s_17_59, s_17_60, s_17_63, s_17_66, s_17_67, s_17_70, s_17_72, s_17_73, s_17_74, s_17_75, s_17_78, s_17_80, s_17_81, s_17_82, s_17_83, s_17_86, s_17_88, s_17_89, s_17_92, s_17_94, s_17_95, s_17_97, s_17_100, s_17_103, s_17_105, ha_0, hg_0_0, hg_0_1, hg_0_2, hg_0_3, hg_0_4, hq_0_4, hg_0_5, hq_0_5, ha_1, hg_1_0, hg_1_1, hg_1_2, hg_1_3, hg_1_4, hg_1_5, hg_1_6, hg_1_7, hg_1_8, hg_1_9, hg_1_10, hg_1_11, hg_1_12, hq_1_12, ha_2, hg_2_0, hg_2_1, hg_2_2, hg_2_3, hg_2_4, hq_2_4, hl_3, hs_3, hl_4, hs_4, hl_5, hs_5, hl_6, hs_6, hl_7, hs_7, hl_8, hs_8, hl_9, hs_9, hl_10, hs_10, hl_11, hs_11, hl_12, hs_12, hl_13, hs_13, hl_14, hs_14, hl_15, hs_15, hl_16, hs_16, hl_17, hs_17, ha_18, hg_18_0, hg_18_1, hg_18_2, hq_18_2, hg_18_3, hq_18_3, hl_19, hs_19, ha_20, hg_20_0, hg_20_1, ha_21, hg_21_0, hg_21_1, hg_21_2, hg_21_3, hg_21_4, hg_21_5, hg_21_6, hq_21_6, hg_21_7, hg_21_8, hg_21_9, hg_21_10, hq_21_10, hg_21_11, hq_21_11, hg_21_12, hq_21_12, hg_21_13, hq_21_13, hg_21_14, hq_21_14, hg_21_15, hq_21_15, hg_21_16, hq_21_16, hg_21_17, hq_21_17, ha_22, hg_22_0, hg_22_1, hg_22_2, hg_22_3, hg_22_4, hg_22_5, hg_22_6, hq_22_6, hg_22_7, hq_22_7, hg_22_8, hq_22_8, hl_23, hs_23, hl_24, hs_24, hl_25, hs_25, hl_26, hs_26, hl_27, hs_27, ha_28, hg_28_0, hg_28_1, hq_28_1, hl_29, hs_29, hl_30, hs_30, hl_31, hs_31, hl_32, hs_32, hl_33, hs_33, hl_34, hs_34, hl_35, hs_35, am_ld_cons, am_ld_nil, am_st1_cons, am_st1_nil, am_st2_cons, am_st2_nil, am_P1, am_P2, Value.category, am_add_add, am_add0, am_add_some, hi2, h]
set_option maxRecDepth 100000 in
set_option maxHeartbeats 4000000 in
theorem h17_end (scr : Nat → Int32) (L F d : Nat) (I : am_I) (J : am_J) (Mx : am_I) (fv gv x v : Int64) (i : Nat) (hi : i < 200) (h : I 22 7 = 6) (hx : x &&& 4 = 0) : h17 scr L F d I J Mx fv gv x v i 80 (some (some (.long v), hp I J Mx, 0, 0)) := by
  have hi2 : ¬ (200 : Int32) ≤ nI i := by
    rw [show (200 : Int32) = nI 200 by decide +kernel]
    exact nI_ge hi (by decide)
  have ei : nI i + 1 = nI (i + 1) := nI_1 i
  have k88 := m_88 scr L (F + 199900) (d + 5) I J Mx x
  rw [if_pos hx] at k88
  intro f tl hf hk
  obtain ⟨g, rfl⟩ : ∃ g, f = g + 80 := ⟨f - 80, by omega⟩
  obtain ⟨tl1, e10, k10⟩ := kb_st hk
  have f1 := kb_f k10 (show 9 < 11 by omega)
  have f2 := kb_f2 k10 (show 7 + 1 < 11 by omega)
  have f3 := kb_f2 k10 (show 5 + 1 < 11 by omega)
  have f4 := kb_f hk (show 9 < 10 by omega)
  have f5 := kb_f2 hk (show 7 + 1 < 10 by omega)
  rw [s_17_9]
  simp [s_17_0, s_17_1, s_17_3, s_17_4, s_17_6, s_17_7, s_17_11, s_17_14, s_17_17, s_17_18, s_17_21, s_17_23, s_17_26, s_17_28, s_17_31, s_17_34, s_17_36, s_17_39, s_17_41, s_17_42, s_17_44, s_17_45, s_17_48, s_17_51, s_17_52, s_17_55, s_17_57, s_17_58, s_17_59, s_17_60, s_17_63, s_17_66, s_17_67, s_17_70, s_17_72, s_17_73, s_17_74, s_17_75, s_17_78, s_17_80, s_17_81, s_17_82, s_17_83, s_17_86, s_17_88, s_17_89, s_17_92, s_17_94, s_17_95, s_17_97, s_17_100, s_17_103, s_17_105, ha_0, hg_0_0, hg_0_1, hg_0_2, hg_0_3, hg_0_4, hq_0_4, hg_0_5, hq_0_5, ha_1, hg_1_0, hg_1_1, hg_1_2, hg_1_3, hg_1_4, hg_1_5, hg_1_6, hg_1_7, hg_1_8, hg_1_9, hg_1_10, hg_1_11, hg_1_12, hq_1_12, ha_2, hg_2_0, hg_2_1, hg_2_2, hg_2_3, hg_2_4, hq_2_4, hl_3, hs_3, hl_4, hs_4, hl_5, hs_5, hl_6, hs_6, hl_7, hs_7, hl_8, hs_8, hl_9, hs_9, hl_10, hs_10, hl_11, hs_11, hl_12, hs_12, hl_13, hs_13, hl_14, hs_14, hl_15, hs_15, hl_16, hs_16, hl_17, hs_17, ha_18, hg_18_0, hg_18_1, hg_18_2, hq_18_2, hg_18_3, hq_18_3, hl_19, hs_19, ha_20, hg_20_0, hg_20_1, ha_21, hg_21_0, hg_21_1, hg_21_2, hg_21_3, hg_21_4, hg_21_5, hg_21_6, hq_21_6, hg_21_7, hg_21_8, hg_21_9, hg_21_10, hq_21_10, hg_21_11, hq_21_11, hg_21_12, hq_21_12, hg_21_13, hq_21_13, hg_21_14, hq_21_14, hg_21_15, hq_21_15, hg_21_16, hq_21_16, hg_21_17, hq_21_17, ha_22, hg_22_0, hg_22_1, hg_22_2, hg_22_3, hg_22_4, hg_22_5, hg_22_6, hq_22_6, hg_22_7, hq_22_7, hg_22_8, hq_22_8, hl_23, hs_23, hl_24, hs_24, hl_25, hs_25, hl_26, hs_26, hl_27, hs_27, ha_28, hg_28_0, hg_28_1, hq_28_1, hl_29, hs_29, hl_30, hs_30, hl_31, hs_31, hl_32, hs_32, hl_33, hs_33, hl_34, hs_34, hl_35, hs_35, am_ld_cons, am_ld_nil, am_st1_cons, am_st1_nil, am_st2_cons, am_st2_nil, am_P1, am_P2, Value.category, am_add_add, am_add0, am_add_some, hi2, h, k88]
set_option maxRecDepth 100000 in
set_option maxHeartbeats 4000000 in
theorem h17_go (scr : Nat → Int32) (L F d : Nat) (I : am_I) (J : am_J) (Mx : am_I) (fv gv x v : Int64) (i : Nat) (hi : i < 200) (h : I 22 7 = 6) (hx : ¬ x &&& 4 = 0) (w a b : Nat) (hw : v_ca x = nI w) (hw2 : w < 200) (h25 : I 25 w = nI b) (h24 : I 24 w = nI a) (hb : b < 105) (ha : a < 105) (y z lb : Int32) (h4b : I 4 b = y) (h4a : I 4 a = z) (h26 : I 26 w = lb) (v' : Int64) (I1 : am_I) (J1 : am_J) (kc : am_r scr L (F + 200000) (d + 6) 14 [.ref 23, .long v, .int y, .int z, .int (lb ^^^ 1)] (hp I J Mx) = some (some (.long v'), hp I1 J1 Mx, 0, 0)) (N : Nat) (R : Option am_X) (key : h17 scr L F d I1 J1 Mx fv gv (J1 23 w) v' (i + 1) N R) : h17 scr L F d I J Mx fv gv x v i (N + 80) R := by
  have hi2 : ¬ (200 : Int32) ≤ nI i := by
    rw [show (200 : Int32) = nI 200 by decide +kernel]
    exact nI_ge hi (by decide)
  have ei : nI i + 1 = nI (i + 1) := nI_1 i
  have k88 := m_88 scr L (F + 199900) (d + 5) I J Mx x
  rw [if_neg hx] at k88
  have k87 := m_87 scr L (F + 199900) (d + 5) I J Mx x
  rw [hw] at k87
  have w1 : ¬ nI w < 0 := nI_pos (by omega)
  have w2 : (nI w).toNatClampNeg = w := nI_clamp (by omega)
  have w3 : ¬ 200 ≤ w := by omega
  have a1 : ¬ nI a < 0 := nI_pos (by omega)
  have a2 : (nI a).toNatClampNeg = a := nI_clamp (by omega)
  have a3 : ¬ 105 ≤ a := by omega
  have b1 : ¬ nI b < 0 := nI_pos (by omega)
  have b2 : (nI b).toNatClampNeg = b := nI_clamp (by omega)
  have b3 : ¬ 105 ≤ b := by omega
  intro f tl hf hk
  obtain ⟨g, rfl⟩ : ∃ g, f = g + 80 := ⟨f - 80, by omega⟩
  obtain ⟨tl1, e10, k10⟩ := kb_st hk
  have f1 := kb_f k10 (show 9 < 11 by omega)
  have f2 := kb_f2 k10 (show 7 + 1 < 11 by omega)
  have f3 := kb_f2 k10 (show 5 + 1 < 11 by omega)
  have f4 := kb_f hk (show 9 < 10 by omega)
  have f5 := kb_f2 hk (show 7 + 1 < 10 by omega)
  rw [s_17_9]
  simp [s_17_0, s_17_1, s_17_3, s_17_4, s_17_6, s_17_7, s_17_11, s_17_14, s_17_17, s_17_18, s_17_21, s_17_23, s_17_26, s_17_28, s_17_31, s_17_34, s_17_36, s_17_39, s_17_41, s_17_42, s_17_44, s_17_45, s_17_48, s_17_51, s_17_52, s_17_55, s_17_57, s_17_58, s_17_59, s_17_60, s_17_63, s_17_66, s_17_67, s_17_70, s_17_72, s_17_73, s_17_74, s_17_75, s_17_78, s_17_80, s_17_81, s_17_82, s_17_83, s_17_86, s_17_88, s_17_89, s_17_92, s_17_94, s_17_95, s_17_97, s_17_100, s_17_103, s_17_105, ha_0, hg_0_0, hg_0_1, hg_0_2, hg_0_3, hg_0_4, hq_0_4, hg_0_5, hq_0_5, ha_1, hg_1_0, hg_1_1, hg_1_2, hg_1_3, hg_1_4, hg_1_5, hg_1_6, hg_1_7, hg_1_8, hg_1_9, hg_1_10, hg_1_11, hg_1_12, hq_1_12, ha_2, hg_2_0, hg_2_1, hg_2_2, hg_2_3, hg_2_4, hq_2_4, hl_3, hs_3, hl_4, hs_4, hl_5, hs_5, hl_6, hs_6, hl_7, hs_7, hl_8, hs_8, hl_9, hs_9, hl_10, hs_10, hl_11, hs_11, hl_12, hs_12, hl_13, hs_13, hl_14, hs_14, hl_15, hs_15, hl_16, hs_16, hl_17, hs_17, ha_18, hg_18_0, hg_18_1, hg_18_2, hq_18_2, hg_18_3, hq_18_3, hl_19, hs_19, ha_20, hg_20_0, hg_20_1, ha_21, hg_21_0, hg_21_1, hg_21_2, hg_21_3, hg_21_4, hg_21_5, hg_21_6, hq_21_6, hg_21_7, hg_21_8, hg_21_9, hg_21_10, hq_21_10, hg_21_11, hq_21_11, hg_21_12, hq_21_12, hg_21_13, hq_21_13, hg_21_14, hq_21_14, hg_21_15, hq_21_15, hg_21_16, hq_21_16, hg_21_17, hq_21_17, ha_22, hg_22_0, hg_22_1, hg_22_2, hg_22_3, hg_22_4, hg_22_5, hg_22_6, hq_22_6, hg_22_7, hq_22_7, hg_22_8, hq_22_8, hl_23, hs_23, hl_24, hs_24, hl_25, hs_25, hl_26, hs_26, hl_27, hs_27, ha_28, hg_28_0, hg_28_1, hq_28_1, hl_29, hs_29, hl_30, hs_30, hl_31, hs_31, hl_32, hs_32, hl_33, hs_33, hl_34, hs_34, hl_35, hs_35, am_ld_cons, am_ld_nil, am_st1_cons, am_st1_nil, am_st2_cons, am_st2_nil, am_P1, am_P2, Value.category, am_add_add, am_add0, am_add_some, hi2, ei, h, k88, k87, e10, f1, f2, f3, f4, f5, w1, w2, w3, a1, a2, a3, b1, b2, b3, h25, h24, h4b, h4a, h26, kc]
  exact key _ _ (by omega) (kb_cons (by omega) (kb_le (by omega) k10))
set_option maxRecDepth 100000 in
set_option maxHeartbeats 4000000 in
theorem c17_go (scr : Nat → Int32) (L F d : Nat) (I : Nat → Nat → Int32) (J : Nat → Nat → Int64) (M : Nat → Nat → Int32) (fv gv : Int64) (N : Nat) (R : Option am_X) (hN : N ≤ F + 199000) (key : h17 scr L F d I J M fv gv fv gv 0 N R) : am_r scr L (F + 200000) (d + 7) 17 [.ref 23, .long fv, .long gv] (hp I J M) = R := by
  unfold h17 at key
  rw [nI_0] at key
  simp [r_17, s_17_0, s_17_1, s_17_3, s_17_4, s_17_6, s_17_7, s_17_11, s_17_14, s_17_17, s_17_18, s_17_21, s_17_23, s_17_26, s_17_28, s_17_31, s_17_34, s_17_36, s_17_39, s_17_41, s_17_42, s_17_44, s_17_45, s_17_48, s_17_51, s_17_52, s_17_55, s_17_57, s_17_58, s_17_59, s_17_60, s_17_63, s_17_66, s_17_67, s_17_70, s_17_72, s_17_73, s_17_74, s_17_75, s_17_78, s_17_80, s_17_81, s_17_82, s_17_83, s_17_86, s_17_88, s_17_89, s_17_92, s_17_94, s_17_95, s_17_97, s_17_100, s_17_103, s_17_105, ha_0, hg_0_0, hg_0_1, hg_0_2, hg_0_3, hg_0_4, hq_0_4, hg_0_5, hq_0_5, ha_1, hg_1_0, hg_1_1, hg_1_2, hg_1_3, hg_1_4, hg_1_5, hg_1_6, hg_1_7, hg_1_8, hg_1_9, hg_1_10, hg_1_11, hg_1_12, hq_1_12, ha_2, hg_2_0, hg_2_1, hg_2_2, hg_2_3, hg_2_4, hq_2_4, hl_3, hs_3, hl_4, hs_4, hl_5, hs_5, hl_6, hs_6, hl_7, hs_7, hl_8, hs_8, hl_9, hs_9, hl_10, hs_10, hl_11, hs_11, hl_12, hs_12, hl_13, hs_13, hl_14, hs_14, hl_15, hs_15, hl_16, hs_16, hl_17, hs_17, ha_18, hg_18_0, hg_18_1, hg_18_2, hq_18_2, hg_18_3, hq_18_3, hl_19, hs_19, ha_20, hg_20_0, hg_20_1, ha_21, hg_21_0, hg_21_1, hg_21_2, hg_21_3, hg_21_4, hg_21_5, hg_21_6, hq_21_6, hg_21_7, hg_21_8, hg_21_9, hg_21_10, hq_21_10, hg_21_11, hq_21_11, hg_21_12, hq_21_12, hg_21_13, hq_21_13, hg_21_14, hq_21_14, hg_21_15, hq_21_15, hg_21_16, hq_21_16, hg_21_17, hq_21_17, ha_22, hg_22_0, hg_22_1, hg_22_2, hg_22_3, hg_22_4, hg_22_5, hg_22_6, hq_22_6, hg_22_7, hq_22_7, hg_22_8, hq_22_8, hl_23, hs_23, hl_24, hs_24, hl_25, hs_25, hl_26, hs_26, hl_27, hs_27, ha_28, hg_28_0, hg_28_1, hq_28_1, hl_29, hs_29, hl_30, hs_30, hl_31, hs_31, hl_32, hs_32, hl_33, hs_33, hl_34, hs_34, hl_35, hs_35, am_ld_cons, am_ld_nil, am_st1_cons, am_st1_nil, am_st2_cons, am_st2_nil, am_P1, am_P2, Value.category, am_add_add, am_add0, am_add_some]
  exact key _ _ (by omega) (kb_nil 10)
def h18 (scr : Nat → Int32) (L F d : Nat) (I : am_I) (J : am_J) (Mx : am_I) (fv gv x : Int64) (n N : Nat) (R : Option am_X) : Prop := ∀ (f : Nat), N ≤ f → am_f (d + 6) scr L (am_r scr L (F + 200000) (d + 6)) 18 f 6 ((0, .ref 23) :: (1, .long fv) :: (3, .long gv) :: (5, .int (nI n)) :: (6, .long x) :: []) [] (hp I J Mx) = R
def h18b (scr : Nat → Int32) (L F d : Nat) (I : am_I) (J : am_J) (Mx : am_I) (fv gv x v : Int64) (n : Nat) (i : Int32) (N : Nat) (R : Option am_X) : Prop := ∀ (f : Nat) (tl : am_L), N ≤ f → kb 11 tl → am_f (d + 6) scr L (am_r scr L (F + 200000) (d + 6)) 18 f 63 ((0, .ref 23) :: (1, .long fv) :: (3, .long gv) :: (5, .int (nI n)) :: (6, .long x) :: (8, .long v) :: (10, .int i) :: tl) [] (hp I J Mx) = R
set_option maxRecDepth 100000 in
set_option maxHeartbeats 4000000 in
theorem h18_go (scr : Nat → Int32) (L F d : Nat) (I : am_I) (J : am_J) (Mx : am_I) (fv gv x : Int64) (n : Nat) (hn : n < 200) (hx : ¬ x &&& 4 = 0) (w : Nat) (hw : v_ca x = nI w) (hw2 : w < 200) (N : Nat) (R : Option am_X) (key : h18 scr L F d (wr I 27 n (nI w)) J Mx fv gv (J 23 w) (n + 1) N R) : h18 scr L F d I J Mx fv gv x n (N + 80) R := by
  have hn2 : ¬ (200 : Int32) ≤ nI n := by
    rw [show (200 : Int32) = nI 200 by decide +kernel]
    exact nI_ge hn (by decide)
  have en : nI n + 1 = nI (n + 1) := nI_1 n
  have k88 := m_88 scr L (F + 199900) (d + 5) I J Mx x
  rw [if_neg hx] at k88
  have k87 := m_87 scr L (F + 199900) (d + 5) I J Mx x
  rw [hw] at k87
  have e27 : wr I 27 n (nI w) 27 n = nI w := wr_s _ _ _ _
  have w1 : ¬ nI w < 0 := nI_pos (by omega)
  have w2 : (nI w).toNatClampNeg = w := nI_clamp (by omega)
  have w3 : ¬ 200 ≤ w := by omega
  have n1 : ¬ nI n < 0 := nI_pos (by omega)
  have n2 : (nI n).toNatClampNeg = n := nI_clamp (by omega)
  have n3 : ¬ 200 ≤ n := by omega
  intro f hf
  obtain ⟨g, rfl⟩ : ∃ g, f = g + 80 := ⟨f - 80, by omega⟩
  rw [s_18_6]
  simp [s_18_0, s_18_1, s_18_3, s_18_4, s_18_8, s_18_11, s_18_14, s_18_16, s_18_19, s_18_22, s_18_23, s_18_26, s_18_28, s_18_30, s_18_33, s_18_34, s_18_35, s_18_38, s_18_39, s_18_42, s_18_44, s_18_45, s_18_46, s_18_48, s_18_51, s_18_54, s_18_55, s_18_57, s_18_59, s_18_60, s_18_61, s_18_65, s_18_68, s_18_69, s_18_72, s_18_74, s_18_77, s_18_78, s_18_81, s_18_83, s_18_84, s_18_86, s_18_87, s_18_89, s_18_90, s_18_93, s_18_96, s_18_97, s_18_100, s_18_102, s_18_103, s_18_104, s_18_105, s_18_108, s_18_111, s_18_112, s_18_115, s_18_117, s_18_118, s_18_119, s_18_120, s_18_123, s_18_125, s_18_126, s_18_129, s_18_131, s_18_134, s_18_137, s_18_139, ha_0, hg_0_0, hg_0_1, hg_0_2, hg_0_3, hg_0_4, hq_0_4, hg_0_5, hq_0_5, ha_1, hg_1_0, hg_1_1, hg_1_2, hg_1_3, hg_1_4, hg_1_5, hg_1_6, hg_1_7, hg_1_8, hg_1_9, hg_1_10, hg_1_11, hg_1_12, hq_1_12, ha_2, hg_2_0, hg_2_1, hg_2_2, hg_2_3, hg_2_4, hq_2_4, hl_3, hs_3, hl_4, hs_4, hl_5, hs_5, hl_6, hs_6, hl_7, hs_7, hl_8, hs_8, hl_9, hs_9, hl_10, hs_10, hl_11, hs_11, hl_12, hs_12, hl_13, hs_13, hl_14, hs_14, hl_15, hs_15, hl_16, hs_16, hl_17, hs_17, ha_18, hg_18_0, hg_18_1, hg_18_2, hq_18_2, hg_18_3, hq_18_3, hl_19, hs_19, ha_20, hg_20_0, hg_20_1, ha_21, hg_21_0, hg_21_1, hg_21_2, hg_21_3, hg_21_4, hg_21_5, hg_21_6, hq_21_6, hg_21_7, hg_21_8, hg_21_9, hg_21_10, hq_21_10, hg_21_11, hq_21_11, hg_21_12, hq_21_12, hg_21_13, hq_21_13, hg_21_14, hq_21_14, hg_21_15, hq_21_15, hg_21_16, hq_21_16, hg_21_17, hq_21_17, ha_22, hg_22_0, hg_22_1, hg_22_2, hg_22_3, hg_22_4, hg_22_5, hg_22_6, hq_22_6, hg_22_7, hq_22_7, hg_22_8, hq_22_8, hl_23, hs_23, hl_24, hs_24, hl_25, hs_25, hl_26, hs_26, hl_27, hs_27, ha_28, hg_28_0, hg_28_1, hq_28_1, hl_29, hs_29, hl_30, hs_30, hl_31, hs_31, hl_32, hs_32, hl_33, hs_33, hl_34, hs_34, hl_35, hs_35, am_ld_cons, am_ld_nil, am_st1_cons, am_st1_nil, am_st2_cons, am_st2_nil, am_P1, am_P2, Value.category, am_add_add, am_add0, am_add_some, hn2, en, k88, k87, w1, w2, w3, n1, n2, n3, wr_fold, e27]
  exact key _ (by omega)
set_option maxRecDepth 100000 in
set_option maxHeartbeats 4000000 in
theorem h18_end (scr : Nat → Int32) (L F d : Nat) (I : am_I) (J : am_J) (Mx : am_I) (fv gv x : Int64) (n : Nat) (hn : n < 200) (hx : x &&& 4 = 0) (N : Nat) (R : Option am_X) (key : h18b scr L F d I J Mx fv gv x gv n (nI n - 1) N R) : h18 scr L F d I J Mx fv gv x n (N + 80) R := by
  have hn2 : ¬ (200 : Int32) ≤ nI n := by
    rw [show (200 : Int32) = nI 200 by decide +kernel]
    exact nI_ge hn (by decide)
  have en : nI n + 1 = nI (n + 1) := nI_1 n
  have k88 := m_88 scr L (F + 199900) (d + 5) I J Mx x
  rw [if_pos hx] at k88
  intro f hf
  obtain ⟨g, rfl⟩ : ∃ g, f = g + 80 := ⟨f - 80, by omega⟩
  rw [s_18_6]
  simp [s_18_0, s_18_1, s_18_3, s_18_4, s_18_8, s_18_11, s_18_14, s_18_16, s_18_19, s_18_22, s_18_23, s_18_26, s_18_28, s_18_30, s_18_33, s_18_34, s_18_35, s_18_38, s_18_39, s_18_42, s_18_44, s_18_45, s_18_46, s_18_48, s_18_51, s_18_54, s_18_55, s_18_57, s_18_59, s_18_60, s_18_61, s_18_65, s_18_68, s_18_69, s_18_72, s_18_74, s_18_77, s_18_78, s_18_81, s_18_83, s_18_84, s_18_86, s_18_87, s_18_89, s_18_90, s_18_93, s_18_96, s_18_97, s_18_100, s_18_102, s_18_103, s_18_104, s_18_105, s_18_108, s_18_111, s_18_112, s_18_115, s_18_117, s_18_118, s_18_119, s_18_120, s_18_123, s_18_125, s_18_126, s_18_129, s_18_131, s_18_134, s_18_137, s_18_139, ha_0, hg_0_0, hg_0_1, hg_0_2, hg_0_3, hg_0_4, hq_0_4, hg_0_5, hq_0_5, ha_1, hg_1_0, hg_1_1, hg_1_2, hg_1_3, hg_1_4, hg_1_5, hg_1_6, hg_1_7, hg_1_8, hg_1_9, hg_1_10, hg_1_11, hg_1_12, hq_1_12, ha_2, hg_2_0, hg_2_1, hg_2_2, hg_2_3, hg_2_4, hq_2_4, hl_3, hs_3, hl_4, hs_4, hl_5, hs_5, hl_6, hs_6, hl_7, hs_7, hl_8, hs_8, hl_9, hs_9, hl_10, hs_10, hl_11, hs_11, hl_12, hs_12, hl_13, hs_13, hl_14, hs_14, hl_15, hs_15, hl_16, hs_16, hl_17, hs_17, ha_18, hg_18_0, hg_18_1, hg_18_2, hq_18_2, hg_18_3, hq_18_3, hl_19, hs_19, ha_20, hg_20_0, hg_20_1, ha_21, hg_21_0, hg_21_1, hg_21_2, hg_21_3, hg_21_4, hg_21_5, hg_21_6, hq_21_6, hg_21_7, hg_21_8, hg_21_9, hg_21_10, hq_21_10, hg_21_11, hq_21_11, hg_21_12, hq_21_12, hg_21_13, hq_21_13, hg_21_14, hq_21_14, hg_21_15, hq_21_15, hg_21_16, hq_21_16, hg_21_17, hq_21_17, ha_22, hg_22_0, hg_22_1, hg_22_2, hg_22_3, hg_22_4, hg_22_5, hg_22_6, hq_22_6, hg_22_7, hq_22_7, hg_22_8, hq_22_8, hl_23, hs_23, hl_24, hs_24, hl_25, hs_25, hl_26, hs_26, hl_27, hs_27, ha_28, hg_28_0, hg_28_1, hq_28_1, hl_29, hs_29, hl_30, hs_30, hl_31, hs_31, hl_32, hs_32, hl_33, hs_33, hl_34, hs_34, hl_35, hs_35, am_ld_cons, am_ld_nil, am_st1_cons, am_st1_nil, am_st2_cons, am_st2_nil, am_P1, am_P2, Value.category, am_add_add, am_add0, am_add_some, hn2, k88]
  exact key _ _ (by omega) (kb_nil 11)
set_option maxRecDepth 100000 in
set_option maxHeartbeats 4000000 in
theorem h18_200 (scr : Nat → Int32) (L F d : Nat) (I : am_I) (J : am_J) (Mx : am_I) (fv gv x : Int64) (n : Nat) (hn : n = 200) (N : Nat) (R : Option am_X) (key : h18b scr L F d I J Mx fv gv x gv n (nI n - 1) N R) : h18 scr L F d I J Mx fv gv x n (N + 80) R := by
  have e : (200 : Int32) ≤ nI n := by
    rw [hn]
    decide +kernel
  intro f hf
  obtain ⟨g, rfl⟩ : ∃ g, f = g + 80 := ⟨f - 80, by omega⟩
  rw [s_18_6]
  simp [s_18_0, s_18_1, s_18_3, s_18_4, s_18_8, s_18_11, s_18_14, s_18_16, s_18_19, s_18_22, s_18_23, s_18_26, s_18_28, s_18_30, s_18_33, s_18_34, s_18_35, s_18_38, s_18_39, s_18_42, s_18_44, s_18_45, s_18_46, s_18_48, s_18_51, s_18_54, s_18_55, s_18_57, s_18_59, s_18_60, s_18_61, s_18_65, s_18_68, s_18_69, s_18_72, s_18_74, s_18_77, s_18_78, s_18_81, s_18_83, s_18_84, s_18_86, s_18_87, s_18_89, s_18_90, s_18_93, s_18_96, s_18_97, s_18_100, s_18_102, s_18_103, s_18_104, s_18_105, s_18_108, s_18_111, s_18_112, s_18_115, s_18_117, s_18_118, s_18_119, s_18_120, s_18_123, s_18_125, s_18_126, s_18_129, s_18_131, s_18_134, s_18_137, s_18_139, ha_0, hg_0_0, hg_0_1, hg_0_2, hg_0_3, hg_0_4, hq_0_4, hg_0_5, hq_0_5, ha_1, hg_1_0, hg_1_1, hg_1_2, hg_1_3, hg_1_4, hg_1_5, hg_1_6, hg_1_7, hg_1_8, hg_1_9, hg_1_10, hg_1_11, hg_1_12, hq_1_12, ha_2, hg_2_0, hg_2_1, hg_2_2, hg_2_3, hg_2_4, hq_2_4, hl_3, hs_3, hl_4, hs_4, hl_5, hs_5, hl_6, hs_6, hl_7, hs_7, hl_8, hs_8, hl_9, hs_9, hl_10, hs_10, hl_11, hs_11, hl_12, hs_12, hl_13, hs_13, hl_14, hs_14, hl_15, hs_15, hl_16, hs_16, hl_17, hs_17, ha_18, hg_18_0, hg_18_1, hg_18_2, hq_18_2, hg_18_3, hq_18_3, hl_19, hs_19, ha_20, hg_20_0, hg_20_1, ha_21, hg_21_0, hg_21_1, hg_21_2, hg_21_3, hg_21_4, hg_21_5, hg_21_6, hq_21_6, hg_21_7, hg_21_8, hg_21_9, hg_21_10, hq_21_10, hg_21_11, hq_21_11, hg_21_12, hq_21_12, hg_21_13, hq_21_13, hg_21_14, hq_21_14, hg_21_15, hq_21_15, hg_21_16, hq_21_16, hg_21_17, hq_21_17, ha_22, hg_22_0, hg_22_1, hg_22_2, hg_22_3, hg_22_4, hg_22_5, hg_22_6, hq_22_6, hg_22_7, hq_22_7, hg_22_8, hq_22_8, hl_23, hs_23, hl_24, hs_24, hl_25, hs_25, hl_26, hs_26, hl_27, hs_27, ha_28, hg_28_0, hg_28_1, hq_28_1, hl_29, hs_29, hl_30, hs_30, hl_31, hs_31, hl_32, hs_32, hl_33, hs_33, hl_34, hs_34, hl_35, hs_35, am_ld_cons, am_ld_nil, am_st1_cons, am_st1_nil, am_st2_cons, am_st2_nil, am_P1, am_P2, Value.category, am_add_add, am_add0, am_add_some, e]
  exact key _ _ (by omega) (kb_nil 11)
set_option maxRecDepth 100000 in
set_option maxHeartbeats 4000000 in
theorem h18b_end (scr : Nat → Int32) (L F d : Nat) (I : am_I) (J : am_J) (Mx : am_I) (fv gv x : Int64) (n : Nat) (v : Int64) (i : Int32) (hi : i = -1) : h18b scr L F d I J Mx fv gv x v n i 80 (some (some (.long v), hp I J Mx, 0, 0)) := by
  intro f tl hf hk
  obtain ⟨g, rfl⟩ : ∃ g, f = g + 80 := ⟨f - 80, by omega⟩
  obtain ⟨tl1, e11, k11⟩ := kb_st hk
  have f1 := kb_f k11 (show 10 < 12 by omega)
  have f2 := kb_f2 k11 (show 8 + 1 < 12 by omega)
  have f4 := kb_f hk (show 10 < 11 by omega)
  rw [s_18_63]
  simp [s_18_0, s_18_1, s_18_3, s_18_4, s_18_8, s_18_11, s_18_14, s_18_16, s_18_19, s_18_22, s_18_23, s_18_26, s_18_28, s_18_30, s_18_33, s_18_34, s_18_35, s_18_38, s_18_39, s_18_42, s_18_44, s_18_45, s_18_46, s_18_48, s_18_51, s_18_54, s_18_55, s_18_57, s_18_59, s_18_60, s_18_61, s_18_65, s_18_68, s_18_69, s_18_72, s_18_74, s_18_77, s_18_78, s_18_81, s_18_83, s_18_84, s_18_86, s_18_87, s_18_89, s_18_90, s_18_93, s_18_96, s_18_97, s_18_100, s_18_102, s_18_103, s_18_104, s_18_105, s_18_108, s_18_111, s_18_112, s_18_115, s_18_117, s_18_118, s_18_119, s_18_120, s_18_123, s_18_125, s_18_126, s_18_129, s_18_131, s_18_134, s_18_137, s_18_139, ha_0, hg_0_0, hg_0_1, hg_0_2, hg_0_3, hg_0_4, hq_0_4, hg_0_5, hq_0_5, ha_1, hg_1_0, hg_1_1, hg_1_2, hg_1_3, hg_1_4, hg_1_5, hg_1_6, hg_1_7, hg_1_8, hg_1_9, hg_1_10, hg_1_11, hg_1_12, hq_1_12, ha_2, hg_2_0, hg_2_1, hg_2_2, hg_2_3, hg_2_4, hq_2_4, hl_3, hs_3, hl_4, hs_4, hl_5, hs_5, hl_6, hs_6, hl_7, hs_7, hl_8, hs_8, hl_9, hs_9, hl_10, hs_10, hl_11, hs_11, hl_12, hs_12, hl_13, hs_13, hl_14, hs_14, hl_15, hs_15, hl_16, hs_16, hl_17, hs_17, ha_18, hg_18_0, hg_18_1, hg_18_2, hq_18_2, hg_18_3, hq_18_3, hl_19, hs_19, ha_20, hg_20_0, hg_20_1, ha_21, hg_21_0, hg_21_1, hg_21_2, hg_21_3, hg_21_4, hg_21_5, hg_21_6, hq_21_6, hg_21_7, hg_21_8, hg_21_9, hg_21_10, hq_21_10, hg_21_11, hq_21_11, hg_21_12, hq_21_12, hg_21_13, hq_21_13, hg_21_14, hq_21_14, hg_21_15, hq_21_15, hg_21_16, hq_21_16, hg_21_17, hq_21_17, ha_22, hg_22_0, hg_22_1, hg_22_2, hg_22_3, hg_22_4, hg_22_5, hg_22_6, hq_22_6, hg_22_7, hq_22_7, hg_22_8, hq_22_8, hl_23, hs_23, hl_24, hs_24, hl_25, hs_25, hl_26, hs_26, hl_27, hs_27, ha_28, hg_28_0, hg_28_1, hq_28_1, hl_29, hs_29, hl_30, hs_30, hl_31, hs_31, hl_32, hs_32, hl_33, hs_33, hl_34, hs_34, hl_35, hs_35, am_ld_cons, am_ld_nil, am_st1_cons, am_st1_nil, am_st2_cons, am_st2_nil, am_P1, am_P2, Value.category, am_add_add, am_add0, am_add_some, hi]
set_option maxRecDepth 100000 in
set_option maxHeartbeats 4000000 in
theorem h18b_stop (scr : Nat → Int32) (L F d : Nat) (I : am_I) (J : am_J) (Mx : am_I) (fv gv x : Int64) (n : Nat) (v : Int64) (i : Int32) (j : Nat) (hj : j < 200) (hi : i = nI j) (h : ¬ I 22 7 = 6) : h18b scr L F d I J Mx fv gv x v n i 80 (some (some (.long v), hp I J Mx, 0, 0)) := by
  have j1 : ¬ nI j < 0 := nI_pos (by omega)
  have j2 : (nI j).toNatClampNeg = j := nI_clamp (by omega)
  have j3 : ¬ 200 ≤ j := by omega
  intro f tl hf hk
  obtain ⟨g, rfl⟩ : ∃ g, f = g + 80 := ⟨f - 80, by omega⟩
  obtain ⟨tl1, e11, k11⟩ := kb_st hk
  have f1 := kb_f k11 (show 10 < 12 by omega)
  have f2 := kb_f2 k11 (show 8 + 1 < 12 by omega)
  have f4 := kb_f hk (show 10 < 11 by omega)
  rw [s_18_63]
  simp [s_18_0, s_18_1, s_18_3, s_18_4, s_18_8, s_18_11, s_18_14, s_18_16, s_18_19, s_18_22, s_18_23, s_18_26, s_18_28, s_18_30, s_18_33, s_18_34, s_18_35, s_18_38, s_18_39, s_18_42, s_18_44, s_18_45, s_18_46, s_18_48, s_18_51, s_18_54, s_18_55, s_18_57, s_18_59, s_18_60, s_18_61, s_18_65, s_18_68, s_18_69, s_18_72, s_18_74, s_18_77, s_18_78, s_18_81, s_18_83, s_18_84, s_18_86, s_18_87, s_18_89, s_18_90, s_18_93, s_18_96, s_18_97, s_18_100, s_18_102, s_18_103, s_18_104, s_18_105, s_18_108, s_18_111, s_18_112, s_18_115, s_18_117, s_18_118, s_18_119, s_18_120, s_18_123, s_18_125, s_18_126, s_18_129, s_18_131, s_18_134, s_18_137, s_18_139, ha_0, hg_0_0, hg_0_1, hg_0_2, hg_0_3, hg_0_4, hq_0_4, hg_0_5, hq_0_5, ha_1, hg_1_0, hg_1_1, hg_1_2, hg_1_3, hg_1_4, hg_1_5, hg_1_6, hg_1_7, hg_1_8, hg_1_9, hg_1_10, hg_1_11, hg_1_12, hq_1_12, ha_2, hg_2_0, hg_2_1, hg_2_2, hg_2_3, hg_2_4, hq_2_4, hl_3, hs_3, hl_4, hs_4, hl_5, hs_5, hl_6, hs_6, hl_7, hs_7, hl_8, hs_8, hl_9, hs_9, hl_10, hs_10, hl_11, hs_11, hl_12, hs_12, hl_13, hs_13, hl_14, hs_14, hl_15, hs_15, hl_16, hs_16, hl_17, hs_17, ha_18, hg_18_0, hg_18_1, hg_18_2, hq_18_2, hg_18_3, hq_18_3, hl_19, hs_19, ha_20, hg_20_0, hg_20_1, ha_21, hg_21_0, hg_21_1, hg_21_2, hg_21_3, hg_21_4, hg_21_5, hg_21_6, hq_21_6, hg_21_7, hg_21_8, hg_21_9, hg_21_10, hq_21_10, hg_21_11, hq_21_11, hg_21_12, hq_21_12, hg_21_13, hq_21_13, hg_21_14, hq_21_14, hg_21_15, hq_21_15, hg_21_16, hq_21_16, hg_21_17, hq_21_17, ha_22, hg_22_0, hg_22_1, hg_22_2, hg_22_3, hg_22_4, hg_22_5, hg_22_6, hq_22_6, hg_22_7, hq_22_7, hg_22_8, hq_22_8, hl_23, hs_23, hl_24, hs_24, hl_25, hs_25, hl_26, hs_26, hl_27, hs_27, ha_28, hg_28_0, hg_28_1, hq_28_1, hl_29, hs_29, hl_30, hs_30, hl_31, hs_31, hl_32, hs_32, hl_33, hs_33, hl_34, hs_34, hl_35, hs_35, am_ld_cons, am_ld_nil, am_st1_cons, am_st1_nil, am_st2_cons, am_st2_nil, am_P1, am_P2, Value.category, am_add_add, am_add0, am_add_some, hi, j1, h]
set_option maxRecDepth 100000 in
set_option maxHeartbeats 4000000 in
theorem h18b_go (scr : Nat → Int32) (L F d : Nat) (I : am_I) (J : am_J) (Mx : am_I) (fv gv x : Int64) (n : Nat) (v : Int64) (i : Int32) (j : Nat) (hj : j < 200) (hi : i = nI j) (h : I 22 7 = 6) (w a b : Nat) (h27 : I 27 j = nI w) (hw2 : w < 200) (h25 : I 25 w = nI b) (h24 : I 24 w = nI a) (hb : b < 105) (ha : a < 105) (y z lb : Int32) (h5b : I 5 b = y) (h5a : I 5 a = z) (h26 : I 26 w = lb) (v' : Int64) (I1 : am_I) (J1 : am_J) (kc : am_r scr L (F + 200000) (d + 6) 14 [.ref 23, .long v, .int z, .int y, .int lb] (hp I J Mx) = some (some (.long v'), hp I1 J1 Mx, 0, 0)) (N : Nat) (R : Option am_X) (key : h18b scr L F d I1 J1 Mx fv gv x v' n (nI j - 1) N R) : h18b scr L F d I J Mx fv gv x v n i (N + 80) R := by
  have j1 : ¬ nI j < 0 := nI_pos (by omega)
  have j2 : (nI j).toNatClampNeg = j := nI_clamp (by omega)
  have j3 : ¬ 200 ≤ j := by omega
  have w1 : ¬ nI w < 0 := nI_pos (by omega)
  have w2 : (nI w).toNatClampNeg = w := nI_clamp (by omega)
  have w3 : ¬ 200 ≤ w := by omega
  have a1 : ¬ nI a < 0 := nI_pos (by omega)
  have a2 : (nI a).toNatClampNeg = a := nI_clamp (by omega)
  have a3 : ¬ 105 ≤ a := by omega
  have b1 : ¬ nI b < 0 := nI_pos (by omega)
  have b2 : (nI b).toNatClampNeg = b := nI_clamp (by omega)
  have b3 : ¬ 105 ≤ b := by omega
  have ea := am1 (nI j)
  intro f tl hf hk
  obtain ⟨g, rfl⟩ : ∃ g, f = g + 80 := ⟨f - 80, by omega⟩
  obtain ⟨tl1, e11, k11⟩ := kb_st hk
  have f1 := kb_f k11 (show 10 < 12 by omega)
  have f2 := kb_f2 k11 (show 8 + 1 < 12 by omega)
  have f4 := kb_f hk (show 10 < 11 by omega)
  rw [s_18_63]
  simp [s_18_0, s_18_1, s_18_3, s_18_4, s_18_8, s_18_11, s_18_14, s_18_16, s_18_19, s_18_22, s_18_23, s_18_26, s_18_28, s_18_30, s_18_33, s_18_34, s_18_35, s_18_38, s_18_39, s_18_42, s_18_44, s_18_45, s_18_46, s_18_48, s_18_51, s_18_54, s_18_55, s_18_57, s_18_59, s_18_60, s_18_61, s_18_65, s_18_68, s_18_69, s_18_72, s_18_74, s_18_77, s_18_78, s_18_81, s_18_83, s_18_84, s_18_86, s_18_87, s_18_89, s_18_90, s_18_93, s_18_96, s_18_97, s_18_100, s_18_102, s_18_103, s_18_104, s_18_105, s_18_108, s_18_111, s_18_112, s_18_115, s_18_117, s_18_118, s_18_119, s_18_120, s_18_123, s_18_125, s_18_126, s_18_129, s_18_131, s_18_134, s_18_137, s_18_139, ha_0, hg_0_0, hg_0_1, hg_0_2, hg_0_3, hg_0_4, hq_0_4, hg_0_5, hq_0_5, ha_1, hg_1_0, hg_1_1, hg_1_2, hg_1_3, hg_1_4, hg_1_5, hg_1_6, hg_1_7, hg_1_8, hg_1_9, hg_1_10, hg_1_11, hg_1_12, hq_1_12, ha_2, hg_2_0, hg_2_1, hg_2_2, hg_2_3, hg_2_4, hq_2_4, hl_3, hs_3, hl_4, hs_4, hl_5, hs_5, hl_6, hs_6, hl_7, hs_7, hl_8, hs_8, hl_9, hs_9, hl_10, hs_10, hl_11, hs_11, hl_12, hs_12, hl_13, hs_13, hl_14, hs_14, hl_15, hs_15, hl_16, hs_16, hl_17, hs_17, ha_18, hg_18_0, hg_18_1, hg_18_2, hq_18_2, hg_18_3, hq_18_3, hl_19, hs_19, ha_20, hg_20_0, hg_20_1, ha_21, hg_21_0, hg_21_1, hg_21_2, hg_21_3, hg_21_4, hg_21_5, hg_21_6, hq_21_6, hg_21_7, hg_21_8, hg_21_9, hg_21_10, hq_21_10, hg_21_11, hq_21_11, hg_21_12, hq_21_12, hg_21_13, hq_21_13, hg_21_14, hq_21_14, hg_21_15, hq_21_15, hg_21_16, hq_21_16, hg_21_17, hq_21_17, ha_22, hg_22_0, hg_22_1, hg_22_2, hg_22_3, hg_22_4, hg_22_5, hg_22_6, hq_22_6, hg_22_7, hq_22_7, hg_22_8, hq_22_8, hl_23, hs_23, hl_24, hs_24, hl_25, hs_25, hl_26, hs_26, hl_27, hs_27, ha_28, hg_28_0, hg_28_1, hq_28_1, hl_29, hs_29, hl_30, hs_30, hl_31, hs_31, hl_32, hs_32, hl_33, hs_33, hl_34, hs_34, hl_35, hs_35, am_ld_cons, am_ld_nil, am_st1_cons, am_st1_nil, am_st2_cons, am_st2_nil, am_P1, am_P2, Value.category, am_add_add, am_add0, am_add_some, hi, j1, j2, j3, h, e11, f1, f2, f4, w1, w2, w3, a1, a2, a3, b1, b2, b3, h27, h25, h24, h5b, h5a, h26, kc, ea]
  exact key _ _ (by omega) (kb_cons (by omega) (kb_le (by omega) k11))
set_option maxRecDepth 100000 in
set_option maxHeartbeats 4000000 in
theorem c18_go (scr : Nat → Int32) (L F d : Nat) (I : Nat → Nat → Int32) (J : Nat → Nat → Int64) (M : Nat → Nat → Int32) (fv gv : Int64) (N : Nat) (R : Option am_X) (hN : N ≤ F + 199000) (key : h18 scr L F d I J M fv gv fv 0 N R) : am_r scr L (F + 200000) (d + 7) 18 [.ref 23, .long fv, .long gv] (hp I J M) = R := by
  unfold h18 at key
  rw [nI_0] at key
  simp [r_18, s_18_0, s_18_1, s_18_3, s_18_4, s_18_8, s_18_11, s_18_14, s_18_16, s_18_19, s_18_22, s_18_23, s_18_26, s_18_28, s_18_30, s_18_33, s_18_34, s_18_35, s_18_38, s_18_39, s_18_42, s_18_44, s_18_45, s_18_46, s_18_48, s_18_51, s_18_54, s_18_55, s_18_57, s_18_59, s_18_60, s_18_61, s_18_65, s_18_68, s_18_69, s_18_72, s_18_74, s_18_77, s_18_78, s_18_81, s_18_83, s_18_84, s_18_86, s_18_87, s_18_89, s_18_90, s_18_93, s_18_96, s_18_97, s_18_100, s_18_102, s_18_103, s_18_104, s_18_105, s_18_108, s_18_111, s_18_112, s_18_115, s_18_117, s_18_118, s_18_119, s_18_120, s_18_123, s_18_125, s_18_126, s_18_129, s_18_131, s_18_134, s_18_137, s_18_139, ha_0, hg_0_0, hg_0_1, hg_0_2, hg_0_3, hg_0_4, hq_0_4, hg_0_5, hq_0_5, ha_1, hg_1_0, hg_1_1, hg_1_2, hg_1_3, hg_1_4, hg_1_5, hg_1_6, hg_1_7, hg_1_8, hg_1_9, hg_1_10, hg_1_11, hg_1_12, hq_1_12, ha_2, hg_2_0, hg_2_1, hg_2_2, hg_2_3, hg_2_4, hq_2_4, hl_3, hs_3, hl_4, hs_4, hl_5, hs_5, hl_6, hs_6, hl_7, hs_7, hl_8, hs_8, hl_9, hs_9, hl_10, hs_10, hl_11, hs_11, hl_12, hs_12, hl_13, hs_13, hl_14, hs_14, hl_15, hs_15, hl_16, hs_16, hl_17, hs_17, ha_18, hg_18_0, hg_18_1, hg_18_2, hq_18_2, hg_18_3, hq_18_3, hl_19, hs_19, ha_20, hg_20_0, hg_20_1, ha_21, hg_21_0, hg_21_1, hg_21_2, hg_21_3, hg_21_4, hg_21_5, hg_21_6, hq_21_6, hg_21_7, hg_21_8, hg_21_9, hg_21_10, hq_21_10, hg_21_11, hq_21_11, hg_21_12, hq_21_12, hg_21_13, hq_21_13, hg_21_14, hq_21_14, hg_21_15, hq_21_15, hg_21_16, hq_21_16, hg_21_17, hq_21_17, ha_22, hg_22_0, hg_22_1, hg_22_2, hg_22_3, hg_22_4, hg_22_5, hg_22_6, hq_22_6, hg_22_7, hq_22_7, hg_22_8, hq_22_8, hl_23, hs_23, hl_24, hs_24, hl_25, hs_25, hl_26, hs_26, hl_27, hs_27, ha_28, hg_28_0, hg_28_1, hq_28_1, hl_29, hs_29, hl_30, hs_30, hl_31, hs_31, hl_32, hs_32, hl_33, hs_33, hl_34, hs_34, hl_35, hs_35, am_ld_cons, am_ld_nil, am_st1_cons, am_st1_nil, am_st2_cons, am_st2_nil, am_P1, am_P2, Value.category, am_add_add, am_add0, am_add_some]
  exact key _ (by omega)
def h8i (scr : Nat → Int32) (L F d : Nat) (Ix : am_I) (J : am_J) (M : am_I) (f0 v0 v n k N : Nat) (R : Option am_X) : Prop := ∀ (f : Nat) (tl : am_L), N ≤ f → kb 6 tl → am_f (d + 6) scr L (am_r scr L (F + 200000) (d + 6)) 118 f 12 ((0, .ref 37) :: (1, .int (nI f0)) :: (2, .int (nI v0)) :: (3, .int (nI v)) :: (4, .int (nI n)) :: (5, .int (nI k)) :: tl) [] (hp Ix J M) = R
def h9o (scr : Nat → Int32) (L F d : Nat) (Ix : am_I) (J : am_J) (M : am_I) (f0 v0 : Nat) (b : Int32) (v : Nat) (i : Int32) (N : Nat) (R : Option am_X) : Prop := ∀ (f : Nat) (tl : am_L), N ≤ f → kb 6 tl → am_f (d + 6) scr L (am_r scr L (F + 200000) (d + 6)) 119 f 12 ((0, .ref 37) :: (1, .int (nI f0)) :: (2, .int (nI v0)) :: (3, .int b) :: (4, .int (nI v)) :: (5, .int i) :: tl) [] (hp Ix J M) = R
set_option maxRecDepth 100000 in
set_option maxHeartbeats 4000000 in
theorem h8_end (scr : Nat → Int32) (L F d : Nat) (Ix : am_I) (J : am_J) (M : am_I) (f0 v0 v n k : Nat) (hk1 : k = n) (hn : n < 1000) : h8i scr L F d Ix J M f0 v0 v n k 80 (some (some (.int (nI v)), hp Ix J M, 0, 0)) := by
  subst hk1
  have e : nI k ≤ nI k := nI_le (by omega) (by omega)
  intro f tl hf hk
  obtain ⟨g, rfl⟩ : ∃ g, f = g + 80 := ⟨f - 80, by omega⟩
  obtain ⟨tl1, e6, k6⟩ := kb_st hk
  have f1 := kb_f k6 (show 5 < 7 by omega)
  have f2 := kb_f k6 (show 3 < 7 by omega)
  have f4 := kb_f hk (show 5 < 6 by omega)
  have f5 := kb_f k6 (show 4 < 7 by omega)
  rw [s_118_12]
  simp [s_118_0, s_118_1, s_118_2, s_118_3, s_118_4, s_118_7, s_118_9, s_118_10, s_118_14, s_118_16, s_118_19, s_118_20, s_118_23, s_118_26, s_118_27, s_118_28, s_118_30, s_118_33, s_118_35, s_118_36, s_118_37, s_118_38, s_118_41, s_118_42, s_118_45, s_118_47, s_118_48, s_118_49, s_118_50, s_118_53, s_118_54, s_118_57, s_118_59, s_118_60, s_118_61, s_118_62, s_118_65, s_118_67, s_118_68, s_118_69, s_118_70, s_118_73, s_118_74, s_118_77, s_118_80, s_118_81, ha_36, hg_36_0, hq_36_0, hg_36_1, hg_36_2, hq_36_2, hg_36_3, hg_36_4, hg_36_5, hg_36_6, hq_36_6, hg_36_7, hq_36_7, hg_36_8, hq_36_8, hg_36_9, hg_36_10, hg_36_11, hg_36_12, hg_36_13, hg_36_14, hg_36_15, hg_36_16, hg_36_17, hg_36_18, hq_36_18, hg_36_19, hg_36_20, hq_36_20, hg_36_21, hq_36_21, hg_36_22, hg_36_23, hq_36_23, hg_36_24, hg_36_25, hq_36_25, hg_36_26, hq_36_26, hg_36_27, hq_36_27, hg_36_28, hq_36_28, hg_36_29, hg_36_30, hg_36_31, hq_36_31, hg_36_32, hg_36_33, hg_36_34, hg_36_35, hq_36_35, hg_36_36, hg_36_37, hg_36_38, hg_36_39, hg_36_40, hq_36_40, hg_36_41, hg_36_42, hg_36_43, hg_36_44, hq_36_44, hg_36_45, hg_36_46, hg_36_47, hg_36_48, hg_36_49, hq_36_49, hg_36_50, hg_36_51, hq_36_51, hg_36_52, hq_36_52, hg_36_53, hq_36_53, hg_36_54, hq_36_54, hg_36_55, hq_36_55, hg_36_56, hq_36_56, hg_36_57, hg_36_58, hq_36_58, hg_36_59, hq_36_59, hg_36_60, hq_36_60, hg_36_61, hl_37, hs_37, hl_38, hs_38, hl_39, hs_39, hl_40, hs_40, hl_41, hs_41, hl_42, hs_42, hl_43, hs_43, hl_44, hs_44, hl_45, hs_45, hl_46, hs_46, hl_47, hs_47, hl_48, hs_48, hl_49, hs_49, hl_50, hs_50, hl_51, hs_51, hl_52, hs_52, hl_53, hs_53, hl_54, hs_54, hl_55, hs_55, hl_56, hs_56, hl_57, hs_57, hl_58, hs_58, hl_59, hs_59, hl_60, hs_60, hl_61, hs_61, hl_62, hs_62, hl_63, hs_63, hl_64, hs_64, hl_65, hs_65, hl_66, hs_66, hl_67, hs_67, hl_68, hs_68, hl_69, hs_69, hl_70, hs_70, hl_71, hs_71, am_ld_cons, am_ld_nil, am_st1_cons, am_st1_nil, am_st2_cons, am_st2_nil, am_P1, am_P2, Value.category, am_add_add, am_add0, am_add_some, e]
set_option maxRecDepth 100000 in
set_option maxHeartbeats 4000000 in
theorem h8_stop (scr : Nat → Int32) (L F d : Nat) (Ix : am_I) (J : am_J) (M : am_I) (f0 v0 v n k : Nat) (hkn : k < n) (hn : n < 1000) (h : ¬ M 36 51 = 0) : h8i scr L F d Ix J M f0 v0 v n k 80 (some (some (.int (nI v)), hp Ix J M, 0, 0)) := by
  have hl : ¬ nI n ≤ nI k := nI_ge hkn (by omega)
  have ek : nI k + 1 = nI (k + 1) := nI_1 k
  intro f tl hf hk
  obtain ⟨g, rfl⟩ : ∃ g, f = g + 80 := ⟨f - 80, by omega⟩
  obtain ⟨tl1, e6, k6⟩ := kb_st hk
  have f1 := kb_f k6 (show 5 < 7 by omega)
  have f2 := kb_f k6 (show 3 < 7 by omega)
  have f4 := kb_f hk (show 5 < 6 by omega)
  have f5 := kb_f k6 (show 4 < 7 by omega)
  rw [s_118_12]
  simp [s_118_0, s_118_1, s_118_2, s_118_3, s_118_4, s_118_7, s_118_9, s_118_10, s_118_14, s_118_16, s_118_19, s_118_20, s_118_23, s_118_26, s_118_27, s_118_28, s_118_30, s_118_33, s_118_35, s_118_36, s_118_37, s_118_38, s_118_41, s_118_42, s_118_45, s_118_47, s_118_48, s_118_49, s_118_50, s_118_53, s_118_54, s_118_57, s_118_59, s_118_60, s_118_61, s_118_62, s_118_65, s_118_67, s_118_68, s_118_69, s_118_70, s_118_73, s_118_74, s_118_77, s_118_80, s_118_81, ha_36, hg_36_0, hq_36_0, hg_36_1, hg_36_2, hq_36_2, hg_36_3, hg_36_4, hg_36_5, hg_36_6, hq_36_6, hg_36_7, hq_36_7, hg_36_8, hq_36_8, hg_36_9, hg_36_10, hg_36_11, hg_36_12, hg_36_13, hg_36_14, hg_36_15, hg_36_16, hg_36_17, hg_36_18, hq_36_18, hg_36_19, hg_36_20, hq_36_20, hg_36_21, hq_36_21, hg_36_22, hg_36_23, hq_36_23, hg_36_24, hg_36_25, hq_36_25, hg_36_26, hq_36_26, hg_36_27, hq_36_27, hg_36_28, hq_36_28, hg_36_29, hg_36_30, hg_36_31, hq_36_31, hg_36_32, hg_36_33, hg_36_34, hg_36_35, hq_36_35, hg_36_36, hg_36_37, hg_36_38, hg_36_39, hg_36_40, hq_36_40, hg_36_41, hg_36_42, hg_36_43, hg_36_44, hq_36_44, hg_36_45, hg_36_46, hg_36_47, hg_36_48, hg_36_49, hq_36_49, hg_36_50, hg_36_51, hq_36_51, hg_36_52, hq_36_52, hg_36_53, hq_36_53, hg_36_54, hq_36_54, hg_36_55, hq_36_55, hg_36_56, hq_36_56, hg_36_57, hg_36_58, hq_36_58, hg_36_59, hq_36_59, hg_36_60, hq_36_60, hg_36_61, hl_37, hs_37, hl_38, hs_38, hl_39, hs_39, hl_40, hs_40, hl_41, hs_41, hl_42, hs_42, hl_43, hs_43, hl_44, hs_44, hl_45, hs_45, hl_46, hs_46, hl_47, hs_47, hl_48, hs_48, hl_49, hs_49, hl_50, hs_50, hl_51, hs_51, hl_52, hs_52, hl_53, hs_53, hl_54, hs_54, hl_55, hs_55, hl_56, hs_56, hl_57, hs_57, hl_58, hs_58, hl_59, hs_59, hl_60, hs_60, hl_61, hs_61, hl_62, hs_62, hl_63, hs_63, hl_64, hs_64, hl_65, hs_65, hl_66, hs_66, hl_67, hs_67, hl_68, hs_68, hl_69, hs_69, hl_70, hs_70, hl_71, hs_71, am_ld_cons, am_ld_nil, am_st1_cons, am_st1_nil, am_st2_cons, am_st2_nil, am_P1, am_P2, Value.category, am_add_add, am_add0, am_add_some, hl, h]
set_option maxRecDepth 100000 in
set_option maxHeartbeats 4000000 in
theorem h8_go (scr : Nat → Int32) (L F d : Nat) (Ix : am_I) (J : am_J) (M : am_I) (f0 v0 v n k : Nat) (hkn : k < n) (hn : n < 1000) (h : M 36 51 = 0) (w a b : Nat) (kw : am_r scr L (F + 200000) (d + 6) 117 [.ref 37, .int (nI f0), .int (nI k)] (hp Ix J M) = some (some (.int (nI w)), hp Ix J M, 0, 0)) (hw2 : w < 200) (h60 : M 60 w = nI b) (h59 : M 59 w = nI a) (hb : b < 105) (ha : a < 105) (y z : Nat) (lb : Int32) (hy : M 39 b = nI y) (hz : M 39 a = nI z) (h61 : M 61 w = lb) (v' : Nat) (M1 : am_I) (kc : am_r scr L (F + 200000) (d + 6) 114 [.ref 37, .int (nI v), .int (nI y), .int (nI z), .int (lb ^^^ 1)] (hp Ix J M) = some (some (.int (nI v')), hp Ix J M1, 0, 0)) (N : Nat) (R : Option am_X) (key : h8i scr L F d Ix J M1 f0 v0 v' n (k + 1) N R) : h8i scr L F d Ix J M f0 v0 v n k (N + 80) R := by
  have hl : ¬ nI n ≤ nI k := nI_ge hkn (by omega)
  have ek : nI k + 1 = nI (k + 1) := nI_1 k
  have w1 : ¬ nI w < 0 := nI_pos (by omega)
  have w2 : (nI w).toNatClampNeg = w := nI_clamp (by omega)
  have w3 : ¬ 200 ≤ w := by omega
  have a1 : ¬ nI a < 0 := nI_pos (by omega)
  have a2 : (nI a).toNatClampNeg = a := nI_clamp (by omega)
  have a3 : ¬ 256 ≤ a := by omega
  have b1 : ¬ nI b < 0 := nI_pos (by omega)
  have b2 : (nI b).toNatClampNeg = b := nI_clamp (by omega)
  have b3 : ¬ 256 ≤ b := by omega
  intro f tl hf hk
  obtain ⟨g, rfl⟩ : ∃ g, f = g + 80 := ⟨f - 80, by omega⟩
  obtain ⟨tl1, e6, k6⟩ := kb_st hk
  have f1 := kb_f k6 (show 5 < 7 by omega)
  have f2 := kb_f k6 (show 3 < 7 by omega)
  have f4 := kb_f hk (show 5 < 6 by omega)
  have f5 := kb_f k6 (show 4 < 7 by omega)
  rw [s_118_12]
  simp [s_118_0, s_118_1, s_118_2, s_118_3, s_118_4, s_118_7, s_118_9, s_118_10, s_118_14, s_118_16, s_118_19, s_118_20, s_118_23, s_118_26, s_118_27, s_118_28, s_118_30, s_118_33, s_118_35, s_118_36, s_118_37, s_118_38, s_118_41, s_118_42, s_118_45, s_118_47, s_118_48, s_118_49, s_118_50, s_118_53, s_118_54, s_118_57, s_118_59, s_118_60, s_118_61, s_118_62, s_118_65, s_118_67, s_118_68, s_118_69, s_118_70, s_118_73, s_118_74, s_118_77, s_118_80, s_118_81, ha_36, hg_36_0, hq_36_0, hg_36_1, hg_36_2, hq_36_2, hg_36_3, hg_36_4, hg_36_5, hg_36_6, hq_36_6, hg_36_7, hq_36_7, hg_36_8, hq_36_8, hg_36_9, hg_36_10, hg_36_11, hg_36_12, hg_36_13, hg_36_14, hg_36_15, hg_36_16, hg_36_17, hg_36_18, hq_36_18, hg_36_19, hg_36_20, hq_36_20, hg_36_21, hq_36_21, hg_36_22, hg_36_23, hq_36_23, hg_36_24, hg_36_25, hq_36_25, hg_36_26, hq_36_26, hg_36_27, hq_36_27, hg_36_28, hq_36_28, hg_36_29, hg_36_30, hg_36_31, hq_36_31, hg_36_32, hg_36_33, hg_36_34, hg_36_35, hq_36_35, hg_36_36, hg_36_37, hg_36_38, hg_36_39, hg_36_40, hq_36_40, hg_36_41, hg_36_42, hg_36_43, hg_36_44, hq_36_44, hg_36_45, hg_36_46, hg_36_47, hg_36_48, hg_36_49, hq_36_49, hg_36_50, hg_36_51, hq_36_51, hg_36_52, hq_36_52, hg_36_53, hq_36_53, hg_36_54, hq_36_54, hg_36_55, hq_36_55, hg_36_56, hq_36_56, hg_36_57, hg_36_58, hq_36_58, hg_36_59, hq_36_59, hg_36_60, hq_36_60, hg_36_61, hl_37, hs_37, hl_38, hs_38, hl_39, hs_39, hl_40, hs_40, hl_41, hs_41, hl_42, hs_42, hl_43, hs_43, hl_44, hs_44, hl_45, hs_45, hl_46, hs_46, hl_47, hs_47, hl_48, hs_48, hl_49, hs_49, hl_50, hs_50, hl_51, hs_51, hl_52, hs_52, hl_53, hs_53, hl_54, hs_54, hl_55, hs_55, hl_56, hs_56, hl_57, hs_57, hl_58, hs_58, hl_59, hs_59, hl_60, hs_60, hl_61, hs_61, hl_62, hs_62, hl_63, hs_63, hl_64, hs_64, hl_65, hs_65, hl_66, hs_66, hl_67, hs_67, hl_68, hs_68, hl_69, hs_69, hl_70, hs_70, hl_71, hs_71, am_ld_cons, am_ld_nil, am_st1_cons, am_st1_nil, am_st2_cons, am_st2_nil, am_P1, am_P2, Value.category, am_add_add, am_add0, am_add_some, hl, ek, h, kw, e6, f1, f2, f4, f5, w1, w2, w3, a1, a2, a3, b1, b2, b3, h60, h59, hy, hz, h61, kc]
  exact key _ _ (by omega) (kb_cons (by omega) (kb_le (by omega) k6))
set_option maxRecDepth 100000 in
set_option maxHeartbeats 4000000 in
theorem r118_go (scr : Nat → Int32) (L F d : Nat) (I : Nat → Nat → Int32) (J : Nat → Nat → Int64) (M : Nat → Nat → Int32) (f0 v0 n N : Nat) (R : Option am_X) (hN : N ≤ F + 199000) (kd : am_r scr L (F + 200000) (d + 6) 116 [.ref 37, .int (nI f0)] (hp I J M) = some (some (.int (nI n)), hp I J M, 0, 0)) (key : h8i scr L F d I J M f0 v0 v0 n 0 N R) : am_r scr L (F + 200000) (d + 7) 118 [.ref 37, .int (nI f0), .int (nI v0)] (hp I J M) = R := by
  unfold h8i at key
  rw [nI_0] at key
  simp [r_118, s_118_0, s_118_1, s_118_2, s_118_3, s_118_4, s_118_7, s_118_9, s_118_10, s_118_14, s_118_16, s_118_19, s_118_20, s_118_23, s_118_26, s_118_27, s_118_28, s_118_30, s_118_33, s_118_35, s_118_36, s_118_37, s_118_38, s_118_41, s_118_42, s_118_45, s_118_47, s_118_48, s_118_49, s_118_50, s_118_53, s_118_54, s_118_57, s_118_59, s_118_60, s_118_61, s_118_62, s_118_65, s_118_67, s_118_68, s_118_69, s_118_70, s_118_73, s_118_74, s_118_77, s_118_80, s_118_81, ha_36, hg_36_0, hq_36_0, hg_36_1, hg_36_2, hq_36_2, hg_36_3, hg_36_4, hg_36_5, hg_36_6, hq_36_6, hg_36_7, hq_36_7, hg_36_8, hq_36_8, hg_36_9, hg_36_10, hg_36_11, hg_36_12, hg_36_13, hg_36_14, hg_36_15, hg_36_16, hg_36_17, hg_36_18, hq_36_18, hg_36_19, hg_36_20, hq_36_20, hg_36_21, hq_36_21, hg_36_22, hg_36_23, hq_36_23, hg_36_24, hg_36_25, hq_36_25, hg_36_26, hq_36_26, hg_36_27, hq_36_27, hg_36_28, hq_36_28, hg_36_29, hg_36_30, hg_36_31, hq_36_31, hg_36_32, hg_36_33, hg_36_34, hg_36_35, hq_36_35, hg_36_36, hg_36_37, hg_36_38, hg_36_39, hg_36_40, hq_36_40, hg_36_41, hg_36_42, hg_36_43, hg_36_44, hq_36_44, hg_36_45, hg_36_46, hg_36_47, hg_36_48, hg_36_49, hq_36_49, hg_36_50, hg_36_51, hq_36_51, hg_36_52, hq_36_52, hg_36_53, hq_36_53, hg_36_54, hq_36_54, hg_36_55, hq_36_55, hg_36_56, hq_36_56, hg_36_57, hg_36_58, hq_36_58, hg_36_59, hq_36_59, hg_36_60, hq_36_60, hg_36_61, hl_37, hs_37, hl_38, hs_38, hl_39, hs_39, hl_40, hs_40, hl_41, hs_41, hl_42, hs_42, hl_43, hs_43, hl_44, hs_44, hl_45, hs_45, hl_46, hs_46, hl_47, hs_47, hl_48, hs_48, hl_49, hs_49, hl_50, hs_50, hl_51, hs_51, hl_52, hs_52, hl_53, hs_53, hl_54, hs_54, hl_55, hs_55, hl_56, hs_56, hl_57, hs_57, hl_58, hs_58, hl_59, hs_59, hl_60, hs_60, hl_61, hs_61, hl_62, hs_62, hl_63, hs_63, hl_64, hs_64, hl_65, hs_65, hl_66, hs_66, hl_67, hs_67, hl_68, hs_68, hl_69, hs_69, hl_70, hs_70, hl_71, hs_71, am_ld_cons, am_ld_nil, am_st1_cons, am_st1_nil, am_st2_cons, am_st2_nil, am_P1, am_P2, Value.category, am_add_add, am_add0, am_add_some, kd]
  exact key _ _ (by omega) (kb_nil 6)
set_option maxRecDepth 100000 in
set_option maxHeartbeats 4000000 in
theorem h9_end (scr : Nat → Int32) (L F d : Nat) (Ix : am_I) (J : am_J) (M : am_I) (f0 v0 : Nat) (b0 : Int32) (v : Nat) (i : Int32) (hi : i = -1) : h9o scr L F d Ix J M f0 v0 b0 v i 80 (some (some (.int (nI v)), hp Ix J M, 0, 0)) := by
  intro f tl hf hk
  obtain ⟨g, rfl⟩ : ∃ g, f = g + 80 := ⟨f - 80, by omega⟩
  obtain ⟨tl1, e6, k6⟩ := kb_st hk
  have f1 := kb_f k6 (show 5 < 7 by omega)
  have f2 := kb_f k6 (show 3 < 7 by omega)
  have f4 := kb_f hk (show 5 < 6 by omega)
  have f5 := kb_f k6 (show 4 < 7 by omega)
  rw [s_119_12]
  simp [s_119_0, s_119_1, s_119_3, s_119_4, s_119_5, s_119_8, s_119_9, s_119_10, s_119_14, s_119_17, s_119_18, s_119_21, s_119_24, s_119_25, s_119_26, s_119_28, s_119_31, s_119_33, s_119_34, s_119_37, s_119_38, s_119_40, s_119_41, s_119_44, s_119_45, s_119_48, s_119_50, s_119_51, s_119_52, s_119_53, s_119_56, s_119_57, s_119_60, s_119_62, s_119_63, s_119_64, s_119_65, s_119_68, s_119_70, s_119_71, s_119_74, s_119_77, s_119_78, s_119_80, s_119_81, s_119_84, s_119_85, s_119_88, s_119_90, s_119_91, s_119_92, s_119_93, s_119_96, s_119_97, s_119_100, s_119_102, s_119_103, s_119_104, s_119_105, s_119_108, s_119_110, s_119_111, s_119_114, s_119_116, s_119_119, s_119_122, s_119_124, ha_36, hg_36_0, hq_36_0, hg_36_1, hg_36_2, hq_36_2, hg_36_3, hg_36_4, hg_36_5, hg_36_6, hq_36_6, hg_36_7, hq_36_7, hg_36_8, hq_36_8, hg_36_9, hg_36_10, hg_36_11, hg_36_12, hg_36_13, hg_36_14, hg_36_15, hg_36_16, hg_36_17, hg_36_18, hq_36_18, hg_36_19, hg_36_20, hq_36_20, hg_36_21, hq_36_21, hg_36_22, hg_36_23, hq_36_23, hg_36_24, hg_36_25, hq_36_25, hg_36_26, hq_36_26, hg_36_27, hq_36_27, hg_36_28, hq_36_28, hg_36_29, hg_36_30, hg_36_31, hq_36_31, hg_36_32, hg_36_33, hg_36_34, hg_36_35, hq_36_35, hg_36_36, hg_36_37, hg_36_38, hg_36_39, hg_36_40, hq_36_40, hg_36_41, hg_36_42, hg_36_43, hg_36_44, hq_36_44, hg_36_45, hg_36_46, hg_36_47, hg_36_48, hg_36_49, hq_36_49, hg_36_50, hg_36_51, hq_36_51, hg_36_52, hq_36_52, hg_36_53, hq_36_53, hg_36_54, hq_36_54, hg_36_55, hq_36_55, hg_36_56, hq_36_56, hg_36_57, hg_36_58, hq_36_58, hg_36_59, hq_36_59, hg_36_60, hq_36_60, hg_36_61, hl_37, hs_37, hl_38, hs_38, hl_39, hs_39, hl_40, hs_40, hl_41, hs_41, hl_42, hs_42, hl_43, hs_43, hl_44, hs_44, hl_45, hs_45, hl_46, hs_46, hl_47, hs_47, hl_48, hs_48, hl_49, hs_49, hl_50, hs_50, hl_51, hs_51, hl_52, hs_52, hl_53, hs_53, hl_54, hs_54, hl_55, hs_55, hl_56, hs_56, hl_57, hs_57, hl_58, hs_58, hl_59, hs_59, hl_60, hs_60, hl_61, hs_61, hl_62, hs_62, hl_63, hs_63, hl_64, hs_64, hl_65, hs_65, hl_66, hs_66, hl_67, hs_67, hl_68, hs_68, hl_69, hs_69, hl_70, hs_70, hl_71, hs_71, am_ld_cons, am_ld_nil, am_st1_cons, am_st1_nil, am_st2_cons, am_st2_nil, am_P1, am_P2, Value.category, am_add_add, am_add0, am_add_some, hi]
set_option maxRecDepth 100000 in
set_option maxHeartbeats 4000000 in
theorem h9_stop (scr : Nat → Int32) (L F d : Nat) (Ix : am_I) (J : am_J) (M : am_I) (f0 v0 : Nat) (b0 : Int32) (v : Nat) (i : Int32) (j : Nat) (hj : j < 1000) (hi : i = nI j) (h : ¬ M 36 51 = 0) : h9o scr L F d Ix J M f0 v0 b0 v i 80 (some (some (.int (nI v)), hp Ix J M, 0, 0)) := by
  have j1 : ¬ nI j < 0 := nI_pos (by omega)
  intro f tl hf hk
  obtain ⟨g, rfl⟩ : ∃ g, f = g + 80 := ⟨f - 80, by omega⟩
  obtain ⟨tl1, e6, k6⟩ := kb_st hk
  have f1 := kb_f k6 (show 5 < 7 by omega)
  have f2 := kb_f k6 (show 3 < 7 by omega)
  have f4 := kb_f hk (show 5 < 6 by omega)
  have f5 := kb_f k6 (show 4 < 7 by omega)
  rw [s_119_12]
  simp [s_119_0, s_119_1, s_119_3, s_119_4, s_119_5, s_119_8, s_119_9, s_119_10, s_119_14, s_119_17, s_119_18, s_119_21, s_119_24, s_119_25, s_119_26, s_119_28, s_119_31, s_119_33, s_119_34, s_119_37, s_119_38, s_119_40, s_119_41, s_119_44, s_119_45, s_119_48, s_119_50, s_119_51, s_119_52, s_119_53, s_119_56, s_119_57, s_119_60, s_119_62, s_119_63, s_119_64, s_119_65, s_119_68, s_119_70, s_119_71, s_119_74, s_119_77, s_119_78, s_119_80, s_119_81, s_119_84, s_119_85, s_119_88, s_119_90, s_119_91, s_119_92, s_119_93, s_119_96, s_119_97, s_119_100, s_119_102, s_119_103, s_119_104, s_119_105, s_119_108, s_119_110, s_119_111, s_119_114, s_119_116, s_119_119, s_119_122, s_119_124, ha_36, hg_36_0, hq_36_0, hg_36_1, hg_36_2, hq_36_2, hg_36_3, hg_36_4, hg_36_5, hg_36_6, hq_36_6, hg_36_7, hq_36_7, hg_36_8, hq_36_8, hg_36_9, hg_36_10, hg_36_11, hg_36_12, hg_36_13, hg_36_14, hg_36_15, hg_36_16, hg_36_17, hg_36_18, hq_36_18, hg_36_19, hg_36_20, hq_36_20, hg_36_21, hq_36_21, hg_36_22, hg_36_23, hq_36_23, hg_36_24, hg_36_25, hq_36_25, hg_36_26, hq_36_26, hg_36_27, hq_36_27, hg_36_28, hq_36_28, hg_36_29, hg_36_30, hg_36_31, hq_36_31, hg_36_32, hg_36_33, hg_36_34, hg_36_35, hq_36_35, hg_36_36, hg_36_37, hg_36_38, hg_36_39, hg_36_40, hq_36_40, hg_36_41, hg_36_42, hg_36_43, hg_36_44, hq_36_44, hg_36_45, hg_36_46, hg_36_47, hg_36_48, hg_36_49, hq_36_49, hg_36_50, hg_36_51, hq_36_51, hg_36_52, hq_36_52, hg_36_53, hq_36_53, hg_36_54, hq_36_54, hg_36_55, hq_36_55, hg_36_56, hq_36_56, hg_36_57, hg_36_58, hq_36_58, hg_36_59, hq_36_59, hg_36_60, hq_36_60, hg_36_61, hl_37, hs_37, hl_38, hs_38, hl_39, hs_39, hl_40, hs_40, hl_41, hs_41, hl_42, hs_42, hl_43, hs_43, hl_44, hs_44, hl_45, hs_45, hl_46, hs_46, hl_47, hs_47, hl_48, hs_48, hl_49, hs_49, hl_50, hs_50, hl_51, hs_51, hl_52, hs_52, hl_53, hs_53, hl_54, hs_54, hl_55, hs_55, hl_56, hs_56, hl_57, hs_57, hl_58, hs_58, hl_59, hs_59, hl_60, hs_60, hl_61, hs_61, hl_62, hs_62, hl_63, hs_63, hl_64, hs_64, hl_65, hs_65, hl_66, hs_66, hl_67, hs_67, hl_68, hs_68, hl_69, hs_69, hl_70, hs_70, hl_71, hs_71, am_ld_cons, am_ld_nil, am_st1_cons, am_st1_nil, am_st2_cons, am_st2_nil, am_P1, am_P2, Value.category, am_add_add, am_add0, am_add_some, hi, j1, h]
set_option maxRecDepth 100000 in
set_option maxHeartbeats 4000000 in
theorem h9_go_f (scr : Nat → Int32) (L F d : Nat) (Ix : am_I) (J : am_J) (M : am_I) (f0 v0 : Nat) (b0 : Int32) (v : Nat) (i : Int32) (hb0 : b0 = 1) (j : Nat) (hj : j < 1000) (hi : i = nI j) (h : M 36 51 = 0) (w a b : Nat) (kw : am_r scr L (F + 200000) (d + 6) 117 [.ref 37, .int (nI f0), .int (nI j)] (hp Ix J M) = some (some (.int (nI w)), hp Ix J M, 0, 0)) (hw2 : w < 200) (h60 : M 60 w = nI b) (h59 : M 59 w = nI a) (hb : b < 105) (ha : a < 105) (y z : Nat) (lb : Int32) (hy : M 40 b = nI y) (hz : M 40 a = nI z) (h61 : M 61 w = lb) (v' : Nat) (M1 : am_I) (kc : am_r scr L (F + 200000) (d + 6) 114 [.ref 37, .int (nI v), .int (nI z), .int (nI y), .int lb] (hp Ix J M) = some (some (.int (nI v')), hp Ix J M1, 0, 0)) (N : Nat) (R : Option am_X) (key : h9o scr L F d Ix J M1 f0 v0 b0 v' (nI j - 1) N R) : h9o scr L F d Ix J M f0 v0 b0 v i (N + 80) R := by
  have j1 : ¬ nI j < 0 := nI_pos (by omega)
  have ea := am1 (nI j)
  subst hb0
  have w1 : ¬ nI w < 0 := nI_pos (by omega)
  have w2 : (nI w).toNatClampNeg = w := nI_clamp (by omega)
  have w3 : ¬ 200 ≤ w := by omega
  have a1 : ¬ nI a < 0 := nI_pos (by omega)
  have a2 : (nI a).toNatClampNeg = a := nI_clamp (by omega)
  have a3 : ¬ 256 ≤ a := by omega
  have b1 : ¬ nI b < 0 := nI_pos (by omega)
  have b2 : (nI b).toNatClampNeg = b := nI_clamp (by omega)
  have b3 : ¬ 256 ≤ b := by omega
  intro f tl hf hk
  obtain ⟨g, rfl⟩ : ∃ g, f = g + 80 := ⟨f - 80, by omega⟩
  obtain ⟨tl1, e6, k6⟩ := kb_st hk
  have f1 := kb_f k6 (show 5 < 7 by omega)
  have f2 := kb_f k6 (show 3 < 7 by omega)
  have f4 := kb_f hk (show 5 < 6 by omega)
  have f5 := kb_f k6 (show 4 < 7 by omega)
  rw [s_119_12]
  simp [s_119_0, s_119_1, s_119_3, s_119_4, s_119_5, s_119_8, s_119_9, s_119_10, s_119_14, s_119_17, s_119_18, s_119_21, s_119_24, s_119_25, s_119_26, s_119_28, s_119_31, s_119_33, s_119_34, s_119_37, s_119_38, s_119_40, s_119_41, s_119_44, s_119_45, s_119_48, s_119_50, s_119_51, s_119_52, s_119_53, s_119_56, s_119_57, s_119_60, s_119_62, s_119_63, s_119_64, s_119_65, s_119_68, s_119_70, s_119_71, s_119_74, s_119_77, s_119_78, s_119_80, s_119_81, s_119_84, s_119_85, s_119_88, s_119_90, s_119_91, s_119_92, s_119_93, s_119_96, s_119_97, s_119_100, s_119_102, s_119_103, s_119_104, s_119_105, s_119_108, s_119_110, s_119_111, s_119_114, s_119_116, s_119_119, s_119_122, s_119_124, ha_36, hg_36_0, hq_36_0, hg_36_1, hg_36_2, hq_36_2, hg_36_3, hg_36_4, hg_36_5, hg_36_6, hq_36_6, hg_36_7, hq_36_7, hg_36_8, hq_36_8, hg_36_9, hg_36_10, hg_36_11, hg_36_12, hg_36_13, hg_36_14, hg_36_15, hg_36_16, hg_36_17, hg_36_18, hq_36_18, hg_36_19, hg_36_20, hq_36_20, hg_36_21, hq_36_21, hg_36_22, hg_36_23, hq_36_23, hg_36_24, hg_36_25, hq_36_25, hg_36_26, hq_36_26, hg_36_27, hq_36_27, hg_36_28, hq_36_28, hg_36_29, hg_36_30, hg_36_31, hq_36_31, hg_36_32, hg_36_33, hg_36_34, hg_36_35, hq_36_35, hg_36_36, hg_36_37, hg_36_38, hg_36_39, hg_36_40, hq_36_40, hg_36_41, hg_36_42, hg_36_43, hg_36_44, hq_36_44, hg_36_45, hg_36_46, hg_36_47, hg_36_48, hg_36_49, hq_36_49, hg_36_50, hg_36_51, hq_36_51, hg_36_52, hq_36_52, hg_36_53, hq_36_53, hg_36_54, hq_36_54, hg_36_55, hq_36_55, hg_36_56, hq_36_56, hg_36_57, hg_36_58, hq_36_58, hg_36_59, hq_36_59, hg_36_60, hq_36_60, hg_36_61, hl_37, hs_37, hl_38, hs_38, hl_39, hs_39, hl_40, hs_40, hl_41, hs_41, hl_42, hs_42, hl_43, hs_43, hl_44, hs_44, hl_45, hs_45, hl_46, hs_46, hl_47, hs_47, hl_48, hs_48, hl_49, hs_49, hl_50, hs_50, hl_51, hs_51, hl_52, hs_52, hl_53, hs_53, hl_54, hs_54, hl_55, hs_55, hl_56, hs_56, hl_57, hs_57, hl_58, hs_58, hl_59, hs_59, hl_60, hs_60, hl_61, hs_61, hl_62, hs_62, hl_63, hs_63, hl_64, hs_64, hl_65, hs_65, hl_66, hs_66, hl_67, hs_67, hl_68, hs_68, hl_69, hs_69, hl_70, hs_70, hl_71, hs_71, am_ld_cons, am_ld_nil, am_st1_cons, am_st1_nil, am_st2_cons, am_st2_nil, am_P1, am_P2, Value.category, am_add_add, am_add0, am_add_some, hi, j1, h, kw, e6, f1, f2, f4, f5, w1, w2, w3, a1, a2, a3, b1, b2, b3, h60, h59, hy, hz, h61, kc, ea]
  exact key _ _ (by omega) (kb_cons (by omega) (kb_le (by omega) k6))
set_option maxRecDepth 100000 in
set_option maxHeartbeats 4000000 in
theorem h9_go_c (scr : Nat → Int32) (L F d : Nat) (Ix : am_I) (J : am_J) (M : am_I) (f0 v0 : Nat) (b0 : Int32) (v : Nat) (i : Int32) (hb0 : b0 = 0) (j : Nat) (hj : j < 1000) (hi : i = nI j) (h : M 36 51 = 0) (w a b : Nat) (kw : am_r scr L (F + 200000) (d + 6) 117 [.ref 37, .int (nI f0), .int (nI j)] (hp Ix J M) = some (some (.int (nI w)), hp Ix J M, 0, 0)) (hw2 : w < 200) (h60 : M 60 w = nI b) (h59 : M 59 w = nI a) (hb : b < 105) (ha : a < 105) (y z : Nat) (lb : Int32) (hy : M 39 b = nI y) (hz : M 39 a = nI z) (h61 : M 61 w = lb) (v' : Nat) (M1 : am_I) (kc : am_r scr L (F + 200000) (d + 6) 114 [.ref 37, .int (nI v), .int (nI z), .int (nI y), .int lb] (hp Ix J M) = some (some (.int (nI v')), hp Ix J M1, 0, 0)) (N : Nat) (R : Option am_X) (key : h9o scr L F d Ix J M1 f0 v0 b0 v' (nI j - 1) N R) : h9o scr L F d Ix J M f0 v0 b0 v i (N + 80) R := by
  have j1 : ¬ nI j < 0 := nI_pos (by omega)
  have ea := am1 (nI j)
  subst hb0
  have w1 : ¬ nI w < 0 := nI_pos (by omega)
  have w2 : (nI w).toNatClampNeg = w := nI_clamp (by omega)
  have w3 : ¬ 200 ≤ w := by omega
  have a1 : ¬ nI a < 0 := nI_pos (by omega)
  have a2 : (nI a).toNatClampNeg = a := nI_clamp (by omega)
  have a3 : ¬ 256 ≤ a := by omega
  have b1 : ¬ nI b < 0 := nI_pos (by omega)
  have b2 : (nI b).toNatClampNeg = b := nI_clamp (by omega)
  have b3 : ¬ 256 ≤ b := by omega
  intro f tl hf hk
  obtain ⟨g, rfl⟩ : ∃ g, f = g + 80 := ⟨f - 80, by omega⟩
  obtain ⟨tl1, e6, k6⟩ := kb_st hk
  have f1 := kb_f k6 (show 5 < 7 by omega)
  have f2 := kb_f k6 (show 3 < 7 by omega)
  have f4 := kb_f hk (show 5 < 6 by omega)
  have f5 := kb_f k6 (show 4 < 7 by omega)
  rw [s_119_12]
  simp [s_119_0, s_119_1, s_119_3, s_119_4, s_119_5, s_119_8, s_119_9, s_119_10, s_119_14, s_119_17, s_119_18, s_119_21, s_119_24, s_119_25, s_119_26, s_119_28, s_119_31, s_119_33, s_119_34, s_119_37, s_119_38, s_119_40, s_119_41, s_119_44, s_119_45, s_119_48, s_119_50, s_119_51, s_119_52, s_119_53, s_119_56, s_119_57, s_119_60, s_119_62, s_119_63, s_119_64, s_119_65, s_119_68, s_119_70, s_119_71, s_119_74, s_119_77, s_119_78, s_119_80, s_119_81, s_119_84, s_119_85, s_119_88, s_119_90, s_119_91, s_119_92, s_119_93, s_119_96, s_119_97, s_119_100, s_119_102, s_119_103, s_119_104, s_119_105, s_119_108, s_119_110, s_119_111, s_119_114, s_119_116, s_119_119, s_119_122, s_119_124, ha_36, hg_36_0, hq_36_0, hg_36_1, hg_36_2, hq_36_2, hg_36_3, hg_36_4, hg_36_5, hg_36_6, hq_36_6, hg_36_7, hq_36_7, hg_36_8, hq_36_8, hg_36_9, hg_36_10, hg_36_11, hg_36_12, hg_36_13, hg_36_14, hg_36_15, hg_36_16, hg_36_17, hg_36_18, hq_36_18, hg_36_19, hg_36_20, hq_36_20, hg_36_21, hq_36_21, hg_36_22, hg_36_23, hq_36_23, hg_36_24, hg_36_25, hq_36_25, hg_36_26, hq_36_26, hg_36_27, hq_36_27, hg_36_28, hq_36_28, hg_36_29, hg_36_30, hg_36_31, hq_36_31, hg_36_32, hg_36_33, hg_36_34, hg_36_35, hq_36_35, hg_36_36, hg_36_37, hg_36_38, hg_36_39, hg_36_40, hq_36_40, hg_36_41, hg_36_42, hg_36_43, hg_36_44, hq_36_44, hg_36_45, hg_36_46, hg_36_47, hg_36_48, hg_36_49, hq_36_49, hg_36_50, hg_36_51, hq_36_51, hg_36_52, hq_36_52, hg_36_53, hq_36_53, hg_36_54, hq_36_54, hg_36_55, hq_36_55, hg_36_56, hq_36_56, hg_36_57, hg_36_58, hq_36_58, hg_36_59, hq_36_59, hg_36_60, hq_36_60, hg_36_61, hl_37, hs_37, hl_38, hs_38, hl_39, hs_39, hl_40, hs_40, hl_41, hs_41, hl_42, hs_42, hl_43, hs_43, hl_44, hs_44, hl_45, hs_45, hl_46, hs_46, hl_47, hs_47, hl_48, hs_48, hl_49, hs_49, hl_50, hs_50, hl_51, hs_51, hl_52, hs_52, hl_53, hs_53, hl_54, hs_54, hl_55, hs_55, hl_56, hs_56, hl_57, hs_57, hl_58, hs_58, hl_59, hs_59, hl_60, hs_60, hl_61, hs_61, hl_62, hs_62, hl_63, hs_63, hl_64, hs_64, hl_65, hs_65, hl_66, hs_66, hl_67, hs_67, hl_68, hs_68, hl_69, hs_69, hl_70, hs_70, hl_71, hs_71, am_ld_cons, am_ld_nil, am_st1_cons, am_st1_nil, am_st2_cons, am_st2_nil, am_P1, am_P2, Value.category, am_add_add, am_add0, am_add_some, hi, j1, h, kw, e6, f1, f2, f4, f5, w1, w2, w3, a1, a2, a3, b1, b2, b3, h60, h59, hy, hz, h61, kc, ea]
  exact key _ _ (by omega) (kb_cons (by omega) (kb_le (by omega) k6))
set_option maxRecDepth 100000 in
set_option maxHeartbeats 4000000 in
theorem r119_go (scr : Nat → Int32) (L F d : Nat) (I : Nat → Nat → Int32) (J : Nat → Nat → Int64) (M : Nat → Nat → Int32) (f0 v0 n N : Nat) (b0 : Int32) (R : Option am_X) (hN : N ≤ F + 199000) (kd : am_r scr L (F + 200000) (d + 6) 116 [.ref 37, .int (nI f0)] (hp I J M) = some (some (.int (nI n)), hp I J M, 0, 0)) (key : h9o scr L F d I J M f0 v0 b0 v0 (nI n - 1) N R) : am_r scr L (F + 200000) (d + 7) 119 [.ref 37, .int (nI f0), .int (nI v0), .int b0] (hp I J M) = R := by
  unfold h9o at key
  simp [r_119, s_119_0, s_119_1, s_119_3, s_119_4, s_119_5, s_119_8, s_119_9, s_119_10, s_119_14, s_119_17, s_119_18, s_119_21, s_119_24, s_119_25, s_119_26, s_119_28, s_119_31, s_119_33, s_119_34, s_119_37, s_119_38, s_119_40, s_119_41, s_119_44, s_119_45, s_119_48, s_119_50, s_119_51, s_119_52, s_119_53, s_119_56, s_119_57, s_119_60, s_119_62, s_119_63, s_119_64, s_119_65, s_119_68, s_119_70, s_119_71, s_119_74, s_119_77, s_119_78, s_119_80, s_119_81, s_119_84, s_119_85, s_119_88, s_119_90, s_119_91, s_119_92, s_119_93, s_119_96, s_119_97, s_119_100, s_119_102, s_119_103, s_119_104, s_119_105, s_119_108, s_119_110, s_119_111, s_119_114, s_119_116, s_119_119, s_119_122, s_119_124, ha_36, hg_36_0, hq_36_0, hg_36_1, hg_36_2, hq_36_2, hg_36_3, hg_36_4, hg_36_5, hg_36_6, hq_36_6, hg_36_7, hq_36_7, hg_36_8, hq_36_8, hg_36_9, hg_36_10, hg_36_11, hg_36_12, hg_36_13, hg_36_14, hg_36_15, hg_36_16, hg_36_17, hg_36_18, hq_36_18, hg_36_19, hg_36_20, hq_36_20, hg_36_21, hq_36_21, hg_36_22, hg_36_23, hq_36_23, hg_36_24, hg_36_25, hq_36_25, hg_36_26, hq_36_26, hg_36_27, hq_36_27, hg_36_28, hq_36_28, hg_36_29, hg_36_30, hg_36_31, hq_36_31, hg_36_32, hg_36_33, hg_36_34, hg_36_35, hq_36_35, hg_36_36, hg_36_37, hg_36_38, hg_36_39, hg_36_40, hq_36_40, hg_36_41, hg_36_42, hg_36_43, hg_36_44, hq_36_44, hg_36_45, hg_36_46, hg_36_47, hg_36_48, hg_36_49, hq_36_49, hg_36_50, hg_36_51, hq_36_51, hg_36_52, hq_36_52, hg_36_53, hq_36_53, hg_36_54, hq_36_54, hg_36_55, hq_36_55, hg_36_56, hq_36_56, hg_36_57, hg_36_58, hq_36_58, hg_36_59, hq_36_59, hg_36_60, hq_36_60, hg_36_61, hl_37, hs_37, hl_38, hs_38, hl_39, hs_39, hl_40, hs_40, hl_41, hs_41, hl_42, hs_42, hl_43, hs_43, hl_44, hs_44, hl_45, hs_45, hl_46, hs_46, hl_47, hs_47, hl_48, hs_48, hl_49, hs_49, hl_50, hs_50, hl_51, hs_51, hl_52, hs_52, hl_53, hs_53, hl_54, hs_54, hl_55, hs_55, hl_56, hs_56, hl_57, hs_57, hl_58, hs_58, hl_59, hs_59, hl_60, hs_60, hl_61, hs_61, hl_62, hs_62, hl_63, hs_63, hl_64, hs_64, hl_65, hs_65, hl_66, hs_66, hl_67, hs_67, hl_68, hs_68, hl_69, hs_69, hl_70, hs_70, hl_71, hs_71, am_ld_cons, am_ld_nil, am_st1_cons, am_st1_nil, am_st2_cons, am_st2_nil, am_P1, am_P2, Value.category, am_add_add, am_add0, am_add_some, kd]
  exact key _ _ (by omega) (kb_nil 6)
