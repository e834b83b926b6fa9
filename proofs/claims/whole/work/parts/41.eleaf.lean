/-! Reading a leaf: the class's method. -/
def isL (x : Int32) : Prop := 97 ≤ x ∧ x ≤ 122
def isD (x : Int32) : Prop := 48 ≤ x ∧ x ≤ 57
theorem l_63 (scr : Nat → Int32) (L F d : Nat) (I : am_I) (J : am_J) (M : am_I) (x : Int32) (h : isL x) : am_r scr L (F + 100) (d + 1) 63 [.ref 19, .int x] (hp I J M) = some (some (.int 1), hp I J M, 0, 0) := by
  unfold isL at h
  rw [m_63, if_pos h]
theorem l_63n (scr : Nat → Int32) (L F d : Nat) (I : am_I) (J : am_J) (M : am_I) (x : Int32) (h : ¬ isL x) : am_r scr L (F + 100) (d + 1) 63 [.ref 19, .int x] (hp I J M) = some (some (.int 0), hp I J M, 0, 0) := by
  unfold isL at h
  rw [m_63, if_neg h]
theorem l_64 (scr : Nat → Int32) (L F d : Nat) (I : am_I) (J : am_J) (M : am_I) (x : Int32) (h : isD x) : am_r scr L (F + 100) (d + 1) 64 [.ref 19, .int x] (hp I J M) = some (some (.int 1), hp I J M, 0, 0) := by
  unfold isD at h
  rw [m_64, if_pos h]
theorem l_64n (scr : Nat → Int32) (L F d : Nat) (I : am_I) (J : am_J) (M : am_I) (x : Int32) (h : ¬ isD x) : am_r scr L (F + 100) (d + 1) 64 [.ref 19, .int x] (hp I J M) = some (some (.int 0), hp I J M, 0, 0) := by
  unfold isD at h
  rw [m_64, if_neg h]
theorem l_102 (scr : Nat → Int32) (L F d : Nat) (I : am_I) (J : am_J) (M : am_I) (x : Int32) (h : isL x) : am_r scr L (F + 100) (d + 1) 102 [.int x] (hp I J M) = some (some (.int 1), hp I J M, 0, 0) := by
  unfold isL at h
  rw [m_102, if_pos h]
theorem l_102n (scr : Nat → Int32) (L F d : Nat) (I : am_I) (J : am_J) (M : am_I) (x : Int32) (h : ¬ isL x) : am_r scr L (F + 100) (d + 1) 102 [.int x] (hp I J M) = some (some (.int 0), hp I J M, 0, 0) := by
  unfold isL at h
  rw [m_102, if_neg h]
theorem l_103 (scr : Nat → Int32) (L F d : Nat) (I : am_I) (J : am_J) (M : am_I) (x : Int32) (h : isD x) : am_r scr L (F + 100) (d + 1) 103 [.int x] (hp I J M) = some (some (.int 1), hp I J M, 0, 0) := by
  unfold isD at h
  rw [m_103, if_pos h]
theorem l_103n (scr : Nat → Int32) (L F d : Nat) (I : am_I) (J : am_J) (M : am_I) (x : Int32) (h : ¬ isD x) : am_r scr L (F + 100) (d + 1) 103 [.int x] (hp I J M) = some (some (.int 0), hp I J M, 0, 0) := by
  unfold isD at h
  rw [m_103, if_neg h]
set_option maxRecDepth 100000 in
set_option maxHeartbeats 4000000 in
theorem c62_T (scr : Nat → Int32) (L F d : Nat) (I : Nat → Nat → Int32) (J : Nat → Nat → Int64) (M : Nat → Nat → Int32) (s : Nat) (hs : s < 100) (x : Int32) (hx : x = 84) : am_r scr L (F + 63000) (d + 10) 62 [.ref 19, .int x, .int (nI s)] (hp I J M) = some (some (.int 1), hp (wr (wr I 7 s 1) 12 s 1) J M, 0, 0) := by
  have g1 : ¬ nI s < 0 := nI_pos (by omega)
  have g2 : (nI s).toNatClampNeg = s := nI_clamp (by omega)
  have g3 : ¬ 100 ≤ s := by omega
  simp [r_62, s_62_0, s_62_1, s_62_3, s_62_6, s_62_7, s_62_9, s_62_12, s_62_13, s_62_16, s_62_19, s_62_20, s_62_21, s_62_22, s_62_23, s_62_26, s_62_29, s_62_30, s_62_31, s_62_33, s_62_36, s_62_37, s_62_40, s_62_41, s_62_42, s_62_43, s_62_44, s_62_45, s_62_46, s_62_49, s_62_52, s_62_53, s_62_56, s_62_59, s_62_60, s_62_61, s_62_62, s_62_63, s_62_66, s_62_69, s_62_70, s_62_71, s_62_72, s_62_73, s_62_74, s_62_75, s_62_76, s_62_79, s_62_82, s_62_83, s_62_84, s_62_85, s_62_87, s_62_88, s_62_89, s_62_90, s_62_92, s_62_94, s_62_95, s_62_98, s_62_99, s_62_100, s_62_103, s_62_106, s_62_109, s_62_111, s_62_112, s_62_113, s_62_114, s_62_117, s_62_119, s_62_120, s_62_121, s_62_122, s_62_123, s_62_124, s_62_127, s_62_128, s_62_129, s_62_132, s_62_135, s_62_138, s_62_139, s_62_142, s_62_145, s_62_146, s_62_147, s_62_148, s_62_149, s_62_152, s_62_155, s_62_156, s_62_157, s_62_158, s_62_159, ha_0, hg_0_0, hg_0_1, hg_0_2, hg_0_3, hg_0_4, hq_0_4, hg_0_5, hq_0_5, ha_1, hg_1_0, hg_1_1, hg_1_2, hg_1_3, hg_1_4, hg_1_5, hg_1_6, hg_1_7, hg_1_8, hg_1_9, hg_1_10, hg_1_11, hg_1_12, hq_1_12, ha_2, hg_2_0, hg_2_1, hg_2_2, hg_2_3, hg_2_4, hq_2_4, hl_3, hs_3, hl_4, hs_4, hl_5, hs_5, hl_6, hs_6, hl_7, hs_7, hl_8, hs_8, hl_9, hs_9, hl_10, hs_10, hl_11, hs_11, hl_12, hs_12, hl_13, hs_13, hl_14, hs_14, hl_15, hs_15, hl_16, hs_16, hl_17, hs_17, ha_18, hg_18_0, hg_18_1, hg_18_2, hq_18_2, hg_18_3, hq_18_3, hl_19, hs_19, ha_20, hg_20_0, hg_20_1, ha_21, hg_21_0, hg_21_1, hg_21_2, hg_21_3, hg_21_4, hg_21_5, hg_21_6, hq_21_6, hg_21_7, hg_21_8, hg_21_9, hg_21_10, hq_21_10, hg_21_11, hq_21_11, hg_21_12, hq_21_12, hg_21_13, hq_21_13, hg_21_14, hq_21_14, hg_21_15, hq_21_15, hg_21_16, hq_21_16, hg_21_17, hq_21_17, ha_22, hg_22_0, hg_22_1, hg_22_2, hg_22_3, hg_22_4, hg_22_5, hg_22_6, hq_22_6, hg_22_7, hq_22_7, hg_22_8, hq_22_8, hl_23, hs_23, hl_24, hs_24, hl_25, hs_25, hl_26, hs_26, hl_27, hs_27, ha_28, hg_28_0, hg_28_1, hq_28_1, hl_29, hs_29, hl_30, hs_30, hl_31, hs_31, hl_32, hs_32, hl_33, hs_33, hl_34, hs_34, hl_35, hs_35, am_ld_cons, am_ld_nil, am_st1_cons, am_st1_nil, am_st2_cons, am_st2_nil, am_P1, am_P2, Value.category, am_add_add, am_add0, am_add_some, g1, g2, g3, wr_fold, hx]
set_option maxRecDepth 100000 in
set_option maxHeartbeats 4000000 in
theorem c62_F (scr : Nat → Int32) (L F d : Nat) (I : Nat → Nat → Int32) (J : Nat → Nat → Int64) (M : Nat → Nat → Int32) (s : Nat) (hs : s < 100) (x : Int32) (hx : x = 70) : am_r scr L (F + 63000) (d + 10) 62 [.ref 19, .int x, .int (nI s)] (hp I J M) = some (some (.int 1), hp (wr (wr I 7 s 1) 12 s 0) J M, 0, 0) := by
  have g1 : ¬ nI s < 0 := nI_pos (by omega)
  have g2 : (nI s).toNatClampNeg = s := nI_clamp (by omega)
  have g3 : ¬ 100 ≤ s := by omega
  simp [r_62, s_62_0, s_62_1, s_62_3, s_62_6, s_62_7, s_62_9, s_62_12, s_62_13, s_62_16, s_62_19, s_62_20, s_62_21, s_62_22, s_62_23, s_62_26, s_62_29, s_62_30, s_62_31, s_62_33, s_62_36, s_62_37, s_62_40, s_62_41, s_62_42, s_62_43, s_62_44, s_62_45, s_62_46, s_62_49, s_62_52, s_62_53, s_62_56, s_62_59, s_62_60, s_62_61, s_62_62, s_62_63, s_62_66, s_62_69, s_62_70, s_62_71, s_62_72, s_62_73, s_62_74, s_62_75, s_62_76, s_62_79, s_62_82, s_62_83, s_62_84, s_62_85, s_62_87, s_62_88, s_62_89, s_62_90, s_62_92, s_62_94, s_62_95, s_62_98, s_62_99, s_62_100, s_62_103, s_62_106, s_62_109, s_62_111, s_62_112, s_62_113, s_62_114, s_62_117, s_62_119, s_62_120, s_62_121, s_62_122, s_62_123, s_62_124, s_62_127, s_62_128, s_62_129, s_62_132, s_62_135, s_62_138, s_62_139, s_62_142, s_62_145, s_62_146, s_62_147, s_62_148, s_62_149, s_62_152, s_62_155, s_62_156, s_62_157, s_62_158, s_62_159, ha_0, hg_0_0, hg_0_1, hg_0_2, hg_0_3, hg_0_4, hq_0_4, hg_0_5, hq_0_5, ha_1, hg_1_0, hg_1_1, hg_1_2, hg_1_3, hg_1_4, hg_1_5, hg_1_6, hg_1_7, hg_1_8, hg_1_9, hg_1_10, hg_1_11, hg_1_12, hq_1_12, ha_2, hg_2_0, hg_2_1, hg_2_2, hg_2_3, hg_2_4, hq_2_4, hl_3, hs_3, hl_4, hs_4, hl_5, hs_5, hl_6, hs_6, hl_7, hs_7, hl_8, hs_8, hl_9, hs_9, hl_10, hs_10, hl_11, hs_11, hl_12, hs_12, hl_13, hs_13, hl_14, hs_14, hl_15, hs_15, hl_16, hs_16, hl_17, hs_17, ha_18, hg_18_0, hg_18_1, hg_18_2, hq_18_2, hg_18_3, hq_18_3, hl_19, hs_19, ha_20, hg_20_0, hg_20_1, ha_21, hg_21_0, hg_21_1, hg_21_2, hg_21_3, hg_21_4, hg_21_5, hg_21_6, hq_21_6, hg_21_7, hg_21_8, hg_21_9, hg_21_10, hq_21_10, hg_21_11, hq_21_11, hg_21_12, hq_21_12, hg_21_13, hq_21_13, hg_21_14, hq_21_14, hg_21_15, hq_21_15, hg_21_16, hq_21_16, hg_21_17, hq_21_17, ha_22, hg_22_0, hg_22_1, hg_22_2, hg_22_3, hg_22_4, hg_22_5, hg_22_6, hq_22_6, hg_22_7, hq_22_7, hg_22_8, hq_22_8, hl_23, hs_23, hl_24, hs_24, hl_25, hs_25, hl_26, hs_26, hl_27, hs_27, ha_28, hg_28_0, hg_28_1, hq_28_1, hl_29, hs_29, hl_30, hs_30, hl_31, hs_31, hl_32, hs_32, hl_33, hs_33, hl_34, hs_34, hl_35, hs_35, am_ld_cons, am_ld_nil, am_st1_cons, am_st1_nil, am_st2_cons, am_st2_nil, am_P1, am_P2, Value.category, am_add_add, am_add0, am_add_some, g1, g2, g3, wr_fold, hx]
set_option maxRecDepth 100000 in
set_option maxHeartbeats 4000000 in
theorem c62_v (scr : Nat → Int32) (L F d : Nat) (I : Nat → Nat → Int32) (J : Nat → Nat → Int64) (M : Nat → Nat → Int32) (s : Nat) (hs : s < 100) (x : Int32) (x1 : ¬ x = 84) (x2 : ¬ x = 70) (hx : isL x) : am_r scr L (F + 63000) (d + 10) 62 [.ref 19, .int x, .int (nI s)] (hp I J M) = some (some (.int 1), hp (wr (wr I 7 s 2) 12 s x) J M, 0, 0) := by
  have g1 : ¬ nI s < 0 := nI_pos (by omega)
  have g2 : (nI s).toNatClampNeg = s := nI_clamp (by omega)
  have g3 : ¬ 100 ≤ s := by omega
  have k1 := l_63 scr L (F + 62900) (d + 8) I J M x hx
  simp [r_62, s_62_0, s_62_1, s_62_3, s_62_6, s_62_7, s_62_9, s_62_12, s_62_13, s_62_16, s_62_19, s_62_20, s_62_21, s_62_22, s_62_23, s_62_26, s_62_29, s_62_30, s_62_31, s_62_33, s_62_36, s_62_37, s_62_40, s_62_41, s_62_42, s_62_43, s_62_44, s_62_45, s_62_46, s_62_49, s_62_52, s_62_53, s_62_56, s_62_59, s_62_60, s_62_61, s_62_62, s_62_63, s_62_66, s_62_69, s_62_70, s_62_71, s_62_72, s_62_73, s_62_74, s_62_75, s_62_76, s_62_79, s_62_82, s_62_83, s_62_84, s_62_85, s_62_87, s_62_88, s_62_89, s_62_90, s_62_92, s_62_94, s_62_95, s_62_98, s_62_99, s_62_100, s_62_103, s_62_106, s_62_109, s_62_111, s_62_112, s_62_113, s_62_114, s_62_117, s_62_119, s_62_120, s_62_121, s_62_122, s_62_123, s_62_124, s_62_127, s_62_128, s_62_129, s_62_132, s_62_135, s_62_138, s_62_139, s_62_142, s_62_145, s_62_146, s_62_147, s_62_148, s_62_149, s_62_152, s_62_155, s_62_156, s_62_157, s_62_158, s_62_159, ha_0, hg_0_0, hg_0_1, hg_0_2, hg_0_3, hg_0_4, hq_0_4, hg_0_5, hq_0_5, ha_1, hg_1_0, hg_1_1, hg_1_2, hg_1_3, hg_1_4, hg_1_5, hg_1_6, hg_1_7, hg_1_8, hg_1_9, hg_1_10, hg_1_11, hg_1_12, hq_1_12, ha_2, hg_2_0, hg_2_1, hg_2_2, hg_2_3, hg_2_4, hq_2_4, hl_3, hs_3, hl_4, hs_4, hl_5, hs_5, hl_6, hs_6, hl_7, hs_7, hl_8, hs_8, hl_9, hs_9, hl_10, hs_10, hl_11, hs_11, hl_12, hs_12, hl_13, hs_13, hl_14, hs_14, hl_15, hs_15, hl_16, hs_16, hl_17, hs_17, ha_18, hg_18_0, hg_18_1, hg_18_2, hq_18_2, hg_18_3, hq_18_3, hl_19, hs_19, ha_20, hg_20_0, hg_20_1, ha_21, hg_21_0, hg_21_1, hg_21_2, hg_21_3, hg_21_4, hg_21_5, hg_21_6, hq_21_6, hg_21_7, hg_21_8, hg_21_9, hg_21_10, hq_21_10, hg_21_11, hq_21_11, hg_21_12, hq_21_12, hg_21_13, hq_21_13, hg_21_14, hq_21_14, hg_21_15, hq_21_15, hg_21_16, hq_21_16, hg_21_17, hq_21_17, ha_22, hg_22_0, hg_22_1, hg_22_2, hg_22_3, hg_22_4, hg_22_5, hg_22_6, hq_22_6, hg_22_7, hq_22_7, hg_22_8, hq_22_8, hl_23, hs_23, hl_24, hs_24, hl_25, hs_25, hl_26, hs_26, hl_27, hs_27, ha_28, hg_28_0, hg_28_1, hq_28_1, hl_29, hs_29, hl_30, hs_30, hl_31, hs_31, hl_32, hs_32, hl_33, hs_33, hl_34, hs_34, hl_35, hs_35, am_ld_cons, am_ld_nil, am_st1_cons, am_st1_nil, am_st2_cons, am_st2_nil, am_P1, am_P2, Value.category, am_add_add, am_add0, am_add_some, g1, g2, g3, wr_fold, x1, x2, k1]
set_option maxRecDepth 100000 in
set_option maxHeartbeats 4000000 in
theorem c62_bad (scr : Nat → Int32) (L F d : Nat) (I : Nat → Nat → Int32) (J : Nat → Nat → Int64) (M : Nat → Nat → Int32) (s : Nat) (hs : s < 100) (x : Int32) (x1 : ¬ x = 84) (x2 : ¬ x = 70) (hx : ¬ isL x) (hy : ¬ isD x) : am_r scr L (F + 63000) (d + 10) 62 [.ref 19, .int x, .int (nI s)] (hp I J M) = some (some (.int 0), hp (I) J M, 0, 0) := by
  have g1 : ¬ nI s < 0 := nI_pos (by omega)
  have g2 : (nI s).toNatClampNeg = s := nI_clamp (by omega)
  have g3 : ¬ 100 ≤ s := by omega
  have k1 := l_63n scr L (F + 62900) (d + 8) I J M x hx
  have k2 := l_64n scr L (F + 62900) (d + 8) I J M x hy
  simp [r_62, s_62_0, s_62_1, s_62_3, s_62_6, s_62_7, s_62_9, s_62_12, s_62_13, s_62_16, s_62_19, s_62_20, s_62_21, s_62_22, s_62_23, s_62_26, s_62_29, s_62_30, s_62_31, s_62_33, s_62_36, s_62_37, s_62_40, s_62_41, s_62_42, s_62_43, s_62_44, s_62_45, s_62_46, s_62_49, s_62_52, s_62_53, s_62_56, s_62_59, s_62_60, s_62_61, s_62_62, s_62_63, s_62_66, s_62_69, s_62_70, s_62_71, s_62_72, s_62_73, s_62_74, s_62_75, s_62_76, s_62_79, s_62_82, s_62_83, s_62_84, s_62_85, s_62_87, s_62_88, s_62_89, s_62_90, s_62_92, s_62_94, s_62_95, s_62_98, s_62_99, s_62_100, s_62_103, s_62_106, s_62_109, s_62_111, s_62_112, s_62_113, s_62_114, s_62_117, s_62_119, s_62_120, s_62_121, s_62_122, s_62_123, s_62_124, s_62_127, s_62_128, s_62_129, s_62_132, s_62_135, s_62_138, s_62_139, s_62_142, s_62_145, s_62_146, s_62_147, s_62_148, s_62_149, s_62_152, s_62_155, s_62_156, s_62_157, s_62_158, s_62_159, ha_0, hg_0_0, hg_0_1, hg_0_2, hg_0_3, hg_0_4, hq_0_4, hg_0_5, hq_0_5, ha_1, hg_1_0, hg_1_1, hg_1_2, hg_1_3, hg_1_4, hg_1_5, hg_1_6, hg_1_7, hg_1_8, hg_1_9, hg_1_10, hg_1_11, hg_1_12, hq_1_12, ha_2, hg_2_0, hg_2_1, hg_2_2, hg_2_3, hg_2_4, hq_2_4, hl_3, hs_3, hl_4, hs_4, hl_5, hs_5, hl_6, hs_6, hl_7, hs_7, hl_8, hs_8, hl_9, hs_9, hl_10, hs_10, hl_11, hs_11, hl_12, hs_12, hl_13, hs_13, hl_14, hs_14, hl_15, hs_15, hl_16, hs_16, hl_17, hs_17, ha_18, hg_18_0, hg_18_1, hg_18_2, hq_18_2, hg_18_3, hq_18_3, hl_19, hs_19, ha_20, hg_20_0, hg_20_1, ha_21, hg_21_0, hg_21_1, hg_21_2, hg_21_3, hg_21_4, hg_21_5, hg_21_6, hq_21_6, hg_21_7, hg_21_8, hg_21_9, hg_21_10, hq_21_10, hg_21_11, hq_21_11, hg_21_12, hq_21_12, hg_21_13, hq_21_13, hg_21_14, hq_21_14, hg_21_15, hq_21_15, hg_21_16, hq_21_16, hg_21_17, hq_21_17, ha_22, hg_22_0, hg_22_1, hg_22_2, hg_22_3, hg_22_4, hg_22_5, hg_22_6, hq_22_6, hg_22_7, hq_22_7, hg_22_8, hq_22_8, hl_23, hs_23, hl_24, hs_24, hl_25, hs_25, hl_26, hs_26, hl_27, hs_27, ha_28, hg_28_0, hg_28_1, hq_28_1, hl_29, hs_29, hl_30, hs_30, hl_31, hs_31, hl_32, hs_32, hl_33, hs_33, hl_34, hs_34, hl_35, hs_35, am_ld_cons, am_ld_nil, am_st1_cons, am_st1_nil, am_st2_cons, am_st2_nil, am_P1, am_P2, Value.category, am_add_add, am_add0, am_add_some, g1, g2, g3, x1, x2, k1, k2]
set_option maxRecDepth 100000 in
set_option maxHeartbeats 4000000 in
theorem c62_d0 (scr : Nat → Int32) (L F d : Nat) (I : Nat → Nat → Int32) (J : Nat → Nat → Int64) (M : Nat → Nat → Int32) (s : Nat) (hs : s < 100) (x : Int32) (x1 : ¬ x = 84) (x2 : ¬ x = 70) (hx : ¬ isL x) (hy : isD x) (n p : Nat) (r : rdI I n p) (z : ¬ isD (tx (I 19) n p)) : am_r scr L (F + 63000) (d + 10) 62 [.ref 19, .int x, .int (nI s)] (hp I J M) = some (some (.int 1), hp (wr (wr I 7 s 0) 12 s (x - 48)) J M, 0, 0) := by
  have g1 : ¬ nI s < 0 := nI_pos (by omega)
  have g2 : (nI s).toNatClampNeg = s := nI_clamp (by omega)
  have g3 : ¬ 100 ≤ s := by omega
  have k1 := l_63n scr L (F + 62900) (d + 8) I J M x hx
  have k2 := l_64 scr L (F + 62900) (d + 8) I J M x hy
  have q1 := s_59 scr L (F + 62900) (d + 8) I J M n p r
  have p1 := r.2.1
  have e1 : nI p + 1 = nI (p + 1) := nI_1 p
  have ea : va_up I 18 (upd (I 18) 3 (nI (p + 1))) = adI I (p + 1) := rfl
  have k3 := l_64n scr L (F + 62900) (d + 8) I J M _ z
  simp [r_62, s_62_0, s_62_1, s_62_3, s_62_6, s_62_7, s_62_9, s_62_12, s_62_13, s_62_16, s_62_19, s_62_20, s_62_21, s_62_22, s_62_23, s_62_26, s_62_29, s_62_30, s_62_31, s_62_33, s_62_36, s_62_37, s_62_40, s_62_41, s_62_42, s_62_43, s_62_44, s_62_45, s_62_46, s_62_49, s_62_52, s_62_53, s_62_56, s_62_59, s_62_60, s_62_61, s_62_62, s_62_63, s_62_66, s_62_69, s_62_70, s_62_71, s_62_72, s_62_73, s_62_74, s_62_75, s_62_76, s_62_79, s_62_82, s_62_83, s_62_84, s_62_85, s_62_87, s_62_88, s_62_89, s_62_90, s_62_92, s_62_94, s_62_95, s_62_98, s_62_99, s_62_100, s_62_103, s_62_106, s_62_109, s_62_111, s_62_112, s_62_113, s_62_114, s_62_117, s_62_119, s_62_120, s_62_121, s_62_122, s_62_123, s_62_124, s_62_127, s_62_128, s_62_129, s_62_132, s_62_135, s_62_138, s_62_139, s_62_142, s_62_145, s_62_146, s_62_147, s_62_148, s_62_149, s_62_152, s_62_155, s_62_156, s_62_157, s_62_158, s_62_159, ha_0, hg_0_0, hg_0_1, hg_0_2, hg_0_3, hg_0_4, hq_0_4, hg_0_5, hq_0_5, ha_1, hg_1_0, hg_1_1, hg_1_2, hg_1_3, hg_1_4, hg_1_5, hg_1_6, hg_1_7, hg_1_8, hg_1_9, hg_1_10, hg_1_11, hg_1_12, hq_1_12, ha_2, hg_2_0, hg_2_1, hg_2_2, hg_2_3, hg_2_4, hq_2_4, hl_3, hs_3, hl_4, hs_4, hl_5, hs_5, hl_6, hs_6, hl_7, hs_7, hl_8, hs_8, hl_9, hs_9, hl_10, hs_10, hl_11, hs_11, hl_12, hs_12, hl_13, hs_13, hl_14, hs_14, hl_15, hs_15, hl_16, hs_16, hl_17, hs_17, ha_18, hg_18_0, hg_18_1, hg_18_2, hq_18_2, hg_18_3, hq_18_3, hl_19, hs_19, ha_20, hg_20_0, hg_20_1, ha_21, hg_21_0, hg_21_1, hg_21_2, hg_21_3, hg_21_4, hg_21_5, hg_21_6, hq_21_6, hg_21_7, hg_21_8, hg_21_9, hg_21_10, hq_21_10, hg_21_11, hq_21_11, hg_21_12, hq_21_12, hg_21_13, hq_21_13, hg_21_14, hq_21_14, hg_21_15, hq_21_15, hg_21_16, hq_21_16, hg_21_17, hq_21_17, ha_22, hg_22_0, hg_22_1, hg_22_2, hg_22_3, hg_22_4, hg_22_5, hg_22_6, hq_22_6, hg_22_7, hq_22_7, hg_22_8, hq_22_8, hl_23, hs_23, hl_24, hs_24, hl_25, hs_25, hl_26, hs_26, hl_27, hs_27, ha_28, hg_28_0, hg_28_1, hq_28_1, hl_29, hs_29, hl_30, hs_30, hl_31, hs_31, hl_32, hs_32, hl_33, hs_33, hl_34, hs_34, hl_35, hs_35, am_ld_cons, am_ld_nil, am_st1_cons, am_st1_nil, am_st2_cons, am_st2_nil, am_P1, am_P2, Value.category, am_add_add, am_add0, am_add_some, g1, g2, g3, wr_fold, x1, x2, k1, k2, q1, k3]
set_option maxRecDepth 100000 in
set_option maxHeartbeats 4000000 in
theorem c62_d1 (scr : Nat → Int32) (L F d : Nat) (I : Nat → Nat → Int32) (J : Nat → Nat → Int64) (M : Nat → Nat → Int32) (s : Nat) (hs : s < 100) (x : Int32) (x1 : ¬ x = 84) (x2 : ¬ x = 70) (hx : ¬ isL x) (hy : isD x) (n p : Nat) (r : rdI I n p) (z : isD (tx (I 19) n p)) (w : ¬ isD (tx (I 19) n (p + 1))) : am_r scr L (F + 63000) (d + 10) 62 [.ref 19, .int x, .int (nI s)] (hp I J M) = some (some (.int 1), hp (wr (wr (adI I (p + 1)) 7 s 0) 12 s (10 * (x - 48) + (tx (I 19) n p - 48))) J M, 0, 0) := by
  have g1 : ¬ nI s < 0 := nI_pos (by omega)
  have g2 : (nI s).toNatClampNeg = s := nI_clamp (by omega)
  have g3 : ¬ 100 ≤ s := by omega
  have k1 := l_63n scr L (F + 62900) (d + 8) I J M x hx
  have k2 := l_64 scr L (F + 62900) (d + 8) I J M x hy
  have q1 := s_59 scr L (F + 62900) (d + 8) I J M n p r
  have p1 := r.2.1
  have e1 : nI p + 1 = nI (p + 1) := nI_1 p
  have ea : va_up I 18 (upd (I 18) 3 (nI (p + 1))) = adI I (p + 1) := rfl
  have k3 := l_64 scr L (F + 62900) (d + 8) I J M _ z
  have hpn : p < n := by
    unfold tx at z
    split at z
    · assumption
    · exact absurd z (by unfold isD; decide)
  have r1 : rdI (adI I (p + 1)) n (p + 1) := rdI_ad r (by have := r.2.2.1; omega)
  have q2 := s_59 scr L (F + 62900) (d + 8) (adI I (p + 1)) J M n (p + 1) r1
  have ei : adI I (p + 1) 19 = I 19 := adI_ne I _ 19 (by omega)
  rw [ei] at q2
  have k4 := l_64n scr L (F + 62900) (d + 8) (adI I (p + 1)) J M _ w
  simp [r_62, s_62_0, s_62_1, s_62_3, s_62_6, s_62_7, s_62_9, s_62_12, s_62_13, s_62_16, s_62_19, s_62_20, s_62_21, s_62_22, s_62_23, s_62_26, s_62_29, s_62_30, s_62_31, s_62_33, s_62_36, s_62_37, s_62_40, s_62_41, s_62_42, s_62_43, s_62_44, s_62_45, s_62_46, s_62_49, s_62_52, s_62_53, s_62_56, s_62_59, s_62_60, s_62_61, s_62_62, s_62_63, s_62_66, s_62_69, s_62_70, s_62_71, s_62_72, s_62_73, s_62_74, s_62_75, s_62_76, s_62_79, s_62_82, s_62_83, s_62_84, s_62_85, s_62_87, s_62_88, s_62_89, s_62_90, s_62_92, s_62_94, s_62_95, s_62_98, s_62_99, s_62_100, s_62_103, s_62_106, s_62_109, s_62_111, s_62_112, s_62_113, s_62_114, s_62_117, s_62_119, s_62_120, s_62_121, s_62_122, s_62_123, s_62_124, s_62_127, s_62_128, s_62_129, s_62_132, s_62_135, s_62_138, s_62_139, s_62_142, s_62_145, s_62_146, s_62_147, s_62_148, s_62_149, s_62_152, s_62_155, s_62_156, s_62_157, s_62_158, s_62_159, ha_0, hg_0_0, hg_0_1, hg_0_2, hg_0_3, hg_0_4, hq_0_4, hg_0_5, hq_0_5, ha_1, hg_1_0, hg_1_1, hg_1_2, hg_1_3, hg_1_4, hg_1_5, hg_1_6, hg_1_7, hg_1_8, hg_1_9, hg_1_10, hg_1_11, hg_1_12, hq_1_12, ha_2, hg_2_0, hg_2_1, hg_2_2, hg_2_3, hg_2_4, hq_2_4, hl_3, hs_3, hl_4, hs_4, hl_5, hs_5, hl_6, hs_6, hl_7, hs_7, hl_8, hs_8, hl_9, hs_9, hl_10, hs_10, hl_11, hs_11, hl_12, hs_12, hl_13, hs_13, hl_14, hs_14, hl_15, hs_15, hl_16, hs_16, hl_17, hs_17, ha_18, hg_18_0, hg_18_1, hg_18_2, hq_18_2, hg_18_3, hq_18_3, hl_19, hs_19, ha_20, hg_20_0, hg_20_1, ha_21, hg_21_0, hg_21_1, hg_21_2, hg_21_3, hg_21_4, hg_21_5, hg_21_6, hq_21_6, hg_21_7, hg_21_8, hg_21_9, hg_21_10, hq_21_10, hg_21_11, hq_21_11, hg_21_12, hq_21_12, hg_21_13, hq_21_13, hg_21_14, hq_21_14, hg_21_15, hq_21_15, hg_21_16, hq_21_16, hg_21_17, hq_21_17, ha_22, hg_22_0, hg_22_1, hg_22_2, hg_22_3, hg_22_4, hg_22_5, hg_22_6, hq_22_6, hg_22_7, hq_22_7, hg_22_8, hq_22_8, hl_23, hs_23, hl_24, hs_24, hl_25, hs_25, hl_26, hs_26, hl_27, hs_27, ha_28, hg_28_0, hg_28_1, hq_28_1, hl_29, hs_29, hl_30, hs_30, hl_31, hs_31, hl_32, hs_32, hl_33, hs_33, hl_34, hs_34, hl_35, hs_35, am_ld_cons, am_ld_nil, am_st1_cons, am_st1_nil, am_st2_cons, am_st2_nil, am_P1, am_P2, Value.category, am_add_add, am_add0, am_add_some, g1, g2, g3, wr_fold, x1, x2, k1, k2, q1, k3, p1, e1, ea, q2, k4]
set_option maxRecDepth 100000 in
set_option maxHeartbeats 4000000 in
theorem c62_d2 (scr : Nat → Int32) (L F d : Nat) (I : Nat → Nat → Int32) (J : Nat → Nat → Int64) (M : Nat → Nat → Int32) (s : Nat) (hs : s < 100) (x : Int32) (x1 : ¬ x = 84) (x2 : ¬ x = 70) (hx : ¬ isL x) (hy : isD x) (n p : Nat) (r : rdI I n p) (z : isD (tx (I 19) n p)) (w : isD (tx (I 19) n (p + 1))) : am_r scr L (F + 63000) (d + 10) 62 [.ref 19, .int x, .int (nI s)] (hp I J M) = some (some (.int 1), hp (wr (wr (adI (adI I (p + 1)) (p + 2)) 7 s 0) 12 s (10 * (10 * (x - 48) + (tx (I 19) n p - 48)) + (tx (I 19) n (p + 1) - 48))) J M, 0, 0) := by
  have g1 : ¬ nI s < 0 := nI_pos (by omega)
  have g2 : (nI s).toNatClampNeg = s := nI_clamp (by omega)
  have g3 : ¬ 100 ≤ s := by omega
  have k1 := l_63n scr L (F + 62900) (d + 8) I J M x hx
  have k2 := l_64 scr L (F + 62900) (d + 8) I J M x hy
  have q1 := s_59 scr L (F + 62900) (d + 8) I J M n p r
  have p1 := r.2.1
  have e1 : nI p + 1 = nI (p + 1) := nI_1 p
  have ea : va_up I 18 (upd (I 18) 3 (nI (p + 1))) = adI I (p + 1) := rfl
  have k3 := l_64 scr L (F + 62900) (d + 8) I J M _ z
  have hpn : p < n := by
    unfold tx at z
    split at z
    · assumption
    · exact absurd z (by unfold isD; decide)
  have r1 : rdI (adI I (p + 1)) n (p + 1) := rdI_ad r (by have := r.2.2.1; omega)
  have q2 := s_59 scr L (F + 62900) (d + 8) (adI I (p + 1)) J M n (p + 1) r1
  have ei : adI I (p + 1) 19 = I 19 := adI_ne I _ 19 (by omega)
  rw [ei] at q2
  have k4 := l_64 scr L (F + 62900) (d + 8) (adI I (p + 1)) J M _ w
  have p2 := adI_p I (p + 1)
  have e2 : nI (p + 1) + 1 = nI (p + 2) := nI_1 (p + 1)
  have eb : va_up (adI I (p + 1)) 18 (upd (adI I (p + 1) 18) 3 (nI (p + 2))) = adI (adI I (p + 1)) (p + 2) := rfl
  simp [r_62, s_62_0, s_62_1, s_62_3, s_62_6, s_62_7, s_62_9, s_62_12, s_62_13, s_62_16, s_62_19, s_62_20, s_62_21, s_62_22, s_62_23, s_62_26, s_62_29, s_62_30, s_62_31, s_62_33, s_62_36, s_62_37, s_62_40, s_62_41, s_62_42, s_62_43, s_62_44, s_62_45, s_62_46, s_62_49, s_62_52, s_62_53, s_62_56, s_62_59, s_62_60, s_62_61, s_62_62, s_62_63, s_62_66, s_62_69, s_62_70, s_62_71, s_62_72, s_62_73, s_62_74, s_62_75, s_62_76, s_62_79, s_62_82, s_62_83, s_62_84, s_62_85, s_62_87, s_62_88, s_62_89, s_62_90, s_62_92, s_62_94, s_62_95, s_62_98, s_62_99, s_62_100, s_62_103, s_62_106, s_62_109, s_62_111, s_62_112, s_62_113, s_62_114, s_62_117, s_62_119, s_62_120, s_62_121, s_62_122, s_62_123, s_62_124, s_62_127, s_62_128, s_62_129, s_62_132, s_62_135, s_62_138, s_62_139, s_62_142, s_62_145, s_62_146, s_62_147, s_62_148, s_62_149, s_62_152, s_62_155, s_62_156, s_62_157, s_62_158, s_62_159, ha_0, hg_0_0, hg_0_1, hg_0_2, hg_0_3, hg_0_4, hq_0_4, hg_0_5, hq_0_5, ha_1, hg_1_0, hg_1_1, hg_1_2, hg_1_3, hg_1_4, hg_1_5, hg_1_6, hg_1_7, hg_1_8, hg_1_9, hg_1_10, hg_1_11, hg_1_12, hq_1_12, ha_2, hg_2_0, hg_2_1, hg_2_2, hg_2_3, hg_2_4, hq_2_4, hl_3, hs_3, hl_4, hs_4, hl_5, hs_5, hl_6, hs_6, hl_7, hs_7, hl_8, hs_8, hl_9, hs_9, hl_10, hs_10, hl_11, hs_11, hl_12, hs_12, hl_13, hs_13, hl_14, hs_14, hl_15, hs_15, hl_16, hs_16, hl_17, hs_17, ha_18, hg_18_0, hg_18_1, hg_18_2, hq_18_2, hg_18_3, hq_18_3, hl_19, hs_19, ha_20, hg_20_0, hg_20_1, ha_21, hg_21_0, hg_21_1, hg_21_2, hg_21_3, hg_21_4, hg_21_5, hg_21_6, hq_21_6, hg_21_7, hg_21_8, hg_21_9, hg_21_10, hq_21_10, hg_21_11, hq_21_11, hg_21_12, hq_21_12, hg_21_13, hq_21_13, hg_21_14, hq_21_14, hg_21_15, hq_21_15, hg_21_16, hq_21_16, hg_21_17, hq_21_17, ha_22, hg_22_0, hg_22_1, hg_22_2, hg_22_3, hg_22_4, hg_22_5, hg_22_6, hq_22_6, hg_22_7, hq_22_7, hg_22_8, hq_22_8, hl_23, hs_23, hl_24, hs_24, hl_25, hs_25, hl_26, hs_26, hl_27, hs_27, ha_28, hg_28_0, hg_28_1, hq_28_1, hl_29, hs_29, hl_30, hs_30, hl_31, hs_31, hl_32, hs_32, hl_33, hs_33, hl_34, hs_34, hl_35, hs_35, am_ld_cons, am_ld_nil, am_st1_cons, am_st1_nil, am_st2_cons, am_st2_nil, am_P1, am_P2, Value.category, am_add_add, am_add0, am_add_some, g1, g2, g3, wr_fold, x1, x2, k1, k2, q1, k3, p1, e1, ea, q2, k4, p2, e2, eb]
