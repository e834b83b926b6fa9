/-! The text of a type: the reference's pile. -/
def pu (M : am_I) (s : Nat) (c : Int32) : am_I := wr (wr M 53 s c) 36 28 (nI (s + 1))
theorem pu_ne (M : am_I) (s x y : Nat) (c : Int32) (h1 : ¬ x = 53) (h2 : ¬ (x = 36 ∧ y = 28)) : pu M s c x y = M x y := by
  unfold pu
  rw [wr_q _ _ _ _ _ _ h2, wr_ap _ _ _ _ _ _ h1]
def okc (c : Int32) : Prop := vp_nar .char (c.toUInt32 % 65536).toInt32 = c
set_option maxRecDepth 100000 in
set_option maxHeartbeats 4000000 in
theorem m_99 (scr : Nat → Int32) (L F d : Nat) (I : Nat → Nat → Int32) (J : Nat → Nat → Int64) (M : Nat → Nat → Int32) (s : Nat) (c : Int32) (hs : s < 400) (h28 : M 36 28 = nI s) (hc : okc c) : am_r scr L (F + 100) (d + 1) 99 [.ref 37, .int c] (hp I J M) = some (none, hp I J (pu M s c), 0, 0) := by
  unfold okc at hc
  have g1 : ¬ nI s < 0 := nI_pos (by omega)
  have g2 : (nI s).toNatClampNeg = s := nI_clamp (by omega)
  have g3 : ¬ 400 ≤ s := by omega
  have g4 : nI s + 1 = nI (s + 1) := nI_1 s
  have g5 : wr M 53 s c 36 28 = nI s := (wr_ap _ _ _ _ _ _ (by omega)).trans h28
  simp [r_99, s_99_0, s_99_1, s_99_4, s_99_5, s_99_8, s_99_9, s_99_10, s_99_11, s_99_12, s_99_13, s_99_16, s_99_17, s_99_18, s_99_21, ha_36, hg_36_0, hq_36_0, hg_36_1, hg_36_2, hq_36_2, hg_36_3, hg_36_4, hg_36_5, hg_36_6, hq_36_6, hg_36_7, hq_36_7, hg_36_8, hq_36_8, hg_36_9, hg_36_10, hg_36_11, hg_36_12, hg_36_13, hg_36_14, hg_36_15, hg_36_16, hg_36_17, hg_36_18, hq_36_18, hg_36_19, hg_36_20, hq_36_20, hg_36_21, hq_36_21, hg_36_22, hg_36_23, hq_36_23, hg_36_24, hg_36_25, hq_36_25, hg_36_26, hq_36_26, hg_36_27, hq_36_27, hg_36_28, hq_36_28, hg_36_29, hg_36_30, hg_36_31, hq_36_31, hg_36_32, hg_36_33, hg_36_34, hg_36_35, hq_36_35, hg_36_36, hg_36_37, hg_36_38, hg_36_39, hg_36_40, hq_36_40, hg_36_41, hg_36_42, hg_36_43, hg_36_44, hq_36_44, hg_36_45, hg_36_46, hg_36_47, hg_36_48, hg_36_49, hq_36_49, hg_36_50, hg_36_51, hq_36_51, hg_36_52, hq_36_52, hg_36_53, hq_36_53, hg_36_54, hq_36_54, hg_36_55, hq_36_55, hg_36_56, hq_36_56, hg_36_57, hg_36_58, hq_36_58, hg_36_59, hq_36_59, hg_36_60, hq_36_60, hg_36_61, hl_37, hs_37, hl_38, hs_38, hl_39, hs_39, hl_40, hs_40, hl_41, hs_41, hl_42, hs_42, hl_43, hs_43, hl_44, hs_44, hl_45, hs_45, hl_46, hs_46, hl_47, hs_47, hl_48, hs_48, hl_49, hs_49, hl_50, hs_50, hl_51, hs_51, hl_52, hs_52, hl_53, hs_53, hl_54, hs_54, hl_55, hs_55, hl_56, hs_56, hl_57, hs_57, hl_58, hs_58, hl_59, hs_59, hl_60, hs_60, hl_61, hs_61, hl_62, hs_62, hl_63, hs_63, hl_64, hs_64, hl_65, hs_65, hl_66, hs_66, hl_67, hs_67, hl_68, hs_68, hl_69, hs_69, hl_70, hs_70, hl_71, hs_71, am_ld_cons, am_ld_nil, am_st1_cons, am_st1_nil, am_st2_cons, am_st2_nil, am_P1, am_P2, Value.category, am_add_add, am_add0, am_add_some, g1, g2, g3, g4, h28, hc, wr_fold, g5]
  rfl
/-- writeType's loop -/
def h98 (scr : Nat → Int32) (L F d : Nat) (I : am_I) (J : am_J) (M : am_I) (n N : Nat) (R : Option am_X) : Prop := ∀ (f : Nat) (tl : am_L) (x1 : Int32), N ≤ f → kb 3 tl → am_f (d + 44) scr L (am_r scr L (F + 63000) (d + 44)) 98 f 14 ((0, .ref 37) :: (1, .int x1) :: (2, .int (nI n)) :: tl) [] (hp I J M) = R
set_option maxRecDepth 100000 in
set_option maxHeartbeats 4000000 in
theorem h98_end (scr : Nat → Int32) (L F d : Nat) (I : am_I) (J : am_J) (M : am_I) : h98 scr L F d I J M 0 100 (some (none, hp I J M, 0, 0)) := by
  intro f tl x1 hf hk
  obtain ⟨g, rfl⟩ : ∃ g, f = g + 100 := ⟨f - 100, by omega⟩
  have z0 : nI 0 = 0 := nI_0
  rw [s_98_14]
  simp [s_98_0, s_98_1, s_98_2, s_98_3, s_98_6, s_98_7, s_98_8, s_98_9, s_98_10, s_98_11, s_98_15, s_98_18, s_98_19, s_98_22, s_98_25, s_98_28, s_98_31, s_98_32, s_98_35, s_98_36, s_98_37, s_98_38, s_98_39, s_98_42, s_98_43, s_98_44, s_98_45, s_98_46, s_98_49, s_98_52, s_98_53, s_98_54, s_98_57, s_98_58, s_98_59, s_98_62, s_98_64, s_98_67, s_98_68, s_98_69, s_98_72, s_98_74, s_98_77, s_98_79, s_98_82, s_98_85, s_98_86, s_98_89, s_98_90, s_98_91, s_98_92, s_98_95, s_98_96, s_98_98, s_98_101, s_98_102, s_98_105, s_98_106, s_98_107, s_98_110, s_98_111, s_98_112, s_98_113, s_98_116, s_98_119, s_98_120, s_98_122, s_98_125, s_98_126, s_98_129, s_98_130, s_98_132, s_98_133, s_98_134, s_98_137, s_98_138, s_98_139, s_98_140, s_98_141, s_98_144, s_98_145, s_98_146, s_98_147, s_98_148, s_98_151, s_98_152, s_98_153, s_98_154, s_98_156, s_98_157, s_98_158, s_98_161, s_98_162, s_98_163, s_98_164, s_98_165, s_98_168, s_98_169, s_98_170, s_98_171, s_98_174, s_98_177, ha_36, hg_36_0, hq_36_0, hg_36_1, hg_36_2, hq_36_2, hg_36_3, hg_36_4, hg_36_5, hg_36_6, hq_36_6, hg_36_7, hq_36_7, hg_36_8, hq_36_8, hg_36_9, hg_36_10, hg_36_11, hg_36_12, hg_36_13, hg_36_14, hg_36_15, hg_36_16, hg_36_17, hg_36_18, hq_36_18, hg_36_19, hg_36_20, hq_36_20, hg_36_21, hq_36_21, hg_36_22, hg_36_23, hq_36_23, hg_36_24, hg_36_25, hq_36_25, hg_36_26, hq_36_26, hg_36_27, hq_36_27, hg_36_28, hq_36_28, hg_36_29, hg_36_30, hg_36_31, hq_36_31, hg_36_32, hg_36_33, hg_36_34, hg_36_35, hq_36_35, hg_36_36, hg_36_37, hg_36_38, hg_36_39, hg_36_40, hq_36_40, hg_36_41, hg_36_42, hg_36_43, hg_36_44, hq_36_44, hg_36_45, hg_36_46, hg_36_47, hg_36_48, hg_36_49, hq_36_49, hg_36_50, hg_36_51, hq_36_51, hg_36_52, hq_36_52, hg_36_53, hq_36_53, hg_36_54, hq_36_54, hg_36_55, hq_36_55, hg_36_56, hq_36_56, hg_36_57, hg_36_58, hq_36_58, hg_36_59, hq_36_59, hg_36_60, hq_36_60, hg_36_61, hl_37, hs_37, hl_38, hs_38, hl_39, hs_39, hl_40, hs_40, hl_41, hs_41, hl_42, hs_42, hl_43, hs_43, hl_44, hs_44, hl_45, hs_45, hl_46, hs_46, hl_47, hs_47, hl_48, hs_48, hl_49, hs_49, hl_50, hs_50, hl_51, hs_51, hl_52, hs_52, hl_53, hs_53, hl_54, hs_54, hl_55, hs_55, hl_56, hs_56, hl_57, hs_57, hl_58, hs_58, hl_59, hs_59, hl_60, hs_60, hl_61, hs_61, hl_62, hs_62, hl_63, hs_63, hl_64, hs_64, hl_65, hs_65, hl_66, hs_66, hl_67, hs_67, hl_68, hs_68, hl_69, hs_69, hl_70, hs_70, hl_71, hs_71, am_ld_cons, am_ld_nil, am_st1_cons, am_st1_nil, am_st2_cons, am_st2_nil, am_P1, am_P2, Value.category, am_add_add, am_add0, am_add_some, z0]
set_option maxRecDepth 100000 in
set_option maxHeartbeats 4000000 in
theorem h98_rp (scr : Nat → Int32) (L F d : Nat) (I : am_I) (J : am_J) (M : am_I) (k s n0 : Nat) (R : Option am_X) (hk0 : k < 390) (hs : s < 400) (h28 : M 36 28 = nI s) (hp1 : M 54 k = -42) (key : h98 scr L F d I J (pu M s 41) k n0 R) : h98 scr L F d I J M (k + 1) (n0 + 200) R := by
  intro f tl x1 hf hk
  obtain ⟨g, rfl⟩ : ∃ g, f = g + 200 := ⟨f - 200, by omega⟩
  obtain ⟨tl1, e3, k3⟩ := kb_st hk
  have f1 := kb_f hk (show 2 < 3 by omega)
  have f2 := kb_f k3 (show 2 < 4 by omega)
  have z0 : ¬ nI (k + 1) ≤ 0 := nI_nle (by omega) (by omega)
  have z1 : nI (k + 1) + (-1) = nI k := nI_m1 k
  have z2 : ¬ (400 : Int32) ≤ nI s := nI_ge (b := 400) (by omega) (by omega)
  have z3 : nI k + 1 = nI (k + 1) := nI_1 k
  have g1 : ¬ nI k < 0 := nI_pos (by omega)
  have g2 : (nI k).toNatClampNeg = k := nI_clamp (by omega)
  have g3 : ¬ 400 ≤ k := by omega
  have kc := fun (c : Int32) (hc : okc c) => m_99 scr L (F + 62900) (d + 43) I J M s c (by omega) h28 hc
  have kk := kc 41 (by unfold okc; decide +kernel)
  rw [show F + 62900 + 100 = F + 63000 by omega] at kk
  rw [s_98_14]
  simp [s_98_0, s_98_1, s_98_2, s_98_3, s_98_6, s_98_7, s_98_8, s_98_9, s_98_10, s_98_11, s_98_15, s_98_18, s_98_19, s_98_22, s_98_25, s_98_28, s_98_31, s_98_32, s_98_35, s_98_36, s_98_37, s_98_38, s_98_39, s_98_42, s_98_43, s_98_44, s_98_45, s_98_46, s_98_49, s_98_52, s_98_53, s_98_54, s_98_57, s_98_58, s_98_59, s_98_62, s_98_64, s_98_67, s_98_68, s_98_69, s_98_72, s_98_74, s_98_77, s_98_79, s_98_82, s_98_85, s_98_86, s_98_89, s_98_90, s_98_91, s_98_92, s_98_95, s_98_96, s_98_98, s_98_101, s_98_102, s_98_105, s_98_106, s_98_107, s_98_110, s_98_111, s_98_112, s_98_113, s_98_116, s_98_119, s_98_120, s_98_122, s_98_125, s_98_126, s_98_129, s_98_130, s_98_132, s_98_133, s_98_134, s_98_137, s_98_138, s_98_139, s_98_140, s_98_141, s_98_144, s_98_145, s_98_146, s_98_147, s_98_148, s_98_151, s_98_152, s_98_153, s_98_154, s_98_156, s_98_157, s_98_158, s_98_161, s_98_162, s_98_163, s_98_164, s_98_165, s_98_168, s_98_169, s_98_170, s_98_171, s_98_174, s_98_177, ha_36, hg_36_0, hq_36_0, hg_36_1, hg_36_2, hq_36_2, hg_36_3, hg_36_4, hg_36_5, hg_36_6, hq_36_6, hg_36_7, hq_36_7, hg_36_8, hq_36_8, hg_36_9, hg_36_10, hg_36_11, hg_36_12, hg_36_13, hg_36_14, hg_36_15, hg_36_16, hg_36_17, hg_36_18, hq_36_18, hg_36_19, hg_36_20, hq_36_20, hg_36_21, hq_36_21, hg_36_22, hg_36_23, hq_36_23, hg_36_24, hg_36_25, hq_36_25, hg_36_26, hq_36_26, hg_36_27, hq_36_27, hg_36_28, hq_36_28, hg_36_29, hg_36_30, hg_36_31, hq_36_31, hg_36_32, hg_36_33, hg_36_34, hg_36_35, hq_36_35, hg_36_36, hg_36_37, hg_36_38, hg_36_39, hg_36_40, hq_36_40, hg_36_41, hg_36_42, hg_36_43, hg_36_44, hq_36_44, hg_36_45, hg_36_46, hg_36_47, hg_36_48, hg_36_49, hq_36_49, hg_36_50, hg_36_51, hq_36_51, hg_36_52, hq_36_52, hg_36_53, hq_36_53, hg_36_54, hq_36_54, hg_36_55, hq_36_55, hg_36_56, hq_36_56, hg_36_57, hg_36_58, hq_36_58, hg_36_59, hq_36_59, hg_36_60, hq_36_60, hg_36_61, hl_37, hs_37, hl_38, hs_38, hl_39, hs_39, hl_40, hs_40, hl_41, hs_41, hl_42, hs_42, hl_43, hs_43, hl_44, hs_44, hl_45, hs_45, hl_46, hs_46, hl_47, hs_47, hl_48, hs_48, hl_49, hs_49, hl_50, hs_50, hl_51, hs_51, hl_52, hs_52, hl_53, hs_53, hl_54, hs_54, hl_55, hs_55, hl_56, hs_56, hl_57, hs_57, hl_58, hs_58, hl_59, hs_59, hl_60, hs_60, hl_61, hs_61, hl_62, hs_62, hl_63, hs_63, hl_64, hs_64, hl_65, hs_65, hl_66, hs_66, hl_67, hs_67, hl_68, hs_68, hl_69, hs_69, hl_70, hs_70, hl_71, hs_71, am_ld_cons, am_ld_nil, am_st1_cons, am_st1_nil, am_st2_cons, am_st2_nil, am_P1, am_P2, Value.category, am_add_add, am_add0, am_add_some, e3, f1, f2, z0, z1, z2, z3, g1, g2, g3, h28, hp1, kk]
  exact key _ _ _ (by omega) (kb_cons (by omega) (kb_le (by omega) k3))
set_option maxRecDepth 100000 in
set_option maxHeartbeats 4000000 in
theorem h98_gt (scr : Nat → Int32) (L F d : Nat) (I : am_I) (J : am_J) (M : am_I) (k s n0 : Nat) (R : Option am_X) (hk0 : k < 390) (hs : s < 400) (h28 : M 36 28 = nI s) (hp1 : M 54 k = -63) (key : h98 scr L F d I J (pu M s 62) k n0 R) : h98 scr L F d I J M (k + 1) (n0 + 200) R := by
  intro f tl x1 hf hk
  obtain ⟨g, rfl⟩ : ∃ g, f = g + 200 := ⟨f - 200, by omega⟩
  obtain ⟨tl1, e3, k3⟩ := kb_st hk
  have f1 := kb_f hk (show 2 < 3 by omega)
  have f2 := kb_f k3 (show 2 < 4 by omega)
  have z0 : ¬ nI (k + 1) ≤ 0 := nI_nle (by omega) (by omega)
  have z1 : nI (k + 1) + (-1) = nI k := nI_m1 k
  have z2 : ¬ (400 : Int32) ≤ nI s := nI_ge (b := 400) (by omega) (by omega)
  have z3 : nI k + 1 = nI (k + 1) := nI_1 k
  have g1 : ¬ nI k < 0 := nI_pos (by omega)
  have g2 : (nI k).toNatClampNeg = k := nI_clamp (by omega)
  have g3 : ¬ 400 ≤ k := by omega
  have kc := fun (c : Int32) (hc : okc c) => m_99 scr L (F + 62900) (d + 43) I J M s c (by omega) h28 hc
  have kk := kc 62 (by unfold okc; decide +kernel)
  rw [show F + 62900 + 100 = F + 63000 by omega] at kk
  rw [s_98_14]
  simp [s_98_0, s_98_1, s_98_2, s_98_3, s_98_6, s_98_7, s_98_8, s_98_9, s_98_10, s_98_11, s_98_15, s_98_18, s_98_19, s_98_22, s_98_25, s_98_28, s_98_31, s_98_32, s_98_35, s_98_36, s_98_37, s_98_38, s_98_39, s_98_42, s_98_43, s_98_44, s_98_45, s_98_46, s_98_49, s_98_52, s_98_53, s_98_54, s_98_57, s_98_58, s_98_59, s_98_62, s_98_64, s_98_67, s_98_68, s_98_69, s_98_72, s_98_74, s_98_77, s_98_79, s_98_82, s_98_85, s_98_86, s_98_89, s_98_90, s_98_91, s_98_92, s_98_95, s_98_96, s_98_98, s_98_101, s_98_102, s_98_105, s_98_106, s_98_107, s_98_110, s_98_111, s_98_112, s_98_113, s_98_116, s_98_119, s_98_120, s_98_122, s_98_125, s_98_126, s_98_129, s_98_130, s_98_132, s_98_133, s_98_134, s_98_137, s_98_138, s_98_139, s_98_140, s_98_141, s_98_144, s_98_145, s_98_146, s_98_147, s_98_148, s_98_151, s_98_152, s_98_153, s_98_154, s_98_156, s_98_157, s_98_158, s_98_161, s_98_162, s_98_163, s_98_164, s_98_165, s_98_168, s_98_169, s_98_170, s_98_171, s_98_174, s_98_177, ha_36, hg_36_0, hq_36_0, hg_36_1, hg_36_2, hq_36_2, hg_36_3, hg_36_4, hg_36_5, hg_36_6, hq_36_6, hg_36_7, hq_36_7, hg_36_8, hq_36_8, hg_36_9, hg_36_10, hg_36_11, hg_36_12, hg_36_13, hg_36_14, hg_36_15, hg_36_16, hg_36_17, hg_36_18, hq_36_18, hg_36_19, hg_36_20, hq_36_20, hg_36_21, hq_36_21, hg_36_22, hg_36_23, hq_36_23, hg_36_24, hg_36_25, hq_36_25, hg_36_26, hq_36_26, hg_36_27, hq_36_27, hg_36_28, hq_36_28, hg_36_29, hg_36_30, hg_36_31, hq_36_31, hg_36_32, hg_36_33, hg_36_34, hg_36_35, hq_36_35, hg_36_36, hg_36_37, hg_36_38, hg_36_39, hg_36_40, hq_36_40, hg_36_41, hg_36_42, hg_36_43, hg_36_44, hq_36_44, hg_36_45, hg_36_46, hg_36_47, hg_36_48, hg_36_49, hq_36_49, hg_36_50, hg_36_51, hq_36_51, hg_36_52, hq_36_52, hg_36_53, hq_36_53, hg_36_54, hq_36_54, hg_36_55, hq_36_55, hg_36_56, hq_36_56, hg_36_57, hg_36_58, hq_36_58, hg_36_59, hq_36_59, hg_36_60, hq_36_60, hg_36_61, hl_37, hs_37, hl_38, hs_38, hl_39, hs_39, hl_40, hs_40, hl_41, hs_41, hl_42, hs_42, hl_43, hs_43, hl_44, hs_44, hl_45, hs_45, hl_46, hs_46, hl_47, hs_47, hl_48, hs_48, hl_49, hs_49, hl_50, hs_50, hl_51, hs_51, hl_52, hs_52, hl_53, hs_53, hl_54, hs_54, hl_55, hs_55, hl_56, hs_56, hl_57, hs_57, hl_58, hs_58, hl_59, hs_59, hl_60, hs_60, hl_61, hs_61, hl_62, hs_62, hl_63, hs_63, hl_64, hs_64, hl_65, hs_65, hl_66, hs_66, hl_67, hs_67, hl_68, hs_68, hl_69, hs_69, hl_70, hs_70, hl_71, hs_71, am_ld_cons, am_ld_nil, am_st1_cons, am_st1_nil, am_st2_cons, am_st2_nil, am_P1, am_P2, Value.category, am_add_add, am_add0, am_add_some, e3, f1, f2, z0, z1, z2, z3, g1, g2, g3, h28, hp1, kk]
  exact key _ _ _ (by omega) (kb_cons (by omega) (kb_le (by omega) k3))
set_option maxRecDepth 100000 in
set_option maxHeartbeats 4000000 in
theorem h98_l0 (scr : Nat → Int32) (L F d : Nat) (I : am_I) (J : am_J) (M : am_I) (k s n0 : Nat) (R : Option am_X) (hk0 : k < 390) (hs : s < 400) (h28 : M 36 28 = nI s) (hp1 : M 54 k = 0) (key : h98 scr L F d I J (pu M s 105) k n0 R) : h98 scr L F d I J M (k + 1) (n0 + 200) R := by
  intro f tl x1 hf hk
  obtain ⟨g, rfl⟩ : ∃ g, f = g + 200 := ⟨f - 200, by omega⟩
  obtain ⟨tl1, e3, k3⟩ := kb_st hk
  have f1 := kb_f hk (show 2 < 3 by omega)
  have f2 := kb_f k3 (show 2 < 4 by omega)
  have z0 : ¬ nI (k + 1) ≤ 0 := nI_nle (by omega) (by omega)
  have z1 : nI (k + 1) + (-1) = nI k := nI_m1 k
  have z2 : ¬ (400 : Int32) ≤ nI s := nI_ge (b := 400) (by omega) (by omega)
  have z3 : nI k + 1 = nI (k + 1) := nI_1 k
  have g1 : ¬ nI k < 0 := nI_pos (by omega)
  have g2 : (nI k).toNatClampNeg = k := nI_clamp (by omega)
  have g3 : ¬ 400 ≤ k := by omega
  have kc := fun (c : Int32) (hc : okc c) => m_99 scr L (F + 62900) (d + 43) I J M s c (by omega) h28 hc
  have kk := kc 105 (by unfold okc; decide +kernel)
  rw [show F + 62900 + 100 = F + 63000 by omega] at kk
  rw [s_98_14]
  simp [s_98_0, s_98_1, s_98_2, s_98_3, s_98_6, s_98_7, s_98_8, s_98_9, s_98_10, s_98_11, s_98_15, s_98_18, s_98_19, s_98_22, s_98_25, s_98_28, s_98_31, s_98_32, s_98_35, s_98_36, s_98_37, s_98_38, s_98_39, s_98_42, s_98_43, s_98_44, s_98_45, s_98_46, s_98_49, s_98_52, s_98_53, s_98_54, s_98_57, s_98_58, s_98_59, s_98_62, s_98_64, s_98_67, s_98_68, s_98_69, s_98_72, s_98_74, s_98_77, s_98_79, s_98_82, s_98_85, s_98_86, s_98_89, s_98_90, s_98_91, s_98_92, s_98_95, s_98_96, s_98_98, s_98_101, s_98_102, s_98_105, s_98_106, s_98_107, s_98_110, s_98_111, s_98_112, s_98_113, s_98_116, s_98_119, s_98_120, s_98_122, s_98_125, s_98_126, s_98_129, s_98_130, s_98_132, s_98_133, s_98_134, s_98_137, s_98_138, s_98_139, s_98_140, s_98_141, s_98_144, s_98_145, s_98_146, s_98_147, s_98_148, s_98_151, s_98_152, s_98_153, s_98_154, s_98_156, s_98_157, s_98_158, s_98_161, s_98_162, s_98_163, s_98_164, s_98_165, s_98_168, s_98_169, s_98_170, s_98_171, s_98_174, s_98_177, ha_36, hg_36_0, hq_36_0, hg_36_1, hg_36_2, hq_36_2, hg_36_3, hg_36_4, hg_36_5, hg_36_6, hq_36_6, hg_36_7, hq_36_7, hg_36_8, hq_36_8, hg_36_9, hg_36_10, hg_36_11, hg_36_12, hg_36_13, hg_36_14, hg_36_15, hg_36_16, hg_36_17, hg_36_18, hq_36_18, hg_36_19, hg_36_20, hq_36_20, hg_36_21, hq_36_21, hg_36_22, hg_36_23, hq_36_23, hg_36_24, hg_36_25, hq_36_25, hg_36_26, hq_36_26, hg_36_27, hq_36_27, hg_36_28, hq_36_28, hg_36_29, hg_36_30, hg_36_31, hq_36_31, hg_36_32, hg_36_33, hg_36_34, hg_36_35, hq_36_35, hg_36_36, hg_36_37, hg_36_38, hg_36_39, hg_36_40, hq_36_40, hg_36_41, hg_36_42, hg_36_43, hg_36_44, hq_36_44, hg_36_45, hg_36_46, hg_36_47, hg_36_48, hg_36_49, hq_36_49, hg_36_50, hg_36_51, hq_36_51, hg_36_52, hq_36_52, hg_36_53, hq_36_53, hg_36_54, hq_36_54, hg_36_55, hq_36_55, hg_36_56, hq_36_56, hg_36_57, hg_36_58, hq_36_58, hg_36_59, hq_36_59, hg_36_60, hq_36_60, hg_36_61, hl_37, hs_37, hl_38, hs_38, hl_39, hs_39, hl_40, hs_40, hl_41, hs_41, hl_42, hs_42, hl_43, hs_43, hl_44, hs_44, hl_45, hs_45, hl_46, hs_46, hl_47, hs_47, hl_48, hs_48, hl_49, hs_49, hl_50, hs_50, hl_51, hs_51, hl_52, hs_52, hl_53, hs_53, hl_54, hs_54, hl_55, hs_55, hl_56, hs_56, hl_57, hs_57, hl_58, hs_58, hl_59, hs_59, hl_60, hs_60, hl_61, hs_61, hl_62, hs_62, hl_63, hs_63, hl_64, hs_64, hl_65, hs_65, hl_66, hs_66, hl_67, hs_67, hl_68, hs_68, hl_69, hs_69, hl_70, hs_70, hl_71, hs_71, am_ld_cons, am_ld_nil, am_st1_cons, am_st1_nil, am_st2_cons, am_st2_nil, am_P1, am_P2, Value.category, am_add_add, am_add0, am_add_some, e3, f1, f2, z0, z1, z2, z3, g1, g2, g3, h28, hp1, kk]
  exact key _ _ _ (by omega) (kb_cons (by omega) (kb_le (by omega) k3))
set_option maxRecDepth 100000 in
set_option maxHeartbeats 4000000 in
theorem h98_l1 (scr : Nat → Int32) (L F d : Nat) (I : am_I) (J : am_J) (M : am_I) (k s n0 : Nat) (R : Option am_X) (hk0 : k < 390) (hs : s < 400) (h28 : M 36 28 = nI s) (hp1 : M 54 k = 1) (key : h98 scr L F d I J (pu M s 98) k n0 R) : h98 scr L F d I J M (k + 1) (n0 + 200) R := by
  intro f tl x1 hf hk
  obtain ⟨g, rfl⟩ : ∃ g, f = g + 200 := ⟨f - 200, by omega⟩
  obtain ⟨tl1, e3, k3⟩ := kb_st hk
  have f1 := kb_f hk (show 2 < 3 by omega)
  have f2 := kb_f k3 (show 2 < 4 by omega)
  have z0 : ¬ nI (k + 1) ≤ 0 := nI_nle (by omega) (by omega)
  have z1 : nI (k + 1) + (-1) = nI k := nI_m1 k
  have z2 : ¬ (400 : Int32) ≤ nI s := nI_ge (b := 400) (by omega) (by omega)
  have z3 : nI k + 1 = nI (k + 1) := nI_1 k
  have g1 : ¬ nI k < 0 := nI_pos (by omega)
  have g2 : (nI k).toNatClampNeg = k := nI_clamp (by omega)
  have g3 : ¬ 400 ≤ k := by omega
  have kc := fun (c : Int32) (hc : okc c) => m_99 scr L (F + 62900) (d + 43) I J M s c (by omega) h28 hc
  have kk := kc 98 (by unfold okc; decide +kernel)
  rw [show F + 62900 + 100 = F + 63000 by omega] at kk
  rw [s_98_14]
  simp [s_98_0, s_98_1, s_98_2, s_98_3, s_98_6, s_98_7, s_98_8, s_98_9, s_98_10, s_98_11, s_98_15, s_98_18, s_98_19, s_98_22, s_98_25, s_98_28, s_98_31, s_98_32, s_98_35, s_98_36, s_98_37, s_98_38, s_98_39, s_98_42, s_98_43, s_98_44, s_98_45, s_98_46, s_98_49, s_98_52, s_98_53, s_98_54, s_98_57, s_98_58, s_98_59, s_98_62, s_98_64, s_98_67, s_98_68, s_98_69, s_98_72, s_98_74, s_98_77, s_98_79, s_98_82, s_98_85, s_98_86, s_98_89, s_98_90, s_98_91, s_98_92, s_98_95, s_98_96, s_98_98, s_98_101, s_98_102, s_98_105, s_98_106, s_98_107, s_98_110, s_98_111, s_98_112, s_98_113, s_98_116, s_98_119, s_98_120, s_98_122, s_98_125, s_98_126, s_98_129, s_98_130, s_98_132, s_98_133, s_98_134, s_98_137, s_98_138, s_98_139, s_98_140, s_98_141, s_98_144, s_98_145, s_98_146, s_98_147, s_98_148, s_98_151, s_98_152, s_98_153, s_98_154, s_98_156, s_98_157, s_98_158, s_98_161, s_98_162, s_98_163, s_98_164, s_98_165, s_98_168, s_98_169, s_98_170, s_98_171, s_98_174, s_98_177, ha_36, hg_36_0, hq_36_0, hg_36_1, hg_36_2, hq_36_2, hg_36_3, hg_36_4, hg_36_5, hg_36_6, hq_36_6, hg_36_7, hq_36_7, hg_36_8, hq_36_8, hg_36_9, hg_36_10, hg_36_11, hg_36_12, hg_36_13, hg_36_14, hg_36_15, hg_36_16, hg_36_17, hg_36_18, hq_36_18, hg_36_19, hg_36_20, hq_36_20, hg_36_21, hq_36_21, hg_36_22, hg_36_23, hq_36_23, hg_36_24, hg_36_25, hq_36_25, hg_36_26, hq_36_26, hg_36_27, hq_36_27, hg_36_28, hq_36_28, hg_36_29, hg_36_30, hg_36_31, hq_36_31, hg_36_32, hg_36_33, hg_36_34, hg_36_35, hq_36_35, hg_36_36, hg_36_37, hg_36_38, hg_36_39, hg_36_40, hq_36_40, hg_36_41, hg_36_42, hg_36_43, hg_36_44, hq_36_44, hg_36_45, hg_36_46, hg_36_47, hg_36_48, hg_36_49, hq_36_49, hg_36_50, hg_36_51, hq_36_51, hg_36_52, hq_36_52, hg_36_53, hq_36_53, hg_36_54, hq_36_54, hg_36_55, hq_36_55, hg_36_56, hq_36_56, hg_36_57, hg_36_58, hq_36_58, hg_36_59, hq_36_59, hg_36_60, hq_36_60, hg_36_61, hl_37, hs_37, hl_38, hs_38, hl_39, hs_39, hl_40, hs_40, hl_41, hs_41, hl_42, hs_42, hl_43, hs_43, hl_44, hs_44, hl_45, hs_45, hl_46, hs_46, hl_47, hs_47, hl_48, hs_48, hl_49, hs_49, hl_50, hs_50, hl_51, hs_51, hl_52, hs_52, hl_53, hs_53, hl_54, hs_54, hl_55, hs_55, hl_56, hs_56, hl_57, hs_57, hl_58, hs_58, hl_59, hs_59, hl_60, hs_60, hl_61, hs_61, hl_62, hs_62, hl_63, hs_63, hl_64, hs_64, hl_65, hs_65, hl_66, hs_66, hl_67, hs_67, hl_68, hs_68, hl_69, hs_69, hl_70, hs_70, hl_71, hs_71, am_ld_cons, am_ld_nil, am_st1_cons, am_st1_nil, am_st2_cons, am_st2_nil, am_P1, am_P2, Value.category, am_add_add, am_add0, am_add_some, e3, f1, f2, z0, z1, z2, z3, g1, g2, g3, h28, hp1, kk]
  exact key _ _ _ (by omega) (kb_cons (by omega) (kb_le (by omega) k3))
set_option maxRecDepth 100000 in
set_option maxHeartbeats 4000000 in
theorem h98_l2 (scr : Nat → Int32) (L F d : Nat) (I : am_I) (J : am_J) (M : am_I) (k s n0 : Nat) (R : Option am_X) (hk0 : k < 390) (hs : s < 400) (h28 : M 36 28 = nI s) (hp1 : M 54 k = 2) (key : h98 scr L F d I J (pu M s 63) k n0 R) : h98 scr L F d I J M (k + 1) (n0 + 200) R := by
  intro f tl x1 hf hk
  obtain ⟨g, rfl⟩ : ∃ g, f = g + 200 := ⟨f - 200, by omega⟩
  obtain ⟨tl1, e3, k3⟩ := kb_st hk
  have f1 := kb_f hk (show 2 < 3 by omega)
  have f2 := kb_f k3 (show 2 < 4 by omega)
  have z0 : ¬ nI (k + 1) ≤ 0 := nI_nle (by omega) (by omega)
  have z1 : nI (k + 1) + (-1) = nI k := nI_m1 k
  have z2 : ¬ (400 : Int32) ≤ nI s := nI_ge (b := 400) (by omega) (by omega)
  have z3 : nI k + 1 = nI (k + 1) := nI_1 k
  have g1 : ¬ nI k < 0 := nI_pos (by omega)
  have g2 : (nI k).toNatClampNeg = k := nI_clamp (by omega)
  have g3 : ¬ 400 ≤ k := by omega
  have kc := fun (c : Int32) (hc : okc c) => m_99 scr L (F + 62900) (d + 43) I J M s c (by omega) h28 hc
  have kk := kc 63 (by unfold okc; decide +kernel)
  rw [show F + 62900 + 100 = F + 63000 by omega] at kk
  rw [s_98_14]
  simp [s_98_0, s_98_1, s_98_2, s_98_3, s_98_6, s_98_7, s_98_8, s_98_9, s_98_10, s_98_11, s_98_15, s_98_18, s_98_19, s_98_22, s_98_25, s_98_28, s_98_31, s_98_32, s_98_35, s_98_36, s_98_37, s_98_38, s_98_39, s_98_42, s_98_43, s_98_44, s_98_45, s_98_46, s_98_49, s_98_52, s_98_53, s_98_54, s_98_57, s_98_58, s_98_59, s_98_62, s_98_64, s_98_67, s_98_68, s_98_69, s_98_72, s_98_74, s_98_77, s_98_79, s_98_82, s_98_85, s_98_86, s_98_89, s_98_90, s_98_91, s_98_92, s_98_95, s_98_96, s_98_98, s_98_101, s_98_102, s_98_105, s_98_106, s_98_107, s_98_110, s_98_111, s_98_112, s_98_113, s_98_116, s_98_119, s_98_120, s_98_122, s_98_125, s_98_126, s_98_129, s_98_130, s_98_132, s_98_133, s_98_134, s_98_137, s_98_138, s_98_139, s_98_140, s_98_141, s_98_144, s_98_145, s_98_146, s_98_147, s_98_148, s_98_151, s_98_152, s_98_153, s_98_154, s_98_156, s_98_157, s_98_158, s_98_161, s_98_162, s_98_163, s_98_164, s_98_165, s_98_168, s_98_169, s_98_170, s_98_171, s_98_174, s_98_177, ha_36, hg_36_0, hq_36_0, hg_36_1, hg_36_2, hq_36_2, hg_36_3, hg_36_4, hg_36_5, hg_36_6, hq_36_6, hg_36_7, hq_36_7, hg_36_8, hq_36_8, hg_36_9, hg_36_10, hg_36_11, hg_36_12, hg_36_13, hg_36_14, hg_36_15, hg_36_16, hg_36_17, hg_36_18, hq_36_18, hg_36_19, hg_36_20, hq_36_20, hg_36_21, hq_36_21, hg_36_22, hg_36_23, hq_36_23, hg_36_24, hg_36_25, hq_36_25, hg_36_26, hq_36_26, hg_36_27, hq_36_27, hg_36_28, hq_36_28, hg_36_29, hg_36_30, hg_36_31, hq_36_31, hg_36_32, hg_36_33, hg_36_34, hg_36_35, hq_36_35, hg_36_36, hg_36_37, hg_36_38, hg_36_39, hg_36_40, hq_36_40, hg_36_41, hg_36_42, hg_36_43, hg_36_44, hq_36_44, hg_36_45, hg_36_46, hg_36_47, hg_36_48, hg_36_49, hq_36_49, hg_36_50, hg_36_51, hq_36_51, hg_36_52, hq_36_52, hg_36_53, hq_36_53, hg_36_54, hq_36_54, hg_36_55, hq_36_55, hg_36_56, hq_36_56, hg_36_57, hg_36_58, hq_36_58, hg_36_59, hq_36_59, hg_36_60, hq_36_60, hg_36_61, hl_37, hs_37, hl_38, hs_38, hl_39, hs_39, hl_40, hs_40, hl_41, hs_41, hl_42, hs_42, hl_43, hs_43, hl_44, hs_44, hl_45, hs_45, hl_46, hs_46, hl_47, hs_47, hl_48, hs_48, hl_49, hs_49, hl_50, hs_50, hl_51, hs_51, hl_52, hs_52, hl_53, hs_53, hl_54, hs_54, hl_55, hs_55, hl_56, hs_56, hl_57, hs_57, hl_58, hs_58, hl_59, hs_59, hl_60, hs_60, hl_61, hs_61, hl_62, hs_62, hl_63, hs_63, hl_64, hs_64, hl_65, hs_65, hl_66, hs_66, hl_67, hs_67, hl_68, hs_68, hl_69, hs_69, hl_70, hs_70, hl_71, hs_71, am_ld_cons, am_ld_nil, am_st1_cons, am_st1_nil, am_st2_cons, am_st2_nil, am_P1, am_P2, Value.category, am_add_add, am_add0, am_add_some, e3, f1, f2, z0, z1, z2, z3, g1, g2, g3, h28, hp1, kk]
  exact key _ _ _ (by omega) (kb_cons (by omega) (kb_le (by omega) k3))
set_option maxRecDepth 100000 in
set_option maxHeartbeats 4000000 in
theorem h98_cell (scr : Nat → Int32) (L F d : Nat) (I : am_I) (J : am_J) (M : am_I) (k s n0 : Nat) (R : Option am_X) (hk0 : k < 390) (hs : s < 400) (h28 : M 36 28 = nI s) (t a : Nat) (hp1 : M 54 k = nI t) (ht : 3 ≤ t) (ht2 : t < 256) (h38 : M 38 t = 4) (h39 : M 39 t = nI a) (key : h98 scr L F d I J (wr (pu M s 38) 54 k (nI a)) (k + 1) n0 R) : h98 scr L F d I J M (k + 1) (n0 + 200) R := by
  intro f tl x1 hf hk
  obtain ⟨g, rfl⟩ : ∃ g, f = g + 200 := ⟨f - 200, by omega⟩
  obtain ⟨tl1, e3, k3⟩ := kb_st hk
  have f1 := kb_f hk (show 2 < 3 by omega)
  have f2 := kb_f k3 (show 2 < 4 by omega)
  have z0 : ¬ nI (k + 1) ≤ 0 := nI_nle (by omega) (by omega)
  have z1 : nI (k + 1) + (-1) = nI k := nI_m1 k
  have z2 : ¬ (400 : Int32) ≤ nI s := nI_ge (b := 400) (by omega) (by omega)
  have z3 : nI k + 1 = nI (k + 1) := nI_1 k
  have g1 : ¬ nI k < 0 := nI_pos (by omega)
  have g2 : (nI k).toNatClampNeg = k := nI_clamp (by omega)
  have g3 : ¬ 400 ≤ k := by omega
  have kc := fun (c : Int32) (hc : okc c) => m_99 scr L (F + 62900) (d + 43) I J M s c (by omega) h28 hc
  have t1 : ¬ nI t < 0 := nI_pos (by omega)
  have t2 : (nI t).toNatClampNeg = t := nI_clamp (by omega)
  have t3 : ¬ 256 ≤ t := by omega
  have t4 : (0 : Int32) ≤ nI t := nI_le (a := 0) (by omega) (by omega)
  have kk := kc 38 (by unfold okc; decide +kernel)
  rw [show F + 62900 + 100 = F + 63000 by omega] at kk
  have q1 : (3 : Int32) ≤ nI t := nI_le (a := 3) (by omega) (by omega)
  have w5 : pu M s 38 39 t = nI a := (pu_ne _ _ _ _ _ (by omega) (by omega)).trans h39
  rw [s_98_14]
  simp [s_98_0, s_98_1, s_98_2, s_98_3, s_98_6, s_98_7, s_98_8, s_98_9, s_98_10, s_98_11, s_98_15, s_98_18, s_98_19, s_98_22, s_98_25, s_98_28, s_98_31, s_98_32, s_98_35, s_98_36, s_98_37, s_98_38, s_98_39, s_98_42, s_98_43, s_98_44, s_98_45, s_98_46, s_98_49, s_98_52, s_98_53, s_98_54, s_98_57, s_98_58, s_98_59, s_98_62, s_98_64, s_98_67, s_98_68, s_98_69, s_98_72, s_98_74, s_98_77, s_98_79, s_98_82, s_98_85, s_98_86, s_98_89, s_98_90, s_98_91, s_98_92, s_98_95, s_98_96, s_98_98, s_98_101, s_98_102, s_98_105, s_98_106, s_98_107, s_98_110, s_98_111, s_98_112, s_98_113, s_98_116, s_98_119, s_98_120, s_98_122, s_98_125, s_98_126, s_98_129, s_98_130, s_98_132, s_98_133, s_98_134, s_98_137, s_98_138, s_98_139, s_98_140, s_98_141, s_98_144, s_98_145, s_98_146, s_98_147, s_98_148, s_98_151, s_98_152, s_98_153, s_98_154, s_98_156, s_98_157, s_98_158, s_98_161, s_98_162, s_98_163, s_98_164, s_98_165, s_98_168, s_98_169, s_98_170, s_98_171, s_98_174, s_98_177, ha_36, hg_36_0, hq_36_0, hg_36_1, hg_36_2, hq_36_2, hg_36_3, hg_36_4, hg_36_5, hg_36_6, hq_36_6, hg_36_7, hq_36_7, hg_36_8, hq_36_8, hg_36_9, hg_36_10, hg_36_11, hg_36_12, hg_36_13, hg_36_14, hg_36_15, hg_36_16, hg_36_17, hg_36_18, hq_36_18, hg_36_19, hg_36_20, hq_36_20, hg_36_21, hq_36_21, hg_36_22, hg_36_23, hq_36_23, hg_36_24, hg_36_25, hq_36_25, hg_36_26, hq_36_26, hg_36_27, hq_36_27, hg_36_28, hq_36_28, hg_36_29, hg_36_30, hg_36_31, hq_36_31, hg_36_32, hg_36_33, hg_36_34, hg_36_35, hq_36_35, hg_36_36, hg_36_37, hg_36_38, hg_36_39, hg_36_40, hq_36_40, hg_36_41, hg_36_42, hg_36_43, hg_36_44, hq_36_44, hg_36_45, hg_36_46, hg_36_47, hg_36_48, hg_36_49, hq_36_49, hg_36_50, hg_36_51, hq_36_51, hg_36_52, hq_36_52, hg_36_53, hq_36_53, hg_36_54, hq_36_54, hg_36_55, hq_36_55, hg_36_56, hq_36_56, hg_36_57, hg_36_58, hq_36_58, hg_36_59, hq_36_59, hg_36_60, hq_36_60, hg_36_61, hl_37, hs_37, hl_38, hs_38, hl_39, hs_39, hl_40, hs_40, hl_41, hs_41, hl_42, hs_42, hl_43, hs_43, hl_44, hs_44, hl_45, hs_45, hl_46, hs_46, hl_47, hs_47, hl_48, hs_48, hl_49, hs_49, hl_50, hs_50, hl_51, hs_51, hl_52, hs_52, hl_53, hs_53, hl_54, hs_54, hl_55, hs_55, hl_56, hs_56, hl_57, hs_57, hl_58, hs_58, hl_59, hs_59, hl_60, hs_60, hl_61, hs_61, hl_62, hs_62, hl_63, hs_63, hl_64, hs_64, hl_65, hs_65, hl_66, hs_66, hl_67, hs_67, hl_68, hs_68, hl_69, hs_69, hl_70, hs_70, hl_71, hs_71, am_ld_cons, am_ld_nil, am_st1_cons, am_st1_nil, am_st2_cons, am_st2_nil, am_P1, am_P2, Value.category, am_add_add, am_add0, am_add_some, e3, f1, f2, z0, z1, z2, z3, g1, g2, g3, h28, hp1, kk, t1, t2, t3, t4, q1, h38, w5, wr_fold]
  exact key _ _ _ (by omega) (kb_cons (by omega) (kb_le (by omega) k3))
set_option maxRecDepth 100000 in
set_option maxHeartbeats 4000000 in
theorem h98_fun (scr : Nat → Int32) (L F d : Nat) (I : am_I) (J : am_J) (M : am_I) (k s n0 : Nat) (R : Option am_X) (hk0 : k < 390) (hs : s < 400) (h28 : M 36 28 = nI s) (t a b : Nat) (hp1 : M 54 k = nI t) (ht : 3 ≤ t) (ht2 : t < 256) (h38 : M 38 t = 3) (h39 : M 39 t = nI a) (h40 : M 40 t = nI b) (key : h98 scr L F d I J (wr (wr (wr (wr (pu M s 40) 54 k (-42)) 54 (k + 1) (nI b)) 54 (k + 2) (-63)) 54 (k + 3) (nI a)) (k + 4) n0 R) : h98 scr L F d I J M (k + 1) (n0 + 200) R := by
  intro f tl x1 hf hk
  obtain ⟨g, rfl⟩ : ∃ g, f = g + 200 := ⟨f - 200, by omega⟩
  obtain ⟨tl1, e3, k3⟩ := kb_st hk
  have f1 := kb_f hk (show 2 < 3 by omega)
  have f2 := kb_f k3 (show 2 < 4 by omega)
  have z0 : ¬ nI (k + 1) ≤ 0 := nI_nle (by omega) (by omega)
  have z1 : nI (k + 1) + (-1) = nI k := nI_m1 k
  have z2 : ¬ (400 : Int32) ≤ nI s := nI_ge (b := 400) (by omega) (by omega)
  have z3 : nI k + 1 = nI (k + 1) := nI_1 k
  have g1 : ¬ nI k < 0 := nI_pos (by omega)
  have g2 : (nI k).toNatClampNeg = k := nI_clamp (by omega)
  have g3 : ¬ 400 ≤ k := by omega
  have kc := fun (c : Int32) (hc : okc c) => m_99 scr L (F + 62900) (d + 43) I J M s c (by omega) h28 hc
  have t1 : ¬ nI t < 0 := nI_pos (by omega)
  have t2 : (nI t).toNatClampNeg = t := nI_clamp (by omega)
  have t3 : ¬ 256 ≤ t := by omega
  have t4 : (0 : Int32) ≤ nI t := nI_le (a := 0) (by omega) (by omega)
  have kk := kc 40 (by unfold okc; decide +kernel)
  rw [show F + 62900 + 100 = F + 63000 by omega] at kk
  have q1 : (3 : Int32) ≤ nI t := nI_le (a := 3) (by omega) (by omega)
  have w5 : wr (wr (wr (pu M s 40) 54 k (-42)) 54 (k + 1) (nI b)) 54 (k + 2) (-63) 39 t = nI a := by
    rw [wr_ap _ _ _ _ _ _ (by omega), wr_ap _ _ _ _ _ _ (by omega), wr_ap _ _ _ _ _ _ (by omega)]
    exact (pu_ne _ _ _ _ _ (by omega) (by omega)).trans h39
  have w6 : wr (pu M s 40) 54 k (-42) 40 t = nI b := by
    rw [wr_ap _ _ _ _ _ _ (by omega)]
    exact (pu_ne _ _ _ _ _ (by omega) (by omega)).trans h40
  have a1 : ¬ nI (k + 1) < 0 := nI_pos (by omega)
  have a2 : (nI (k + 1)).toNatClampNeg = k + 1 := nI_clamp (by omega)
  have a3 : ¬ 400 ≤ k + 1 := by omega
  have b0 : nI k + 2 = nI (k + 2) := nI_p2 k
  have b1 : ¬ nI (k + 2) < 0 := nI_pos (by omega)
  have b2 : (nI (k + 2)).toNatClampNeg = k + 2 := nI_clamp (by omega)
  have b3 : ¬ 400 ≤ k + 2 := by omega
  have c0 : nI k + 3 = nI (k + 3) := nI_add k 3
  have c1 : ¬ nI (k + 3) < 0 := nI_pos (by omega)
  have c2 : (nI (k + 3)).toNatClampNeg = k + 3 := nI_clamp (by omega)
  have c3 : ¬ 400 ≤ k + 3 := by omega
  have d0 : nI k + 4 = nI (k + 4) := nI_add k 4
  rw [s_98_14]
  simp [s_98_0, s_98_1, s_98_2, s_98_3, s_98_6, s_98_7, s_98_8, s_98_9, s_98_10, s_98_11, s_98_15, s_98_18, s_98_19, s_98_22, s_98_25, s_98_28, s_98_31, s_98_32, s_98_35, s_98_36, s_98_37, s_98_38, s_98_39, s_98_42, s_98_43, s_98_44, s_98_45, s_98_46, s_98_49, s_98_52, s_98_53, s_98_54, s_98_57, s_98_58, s_98_59, s_98_62, s_98_64, s_98_67, s_98_68, s_98_69, s_98_72, s_98_74, s_98_77, s_98_79, s_98_82, s_98_85, s_98_86, s_98_89, s_98_90, s_98_91, s_98_92, s_98_95, s_98_96, s_98_98, s_98_101, s_98_102, s_98_105, s_98_106, s_98_107, s_98_110, s_98_111, s_98_112, s_98_113, s_98_116, s_98_119, s_98_120, s_98_122, s_98_125, s_98_126, s_98_129, s_98_130, s_98_132, s_98_133, s_98_134, s_98_137, s_98_138, s_98_139, s_98_140, s_98_141, s_98_144, s_98_145, s_98_146, s_98_147, s_98_148, s_98_151, s_98_152, s_98_153, s_98_154, s_98_156, s_98_157, s_98_158, s_98_161, s_98_162, s_98_163, s_98_164, s_98_165, s_98_168, s_98_169, s_98_170, s_98_171, s_98_174, s_98_177, ha_36, hg_36_0, hq_36_0, hg_36_1, hg_36_2, hq_36_2, hg_36_3, hg_36_4, hg_36_5, hg_36_6, hq_36_6, hg_36_7, hq_36_7, hg_36_8, hq_36_8, hg_36_9, hg_36_10, hg_36_11, hg_36_12, hg_36_13, hg_36_14, hg_36_15, hg_36_16, hg_36_17, hg_36_18, hq_36_18, hg_36_19, hg_36_20, hq_36_20, hg_36_21, hq_36_21, hg_36_22, hg_36_23, hq_36_23, hg_36_24, hg_36_25, hq_36_25, hg_36_26, hq_36_26, hg_36_27, hq_36_27, hg_36_28, hq_36_28, hg_36_29, hg_36_30, hg_36_31, hq_36_31, hg_36_32, hg_36_33, hg_36_34, hg_36_35, hq_36_35, hg_36_36, hg_36_37, hg_36_38, hg_36_39, hg_36_40, hq_36_40, hg_36_41, hg_36_42, hg_36_43, hg_36_44, hq_36_44, hg_36_45, hg_36_46, hg_36_47, hg_36_48, hg_36_49, hq_36_49, hg_36_50, hg_36_51, hq_36_51, hg_36_52, hq_36_52, hg_36_53, hq_36_53, hg_36_54, hq_36_54, hg_36_55, hq_36_55, hg_36_56, hq_36_56, hg_36_57, hg_36_58, hq_36_58, hg_36_59, hq_36_59, hg_36_60, hq_36_60, hg_36_61, hl_37, hs_37, hl_38, hs_38, hl_39, hs_39, hl_40, hs_40, hl_41, hs_41, hl_42, hs_42, hl_43, hs_43, hl_44, hs_44, hl_45, hs_45, hl_46, hs_46, hl_47, hs_47, hl_48, hs_48, hl_49, hs_49, hl_50, hs_50, hl_51, hs_51, hl_52, hs_52, hl_53, hs_53, hl_54, hs_54, hl_55, hs_55, hl_56, hs_56, hl_57, hs_57, hl_58, hs_58, hl_59, hs_59, hl_60, hs_60, hl_61, hs_61, hl_62, hs_62, hl_63, hs_63, hl_64, hs_64, hl_65, hs_65, hl_66, hs_66, hl_67, hs_67, hl_68, hs_68, hl_69, hs_69, hl_70, hs_70, hl_71, hs_71, am_ld_cons, am_ld_nil, am_st1_cons, am_st1_nil, am_st2_cons, am_st2_nil, am_P1, am_P2, Value.category, am_add_add, am_add0, am_add_some, e3, f1, f2, z0, z1, z2, z3, g1, g2, g3, h28, hp1, kk, t1, t2, t3, t4, q1, h38, w5, w6, wr_fold, a1, a2, a3, b0, b1, b2, b3, c0, c1, c2, c3, d0]
  exact key _ _ _ (by omega) (kb_cons (by omega) (kb_le (by omega) k3))
/-- what lies on the pile: a sign, or a type with its height -/
abbrev pit : Type := Int32 ⊕ (Nat × Nat)
def pitT (M : am_I) : pit → List Int32
  | .inl c => [c]
  | .inr q => wt M q.1 q.2
def pitO (M : am_I) (c : Nat) : pit → Prop
  | .inl x => x = 41 ∨ x = 62
  | .inr q => q.2 < c ∧ hb M q.1 q.2
def pitV : pit → Int32
  | .inl x => -1 - x
  | .inr q => nI q.2
def ptx (M : am_I) : List pit → List Int32
  | [] => []
  | q :: r => pitT M q ++ ptx M r
def pok (M : am_I) (c : Nat) : List pit → Prop
  | [] => True
  | q :: r => pitO M c q ∧ M 54 r.length = pitV q ∧ pok M c r
theorem pok_X {M M' : am_I} {c : Nat} (e1 : M' 38 = M 38) (e2 : M' 39 = M 39) (e3 : M' 40 = M 40) : ∀ (r : List pit) (b : Nat), r.length ≤ b → (∀ k, k < b → M' 54 k = M 54 k) → pok M c r → pok M' c r
  | [], _, _, _, _ => trivial
  | q :: r, b, hb1, h, ⟨h1, h2, h3⟩ => by
    simp only [List.length_cons] at hb1
    refine ⟨?_, (h _ (by omega)).trans h2, pok_X e1 e2 e3 r b (by omega) h h3⟩
    cases q with
    | inl x => exact h1
    | inr q => exact ⟨h1.1, hb_eq e1 e2 e3 h1.2⟩
theorem ptx_M {M M' : am_I} (e1 : M' 38 = M 38) (e2 : M' 39 = M 39) (e3 : M' 40 = M 40) : ∀ (r : List pit), ptx M' r = ptx M r
  | [] => rfl
  | q :: r => by
    rw [ptx, ptx, ptx_M e1 e2 e3 r]
    cases q with
    | inl x => rfl
    | inr q => rw [pitT, pitT, wt_M e1 e2 e3]
theorem pok_len {I M : am_I} {c : Nat} (hR : tyR I M c) : ∀ (r : List pit), pok M c r → r.length ≤ (ptx M r).length
  | [], _ => Nat.le_refl _
  | q :: r, h => by
    have := pok_len hR r h.2.2
    rw [ptx, List.length_append, List.length_cons]
    have : 1 ≤ (pitT M q).length := by
      cases q with
      | inl x => exact Nat.le_refl _
      | inr q =>
        rw [pitT, wt_len hR _ _ h.1.1 h.1.2]
        exact (ty_len hR h.1.1).2.1
    omega
/-- only the shown text and the pile have changed -/
def puF (M M' : am_I) : Prop := ∀ x y, ¬ x = 53 → ¬ x = 54 → ¬ (x = 36 ∧ y = 28) → M' x y = M x y
theorem puF_r {M M' : am_I} (h : puF M M') {x : Nat} (h1 : ¬ x = 53) (h2 : ¬ x = 54) (h3 : ¬ x = 36) : M' x = M x := funext (fun y => h x y h1 h2 (fun z => h3 z.1))
theorem puF_t {M M1 M2 : am_I} (h : puF M M1) (g : puF M1 M2) : puF M M2 := fun x y a b c => (g x y a b c).trans (h x y a b c)
theorem puF_pu (M : am_I) (s : Nat) (c : Int32) : puF M (pu M s c) := fun x y a b d => pu_ne M s x y c a d
theorem puF_54 (M : am_I) (k : Nat) (v : Int32) : puF M (wr M 54 k v) := fun x y a b d => wr_ap _ _ _ _ _ _ b
def put1 (M : am_I) (s : Nat) (c : Int32) (M' : am_I) : Prop := puF M M' ∧ M' 36 28 = nI (s + 1) ∧ M' 53 s = c ∧ ∀ j, j < s → M' 53 j = M 53 j
theorem pu_1 (M : am_I) (s : Nat) (c : Int32) : put1 M s c (pu M s c) := by
  refine ⟨puF_pu M s c, wr_s _ _ _ _, ?_, fun j hj => ?_⟩
  · unfold pu
    rw [wr_ap _ _ _ _ _ _ (by omega)]
    exact wr_s _ _ _ _
  · unfold pu
    rw [wr_ap _ _ _ _ _ _ (by omega)]
    exact wr_n2 _ _ _ _ _ (by omega)
theorem pu_54 {M M' : am_I} {s k : Nat} {c v : Int32} (h : put1 M s c M') : put1 M s c (wr M' 54 k v) := by
  refine ⟨puF_t h.1 (puF_54 _ _ _), (wr_ap _ _ _ _ _ _ (by omega)).trans h.2.1, (wr_ap _ _ _ _ _ _ (by omega)).trans h.2.2.1, fun j hj => (wr_ap _ _ _ _ _ _ (by omega)).trans (h.2.2.2 j hj)⟩
/-- the text, written -/
def shn (M : am_I) (s : Nat) (x : List Int32) (M1 : am_I) : Prop := puF M M1 ∧ M1 36 28 = nI (s + x.length) ∧ (∀ j, j < s → M1 53 j = M 53 j) ∧ ∀ j, j < x.length → M1 53 (s + j) = x.getD j (-1)
theorem shn_c {M M' M1 : am_I} {s : Nat} {c : Int32} {x : List Int32} (h : put1 M s c M') (g : shn M' (s + 1) x M1) : shn M s (c :: x) M1 := by
  refine ⟨puF_t h.1 g.1, ?_, fun j hj => (g.2.2.1 j (by omega)).trans (h.2.2.2 j hj), fun j hj => ?_⟩
  · rw [g.2.1, List.length_cons, show s + 1 + x.length = s + (x.length + 1) by omega]
  · cases j with
    | zero => exact (g.2.2.1 s (by omega)).trans h.2.2.1
    | succ j =>
      rw [gD_s, show s + (j + 1) = s + 1 + j by omega]
      exact g.2.2.2 j (by rw [List.length_cons] at hj; omega)
theorem h98_le {scr : Nat → Int32} {L F d : Nat} {I : am_I} {J : am_J} {M : am_I} {n N N' : Nat} {R : Option am_X} (h : N ≤ N') (g : h98 scr L F d I J M n N R) : h98 scr L F d I J M n N' R := fun f tl x a b => g f tl x (by omega) b
theorem tyR_pu {I M M' : am_I} {c : Nat} (h : puF M M') (hR : tyR I M c) : tyR I M' c := tyR_congr rfl rfl rfl rfl rfl (h 36 2 (by omega) (by omega) (by omega)) (h 36 6 (by omega) (by omega) (by omega)) (h 36 7 (by omega) (by omega) (by omega)) (puF_r h (by omega) (by omega) (by omega)) (puF_r h (by omega) (by omega) (by omega)) (puF_r h (by omega) (by omega) (by omega)) hR
theorem wl_loop {I1 : am_I} {c : Nat} : ∀ (W : Nat) (r : List pit) (M : am_I) (s : Nat), tyR I1 M c → pok M c r → (ptx M r).length = W → s + W ≤ 200 → M 36 28 = nI s → ∃ M1, shn M s (ptx M r) M1 ∧ ∀ (scr : Nat → Int32) (L F d : Nat) (I : am_I) (J : am_J), h98 scr L F d I J M r.length (200 * (W + 1)) (some (none, hp I J M1, 0, 0)) := by
  intro W
  induction W with
  | zero =>
    intro r M s hR ho hl hW h28
    have hq := pok_len hR r ho
    cases r with
    | nil => exact ⟨M, ⟨fun _ _ _ _ _ => rfl, h28, fun _ _ => rfl, fun j hj => absurd hj (Nat.not_lt_zero _)⟩, fun scr L F d I J => h98_le (by omega) (h98_end scr L F d I J M)⟩
    | cons q r =>
      rw [List.length_cons] at hq
      omega
  | succ W ih =>
    intro r M s hR ho hl hW h28
    have hc := hR.1
    have hc2 := hR.2.1
    have hq := pok_len hR r ho
    cases r with
    | nil =>
      rw [ptx, List.length_nil] at hl
      omega
    | cons q r =>
      obtain ⟨o1, o2, o3⟩ := ho
      rw [List.length_cons] at hq
      have step : ∀ (M' : am_I) (ch : Int32) (r' : List pit), put1 M s ch M' → pok M' c r' → ptx M (q :: r) = ch :: ptx M r' → (∀ (scr : Nat → Int32) (L F d : Nat) (I : am_I) (J : am_J) (n0 : Nat) (R : Option am_X), h98 scr L F d I J M' r'.length n0 R → h98 scr L F d I J M (r.length + 1) (n0 + 200) R) → ∃ M1, shn M s (ptx M (q :: r)) M1 ∧ ∀ (scr : Nat → Int32) (L F d : Nat) (I : am_I) (J : am_J), h98 scr L F d I J M (r.length + 1) (200 * (W + 1 + 1)) (some (none, hp I J M1, 0, 0)) := by
        intro M' ch r' hp1 hk he hr
        have e38 := puF_r hp1.1 (x := 38) (by omega) (by omega) (by omega)
        have e39 := puF_r hp1.1 (x := 39) (by omega) (by omega) (by omega)
        have e40 := puF_r hp1.1 (x := 40) (by omega) (by omega) (by omega)
        rw [he, List.length_cons] at hl
        obtain ⟨M1, g1, g2⟩ := ih r' M' (s + 1) (tyR_pu hp1.1 hR) hk (by rw [ptx_M e38 e39 e40]; omega) (by omega) hp1.2.1
        refine ⟨M1, ?_, fun scr L F d I J => ?_⟩
        · rw [he, ← ptx_M e38 e39 e40 r']
          exact shn_c hp1 g1
        · rw [show 200 * (W + 1 + 1) = 200 * (W + 1) + 200 by omega]
          exact hr scr L F d I J _ _ (g2 scr L F d I J)
      have f1 := fun (ch : Int32) => pok_X (c := c) (puF_r (puF_pu M s ch) (x := 38) (by omega) (by omega) (by omega)) (puF_r (puF_pu M s ch) (x := 39) (by omega) (by omega) (by omega)) (puF_r (puF_pu M s ch) (x := 40) (by omega) (by omega) (by omega)) r r.length (Nat.le_refl _) (fun k _ => pu_ne M s 54 k ch (by omega) (by omega)) o3
      rw [List.length_cons]
      cases q with
      | inl x =>
        rcases o1 with rfl | rfl
        · exact step (pu M s 41) 41 r (pu_1 M s 41) (f1 41) rfl (fun scr L F d I J n0 R key => h98_rp scr L F d I J M r.length s n0 R (by omega) (by omega) h28 (o2.trans (by decide +kernel)) key)
        · exact step (pu M s 62) 62 r (pu_1 M s 62) (f1 62) rfl (fun scr L F d I J n0 R key => h98_gt scr L F d I J M r.length s n0 R (by omega) (by omega) h28 (o2.trans (by decide +kernel)) key)
      | inr q =>
        obtain ⟨h, t⟩ := q
        obtain ⟨p1, p2⟩ := o1
        simp only at p1 p2
        have o4 : M 54 r.length = nI t := o2
        rcases ty_kind hR p1 with ⟨k1, k2, k3⟩ | ⟨k1, k2, k3, k4, k5, k6, k7, k8, k9⟩ | ⟨k1, k2, k3, k4, k5, k6⟩
        · have e0 : ∀ M, ptx M (.inr (h, t) :: r) = jk_ch (tm t) :: ptx M r := fun M => by
            rw [ptx, pitT, wt_3 k1]
            rfl
          rcases (show t = 0 ∨ t = 1 ∨ t = 2 by omega) with rfl | rfl | rfl
          · exact step (pu M s 105) 105 r (pu_1 M s 105) (f1 105) (e0 M) (fun scr L F d I J n0 R key => h98_l0 scr L F d I J M r.length s n0 R (by omega) (by omega) h28 (o4.trans (by decide +kernel)) key)
          · exact step (pu M s 98) 98 r (pu_1 M s 98) (f1 98) (e0 M) (fun scr L F d I J n0 R key => h98_l1 scr L F d I J M r.length s n0 R (by omega) (by omega) h28 (o4.trans (by decide +kernel)) key)
          · exact step (pu M s 63) 63 r (pu_1 M s 63) (f1 63) (e0 M) (fun scr L F d I J n0 R key => h98_l2 scr L F d I J M r.length s n0 R (by omega) (by omega) h28 (o4.trans (by decide +kernel)) key)
        · obtain ⟨h, rfl⟩ : ∃ i, h = i + 1 := by
            cases h with
            | zero => have : t < 3 := p2; omega
            | succ h => exact ⟨h, rfl⟩
          have hq2 := hb_AB k1 p2 k6 (by omega) (by omega)
          have hqb := hq2.2 k2 k7 (by omega)
          have hP : put1 M s 40 (wr (wr (wr (wr (pu M s 40) 54 r.length (-42)) 54 (r.length + 1) (nI (tB M t))) 54 (r.length + 2) (-63)) 54 (r.length + 3) (nI (tA M t))) := pu_54 (pu_54 (pu_54 (pu_54 (pu_1 M s 40))))
          have e38 := puF_r hP.1 (x := 38) (by omega) (by omega) (by omega)
          have e39 := puF_r hP.1 (x := 39) (by omega) (by omega) (by omega)
          have e40 := puF_r hP.1 (x := 40) (by omega) (by omega) (by omega)
          refine step _ 40 (.inr (h, tA M t) :: .inl 62 :: .inr (h, tB M t) :: .inl 41 :: r) hP ⟨⟨by simp only; omega, hb_eq e38 e39 e40 hq2.1⟩, wr_s _ _ _ _, .inr rfl, ?_, ⟨by simp only; omega, hb_eq e38 e39 e40 hqb⟩, ?_, .inl rfl, ?_, pok_X e38 e39 e40 r r.length (Nat.le_refl _) (fun k hk => ?_) o3⟩ ?_ (fun scr L F d I J n0 R key => h98_fun scr L F d I J M r.length s n0 R (by omega) (by omega) h28 t (tA M t) (tB M t) o4 k1 (by omega) k2 k6 k7 key)
          · exact (wr_n2 _ _ _ _ _ (by simp only [List.length_cons]; omega)).trans ((wr_s _ _ _ _).trans (by decide +kernel))
          · exact (wr_n2 _ _ _ _ _ (by simp only [List.length_cons]; omega)).trans ((wr_n2 _ _ _ _ _ (by simp only [List.length_cons]; omega)).trans (wr_s _ _ _ _))
          · exact (wr_n2 _ _ _ _ _ (by omega)).trans ((wr_n2 _ _ _ _ _ (by omega)).trans ((wr_n2 _ _ _ _ _ (by omega)).trans ((wr_s _ _ _ _).trans (by decide +kernel))))
          · exact (wr_n2 _ _ _ _ _ (by omega)).trans ((wr_n2 _ _ _ _ _ (by omega)).trans ((wr_n2 _ _ _ _ _ (by omega)).trans ((wr_n2 _ _ _ _ _ (by omega)).trans (pu_ne M s 54 k 40 (by omega) (by omega)))))
          · simp only [ptx, pitT, wt_f k1 k2, List.cons_append, List.append_assoc, List.nil_append]
        · obtain ⟨h, rfl⟩ : ∃ i, h = i + 1 := by
            cases h with
            | zero => have : t < 3 := p2; omega
            | succ h => exact ⟨h, rfl⟩
          have hq2 := hb_AB k1 p2 k5 (by omega) (by omega)
          have hP : put1 M s 38 (wr (pu M s 38) 54 r.length (nI (tA M t))) := pu_54 (pu_1 M s 38)
          have e38 := puF_r hP.1 (x := 38) (by omega) (by omega) (by omega)
          have e39 := puF_r hP.1 (x := 39) (by omega) (by omega) (by omega)
          have e40 := puF_r hP.1 (x := 40) (by omega) (by omega) (by omega)
          refine step _ 38 (.inr (h, tA M t) :: r) hP ⟨⟨by simp only; omega, hb_eq e38 e39 e40 hq2.1⟩, wr_s _ _ _ _, pok_X e38 e39 e40 r r.length (Nat.le_refl _) (fun k hk => ?_) o3⟩ ?_ (fun scr L F d I J n0 R key => h98_cell scr L F d I J M r.length s n0 R (by omega) (by omega) h28 t (tA M t) o4 k1 (by omega) k2 k5 key)
          · exact (wr_n2 _ _ _ _ _ (by omega)).trans (pu_ne M s 54 k 38 (by omega) (by omega))
          · simp only [ptx, pitT, wt_4 k1 k2, List.cons_append]
set_option maxRecDepth 100000 in
set_option maxHeartbeats 4000000 in
theorem r98_go {I1 M : am_I} {c h t : Nat} (hR : tyR I1 M c) (ht : t < c) (hh : hb M h t) : ∃ M1, puF M M1 ∧ M1 36 28 = nI (tln I1 t) ∧ (∀ j, j < tln I1 t → M1 53 j = (wt M h t).getD j (-1)) ∧ ∀ (scr : Nat → Int32) (L F d : Nat) (I : am_I) (J : am_J), am_r scr L (F + 63000) (d + 45) 98 [.ref 37, .int (nI t)] (hp I J M) = some (none, hp I J M1, 0, 0) := by
  have hc := hR.2.1
  have hl := ty_len hR ht
  have hw := wt_len hR h t ht hh
  have hF : puF M (wr (wr M 54 0 (nI t)) 36 28 0) := puF_t (puF_54 _ _ _) (fun x y a b d => wr_q _ _ _ _ _ _ d)
  have e38 := puF_r hF (x := 38) (by omega) (by omega) (by omega)
  have e39 := puF_r hF (x := 39) (by omega) (by omega) (by omega)
  have e40 := puF_r hF (x := 40) (by omega) (by omega) (by omega)
  have e1 : ptx (wr (wr M 54 0 (nI t)) 36 28 0) [.inr (h, t)] = wt M h t := by
    rw [ptx_M e38 e39 e40]
    simp only [ptx, pitT, List.append_nil]
  obtain ⟨M1, g1, g2⟩ := wl_loop (I1 := I1) (c := c) (tln I1 t) [.inr (h, t)] (wr (wr M 54 0 (nI t)) 36 28 0) 0 (tyR_pu hF hR) ⟨⟨ht, hb_eq e38 e39 e40 hh⟩, (wr_ap _ _ _ _ _ _ (by omega)).trans (wr_s _ _ _ _), trivial⟩ (by rw [e1]; exact hw) (by omega) ((wr_s _ _ _ _).trans nI_0.symm)
  rw [e1] at g1
  obtain ⟨u1, u2, u3, u4⟩ := g1
  refine ⟨M1, puF_t hF u1, by rw [u2, hw, Nat.zero_add], fun j hj => by have := u4 j (by omega); rw [Nat.zero_add] at this; exact this, fun scr L F d I J => ?_⟩
  have key := g2 scr L F d I J
  unfold h98 at key
  rw [List.length_singleton, show nI 1 = 1 from by decide +kernel] at key
  have t0 : (0 : Int32).toNatClampNeg = 0 := by decide +kernel
  simp [r_98, s_98_0, s_98_1, s_98_2, s_98_3, s_98_6, s_98_7, s_98_8, s_98_9, s_98_10, s_98_11, ha_36, hg_36_0, hq_36_0, hg_36_1, hg_36_2, hq_36_2, hg_36_3, hg_36_4, hg_36_5, hg_36_6, hq_36_6, hg_36_7, hq_36_7, hg_36_8, hq_36_8, hg_36_9, hg_36_10, hg_36_11, hg_36_12, hg_36_13, hg_36_14, hg_36_15, hg_36_16, hg_36_17, hg_36_18, hq_36_18, hg_36_19, hg_36_20, hq_36_20, hg_36_21, hq_36_21, hg_36_22, hg_36_23, hq_36_23, hg_36_24, hg_36_25, hq_36_25, hg_36_26, hq_36_26, hg_36_27, hq_36_27, hg_36_28, hq_36_28, hg_36_29, hg_36_30, hg_36_31, hq_36_31, hg_36_32, hg_36_33, hg_36_34, hg_36_35, hq_36_35, hg_36_36, hg_36_37, hg_36_38, hg_36_39, hg_36_40, hq_36_40, hg_36_41, hg_36_42, hg_36_43, hg_36_44, hq_36_44, hg_36_45, hg_36_46, hg_36_47, hg_36_48, hg_36_49, hq_36_49, hg_36_50, hg_36_51, hq_36_51, hg_36_52, hq_36_52, hg_36_53, hq_36_53, hg_36_54, hq_36_54, hg_36_55, hq_36_55, hg_36_56, hq_36_56, hg_36_57, hg_36_58, hq_36_58, hg_36_59, hq_36_59, hg_36_60, hq_36_60, hg_36_61, hl_37, hs_37, hl_38, hs_38, hl_39, hs_39, hl_40, hs_40, hl_41, hs_41, hl_42, hs_42, hl_43, hs_43, hl_44, hs_44, hl_45, hs_45, hl_46, hs_46, hl_47, hs_47, hl_48, hs_48, hl_49, hs_49, hl_50, hs_50, hl_51, hs_51, hl_52, hs_52, hl_53, hs_53, hl_54, hs_54, hl_55, hs_55, hl_56, hs_56, hl_57, hs_57, hl_58, hs_58, hl_59, hs_59, hl_60, hs_60, hl_61, hs_61, hl_62, hs_62, hl_63, hs_63, hl_64, hs_64, hl_65, hs_65, hl_66, hs_66, hl_67, hs_67, hl_68, hs_68, hl_69, hs_69, hl_70, hs_70, hl_71, hs_71, am_ld_cons, am_ld_nil, am_st1_cons, am_st1_nil, am_st2_cons, am_st2_nil, am_P1, am_P2, Value.category, am_add_add, am_add0, am_add_some, t0, wr_fold]
  exact key _ _ _ (by omega) (kb_nil 3)
