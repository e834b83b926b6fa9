/-! Reading an expression: the turns of the reference's loop. -/
def hO (scr : Nat → Int32) (L F d : Nat) (I : am_I) (J : am_J) (N r : Nat) (M : am_I) (R : Option am_X) : Prop := ∀ (f : Nat) (tl : am_L), N ≤ f → kb 2 tl → am_f (d + 30) scr L (am_r scr L (F + 63000) (d + 30)) 109 f 22 ((0, .ref 37) :: (1, .int (nI r)) :: tl) [] (hp I J M) = R
def hC (scr : Nat → Int32) (L F d : Nat) (I : am_I) (J : am_J) (N r got : Nat) (M : am_I) (R : Option am_X) : Prop := ∀ (f : Nat) (tl : am_L) (x y : Int32), N ≤ f → kb 5 tl → am_f (d + 30) scr L (am_r scr L (F + 63000) (d + 30)) 109 f 89 ((0, .ref 37) :: (1, .int (nI r)) :: (2, .int x) :: (3, .int y) :: (4, .int (nI got)) :: tl) [] (hp I J M) = R
theorem hO_le {scr : Nat → Int32} {L F d : Nat} {I : am_I} {J : am_J} {N N' r : Nat} {M : am_I} {R : Option am_X} (h : N ≤ N') (k : hO scr L F d I J N r M R) : hO scr L F d I J N' r M R := fun f tl hf ht => k f tl (by omega) ht
theorem hC_le {scr : Nat → Int32} {L F d : Nat} {I : am_I} {J : am_J} {N N' r got : Nat} {M : am_I} {R : Option am_X} (h : N ≤ N') (k : hC scr L F d I J N r got M R) : hC scr L F d I J N' r got M R := fun f tl x y hf ht => k f tl x y (by omega) ht
/-- node x is complete -/
def coM (M : am_I) (K x : Nat) : am_I := wr (wr M 50 K (nI x)) 36 18 (nI (K + 1))
theorem wr_id {M : am_I} {x s : Nat} {v : Int32} (h : M x s = v) : wr M x s v = M := by
  funext k
  by_cases hk : k = x
  · subst hk
    funext t
    by_cases ht : t = s
    · subst ht
      rw [wr_s]
      exact h.symm
    · rw [wr_n2 _ _ _ _ _ ht]
  · rw [wr_ne _ _ _ _ _ hk]
set_option maxRecDepth 100000 in
set_option maxHeartbeats 4000000 in
theorem q_f (scr : Nat → Int32) (L F d : Nat) (I : am_I) (J : am_J) (M M1 : am_I) (r n0 : Nat) (hr : r < 300) (R : Option am_X) (k : am_r scr L (F + 63000) (d + 30) 106 [.ref 37] (hp I J M) = some (some (.int 0), hp I J M1, 0, 0)) : hO scr L F d I J 100 r M (some (some (.int 0), hp I J M1, 0, 0)) := by
  have hr2 : ¬ (300 : Int32) ≤ nI r := by
    rw [show (300 : Int32) = nI 300 by decide +kernel]
    exact nI_ge hr (by decide)
  have er : nI r + 1 = nI (r + 1) := nI_1 r
  intro f tl hf hk
  obtain ⟨g, rfl⟩ : ∃ g, f = g + 100 := ⟨f - 100, by omega⟩
  obtain ⟨tl1, e2, k2⟩ := kb_st hk
  obtain ⟨tl2, e3, k3⟩ := kb_st k2
  obtain ⟨tl3, e4, k4⟩ := kb_st k3
  have f1 := kb_f k4 (show 1 < 5 by omega)
  have f2 := kb_f k4 (show 2 < 5 by omega)
  have f3 := kb_f k4 (show 3 < 5 by omega)
  have f4 := kb_f k4 (show 4 < 5 by omega)
  have f5 := kb_f k3 (show 1 < 4 by omega)
  rw [s_109_22]
  simp [s_109_0, s_109_1, s_109_2, s_109_5, s_109_6, s_109_7, s_109_10, s_109_11, s_109_12, s_109_15, s_109_16, s_109_17, s_109_20, s_109_21, s_109_23, s_109_26, s_109_29, s_109_30, s_109_33, s_109_34, s_109_35, s_109_38, s_109_39, s_109_40, s_109_43, s_109_46, s_109_47, s_109_48, s_109_49, s_109_52, s_109_53, s_109_56, s_109_57, s_109_60, s_109_61, s_109_63, s_109_65, s_109_68, s_109_69, s_109_72, s_109_73, s_109_76, s_109_78, s_109_79, s_109_80, s_109_81, s_109_84, s_109_85, s_109_86, s_109_90, s_109_93, s_109_96, s_109_97, s_109_99, s_109_102, s_109_103, s_109_106, s_109_107, s_109_110, s_109_113, s_109_114, s_109_117, s_109_118, s_109_119, s_109_120, s_109_123, s_109_124, s_109_127, s_109_128, s_109_129, s_109_130, s_109_132, s_109_133, s_109_135, s_109_137, s_109_140, s_109_143, s_109_144, s_109_145, s_109_146, s_109_149, s_109_151, s_109_152, s_109_153, s_109_156, s_109_158, s_109_159, s_109_162, s_109_165, s_109_166, s_109_169, s_109_170, s_109_172, s_109_173, s_109_175, s_109_178, s_109_179, s_109_182, s_109_183, s_109_184, s_109_187, s_109_188, s_109_191, s_109_194, s_109_196, s_109_199, s_109_201, s_109_204, s_109_205, s_109_207, s_109_210, s_109_213, s_109_216, s_109_217, ha_36, hg_36_0, hq_36_0, hg_36_1, hg_36_2, hq_36_2, hg_36_3, hg_36_4, hg_36_5, hg_36_6, hq_36_6, hg_36_7, hq_36_7, hg_36_8, hq_36_8, hg_36_9, hg_36_10, hg_36_11, hg_36_12, hg_36_13, hg_36_14, hg_36_15, hg_36_16, hg_36_17, hg_36_18, hq_36_18, hg_36_19, hg_36_20, hq_36_20, hg_36_21, hq_36_21, hg_36_22, hg_36_23, hq_36_23, hg_36_24, hg_36_25, hq_36_25, hg_36_26, hq_36_26, hg_36_27, hq_36_27, hg_36_28, hq_36_28, hg_36_29, hg_36_30, hg_36_31, hq_36_31, hg_36_32, hg_36_33, hg_36_34, hg_36_35, hq_36_35, hg_36_36, hg_36_37, hg_36_38, hg_36_39, hg_36_40, hq_36_40, hg_36_41, hg_36_42, hg_36_43, hg_36_44, hq_36_44, hg_36_45, hg_36_46, hg_36_47, hg_36_48, hg_36_49, hq_36_49, hg_36_50, hg_36_51, hq_36_51, hg_36_52, hq_36_52, hg_36_53, hq_36_53, hg_36_54, hq_36_54, hg_36_55, hq_36_55, hg_36_56, hq_36_56, hg_36_57, hg_36_58, hq_36_58, hg_36_59, hq_36_59, hg_36_60, hq_36_60, hg_36_61, hl_37, hs_37, hl_38, hs_38, hl_39, hs_39, hl_40, hs_40, hl_41, hs_41, hl_42, hs_42, hl_43, hs_43, hl_44, hs_44, hl_45, hs_45, hl_46, hs_46, hl_47, hs_47, hl_48, hs_48, hl_49, hs_49, hl_50, hs_50, hl_51, hs_51, hl_52, hs_52, hl_53, hs_53, hl_54, hs_54, hl_55, hs_55, hl_56, hs_56, hl_57, hs_57, hl_58, hs_58, hl_59, hs_59, hl_60, hs_60, hl_61, hs_61, hl_62, hs_62, hl_63, hs_63, hl_64, hs_64, hl_65, hs_65, hl_66, hs_66, hl_67, hs_67, hl_68, hs_68, hl_69, hs_69, hl_70, hs_70, hl_71, hs_71, am_ld_cons, am_ld_nil, am_st1_cons, am_st1_nil, am_st2_cons, am_st2_nil, am_P1, am_P2, Value.category, am_add_add, am_add0, am_add_some, hr2, er, e2, e3, e4, f1, f2, f3, f4, f5, k]
set_option maxRecDepth 100000 in
set_option maxHeartbeats 4000000 in
theorem q_open (scr : Nat → Int32) (L F d : Nat) (I : am_I) (J : am_J) (M M1 : am_I) (r n0 : Nat) (hr : r < 300) (R : Option am_X) (k : am_r scr L (F + 63000) (d + 30) 106 [.ref 37] (hp I J M) = some (some (.int 1), hp I J M1, 0, 0)) (o : Nat) (ho : M 36 21 = nI o) (ho1 : M1 36 21 = nI (o + 1)) (ho2 : o < 100) (key : hO scr L F d I J n0 (r + 1) M1 R) : hO scr L F d I J (n0 + 100) r M R := by
  have hr2 : ¬ (300 : Int32) ≤ nI r := by
    rw [show (300 : Int32) = nI 300 by decide +kernel]
    exact nI_ge hr (by decide)
  have er : nI r + 1 = nI (r + 1) := nI_1 r
  have z : ¬ nI (o + 1) = nI o := fun z => by have := nI_inj (by omega) (by omega) z; omega
  intro f tl hf hk
  obtain ⟨g, rfl⟩ : ∃ g, f = g + 100 := ⟨f - 100, by omega⟩
  obtain ⟨tl1, e2, k2⟩ := kb_st hk
  obtain ⟨tl2, e3, k3⟩ := kb_st k2
  obtain ⟨tl3, e4, k4⟩ := kb_st k3
  have f1 := kb_f k4 (show 1 < 5 by omega)
  have f2 := kb_f k4 (show 2 < 5 by omega)
  have f3 := kb_f k4 (show 3 < 5 by omega)
  have f4 := kb_f k4 (show 4 < 5 by omega)
  have f5 := kb_f k3 (show 1 < 4 by omega)
  rw [s_109_22]
  simp [s_109_0, s_109_1, s_109_2, s_109_5, s_109_6, s_109_7, s_109_10, s_109_11, s_109_12, s_109_15, s_109_16, s_109_17, s_109_20, s_109_21, s_109_23, s_109_26, s_109_29, s_109_30, s_109_33, s_109_34, s_109_35, s_109_38, s_109_39, s_109_40, s_109_43, s_109_46, s_109_47, s_109_48, s_109_49, s_109_52, s_109_53, s_109_56, s_109_57, s_109_60, s_109_61, s_109_63, s_109_65, s_109_68, s_109_69, s_109_72, s_109_73, s_109_76, s_109_78, s_109_79, s_109_80, s_109_81, s_109_84, s_109_85, s_109_86, s_109_90, s_109_93, s_109_96, s_109_97, s_109_99, s_109_102, s_109_103, s_109_106, s_109_107, s_109_110, s_109_113, s_109_114, s_109_117, s_109_118, s_109_119, s_109_120, s_109_123, s_109_124, s_109_127, s_109_128, s_109_129, s_109_130, s_109_132, s_109_133, s_109_135, s_109_137, s_109_140, s_109_143, s_109_144, s_109_145, s_109_146, s_109_149, s_109_151, s_109_152, s_109_153, s_109_156, s_109_158, s_109_159, s_109_162, s_109_165, s_109_166, s_109_169, s_109_170, s_109_172, s_109_173, s_109_175, s_109_178, s_109_179, s_109_182, s_109_183, s_109_184, s_109_187, s_109_188, s_109_191, s_109_194, s_109_196, s_109_199, s_109_201, s_109_204, s_109_205, s_109_207, s_109_210, s_109_213, s_109_216, s_109_217, ha_36, hg_36_0, hq_36_0, hg_36_1, hg_36_2, hq_36_2, hg_36_3, hg_36_4, hg_36_5, hg_36_6, hq_36_6, hg_36_7, hq_36_7, hg_36_8, hq_36_8, hg_36_9, hg_36_10, hg_36_11, hg_36_12, hg_36_13, hg_36_14, hg_36_15, hg_36_16, hg_36_17, hg_36_18, hq_36_18, hg_36_19, hg_36_20, hq_36_20, hg_36_21, hq_36_21, hg_36_22, hg_36_23, hq_36_23, hg_36_24, hg_36_25, hq_36_25, hg_36_26, hq_36_26, hg_36_27, hq_36_27, hg_36_28, hq_36_28, hg_36_29, hg_36_30, hg_36_31, hq_36_31, hg_36_32, hg_36_33, hg_36_34, hg_36_35, hq_36_35, hg_36_36, hg_36_37, hg_36_38, hg_36_39, hg_36_40, hq_36_40, hg_36_41, hg_36_42, hg_36_43, hg_36_44, hq_36_44, hg_36_45, hg_36_46, hg_36_47, hg_36_48, hg_36_49, hq_36_49, hg_36_50, hg_36_51, hq_36_51, hg_36_52, hq_36_52, hg_36_53, hq_36_53, hg_36_54, hq_36_54, hg_36_55, hq_36_55, hg_36_56, hq_36_56, hg_36_57, hg_36_58, hq_36_58, hg_36_59, hq_36_59, hg_36_60, hq_36_60, hg_36_61, hl_37, hs_37, hl_38, hs_38, hl_39, hs_39, hl_40, hs_40, hl_41, hs_41, hl_42, hs_42, hl_43, hs_43, hl_44, hs_44, hl_45, hs_45, hl_46, hs_46, hl_47, hs_47, hl_48, hs_48, hl_49, hs_49, hl_50, hs_50, hl_51, hs_51, hl_52, hs_52, hl_53, hs_53, hl_54, hs_54, hl_55, hs_55, hl_56, hs_56, hl_57, hs_57, hl_58, hs_58, hl_59, hs_59, hl_60, hs_60, hl_61, hs_61, hl_62, hs_62, hl_63, hs_63, hl_64, hs_64, hl_65, hs_65, hl_66, hs_66, hl_67, hs_67, hl_68, hs_68, hl_69, hs_69, hl_70, hs_70, hl_71, hs_71, am_ld_cons, am_ld_nil, am_st1_cons, am_st1_nil, am_st2_cons, am_st2_nil, am_P1, am_P2, Value.category, am_add_add, am_add0, am_add_some, hr2, er, e2, e3, e4, f1, f2, f3, f4, f5, k, ho, ho1, z]
  exact key _ _ (by omega) (kb_cons (by omega) (kb_cons (by omega) (kb_cons (by omega) (kb_le (by omega) k4))))
set_option maxRecDepth 100000 in
set_option maxHeartbeats 4000000 in
theorem q_leaf (scr : Nat → Int32) (L F d : Nat) (I : am_I) (J : am_J) (M M1 : am_I) (r n0 : Nat) (hr : r < 300) (R : Option am_X) (k : am_r scr L (F + 63000) (d + 30) 106 [.ref 37] (hp I J M) = some (some (.int 1), hp I J M1, 0, 0)) (N K : Nat) (ho1 : M1 36 21 = M 36 21) (hN : M 36 8 = nI N) (hN2 : N < 101) (hK : M1 36 18 = nI K) (hK2 : K < 101) (key : hC scr L F d I J n0 r N (coM M1 K N) R) : hO scr L F d I J (n0 + 100) r M R := by
  have hr2 : ¬ (300 : Int32) ≤ nI r := by
    rw [show (300 : Int32) = nI 300 by decide +kernel]
    exact nI_ge hr (by decide)
  have er : nI r + 1 = nI (r + 1) := nI_1 r
  have c1 : ¬ nI K < 0 := nI_pos (by omega)
  have c2 : (nI K).toNatClampNeg = K := nI_clamp (by omega)
  have c3 : ¬ 101 ≤ K := by omega
  have eK : nI K + 1 = nI (K + 1) := nI_1 K
  have z : ¬ nI N < 0 := nI_pos (by omega)
  have z2 : wr M1 50 K (nI N) 36 18 = nI K := (wr_ap _ _ _ _ _ _ (by omega)).trans hK
  intro f tl hf hk
  obtain ⟨g, rfl⟩ : ∃ g, f = g + 100 := ⟨f - 100, by omega⟩
  obtain ⟨tl1, e2, k2⟩ := kb_st hk
  obtain ⟨tl2, e3, k3⟩ := kb_st k2
  obtain ⟨tl3, e4, k4⟩ := kb_st k3
  have f1 := kb_f k4 (show 1 < 5 by omega)
  have f2 := kb_f k4 (show 2 < 5 by omega)
  have f3 := kb_f k4 (show 3 < 5 by omega)
  have f4 := kb_f k4 (show 4 < 5 by omega)
  have f5 := kb_f k3 (show 1 < 4 by omega)
  rw [s_109_22]
  simp [s_109_0, s_109_1, s_109_2, s_109_5, s_109_6, s_109_7, s_109_10, s_109_11, s_109_12, s_109_15, s_109_16, s_109_17, s_109_20, s_109_21, s_109_23, s_109_26, s_109_29, s_109_30, s_109_33, s_109_34, s_109_35, s_109_38, s_109_39, s_109_40, s_109_43, s_109_46, s_109_47, s_109_48, s_109_49, s_109_52, s_109_53, s_109_56, s_109_57, s_109_60, s_109_61, s_109_63, s_109_65, s_109_68, s_109_69, s_109_72, s_109_73, s_109_76, s_109_78, s_109_79, s_109_80, s_109_81, s_109_84, s_109_85, s_109_86, s_109_90, s_109_93, s_109_96, s_109_97, s_109_99, s_109_102, s_109_103, s_109_106, s_109_107, s_109_110, s_109_113, s_109_114, s_109_117, s_109_118, s_109_119, s_109_120, s_109_123, s_109_124, s_109_127, s_109_128, s_109_129, s_109_130, s_109_132, s_109_133, s_109_135, s_109_137, s_109_140, s_109_143, s_109_144, s_109_145, s_109_146, s_109_149, s_109_151, s_109_152, s_109_153, s_109_156, s_109_158, s_109_159, s_109_162, s_109_165, s_109_166, s_109_169, s_109_170, s_109_172, s_109_173, s_109_175, s_109_178, s_109_179, s_109_182, s_109_183, s_109_184, s_109_187, s_109_188, s_109_191, s_109_194, s_109_196, s_109_199, s_109_201, s_109_204, s_109_205, s_109_207, s_109_210, s_109_213, s_109_216, s_109_217, ha_36, hg_36_0, hq_36_0, hg_36_1, hg_36_2, hq_36_2, hg_36_3, hg_36_4, hg_36_5, hg_36_6, hq_36_6, hg_36_7, hq_36_7, hg_36_8, hq_36_8, hg_36_9, hg_36_10, hg_36_11, hg_36_12, hg_36_13, hg_36_14, hg_36_15, hg_36_16, hg_36_17, hg_36_18, hq_36_18, hg_36_19, hg_36_20, hq_36_20, hg_36_21, hq_36_21, hg_36_22, hg_36_23, hq_36_23, hg_36_24, hg_36_25, hq_36_25, hg_36_26, hq_36_26, hg_36_27, hq_36_27, hg_36_28, hq_36_28, hg_36_29, hg_36_30, hg_36_31, hq_36_31, hg_36_32, hg_36_33, hg_36_34, hg_36_35, hq_36_35, hg_36_36, hg_36_37, hg_36_38, hg_36_39, hg_36_40, hq_36_40, hg_36_41, hg_36_42, hg_36_43, hg_36_44, hq_36_44, hg_36_45, hg_36_46, hg_36_47, hg_36_48, hg_36_49, hq_36_49, hg_36_50, hg_36_51, hq_36_51, hg_36_52, hq_36_52, hg_36_53, hq_36_53, hg_36_54, hq_36_54, hg_36_55, hq_36_55, hg_36_56, hq_36_56, hg_36_57, hg_36_58, hq_36_58, hg_36_59, hq_36_59, hg_36_60, hq_36_60, hg_36_61, hl_37, hs_37, hl_38, hs_38, hl_39, hs_39, hl_40, hs_40, hl_41, hs_41, hl_42, hs_42, hl_43, hs_43, hl_44, hs_44, hl_45, hs_45, hl_46, hs_46, hl_47, hs_47, hl_48, hs_48, hl_49, hs_49, hl_50, hs_50, hl_51, hs_51, hl_52, hs_52, hl_53, hs_53, hl_54, hs_54, hl_55, hs_55, hl_56, hs_56, hl_57, hs_57, hl_58, hs_58, hl_59, hs_59, hl_60, hs_60, hl_61, hs_61, hl_62, hs_62, hl_63, hs_63, hl_64, hs_64, hl_65, hs_65, hl_66, hs_66, hl_67, hs_67, hl_68, hs_68, hl_69, hs_69, hl_70, hs_70, hl_71, hs_71, am_ld_cons, am_ld_nil, am_st1_cons, am_st1_nil, am_st2_cons, am_st2_nil, am_P1, am_P2, Value.category, am_add_add, am_add0, am_add_some, hr2, er, e2, e3, e4, f1, f2, f3, f4, f5, k, ho1, hN, z, hK, c1, c2, c3, eK, wr_fold, z2]
  exact key _ _ _ _ (by omega) k4
set_option maxRecDepth 100000 in
set_option maxHeartbeats 4000000 in
theorem q_root (scr : Nat → Int32) (L F d : Nat) (I : am_I) (J : am_J) (M M1 : am_I) (r n0 got : Nat) (hr : r < 300) (R : Option am_X) (n p : Nat) (ho : M 36 21 = 0) (h : rdM M n p) : hC scr L F d I J 100 r got M (some (some (.int (if p = n then 1 else 0)), hp I J (wr M 36 26 (nI got)), 0, 0)) := by
  have hr2 : ¬ (300 : Int32) ≤ nI r := by
    rw [show (300 : Int32) = nI 300 by decide +kernel]
    exact nI_ge hr (by decide)
  have er : nI r + 1 = nI (r + 1) := nI_1 r
  have e20 : wr M 36 26 (nI got) 36 20 = nI p := (wr_n2 _ _ _ _ _ (by omega)).trans h.2.1
  have e00 : wr M 36 26 (nI got) 36 0 = nI n := (wr_n2 _ _ _ _ _ (by omega)).trans h.1
  have hn := h.2.2.1
  have hp1 := h.2.2.2.1
  intro f tl x y hf hk
  obtain ⟨g, rfl⟩ : ∃ g, f = g + 100 := ⟨f - 100, by omega⟩
  obtain ⟨tl1, e2, k2⟩ := kb_st hk
  obtain ⟨tl2, e3, k3⟩ := kb_st k2
  have f1 := kb_f k3 (show 1 < 7 by omega)
  have f2 := kb_f k3 (show 4 < 7 by omega)
  have f3 := kb_f k3 (show 5 < 7 by omega)
  have f4 := kb_f k3 (show 6 < 7 by omega)
  rw [s_109_89]
  by_cases q : p = n
  · subst q
    simp [s_109_0, s_109_1, s_109_2, s_109_5, s_109_6, s_109_7, s_109_10, s_109_11, s_109_12, s_109_15, s_109_16, s_109_17, s_109_20, s_109_21, s_109_23, s_109_26, s_109_29, s_109_30, s_109_33, s_109_34, s_109_35, s_109_38, s_109_39, s_109_40, s_109_43, s_109_46, s_109_47, s_109_48, s_109_49, s_109_52, s_109_53, s_109_56, s_109_57, s_109_60, s_109_61, s_109_63, s_109_65, s_109_68, s_109_69, s_109_72, s_109_73, s_109_76, s_109_78, s_109_79, s_109_80, s_109_81, s_109_84, s_109_85, s_109_86, s_109_90, s_109_93, s_109_96, s_109_97, s_109_99, s_109_102, s_109_103, s_109_106, s_109_107, s_109_110, s_109_113, s_109_114, s_109_117, s_109_118, s_109_119, s_109_120, s_109_123, s_109_124, s_109_127, s_109_128, s_109_129, s_109_130, s_109_132, s_109_133, s_109_135, s_109_137, s_109_140, s_109_143, s_109_144, s_109_145, s_109_146, s_109_149, s_109_151, s_109_152, s_109_153, s_109_156, s_109_158, s_109_159, s_109_162, s_109_165, s_109_166, s_109_169, s_109_170, s_109_172, s_109_173, s_109_175, s_109_178, s_109_179, s_109_182, s_109_183, s_109_184, s_109_187, s_109_188, s_109_191, s_109_194, s_109_196, s_109_199, s_109_201, s_109_204, s_109_205, s_109_207, s_109_210, s_109_213, s_109_216, s_109_217, ha_36, hg_36_0, hq_36_0, hg_36_1, hg_36_2, hq_36_2, hg_36_3, hg_36_4, hg_36_5, hg_36_6, hq_36_6, hg_36_7, hq_36_7, hg_36_8, hq_36_8, hg_36_9, hg_36_10, hg_36_11, hg_36_12, hg_36_13, hg_36_14, hg_36_15, hg_36_16, hg_36_17, hg_36_18, hq_36_18, hg_36_19, hg_36_20, hq_36_20, hg_36_21, hq_36_21, hg_36_22, hg_36_23, hq_36_23, hg_36_24, hg_36_25, hq_36_25, hg_36_26, hq_36_26, hg_36_27, hq_36_27, hg_36_28, hq_36_28, hg_36_29, hg_36_30, hg_36_31, hq_36_31, hg_36_32, hg_36_33, hg_36_34, hg_36_35, hq_36_35, hg_36_36, hg_36_37, hg_36_38, hg_36_39, hg_36_40, hq_36_40, hg_36_41, hg_36_42, hg_36_43, hg_36_44, hq_36_44, hg_36_45, hg_36_46, hg_36_47, hg_36_48, hg_36_49, hq_36_49, hg_36_50, hg_36_51, hq_36_51, hg_36_52, hq_36_52, hg_36_53, hq_36_53, hg_36_54, hq_36_54, hg_36_55, hq_36_55, hg_36_56, hq_36_56, hg_36_57, hg_36_58, hq_36_58, hg_36_59, hq_36_59, hg_36_60, hq_36_60, hg_36_61, hl_37, hs_37, hl_38, hs_38, hl_39, hs_39, hl_40, hs_40, hl_41, hs_41, hl_42, hs_42, hl_43, hs_43, hl_44, hs_44, hl_45, hs_45, hl_46, hs_46, hl_47, hs_47, hl_48, hs_48, hl_49, hs_49, hl_50, hs_50, hl_51, hs_51, hl_52, hs_52, hl_53, hs_53, hl_54, hs_54, hl_55, hs_55, hl_56, hs_56, hl_57, hs_57, hl_58, hs_58, hl_59, hs_59, hl_60, hs_60, hl_61, hs_61, hl_62, hs_62, hl_63, hs_63, hl_64, hs_64, hl_65, hs_65, hl_66, hs_66, hl_67, hs_67, hl_68, hs_68, hl_69, hs_69, hl_70, hs_70, hl_71, hs_71, am_ld_cons, am_ld_nil, am_st1_cons, am_st1_nil, am_st2_cons, am_st2_nil, am_P1, am_P2, Value.category, am_add_add, am_add0, am_add_some, er, e2, e3, f1, f2, f3, f4, ho, wr_fold, e20, e00]
  · have q1 : ¬ nI p = nI n := fun z => q (nI_inj (by omega) (by omega) z)
    simp [s_109_0, s_109_1, s_109_2, s_109_5, s_109_6, s_109_7, s_109_10, s_109_11, s_109_12, s_109_15, s_109_16, s_109_17, s_109_20, s_109_21, s_109_23, s_109_26, s_109_29, s_109_30, s_109_33, s_109_34, s_109_35, s_109_38, s_109_39, s_109_40, s_109_43, s_109_46, s_109_47, s_109_48, s_109_49, s_109_52, s_109_53, s_109_56, s_109_57, s_109_60, s_109_61, s_109_63, s_109_65, s_109_68, s_109_69, s_109_72, s_109_73, s_109_76, s_109_78, s_109_79, s_109_80, s_109_81, s_109_84, s_109_85, s_109_86, s_109_90, s_109_93, s_109_96, s_109_97, s_109_99, s_109_102, s_109_103, s_109_106, s_109_107, s_109_110, s_109_113, s_109_114, s_109_117, s_109_118, s_109_119, s_109_120, s_109_123, s_109_124, s_109_127, s_109_128, s_109_129, s_109_130, s_109_132, s_109_133, s_109_135, s_109_137, s_109_140, s_109_143, s_109_144, s_109_145, s_109_146, s_109_149, s_109_151, s_109_152, s_109_153, s_109_156, s_109_158, s_109_159, s_109_162, s_109_165, s_109_166, s_109_169, s_109_170, s_109_172, s_109_173, s_109_175, s_109_178, s_109_179, s_109_182, s_109_183, s_109_184, s_109_187, s_109_188, s_109_191, s_109_194, s_109_196, s_109_199, s_109_201, s_109_204, s_109_205, s_109_207, s_109_210, s_109_213, s_109_216, s_109_217, ha_36, hg_36_0, hq_36_0, hg_36_1, hg_36_2, hq_36_2, hg_36_3, hg_36_4, hg_36_5, hg_36_6, hq_36_6, hg_36_7, hq_36_7, hg_36_8, hq_36_8, hg_36_9, hg_36_10, hg_36_11, hg_36_12, hg_36_13, hg_36_14, hg_36_15, hg_36_16, hg_36_17, hg_36_18, hq_36_18, hg_36_19, hg_36_20, hq_36_20, hg_36_21, hq_36_21, hg_36_22, hg_36_23, hq_36_23, hg_36_24, hg_36_25, hq_36_25, hg_36_26, hq_36_26, hg_36_27, hq_36_27, hg_36_28, hq_36_28, hg_36_29, hg_36_30, hg_36_31, hq_36_31, hg_36_32, hg_36_33, hg_36_34, hg_36_35, hq_36_35, hg_36_36, hg_36_37, hg_36_38, hg_36_39, hg_36_40, hq_36_40, hg_36_41, hg_36_42, hg_36_43, hg_36_44, hq_36_44, hg_36_45, hg_36_46, hg_36_47, hg_36_48, hg_36_49, hq_36_49, hg_36_50, hg_36_51, hq_36_51, hg_36_52, hq_36_52, hg_36_53, hq_36_53, hg_36_54, hq_36_54, hg_36_55, hq_36_55, hg_36_56, hq_36_56, hg_36_57, hg_36_58, hq_36_58, hg_36_59, hq_36_59, hg_36_60, hq_36_60, hg_36_61, hl_37, hs_37, hl_38, hs_38, hl_39, hs_39, hl_40, hs_40, hl_41, hs_41, hl_42, hs_42, hl_43, hs_43, hl_44, hs_44, hl_45, hs_45, hl_46, hs_46, hl_47, hs_47, hl_48, hs_48, hl_49, hs_49, hl_50, hs_50, hl_51, hs_51, hl_52, hs_52, hl_53, hs_53, hl_54, hs_54, hl_55, hs_55, hl_56, hs_56, hl_57, hs_57, hl_58, hs_58, hl_59, hs_59, hl_60, hs_60, hl_61, hs_61, hl_62, hs_62, hl_63, hs_63, hl_64, hs_64, hl_65, hs_65, hl_66, hs_66, hl_67, hs_67, hl_68, hs_68, hl_69, hs_69, hl_70, hs_70, hl_71, hs_71, am_ld_cons, am_ld_nil, am_st1_cons, am_st1_nil, am_st2_cons, am_st2_nil, am_P1, am_P2, Value.category, am_add_add, am_add0, am_add_some, er, e2, e3, f1, f2, f3, f4, ho, wr_fold, e20, e00, q, q1]
set_option maxRecDepth 100000 in
set_option maxHeartbeats 4000000 in
theorem q_gf (scr : Nat → Int32) (L F d : Nat) (I : am_I) (J : am_J) (M M1 : am_I) (r n0 got : Nat) (hr : r < 300) (R : Option am_X) (o T : Nat) (ho : M 36 21 = nI (o + 1)) (ho2 : o < 32) (hT : M 51 o = nI T) (hT2 : T < 101) (k : am_r scr L (F + 63000) (d + 30) 107 [.ref 37, .int (nI T), .int (nI got)] (hp I J M) = some (some (.int 0), hp I J M1, 0, 0)) : hC scr L F d I J 100 r got M (some (some (.int 0), hp I J M1, 0, 0)) := by
  have hr2 : ¬ (300 : Int32) ≤ nI r := by
    rw [show (300 : Int32) = nI 300 by decide +kernel]
    exact nI_ge hr (by decide)
  have er : nI r + 1 = nI (r + 1) := nI_1 r
  have t0 : ¬ nI (o + 1) = 0 := nI_ne0 (by omega) (by omega)
  have t1 : nI (o + 1) - 1 = nI o := nI_pred o
  have t2 : ¬ nI o < 0 := nI_pos (by omega)
  have t3 : (nI o).toNatClampNeg = o := nI_clamp (by omega)
  have t4 : ¬ 32 ≤ o := by omega
  have g1 : ¬ nI T < 0 := nI_pos (by omega)
  have g2 : (nI T).toNatClampNeg = T := nI_clamp (by omega)
  have g3 : ¬ 101 ≤ T := by omega
  intro f tl x y hf hk
  obtain ⟨g, rfl⟩ : ∃ g, f = g + 100 := ⟨f - 100, by omega⟩
  obtain ⟨tl1, e2, k2⟩ := kb_st hk
  obtain ⟨tl2, e3, k3⟩ := kb_st k2
  have f1 := kb_f k3 (show 1 < 7 by omega)
  have f2 := kb_f k3 (show 4 < 7 by omega)
  have f3 := kb_f k3 (show 5 < 7 by omega)
  have f4 := kb_f k3 (show 6 < 7 by omega)
  rw [s_109_89]
  simp [s_109_0, s_109_1, s_109_2, s_109_5, s_109_6, s_109_7, s_109_10, s_109_11, s_109_12, s_109_15, s_109_16, s_109_17, s_109_20, s_109_21, s_109_23, s_109_26, s_109_29, s_109_30, s_109_33, s_109_34, s_109_35, s_109_38, s_109_39, s_109_40, s_109_43, s_109_46, s_109_47, s_109_48, s_109_49, s_109_52, s_109_53, s_109_56, s_109_57, s_109_60, s_109_61, s_109_63, s_109_65, s_109_68, s_109_69, s_109_72, s_109_73, s_109_76, s_109_78, s_109_79, s_109_80, s_109_81, s_109_84, s_109_85, s_109_86, s_109_90, s_109_93, s_109_96, s_109_97, s_109_99, s_109_102, s_109_103, s_109_106, s_109_107, s_109_110, s_109_113, s_109_114, s_109_117, s_109_118, s_109_119, s_109_120, s_109_123, s_109_124, s_109_127, s_109_128, s_109_129, s_109_130, s_109_132, s_109_133, s_109_135, s_109_137, s_109_140, s_109_143, s_109_144, s_109_145, s_109_146, s_109_149, s_109_151, s_109_152, s_109_153, s_109_156, s_109_158, s_109_159, s_109_162, s_109_165, s_109_166, s_109_169, s_109_170, s_109_172, s_109_173, s_109_175, s_109_178, s_109_179, s_109_182, s_109_183, s_109_184, s_109_187, s_109_188, s_109_191, s_109_194, s_109_196, s_109_199, s_109_201, s_109_204, s_109_205, s_109_207, s_109_210, s_109_213, s_109_216, s_109_217, ha_36, hg_36_0, hq_36_0, hg_36_1, hg_36_2, hq_36_2, hg_36_3, hg_36_4, hg_36_5, hg_36_6, hq_36_6, hg_36_7, hq_36_7, hg_36_8, hq_36_8, hg_36_9, hg_36_10, hg_36_11, hg_36_12, hg_36_13, hg_36_14, hg_36_15, hg_36_16, hg_36_17, hg_36_18, hq_36_18, hg_36_19, hg_36_20, hq_36_20, hg_36_21, hq_36_21, hg_36_22, hg_36_23, hq_36_23, hg_36_24, hg_36_25, hq_36_25, hg_36_26, hq_36_26, hg_36_27, hq_36_27, hg_36_28, hq_36_28, hg_36_29, hg_36_30, hg_36_31, hq_36_31, hg_36_32, hg_36_33, hg_36_34, hg_36_35, hq_36_35, hg_36_36, hg_36_37, hg_36_38, hg_36_39, hg_36_40, hq_36_40, hg_36_41, hg_36_42, hg_36_43, hg_36_44, hq_36_44, hg_36_45, hg_36_46, hg_36_47, hg_36_48, hg_36_49, hq_36_49, hg_36_50, hg_36_51, hq_36_51, hg_36_52, hq_36_52, hg_36_53, hq_36_53, hg_36_54, hq_36_54, hg_36_55, hq_36_55, hg_36_56, hq_36_56, hg_36_57, hg_36_58, hq_36_58, hg_36_59, hq_36_59, hg_36_60, hq_36_60, hg_36_61, hl_37, hs_37, hl_38, hs_38, hl_39, hs_39, hl_40, hs_40, hl_41, hs_41, hl_42, hs_42, hl_43, hs_43, hl_44, hs_44, hl_45, hs_45, hl_46, hs_46, hl_47, hs_47, hl_48, hs_48, hl_49, hs_49, hl_50, hs_50, hl_51, hs_51, hl_52, hs_52, hl_53, hs_53, hl_54, hs_54, hl_55, hs_55, hl_56, hs_56, hl_57, hs_57, hl_58, hs_58, hl_59, hs_59, hl_60, hs_60, hl_61, hs_61, hl_62, hs_62, hl_63, hs_63, hl_64, hs_64, hl_65, hs_65, hl_66, hs_66, hl_67, hs_67, hl_68, hs_68, hl_69, hs_69, hl_70, hs_70, hl_71, hs_71, am_ld_cons, am_ld_nil, am_st1_cons, am_st1_nil, am_st2_cons, am_st2_nil, am_P1, am_P2, Value.category, am_add_add, am_add0, am_add_some, er, e2, e3, f1, f2, f3, f4, t0, t1, t2, t3, t4, g1, g2, g3, ho, hT, k]
set_option maxRecDepth 100000 in
set_option maxHeartbeats 4000000 in
theorem q_gn (scr : Nat → Int32) (L F d : Nat) (I : am_I) (J : am_J) (M M1 : am_I) (r n0 got : Nat) (hr : r < 300) (R : Option am_X) (o T : Nat) (ho : M 36 21 = nI (o + 1)) (ho2 : o < 32) (hT : M 51 o = nI T) (hT2 : T < 101) (k : am_r scr L (F + 63000) (d + 30) 107 [.ref 37, .int (nI T), .int (nI got)] (hp I J M) = some (some (.int 1), hp I J M1, 0, 0)) (ho1 : M1 36 21 = nI (o + 1)) (op hs : Int32) (h1 : M1 41 T = op) (h2 : M1 49 T = hs) (hw : ¬ hs = pts op) (key : hO scr L F d I J n0 (r + 1) M1 R) : hC scr L F d I J (n0 + 100) r got M R := by
  have hr2 : ¬ (300 : Int32) ≤ nI r := by
    rw [show (300 : Int32) = nI 300 by decide +kernel]
    exact nI_ge hr (by decide)
  have er : nI r + 1 = nI (r + 1) := nI_1 r
  have t0 : ¬ nI (o + 1) = 0 := nI_ne0 (by omega) (by omega)
  have t1 : nI (o + 1) - 1 = nI o := nI_pred o
  have t2 : ¬ nI o < 0 := nI_pos (by omega)
  have t3 : (nI o).toNatClampNeg = o := nI_clamp (by omega)
  have t4 : ¬ 32 ≤ o := by omega
  have g1 : ¬ nI T < 0 := nI_pos (by omega)
  have g2 : (nI T).toNatClampNeg = T := nI_clamp (by omega)
  have g3 : ¬ 101 ≤ T := by omega
  have kp := m_108 scr L (F + 62900) (d + 29) I J M1 op
  have ei : va_up M1 36 (upd (M1 36) 21 (nI (o + 1))) = M1 := wr_id ho1
  intro f tl x y hf hk
  obtain ⟨g, rfl⟩ : ∃ g, f = g + 100 := ⟨f - 100, by omega⟩
  obtain ⟨tl1, e2, k2⟩ := kb_st hk
  obtain ⟨tl2, e3, k3⟩ := kb_st k2
  have f1 := kb_f k3 (show 1 < 7 by omega)
  have f2 := kb_f k3 (show 4 < 7 by omega)
  have f3 := kb_f k3 (show 5 < 7 by omega)
  have f4 := kb_f k3 (show 6 < 7 by omega)
  rw [s_109_89]
  simp [s_109_0, s_109_1, s_109_2, s_109_5, s_109_6, s_109_7, s_109_10, s_109_11, s_109_12, s_109_15, s_109_16, s_109_17, s_109_20, s_109_21, s_109_23, s_109_26, s_109_29, s_109_30, s_109_33, s_109_34, s_109_35, s_109_38, s_109_39, s_109_40, s_109_43, s_109_46, s_109_47, s_109_48, s_109_49, s_109_52, s_109_53, s_109_56, s_109_57, s_109_60, s_109_61, s_109_63, s_109_65, s_109_68, s_109_69, s_109_72, s_109_73, s_109_76, s_109_78, s_109_79, s_109_80, s_109_81, s_109_84, s_109_85, s_109_86, s_109_90, s_109_93, s_109_96, s_109_97, s_109_99, s_109_102, s_109_103, s_109_106, s_109_107, s_109_110, s_109_113, s_109_114, s_109_117, s_109_118, s_109_119, s_109_120, s_109_123, s_109_124, s_109_127, s_109_128, s_109_129, s_109_130, s_109_132, s_109_133, s_109_135, s_109_137, s_109_140, s_109_143, s_109_144, s_109_145, s_109_146, s_109_149, s_109_151, s_109_152, s_109_153, s_109_156, s_109_158, s_109_159, s_109_162, s_109_165, s_109_166, s_109_169, s_109_170, s_109_172, s_109_173, s_109_175, s_109_178, s_109_179, s_109_182, s_109_183, s_109_184, s_109_187, s_109_188, s_109_191, s_109_194, s_109_196, s_109_199, s_109_201, s_109_204, s_109_205, s_109_207, s_109_210, s_109_213, s_109_216, s_109_217, ha_36, hg_36_0, hq_36_0, hg_36_1, hg_36_2, hq_36_2, hg_36_3, hg_36_4, hg_36_5, hg_36_6, hq_36_6, hg_36_7, hq_36_7, hg_36_8, hq_36_8, hg_36_9, hg_36_10, hg_36_11, hg_36_12, hg_36_13, hg_36_14, hg_36_15, hg_36_16, hg_36_17, hg_36_18, hq_36_18, hg_36_19, hg_36_20, hq_36_20, hg_36_21, hq_36_21, hg_36_22, hg_36_23, hq_36_23, hg_36_24, hg_36_25, hq_36_25, hg_36_26, hq_36_26, hg_36_27, hq_36_27, hg_36_28, hq_36_28, hg_36_29, hg_36_30, hg_36_31, hq_36_31, hg_36_32, hg_36_33, hg_36_34, hg_36_35, hq_36_35, hg_36_36, hg_36_37, hg_36_38, hg_36_39, hg_36_40, hq_36_40, hg_36_41, hg_36_42, hg_36_43, hg_36_44, hq_36_44, hg_36_45, hg_36_46, hg_36_47, hg_36_48, hg_36_49, hq_36_49, hg_36_50, hg_36_51, hq_36_51, hg_36_52, hq_36_52, hg_36_53, hq_36_53, hg_36_54, hq_36_54, hg_36_55, hq_36_55, hg_36_56, hq_36_56, hg_36_57, hg_36_58, hq_36_58, hg_36_59, hq_36_59, hg_36_60, hq_36_60, hg_36_61, hl_37, hs_37, hl_38, hs_38, hl_39, hs_39, hl_40, hs_40, hl_41, hs_41, hl_42, hs_42, hl_43, hs_43, hl_44, hs_44, hl_45, hs_45, hl_46, hs_46, hl_47, hs_47, hl_48, hs_48, hl_49, hs_49, hl_50, hs_50, hl_51, hs_51, hl_52, hs_52, hl_53, hs_53, hl_54, hs_54, hl_55, hs_55, hl_56, hs_56, hl_57, hs_57, hl_58, hs_58, hl_59, hs_59, hl_60, hs_60, hl_61, hs_61, hl_62, hs_62, hl_63, hs_63, hl_64, hs_64, hl_65, hs_65, hl_66, hs_66, hl_67, hs_67, hl_68, hs_68, hl_69, hs_69, hl_70, hs_70, hl_71, hs_71, am_ld_cons, am_ld_nil, am_st1_cons, am_st1_nil, am_st2_cons, am_st2_nil, am_P1, am_P2, Value.category, am_add_add, am_add0, am_add_some, er, e2, e3, f1, f2, f3, f4, t0, t1, t2, t3, t4, g1, g2, g3, ho, hT, k, h1, h2, kp, hw, ho1, ei]
  exact key _ _ (by omega) (kb_cons (by omega) (kb_cons (by omega) (kb_cons (by omega) (kb_cons (by omega) (kb_cons (by omega) (kb_le (by omega) k3))))))
set_option maxRecDepth 100000 in
set_option maxHeartbeats 4000000 in
theorem q_gw (scr : Nat → Int32) (L F d : Nat) (I : am_I) (J : am_J) (M M1 : am_I) (r n0 got : Nat) (hr : r < 300) (R : Option am_X) (o T : Nat) (ho : M 36 21 = nI (o + 1)) (ho2 : o < 32) (hT : M 51 o = nI T) (hT2 : T < 101) (k : am_r scr L (F + 63000) (d + 30) 107 [.ref 37, .int (nI T), .int (nI got)] (hp I J M) = some (some (.int 1), hp I J M1, 0, 0)) (ho1 : M1 36 21 = nI (o + 1)) (op hs : Int32) (h1 : M1 41 T = op) (h2 : M1 49 T = hs) (hw : hs = pts op) (K : Nat) (hK : M1 36 18 = nI K) (hK2 : K < 101) (key : hC scr L F d I J n0 r T (coM (wr M1 36 21 (nI o)) K T) R) : hC scr L F d I J (n0 + 100) r got M R := by
  have hr2 : ¬ (300 : Int32) ≤ nI r := by
    rw [show (300 : Int32) = nI 300 by decide +kernel]
    exact nI_ge hr (by decide)
  have er : nI r + 1 = nI (r + 1) := nI_1 r
  have t0 : ¬ nI (o + 1) = 0 := nI_ne0 (by omega) (by omega)
  have t1 : nI (o + 1) - 1 = nI o := nI_pred o
  have t2 : ¬ nI o < 0 := nI_pos (by omega)
  have t3 : (nI o).toNatClampNeg = o := nI_clamp (by omega)
  have t4 : ¬ 32 ≤ o := by omega
  have g1 : ¬ nI T < 0 := nI_pos (by omega)
  have g2 : (nI T).toNatClampNeg = T := nI_clamp (by omega)
  have g3 : ¬ 101 ≤ T := by omega
  have c1 : ¬ nI K < 0 := nI_pos (by omega)
  have c2 : (nI K).toNatClampNeg = K := nI_clamp (by omega)
  have c3 : ¬ 101 ≤ K := by omega
  have eK : nI K + 1 = nI (K + 1) := nI_1 K
  have kp := m_108 scr L (F + 62900) (d + 29) I J M1 op
  have z1 : wr M1 36 21 (nI o) 36 18 = nI K := (wr_n2 _ _ _ _ _ (by omega)).trans hK
  have z2 : wr (wr M1 36 21 (nI o)) 50 K (nI T) 36 18 = nI K := (wr_ap _ _ _ _ _ _ (by omega)).trans z1
  intro f tl x y hf hk
  obtain ⟨g, rfl⟩ : ∃ g, f = g + 100 := ⟨f - 100, by omega⟩
  obtain ⟨tl1, e2, k2⟩ := kb_st hk
  obtain ⟨tl2, e3, k3⟩ := kb_st k2
  have f1 := kb_f k3 (show 1 < 7 by omega)
  have f2 := kb_f k3 (show 4 < 7 by omega)
  have f3 := kb_f k3 (show 5 < 7 by omega)
  have f4 := kb_f k3 (show 6 < 7 by omega)
  rw [s_109_89]
  simp [s_109_0, s_109_1, s_109_2, s_109_5, s_109_6, s_109_7, s_109_10, s_109_11, s_109_12, s_109_15, s_109_16, s_109_17, s_109_20, s_109_21, s_109_23, s_109_26, s_109_29, s_109_30, s_109_33, s_109_34, s_109_35, s_109_38, s_109_39, s_109_40, s_109_43, s_109_46, s_109_47, s_109_48, s_109_49, s_109_52, s_109_53, s_109_56, s_109_57, s_109_60, s_109_61, s_109_63, s_109_65, s_109_68, s_109_69, s_109_72, s_109_73, s_109_76, s_109_78, s_109_79, s_109_80, s_109_81, s_109_84, s_109_85, s_109_86, s_109_90, s_109_93, s_109_96, s_109_97, s_109_99, s_109_102, s_109_103, s_109_106, s_109_107, s_109_110, s_109_113, s_109_114, s_109_117, s_109_118, s_109_119, s_109_120, s_109_123, s_109_124, s_109_127, s_109_128, s_109_129, s_109_130, s_109_132, s_109_133, s_109_135, s_109_137, s_109_140, s_109_143, s_109_144, s_109_145, s_109_146, s_109_149, s_109_151, s_109_152, s_109_153, s_109_156, s_109_158, s_109_159, s_109_162, s_109_165, s_109_166, s_109_169, s_109_170, s_109_172, s_109_173, s_109_175, s_109_178, s_109_179, s_109_182, s_109_183, s_109_184, s_109_187, s_109_188, s_109_191, s_109_194, s_109_196, s_109_199, s_109_201, s_109_204, s_109_205, s_109_207, s_109_210, s_109_213, s_109_216, s_109_217, ha_36, hg_36_0, hq_36_0, hg_36_1, hg_36_2, hq_36_2, hg_36_3, hg_36_4, hg_36_5, hg_36_6, hq_36_6, hg_36_7, hq_36_7, hg_36_8, hq_36_8, hg_36_9, hg_36_10, hg_36_11, hg_36_12, hg_36_13, hg_36_14, hg_36_15, hg_36_16, hg_36_17, hg_36_18, hq_36_18, hg_36_19, hg_36_20, hq_36_20, hg_36_21, hq_36_21, hg_36_22, hg_36_23, hq_36_23, hg_36_24, hg_36_25, hq_36_25, hg_36_26, hq_36_26, hg_36_27, hq_36_27, hg_36_28, hq_36_28, hg_36_29, hg_36_30, hg_36_31, hq_36_31, hg_36_32, hg_36_33, hg_36_34, hg_36_35, hq_36_35, hg_36_36, hg_36_37, hg_36_38, hg_36_39, hg_36_40, hq_36_40, hg_36_41, hg_36_42, hg_36_43, hg_36_44, hq_36_44, hg_36_45, hg_36_46, hg_36_47, hg_36_48, hg_36_49, hq_36_49, hg_36_50, hg_36_51, hq_36_51, hg_36_52, hq_36_52, hg_36_53, hq_36_53, hg_36_54, hq_36_54, hg_36_55, hq_36_55, hg_36_56, hq_36_56, hg_36_57, hg_36_58, hq_36_58, hg_36_59, hq_36_59, hg_36_60, hq_36_60, hg_36_61, hl_37, hs_37, hl_38, hs_38, hl_39, hs_39, hl_40, hs_40, hl_41, hs_41, hl_42, hs_42, hl_43, hs_43, hl_44, hs_44, hl_45, hs_45, hl_46, hs_46, hl_47, hs_47, hl_48, hs_48, hl_49, hs_49, hl_50, hs_50, hl_51, hs_51, hl_52, hs_52, hl_53, hs_53, hl_54, hs_54, hl_55, hs_55, hl_56, hs_56, hl_57, hs_57, hl_58, hs_58, hl_59, hs_59, hl_60, hs_60, hl_61, hs_61, hl_62, hs_62, hl_63, hs_63, hl_64, hs_64, hl_65, hs_65, hl_66, hs_66, hl_67, hs_67, hl_68, hs_68, hl_69, hs_69, hl_70, hs_70, hl_71, hs_71, am_ld_cons, am_ld_nil, am_st1_cons, am_st1_nil, am_st2_cons, am_st2_nil, am_P1, am_P2, Value.category, am_add_add, am_add0, am_add_some, er, e2, e3, f1, f2, f3, f4, t0, t1, t2, t3, t4, g1, g2, g3, ho, hT, k, h1, h2, kp, hw, ho1, wr_fold, z1, c1, c2, c3, eK, z2]
  exact key _ _ _ _ (by omega) (kb_cons (by omega) (kb_cons (by omega) (kb_le (by omega) k3)))
