/-! Running: the class's loop. -/
def h31 (scr : Nat → Int32) (L F d : Nat) (I : am_I) (J : am_J) (Mx : am_I) (mo : Int32) (st N : Nat) (R : Option am_X) : Prop := ∀ f, N ≤ f → am_f (d + 10) scr L (am_r scr L (F + 200000) (d + 10)) 31 f 7 ((0, .ref 22) :: (1, .int mo) :: (2, .int (nI st)) :: []) [] (hp I J Mx) = R
theorem h31_le {scr : Nat → Int32} {L F d : Nat} {I : am_I} {J : am_J} {Mx : am_I} {mo : Int32} {st N N' : Nat} {R : Option am_X} (h : N ≤ N') (k : h31 scr L F d I J Mx mo st N R) : h31 scr L F d I J Mx mo st N' R := fun f hf => k f (by omega)
set_option maxRecDepth 100000 in
set_option maxHeartbeats 4000000 in
theorem x_end (scr : Nat → Int32) (L F d : Nat) (I : am_I) (J : am_J) (Mx : am_I) (mo : Int32) (st : Nat) (hst : st < 1000000) (e : Int32) (h12 : I 21 12 = e) (he : ¬ e = 6) : h31 scr L F d I J Mx mo st 80 (some (some (.int e), hp I J Mx, 0, 0)) := by
  have l1 : ¬ (1000000 : Int32) ≤ nI st := by
    rw [show (1000000 : Int32) = nI 1000000 by decide +kernel]
    exact nI_ge hst (by decide)
  have es : nI st + 1 = nI (st + 1) := nI_1 st
  intro f hf
  obtain ⟨g, rfl⟩ : ∃ g, f = g + 80 := ⟨f - 80, by omega⟩
  rw [s_31_7]
  simp [s_31_0, s_31_1, s_31_2, s_31_5, s_31_6, s_31_8, s_31_10, s_31_13, s_31_14, s_31_17, s_31_19, s_31_22, s_31_23, s_31_26, s_31_29, s_31_30, s_31_33, s_31_36, s_31_37, s_31_40, s_31_43, s_31_44, s_31_45, s_31_48, s_31_51, s_31_52, s_31_55, s_31_58, s_31_59, s_31_62, s_31_63, s_31_64, s_31_67, s_31_68, s_31_71, s_31_72, s_31_73, s_31_74, s_31_77, s_31_78, s_31_81, s_31_84, s_31_85, s_31_88, s_31_91, s_31_92, s_31_95, s_31_96, s_31_99, s_31_102, s_31_103, s_31_106, s_31_107, s_31_110, s_31_111, s_31_112, s_31_113, s_31_114, s_31_117, s_31_118, s_31_121, s_31_124, s_31_125, s_31_128, s_31_129, s_31_132, s_31_135, s_31_137, s_31_140, s_31_141, s_31_142, s_31_145, s_31_148, s_31_151, s_31_154, s_31_157, s_31_158, s_31_161, s_31_163, s_31_166, s_31_167, s_31_168, s_31_171, s_31_172, s_31_175, ha_0, hg_0_0, hg_0_1, hg_0_2, hg_0_3, hg_0_4, hq_0_4, hg_0_5, hq_0_5, ha_1, hg_1_0, hg_1_1, hg_1_2, hg_1_3, hg_1_4, hg_1_5, hg_1_6, hg_1_7, hg_1_8, hg_1_9, hg_1_10, hg_1_11, hg_1_12, hq_1_12, ha_2, hg_2_0, hg_2_1, hg_2_2, hg_2_3, hg_2_4, hq_2_4, hl_3, hs_3, hl_4, hs_4, hl_5, hs_5, hl_6, hs_6, hl_7, hs_7, hl_8, hs_8, hl_9, hs_9, hl_10, hs_10, hl_11, hs_11, hl_12, hs_12, hl_13, hs_13, hl_14, hs_14, hl_15, hs_15, hl_16, hs_16, hl_17, hs_17, ha_18, hg_18_0, hg_18_1, hg_18_2, hq_18_2, hg_18_3, hq_18_3, hl_19, hs_19, ha_20, hg_20_0, hg_20_1, ha_21, hg_21_0, hg_21_1, hg_21_2, hg_21_3, hg_21_4, hg_21_5, hg_21_6, hq_21_6, hg_21_7, hg_21_8, hg_21_9, hg_21_10, hq_21_10, hg_21_11, hq_21_11, hg_21_12, hq_21_12, hg_21_13, hq_21_13, hg_21_14, hq_21_14, hg_21_15, hq_21_15, hg_21_16, hq_21_16, hg_21_17, hq_21_17, ha_22, hg_22_0, hg_22_1, hg_22_2, hg_22_3, hg_22_4, hg_22_5, hg_22_6, hq_22_6, hg_22_7, hq_22_7, hg_22_8, hq_22_8, hl_23, hs_23, hl_24, hs_24, hl_25, hs_25, hl_26, hs_26, hl_27, hs_27, ha_28, hg_28_0, hg_28_1, hq_28_1, hl_29, hs_29, hl_30, hs_30, hl_31, hs_31, hl_32, hs_32, hl_33, hs_33, hl_34, hs_34, hl_35, hs_35, am_ld_cons, am_ld_nil, am_st1_cons, am_st1_nil, am_st2_cons, am_st2_nil, am_P1, am_P2, Value.category, am_add_add, am_add0, am_add_some, l1, es, h12, he]
set_option maxRecDepth 100000 in
set_option maxHeartbeats 4000000 in
theorem x_enter (scr : Nat → Int32) (L F d : Nat) (I : am_I) (J : am_J) (Mx : am_I) (mo : Int32) (st : Nat) (hst : st < 1000000) (h12 : I 21 12 = 6) (h16 : I 21 16 = 0) (I1 : am_I) (J1 : am_J) (k : am_r scr L (F + 200000) (d + 10) 34 [.ref 22] (hp I J Mx) = some (none, hp I1 J1 Mx, 0, 0)) (hc : (I1) 22 7 = 6) (N : Nat) (R : Option am_X) (key : h31 scr L F d (I1) (J1) Mx mo (st + 1) N R) : h31 scr L F d I J Mx mo st (N + 80) R := by
  have l1 : ¬ (1000000 : Int32) ≤ nI st := by
    rw [show (1000000 : Int32) = nI 1000000 by decide +kernel]
    exact nI_ge hst (by decide)
  have es : nI st + 1 = nI (st + 1) := nI_1 st
  intro f hf
  obtain ⟨g, rfl⟩ : ∃ g, f = g + 80 := ⟨f - 80, by omega⟩
  rw [s_31_7]
  simp [s_31_0, s_31_1, s_31_2, s_31_5, s_31_6, s_31_8, s_31_10, s_31_13, s_31_14, s_31_17, s_31_19, s_31_22, s_31_23, s_31_26, s_31_29, s_31_30, s_31_33, s_31_36, s_31_37, s_31_40, s_31_43, s_31_44, s_31_45, s_31_48, s_31_51, s_31_52, s_31_55, s_31_58, s_31_59, s_31_62, s_31_63, s_31_64, s_31_67, s_31_68, s_31_71, s_31_72, s_31_73, s_31_74, s_31_77, s_31_78, s_31_81, s_31_84, s_31_85, s_31_88, s_31_91, s_31_92, s_31_95, s_31_96, s_31_99, s_31_102, s_31_103, s_31_106, s_31_107, s_31_110, s_31_111, s_31_112, s_31_113, s_31_114, s_31_117, s_31_118, s_31_121, s_31_124, s_31_125, s_31_128, s_31_129, s_31_132, s_31_135, s_31_137, s_31_140, s_31_141, s_31_142, s_31_145, s_31_148, s_31_151, s_31_154, s_31_157, s_31_158, s_31_161, s_31_163, s_31_166, s_31_167, s_31_168, s_31_171, s_31_172, s_31_175, ha_0, hg_0_0, hg_0_1, hg_0_2, hg_0_3, hg_0_4, hq_0_4, hg_0_5, hq_0_5, ha_1, hg_1_0, hg_1_1, hg_1_2, hg_1_3, hg_1_4, hg_1_5, hg_1_6, hg_1_7, hg_1_8, hg_1_9, hg_1_10, hg_1_11, hg_1_12, hq_1_12, ha_2, hg_2_0, hg_2_1, hg_2_2, hg_2_3, hg_2_4, hq_2_4, hl_3, hs_3, hl_4, hs_4, hl_5, hs_5, hl_6, hs_6, hl_7, hs_7, hl_8, hs_8, hl_9, hs_9, hl_10, hs_10, hl_11, hs_11, hl_12, hs_12, hl_13, hs_13, hl_14, hs_14, hl_15, hs_15, hl_16, hs_16, hl_17, hs_17, ha_18, hg_18_0, hg_18_1, hg_18_2, hq_18_2, hg_18_3, hq_18_3, hl_19, hs_19, ha_20, hg_20_0, hg_20_1, ha_21, hg_21_0, hg_21_1, hg_21_2, hg_21_3, hg_21_4, hg_21_5, hg_21_6, hq_21_6, hg_21_7, hg_21_8, hg_21_9, hg_21_10, hq_21_10, hg_21_11, hq_21_11, hg_21_12, hq_21_12, hg_21_13, hq_21_13, hg_21_14, hq_21_14, hg_21_15, hq_21_15, hg_21_16, hq_21_16, hg_21_17, hq_21_17, ha_22, hg_22_0, hg_22_1, hg_22_2, hg_22_3, hg_22_4, hg_22_5, hg_22_6, hq_22_6, hg_22_7, hq_22_7, hg_22_8, hq_22_8, hl_23, hs_23, hl_24, hs_24, hl_25, hs_25, hl_26, hs_26, hl_27, hs_27, ha_28, hg_28_0, hg_28_1, hq_28_1, hl_29, hs_29, hl_30, hs_30, hl_31, hs_31, hl_32, hs_32, hl_33, hs_33, hl_34, hs_34, hl_35, hs_35, am_ld_cons, am_ld_nil, am_st1_cons, am_st1_nil, am_st2_cons, am_st2_nil, am_P1, am_P2, Value.category, am_add_add, am_add0, am_add_some, l1, es, h12, h16, k, hc]
  exact key _ (by omega)
set_option maxRecDepth 100000 in
set_option maxHeartbeats 4000000 in
theorem x_enter_s (scr : Nat → Int32) (L F d : Nat) (I : am_I) (J : am_J) (Mx : am_I) (mo : Int32) (st : Nat) (hst : st < 1000000) (h12 : I 21 12 = 6) (h16 : I 21 16 = 0) (I1 : am_I) (J1 : am_J) (k : am_r scr L (F + 200000) (d + 10) 34 [.ref 22] (hp I J Mx) = some (none, hp I1 J1 Mx, 0, 0)) (e : Int32) (hc : (I1) 22 7 = e) (hc2 : ¬ e = 6) (N : Nat) (R : Option am_X) (key : h31 scr L F d (wr (I1) 21 12 e) (J1) Mx mo (st + 1) N R) : h31 scr L F d I J Mx mo st (N + 80) R := by
  have l1 : ¬ (1000000 : Int32) ≤ nI st := by
    rw [show (1000000 : Int32) = nI 1000000 by decide +kernel]
    exact nI_ge hst (by decide)
  have es : nI st + 1 = nI (st + 1) := nI_1 st
  intro f hf
  obtain ⟨g, rfl⟩ : ∃ g, f = g + 80 := ⟨f - 80, by omega⟩
  rw [s_31_7]
  simp [s_31_0, s_31_1, s_31_2, s_31_5, s_31_6, s_31_8, s_31_10, s_31_13, s_31_14, s_31_17, s_31_19, s_31_22, s_31_23, s_31_26, s_31_29, s_31_30, s_31_33, s_31_36, s_31_37, s_31_40, s_31_43, s_31_44, s_31_45, s_31_48, s_31_51, s_31_52, s_31_55, s_31_58, s_31_59, s_31_62, s_31_63, s_31_64, s_31_67, s_31_68, s_31_71, s_31_72, s_31_73, s_31_74, s_31_77, s_31_78, s_31_81, s_31_84, s_31_85, s_31_88, s_31_91, s_31_92, s_31_95, s_31_96, s_31_99, s_31_102, s_31_103, s_31_106, s_31_107, s_31_110, s_31_111, s_31_112, s_31_113, s_31_114, s_31_117, s_31_118, s_31_121, s_31_124, s_31_125, s_31_128, s_31_129, s_31_132, s_31_135, s_31_137, s_31_140, s_31_141, s_31_142, s_31_145, s_31_148, s_31_151, s_31_154, s_31_157, s_31_158, s_31_161, s_31_163, s_31_166, s_31_167, s_31_168, s_31_171, s_31_172, s_31_175, ha_0, hg_0_0, hg_0_1, hg_0_2, hg_0_3, hg_0_4, hq_0_4, hg_0_5, hq_0_5, ha_1, hg_1_0, hg_1_1, hg_1_2, hg_1_3, hg_1_4, hg_1_5, hg_1_6, hg_1_7, hg_1_8, hg_1_9, hg_1_10, hg_1_11, hg_1_12, hq_1_12, ha_2, hg_2_0, hg_2_1, hg_2_2, hg_2_3, hg_2_4, hq_2_4, hl_3, hs_3, hl_4, hs_4, hl_5, hs_5, hl_6, hs_6, hl_7, hs_7, hl_8, hs_8, hl_9, hs_9, hl_10, hs_10, hl_11, hs_11, hl_12, hs_12, hl_13, hs_13, hl_14, hs_14, hl_15, hs_15, hl_16, hs_16, hl_17, hs_17, ha_18, hg_18_0, hg_18_1, hg_18_2, hq_18_2, hg_18_3, hq_18_3, hl_19, hs_19, ha_20, hg_20_0, hg_20_1, ha_21, hg_21_0, hg_21_1, hg_21_2, hg_21_3, hg_21_4, hg_21_5, hg_21_6, hq_21_6, hg_21_7, hg_21_8, hg_21_9, hg_21_10, hq_21_10, hg_21_11, hq_21_11, hg_21_12, hq_21_12, hg_21_13, hq_21_13, hg_21_14, hq_21_14, hg_21_15, hq_21_15, hg_21_16, hq_21_16, hg_21_17, hq_21_17, ha_22, hg_22_0, hg_22_1, hg_22_2, hg_22_3, hg_22_4, hg_22_5, hg_22_6, hq_22_6, hg_22_7, hq_22_7, hg_22_8, hq_22_8, hl_23, hs_23, hl_24, hs_24, hl_25, hs_25, hl_26, hs_26, hl_27, hs_27, ha_28, hg_28_0, hg_28_1, hq_28_1, hl_29, hs_29, hl_30, hs_30, hl_31, hs_31, hl_32, hs_32, hl_33, hs_33, hl_34, hs_34, hl_35, hs_35, am_ld_cons, am_ld_nil, am_st1_cons, am_st1_nil, am_st2_cons, am_st2_nil, am_P1, am_P2, Value.category, am_add_add, am_add0, am_add_some, l1, es, h12, h16, k, hc, hc2, wr_fold]
  exact key _ (by omega)
set_option maxRecDepth 100000 in
set_option maxHeartbeats 4000000 in
theorem x_val (scr : Nat → Int32) (L F d : Nat) (I : am_I) (J : am_J) (Mx : am_I) (mo : Int32) (st : Nat) (hst : st < 1000000) (h12 : I 21 12 = 6) (h16 : I 21 16 = 1) (h6 : I 21 6 = 0) (hc : I 22 7 = 6) (N : Nat) (R : Option am_X) (key : h31 scr L F d (wr I 21 12 1) J Mx mo (st + 1) N R) : h31 scr L F d I J Mx mo st (N + 80) R := by
  have l1 : ¬ (1000000 : Int32) ≤ nI st := by
    rw [show (1000000 : Int32) = nI 1000000 by decide +kernel]
    exact nI_ge hst (by decide)
  have es : nI st + 1 = nI (st + 1) := nI_1 st
  have hc2 : wr I 21 12 1 22 7 = 6 := (wr_ap _ _ _ _ _ _ (by omega)).trans hc
  intro f hf
  obtain ⟨g, rfl⟩ : ∃ g, f = g + 80 := ⟨f - 80, by omega⟩
  rw [s_31_7]
  simp [s_31_0, s_31_1, s_31_2, s_31_5, s_31_6, s_31_8, s_31_10, s_31_13, s_31_14, s_31_17, s_31_19, s_31_22, s_31_23, s_31_26, s_31_29, s_31_30, s_31_33, s_31_36, s_31_37, s_31_40, s_31_43, s_31_44, s_31_45, s_31_48, s_31_51, s_31_52, s_31_55, s_31_58, s_31_59, s_31_62, s_31_63, s_31_64, s_31_67, s_31_68, s_31_71, s_31_72, s_31_73, s_31_74, s_31_77, s_31_78, s_31_81, s_31_84, s_31_85, s_31_88, s_31_91, s_31_92, s_31_95, s_31_96, s_31_99, s_31_102, s_31_103, s_31_106, s_31_107, s_31_110, s_31_111, s_31_112, s_31_113, s_31_114, s_31_117, s_31_118, s_31_121, s_31_124, s_31_125, s_31_128, s_31_129, s_31_132, s_31_135, s_31_137, s_31_140, s_31_141, s_31_142, s_31_145, s_31_148, s_31_151, s_31_154, s_31_157, s_31_158, s_31_161, s_31_163, s_31_166, s_31_167, s_31_168, s_31_171, s_31_172, s_31_175, ha_0, hg_0_0, hg_0_1, hg_0_2, hg_0_3, hg_0_4, hq_0_4, hg_0_5, hq_0_5, ha_1, hg_1_0, hg_1_1, hg_1_2, hg_1_3, hg_1_4, hg_1_5, hg_1_6, hg_1_7, hg_1_8, hg_1_9, hg_1_10, hg_1_11, hg_1_12, hq_1_12, ha_2, hg_2_0, hg_2_1, hg_2_2, hg_2_3, hg_2_4, hq_2_4, hl_3, hs_3, hl_4, hs_4, hl_5, hs_5, hl_6, hs_6, hl_7, hs_7, hl_8, hs_8, hl_9, hs_9, hl_10, hs_10, hl_11, hs_11, hl_12, hs_12, hl_13, hs_13, hl_14, hs_14, hl_15, hs_15, hl_16, hs_16, hl_17, hs_17, ha_18, hg_18_0, hg_18_1, hg_18_2, hq_18_2, hg_18_3, hq_18_3, hl_19, hs_19, ha_20, hg_20_0, hg_20_1, ha_21, hg_21_0, hg_21_1, hg_21_2, hg_21_3, hg_21_4, hg_21_5, hg_21_6, hq_21_6, hg_21_7, hg_21_8, hg_21_9, hg_21_10, hq_21_10, hg_21_11, hq_21_11, hg_21_12, hq_21_12, hg_21_13, hq_21_13, hg_21_14, hq_21_14, hg_21_15, hq_21_15, hg_21_16, hq_21_16, hg_21_17, hq_21_17, ha_22, hg_22_0, hg_22_1, hg_22_2, hg_22_3, hg_22_4, hg_22_5, hg_22_6, hq_22_6, hg_22_7, hq_22_7, hg_22_8, hq_22_8, hl_23, hs_23, hl_24, hs_24, hl_25, hs_25, hl_26, hs_26, hl_27, hs_27, ha_28, hg_28_0, hg_28_1, hq_28_1, hl_29, hs_29, hl_30, hs_30, hl_31, hs_31, hl_32, hs_32, hl_33, hs_33, hl_34, hs_34, hl_35, hs_35, am_ld_cons, am_ld_nil, am_st1_cons, am_st1_nil, am_st2_cons, am_st2_nil, am_P1, am_P2, Value.category, am_add_add, am_add0, am_add_some, l1, es, h12, h16, h6, wr_fold, hc2]
  exact key _ (by omega)
set_option maxRecDepth 100000 in
set_option maxHeartbeats 4000000 in
theorem x_leave (scr : Nat → Int32) (L F d : Nat) (I : am_I) (J : am_J) (Mx : am_I) (mo : Int32) (st : Nat) (hst : st < 1000000) (h12 : I 21 12 = 6) (h16 : I 21 16 = 1) (fr q p : Nat) (h6 : I 21 6 = nI (fr + 1)) (hfr : fr < 820) (h14 : I 21 14 = nI q) (hq : q < 100) (h30 : I 30 fr = nI p) (hp1 : p < 100) (y : Int32) (h8 : I 8 q = y) (hy : ¬ y = nI p) (I1 : am_I) (J1 : am_J) (k : am_r scr L (F + 200000) (d + 10) 38 [.ref 22] (hp I J Mx) = some (none, hp I1 J1 Mx, 0, 0)) (hc : (I1) 22 7 = 6) (N : Nat) (R : Option am_X) (key : h31 scr L F d (I1) (J1) Mx mo (st + 1) N R) : h31 scr L F d I J Mx mo st (N + 80) R := by
  have l1 : ¬ (1000000 : Int32) ≤ nI st := by
    rw [show (1000000 : Int32) = nI 1000000 by decide +kernel]
    exact nI_ge hst (by decide)
  have es : nI st + 1 = nI (st + 1) := nI_1 st
  have f1 : ¬ nI fr < 0 := nI_pos (by omega)
  have f2 : (nI fr).toNatClampNeg = fr := nI_clamp (by omega)
  have f3 : ¬ 820 ≤ fr := by omega
  have q1 : ¬ nI q < 0 := nI_pos (by omega)
  have q2 : (nI q).toNatClampNeg = q := nI_clamp (by omega)
  have q3 : ¬ 100 ≤ q := by omega
  have p1 : ¬ nI p < 0 := nI_pos (by omega)
  have p2 : (nI p).toNatClampNeg = p := nI_clamp (by omega)
  have p3 : ¬ 100 ≤ p := by omega
  have f0 : ¬ nI (fr + 1) = 0 := nI_ne0 (by omega) (by omega)
  have pf : nI (fr + 1) - 1 = nI fr := nI_pred fr
  intro f hf
  obtain ⟨g, rfl⟩ : ∃ g, f = g + 80 := ⟨f - 80, by omega⟩
  rw [s_31_7]
  simp [s_31_0, s_31_1, s_31_2, s_31_5, s_31_6, s_31_8, s_31_10, s_31_13, s_31_14, s_31_17, s_31_19, s_31_22, s_31_23, s_31_26, s_31_29, s_31_30, s_31_33, s_31_36, s_31_37, s_31_40, s_31_43, s_31_44, s_31_45, s_31_48, s_31_51, s_31_52, s_31_55, s_31_58, s_31_59, s_31_62, s_31_63, s_31_64, s_31_67, s_31_68, s_31_71, s_31_72, s_31_73, s_31_74, s_31_77, s_31_78, s_31_81, s_31_84, s_31_85, s_31_88, s_31_91, s_31_92, s_31_95, s_31_96, s_31_99, s_31_102, s_31_103, s_31_106, s_31_107, s_31_110, s_31_111, s_31_112, s_31_113, s_31_114, s_31_117, s_31_118, s_31_121, s_31_124, s_31_125, s_31_128, s_31_129, s_31_132, s_31_135, s_31_137, s_31_140, s_31_141, s_31_142, s_31_145, s_31_148, s_31_151, s_31_154, s_31_157, s_31_158, s_31_161, s_31_163, s_31_166, s_31_167, s_31_168, s_31_171, s_31_172, s_31_175, ha_0, hg_0_0, hg_0_1, hg_0_2, hg_0_3, hg_0_4, hq_0_4, hg_0_5, hq_0_5, ha_1, hg_1_0, hg_1_1, hg_1_2, hg_1_3, hg_1_4, hg_1_5, hg_1_6, hg_1_7, hg_1_8, hg_1_9, hg_1_10, hg_1_11, hg_1_12, hq_1_12, ha_2, hg_2_0, hg_2_1, hg_2_2, hg_2_3, hg_2_4, hq_2_4, hl_3, hs_3, hl_4, hs_4, hl_5, hs_5, hl_6, hs_6, hl_7, hs_7, hl_8, hs_8, hl_9, hs_9, hl_10, hs_10, hl_11, hs_11, hl_12, hs_12, hl_13, hs_13, hl_14, hs_14, hl_15, hs_15, hl_16, hs_16, hl_17, hs_17, ha_18, hg_18_0, hg_18_1, hg_18_2, hq_18_2, hg_18_3, hq_18_3, hl_19, hs_19, ha_20, hg_20_0, hg_20_1, ha_21, hg_21_0, hg_21_1, hg_21_2, hg_21_3, hg_21_4, hg_21_5, hg_21_6, hq_21_6, hg_21_7, hg_21_8, hg_21_9, hg_21_10, hq_21_10, hg_21_11, hq_21_11, hg_21_12, hq_21_12, hg_21_13, hq_21_13, hg_21_14, hq_21_14, hg_21_15, hq_21_15, hg_21_16, hq_21_16, hg_21_17, hq_21_17, ha_22, hg_22_0, hg_22_1, hg_22_2, hg_22_3, hg_22_4, hg_22_5, hg_22_6, hq_22_6, hg_22_7, hq_22_7, hg_22_8, hq_22_8, hl_23, hs_23, hl_24, hs_24, hl_25, hs_25, hl_26, hs_26, hl_27, hs_27, ha_28, hg_28_0, hg_28_1, hq_28_1, hl_29, hs_29, hl_30, hs_30, hl_31, hs_31, hl_32, hs_32, hl_33, hs_33, hl_34, hs_34, hl_35, hs_35, am_ld_cons, am_ld_nil, am_st1_cons, am_st1_nil, am_st2_cons, am_st2_nil, am_P1, am_P2, Value.category, am_add_add, am_add0, am_add_some, l1, es, h12, h16, h6, f0, pf, f1, f2, f3, h14, q1, q2, q3, h30, p1, p2, p3, h8, hy, k, hc]
  exact key _ (by omega)
set_option maxRecDepth 100000 in
set_option maxHeartbeats 4000000 in
theorem x_leave_s (scr : Nat → Int32) (L F d : Nat) (I : am_I) (J : am_J) (Mx : am_I) (mo : Int32) (st : Nat) (hst : st < 1000000) (h12 : I 21 12 = 6) (h16 : I 21 16 = 1) (fr q p : Nat) (h6 : I 21 6 = nI (fr + 1)) (hfr : fr < 820) (h14 : I 21 14 = nI q) (hq : q < 100) (h30 : I 30 fr = nI p) (hp1 : p < 100) (y : Int32) (h8 : I 8 q = y) (hy : ¬ y = nI p) (I1 : am_I) (J1 : am_J) (k : am_r scr L (F + 200000) (d + 10) 38 [.ref 22] (hp I J Mx) = some (none, hp I1 J1 Mx, 0, 0)) (e : Int32) (hc : (I1) 22 7 = e) (hc2 : ¬ e = 6) (N : Nat) (R : Option am_X) (key : h31 scr L F d (wr (I1) 21 12 e) (J1) Mx mo (st + 1) N R) : h31 scr L F d I J Mx mo st (N + 80) R := by
  have l1 : ¬ (1000000 : Int32) ≤ nI st := by
    rw [show (1000000 : Int32) = nI 1000000 by decide +kernel]
    exact nI_ge hst (by decide)
  have es : nI st + 1 = nI (st + 1) := nI_1 st
  have f1 : ¬ nI fr < 0 := nI_pos (by omega)
  have f2 : (nI fr).toNatClampNeg = fr := nI_clamp (by omega)
  have f3 : ¬ 820 ≤ fr := by omega
  have q1 : ¬ nI q < 0 := nI_pos (by omega)
  have q2 : (nI q).toNatClampNeg = q := nI_clamp (by omega)
  have q3 : ¬ 100 ≤ q := by omega
  have p1 : ¬ nI p < 0 := nI_pos (by omega)
  have p2 : (nI p).toNatClampNeg = p := nI_clamp (by omega)
  have p3 : ¬ 100 ≤ p := by omega
  have f0 : ¬ nI (fr + 1) = 0 := nI_ne0 (by omega) (by omega)
  have pf : nI (fr + 1) - 1 = nI fr := nI_pred fr
  intro f hf
  obtain ⟨g, rfl⟩ : ∃ g, f = g + 80 := ⟨f - 80, by omega⟩
  rw [s_31_7]
  simp [s_31_0, s_31_1, s_31_2, s_31_5, s_31_6, s_31_8, s_31_10, s_31_13, s_31_14, s_31_17, s_31_19, s_31_22, s_31_23, s_31_26, s_31_29, s_31_30, s_31_33, s_31_36, s_31_37, s_31_40, s_31_43, s_31_44, s_31_45, s_31_48, s_31_51, s_31_52, s_31_55, s_31_58, s_31_59, s_31_62, s_31_63, s_31_64, s_31_67, s_31_68, s_31_71, s_31_72, s_31_73, s_31_74, s_31_77, s_31_78, s_31_81, s_31_84, s_31_85, s_31_88, s_31_91, s_31_92, s_31_95, s_31_96, s_31_99, s_31_102, s_31_103, s_31_106, s_31_107, s_31_110, s_31_111, s_31_112, s_31_113, s_31_114, s_31_117, s_31_118, s_31_121, s_31_124, s_31_125, s_31_128, s_31_129, s_31_132, s_31_135, s_31_137, s_31_140, s_31_141, s_31_142, s_31_145, s_31_148, s_31_151, s_31_154, s_31_157, s_31_158, s_31_161, s_31_163, s_31_166, s_31_167, s_31_168, s_31_171, s_31_172, s_31_175, ha_0, hg_0_0, hg_0_1, hg_0_2, hg_0_3, hg_0_4, hq_0_4, hg_0_5, hq_0_5, ha_1, hg_1_0, hg_1_1, hg_1_2, hg_1_3, hg_1_4, hg_1_5, hg_1_6, hg_1_7, hg_1_8, hg_1_9, hg_1_10, hg_1_11, hg_1_12, hq_1_12, ha_2, hg_2_0, hg_2_1, hg_2_2, hg_2_3, hg_2_4, hq_2_4, hl_3, hs_3, hl_4, hs_4, hl_5, hs_5, hl_6, hs_6, hl_7, hs_7, hl_8, hs_8, hl_9, hs_9, hl_10, hs_10, hl_11, hs_11, hl_12, hs_12, hl_13, hs_13, hl_14, hs_14, hl_15, hs_15, hl_16, hs_16, hl_17, hs_17, ha_18, hg_18_0, hg_18_1, hg_18_2, hq_18_2, hg_18_3, hq_18_3, hl_19, hs_19, ha_20, hg_20_0, hg_20_1, ha_21, hg_21_0, hg_21_1, hg_21_2, hg_21_3, hg_21_4, hg_21_5, hg_21_6, hq_21_6, hg_21_7, hg_21_8, hg_21_9, hg_21_10, hq_21_10, hg_21_11, hq_21_11, hg_21_12, hq_21_12, hg_21_13, hq_21_13, hg_21_14, hq_21_14, hg_21_15, hq_21_15, hg_21_16, hq_21_16, hg_21_17, hq_21_17, ha_22, hg_22_0, hg_22_1, hg_22_2, hg_22_3, hg_22_4, hg_22_5, hg_22_6, hq_22_6, hg_22_7, hq_22_7, hg_22_8, hq_22_8, hl_23, hs_23, hl_24, hs_24, hl_25, hs_25, hl_26, hs_26, hl_27, hs_27, ha_28, hg_28_0, hg_28_1, hq_28_1, hl_29, hs_29, hl_30, hs_30, hl_31, hs_31, hl_32, hs_32, hl_33, hs_33, hl_34, hs_34, hl_35, hs_35, am_ld_cons, am_ld_nil, am_st1_cons, am_st1_nil, am_st2_cons, am_st2_nil, am_P1, am_P2, Value.category, am_add_add, am_add0, am_add_some, l1, es, h12, h16, h6, f0, pf, f1, f2, f3, h14, q1, q2, q3, h30, p1, p2, p3, h8, hy, k, hc, hc2, wr_fold]
  exact key _ (by omega)
set_option maxRecDepth 100000 in
set_option maxHeartbeats 4000000 in
theorem x_cast (scr : Nat → Int32) (L F d : Nat) (I : am_I) (J : am_J) (Mx : am_I) (mo : Int32) (st : Nat) (hst : st < 1000000) (h12 : I 21 12 = 6) (h16 : I 21 16 = 1) (fr q p : Nat) (h6 : I 21 6 = nI (fr + 1)) (hfr : fr < 820) (h14 : I 21 14 = nI q) (hq : q < 100) (h30 : I 30 fr = nI p) (hp1 : p < 100) (h8 : I 8 q = nI p) (I1 : am_I) (J1 : am_J) (k39 : am_r scr L (F + 200000) (d + 10) 39 [.ref 22] (hp I J Mx) = some (some (.int 0), hp I1 J1 Mx, 0, 0)) (hc : (I1) 22 7 = 6) (N : Nat) (R : Option am_X) (key : h31 scr L F d (I1) (J1) Mx mo (st + 1) N R) : h31 scr L F d I J Mx mo st (N + 80) R := by
  have l1 : ¬ (1000000 : Int32) ≤ nI st := by
    rw [show (1000000 : Int32) = nI 1000000 by decide +kernel]
    exact nI_ge hst (by decide)
  have es : nI st + 1 = nI (st + 1) := nI_1 st
  have f1 : ¬ nI fr < 0 := nI_pos (by omega)
  have f2 : (nI fr).toNatClampNeg = fr := nI_clamp (by omega)
  have f3 : ¬ 820 ≤ fr := by omega
  have q1 : ¬ nI q < 0 := nI_pos (by omega)
  have q2 : (nI q).toNatClampNeg = q := nI_clamp (by omega)
  have q3 : ¬ 100 ≤ q := by omega
  have p1 : ¬ nI p < 0 := nI_pos (by omega)
  have p2 : (nI p).toNatClampNeg = p := nI_clamp (by omega)
  have p3 : ¬ 100 ≤ p := by omega
  have f0 : ¬ nI (fr + 1) = 0 := nI_ne0 (by omega) (by omega)
  have pf : nI (fr + 1) - 1 = nI fr := nI_pred fr
  intro f hf
  obtain ⟨g, rfl⟩ : ∃ g, f = g + 80 := ⟨f - 80, by omega⟩
  rw [s_31_7]
  simp [s_31_0, s_31_1, s_31_2, s_31_5, s_31_6, s_31_8, s_31_10, s_31_13, s_31_14, s_31_17, s_31_19, s_31_22, s_31_23, s_31_26, s_31_29, s_31_30, s_31_33, s_31_36, s_31_37, s_31_40, s_31_43, s_31_44, s_31_45, s_31_48, s_31_51, s_31_52, s_31_55, s_31_58, s_31_59, s_31_62, s_31_63, s_31_64, s_31_67, s_31_68, s_31_71, s_31_72, s_31_73, s_31_74, s_31_77, s_31_78, s_31_81, s_31_84, s_31_85, s_31_88, s_31_91, s_31_92, s_31_95, s_31_96, s_31_99, s_31_102, s_31_103, s_31_106, s_31_107, s_31_110, s_31_111, s_31_112, s_31_113, s_31_114, s_31_117, s_31_118, s_31_121, s_31_124, s_31_125, s_31_128, s_31_129, s_31_132, s_31_135, s_31_137, s_31_140, s_31_141, s_31_142, s_31_145, s_31_148, s_31_151, s_31_154, s_31_157, s_31_158, s_31_161, s_31_163, s_31_166, s_31_167, s_31_168, s_31_171, s_31_172, s_31_175, ha_0, hg_0_0, hg_0_1, hg_0_2, hg_0_3, hg_0_4, hq_0_4, hg_0_5, hq_0_5, ha_1, hg_1_0, hg_1_1, hg_1_2, hg_1_3, hg_1_4, hg_1_5, hg_1_6, hg_1_7, hg_1_8, hg_1_9, hg_1_10, hg_1_11, hg_1_12, hq_1_12, ha_2, hg_2_0, hg_2_1, hg_2_2, hg_2_3, hg_2_4, hq_2_4, hl_3, hs_3, hl_4, hs_4, hl_5, hs_5, hl_6, hs_6, hl_7, hs_7, hl_8, hs_8, hl_9, hs_9, hl_10, hs_10, hl_11, hs_11, hl_12, hs_12, hl_13, hs_13, hl_14, hs_14, hl_15, hs_15, hl_16, hs_16, hl_17, hs_17, ha_18, hg_18_0, hg_18_1, hg_18_2, hq_18_2, hg_18_3, hq_18_3, hl_19, hs_19, ha_20, hg_20_0, hg_20_1, ha_21, hg_21_0, hg_21_1, hg_21_2, hg_21_3, hg_21_4, hg_21_5, hg_21_6, hq_21_6, hg_21_7, hg_21_8, hg_21_9, hg_21_10, hq_21_10, hg_21_11, hq_21_11, hg_21_12, hq_21_12, hg_21_13, hq_21_13, hg_21_14, hq_21_14, hg_21_15, hq_21_15, hg_21_16, hq_21_16, hg_21_17, hq_21_17, ha_22, hg_22_0, hg_22_1, hg_22_2, hg_22_3, hg_22_4, hg_22_5, hg_22_6, hq_22_6, hg_22_7, hq_22_7, hg_22_8, hq_22_8, hl_23, hs_23, hl_24, hs_24, hl_25, hs_25, hl_26, hs_26, hl_27, hs_27, ha_28, hg_28_0, hg_28_1, hq_28_1, hl_29, hs_29, hl_30, hs_30, hl_31, hs_31, hl_32, hs_32, hl_33, hs_33, hl_34, hs_34, hl_35, hs_35, am_ld_cons, am_ld_nil, am_st1_cons, am_st1_nil, am_st2_cons, am_st2_nil, am_P1, am_P2, Value.category, am_add_add, am_add0, am_add_some, l1, es, h12, h16, h6, f0, pf, f1, f2, f3, h14, q1, q2, q3, h30, p1, p2, p3, h8, k39, hc]
  exact key _ (by omega)
set_option maxRecDepth 100000 in
set_option maxHeartbeats 4000000 in
theorem x_cast_s (scr : Nat → Int32) (L F d : Nat) (I : am_I) (J : am_J) (Mx : am_I) (mo : Int32) (st : Nat) (hst : st < 1000000) (h12 : I 21 12 = 6) (h16 : I 21 16 = 1) (fr q p : Nat) (h6 : I 21 6 = nI (fr + 1)) (hfr : fr < 820) (h14 : I 21 14 = nI q) (hq : q < 100) (h30 : I 30 fr = nI p) (hp1 : p < 100) (h8 : I 8 q = nI p) (I1 : am_I) (J1 : am_J) (k39 : am_r scr L (F + 200000) (d + 10) 39 [.ref 22] (hp I J Mx) = some (some (.int 0), hp I1 J1 Mx, 0, 0)) (e : Int32) (hc : (I1) 22 7 = e) (hc2 : ¬ e = 6) (N : Nat) (R : Option am_X) (key : h31 scr L F d (wr (I1) 21 12 e) (J1) Mx mo (st + 1) N R) : h31 scr L F d I J Mx mo st (N + 80) R := by
  have l1 : ¬ (1000000 : Int32) ≤ nI st := by
    rw [show (1000000 : Int32) = nI 1000000 by decide +kernel]
    exact nI_ge hst (by decide)
  have es : nI st + 1 = nI (st + 1) := nI_1 st
  have f1 : ¬ nI fr < 0 := nI_pos (by omega)
  have f2 : (nI fr).toNatClampNeg = fr := nI_clamp (by omega)
  have f3 : ¬ 820 ≤ fr := by omega
  have q1 : ¬ nI q < 0 := nI_pos (by omega)
  have q2 : (nI q).toNatClampNeg = q := nI_clamp (by omega)
  have q3 : ¬ 100 ≤ q := by omega
  have p1 : ¬ nI p < 0 := nI_pos (by omega)
  have p2 : (nI p).toNatClampNeg = p := nI_clamp (by omega)
  have p3 : ¬ 100 ≤ p := by omega
  have f0 : ¬ nI (fr + 1) = 0 := nI_ne0 (by omega) (by omega)
  have pf : nI (fr + 1) - 1 = nI fr := nI_pred fr
  intro f hf
  obtain ⟨g, rfl⟩ : ∃ g, f = g + 80 := ⟨f - 80, by omega⟩
  rw [s_31_7]
  simp [s_31_0, s_31_1, s_31_2, s_31_5, s_31_6, s_31_8, s_31_10, s_31_13, s_31_14, s_31_17, s_31_19, s_31_22, s_31_23, s_31_26, s_31_29, s_31_30, s_31_33, s_31_36, s_31_37, s_31_40, s_31_43, s_31_44, s_31_45, s_31_48, s_31_51, s_31_52, s_31_55, s_31_58, s_31_59, s_31_62, s_31_63, s_31_64, s_31_67, s_31_68, s_31_71, s_31_72, s_31_73, s_31_74, s_31_77, s_31_78, s_31_81, s_31_84, s_31_85, s_31_88, s_31_91, s_31_92, s_31_95, s_31_96, s_31_99, s_31_102, s_31_103, s_31_106, s_31_107, s_31_110, s_31_111, s_31_112, s_31_113, s_31_114, s_31_117, s_31_118, s_31_121, s_31_124, s_31_125, s_31_128, s_31_129, s_31_132, s_31_135, s_31_137, s_31_140, s_31_141, s_31_142, s_31_145, s_31_148, s_31_151, s_31_154, s_31_157, s_31_158, s_31_161, s_31_163, s_31_166, s_31_167, s_31_168, s_31_171, s_31_172, s_31_175, ha_0, hg_0_0, hg_0_1, hg_0_2, hg_0_3, hg_0_4, hq_0_4, hg_0_5, hq_0_5, ha_1, hg_1_0, hg_1_1, hg_1_2, hg_1_3, hg_1_4, hg_1_5, hg_1_6, hg_1_7, hg_1_8, hg_1_9, hg_1_10, hg_1_11, hg_1_12, hq_1_12, ha_2, hg_2_0, hg_2_1, hg_2_2, hg_2_3, hg_2_4, hq_2_4, hl_3, hs_3, hl_4, hs_4, hl_5, hs_5, hl_6, hs_6, hl_7, hs_7, hl_8, hs_8, hl_9, hs_9, hl_10, hs_10, hl_11, hs_11, hl_12, hs_12, hl_13, hs_13, hl_14, hs_14, hl_15, hs_15, hl_16, hs_16, hl_17, hs_17, ha_18, hg_18_0, hg_18_1, hg_18_2, hq_18_2, hg_18_3, hq_18_3, hl_19, hs_19, ha_20, hg_20_0, hg_20_1, ha_21, hg_21_0, hg_21_1, hg_21_2, hg_21_3, hg_21_4, hg_21_5, hg_21_6, hq_21_6, hg_21_7, hg_21_8, hg_21_9, hg_21_10, hq_21_10, hg_21_11, hq_21_11, hg_21_12, hq_21_12, hg_21_13, hq_21_13, hg_21_14, hq_21_14, hg_21_15, hq_21_15, hg_21_16, hq_21_16, hg_21_17, hq_21_17, ha_22, hg_22_0, hg_22_1, hg_22_2, hg_22_3, hg_22_4, hg_22_5, hg_22_6, hq_22_6, hg_22_7, hq_22_7, hg_22_8, hq_22_8, hl_23, hs_23, hl_24, hs_24, hl_25, hs_25, hl_26, hs_26, hl_27, hs_27, ha_28, hg_28_0, hg_28_1, hq_28_1, hl_29, hs_29, hl_30, hs_30, hl_31, hs_31, hl_32, hs_32, hl_33, hs_33, hl_34, hs_34, hl_35, hs_35, am_ld_cons, am_ld_nil, am_st1_cons, am_st1_nil, am_st2_cons, am_st2_nil, am_P1, am_P2, Value.category, am_add_add, am_add0, am_add_some, l1, es, h12, h16, h6, f0, pf, f1, f2, f3, h14, q1, q2, q3, h30, p1, p2, p3, h8, k39, hc, hc2, wr_fold]
  exact key _ (by omega)
set_option maxRecDepth 100000 in
set_option maxHeartbeats 4000000 in
theorem x_first (scr : Nat → Int32) (L F d : Nat) (I : am_I) (J : am_J) (Mx : am_I) (mo : Int32) (st : Nat) (hst : st < 1000000) (h12 : I 21 12 = 6) (h16 : I 21 16 = 1) (fr q p : Nat) (h6 : I 21 6 = nI (fr + 1)) (hfr : fr < 820) (h14 : I 21 14 = nI q) (hq : q < 100) (h30 : I 30 fr = nI p) (hp1 : p < 100) (h8 : I 8 q = nI p) (I1 : am_I) (J1 : am_J) (k39 : am_r scr L (F + 200000) (d + 10) 39 [.ref 22] (hp I J Mx) = some (some (.int 1), hp I1 J1 Mx, 0, 0)) (g14 : I1 21 14 = nI q) (g6 : I1 21 6 = nI (fr + 1)) (g30 : I1 30 fr = nI p) (qf : Nat) (hqf : qf < 100) (g9 : I1 9 p = nI qf) (I2 : am_I) (J2 : am_J) (hq0 : q = qf) (k : am_r scr L (F + 200000) (d + 10) 40 [.ref 22] (hp I1 J1 Mx) = some (none, hp I2 J2 Mx, 0, 0)) (hc : (I2) 22 7 = 6) (N : Nat) (R : Option am_X) (key : h31 scr L F d (I2) (J2) Mx mo (st + 1) N R) : h31 scr L F d I J Mx mo st (N + 80) R := by
  have l1 : ¬ (1000000 : Int32) ≤ nI st := by
    rw [show (1000000 : Int32) = nI 1000000 by decide +kernel]
    exact nI_ge hst (by decide)
  have es : nI st + 1 = nI (st + 1) := nI_1 st
  have f1 : ¬ nI fr < 0 := nI_pos (by omega)
  have f2 : (nI fr).toNatClampNeg = fr := nI_clamp (by omega)
  have f3 : ¬ 820 ≤ fr := by omega
  have q1 : ¬ nI q < 0 := nI_pos (by omega)
  have q2 : (nI q).toNatClampNeg = q := nI_clamp (by omega)
  have q3 : ¬ 100 ≤ q := by omega
  have p1 : ¬ nI p < 0 := nI_pos (by omega)
  have p2 : (nI p).toNatClampNeg = p := nI_clamp (by omega)
  have p3 : ¬ 100 ≤ p := by omega
  have f0 : ¬ nI (fr + 1) = 0 := nI_ne0 (by omega) (by omega)
  have pf : nI (fr + 1) - 1 = nI fr := nI_pred fr
  subst hq0
  intro f hf
  obtain ⟨g, rfl⟩ : ∃ g, f = g + 80 := ⟨f - 80, by omega⟩
  rw [s_31_7]
  simp [s_31_0, s_31_1, s_31_2, s_31_5, s_31_6, s_31_8, s_31_10, s_31_13, s_31_14, s_31_17, s_31_19, s_31_22, s_31_23, s_31_26, s_31_29, s_31_30, s_31_33, s_31_36, s_31_37, s_31_40, s_31_43, s_31_44, s_31_45, s_31_48, s_31_51, s_31_52, s_31_55, s_31_58, s_31_59, s_31_62, s_31_63, s_31_64, s_31_67, s_31_68, s_31_71, s_31_72, s_31_73, s_31_74, s_31_77, s_31_78, s_31_81, s_31_84, s_31_85, s_31_88, s_31_91, s_31_92, s_31_95, s_31_96, s_31_99, s_31_102, s_31_103, s_31_106, s_31_107, s_31_110, s_31_111, s_31_112, s_31_113, s_31_114, s_31_117, s_31_118, s_31_121, s_31_124, s_31_125, s_31_128, s_31_129, s_31_132, s_31_135, s_31_137, s_31_140, s_31_141, s_31_142, s_31_145, s_31_148, s_31_151, s_31_154, s_31_157, s_31_158, s_31_161, s_31_163, s_31_166, s_31_167, s_31_168, s_31_171, s_31_172, s_31_175, ha_0, hg_0_0, hg_0_1, hg_0_2, hg_0_3, hg_0_4, hq_0_4, hg_0_5, hq_0_5, ha_1, hg_1_0, hg_1_1, hg_1_2, hg_1_3, hg_1_4, hg_1_5, hg_1_6, hg_1_7, hg_1_8, hg_1_9, hg_1_10, hg_1_11, hg_1_12, hq_1_12, ha_2, hg_2_0, hg_2_1, hg_2_2, hg_2_3, hg_2_4, hq_2_4, hl_3, hs_3, hl_4, hs_4, hl_5, hs_5, hl_6, hs_6, hl_7, hs_7, hl_8, hs_8, hl_9, hs_9, hl_10, hs_10, hl_11, hs_11, hl_12, hs_12, hl_13, hs_13, hl_14, hs_14, hl_15, hs_15, hl_16, hs_16, hl_17, hs_17, ha_18, hg_18_0, hg_18_1, hg_18_2, hq_18_2, hg_18_3, hq_18_3, hl_19, hs_19, ha_20, hg_20_0, hg_20_1, ha_21, hg_21_0, hg_21_1, hg_21_2, hg_21_3, hg_21_4, hg_21_5, hg_21_6, hq_21_6, hg_21_7, hg_21_8, hg_21_9, hg_21_10, hq_21_10, hg_21_11, hq_21_11, hg_21_12, hq_21_12, hg_21_13, hq_21_13, hg_21_14, hq_21_14, hg_21_15, hq_21_15, hg_21_16, hq_21_16, hg_21_17, hq_21_17, ha_22, hg_22_0, hg_22_1, hg_22_2, hg_22_3, hg_22_4, hg_22_5, hg_22_6, hq_22_6, hg_22_7, hq_22_7, hg_22_8, hq_22_8, hl_23, hs_23, hl_24, hs_24, hl_25, hs_25, hl_26, hs_26, hl_27, hs_27, ha_28, hg_28_0, hg_28_1, hq_28_1, hl_29, hs_29, hl_30, hs_30, hl_31, hs_31, hl_32, hs_32, hl_33, hs_33, hl_34, hs_34, hl_35, hs_35, am_ld_cons, am_ld_nil, am_st1_cons, am_st1_nil, am_st2_cons, am_st2_nil, am_P1, am_P2, Value.category, am_add_add, am_add0, am_add_some, l1, es, h12, h16, h6, f0, pf, f1, f2, f3, h14, q1, q2, q3, h30, p1, p2, p3, h8, k39, g14, g6, g30, g9, k, hc]
  exact key _ (by omega)
set_option maxRecDepth 100000 in
set_option maxHeartbeats 4000000 in
theorem x_first_s (scr : Nat → Int32) (L F d : Nat) (I : am_I) (J : am_J) (Mx : am_I) (mo : Int32) (st : Nat) (hst : st < 1000000) (h12 : I 21 12 = 6) (h16 : I 21 16 = 1) (fr q p : Nat) (h6 : I 21 6 = nI (fr + 1)) (hfr : fr < 820) (h14 : I 21 14 = nI q) (hq : q < 100) (h30 : I 30 fr = nI p) (hp1 : p < 100) (h8 : I 8 q = nI p) (I1 : am_I) (J1 : am_J) (k39 : am_r scr L (F + 200000) (d + 10) 39 [.ref 22] (hp I J Mx) = some (some (.int 1), hp I1 J1 Mx, 0, 0)) (g14 : I1 21 14 = nI q) (g6 : I1 21 6 = nI (fr + 1)) (g30 : I1 30 fr = nI p) (qf : Nat) (hqf : qf < 100) (g9 : I1 9 p = nI qf) (I2 : am_I) (J2 : am_J) (hq0 : q = qf) (k : am_r scr L (F + 200000) (d + 10) 40 [.ref 22] (hp I1 J1 Mx) = some (none, hp I2 J2 Mx, 0, 0)) (e : Int32) (hc : (I2) 22 7 = e) (hc2 : ¬ e = 6) (N : Nat) (R : Option am_X) (key : h31 scr L F d (wr (I2) 21 12 e) (J2) Mx mo (st + 1) N R) : h31 scr L F d I J Mx mo st (N + 80) R := by
  have l1 : ¬ (1000000 : Int32) ≤ nI st := by
    rw [show (1000000 : Int32) = nI 1000000 by decide +kernel]
    exact nI_ge hst (by decide)
  have es : nI st + 1 = nI (st + 1) := nI_1 st
  have f1 : ¬ nI fr < 0 := nI_pos (by omega)
  have f2 : (nI fr).toNatClampNeg = fr := nI_clamp (by omega)
  have f3 : ¬ 820 ≤ fr := by omega
  have q1 : ¬ nI q < 0 := nI_pos (by omega)
  have q2 : (nI q).toNatClampNeg = q := nI_clamp (by omega)
  have q3 : ¬ 100 ≤ q := by omega
  have p1 : ¬ nI p < 0 := nI_pos (by omega)
  have p2 : (nI p).toNatClampNeg = p := nI_clamp (by omega)
  have p3 : ¬ 100 ≤ p := by omega
  have f0 : ¬ nI (fr + 1) = 0 := nI_ne0 (by omega) (by omega)
  have pf : nI (fr + 1) - 1 = nI fr := nI_pred fr
  subst hq0
  intro f hf
  obtain ⟨g, rfl⟩ : ∃ g, f = g + 80 := ⟨f - 80, by omega⟩
  rw [s_31_7]
  simp [s_31_0, s_31_1, s_31_2, s_31_5, s_31_6, s_31_8, s_31_10, s_31_13, s_31_14, s_31_17, s_31_19, s_31_22, s_31_23, s_31_26, s_31_29, s_31_30, s_31_33, s_31_36, s_31_37, s_31_40, s_31_43, s_31_44, s_31_45, s_31_48, s_31_51, s_31_52, s_31_55, s_31_58, s_31_59, s_31_62, s_31_63, s_31_64, s_31_67, s_31_68, s_31_71, s_31_72, s_31_73, s_31_74, s_31_77, s_31_78, s_31_81, s_31_84, s_31_85, s_31_88, s_31_91, s_31_92, s_31_95, s_31_96, s_31_99, s_31_102, s_31_103, s_31_106, s_31_107, s_31_110, s_31_111, s_31_112, s_31_113, s_31_114, s_31_117, s_31_118, s_31_121, s_31_124, s_31_125, s_31_128, s_31_129, s_31_132, s_31_135, s_31_137, s_31_140, s_31_141, s_31_142, s_31_145, s_31_148, s_31_151, s_31_154, s_31_157, s_31_158, s_31_161, s_31_163, s_31_166, s_31_167, s_31_168, s_31_171, s_31_172, s_31_175, ha_0, hg_0_0, hg_0_1, hg_0_2, hg_0_3, hg_0_4, hq_0_4, hg_0_5, hq_0_5, ha_1, hg_1_0, hg_1_1, hg_1_2, hg_1_3, hg_1_4, hg_1_5, hg_1_6, hg_1_7, hg_1_8, hg_1_9, hg_1_10, hg_1_11, hg_1_12, hq_1_12, ha_2, hg_2_0, hg_2_1, hg_2_2, hg_2_3, hg_2_4, hq_2_4, hl_3, hs_3, hl_4, hs_4, hl_5, hs_5, hl_6, hs_6, hl_7, hs_7, hl_8, hs_8, hl_9, hs_9, hl_10, hs_10, hl_11, hs_11, hl_12, hs_12, hl_13, hs_13, hl_14, hs_14, hl_15, hs_15, hl_16, hs_16, hl_17, hs_17, ha_18, hg_18_0, hg_18_1, hg_18_2, hq_18_2, hg_18_3, hq_18_3, hl_19, hs_19, ha_20, hg_20_0, hg_20_1, ha_21, hg_21_0, hg_21_1, hg_21_2, hg_21_3, hg_21_4, hg_21_5, hg_21_6, hq_21_6, hg_21_7, hg_21_8, hg_21_9, hg_21_10, hq_21_10, hg_21_11, hq_21_11, hg_21_12, hq_21_12, hg_21_13, hq_21_13, hg_21_14, hq_21_14, hg_21_15, hq_21_15, hg_21_16, hq_21_16, hg_21_17, hq_21_17, ha_22, hg_22_0, hg_22_1, hg_22_2, hg_22_3, hg_22_4, hg_22_5, hg_22_6, hq_22_6, hg_22_7, hq_22_7, hg_22_8, hq_22_8, hl_23, hs_23, hl_24, hs_24, hl_25, hs_25, hl_26, hs_26, hl_27, hs_27, ha_28, hg_28_0, hg_28_1, hq_28_1, hl_29, hs_29, hl_30, hs_30, hl_31, hs_31, hl_32, hs_32, hl_33, hs_33, hl_34, hs_34, hl_35, hs_35, am_ld_cons, am_ld_nil, am_st1_cons, am_st1_nil, am_st2_cons, am_st2_nil, am_P1, am_P2, Value.category, am_add_add, am_add0, am_add_some, l1, es, h12, h16, h6, f0, pf, f1, f2, f3, h14, q1, q2, q3, h30, p1, p2, p3, h8, k39, g14, g6, g30, g9, k, hc, hc2, wr_fold]
  exact key _ (by omega)
set_option maxRecDepth 100000 in
set_option maxHeartbeats 4000000 in
theorem x_last (scr : Nat → Int32) (L F d : Nat) (I : am_I) (J : am_J) (Mx : am_I) (mo : Int32) (st : Nat) (hst : st < 1000000) (h12 : I 21 12 = 6) (h16 : I 21 16 = 1) (fr q p : Nat) (h6 : I 21 6 = nI (fr + 1)) (hfr : fr < 820) (h14 : I 21 14 = nI q) (hq : q < 100) (h30 : I 30 fr = nI p) (hp1 : p < 100) (h8 : I 8 q = nI p) (I1 : am_I) (J1 : am_J) (k39 : am_r scr L (F + 200000) (d + 10) 39 [.ref 22] (hp I J Mx) = some (some (.int 1), hp I1 J1 Mx, 0, 0)) (g14 : I1 21 14 = nI q) (g6 : I1 21 6 = nI (fr + 1)) (g30 : I1 30 fr = nI p) (qf : Nat) (hqf : qf < 100) (g9 : I1 9 p = nI qf) (I2 : am_I) (J2 : am_J) (hq0 : ¬ q = qf) (k : am_r scr L (F + 200000) (d + 10) 41 [.ref 22] (hp I1 J1 Mx) = some (none, hp I2 J2 Mx, 0, 0)) (hc : (I2) 22 7 = 6) (N : Nat) (R : Option am_X) (key : h31 scr L F d (I2) (J2) Mx mo (st + 1) N R) : h31 scr L F d I J Mx mo st (N + 80) R := by
  have l1 : ¬ (1000000 : Int32) ≤ nI st := by
    rw [show (1000000 : Int32) = nI 1000000 by decide +kernel]
    exact nI_ge hst (by decide)
  have es : nI st + 1 = nI (st + 1) := nI_1 st
  have f1 : ¬ nI fr < 0 := nI_pos (by omega)
  have f2 : (nI fr).toNatClampNeg = fr := nI_clamp (by omega)
  have f3 : ¬ 820 ≤ fr := by omega
  have q1 : ¬ nI q < 0 := nI_pos (by omega)
  have q2 : (nI q).toNatClampNeg = q := nI_clamp (by omega)
  have q3 : ¬ 100 ≤ q := by omega
  have p1 : ¬ nI p < 0 := nI_pos (by omega)
  have p2 : (nI p).toNatClampNeg = p := nI_clamp (by omega)
  have p3 : ¬ 100 ≤ p := by omega
  have f0 : ¬ nI (fr + 1) = 0 := nI_ne0 (by omega) (by omega)
  have pf : nI (fr + 1) - 1 = nI fr := nI_pred fr
  have nq : ¬ nI q = nI qf := fun z => hq0 (nI_inj (by omega) (by omega) z)
  intro f hf
  obtain ⟨g, rfl⟩ : ∃ g, f = g + 80 := ⟨f - 80, by omega⟩
  rw [s_31_7]
  simp [s_31_0, s_31_1, s_31_2, s_31_5, s_31_6, s_31_8, s_31_10, s_31_13, s_31_14, s_31_17, s_31_19, s_31_22, s_31_23, s_31_26, s_31_29, s_31_30, s_31_33, s_31_36, s_31_37, s_31_40, s_31_43, s_31_44, s_31_45, s_31_48, s_31_51, s_31_52, s_31_55, s_31_58, s_31_59, s_31_62, s_31_63, s_31_64, s_31_67, s_31_68, s_31_71, s_31_72, s_31_73, s_31_74, s_31_77, s_31_78, s_31_81, s_31_84, s_31_85, s_31_88, s_31_91, s_31_92, s_31_95, s_31_96, s_31_99, s_31_102, s_31_103, s_31_106, s_31_107, s_31_110, s_31_111, s_31_112, s_31_113, s_31_114, s_31_117, s_31_118, s_31_121, s_31_124, s_31_125, s_31_128, s_31_129, s_31_132, s_31_135, s_31_137, s_31_140, s_31_141, s_31_142, s_31_145, s_31_148, s_31_151, s_31_154, s_31_157, s_31_158, s_31_161, s_31_163, s_31_166, s_31_167, s_31_168, s_31_171, s_31_172, s_31_175, ha_0, hg_0_0, hg_0_1, hg_0_2, hg_0_3, hg_0_4, hq_0_4, hg_0_5, hq_0_5, ha_1, hg_1_0, hg_1_1, hg_1_2, hg_1_3, hg_1_4, hg_1_5, hg_1_6, hg_1_7, hg_1_8, hg_1_9, hg_1_10, hg_1_11, hg_1_12, hq_1_12, ha_2, hg_2_0, hg_2_1, hg_2_2, hg_2_3, hg_2_4, hq_2_4, hl_3, hs_3, hl_4, hs_4, hl_5, hs_5, hl_6, hs_6, hl_7, hs_7, hl_8, hs_8, hl_9, hs_9, hl_10, hs_10, hl_11, hs_11, hl_12, hs_12, hl_13, hs_13, hl_14, hs_14, hl_15, hs_15, hl_16, hs_16, hl_17, hs_17, ha_18, hg_18_0, hg_18_1, hg_18_2, hq_18_2, hg_18_3, hq_18_3, hl_19, hs_19, ha_20, hg_20_0, hg_20_1, ha_21, hg_21_0, hg_21_1, hg_21_2, hg_21_3, hg_21_4, hg_21_5, hg_21_6, hq_21_6, hg_21_7, hg_21_8, hg_21_9, hg_21_10, hq_21_10, hg_21_11, hq_21_11, hg_21_12, hq_21_12, hg_21_13, hq_21_13, hg_21_14, hq_21_14, hg_21_15, hq_21_15, hg_21_16, hq_21_16, hg_21_17, hq_21_17, ha_22, hg_22_0, hg_22_1, hg_22_2, hg_22_3, hg_22_4, hg_22_5, hg_22_6, hq_22_6, hg_22_7, hq_22_7, hg_22_8, hq_22_8, hl_23, hs_23, hl_24, hs_24, hl_25, hs_25, hl_26, hs_26, hl_27, hs_27, ha_28, hg_28_0, hg_28_1, hq_28_1, hl_29, hs_29, hl_30, hs_30, hl_31, hs_31, hl_32, hs_32, hl_33, hs_33, hl_34, hs_34, hl_35, hs_35, am_ld_cons, am_ld_nil, am_st1_cons, am_st1_nil, am_st2_cons, am_st2_nil, am_P1, am_P2, Value.category, am_add_add, am_add0, am_add_some, l1, es, h12, h16, h6, f0, pf, f1, f2, f3, h14, q1, q2, q3, h30, p1, p2, p3, h8, k39, g14, g6, g30, g9, nq, k, hc]
  exact key _ (by omega)
set_option maxRecDepth 100000 in
set_option maxHeartbeats 4000000 in
theorem x_last_s (scr : Nat → Int32) (L F d : Nat) (I : am_I) (J : am_J) (Mx : am_I) (mo : Int32) (st : Nat) (hst : st < 1000000) (h12 : I 21 12 = 6) (h16 : I 21 16 = 1) (fr q p : Nat) (h6 : I 21 6 = nI (fr + 1)) (hfr : fr < 820) (h14 : I 21 14 = nI q) (hq : q < 100) (h30 : I 30 fr = nI p) (hp1 : p < 100) (h8 : I 8 q = nI p) (I1 : am_I) (J1 : am_J) (k39 : am_r scr L (F + 200000) (d + 10) 39 [.ref 22] (hp I J Mx) = some (some (.int 1), hp I1 J1 Mx, 0, 0)) (g14 : I1 21 14 = nI q) (g6 : I1 21 6 = nI (fr + 1)) (g30 : I1 30 fr = nI p) (qf : Nat) (hqf : qf < 100) (g9 : I1 9 p = nI qf) (I2 : am_I) (J2 : am_J) (hq0 : ¬ q = qf) (k : am_r scr L (F + 200000) (d + 10) 41 [.ref 22] (hp I1 J1 Mx) = some (none, hp I2 J2 Mx, 0, 0)) (e : Int32) (hc : (I2) 22 7 = e) (hc2 : ¬ e = 6) (N : Nat) (R : Option am_X) (key : h31 scr L F d (wr (I2) 21 12 e) (J2) Mx mo (st + 1) N R) : h31 scr L F d I J Mx mo st (N + 80) R := by
  have l1 : ¬ (1000000 : Int32) ≤ nI st := by
    rw [show (1000000 : Int32) = nI 1000000 by decide +kernel]
    exact nI_ge hst (by decide)
  have es : nI st + 1 = nI (st + 1) := nI_1 st
  have f1 : ¬ nI fr < 0 := nI_pos (by omega)
  have f2 : (nI fr).toNatClampNeg = fr := nI_clamp (by omega)
  have f3 : ¬ 820 ≤ fr := by omega
  have q1 : ¬ nI q < 0 := nI_pos (by omega)
  have q2 : (nI q).toNatClampNeg = q := nI_clamp (by omega)
  have q3 : ¬ 100 ≤ q := by omega
  have p1 : ¬ nI p < 0 := nI_pos (by omega)
  have p2 : (nI p).toNatClampNeg = p := nI_clamp (by omega)
  have p3 : ¬ 100 ≤ p := by omega
  have f0 : ¬ nI (fr + 1) = 0 := nI_ne0 (by omega) (by omega)
  have pf : nI (fr + 1) - 1 = nI fr := nI_pred fr
  have nq : ¬ nI q = nI qf := fun z => hq0 (nI_inj (by omega) (by omega) z)
  intro f hf
  obtain ⟨g, rfl⟩ : ∃ g, f = g + 80 := ⟨f - 80, by omega⟩
  rw [s_31_7]
  simp [s_31_0, s_31_1, s_31_2, s_31_5, s_31_6, s_31_8, s_31_10, s_31_13, s_31_14, s_31_17, s_31_19, s_31_22, s_31_23, s_31_26, s_31_29, s_31_30, s_31_33, s_31_36, s_31_37, s_31_40, s_31_43, s_31_44, s_31_45, s_31_48, s_31_51, s_31_52, s_31_55, s_31_58, s_31_59, s_31_62, s_31_63, s_31_64, s_31_67, s_31_68, s_31_71, s_31_72, s_31_73, s_31_74, s_31_77, s_31_78, s_31_81, s_31_84, s_31_85, s_31_88, s_31_91, s_31_92, s_31_95, s_31_96, s_31_99, s_31_102, s_31_103, s_31_106, s_31_107, s_31_110, s_31_111, s_31_112, s_31_113, s_31_114, s_31_117, s_31_118, s_31_121, s_31_124, s_31_125, s_31_128, s_31_129, s_31_132, s_31_135, s_31_137, s_31_140, s_31_141, s_31_142, s_31_145, s_31_148, s_31_151, s_31_154, s_31_157, s_31_158, s_31_161, s_31_163, s_31_166, s_31_167, s_31_168, s_31_171, s_31_172, s_31_175, ha_0, hg_0_0, hg_0_1, hg_0_2, hg_0_3, hg_0_4, hq_0_4, hg_0_5, hq_0_5, ha_1, hg_1_0, hg_1_1, hg_1_2, hg_1_3, hg_1_4, hg_1_5, hg_1_6, hg_1_7, hg_1_8, hg_1_9, hg_1_10, hg_1_11, hg_1_12, hq_1_12, ha_2, hg_2_0, hg_2_1, hg_2_2, hg_2_3, hg_2_4, hq_2_4, hl_3, hs_3, hl_4, hs_4, hl_5, hs_5, hl_6, hs_6, hl_7, hs_7, hl_8, hs_8, hl_9, hs_9, hl_10, hs_10, hl_11, hs_11, hl_12, hs_12, hl_13, hs_13, hl_14, hs_14, hl_15, hs_15, hl_16, hs_16, hl_17, hs_17, ha_18, hg_18_0, hg_18_1, hg_18_2, hq_18_2, hg_18_3, hq_18_3, hl_19, hs_19, ha_20, hg_20_0, hg_20_1, ha_21, hg_21_0, hg_21_1, hg_21_2, hg_21_3, hg_21_4, hg_21_5, hg_21_6, hq_21_6, hg_21_7, hg_21_8, hg_21_9, hg_21_10, hq_21_10, hg_21_11, hq_21_11, hg_21_12, hq_21_12, hg_21_13, hq_21_13, hg_21_14, hq_21_14, hg_21_15, hq_21_15, hg_21_16, hq_21_16, hg_21_17, hq_21_17, ha_22, hg_22_0, hg_22_1, hg_22_2, hg_22_3, hg_22_4, hg_22_5, hg_22_6, hq_22_6, hg_22_7, hq_22_7, hg_22_8, hq_22_8, hl_23, hs_23, hl_24, hs_24, hl_25, hs_25, hl_26, hs_26, hl_27, hs_27, ha_28, hg_28_0, hg_28_1, hq_28_1, hl_29, hs_29, hl_30, hs_30, hl_31, hs_31, hl_32, hs_32, hl_33, hs_33, hl_34, hs_34, hl_35, hs_35, am_ld_cons, am_ld_nil, am_st1_cons, am_st1_nil, am_st2_cons, am_st2_nil, am_P1, am_P2, Value.category, am_add_add, am_add0, am_add_some, l1, es, h12, h16, h6, f0, pf, f1, f2, f3, h14, q1, q2, q3, h30, p1, p2, p3, h8, k39, g14, g6, g30, g9, nq, k, hc, hc2, wr_fold]
  exact key _ (by omega)
def stI0 (I : am_I) (x : Int32) : am_I := va_up (va_up (va_up I 28 (upd (I 28) 1 0)) 22 (upd (upd (upd (I 22) 6 0) 7 6) 8 (-1))) 21 (upd (upd (upd (upd (upd (upd (upd (upd (upd (I 21) 10 0) 11 0) 12 5) 13 x) 6 0) 14 0) 15 0) 16 0) 12 6)
set_option maxRecDepth 100000 in
set_option maxHeartbeats 4000000 in
theorem c31_go (scr : Nat → Int32) (L F d : Nat) (I : Nat → Nat → Int32) (J : Nat → Nat → Int64) (M : Nat → Nat → Int32) (x : Int32) (N : Nat) (R : Option am_X) (hN : N ≤ F + 199000) (key : h31 scr L F d (stI0 I x) J M x 0 N R) : am_r scr L (F + 200000) (d + 11) 31 [.ref 22, .int x] (hp I J M) = R := by
  have k := m_32 scr L (F + 199700) (d + 7) I J M x
  unfold h31 stI0 at key
  rw [nI_0] at key
  simp [r_31, s_31_0, s_31_1, s_31_2, s_31_5, s_31_6, s_31_8, s_31_10, s_31_13, s_31_14, s_31_17, s_31_19, s_31_22, s_31_23, s_31_26, s_31_29, s_31_30, s_31_33, s_31_36, s_31_37, s_31_40, s_31_43, s_31_44, s_31_45, s_31_48, s_31_51, s_31_52, s_31_55, s_31_58, s_31_59, s_31_62, s_31_63, s_31_64, s_31_67, s_31_68, s_31_71, s_31_72, s_31_73, s_31_74, s_31_77, s_31_78, s_31_81, s_31_84, s_31_85, s_31_88, s_31_91, s_31_92, s_31_95, s_31_96, s_31_99, s_31_102, s_31_103, s_31_106, s_31_107, s_31_110, s_31_111, s_31_112, s_31_113, s_31_114, s_31_117, s_31_118, s_31_121, s_31_124, s_31_125, s_31_128, s_31_129, s_31_132, s_31_135, s_31_137, s_31_140, s_31_141, s_31_142, s_31_145, s_31_148, s_31_151, s_31_154, s_31_157, s_31_158, s_31_161, s_31_163, s_31_166, s_31_167, s_31_168, s_31_171, s_31_172, s_31_175, ha_0, hg_0_0, hg_0_1, hg_0_2, hg_0_3, hg_0_4, hq_0_4, hg_0_5, hq_0_5, ha_1, hg_1_0, hg_1_1, hg_1_2, hg_1_3, hg_1_4, hg_1_5, hg_1_6, hg_1_7, hg_1_8, hg_1_9, hg_1_10, hg_1_11, hg_1_12, hq_1_12, ha_2, hg_2_0, hg_2_1, hg_2_2, hg_2_3, hg_2_4, hq_2_4, hl_3, hs_3, hl_4, hs_4, hl_5, hs_5, hl_6, hs_6, hl_7, hs_7, hl_8, hs_8, hl_9, hs_9, hl_10, hs_10, hl_11, hs_11, hl_12, hs_12, hl_13, hs_13, hl_14, hs_14, hl_15, hs_15, hl_16, hs_16, hl_17, hs_17, ha_18, hg_18_0, hg_18_1, hg_18_2, hq_18_2, hg_18_3, hq_18_3, hl_19, hs_19, ha_20, hg_20_0, hg_20_1, ha_21, hg_21_0, hg_21_1, hg_21_2, hg_21_3, hg_21_4, hg_21_5, hg_21_6, hq_21_6, hg_21_7, hg_21_8, hg_21_9, hg_21_10, hq_21_10, hg_21_11, hq_21_11, hg_21_12, hq_21_12, hg_21_13, hq_21_13, hg_21_14, hq_21_14, hg_21_15, hq_21_15, hg_21_16, hq_21_16, hg_21_17, hq_21_17, ha_22, hg_22_0, hg_22_1, hg_22_2, hg_22_3, hg_22_4, hg_22_5, hg_22_6, hq_22_6, hg_22_7, hq_22_7, hg_22_8, hq_22_8, hl_23, hs_23, hl_24, hs_24, hl_25, hs_25, hl_26, hs_26, hl_27, hs_27, ha_28, hg_28_0, hg_28_1, hq_28_1, hl_29, hs_29, hl_30, hs_30, hl_31, hs_31, hl_32, hs_32, hl_33, hs_33, hl_34, hs_34, hl_35, hs_35, am_ld_cons, am_ld_nil, am_st1_cons, am_st1_nil, am_st2_cons, am_st2_nil, am_P1, am_P2, Value.category, am_add_add, am_add0, am_add_some, k]
  exact key _ (by omega)
