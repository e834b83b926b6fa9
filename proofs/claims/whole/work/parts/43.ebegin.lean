/-! Reading an expression: begin for numbers and functions. -/
/-- from a place of begin the answer is R -/
def hB (scr : Nat → Int32) (L F d pc : Nat) (I : am_I) (J : am_J) (M : am_I) (lv : am_L) (f0 : Nat) (R : Option am_X) : Prop := ∀ f, F + f0 ≤ f → am_f (d + 29) scr L (am_r scr L (F + 63000) (d + 29)) 106 f pc lv [] (hp I J M) = R
set_option maxRecDepth 100000 in
set_option maxHeartbeats 4000000 in
theorem b106_pre (scr : Nat → Int32) (L F d : Nat) (I : Nat → Nat → Int32) (J : Nat → Nat → Int64) (M : Nat → Nat → Int32) (n p N o : Nat) (x : Int32) (h : rdM M n p) (hx : tx (M 37) n p = x) (hN : M 36 8 = nI N) (hN2 : N < 101) (ho : M 36 21 = nI o) (ho2 : o < 20) (par : Int32) (hpar : isP M o par) (v : Int32) (hv : am_r scr L (F + 63000) (d + 29) 105 [.ref 37, .int x] (hp I J M) = some (some (.int v), hp I J M, 0, 0)) (v1 : ¬ v < 0) (x1 : ¬ x = 84) (x2 : ¬ x = 70) (R : Option am_X) (key : hB scr L F d 133 I J (bgM M N p v par x) [(0, .ref 37), (1, .int x), (2, .int v), (3, .int (nI N))] 62900 R) : am_r scr L (F + 63000) (d + 30) 106 [.ref 37] (hp I J M) = R := by
  have sh := s_100 scr L (F + 62900) (d + 28) I J M n p h
  have eN : nI N + 1 = nI (N + 1) := nI_1 N
  have ep : nI p + 1 = nI (p + 1) := nI_1 p
  have eo : nI o + 1 = nI (o + 1) := nI_1 o
  have g1 : ¬ nI N < 0 := nI_pos (by omega)
  have g2 : (nI N).toNatClampNeg = N := nI_clamp (by omega)
  have g3 : ¬ 101 ≤ N := by omega
  have g20 := h.2.1
  have hd : nI (o + 1) ≤ 20 := by
    rw [show (20 : Int32) = nI 20 by decide +kernel]
    exact nI_le (by omega) (by decide)
  have q1 : ¬ nI o < 0 := nI_pos (by omega)
  have q2 : (nI o).toNatClampNeg = o := nI_clamp (by omega)
  have q3 : ¬ 32 ≤ o := by omega
  unfold hB bgM at key
  simp only [wr, va_up_self, ne_eq] at key
  rcases hpar with ⟨o1, o2⟩ | ⟨j, o1, o2⟩
  · subst o1 o2
    have z0 : nI 0 = 0 := nI_0
    rw [z0] at ho eo
    simp [r_106, s_106_0, s_106_1, s_106_2, s_106_5, s_106_6, s_106_7, s_106_8, s_106_11, s_106_12, s_106_13, s_106_16, s_106_17, s_106_20, s_106_21, s_106_22, s_106_24, s_106_27, s_106_28, s_106_29, s_106_30, s_106_33, s_106_34, s_106_35, s_106_36, s_106_39, s_106_40, s_106_41, s_106_44, s_106_45, s_106_48, s_106_49, s_106_50, s_106_51, s_106_52, s_106_55, s_106_56, s_106_57, s_106_60, s_106_61, s_106_62, s_106_65, s_106_66, s_106_67, s_106_70, s_106_73, s_106_74, s_106_77, s_106_78, s_106_81, s_106_82, s_106_85, s_106_86, s_106_87, s_106_88, s_106_89, s_106_90, s_106_93, s_106_94, s_106_95, s_106_96, s_106_97, s_106_100, s_106_101, s_106_102, s_106_104, s_106_107, s_106_108, s_106_111, s_106_112, s_106_114, s_106_117, s_106_118, s_106_121, s_106_122, s_106_123, s_106_124, s_106_125, s_106_128, s_106_129, s_106_130, ha_36, hg_36_0, hq_36_0, hg_36_1, hg_36_2, hq_36_2, hg_36_3, hg_36_4, hg_36_5, hg_36_6, hq_36_6, hg_36_7, hq_36_7, hg_36_8, hq_36_8, hg_36_9, hg_36_10, hg_36_11, hg_36_12, hg_36_13, hg_36_14, hg_36_15, hg_36_16, hg_36_17, hg_36_18, hq_36_18, hg_36_19, hg_36_20, hq_36_20, hg_36_21, hq_36_21, hg_36_22, hg_36_23, hq_36_23, hg_36_24, hg_36_25, hq_36_25, hg_36_26, hq_36_26, hg_36_27, hq_36_27, hg_36_28, hq_36_28, hg_36_29, hg_36_30, hg_36_31, hq_36_31, hg_36_32, hg_36_33, hg_36_34, hg_36_35, hq_36_35, hg_36_36, hg_36_37, hg_36_38, hg_36_39, hg_36_40, hq_36_40, hg_36_41, hg_36_42, hg_36_43, hg_36_44, hq_36_44, hg_36_45, hg_36_46, hg_36_47, hg_36_48, hg_36_49, hq_36_49, hg_36_50, hg_36_51, hq_36_51, hg_36_52, hq_36_52, hg_36_53, hq_36_53, hg_36_54, hq_36_54, hg_36_55, hq_36_55, hg_36_56, hq_36_56, hg_36_57, hg_36_58, hq_36_58, hg_36_59, hq_36_59, hg_36_60, hq_36_60, hg_36_61, hl_37, hs_37, hl_38, hs_38, hl_39, hs_39, hl_40, hs_40, hl_41, hs_41, hl_42, hs_42, hl_43, hs_43, hl_44, hs_44, hl_45, hs_45, hl_46, hs_46, hl_47, hs_47, hl_48, hs_48, hl_49, hs_49, hl_50, hs_50, hl_51, hs_51, hl_52, hs_52, hl_53, hs_53, hl_54, hs_54, hl_55, hs_55, hl_56, hs_56, hl_57, hs_57, hl_58, hs_58, hl_59, hs_59, hl_60, hs_60, hl_61, hs_61, hl_62, hs_62, hl_63, hs_63, hl_64, hs_64, hl_65, hs_65, hl_66, hs_66, hl_67, hs_67, hl_68, hs_68, hl_69, hs_69, hl_70, hs_70, hl_71, hs_71, am_ld_cons, am_ld_nil, am_st1_cons, am_st1_nil, am_st2_cons, am_st2_nil, am_P1, am_P2, Value.category, am_add_add, am_add0, am_add_some, wr, va_up_self, va_up_ne, pk_us, pk_un, sh, hx, hv, ho, eo, hd, hN, eN, ep, g1, g2, g3, g20, q1, q2, q3, x1, x2, v1, z0]
    have k3 := fun f (hf : F + 62900 ≤ f) => key f hf
    simp [va_up_self, va_up_ne, pk_us, pk_un] at k3
    exact k3 _ (by omega)
  · subst o1 o2
    have z1 : ¬ nI (j + 1) = 0 := nI_ne0 (by omega) (by omega)
    have z2 : nI (j + 1) - 1 = nI j := nI_pred j
    have z3 : ¬ nI j < 0 := nI_pos (by omega)
    have z4 : (nI j).toNatClampNeg = j := nI_clamp (by omega)
    have z5 : ¬ 32 ≤ j := by omega
    simp [r_106, s_106_0, s_106_1, s_106_2, s_106_5, s_106_6, s_106_7, s_106_8, s_106_11, s_106_12, s_106_13, s_106_16, s_106_17, s_106_20, s_106_21, s_106_22, s_106_24, s_106_27, s_106_28, s_106_29, s_106_30, s_106_33, s_106_34, s_106_35, s_106_36, s_106_39, s_106_40, s_106_41, s_106_44, s_106_45, s_106_48, s_106_49, s_106_50, s_106_51, s_106_52, s_106_55, s_106_56, s_106_57, s_106_60, s_106_61, s_106_62, s_106_65, s_106_66, s_106_67, s_106_70, s_106_73, s_106_74, s_106_77, s_106_78, s_106_81, s_106_82, s_106_85, s_106_86, s_106_87, s_106_88, s_106_89, s_106_90, s_106_93, s_106_94, s_106_95, s_106_96, s_106_97, s_106_100, s_106_101, s_106_102, s_106_104, s_106_107, s_106_108, s_106_111, s_106_112, s_106_114, s_106_117, s_106_118, s_106_121, s_106_122, s_106_123, s_106_124, s_106_125, s_106_128, s_106_129, s_106_130, ha_36, hg_36_0, hq_36_0, hg_36_1, hg_36_2, hq_36_2, hg_36_3, hg_36_4, hg_36_5, hg_36_6, hq_36_6, hg_36_7, hq_36_7, hg_36_8, hq_36_8, hg_36_9, hg_36_10, hg_36_11, hg_36_12, hg_36_13, hg_36_14, hg_36_15, hg_36_16, hg_36_17, hg_36_18, hq_36_18, hg_36_19, hg_36_20, hq_36_20, hg_36_21, hq_36_21, hg_36_22, hg_36_23, hq_36_23, hg_36_24, hg_36_25, hq_36_25, hg_36_26, hq_36_26, hg_36_27, hq_36_27, hg_36_28, hq_36_28, hg_36_29, hg_36_30, hg_36_31, hq_36_31, hg_36_32, hg_36_33, hg_36_34, hg_36_35, hq_36_35, hg_36_36, hg_36_37, hg_36_38, hg_36_39, hg_36_40, hq_36_40, hg_36_41, hg_36_42, hg_36_43, hg_36_44, hq_36_44, hg_36_45, hg_36_46, hg_36_47, hg_36_48, hg_36_49, hq_36_49, hg_36_50, hg_36_51, hq_36_51, hg_36_52, hq_36_52, hg_36_53, hq_36_53, hg_36_54, hq_36_54, hg_36_55, hq_36_55, hg_36_56, hq_36_56, hg_36_57, hg_36_58, hq_36_58, hg_36_59, hq_36_59, hg_36_60, hq_36_60, hg_36_61, hl_37, hs_37, hl_38, hs_38, hl_39, hs_39, hl_40, hs_40, hl_41, hs_41, hl_42, hs_42, hl_43, hs_43, hl_44, hs_44, hl_45, hs_45, hl_46, hs_46, hl_47, hs_47, hl_48, hs_48, hl_49, hs_49, hl_50, hs_50, hl_51, hs_51, hl_52, hs_52, hl_53, hs_53, hl_54, hs_54, hl_55, hs_55, hl_56, hs_56, hl_57, hs_57, hl_58, hs_58, hl_59, hs_59, hl_60, hs_60, hl_61, hs_61, hl_62, hs_62, hl_63, hs_63, hl_64, hs_64, hl_65, hs_65, hl_66, hs_66, hl_67, hs_67, hl_68, hs_68, hl_69, hs_69, hl_70, hs_70, hl_71, hs_71, am_ld_cons, am_ld_nil, am_st1_cons, am_st1_nil, am_st2_cons, am_st2_nil, am_P1, am_P2, Value.category, am_add_add, am_add0, am_add_some, wr, va_up_self, va_up_ne, pk_us, pk_un, sh, hx, hv, ho, eo, hd, hN, eN, ep, g1, g2, g3, g20, q1, q2, q3, x1, x2, v1, z1, z2, z3, z4, z5]
    have k3 := fun f (hf : F + 62900 ≤ f) => key f hf
    simp [va_up_self, va_up_ne, pk_us, pk_un] at k3
    exact k3 _ (by omega)
set_option maxRecDepth 100000 in
set_option maxHeartbeats 4000000 in
theorem b106_dg (scr : Nat → Int32) (L F d : Nat) (I : Nat → Nat → Int32) (J : Nat → Nat → Int64) (M : Nat → Nat → Int32) (N f0 : Nat) (x : Int32) (hN2 : N < 101) (hf0 : f0 < 60000) (R : Option am_X) (key : hB scr L F d 150 I J (wr M 43 N (x - 48)) [(0, .ref 37), (1, .int x), (2, .int 0), (3, .int (nI N)), (4, .int 0)] f0 R) : hB scr L F d 133 I J M [(0, .ref 37), (1, .int x), (2, .int 0), (3, .int (nI N))] (f0 + 100) R := by
  have g1 : ¬ nI N < 0 := nI_pos (by omega)
  have g2 : (nI N).toNatClampNeg = N := nI_clamp (by omega)
  have g3 : ¬ 101 ≤ N := by omega
  intro f hf
  obtain ⟨g, rfl⟩ : ∃ g, f = g + 100 := ⟨f - 100, by omega⟩
  simp [s_106_133, s_106_134, s_106_137, s_106_138, s_106_141, s_106_142, s_106_143, s_106_145, s_106_146, s_106_147, s_106_148, ha_36, hg_36_0, hq_36_0, hg_36_1, hg_36_2, hq_36_2, hg_36_3, hg_36_4, hg_36_5, hg_36_6, hq_36_6, hg_36_7, hq_36_7, hg_36_8, hq_36_8, hg_36_9, hg_36_10, hg_36_11, hg_36_12, hg_36_13, hg_36_14, hg_36_15, hg_36_16, hg_36_17, hg_36_18, hq_36_18, hg_36_19, hg_36_20, hq_36_20, hg_36_21, hq_36_21, hg_36_22, hg_36_23, hq_36_23, hg_36_24, hg_36_25, hq_36_25, hg_36_26, hq_36_26, hg_36_27, hq_36_27, hg_36_28, hq_36_28, hg_36_29, hg_36_30, hg_36_31, hq_36_31, hg_36_32, hg_36_33, hg_36_34, hg_36_35, hq_36_35, hg_36_36, hg_36_37, hg_36_38, hg_36_39, hg_36_40, hq_36_40, hg_36_41, hg_36_42, hg_36_43, hg_36_44, hq_36_44, hg_36_45, hg_36_46, hg_36_47, hg_36_48, hg_36_49, hq_36_49, hg_36_50, hg_36_51, hq_36_51, hg_36_52, hq_36_52, hg_36_53, hq_36_53, hg_36_54, hq_36_54, hg_36_55, hq_36_55, hg_36_56, hq_36_56, hg_36_57, hg_36_58, hq_36_58, hg_36_59, hq_36_59, hg_36_60, hq_36_60, hg_36_61, hl_37, hs_37, hl_38, hs_38, hl_39, hs_39, hl_40, hs_40, hl_41, hs_41, hl_42, hs_42, hl_43, hs_43, hl_44, hs_44, hl_45, hs_45, hl_46, hs_46, hl_47, hs_47, hl_48, hs_48, hl_49, hs_49, hl_50, hs_50, hl_51, hs_51, hl_52, hs_52, hl_53, hs_53, hl_54, hs_54, hl_55, hs_55, hl_56, hs_56, hl_57, hs_57, hl_58, hs_58, hl_59, hs_59, hl_60, hs_60, hl_61, hs_61, hl_62, hs_62, hl_63, hs_63, hl_64, hs_64, hl_65, hs_65, hl_66, hs_66, hl_67, hs_67, hl_68, hs_68, hl_69, hs_69, hl_70, hs_70, hl_71, hs_71, am_ld_cons, am_ld_nil, am_st1_cons, am_st1_nil, am_st2_cons, am_st2_nil, am_P1, am_P2, Value.category, am_add_add, am_add0, am_add_some, g1, g2, g3, wr_fold]
  exact key _ (by omega)
set_option maxRecDepth 100000 in
set_option maxHeartbeats 4000000 in
theorem b106_ds0 (scr : Nat → Int32) (L F d : Nat) (I : Nat → Nat → Int32) (J : Nat → Nat → Int64) (M : Nat → Nat → Int32) (n p N : Nat) (x : Int32) (h : rdM M n p) (hN2 : N < 101) (hz : isD (tx (M 37) n p)) (f0 : Nat) (R : Option am_X) (key : hB scr L F d 150 I J (wr (wr M 43 N (10 * M 43 N + tx (M 37) n p - 48)) 36 20 (nI (p + 1))) [(0, .ref 37), (1, .int x), (2, .int 0), (3, .int (nI N)), (4, .int 1)] f0 R) : hB scr L F d 150 I J M [(0, .ref 37), (1, .int x), (2, .int 0), (3, .int (nI N)), (4, .int 0)] (f0 + 100) R := by
  have g1 : ¬ nI N < 0 := nI_pos (by omega)
  have g2 : (nI N).toNatClampNeg = N := nI_clamp (by omega)
  have g3 : ¬ 101 ≤ N := by omega
  have sh := s_100 scr L (F + 62900) (d + 28) I J M n p h
  have kd := l_103 scr L (F + 62900) (d + 28) I J M _ hz
  have ep : nI p + 1 = nI (p + 1) := nI_1 p
  have e2 : wr M 43 N (10 * M 43 N + tx (M 37) n p - 48) 36 20 = nI p := (congrFun (wr_ne M 43 N 36 _ (by omega)) 20).trans h.2.1
  intro f hf
  obtain ⟨g, rfl⟩ : ∃ g, f = g + 100 := ⟨f - 100, by omega⟩
  rw [s_106_150]
  simp [s_106_152, s_106_153, s_106_156, s_106_157, s_106_158, s_106_161, s_106_164, s_106_167, s_106_168, s_106_171, s_106_172, s_106_174, s_106_175, s_106_178, s_106_179, s_106_180, s_106_181, s_106_182, s_106_183, s_106_186, s_106_187, s_106_189, s_106_190, s_106_191, s_106_192, s_106_193, s_106_196, s_106_197, s_106_198, s_106_201, s_106_204, s_106_207, s_106_309, s_106_310, s_106_311, s_106_314, s_106_315, s_106_318, s_106_319, s_106_322, s_106_323, s_106_324, s_106_325, s_106_326, s_106_329, s_106_330, s_106_331, s_106_334, s_106_335, ha_36, hg_36_0, hq_36_0, hg_36_1, hg_36_2, hq_36_2, hg_36_3, hg_36_4, hg_36_5, hg_36_6, hq_36_6, hg_36_7, hq_36_7, hg_36_8, hq_36_8, hg_36_9, hg_36_10, hg_36_11, hg_36_12, hg_36_13, hg_36_14, hg_36_15, hg_36_16, hg_36_17, hg_36_18, hq_36_18, hg_36_19, hg_36_20, hq_36_20, hg_36_21, hq_36_21, hg_36_22, hg_36_23, hq_36_23, hg_36_24, hg_36_25, hq_36_25, hg_36_26, hq_36_26, hg_36_27, hq_36_27, hg_36_28, hq_36_28, hg_36_29, hg_36_30, hg_36_31, hq_36_31, hg_36_32, hg_36_33, hg_36_34, hg_36_35, hq_36_35, hg_36_36, hg_36_37, hg_36_38, hg_36_39, hg_36_40, hq_36_40, hg_36_41, hg_36_42, hg_36_43, hg_36_44, hq_36_44, hg_36_45, hg_36_46, hg_36_47, hg_36_48, hg_36_49, hq_36_49, hg_36_50, hg_36_51, hq_36_51, hg_36_52, hq_36_52, hg_36_53, hq_36_53, hg_36_54, hq_36_54, hg_36_55, hq_36_55, hg_36_56, hq_36_56, hg_36_57, hg_36_58, hq_36_58, hg_36_59, hq_36_59, hg_36_60, hq_36_60, hg_36_61, hl_37, hs_37, hl_38, hs_38, hl_39, hs_39, hl_40, hs_40, hl_41, hs_41, hl_42, hs_42, hl_43, hs_43, hl_44, hs_44, hl_45, hs_45, hl_46, hs_46, hl_47, hs_47, hl_48, hs_48, hl_49, hs_49, hl_50, hs_50, hl_51, hs_51, hl_52, hs_52, hl_53, hs_53, hl_54, hs_54, hl_55, hs_55, hl_56, hs_56, hl_57, hs_57, hl_58, hs_58, hl_59, hs_59, hl_60, hs_60, hl_61, hs_61, hl_62, hs_62, hl_63, hs_63, hl_64, hs_64, hl_65, hs_65, hl_66, hs_66, hl_67, hs_67, hl_68, hs_68, hl_69, hs_69, hl_70, hs_70, hl_71, hs_71, am_ld_cons, am_ld_nil, am_st1_cons, am_st1_nil, am_st2_cons, am_st2_nil, am_P1, am_P2, Value.category, am_add_add, am_add0, am_add_some, g1, g2, g3, sh, kd, ep, e2, wr_fold]
  exact key _ (by omega)
set_option maxRecDepth 100000 in
set_option maxHeartbeats 4000000 in
theorem b106_de0 (scr : Nat → Int32) (L F d : Nat) (I : Nat → Nat → Int32) (J : Nat → Nat → Int64) (M : Nat → Nat → Int32) (n p N : Nat) (x : Int32) (h : rdM M n p) (hN2 : N < 101) (hz : ¬ isD (tx (M 37) n p)) : hB scr L F d 150 I J M [(0, .ref 37), (1, .int x), (2, .int 0), (3, .int (nI N)), (4, .int 0)] 100 (some (some (.int 1), hp I J M, 0, 0)) := by
  have g1 : ¬ nI N < 0 := nI_pos (by omega)
  have g2 : (nI N).toNatClampNeg = N := nI_clamp (by omega)
  have g3 : ¬ 101 ≤ N := by omega
  have sh := s_100 scr L (F + 62900) (d + 28) I J M n p h
  have kd := l_103n scr L (F + 62900) (d + 28) I J M _ hz
  intro f hf
  obtain ⟨g, rfl⟩ : ∃ g, f = g + 100 := ⟨f - 100, by omega⟩
  rw [s_106_150]
  simp [s_106_152, s_106_153, s_106_156, s_106_157, s_106_158, s_106_161, s_106_164, s_106_167, s_106_168, s_106_171, s_106_172, s_106_174, s_106_175, s_106_178, s_106_179, s_106_180, s_106_181, s_106_182, s_106_183, s_106_186, s_106_187, s_106_189, s_106_190, s_106_191, s_106_192, s_106_193, s_106_196, s_106_197, s_106_198, s_106_201, s_106_204, s_106_207, s_106_309, s_106_310, s_106_311, s_106_314, s_106_315, s_106_318, s_106_319, s_106_322, s_106_323, s_106_324, s_106_325, s_106_326, s_106_329, s_106_330, s_106_331, s_106_334, s_106_335, ha_36, hg_36_0, hq_36_0, hg_36_1, hg_36_2, hq_36_2, hg_36_3, hg_36_4, hg_36_5, hg_36_6, hq_36_6, hg_36_7, hq_36_7, hg_36_8, hq_36_8, hg_36_9, hg_36_10, hg_36_11, hg_36_12, hg_36_13, hg_36_14, hg_36_15, hg_36_16, hg_36_17, hg_36_18, hq_36_18, hg_36_19, hg_36_20, hq_36_20, hg_36_21, hq_36_21, hg_36_22, hg_36_23, hq_36_23, hg_36_24, hg_36_25, hq_36_25, hg_36_26, hq_36_26, hg_36_27, hq_36_27, hg_36_28, hq_36_28, hg_36_29, hg_36_30, hg_36_31, hq_36_31, hg_36_32, hg_36_33, hg_36_34, hg_36_35, hq_36_35, hg_36_36, hg_36_37, hg_36_38, hg_36_39, hg_36_40, hq_36_40, hg_36_41, hg_36_42, hg_36_43, hg_36_44, hq_36_44, hg_36_45, hg_36_46, hg_36_47, hg_36_48, hg_36_49, hq_36_49, hg_36_50, hg_36_51, hq_36_51, hg_36_52, hq_36_52, hg_36_53, hq_36_53, hg_36_54, hq_36_54, hg_36_55, hq_36_55, hg_36_56, hq_36_56, hg_36_57, hg_36_58, hq_36_58, hg_36_59, hq_36_59, hg_36_60, hq_36_60, hg_36_61, hl_37, hs_37, hl_38, hs_38, hl_39, hs_39, hl_40, hs_40, hl_41, hs_41, hl_42, hs_42, hl_43, hs_43, hl_44, hs_44, hl_45, hs_45, hl_46, hs_46, hl_47, hs_47, hl_48, hs_48, hl_49, hs_49, hl_50, hs_50, hl_51, hs_51, hl_52, hs_52, hl_53, hs_53, hl_54, hs_54, hl_55, hs_55, hl_56, hs_56, hl_57, hs_57, hl_58, hs_58, hl_59, hs_59, hl_60, hs_60, hl_61, hs_61, hl_62, hs_62, hl_63, hs_63, hl_64, hs_64, hl_65, hs_65, hl_66, hs_66, hl_67, hs_67, hl_68, hs_68, hl_69, hs_69, hl_70, hs_70, hl_71, hs_71, am_ld_cons, am_ld_nil, am_st1_cons, am_st1_nil, am_st2_cons, am_st2_nil, am_P1, am_P2, Value.category, am_add_add, am_add0, am_add_some, g1, g2, g3, sh, kd]
set_option maxRecDepth 100000 in
set_option maxHeartbeats 4000000 in
theorem b106_ds1 (scr : Nat → Int32) (L F d : Nat) (I : Nat → Nat → Int32) (J : Nat → Nat → Int64) (M : Nat → Nat → Int32) (n p N : Nat) (x : Int32) (h : rdM M n p) (hN2 : N < 101) (hz : isD (tx (M 37) n p)) (f0 : Nat) (R : Option am_X) (key : hB scr L F d 150 I J (wr (wr M 43 N (10 * M 43 N + tx (M 37) n p - 48)) 36 20 (nI (p + 1))) [(0, .ref 37), (1, .int x), (2, .int 0), (3, .int (nI N)), (4, .int 2)] f0 R) : hB scr L F d 150 I J M [(0, .ref 37), (1, .int x), (2, .int 0), (3, .int (nI N)), (4, .int 1)] (f0 + 100) R := by
  have g1 : ¬ nI N < 0 := nI_pos (by omega)
  have g2 : (nI N).toNatClampNeg = N := nI_clamp (by omega)
  have g3 : ¬ 101 ≤ N := by omega
  have sh := s_100 scr L (F + 62900) (d + 28) I J M n p h
  have kd := l_103 scr L (F + 62900) (d + 28) I J M _ hz
  have ep : nI p + 1 = nI (p + 1) := nI_1 p
  have e2 : wr M 43 N (10 * M 43 N + tx (M 37) n p - 48) 36 20 = nI p := (congrFun (wr_ne M 43 N 36 _ (by omega)) 20).trans h.2.1
  intro f hf
  obtain ⟨g, rfl⟩ : ∃ g, f = g + 100 := ⟨f - 100, by omega⟩
  rw [s_106_150]
  simp [s_106_152, s_106_153, s_106_156, s_106_157, s_106_158, s_106_161, s_106_164, s_106_167, s_106_168, s_106_171, s_106_172, s_106_174, s_106_175, s_106_178, s_106_179, s_106_180, s_106_181, s_106_182, s_106_183, s_106_186, s_106_187, s_106_189, s_106_190, s_106_191, s_106_192, s_106_193, s_106_196, s_106_197, s_106_198, s_106_201, s_106_204, s_106_207, s_106_309, s_106_310, s_106_311, s_106_314, s_106_315, s_106_318, s_106_319, s_106_322, s_106_323, s_106_324, s_106_325, s_106_326, s_106_329, s_106_330, s_106_331, s_106_334, s_106_335, ha_36, hg_36_0, hq_36_0, hg_36_1, hg_36_2, hq_36_2, hg_36_3, hg_36_4, hg_36_5, hg_36_6, hq_36_6, hg_36_7, hq_36_7, hg_36_8, hq_36_8, hg_36_9, hg_36_10, hg_36_11, hg_36_12, hg_36_13, hg_36_14, hg_36_15, hg_36_16, hg_36_17, hg_36_18, hq_36_18, hg_36_19, hg_36_20, hq_36_20, hg_36_21, hq_36_21, hg_36_22, hg_36_23, hq_36_23, hg_36_24, hg_36_25, hq_36_25, hg_36_26, hq_36_26, hg_36_27, hq_36_27, hg_36_28, hq_36_28, hg_36_29, hg_36_30, hg_36_31, hq_36_31, hg_36_32, hg_36_33, hg_36_34, hg_36_35, hq_36_35, hg_36_36, hg_36_37, hg_36_38, hg_36_39, hg_36_40, hq_36_40, hg_36_41, hg_36_42, hg_36_43, hg_36_44, hq_36_44, hg_36_45, hg_36_46, hg_36_47, hg_36_48, hg_36_49, hq_36_49, hg_36_50, hg_36_51, hq_36_51, hg_36_52, hq_36_52, hg_36_53, hq_36_53, hg_36_54, hq_36_54, hg_36_55, hq_36_55, hg_36_56, hq_36_56, hg_36_57, hg_36_58, hq_36_58, hg_36_59, hq_36_59, hg_36_60, hq_36_60, hg_36_61, hl_37, hs_37, hl_38, hs_38, hl_39, hs_39, hl_40, hs_40, hl_41, hs_41, hl_42, hs_42, hl_43, hs_43, hl_44, hs_44, hl_45, hs_45, hl_46, hs_46, hl_47, hs_47, hl_48, hs_48, hl_49, hs_49, hl_50, hs_50, hl_51, hs_51, hl_52, hs_52, hl_53, hs_53, hl_54, hs_54, hl_55, hs_55, hl_56, hs_56, hl_57, hs_57, hl_58, hs_58, hl_59, hs_59, hl_60, hs_60, hl_61, hs_61, hl_62, hs_62, hl_63, hs_63, hl_64, hs_64, hl_65, hs_65, hl_66, hs_66, hl_67, hs_67, hl_68, hs_68, hl_69, hs_69, hl_70, hs_70, hl_71, hs_71, am_ld_cons, am_ld_nil, am_st1_cons, am_st1_nil, am_st2_cons, am_st2_nil, am_P1, am_P2, Value.category, am_add_add, am_add0, am_add_some, g1, g2, g3, sh, kd, ep, e2, wr_fold]
  exact key _ (by omega)
set_option maxRecDepth 100000 in
set_option maxHeartbeats 4000000 in
theorem b106_de1 (scr : Nat → Int32) (L F d : Nat) (I : Nat → Nat → Int32) (J : Nat → Nat → Int64) (M : Nat → Nat → Int32) (n p N : Nat) (x : Int32) (h : rdM M n p) (hN2 : N < 101) (hz : ¬ isD (tx (M 37) n p)) : hB scr L F d 150 I J M [(0, .ref 37), (1, .int x), (2, .int 0), (3, .int (nI N)), (4, .int 1)] 100 (some (some (.int 1), hp I J M, 0, 0)) := by
  have g1 : ¬ nI N < 0 := nI_pos (by omega)
  have g2 : (nI N).toNatClampNeg = N := nI_clamp (by omega)
  have g3 : ¬ 101 ≤ N := by omega
  have sh := s_100 scr L (F + 62900) (d + 28) I J M n p h
  have kd := l_103n scr L (F + 62900) (d + 28) I J M _ hz
  intro f hf
  obtain ⟨g, rfl⟩ : ∃ g, f = g + 100 := ⟨f - 100, by omega⟩
  rw [s_106_150]
  simp [s_106_152, s_106_153, s_106_156, s_106_157, s_106_158, s_106_161, s_106_164, s_106_167, s_106_168, s_106_171, s_106_172, s_106_174, s_106_175, s_106_178, s_106_179, s_106_180, s_106_181, s_106_182, s_106_183, s_106_186, s_106_187, s_106_189, s_106_190, s_106_191, s_106_192, s_106_193, s_106_196, s_106_197, s_106_198, s_106_201, s_106_204, s_106_207, s_106_309, s_106_310, s_106_311, s_106_314, s_106_315, s_106_318, s_106_319, s_106_322, s_106_323, s_106_324, s_106_325, s_106_326, s_106_329, s_106_330, s_106_331, s_106_334, s_106_335, ha_36, hg_36_0, hq_36_0, hg_36_1, hg_36_2, hq_36_2, hg_36_3, hg_36_4, hg_36_5, hg_36_6, hq_36_6, hg_36_7, hq_36_7, hg_36_8, hq_36_8, hg_36_9, hg_36_10, hg_36_11, hg_36_12, hg_36_13, hg_36_14, hg_36_15, hg_36_16, hg_36_17, hg_36_18, hq_36_18, hg_36_19, hg_36_20, hq_36_20, hg_36_21, hq_36_21, hg_36_22, hg_36_23, hq_36_23, hg_36_24, hg_36_25, hq_36_25, hg_36_26, hq_36_26, hg_36_27, hq_36_27, hg_36_28, hq_36_28, hg_36_29, hg_36_30, hg_36_31, hq_36_31, hg_36_32, hg_36_33, hg_36_34, hg_36_35, hq_36_35, hg_36_36, hg_36_37, hg_36_38, hg_36_39, hg_36_40, hq_36_40, hg_36_41, hg_36_42, hg_36_43, hg_36_44, hq_36_44, hg_36_45, hg_36_46, hg_36_47, hg_36_48, hg_36_49, hq_36_49, hg_36_50, hg_36_51, hq_36_51, hg_36_52, hq_36_52, hg_36_53, hq_36_53, hg_36_54, hq_36_54, hg_36_55, hq_36_55, hg_36_56, hq_36_56, hg_36_57, hg_36_58, hq_36_58, hg_36_59, hq_36_59, hg_36_60, hq_36_60, hg_36_61, hl_37, hs_37, hl_38, hs_38, hl_39, hs_39, hl_40, hs_40, hl_41, hs_41, hl_42, hs_42, hl_43, hs_43, hl_44, hs_44, hl_45, hs_45, hl_46, hs_46, hl_47, hs_47, hl_48, hs_48, hl_49, hs_49, hl_50, hs_50, hl_51, hs_51, hl_52, hs_52, hl_53, hs_53, hl_54, hs_54, hl_55, hs_55, hl_56, hs_56, hl_57, hs_57, hl_58, hs_58, hl_59, hs_59, hl_60, hs_60, hl_61, hs_61, hl_62, hs_62, hl_63, hs_63, hl_64, hs_64, hl_65, hs_65, hl_66, hs_66, hl_67, hs_67, hl_68, hs_68, hl_69, hs_69, hl_70, hs_70, hl_71, hs_71, am_ld_cons, am_ld_nil, am_st1_cons, am_st1_nil, am_st2_cons, am_st2_nil, am_P1, am_P2, Value.category, am_add_add, am_add0, am_add_some, g1, g2, g3, sh, kd]
set_option maxRecDepth 100000 in
set_option maxHeartbeats 4000000 in
theorem b106_de2 (scr : Nat → Int32) (L F d : Nat) (I : Nat → Nat → Int32) (J : Nat → Nat → Int64) (M : Nat → Nat → Int32) (N : Nat) (x : Int32) : hB scr L F d 150 I J M [(0, .ref 37), (1, .int x), (2, .int 0), (3, .int (nI N)), (4, .int 2)] 100 (some (some (.int 1), hp I J M, 0, 0)) := by
  intro f hf
  obtain ⟨g, rfl⟩ : ∃ g, f = g + 100 := ⟨f - 100, by omega⟩
  rw [s_106_150]
  simp [s_106_152, s_106_153, s_106_156, s_106_157, s_106_158, s_106_161, s_106_164, s_106_167, s_106_168, s_106_171, s_106_172, s_106_174, s_106_175, s_106_178, s_106_179, s_106_180, s_106_181, s_106_182, s_106_183, s_106_186, s_106_187, s_106_189, s_106_190, s_106_191, s_106_192, s_106_193, s_106_196, s_106_197, s_106_198, s_106_201, s_106_204, s_106_207, s_106_309, s_106_310, s_106_311, s_106_314, s_106_315, s_106_318, s_106_319, s_106_322, s_106_323, s_106_324, s_106_325, s_106_326, s_106_329, s_106_330, s_106_331, s_106_334, s_106_335, ha_36, hg_36_0, hq_36_0, hg_36_1, hg_36_2, hq_36_2, hg_36_3, hg_36_4, hg_36_5, hg_36_6, hq_36_6, hg_36_7, hq_36_7, hg_36_8, hq_36_8, hg_36_9, hg_36_10, hg_36_11, hg_36_12, hg_36_13, hg_36_14, hg_36_15, hg_36_16, hg_36_17, hg_36_18, hq_36_18, hg_36_19, hg_36_20, hq_36_20, hg_36_21, hq_36_21, hg_36_22, hg_36_23, hq_36_23, hg_36_24, hg_36_25, hq_36_25, hg_36_26, hq_36_26, hg_36_27, hq_36_27, hg_36_28, hq_36_28, hg_36_29, hg_36_30, hg_36_31, hq_36_31, hg_36_32, hg_36_33, hg_36_34, hg_36_35, hq_36_35, hg_36_36, hg_36_37, hg_36_38, hg_36_39, hg_36_40, hq_36_40, hg_36_41, hg_36_42, hg_36_43, hg_36_44, hq_36_44, hg_36_45, hg_36_46, hg_36_47, hg_36_48, hg_36_49, hq_36_49, hg_36_50, hg_36_51, hq_36_51, hg_36_52, hq_36_52, hg_36_53, hq_36_53, hg_36_54, hq_36_54, hg_36_55, hq_36_55, hg_36_56, hq_36_56, hg_36_57, hg_36_58, hq_36_58, hg_36_59, hq_36_59, hg_36_60, hq_36_60, hg_36_61, hl_37, hs_37, hl_38, hs_38, hl_39, hs_39, hl_40, hs_40, hl_41, hs_41, hl_42, hs_42, hl_43, hs_43, hl_44, hs_44, hl_45, hs_45, hl_46, hs_46, hl_47, hs_47, hl_48, hs_48, hl_49, hs_49, hl_50, hs_50, hl_51, hs_51, hl_52, hs_52, hl_53, hs_53, hl_54, hs_54, hl_55, hs_55, hl_56, hs_56, hl_57, hs_57, hl_58, hs_58, hl_59, hs_59, hl_60, hs_60, hl_61, hs_61, hl_62, hs_62, hl_63, hs_63, hl_64, hs_64, hl_65, hs_65, hl_66, hs_66, hl_67, hs_67, hl_68, hs_68, hl_69, hs_69, hl_70, hs_70, hl_71, hs_71, am_ld_cons, am_ld_nil, am_st1_cons, am_st1_nil, am_st2_cons, am_st2_nil, am_P1, am_P2, Value.category, am_add_add, am_add0, am_add_some]
set_option maxRecDepth 100000 in
set_option maxHeartbeats 4000000 in
theorem b106_fu1 (scr : Nat → Int32) (L F d : Nat) (I : Nat → Nat → Int32) (J : Nat → Nat → Int64) (M : Nat → Nat → Int32) (n p N o : Nat) (x c : Int32) (h : rdM M n p) (hN2 : N < 101) (hc : tx (M 37) n p = c) (hl : ¬ isL c) : hB scr L F d 133 I J M [(0, .ref 37), (1, .int x), (2, .int 3), (3, .int (nI N))] 300 (some (some (.int 0), hp I J (wr (wr M 43 N c) 36 20 (nI (p + 2))), 0, 0)) := by
  have g1 : ¬ nI N < 0 := nI_pos (by omega)
  have g2 : (nI N).toNatClampNeg = N := nI_clamp (by omega)
  have g3 : ¬ 101 ≤ N := by omega
  have sh := s_100 scr L (F + 62900) (d + 28) I J M n p h
  have h2 : rdM (wr M 43 N c) n p := by
    obtain ⟨a1, a2, a3, a4, a5⟩ := h
    refine ⟨?_, ?_, a3, a4, ?_⟩
    · rw [wr_ne M 43 N 36 _ (by omega)]
      exact a1
    · rw [wr_ne M 43 N 36 _ (by omega)]
      exact a2
    · rw [wr_ne M 43 N 37 _ (by omega)]
      exact a5
  have e37 : wr M 43 N c 37 = M 37 := wr_ne M 43 N 37 _ (by omega)
  have e20 : wr M 43 N c 36 20 = nI p := h2.2.1
  have sh2 := s_100 scr L (F + 62900) (d + 28) I J (wr M 43 N c) n p h2
  have sh3 := s_100b scr L (F + 62900) (d + 28) I J (wr M 43 N c) n p h2
  rw [e37] at sh2 sh3
  have ep : nI p + 2 = nI (p + 2) := by
    rw [show (2 : Int32) = nI 2 by decide +kernel]
    exact nI_add p 2
  have kl := l_102n scr L (F + 62900) (d + 28) I J (wr M 43 N c) _ hl
  intro f hf
  obtain ⟨g, rfl⟩ : ∃ g, f = g + 300 := ⟨f - 300, by omega⟩
  simp [s_106_133, s_106_134, s_106_210, s_106_211, s_106_212, s_106_215, s_106_216, s_106_219, s_106_220, s_106_221, s_106_222, s_106_225, s_106_226, s_106_227, s_106_228, s_106_231, s_106_234, s_106_237, s_106_238, s_106_239, s_106_242, s_106_244, s_106_247, s_106_248, s_106_251, s_106_252, s_106_254, s_106_255, s_106_256, s_106_259, s_106_260, s_106_261, s_106_264, s_106_266, s_106_269, s_106_270, s_106_271, s_106_274, s_106_275, s_106_276, s_106_279, s_106_282, s_106_283, s_106_285, s_106_287, s_106_290, s_106_291, s_106_293, s_106_296, s_106_299, s_106_300, s_106_301, s_106_302, s_106_305, s_106_306, s_106_308, s_106_309, s_106_310, s_106_311, s_106_314, s_106_315, s_106_318, s_106_319, s_106_322, s_106_323, s_106_324, s_106_325, s_106_326, s_106_329, s_106_330, s_106_331, s_106_334, s_106_335, ha_36, hg_36_0, hq_36_0, hg_36_1, hg_36_2, hq_36_2, hg_36_3, hg_36_4, hg_36_5, hg_36_6, hq_36_6, hg_36_7, hq_36_7, hg_36_8, hq_36_8, hg_36_9, hg_36_10, hg_36_11, hg_36_12, hg_36_13, hg_36_14, hg_36_15, hg_36_16, hg_36_17, hg_36_18, hq_36_18, hg_36_19, hg_36_20, hq_36_20, hg_36_21, hq_36_21, hg_36_22, hg_36_23, hq_36_23, hg_36_24, hg_36_25, hq_36_25, hg_36_26, hq_36_26, hg_36_27, hq_36_27, hg_36_28, hq_36_28, hg_36_29, hg_36_30, hg_36_31, hq_36_31, hg_36_32, hg_36_33, hg_36_34, hg_36_35, hq_36_35, hg_36_36, hg_36_37, hg_36_38, hg_36_39, hg_36_40, hq_36_40, hg_36_41, hg_36_42, hg_36_43, hg_36_44, hq_36_44, hg_36_45, hg_36_46, hg_36_47, hg_36_48, hg_36_49, hq_36_49, hg_36_50, hg_36_51, hq_36_51, hg_36_52, hq_36_52, hg_36_53, hq_36_53, hg_36_54, hq_36_54, hg_36_55, hq_36_55, hg_36_56, hq_36_56, hg_36_57, hg_36_58, hq_36_58, hg_36_59, hq_36_59, hg_36_60, hq_36_60, hg_36_61, hl_37, hs_37, hl_38, hs_38, hl_39, hs_39, hl_40, hs_40, hl_41, hs_41, hl_42, hs_42, hl_43, hs_43, hl_44, hs_44, hl_45, hs_45, hl_46, hs_46, hl_47, hs_47, hl_48, hs_48, hl_49, hs_49, hl_50, hs_50, hl_51, hs_51, hl_52, hs_52, hl_53, hs_53, hl_54, hs_54, hl_55, hs_55, hl_56, hs_56, hl_57, hs_57, hl_58, hs_58, hl_59, hs_59, hl_60, hs_60, hl_61, hs_61, hl_62, hs_62, hl_63, hs_63, hl_64, hs_64, hl_65, hs_65, hl_66, hs_66, hl_67, hs_67, hl_68, hs_68, hl_69, hs_69, hl_70, hs_70, hl_71, hs_71, am_ld_cons, am_ld_nil, am_st1_cons, am_st1_nil, am_st2_cons, am_st2_nil, am_P1, am_P2, Value.category, am_add_add, am_add0, am_add_some, g1, g2, g3, sh, hc, sh2, sh3, kl, ep, e20, wr_fold]
set_option maxRecDepth 100000 in
set_option maxHeartbeats 4000000 in
theorem b106_fu2 (scr : Nat → Int32) (L F d : Nat) (I : Nat → Nat → Int32) (J : Nat → Nat → Int64) (M : Nat → Nat → Int32) (n p N o : Nat) (x c : Int32) (h : rdM M n p) (hN2 : N < 101) (hc : tx (M 37) n p = c) (hl : isL c) (hy : ¬ tx (M 37) n (p + 1) = 58) : hB scr L F d 133 I J M [(0, .ref 37), (1, .int x), (2, .int 3), (3, .int (nI N))] 300 (some (some (.int 0), hp I J (wr (wr M 43 N c) 36 20 (nI (p + 2))), 0, 0)) := by
  have g1 : ¬ nI N < 0 := nI_pos (by omega)
  have g2 : (nI N).toNatClampNeg = N := nI_clamp (by omega)
  have g3 : ¬ 101 ≤ N := by omega
  have sh := s_100 scr L (F + 62900) (d + 28) I J M n p h
  have h2 : rdM (wr M 43 N c) n p := by
    obtain ⟨a1, a2, a3, a4, a5⟩ := h
    refine ⟨?_, ?_, a3, a4, ?_⟩
    · rw [wr_ne M 43 N 36 _ (by omega)]
      exact a1
    · rw [wr_ne M 43 N 36 _ (by omega)]
      exact a2
    · rw [wr_ne M 43 N 37 _ (by omega)]
      exact a5
  have e37 : wr M 43 N c 37 = M 37 := wr_ne M 43 N 37 _ (by omega)
  have e20 : wr M 43 N c 36 20 = nI p := h2.2.1
  have sh2 := s_100 scr L (F + 62900) (d + 28) I J (wr M 43 N c) n p h2
  have sh3 := s_100b scr L (F + 62900) (d + 28) I J (wr M 43 N c) n p h2
  rw [e37] at sh2 sh3
  have ep : nI p + 2 = nI (p + 2) := by
    rw [show (2 : Int32) = nI 2 by decide +kernel]
    exact nI_add p 2
  have kl := l_102 scr L (F + 62900) (d + 28) I J (wr M 43 N c) _ hl
  intro f hf
  obtain ⟨g, rfl⟩ : ∃ g, f = g + 300 := ⟨f - 300, by omega⟩
  simp [s_106_133, s_106_134, s_106_210, s_106_211, s_106_212, s_106_215, s_106_216, s_106_219, s_106_220, s_106_221, s_106_222, s_106_225, s_106_226, s_106_227, s_106_228, s_106_231, s_106_234, s_106_237, s_106_238, s_106_239, s_106_242, s_106_244, s_106_247, s_106_248, s_106_251, s_106_252, s_106_254, s_106_255, s_106_256, s_106_259, s_106_260, s_106_261, s_106_264, s_106_266, s_106_269, s_106_270, s_106_271, s_106_274, s_106_275, s_106_276, s_106_279, s_106_282, s_106_283, s_106_285, s_106_287, s_106_290, s_106_291, s_106_293, s_106_296, s_106_299, s_106_300, s_106_301, s_106_302, s_106_305, s_106_306, s_106_308, s_106_309, s_106_310, s_106_311, s_106_314, s_106_315, s_106_318, s_106_319, s_106_322, s_106_323, s_106_324, s_106_325, s_106_326, s_106_329, s_106_330, s_106_331, s_106_334, s_106_335, ha_36, hg_36_0, hq_36_0, hg_36_1, hg_36_2, hq_36_2, hg_36_3, hg_36_4, hg_36_5, hg_36_6, hq_36_6, hg_36_7, hq_36_7, hg_36_8, hq_36_8, hg_36_9, hg_36_10, hg_36_11, hg_36_12, hg_36_13, hg_36_14, hg_36_15, hg_36_16, hg_36_17, hg_36_18, hq_36_18, hg_36_19, hg_36_20, hq_36_20, hg_36_21, hq_36_21, hg_36_22, hg_36_23, hq_36_23, hg_36_24, hg_36_25, hq_36_25, hg_36_26, hq_36_26, hg_36_27, hq_36_27, hg_36_28, hq_36_28, hg_36_29, hg_36_30, hg_36_31, hq_36_31, hg_36_32, hg_36_33, hg_36_34, hg_36_35, hq_36_35, hg_36_36, hg_36_37, hg_36_38, hg_36_39, hg_36_40, hq_36_40, hg_36_41, hg_36_42, hg_36_43, hg_36_44, hq_36_44, hg_36_45, hg_36_46, hg_36_47, hg_36_48, hg_36_49, hq_36_49, hg_36_50, hg_36_51, hq_36_51, hg_36_52, hq_36_52, hg_36_53, hq_36_53, hg_36_54, hq_36_54, hg_36_55, hq_36_55, hg_36_56, hq_36_56, hg_36_57, hg_36_58, hq_36_58, hg_36_59, hq_36_59, hg_36_60, hq_36_60, hg_36_61, hl_37, hs_37, hl_38, hs_38, hl_39, hs_39, hl_40, hs_40, hl_41, hs_41, hl_42, hs_42, hl_43, hs_43, hl_44, hs_44, hl_45, hs_45, hl_46, hs_46, hl_47, hs_47, hl_48, hs_48, hl_49, hs_49, hl_50, hs_50, hl_51, hs_51, hl_52, hs_52, hl_53, hs_53, hl_54, hs_54, hl_55, hs_55, hl_56, hs_56, hl_57, hs_57, hl_58, hs_58, hl_59, hs_59, hl_60, hs_60, hl_61, hs_61, hl_62, hs_62, hl_63, hs_63, hl_64, hs_64, hl_65, hs_65, hl_66, hs_66, hl_67, hs_67, hl_68, hs_68, hl_69, hs_69, hl_70, hs_70, hl_71, hs_71, am_ld_cons, am_ld_nil, am_st1_cons, am_st1_nil, am_st2_cons, am_st2_nil, am_P1, am_P2, Value.category, am_add_add, am_add0, am_add_some, g1, g2, g3, sh, hc, sh2, sh3, kl, hy, ep, e20, wr_fold]
set_option maxRecDepth 100000 in
set_option maxHeartbeats 4000000 in
theorem b106_fu3 (scr : Nat → Int32) (L F d : Nat) (I : Nat → Nat → Int32) (J : Nat → Nat → Int64) (M : Nat → Nat → Int32) (n p N o : Nat) (x c : Int32) (h : rdM M n p) (hN2 : N < 101) (hc : tx (M 37) n p = c) (hl : isL c) (hy : tx (M 37) n (p + 1) = 58) (ho : M 36 21 = nI o) (M4 : am_I)  (kt : am_r scr L (F + 63000) (d + 29) 104 [.ref 37, .int (nI (o + 2))] (hp I J (wr (wr M 43 N c) 36 20 (nI (p + 2)))) = some (some (.int (-1)), hp I J M4, 0, 0)) : hB scr L F d 133 I J M [(0, .ref 37), (1, .int x), (2, .int 3), (3, .int (nI N))] 300 (some (some (.int 0), hp I J M4, 0, 0)) := by
  have g1 : ¬ nI N < 0 := nI_pos (by omega)
  have g2 : (nI N).toNatClampNeg = N := nI_clamp (by omega)
  have g3 : ¬ 101 ≤ N := by omega
  have sh := s_100 scr L (F + 62900) (d + 28) I J M n p h
  have h2 : rdM (wr M 43 N c) n p := by
    obtain ⟨a1, a2, a3, a4, a5⟩ := h
    refine ⟨?_, ?_, a3, a4, ?_⟩
    · rw [wr_ne M 43 N 36 _ (by omega)]
      exact a1
    · rw [wr_ne M 43 N 36 _ (by omega)]
      exact a2
    · rw [wr_ne M 43 N 37 _ (by omega)]
      exact a5
  have e37 : wr M 43 N c 37 = M 37 := wr_ne M 43 N 37 _ (by omega)
  have e20 : wr M 43 N c 36 20 = nI p := h2.2.1
  have sh2 := s_100 scr L (F + 62900) (d + 28) I J (wr M 43 N c) n p h2
  have sh3 := s_100b scr L (F + 62900) (d + 28) I J (wr M 43 N c) n p h2
  rw [e37] at sh2 sh3
  have ep : nI p + 2 = nI (p + 2) := by
    rw [show (2 : Int32) = nI 2 by decide +kernel]
    exact nI_add p 2
  have kl := l_102 scr L (F + 62900) (d + 28) I J (wr M 43 N c) _ hl
  have eo2 : nI o + 2 = nI (o + 2) := by
    rw [show (2 : Int32) = nI 2 by decide +kernel]
    exact nI_add o 2
  have e21 : (wr (wr M 43 N c) 36 20 (nI (p + 2))) 36 21 = nI o := by simp [wr, va_up, upd, ho]
  intro f hf
  obtain ⟨g, rfl⟩ : ∃ g, f = g + 300 := ⟨f - 300, by omega⟩
  simp [s_106_133, s_106_134, s_106_210, s_106_211, s_106_212, s_106_215, s_106_216, s_106_219, s_106_220, s_106_221, s_106_222, s_106_225, s_106_226, s_106_227, s_106_228, s_106_231, s_106_234, s_106_237, s_106_238, s_106_239, s_106_242, s_106_244, s_106_247, s_106_248, s_106_251, s_106_252, s_106_254, s_106_255, s_106_256, s_106_259, s_106_260, s_106_261, s_106_264, s_106_266, s_106_269, s_106_270, s_106_271, s_106_274, s_106_275, s_106_276, s_106_279, s_106_282, s_106_283, s_106_285, s_106_287, s_106_290, s_106_291, s_106_293, s_106_296, s_106_299, s_106_300, s_106_301, s_106_302, s_106_305, s_106_306, s_106_308, s_106_309, s_106_310, s_106_311, s_106_314, s_106_315, s_106_318, s_106_319, s_106_322, s_106_323, s_106_324, s_106_325, s_106_326, s_106_329, s_106_330, s_106_331, s_106_334, s_106_335, ha_36, hg_36_0, hq_36_0, hg_36_1, hg_36_2, hq_36_2, hg_36_3, hg_36_4, hg_36_5, hg_36_6, hq_36_6, hg_36_7, hq_36_7, hg_36_8, hq_36_8, hg_36_9, hg_36_10, hg_36_11, hg_36_12, hg_36_13, hg_36_14, hg_36_15, hg_36_16, hg_36_17, hg_36_18, hq_36_18, hg_36_19, hg_36_20, hq_36_20, hg_36_21, hq_36_21, hg_36_22, hg_36_23, hq_36_23, hg_36_24, hg_36_25, hq_36_25, hg_36_26, hq_36_26, hg_36_27, hq_36_27, hg_36_28, hq_36_28, hg_36_29, hg_36_30, hg_36_31, hq_36_31, hg_36_32, hg_36_33, hg_36_34, hg_36_35, hq_36_35, hg_36_36, hg_36_37, hg_36_38, hg_36_39, hg_36_40, hq_36_40, hg_36_41, hg_36_42, hg_36_43, hg_36_44, hq_36_44, hg_36_45, hg_36_46, hg_36_47, hg_36_48, hg_36_49, hq_36_49, hg_36_50, hg_36_51, hq_36_51, hg_36_52, hq_36_52, hg_36_53, hq_36_53, hg_36_54, hq_36_54, hg_36_55, hq_36_55, hg_36_56, hq_36_56, hg_36_57, hg_36_58, hq_36_58, hg_36_59, hq_36_59, hg_36_60, hq_36_60, hg_36_61, hl_37, hs_37, hl_38, hs_38, hl_39, hs_39, hl_40, hs_40, hl_41, hs_41, hl_42, hs_42, hl_43, hs_43, hl_44, hs_44, hl_45, hs_45, hl_46, hs_46, hl_47, hs_47, hl_48, hs_48, hl_49, hs_49, hl_50, hs_50, hl_51, hs_51, hl_52, hs_52, hl_53, hs_53, hl_54, hs_54, hl_55, hs_55, hl_56, hs_56, hl_57, hs_57, hl_58, hs_58, hl_59, hs_59, hl_60, hs_60, hl_61, hs_61, hl_62, hs_62, hl_63, hs_63, hl_64, hs_64, hl_65, hs_65, hl_66, hs_66, hl_67, hs_67, hl_68, hs_68, hl_69, hs_69, hl_70, hs_70, hl_71, hs_71, am_ld_cons, am_ld_nil, am_st1_cons, am_st1_nil, am_st2_cons, am_st2_nil, am_P1, am_P2, Value.category, am_add_add, am_add0, am_add_some, g1, g2, g3, sh, hc, sh2, sh3, kl, hy, ep, e20, eo2, e21, kt, wr_fold]
set_option maxRecDepth 100000 in
set_option maxHeartbeats 4000000 in
theorem b106_fu4 (scr : Nat → Int32) (L F d : Nat) (I : Nat → Nat → Int32) (J : Nat → Nat → Int64) (M : Nat → Nat → Int32) (n p N o : Nat) (x c : Int32) (h : rdM M n p) (hN2 : N < 101) (hc : tx (M 37) n p = c) (hl : isL c) (hy : tx (M 37) n (p + 1) = 58) (ho : M 36 21 = nI o) (M4 : am_I)  (t p4 : Nat) (ht : t < 105) (h4 : rdM M4 n p4) (kt : am_r scr L (F + 63000) (d + 29) 104 [.ref 37, .int (nI (o + 2))] (hp I J (wr (wr M 43 N c) 36 20 (nI (p + 2)))) = some (some (.int (nI t)), hp I J M4, 0, 0)) (hw : ¬ tx (M4 37) n p4 = 46) : hB scr L F d 133 I J M [(0, .ref 37), (1, .int x), (2, .int 3), (3, .int (nI N))] 300 (some (some (.int 0), hp I J M4, 0, 0)) := by
  have g1 : ¬ nI N < 0 := nI_pos (by omega)
  have g2 : (nI N).toNatClampNeg = N := nI_clamp (by omega)
  have g3 : ¬ 101 ≤ N := by omega
  have sh := s_100 scr L (F + 62900) (d + 28) I J M n p h
  have h2 : rdM (wr M 43 N c) n p := by
    obtain ⟨a1, a2, a3, a4, a5⟩ := h
    refine ⟨?_, ?_, a3, a4, ?_⟩
    · rw [wr_ne M 43 N 36 _ (by omega)]
      exact a1
    · rw [wr_ne M 43 N 36 _ (by omega)]
      exact a2
    · rw [wr_ne M 43 N 37 _ (by omega)]
      exact a5
  have e37 : wr M 43 N c 37 = M 37 := wr_ne M 43 N 37 _ (by omega)
  have e20 : wr M 43 N c 36 20 = nI p := h2.2.1
  have sh2 := s_100 scr L (F + 62900) (d + 28) I J (wr M 43 N c) n p h2
  have sh3 := s_100b scr L (F + 62900) (d + 28) I J (wr M 43 N c) n p h2
  rw [e37] at sh2 sh3
  have ep : nI p + 2 = nI (p + 2) := by
    rw [show (2 : Int32) = nI 2 by decide +kernel]
    exact nI_add p 2
  have kl := l_102 scr L (F + 62900) (d + 28) I J (wr M 43 N c) _ hl
  have eo2 : nI o + 2 = nI (o + 2) := by
    rw [show (2 : Int32) = nI 2 by decide +kernel]
    exact nI_add o 2
  have e21 : (wr (wr M 43 N c) 36 20 (nI (p + 2))) 36 21 = nI o := by simp [wr, va_up, upd, ho]
  have t1 : ¬ nI t < 0 := nI_pos (by omega)
  have se := s_101 scr L (F + 62800) (d + 27) I J M4 n p4 46 h4
  intro f hf
  obtain ⟨g, rfl⟩ : ∃ g, f = g + 300 := ⟨f - 300, by omega⟩
  simp [s_106_133, s_106_134, s_106_210, s_106_211, s_106_212, s_106_215, s_106_216, s_106_219, s_106_220, s_106_221, s_106_222, s_106_225, s_106_226, s_106_227, s_106_228, s_106_231, s_106_234, s_106_237, s_106_238, s_106_239, s_106_242, s_106_244, s_106_247, s_106_248, s_106_251, s_106_252, s_106_254, s_106_255, s_106_256, s_106_259, s_106_260, s_106_261, s_106_264, s_106_266, s_106_269, s_106_270, s_106_271, s_106_274, s_106_275, s_106_276, s_106_279, s_106_282, s_106_283, s_106_285, s_106_287, s_106_290, s_106_291, s_106_293, s_106_296, s_106_299, s_106_300, s_106_301, s_106_302, s_106_305, s_106_306, s_106_308, s_106_309, s_106_310, s_106_311, s_106_314, s_106_315, s_106_318, s_106_319, s_106_322, s_106_323, s_106_324, s_106_325, s_106_326, s_106_329, s_106_330, s_106_331, s_106_334, s_106_335, ha_36, hg_36_0, hq_36_0, hg_36_1, hg_36_2, hq_36_2, hg_36_3, hg_36_4, hg_36_5, hg_36_6, hq_36_6, hg_36_7, hq_36_7, hg_36_8, hq_36_8, hg_36_9, hg_36_10, hg_36_11, hg_36_12, hg_36_13, hg_36_14, hg_36_15, hg_36_16, hg_36_17, hg_36_18, hq_36_18, hg_36_19, hg_36_20, hq_36_20, hg_36_21, hq_36_21, hg_36_22, hg_36_23, hq_36_23, hg_36_24, hg_36_25, hq_36_25, hg_36_26, hq_36_26, hg_36_27, hq_36_27, hg_36_28, hq_36_28, hg_36_29, hg_36_30, hg_36_31, hq_36_31, hg_36_32, hg_36_33, hg_36_34, hg_36_35, hq_36_35, hg_36_36, hg_36_37, hg_36_38, hg_36_39, hg_36_40, hq_36_40, hg_36_41, hg_36_42, hg_36_43, hg_36_44, hq_36_44, hg_36_45, hg_36_46, hg_36_47, hg_36_48, hg_36_49, hq_36_49, hg_36_50, hg_36_51, hq_36_51, hg_36_52, hq_36_52, hg_36_53, hq_36_53, hg_36_54, hq_36_54, hg_36_55, hq_36_55, hg_36_56, hq_36_56, hg_36_57, hg_36_58, hq_36_58, hg_36_59, hq_36_59, hg_36_60, hq_36_60, hg_36_61, hl_37, hs_37, hl_38, hs_38, hl_39, hs_39, hl_40, hs_40, hl_41, hs_41, hl_42, hs_42, hl_43, hs_43, hl_44, hs_44, hl_45, hs_45, hl_46, hs_46, hl_47, hs_47, hl_48, hs_48, hl_49, hs_49, hl_50, hs_50, hl_51, hs_51, hl_52, hs_52, hl_53, hs_53, hl_54, hs_54, hl_55, hs_55, hl_56, hs_56, hl_57, hs_57, hl_58, hs_58, hl_59, hs_59, hl_60, hs_60, hl_61, hs_61, hl_62, hs_62, hl_63, hs_63, hl_64, hs_64, hl_65, hs_65, hl_66, hs_66, hl_67, hs_67, hl_68, hs_68, hl_69, hs_69, hl_70, hs_70, hl_71, hs_71, am_ld_cons, am_ld_nil, am_st1_cons, am_st1_nil, am_st2_cons, am_st2_nil, am_P1, am_P2, Value.category, am_add_add, am_add0, am_add_some, g1, g2, g3, sh, hc, sh2, sh3, kl, hy, ep, e20, eo2, e21, kt, t1, se, hw, wr_fold]
set_option maxRecDepth 100000 in
set_option maxHeartbeats 4000000 in
theorem b106_fu5 (scr : Nat → Int32) (L F d : Nat) (I : Nat → Nat → Int32) (J : Nat → Nat → Int64) (M : Nat → Nat → Int32) (n p N o : Nat) (x c : Int32) (h : rdM M n p) (hN2 : N < 101) (hc : tx (M 37) n p = c) (hl : isL c) (hy : tx (M 37) n (p + 1) = 58) (ho : M 36 21 = nI o) (M4 : am_I)  (t p4 : Nat) (ht : t < 105) (h4 : rdM M4 n p4) (kt : am_r scr L (F + 63000) (d + 29) 104 [.ref 37, .int (nI (o + 2))] (hp I J (wr (wr M 43 N c) 36 20 (nI (p + 2)))) = some (some (.int (nI t)), hp I J M4, 0, 0)) (hw : tx (M4 37) n p4 = 46) (ho4 : M4 36 21 = nI o) (ho2 : o < 20) : hB scr L F d 133 I J M [(0, .ref 37), (1, .int x), (2, .int 3), (3, .int (nI N))] 300 (some (some (.int 1), hp I J (wr (wr (wr (adM M4 (p4 + 1)) 44 N (nI t)) 51 o (nI N)) 36 21 (nI (o + 1))), 0, 0)) := by
  have g1 : ¬ nI N < 0 := nI_pos (by omega)
  have g2 : (nI N).toNatClampNeg = N := nI_clamp (by omega)
  have g3 : ¬ 101 ≤ N := by omega
  have sh := s_100 scr L (F + 62900) (d + 28) I J M n p h
  have h2 : rdM (wr M 43 N c) n p := by
    obtain ⟨a1, a2, a3, a4, a5⟩ := h
    refine ⟨?_, ?_, a3, a4, ?_⟩
    · rw [wr_ne M 43 N 36 _ (by omega)]
      exact a1
    · rw [wr_ne M 43 N 36 _ (by omega)]
      exact a2
    · rw [wr_ne M 43 N 37 _ (by omega)]
      exact a5
  have e37 : wr M 43 N c 37 = M 37 := wr_ne M 43 N 37 _ (by omega)
  have e20 : wr M 43 N c 36 20 = nI p := h2.2.1
  have sh2 := s_100 scr L (F + 62900) (d + 28) I J (wr M 43 N c) n p h2
  have sh3 := s_100b scr L (F + 62900) (d + 28) I J (wr M 43 N c) n p h2
  rw [e37] at sh2 sh3
  have ep : nI p + 2 = nI (p + 2) := by
    rw [show (2 : Int32) = nI 2 by decide +kernel]
    exact nI_add p 2
  have kl := l_102 scr L (F + 62900) (d + 28) I J (wr M 43 N c) _ hl
  have eo2 : nI o + 2 = nI (o + 2) := by
    rw [show (2 : Int32) = nI 2 by decide +kernel]
    exact nI_add o 2
  have e21 : (wr (wr M 43 N c) 36 20 (nI (p + 2))) 36 21 = nI o := by simp [wr, va_up, upd, ho]
  have t1 : ¬ nI t < 0 := nI_pos (by omega)
  have se := s_101 scr L (F + 62800) (d + 27) I J M4 n p4 46 h4
  have q1 : ¬ nI o < 0 := nI_pos (by omega)
  have q2 : (nI o).toNatClampNeg = o := nI_clamp (by omega)
  have q3 : ¬ 32 ≤ o := by omega
  have eo : nI o + 1 = nI (o + 1) := nI_1 o
  have z1 : wr (adM M4 (p4 + 1)) 44 N (nI t) 36 21 = nI o := by simp [wr, adM, va_up, upd, ho4]
  have z2 : wr (wr (adM M4 (p4 + 1)) 44 N (nI t)) 51 o (nI N) 36 21 = nI o := by simp [wr, adM, va_up, upd, ho4]
  intro f hf
  obtain ⟨g, rfl⟩ : ∃ g, f = g + 300 := ⟨f - 300, by omega⟩
  simp [s_106_133, s_106_134, s_106_210, s_106_211, s_106_212, s_106_215, s_106_216, s_106_219, s_106_220, s_106_221, s_106_222, s_106_225, s_106_226, s_106_227, s_106_228, s_106_231, s_106_234, s_106_237, s_106_238, s_106_239, s_106_242, s_106_244, s_106_247, s_106_248, s_106_251, s_106_252, s_106_254, s_106_255, s_106_256, s_106_259, s_106_260, s_106_261, s_106_264, s_106_266, s_106_269, s_106_270, s_106_271, s_106_274, s_106_275, s_106_276, s_106_279, s_106_282, s_106_283, s_106_285, s_106_287, s_106_290, s_106_291, s_106_293, s_106_296, s_106_299, s_106_300, s_106_301, s_106_302, s_106_305, s_106_306, s_106_308, s_106_309, s_106_310, s_106_311, s_106_314, s_106_315, s_106_318, s_106_319, s_106_322, s_106_323, s_106_324, s_106_325, s_106_326, s_106_329, s_106_330, s_106_331, s_106_334, s_106_335, ha_36, hg_36_0, hq_36_0, hg_36_1, hg_36_2, hq_36_2, hg_36_3, hg_36_4, hg_36_5, hg_36_6, hq_36_6, hg_36_7, hq_36_7, hg_36_8, hq_36_8, hg_36_9, hg_36_10, hg_36_11, hg_36_12, hg_36_13, hg_36_14, hg_36_15, hg_36_16, hg_36_17, hg_36_18, hq_36_18, hg_36_19, hg_36_20, hq_36_20, hg_36_21, hq_36_21, hg_36_22, hg_36_23, hq_36_23, hg_36_24, hg_36_25, hq_36_25, hg_36_26, hq_36_26, hg_36_27, hq_36_27, hg_36_28, hq_36_28, hg_36_29, hg_36_30, hg_36_31, hq_36_31, hg_36_32, hg_36_33, hg_36_34, hg_36_35, hq_36_35, hg_36_36, hg_36_37, hg_36_38, hg_36_39, hg_36_40, hq_36_40, hg_36_41, hg_36_42, hg_36_43, hg_36_44, hq_36_44, hg_36_45, hg_36_46, hg_36_47, hg_36_48, hg_36_49, hq_36_49, hg_36_50, hg_36_51, hq_36_51, hg_36_52, hq_36_52, hg_36_53, hq_36_53, hg_36_54, hq_36_54, hg_36_55, hq_36_55, hg_36_56, hq_36_56, hg_36_57, hg_36_58, hq_36_58, hg_36_59, hq_36_59, hg_36_60, hq_36_60, hg_36_61, hl_37, hs_37, hl_38, hs_38, hl_39, hs_39, hl_40, hs_40, hl_41, hs_41, hl_42, hs_42, hl_43, hs_43, hl_44, hs_44, hl_45, hs_45, hl_46, hs_46, hl_47, hs_47, hl_48, hs_48, hl_49, hs_49, hl_50, hs_50, hl_51, hs_51, hl_52, hs_52, hl_53, hs_53, hl_54, hs_54, hl_55, hs_55, hl_56, hs_56, hl_57, hs_57, hl_58, hs_58, hl_59, hs_59, hl_60, hs_60, hl_61, hs_61, hl_62, hs_62, hl_63, hs_63, hl_64, hs_64, hl_65, hs_65, hl_66, hs_66, hl_67, hs_67, hl_68, hs_68, hl_69, hs_69, hl_70, hs_70, hl_71, hs_71, am_ld_cons, am_ld_nil, am_st1_cons, am_st1_nil, am_st2_cons, am_st2_nil, am_P1, am_P2, Value.category, am_add_add, am_add0, am_add_some, g1, g2, g3, sh, hc, sh2, sh3, kl, hy, ep, e20, eo2, e21, kt, t1, se, hw, wr_fold, q1, q2, q3, eo, z1, z2]
