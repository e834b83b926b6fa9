/-! Reading a type: turns of the reference's loop. -/
/-- from the head of the loop of readType the answer is R, if n steps are there -/
def h4 (scr : Nat → Int32) (L F d D : Nat) (I : am_I) (J : am_J) (n : Nat) (got : Int32) (r : Nat) (M : am_I) (R : Option am_X) : Prop := ∀ (f : Nat) (tl : am_L), n ≤ f → kb 4 tl → am_f (d + 3) scr L (am_r scr L (F + 13000) (d + 3)) 104 f 9 ((0, .ref 37) :: (1, .int (nI D)) :: (2, .int got) :: (3, .int (nI r)) :: tl) [] (hp I J M) = R
def opM (M : am_I) (k : Nat) (x : Int32) (q : Nat) : am_I := va_up (va_up (va_up M 36 (upd (M 36) 20 (nI q))) 52 (upd (M 52) k x)) 36 (upd (upd (M 36) 20 (nI q)) 23 (nI (k + 1)))
def seM (M : am_I) (k : Nat) (x : Int32) : am_I := va_up M 52 (upd (M 52) k x)
def clM (M : am_I) (k : Nat) : am_I := va_up M 36 (upd (M 36) 23 (nI k))
set_option maxRecDepth 100000 in
set_option maxHeartbeats 4000000 in
theorem h104_i (scr : Nat → Int32) (L F d D : Nat) (I : am_I) (J : am_J) (M : am_I) (n p N r k : Nat) (R : Option am_X) (h : rdM M n p) (hr : r < 400) (hk : M 36 23 = nI k) (hD : D + k ≤ 20) (hx : tx (M 37) n p = 105) (key : h4 scr L F d D I J N 0 (r + 1) (adM M (p + 1)) R) : h4 scr L F d D I J (N + 150) (-1) r M R := by
  intro f tl hf hk
  obtain ⟨tl1, e4, k4⟩ := kb_st hk
  obtain ⟨tl2, e5, k5⟩ := kb_st k4
  have f1 := kb_f hk (show 2 < 4 by omega)
  have f2 := kb_f hk (show 3 < 4 by omega)
  have f3 := kb_f k4 (show 2 < 5 by omega)
  have f4 := kb_f k4 (show 3 < 5 by omega)
  have f5 := kb_f k5 (show 2 < 6 by omega)
  have f6 := kb_f k5 (show 3 < 6 by omega)
  obtain ⟨g, rfl⟩ : ∃ g, f = g + 150 := ⟨f - 150, by omega⟩
  have hr2 : ¬ (400 : Int32) ≤ nI r := by
    rw [show (400 : Int32) = nI 400 by decide +kernel]
    exact nI_ge hr (by decide)
  have er : nI r + 1 = nI (r + 1) := nI_1 r
  have hk2 : M 36 23 = nI k := by assumption
  have sh := s_100 scr L (F + 12900) (d + 2) I J M n p h
  have ek : nI D + nI k = nI (D + k) := nI_add D k
  have ep : nI p + 1 = nI (p + 1) := nI_1 p
  have g20 := h.2.1
  have hd : ¬ (20 : Int32) < nI (D + k) := by
    rw [show (20 : Int32) = nI 20 by decide +kernel]
    exact nI_nlt hD (by decide)
  rw [s_104_9]
  simp [s_104_0, s_104_1, s_104_2, s_104_5, s_104_6, s_104_7, s_104_8, s_104_10, s_104_13, s_104_16, s_104_17, s_104_20, s_104_21, s_104_22, s_104_25, s_104_27, s_104_29, s_104_31, s_104_34, s_104_36, s_104_38, s_104_41, s_104_43, s_104_45, s_104_48, s_104_49, s_104_52, s_104_53, s_104_55, s_104_56, s_104_57, s_104_60, s_104_61, s_104_63, s_104_66, s_104_68, s_104_71, s_104_73, s_104_75, s_104_78, s_104_80, s_104_82, s_104_85, s_104_86, s_104_87, s_104_88, s_104_89, s_104_92, s_104_93, s_104_94, s_104_97, s_104_99, s_104_101, s_104_104, s_104_105, s_104_108, s_104_110, s_104_112, s_104_115, s_104_116, s_104_119, s_104_121, s_104_123, s_104_126, s_104_127, s_104_130, s_104_131, s_104_132, s_104_134, s_104_137, s_104_138, s_104_141, s_104_142, s_104_145, s_104_147, s_104_149, s_104_152, s_104_154, s_104_157, s_104_158, s_104_159, s_104_160, s_104_161, s_104_164, s_104_165, s_104_166, s_104_169, s_104_172, s_104_173, s_104_176, s_104_179, s_104_180, s_104_181, s_104_182, s_104_185, s_104_186, s_104_189, s_104_190, s_104_191, s_104_192, s_104_194, s_104_196, s_104_198, s_104_201, s_104_202, s_104_203, s_104_204, s_104_205, s_104_208, s_104_209, s_104_210, s_104_211, s_104_214, s_104_215, s_104_216, s_104_219, s_104_222, s_104_224, s_104_225, s_104_228, s_104_229, s_104_231, s_104_234, s_104_237, s_104_238, s_104_239, s_104_240, s_104_243, s_104_244, s_104_247, s_104_248, s_104_249, s_104_250, s_104_251, s_104_252, s_104_253, s_104_256, s_104_257, s_104_259, s_104_262, s_104_265, s_104_266, s_104_267, s_104_268, s_104_269, s_104_271, s_104_272, s_104_275, s_104_276, s_104_277, s_104_278, s_104_281, s_104_282, s_104_283, s_104_286, s_104_289, s_104_292, s_104_293, ha_36, hg_36_0, hq_36_0, hg_36_1, hg_36_2, hq_36_2, hg_36_3, hg_36_4, hg_36_5, hg_36_6, hq_36_6, hg_36_7, hq_36_7, hg_36_8, hq_36_8, hg_36_9, hg_36_10, hg_36_11, hg_36_12, hg_36_13, hg_36_14, hg_36_15, hg_36_16, hg_36_17, hg_36_18, hq_36_18, hg_36_19, hg_36_20, hq_36_20, hg_36_21, hq_36_21, hg_36_22, hg_36_23, hq_36_23, hg_36_24, hg_36_25, hq_36_25, hg_36_26, hq_36_26, hg_36_27, hq_36_27, hg_36_28, hq_36_28, hg_36_29, hg_36_30, hg_36_31, hq_36_31, hg_36_32, hg_36_33, hg_36_34, hg_36_35, hq_36_35, hg_36_36, hg_36_37, hg_36_38, hg_36_39, hg_36_40, hq_36_40, hg_36_41, hg_36_42, hg_36_43, hg_36_44, hq_36_44, hg_36_45, hg_36_46, hg_36_47, hg_36_48, hg_36_49, hq_36_49, hg_36_50, hg_36_51, hq_36_51, hg_36_52, hq_36_52, hg_36_53, hq_36_53, hg_36_54, hq_36_54, hg_36_55, hq_36_55, hg_36_56, hq_36_56, hg_36_57, hg_36_58, hq_36_58, hg_36_59, hq_36_59, hg_36_60, hq_36_60, hg_36_61, hl_37, hs_37, hl_38, hs_38, hl_39, hs_39, hl_40, hs_40, hl_41, hs_41, hl_42, hs_42, hl_43, hs_43, hl_44, hs_44, hl_45, hs_45, hl_46, hs_46, hl_47, hs_47, hl_48, hs_48, hl_49, hs_49, hl_50, hs_50, hl_51, hs_51, hl_52, hs_52, hl_53, hs_53, hl_54, hs_54, hl_55, hs_55, hl_56, hs_56, hl_57, hs_57, hl_58, hs_58, hl_59, hs_59, hl_60, hs_60, hl_61, hs_61, hl_62, hs_62, hl_63, hs_63, hl_64, hs_64, hl_65, hs_65, hl_66, hs_66, hl_67, hs_67, hl_68, hs_68, hl_69, hs_69, hl_70, hs_70, hl_71, hs_71, am_ld_cons, am_ld_nil, am_st1_cons, am_st1_nil, am_st2_cons, am_st2_nil, am_P1, am_P2, Value.category, am_add_add, am_add0, am_add_some, hr2, er, e4, e5, f1, f2, f3, f4, f5, f6, sh, hx, hk2, ek, ep, g20, hd]
  exact key _ _ (by omega) (kb_cons (by omega) (kb_cons (by omega) (kb_le (by omega) k5)))
set_option maxRecDepth 100000 in
set_option maxHeartbeats 4000000 in
theorem h104_b (scr : Nat → Int32) (L F d D : Nat) (I : am_I) (J : am_J) (M : am_I) (n p N r k : Nat) (R : Option am_X) (h : rdM M n p) (hr : r < 400) (hk : M 36 23 = nI k) (hD : D + k ≤ 20) (hx : tx (M 37) n p = 98) (key : h4 scr L F d D I J N 1 (r + 1) (adM M (p + 1)) R) : h4 scr L F d D I J (N + 150) (-1) r M R := by
  intro f tl hf hk
  obtain ⟨tl1, e4, k4⟩ := kb_st hk
  obtain ⟨tl2, e5, k5⟩ := kb_st k4
  have f1 := kb_f hk (show 2 < 4 by omega)
  have f2 := kb_f hk (show 3 < 4 by omega)
  have f3 := kb_f k4 (show 2 < 5 by omega)
  have f4 := kb_f k4 (show 3 < 5 by omega)
  have f5 := kb_f k5 (show 2 < 6 by omega)
  have f6 := kb_f k5 (show 3 < 6 by omega)
  obtain ⟨g, rfl⟩ : ∃ g, f = g + 150 := ⟨f - 150, by omega⟩
  have hr2 : ¬ (400 : Int32) ≤ nI r := by
    rw [show (400 : Int32) = nI 400 by decide +kernel]
    exact nI_ge hr (by decide)
  have er : nI r + 1 = nI (r + 1) := nI_1 r
  have hk2 : M 36 23 = nI k := by assumption
  have sh := s_100 scr L (F + 12900) (d + 2) I J M n p h
  have ek : nI D + nI k = nI (D + k) := nI_add D k
  have ep : nI p + 1 = nI (p + 1) := nI_1 p
  have g20 := h.2.1
  have hd : ¬ (20 : Int32) < nI (D + k) := by
    rw [show (20 : Int32) = nI 20 by decide +kernel]
    exact nI_nlt hD (by decide)
  rw [s_104_9]
  simp [s_104_0, s_104_1, s_104_2, s_104_5, s_104_6, s_104_7, s_104_8, s_104_10, s_104_13, s_104_16, s_104_17, s_104_20, s_104_21, s_104_22, s_104_25, s_104_27, s_104_29, s_104_31, s_104_34, s_104_36, s_104_38, s_104_41, s_104_43, s_104_45, s_104_48, s_104_49, s_104_52, s_104_53, s_104_55, s_104_56, s_104_57, s_104_60, s_104_61, s_104_63, s_104_66, s_104_68, s_104_71, s_104_73, s_104_75, s_104_78, s_104_80, s_104_82, s_104_85, s_104_86, s_104_87, s_104_88, s_104_89, s_104_92, s_104_93, s_104_94, s_104_97, s_104_99, s_104_101, s_104_104, s_104_105, s_104_108, s_104_110, s_104_112, s_104_115, s_104_116, s_104_119, s_104_121, s_104_123, s_104_126, s_104_127, s_104_130, s_104_131, s_104_132, s_104_134, s_104_137, s_104_138, s_104_141, s_104_142, s_104_145, s_104_147, s_104_149, s_104_152, s_104_154, s_104_157, s_104_158, s_104_159, s_104_160, s_104_161, s_104_164, s_104_165, s_104_166, s_104_169, s_104_172, s_104_173, s_104_176, s_104_179, s_104_180, s_104_181, s_104_182, s_104_185, s_104_186, s_104_189, s_104_190, s_104_191, s_104_192, s_104_194, s_104_196, s_104_198, s_104_201, s_104_202, s_104_203, s_104_204, s_104_205, s_104_208, s_104_209, s_104_210, s_104_211, s_104_214, s_104_215, s_104_216, s_104_219, s_104_222, s_104_224, s_104_225, s_104_228, s_104_229, s_104_231, s_104_234, s_104_237, s_104_238, s_104_239, s_104_240, s_104_243, s_104_244, s_104_247, s_104_248, s_104_249, s_104_250, s_104_251, s_104_252, s_104_253, s_104_256, s_104_257, s_104_259, s_104_262, s_104_265, s_104_266, s_104_267, s_104_268, s_104_269, s_104_271, s_104_272, s_104_275, s_104_276, s_104_277, s_104_278, s_104_281, s_104_282, s_104_283, s_104_286, s_104_289, s_104_292, s_104_293, ha_36, hg_36_0, hq_36_0, hg_36_1, hg_36_2, hq_36_2, hg_36_3, hg_36_4, hg_36_5, hg_36_6, hq_36_6, hg_36_7, hq_36_7, hg_36_8, hq_36_8, hg_36_9, hg_36_10, hg_36_11, hg_36_12, hg_36_13, hg_36_14, hg_36_15, hg_36_16, hg_36_17, hg_36_18, hq_36_18, hg_36_19, hg_36_20, hq_36_20, hg_36_21, hq_36_21, hg_36_22, hg_36_23, hq_36_23, hg_36_24, hg_36_25, hq_36_25, hg_36_26, hq_36_26, hg_36_27, hq_36_27, hg_36_28, hq_36_28, hg_36_29, hg_36_30, hg_36_31, hq_36_31, hg_36_32, hg_36_33, hg_36_34, hg_36_35, hq_36_35, hg_36_36, hg_36_37, hg_36_38, hg_36_39, hg_36_40, hq_36_40, hg_36_41, hg_36_42, hg_36_43, hg_36_44, hq_36_44, hg_36_45, hg_36_46, hg_36_47, hg_36_48, hg_36_49, hq_36_49, hg_36_50, hg_36_51, hq_36_51, hg_36_52, hq_36_52, hg_36_53, hq_36_53, hg_36_54, hq_36_54, hg_36_55, hq_36_55, hg_36_56, hq_36_56, hg_36_57, hg_36_58, hq_36_58, hg_36_59, hq_36_59, hg_36_60, hq_36_60, hg_36_61, hl_37, hs_37, hl_38, hs_38, hl_39, hs_39, hl_40, hs_40, hl_41, hs_41, hl_42, hs_42, hl_43, hs_43, hl_44, hs_44, hl_45, hs_45, hl_46, hs_46, hl_47, hs_47, hl_48, hs_48, hl_49, hs_49, hl_50, hs_50, hl_51, hs_51, hl_52, hs_52, hl_53, hs_53, hl_54, hs_54, hl_55, hs_55, hl_56, hs_56, hl_57, hs_57, hl_58, hs_58, hl_59, hs_59, hl_60, hs_60, hl_61, hs_61, hl_62, hs_62, hl_63, hs_63, hl_64, hs_64, hl_65, hs_65, hl_66, hs_66, hl_67, hs_67, hl_68, hs_68, hl_69, hs_69, hl_70, hs_70, hl_71, hs_71, am_ld_cons, am_ld_nil, am_st1_cons, am_st1_nil, am_st2_cons, am_st2_nil, am_P1, am_P2, Value.category, am_add_add, am_add0, am_add_some, hr2, er, e4, e5, f1, f2, f3, f4, f5, f6, sh, hx, hk2, ek, ep, g20, hd]
  exact key _ _ (by omega) (kb_cons (by omega) (kb_cons (by omega) (kb_le (by omega) k5)))
set_option maxRecDepth 100000 in
set_option maxHeartbeats 4000000 in
theorem h104_q (scr : Nat → Int32) (L F d D : Nat) (I : am_I) (J : am_J) (M : am_I) (n p N r k : Nat) (R : Option am_X) (h : rdM M n p) (hr : r < 400) (hk : M 36 23 = nI k) (hD : D + k ≤ 20) (hx : tx (M 37) n p = 63) (key : h4 scr L F d D I J N 2 (r + 1) (adM M (p + 1)) R) : h4 scr L F d D I J (N + 150) (-1) r M R := by
  intro f tl hf hk
  obtain ⟨tl1, e4, k4⟩ := kb_st hk
  obtain ⟨tl2, e5, k5⟩ := kb_st k4
  have f1 := kb_f hk (show 2 < 4 by omega)
  have f2 := kb_f hk (show 3 < 4 by omega)
  have f3 := kb_f k4 (show 2 < 5 by omega)
  have f4 := kb_f k4 (show 3 < 5 by omega)
  have f5 := kb_f k5 (show 2 < 6 by omega)
  have f6 := kb_f k5 (show 3 < 6 by omega)
  obtain ⟨g, rfl⟩ : ∃ g, f = g + 150 := ⟨f - 150, by omega⟩
  have hr2 : ¬ (400 : Int32) ≤ nI r := by
    rw [show (400 : Int32) = nI 400 by decide +kernel]
    exact nI_ge hr (by decide)
  have er : nI r + 1 = nI (r + 1) := nI_1 r
  have hk2 : M 36 23 = nI k := by assumption
  have sh := s_100 scr L (F + 12900) (d + 2) I J M n p h
  have ek : nI D + nI k = nI (D + k) := nI_add D k
  have ep : nI p + 1 = nI (p + 1) := nI_1 p
  have g20 := h.2.1
  have hd : ¬ (20 : Int32) < nI (D + k) := by
    rw [show (20 : Int32) = nI 20 by decide +kernel]
    exact nI_nlt hD (by decide)
  rw [s_104_9]
  simp [s_104_0, s_104_1, s_104_2, s_104_5, s_104_6, s_104_7, s_104_8, s_104_10, s_104_13, s_104_16, s_104_17, s_104_20, s_104_21, s_104_22, s_104_25, s_104_27, s_104_29, s_104_31, s_104_34, s_104_36, s_104_38, s_104_41, s_104_43, s_104_45, s_104_48, s_104_49, s_104_52, s_104_53, s_104_55, s_104_56, s_104_57, s_104_60, s_104_61, s_104_63, s_104_66, s_104_68, s_104_71, s_104_73, s_104_75, s_104_78, s_104_80, s_104_82, s_104_85, s_104_86, s_104_87, s_104_88, s_104_89, s_104_92, s_104_93, s_104_94, s_104_97, s_104_99, s_104_101, s_104_104, s_104_105, s_104_108, s_104_110, s_104_112, s_104_115, s_104_116, s_104_119, s_104_121, s_104_123, s_104_126, s_104_127, s_104_130, s_104_131, s_104_132, s_104_134, s_104_137, s_104_138, s_104_141, s_104_142, s_104_145, s_104_147, s_104_149, s_104_152, s_104_154, s_104_157, s_104_158, s_104_159, s_104_160, s_104_161, s_104_164, s_104_165, s_104_166, s_104_169, s_104_172, s_104_173, s_104_176, s_104_179, s_104_180, s_104_181, s_104_182, s_104_185, s_104_186, s_104_189, s_104_190, s_104_191, s_104_192, s_104_194, s_104_196, s_104_198, s_104_201, s_104_202, s_104_203, s_104_204, s_104_205, s_104_208, s_104_209, s_104_210, s_104_211, s_104_214, s_104_215, s_104_216, s_104_219, s_104_222, s_104_224, s_104_225, s_104_228, s_104_229, s_104_231, s_104_234, s_104_237, s_104_238, s_104_239, s_104_240, s_104_243, s_104_244, s_104_247, s_104_248, s_104_249, s_104_250, s_104_251, s_104_252, s_104_253, s_104_256, s_104_257, s_104_259, s_104_262, s_104_265, s_104_266, s_104_267, s_104_268, s_104_269, s_104_271, s_104_272, s_104_275, s_104_276, s_104_277, s_104_278, s_104_281, s_104_282, s_104_283, s_104_286, s_104_289, s_104_292, s_104_293, ha_36, hg_36_0, hq_36_0, hg_36_1, hg_36_2, hq_36_2, hg_36_3, hg_36_4, hg_36_5, hg_36_6, hq_36_6, hg_36_7, hq_36_7, hg_36_8, hq_36_8, hg_36_9, hg_36_10, hg_36_11, hg_36_12, hg_36_13, hg_36_14, hg_36_15, hg_36_16, hg_36_17, hg_36_18, hq_36_18, hg_36_19, hg_36_20, hq_36_20, hg_36_21, hq_36_21, hg_36_22, hg_36_23, hq_36_23, hg_36_24, hg_36_25, hq_36_25, hg_36_26, hq_36_26, hg_36_27, hq_36_27, hg_36_28, hq_36_28, hg_36_29, hg_36_30, hg_36_31, hq_36_31, hg_36_32, hg_36_33, hg_36_34, hg_36_35, hq_36_35, hg_36_36, hg_36_37, hg_36_38, hg_36_39, hg_36_40, hq_36_40, hg_36_41, hg_36_42, hg_36_43, hg_36_44, hq_36_44, hg_36_45, hg_36_46, hg_36_47, hg_36_48, hg_36_49, hq_36_49, hg_36_50, hg_36_51, hq_36_51, hg_36_52, hq_36_52, hg_36_53, hq_36_53, hg_36_54, hq_36_54, hg_36_55, hq_36_55, hg_36_56, hq_36_56, hg_36_57, hg_36_58, hq_36_58, hg_36_59, hq_36_59, hg_36_60, hq_36_60, hg_36_61, hl_37, hs_37, hl_38, hs_38, hl_39, hs_39, hl_40, hs_40, hl_41, hs_41, hl_42, hs_42, hl_43, hs_43, hl_44, hs_44, hl_45, hs_45, hl_46, hs_46, hl_47, hs_47, hl_48, hs_48, hl_49, hs_49, hl_50, hs_50, hl_51, hs_51, hl_52, hs_52, hl_53, hs_53, hl_54, hs_54, hl_55, hs_55, hl_56, hs_56, hl_57, hs_57, hl_58, hs_58, hl_59, hs_59, hl_60, hs_60, hl_61, hs_61, hl_62, hs_62, hl_63, hs_63, hl_64, hs_64, hl_65, hs_65, hl_66, hs_66, hl_67, hs_67, hl_68, hs_68, hl_69, hs_69, hl_70, hs_70, hl_71, hs_71, am_ld_cons, am_ld_nil, am_st1_cons, am_st1_nil, am_st2_cons, am_st2_nil, am_P1, am_P2, Value.category, am_add_add, am_add0, am_add_some, hr2, er, e4, e5, f1, f2, f3, f4, f5, f6, sh, hx, hk2, ek, ep, g20, hd]
  exact key _ _ (by omega) (kb_cons (by omega) (kb_cons (by omega) (kb_le (by omega) k5)))
set_option maxRecDepth 100000 in
set_option maxHeartbeats 4000000 in
theorem h104_r (scr : Nat → Int32) (L F d D : Nat) (I : am_I) (J : am_J) (M : am_I) (n p N r k : Nat) (R : Option am_X) (h : rdM M n p) (hr : r < 400) (hk : M 36 23 = nI k) (hD : D + k ≤ 20) (hx : tx (M 37) n p = 38) (key : h4 scr L F d D I J N (-1) (r + 1) (opM M k (-2) (p + 1)) R) : h4 scr L F d D I J (N + 150) (-1) r M R := by
  intro f tl hf hk
  obtain ⟨tl1, e4, k4⟩ := kb_st hk
  obtain ⟨tl2, e5, k5⟩ := kb_st k4
  have f1 := kb_f hk (show 2 < 4 by omega)
  have f2 := kb_f hk (show 3 < 4 by omega)
  have f3 := kb_f k4 (show 2 < 5 by omega)
  have f4 := kb_f k4 (show 3 < 5 by omega)
  have f5 := kb_f k5 (show 2 < 6 by omega)
  have f6 := kb_f k5 (show 3 < 6 by omega)
  obtain ⟨g, rfl⟩ : ∃ g, f = g + 150 := ⟨f - 150, by omega⟩
  have hr2 : ¬ (400 : Int32) ≤ nI r := by
    rw [show (400 : Int32) = nI 400 by decide +kernel]
    exact nI_ge hr (by decide)
  have er : nI r + 1 = nI (r + 1) := nI_1 r
  have hk2 : M 36 23 = nI k := by assumption
  have sh := s_100 scr L (F + 12900) (d + 2) I J M n p h
  have ek : nI D + nI k = nI (D + k) := nI_add D k
  have ep : nI p + 1 = nI (p + 1) := nI_1 p
  have g20 := h.2.1
  have hd : ¬ (20 : Int32) < nI (D + k) := by
    rw [show (20 : Int32) = nI 20 by decide +kernel]
    exact nI_nlt hD (by decide)
  have g1 : ¬ nI k < 0 := nI_pos (by omega)
  have g2 : (nI k).toNatClampNeg = k := nI_clamp (by omega)
  have g3 : ¬ 32 ≤ k := by omega
  have ek1 : nI k + 1 = nI (k + 1) := nI_1 k
  have q23 : upd (M 36) 20 (nI (p + 1)) 23 = nI k := (pk_un (by omega)).trans hk2
  rw [s_104_9]
  simp [s_104_0, s_104_1, s_104_2, s_104_5, s_104_6, s_104_7, s_104_8, s_104_10, s_104_13, s_104_16, s_104_17, s_104_20, s_104_21, s_104_22, s_104_25, s_104_27, s_104_29, s_104_31, s_104_34, s_104_36, s_104_38, s_104_41, s_104_43, s_104_45, s_104_48, s_104_49, s_104_52, s_104_53, s_104_55, s_104_56, s_104_57, s_104_60, s_104_61, s_104_63, s_104_66, s_104_68, s_104_71, s_104_73, s_104_75, s_104_78, s_104_80, s_104_82, s_104_85, s_104_86, s_104_87, s_104_88, s_104_89, s_104_92, s_104_93, s_104_94, s_104_97, s_104_99, s_104_101, s_104_104, s_104_105, s_104_108, s_104_110, s_104_112, s_104_115, s_104_116, s_104_119, s_104_121, s_104_123, s_104_126, s_104_127, s_104_130, s_104_131, s_104_132, s_104_134, s_104_137, s_104_138, s_104_141, s_104_142, s_104_145, s_104_147, s_104_149, s_104_152, s_104_154, s_104_157, s_104_158, s_104_159, s_104_160, s_104_161, s_104_164, s_104_165, s_104_166, s_104_169, s_104_172, s_104_173, s_104_176, s_104_179, s_104_180, s_104_181, s_104_182, s_104_185, s_104_186, s_104_189, s_104_190, s_104_191, s_104_192, s_104_194, s_104_196, s_104_198, s_104_201, s_104_202, s_104_203, s_104_204, s_104_205, s_104_208, s_104_209, s_104_210, s_104_211, s_104_214, s_104_215, s_104_216, s_104_219, s_104_222, s_104_224, s_104_225, s_104_228, s_104_229, s_104_231, s_104_234, s_104_237, s_104_238, s_104_239, s_104_240, s_104_243, s_104_244, s_104_247, s_104_248, s_104_249, s_104_250, s_104_251, s_104_252, s_104_253, s_104_256, s_104_257, s_104_259, s_104_262, s_104_265, s_104_266, s_104_267, s_104_268, s_104_269, s_104_271, s_104_272, s_104_275, s_104_276, s_104_277, s_104_278, s_104_281, s_104_282, s_104_283, s_104_286, s_104_289, s_104_292, s_104_293, ha_36, hg_36_0, hq_36_0, hg_36_1, hg_36_2, hq_36_2, hg_36_3, hg_36_4, hg_36_5, hg_36_6, hq_36_6, hg_36_7, hq_36_7, hg_36_8, hq_36_8, hg_36_9, hg_36_10, hg_36_11, hg_36_12, hg_36_13, hg_36_14, hg_36_15, hg_36_16, hg_36_17, hg_36_18, hq_36_18, hg_36_19, hg_36_20, hq_36_20, hg_36_21, hq_36_21, hg_36_22, hg_36_23, hq_36_23, hg_36_24, hg_36_25, hq_36_25, hg_36_26, hq_36_26, hg_36_27, hq_36_27, hg_36_28, hq_36_28, hg_36_29, hg_36_30, hg_36_31, hq_36_31, hg_36_32, hg_36_33, hg_36_34, hg_36_35, hq_36_35, hg_36_36, hg_36_37, hg_36_38, hg_36_39, hg_36_40, hq_36_40, hg_36_41, hg_36_42, hg_36_43, hg_36_44, hq_36_44, hg_36_45, hg_36_46, hg_36_47, hg_36_48, hg_36_49, hq_36_49, hg_36_50, hg_36_51, hq_36_51, hg_36_52, hq_36_52, hg_36_53, hq_36_53, hg_36_54, hq_36_54, hg_36_55, hq_36_55, hg_36_56, hq_36_56, hg_36_57, hg_36_58, hq_36_58, hg_36_59, hq_36_59, hg_36_60, hq_36_60, hg_36_61, hl_37, hs_37, hl_38, hs_38, hl_39, hs_39, hl_40, hs_40, hl_41, hs_41, hl_42, hs_42, hl_43, hs_43, hl_44, hs_44, hl_45, hs_45, hl_46, hs_46, hl_47, hs_47, hl_48, hs_48, hl_49, hs_49, hl_50, hs_50, hl_51, hs_51, hl_52, hs_52, hl_53, hs_53, hl_54, hs_54, hl_55, hs_55, hl_56, hs_56, hl_57, hs_57, hl_58, hs_58, hl_59, hs_59, hl_60, hs_60, hl_61, hs_61, hl_62, hs_62, hl_63, hs_63, hl_64, hs_64, hl_65, hs_65, hl_66, hs_66, hl_67, hs_67, hl_68, hs_68, hl_69, hs_69, hl_70, hs_70, hl_71, hs_71, am_ld_cons, am_ld_nil, am_st1_cons, am_st1_nil, am_st2_cons, am_st2_nil, am_P1, am_P2, Value.category, am_add_add, am_add0, am_add_some, hr2, er, e4, e5, f1, f2, f3, f4, f5, f6, sh, hx, hk2, ek, ep, g20, hd, g1, g2, g3, ek1, q23, va_up_ne, va_up_self]
  exact key _ _ (by omega) (kb_cons (by omega) (kb_cons (by omega) (kb_le (by omega) k5)))
set_option maxRecDepth 100000 in
set_option maxHeartbeats 4000000 in
theorem h104_f (scr : Nat → Int32) (L F d D : Nat) (I : am_I) (J : am_J) (M : am_I) (n p N r k : Nat) (R : Option am_X) (h : rdM M n p) (hr : r < 400) (hk : M 36 23 = nI k) (hD : D + k ≤ 20) (hx : tx (M 37) n p = 40) (key : h4 scr L F d D I J N (-1) (r + 1) (opM M k (-1) (p + 1)) R) : h4 scr L F d D I J (N + 150) (-1) r M R := by
  intro f tl hf hk
  obtain ⟨tl1, e4, k4⟩ := kb_st hk
  obtain ⟨tl2, e5, k5⟩ := kb_st k4
  have f1 := kb_f hk (show 2 < 4 by omega)
  have f2 := kb_f hk (show 3 < 4 by omega)
  have f3 := kb_f k4 (show 2 < 5 by omega)
  have f4 := kb_f k4 (show 3 < 5 by omega)
  have f5 := kb_f k5 (show 2 < 6 by omega)
  have f6 := kb_f k5 (show 3 < 6 by omega)
  obtain ⟨g, rfl⟩ : ∃ g, f = g + 150 := ⟨f - 150, by omega⟩
  have hr2 : ¬ (400 : Int32) ≤ nI r := by
    rw [show (400 : Int32) = nI 400 by decide +kernel]
    exact nI_ge hr (by decide)
  have er : nI r + 1 = nI (r + 1) := nI_1 r
  have hk2 : M 36 23 = nI k := by assumption
  have sh := s_100 scr L (F + 12900) (d + 2) I J M n p h
  have ek : nI D + nI k = nI (D + k) := nI_add D k
  have ep : nI p + 1 = nI (p + 1) := nI_1 p
  have g20 := h.2.1
  have hd : ¬ (20 : Int32) < nI (D + k) := by
    rw [show (20 : Int32) = nI 20 by decide +kernel]
    exact nI_nlt hD (by decide)
  have g1 : ¬ nI k < 0 := nI_pos (by omega)
  have g2 : (nI k).toNatClampNeg = k := nI_clamp (by omega)
  have g3 : ¬ 32 ≤ k := by omega
  have ek1 : nI k + 1 = nI (k + 1) := nI_1 k
  have q23 : upd (M 36) 20 (nI (p + 1)) 23 = nI k := (pk_un (by omega)).trans hk2
  rw [s_104_9]
  simp [s_104_0, s_104_1, s_104_2, s_104_5, s_104_6, s_104_7, s_104_8, s_104_10, s_104_13, s_104_16, s_104_17, s_104_20, s_104_21, s_104_22, s_104_25, s_104_27, s_104_29, s_104_31, s_104_34, s_104_36, s_104_38, s_104_41, s_104_43, s_104_45, s_104_48, s_104_49, s_104_52, s_104_53, s_104_55, s_104_56, s_104_57, s_104_60, s_104_61, s_104_63, s_104_66, s_104_68, s_104_71, s_104_73, s_104_75, s_104_78, s_104_80, s_104_82, s_104_85, s_104_86, s_104_87, s_104_88, s_104_89, s_104_92, s_104_93, s_104_94, s_104_97, s_104_99, s_104_101, s_104_104, s_104_105, s_104_108, s_104_110, s_104_112, s_104_115, s_104_116, s_104_119, s_104_121, s_104_123, s_104_126, s_104_127, s_104_130, s_104_131, s_104_132, s_104_134, s_104_137, s_104_138, s_104_141, s_104_142, s_104_145, s_104_147, s_104_149, s_104_152, s_104_154, s_104_157, s_104_158, s_104_159, s_104_160, s_104_161, s_104_164, s_104_165, s_104_166, s_104_169, s_104_172, s_104_173, s_104_176, s_104_179, s_104_180, s_104_181, s_104_182, s_104_185, s_104_186, s_104_189, s_104_190, s_104_191, s_104_192, s_104_194, s_104_196, s_104_198, s_104_201, s_104_202, s_104_203, s_104_204, s_104_205, s_104_208, s_104_209, s_104_210, s_104_211, s_104_214, s_104_215, s_104_216, s_104_219, s_104_222, s_104_224, s_104_225, s_104_228, s_104_229, s_104_231, s_104_234, s_104_237, s_104_238, s_104_239, s_104_240, s_104_243, s_104_244, s_104_247, s_104_248, s_104_249, s_104_250, s_104_251, s_104_252, s_104_253, s_104_256, s_104_257, s_104_259, s_104_262, s_104_265, s_104_266, s_104_267, s_104_268, s_104_269, s_104_271, s_104_272, s_104_275, s_104_276, s_104_277, s_104_278, s_104_281, s_104_282, s_104_283, s_104_286, s_104_289, s_104_292, s_104_293, ha_36, hg_36_0, hq_36_0, hg_36_1, hg_36_2, hq_36_2, hg_36_3, hg_36_4, hg_36_5, hg_36_6, hq_36_6, hg_36_7, hq_36_7, hg_36_8, hq_36_8, hg_36_9, hg_36_10, hg_36_11, hg_36_12, hg_36_13, hg_36_14, hg_36_15, hg_36_16, hg_36_17, hg_36_18, hq_36_18, hg_36_19, hg_36_20, hq_36_20, hg_36_21, hq_36_21, hg_36_22, hg_36_23, hq_36_23, hg_36_24, hg_36_25, hq_36_25, hg_36_26, hq_36_26, hg_36_27, hq_36_27, hg_36_28, hq_36_28, hg_36_29, hg_36_30, hg_36_31, hq_36_31, hg_36_32, hg_36_33, hg_36_34, hg_36_35, hq_36_35, hg_36_36, hg_36_37, hg_36_38, hg_36_39, hg_36_40, hq_36_40, hg_36_41, hg_36_42, hg_36_43, hg_36_44, hq_36_44, hg_36_45, hg_36_46, hg_36_47, hg_36_48, hg_36_49, hq_36_49, hg_36_50, hg_36_51, hq_36_51, hg_36_52, hq_36_52, hg_36_53, hq_36_53, hg_36_54, hq_36_54, hg_36_55, hq_36_55, hg_36_56, hq_36_56, hg_36_57, hg_36_58, hq_36_58, hg_36_59, hq_36_59, hg_36_60, hq_36_60, hg_36_61, hl_37, hs_37, hl_38, hs_38, hl_39, hs_39, hl_40, hs_40, hl_41, hs_41, hl_42, hs_42, hl_43, hs_43, hl_44, hs_44, hl_45, hs_45, hl_46, hs_46, hl_47, hs_47, hl_48, hs_48, hl_49, hs_49, hl_50, hs_50, hl_51, hs_51, hl_52, hs_52, hl_53, hs_53, hl_54, hs_54, hl_55, hs_55, hl_56, hs_56, hl_57, hs_57, hl_58, hs_58, hl_59, hs_59, hl_60, hs_60, hl_61, hs_61, hl_62, hs_62, hl_63, hs_63, hl_64, hs_64, hl_65, hs_65, hl_66, hs_66, hl_67, hs_67, hl_68, hs_68, hl_69, hs_69, hl_70, hs_70, hl_71, hs_71, am_ld_cons, am_ld_nil, am_st1_cons, am_st1_nil, am_st2_cons, am_st2_nil, am_P1, am_P2, Value.category, am_add_add, am_add0, am_add_some, hr2, er, e4, e5, f1, f2, f3, f4, f5, f6, sh, hx, hk2, ek, ep, g20, hd, g1, g2, g3, ek1, q23, va_up_ne, va_up_self]
  exact key _ _ (by omega) (kb_cons (by omega) (kb_cons (by omega) (kb_le (by omega) k5)))
set_option maxRecDepth 100000 in
set_option maxHeartbeats 4000000 in
theorem h104_deep (scr : Nat → Int32) (L F d D : Nat) (I : am_I) (J : am_J) (M : am_I) (n p N r k : Nat) (R : Option am_X) (h : rdM M n p) (hr : r < 400) (hk : M 36 23 = nI k) (hD : 20 < D + k) (hD2 : D + k < 1000) : h4 scr L F d D I J 150 (-1) r M (some (some (.int (-1)), hp I J M, 0, 0)) := by
  intro f tl hf hk
  obtain ⟨tl1, e4, k4⟩ := kb_st hk
  obtain ⟨tl2, e5, k5⟩ := kb_st k4
  have f1 := kb_f hk (show 2 < 4 by omega)
  have f2 := kb_f hk (show 3 < 4 by omega)
  have f3 := kb_f k4 (show 2 < 5 by omega)
  have f4 := kb_f k4 (show 3 < 5 by omega)
  have f5 := kb_f k5 (show 2 < 6 by omega)
  have f6 := kb_f k5 (show 3 < 6 by omega)
  obtain ⟨g, rfl⟩ : ∃ g, f = g + 150 := ⟨f - 150, by omega⟩
  have hr2 : ¬ (400 : Int32) ≤ nI r := by
    rw [show (400 : Int32) = nI 400 by decide +kernel]
    exact nI_ge hr (by decide)
  have er : nI r + 1 = nI (r + 1) := nI_1 r
  have hk2 : M 36 23 = nI k := by assumption
  have sh := s_100 scr L (F + 12900) (d + 2) I J M n p h
  have ek : nI D + nI k = nI (D + k) := nI_add D k
  have ep : nI p + 1 = nI (p + 1) := nI_1 p
  have g20 := h.2.1
  have hd : (20 : Int32) < nI (D + k) := by
    rw [show (20 : Int32) = nI 20 by decide +kernel]
    exact nI_lt hD (by omega)
  rw [s_104_9]
  simp [s_104_0, s_104_1, s_104_2, s_104_5, s_104_6, s_104_7, s_104_8, s_104_10, s_104_13, s_104_16, s_104_17, s_104_20, s_104_21, s_104_22, s_104_25, s_104_27, s_104_29, s_104_31, s_104_34, s_104_36, s_104_38, s_104_41, s_104_43, s_104_45, s_104_48, s_104_49, s_104_52, s_104_53, s_104_55, s_104_56, s_104_57, s_104_60, s_104_61, s_104_63, s_104_66, s_104_68, s_104_71, s_104_73, s_104_75, s_104_78, s_104_80, s_104_82, s_104_85, s_104_86, s_104_87, s_104_88, s_104_89, s_104_92, s_104_93, s_104_94, s_104_97, s_104_99, s_104_101, s_104_104, s_104_105, s_104_108, s_104_110, s_104_112, s_104_115, s_104_116, s_104_119, s_104_121, s_104_123, s_104_126, s_104_127, s_104_130, s_104_131, s_104_132, s_104_134, s_104_137, s_104_138, s_104_141, s_104_142, s_104_145, s_104_147, s_104_149, s_104_152, s_104_154, s_104_157, s_104_158, s_104_159, s_104_160, s_104_161, s_104_164, s_104_165, s_104_166, s_104_169, s_104_172, s_104_173, s_104_176, s_104_179, s_104_180, s_104_181, s_104_182, s_104_185, s_104_186, s_104_189, s_104_190, s_104_191, s_104_192, s_104_194, s_104_196, s_104_198, s_104_201, s_104_202, s_104_203, s_104_204, s_104_205, s_104_208, s_104_209, s_104_210, s_104_211, s_104_214, s_104_215, s_104_216, s_104_219, s_104_222, s_104_224, s_104_225, s_104_228, s_104_229, s_104_231, s_104_234, s_104_237, s_104_238, s_104_239, s_104_240, s_104_243, s_104_244, s_104_247, s_104_248, s_104_249, s_104_250, s_104_251, s_104_252, s_104_253, s_104_256, s_104_257, s_104_259, s_104_262, s_104_265, s_104_266, s_104_267, s_104_268, s_104_269, s_104_271, s_104_272, s_104_275, s_104_276, s_104_277, s_104_278, s_104_281, s_104_282, s_104_283, s_104_286, s_104_289, s_104_292, s_104_293, ha_36, hg_36_0, hq_36_0, hg_36_1, hg_36_2, hq_36_2, hg_36_3, hg_36_4, hg_36_5, hg_36_6, hq_36_6, hg_36_7, hq_36_7, hg_36_8, hq_36_8, hg_36_9, hg_36_10, hg_36_11, hg_36_12, hg_36_13, hg_36_14, hg_36_15, hg_36_16, hg_36_17, hg_36_18, hq_36_18, hg_36_19, hg_36_20, hq_36_20, hg_36_21, hq_36_21, hg_36_22, hg_36_23, hq_36_23, hg_36_24, hg_36_25, hq_36_25, hg_36_26, hq_36_26, hg_36_27, hq_36_27, hg_36_28, hq_36_28, hg_36_29, hg_36_30, hg_36_31, hq_36_31, hg_36_32, hg_36_33, hg_36_34, hg_36_35, hq_36_35, hg_36_36, hg_36_37, hg_36_38, hg_36_39, hg_36_40, hq_36_40, hg_36_41, hg_36_42, hg_36_43, hg_36_44, hq_36_44, hg_36_45, hg_36_46, hg_36_47, hg_36_48, hg_36_49, hq_36_49, hg_36_50, hg_36_51, hq_36_51, hg_36_52, hq_36_52, hg_36_53, hq_36_53, hg_36_54, hq_36_54, hg_36_55, hq_36_55, hg_36_56, hq_36_56, hg_36_57, hg_36_58, hq_36_58, hg_36_59, hq_36_59, hg_36_60, hq_36_60, hg_36_61, hl_37, hs_37, hl_38, hs_38, hl_39, hs_39, hl_40, hs_40, hl_41, hs_41, hl_42, hs_42, hl_43, hs_43, hl_44, hs_44, hl_45, hs_45, hl_46, hs_46, hl_47, hs_47, hl_48, hs_48, hl_49, hs_49, hl_50, hs_50, hl_51, hs_51, hl_52, hs_52, hl_53, hs_53, hl_54, hs_54, hl_55, hs_55, hl_56, hs_56, hl_57, hs_57, hl_58, hs_58, hl_59, hs_59, hl_60, hs_60, hl_61, hs_61, hl_62, hs_62, hl_63, hs_63, hl_64, hs_64, hl_65, hs_65, hl_66, hs_66, hl_67, hs_67, hl_68, hs_68, hl_69, hs_69, hl_70, hs_70, hl_71, hs_71, am_ld_cons, am_ld_nil, am_st1_cons, am_st1_nil, am_st2_cons, am_st2_nil, am_P1, am_P2, Value.category, am_add_add, am_add0, am_add_some, hr2, er, e4, e5, f1, f2, f3, f4, f5, f6, sh, hk2, ek, hd]
  try trivial
set_option maxRecDepth 100000 in
set_option maxHeartbeats 4000000 in
theorem h104_bad (scr : Nat → Int32) (L F d D : Nat) (I : am_I) (J : am_J) (M : am_I) (n p N r k : Nat) (R : Option am_X) (h : rdM M n p) (hr : r < 400) (hk : M 36 23 = nI k) (hD : D + k ≤ 20) (x1 : ¬ tx (M 37) n p = 63) (x2 : ¬ tx (M 37) n p = 105) (x3 : ¬ tx (M 37) n p = 98) (x4 : ¬ tx (M 37) n p = 38) (x5 : ¬ tx (M 37) n p = 40) : h4 scr L F d D I J 150 (-1) r M (some (some (.int (-1)), hp I J M, 0, 0)) := by
  intro f tl hf hk
  obtain ⟨tl1, e4, k4⟩ := kb_st hk
  obtain ⟨tl2, e5, k5⟩ := kb_st k4
  have f1 := kb_f hk (show 2 < 4 by omega)
  have f2 := kb_f hk (show 3 < 4 by omega)
  have f3 := kb_f k4 (show 2 < 5 by omega)
  have f4 := kb_f k4 (show 3 < 5 by omega)
  have f5 := kb_f k5 (show 2 < 6 by omega)
  have f6 := kb_f k5 (show 3 < 6 by omega)
  obtain ⟨g, rfl⟩ : ∃ g, f = g + 150 := ⟨f - 150, by omega⟩
  have hr2 : ¬ (400 : Int32) ≤ nI r := by
    rw [show (400 : Int32) = nI 400 by decide +kernel]
    exact nI_ge hr (by decide)
  have er : nI r + 1 = nI (r + 1) := nI_1 r
  have hk2 : M 36 23 = nI k := by assumption
  have sh := s_100 scr L (F + 12900) (d + 2) I J M n p h
  have ek : nI D + nI k = nI (D + k) := nI_add D k
  have ep : nI p + 1 = nI (p + 1) := nI_1 p
  have g20 := h.2.1
  have hd : ¬ (20 : Int32) < nI (D + k) := by
    rw [show (20 : Int32) = nI 20 by decide +kernel]
    exact nI_nlt hD (by decide)
  rw [s_104_9]
  simp [s_104_0, s_104_1, s_104_2, s_104_5, s_104_6, s_104_7, s_104_8, s_104_10, s_104_13, s_104_16, s_104_17, s_104_20, s_104_21, s_104_22, s_104_25, s_104_27, s_104_29, s_104_31, s_104_34, s_104_36, s_104_38, s_104_41, s_104_43, s_104_45, s_104_48, s_104_49, s_104_52, s_104_53, s_104_55, s_104_56, s_104_57, s_104_60, s_104_61, s_104_63, s_104_66, s_104_68, s_104_71, s_104_73, s_104_75, s_104_78, s_104_80, s_104_82, s_104_85, s_104_86, s_104_87, s_104_88, s_104_89, s_104_92, s_104_93, s_104_94, s_104_97, s_104_99, s_104_101, s_104_104, s_104_105, s_104_108, s_104_110, s_104_112, s_104_115, s_104_116, s_104_119, s_104_121, s_104_123, s_104_126, s_104_127, s_104_130, s_104_131, s_104_132, s_104_134, s_104_137, s_104_138, s_104_141, s_104_142, s_104_145, s_104_147, s_104_149, s_104_152, s_104_154, s_104_157, s_104_158, s_104_159, s_104_160, s_104_161, s_104_164, s_104_165, s_104_166, s_104_169, s_104_172, s_104_173, s_104_176, s_104_179, s_104_180, s_104_181, s_104_182, s_104_185, s_104_186, s_104_189, s_104_190, s_104_191, s_104_192, s_104_194, s_104_196, s_104_198, s_104_201, s_104_202, s_104_203, s_104_204, s_104_205, s_104_208, s_104_209, s_104_210, s_104_211, s_104_214, s_104_215, s_104_216, s_104_219, s_104_222, s_104_224, s_104_225, s_104_228, s_104_229, s_104_231, s_104_234, s_104_237, s_104_238, s_104_239, s_104_240, s_104_243, s_104_244, s_104_247, s_104_248, s_104_249, s_104_250, s_104_251, s_104_252, s_104_253, s_104_256, s_104_257, s_104_259, s_104_262, s_104_265, s_104_266, s_104_267, s_104_268, s_104_269, s_104_271, s_104_272, s_104_275, s_104_276, s_104_277, s_104_278, s_104_281, s_104_282, s_104_283, s_104_286, s_104_289, s_104_292, s_104_293, ha_36, hg_36_0, hq_36_0, hg_36_1, hg_36_2, hq_36_2, hg_36_3, hg_36_4, hg_36_5, hg_36_6, hq_36_6, hg_36_7, hq_36_7, hg_36_8, hq_36_8, hg_36_9, hg_36_10, hg_36_11, hg_36_12, hg_36_13, hg_36_14, hg_36_15, hg_36_16, hg_36_17, hg_36_18, hq_36_18, hg_36_19, hg_36_20, hq_36_20, hg_36_21, hq_36_21, hg_36_22, hg_36_23, hq_36_23, hg_36_24, hg_36_25, hq_36_25, hg_36_26, hq_36_26, hg_36_27, hq_36_27, hg_36_28, hq_36_28, hg_36_29, hg_36_30, hg_36_31, hq_36_31, hg_36_32, hg_36_33, hg_36_34, hg_36_35, hq_36_35, hg_36_36, hg_36_37, hg_36_38, hg_36_39, hg_36_40, hq_36_40, hg_36_41, hg_36_42, hg_36_43, hg_36_44, hq_36_44, hg_36_45, hg_36_46, hg_36_47, hg_36_48, hg_36_49, hq_36_49, hg_36_50, hg_36_51, hq_36_51, hg_36_52, hq_36_52, hg_36_53, hq_36_53, hg_36_54, hq_36_54, hg_36_55, hq_36_55, hg_36_56, hq_36_56, hg_36_57, hg_36_58, hq_36_58, hg_36_59, hq_36_59, hg_36_60, hq_36_60, hg_36_61, hl_37, hs_37, hl_38, hs_38, hl_39, hs_39, hl_40, hs_40, hl_41, hs_41, hl_42, hs_42, hl_43, hs_43, hl_44, hs_44, hl_45, hs_45, hl_46, hs_46, hl_47, hs_47, hl_48, hs_48, hl_49, hs_49, hl_50, hs_50, hl_51, hs_51, hl_52, hs_52, hl_53, hs_53, hl_54, hs_54, hl_55, hs_55, hl_56, hs_56, hl_57, hs_57, hl_58, hs_58, hl_59, hs_59, hl_60, hs_60, hl_61, hs_61, hl_62, hs_62, hl_63, hs_63, hl_64, hs_64, hl_65, hs_65, hl_66, hs_66, hl_67, hs_67, hl_68, hs_68, hl_69, hs_69, hl_70, hs_70, hl_71, hs_71, am_ld_cons, am_ld_nil, am_st1_cons, am_st1_nil, am_st2_cons, am_st2_nil, am_P1, am_P2, Value.category, am_add_add, am_add0, am_add_some, hr2, er, e4, e5, f1, f2, f3, f4, f5, f6, sh, hk2, ek, hd, x1, x2, x3, x4, x5]
  try trivial
set_option maxRecDepth 100000 in
set_option maxHeartbeats 4000000 in
theorem h104_ref (scr : Nat → Int32) (L F d D : Nat) (I : am_I) (J : am_J) (M : am_I) (n p N r k t c : Nat) (R : Option am_X) (h : rdM M n p) (hr : r < 400) (hk : M 36 23 = nI (k + 1)) (hk3 : k < 32) (ht : t < 105) (htop : M 52 k = -2) (hc : M 36 2 = nI c) (hc2 : c < 256) (hc3 : 3 ≤ c) (t2 : Nat) (M1 : am_I) (hz : kz M c 4 (nI t) 0 = (nI t2, M1)) (hm : M1 36 23 = nI (k + 1)) (key : h4 scr L F d D I J N (nI t2) (r + 1) (clM M1 k) R) : h4 scr L F d D I J (N + 150) (nI t) r M R := by
  intro f tl hf hk
  obtain ⟨tl1, e4, k4⟩ := kb_st hk
  obtain ⟨tl2, e5, k5⟩ := kb_st k4
  have f1 := kb_f hk (show 2 < 4 by omega)
  have f2 := kb_f hk (show 3 < 4 by omega)
  have f3 := kb_f k4 (show 2 < 5 by omega)
  have f4 := kb_f k4 (show 3 < 5 by omega)
  have f5 := kb_f k5 (show 2 < 6 by omega)
  have f6 := kb_f k5 (show 3 < 6 by omega)
  obtain ⟨g, rfl⟩ : ∃ g, f = g + 150 := ⟨f - 150, by omega⟩
  have hr2 : ¬ (400 : Int32) ≤ nI r := by
    rw [show (400 : Int32) = nI 400 by decide +kernel]
    exact nI_ge hr (by decide)
  have er : nI r + 1 = nI (r + 1) := nI_1 r
  have hk2 : M 36 23 = nI (k + 1) := by assumption
  have t1 : 0 ≤ nI t := nI_pos' (by omega)
  have t0 : ¬ nI (k + 1) = 0 := nI_ne0 (by omega) (by omega)
  have ep : nI (k + 1) - 1 = nI k := nI_pred k
  have g1 : ¬ nI k < 0 := nI_pos (by omega)
  have g2 : (nI k).toNatClampNeg = k := nI_clamp (by omega)
  have g3 : ¬ 32 ≤ k := by omega
  have sz := n_95 scr L (F + 1000) (d + 2) I J M 4 (nI t) 0 c hc hc3 hc2
  rw [hz] at sz
  rw [s_104_9]
  simp [s_104_0, s_104_1, s_104_2, s_104_5, s_104_6, s_104_7, s_104_8, s_104_10, s_104_13, s_104_16, s_104_17, s_104_20, s_104_21, s_104_22, s_104_25, s_104_27, s_104_29, s_104_31, s_104_34, s_104_36, s_104_38, s_104_41, s_104_43, s_104_45, s_104_48, s_104_49, s_104_52, s_104_53, s_104_55, s_104_56, s_104_57, s_104_60, s_104_61, s_104_63, s_104_66, s_104_68, s_104_71, s_104_73, s_104_75, s_104_78, s_104_80, s_104_82, s_104_85, s_104_86, s_104_87, s_104_88, s_104_89, s_104_92, s_104_93, s_104_94, s_104_97, s_104_99, s_104_101, s_104_104, s_104_105, s_104_108, s_104_110, s_104_112, s_104_115, s_104_116, s_104_119, s_104_121, s_104_123, s_104_126, s_104_127, s_104_130, s_104_131, s_104_132, s_104_134, s_104_137, s_104_138, s_104_141, s_104_142, s_104_145, s_104_147, s_104_149, s_104_152, s_104_154, s_104_157, s_104_158, s_104_159, s_104_160, s_104_161, s_104_164, s_104_165, s_104_166, s_104_169, s_104_172, s_104_173, s_104_176, s_104_179, s_104_180, s_104_181, s_104_182, s_104_185, s_104_186, s_104_189, s_104_190, s_104_191, s_104_192, s_104_194, s_104_196, s_104_198, s_104_201, s_104_202, s_104_203, s_104_204, s_104_205, s_104_208, s_104_209, s_104_210, s_104_211, s_104_214, s_104_215, s_104_216, s_104_219, s_104_222, s_104_224, s_104_225, s_104_228, s_104_229, s_104_231, s_104_234, s_104_237, s_104_238, s_104_239, s_104_240, s_104_243, s_104_244, s_104_247, s_104_248, s_104_249, s_104_250, s_104_251, s_104_252, s_104_253, s_104_256, s_104_257, s_104_259, s_104_262, s_104_265, s_104_266, s_104_267, s_104_268, s_104_269, s_104_271, s_104_272, s_104_275, s_104_276, s_104_277, s_104_278, s_104_281, s_104_282, s_104_283, s_104_286, s_104_289, s_104_292, s_104_293, ha_36, hg_36_0, hq_36_0, hg_36_1, hg_36_2, hq_36_2, hg_36_3, hg_36_4, hg_36_5, hg_36_6, hq_36_6, hg_36_7, hq_36_7, hg_36_8, hq_36_8, hg_36_9, hg_36_10, hg_36_11, hg_36_12, hg_36_13, hg_36_14, hg_36_15, hg_36_16, hg_36_17, hg_36_18, hq_36_18, hg_36_19, hg_36_20, hq_36_20, hg_36_21, hq_36_21, hg_36_22, hg_36_23, hq_36_23, hg_36_24, hg_36_25, hq_36_25, hg_36_26, hq_36_26, hg_36_27, hq_36_27, hg_36_28, hq_36_28, hg_36_29, hg_36_30, hg_36_31, hq_36_31, hg_36_32, hg_36_33, hg_36_34, hg_36_35, hq_36_35, hg_36_36, hg_36_37, hg_36_38, hg_36_39, hg_36_40, hq_36_40, hg_36_41, hg_36_42, hg_36_43, hg_36_44, hq_36_44, hg_36_45, hg_36_46, hg_36_47, hg_36_48, hg_36_49, hq_36_49, hg_36_50, hg_36_51, hq_36_51, hg_36_52, hq_36_52, hg_36_53, hq_36_53, hg_36_54, hq_36_54, hg_36_55, hq_36_55, hg_36_56, hq_36_56, hg_36_57, hg_36_58, hq_36_58, hg_36_59, hq_36_59, hg_36_60, hq_36_60, hg_36_61, hl_37, hs_37, hl_38, hs_38, hl_39, hs_39, hl_40, hs_40, hl_41, hs_41, hl_42, hs_42, hl_43, hs_43, hl_44, hs_44, hl_45, hs_45, hl_46, hs_46, hl_47, hs_47, hl_48, hs_48, hl_49, hs_49, hl_50, hs_50, hl_51, hs_51, hl_52, hs_52, hl_53, hs_53, hl_54, hs_54, hl_55, hs_55, hl_56, hs_56, hl_57, hs_57, hl_58, hs_58, hl_59, hs_59, hl_60, hs_60, hl_61, hs_61, hl_62, hs_62, hl_63, hs_63, hl_64, hs_64, hl_65, hs_65, hl_66, hs_66, hl_67, hs_67, hl_68, hs_68, hl_69, hs_69, hl_70, hs_70, hl_71, hs_71, am_ld_cons, am_ld_nil, am_st1_cons, am_st1_nil, am_st2_cons, am_st2_nil, am_P1, am_P2, Value.category, am_add_add, am_add0, am_add_some, hr2, er, e4, e5, f1, f2, f3, f4, f5, f6, hk2, t1, t0, ep, g1, g2, g3, htop, sz, hm]
  exact key _ _ (by omega) (kb_cons (by omega) (kb_le (by omega) k4))
set_option maxRecDepth 100000 in
set_option maxHeartbeats 4000000 in
theorem h104_mid (scr : Nat → Int32) (L F d D : Nat) (I : am_I) (J : am_J) (M : am_I) (n p N r k t c : Nat) (R : Option am_X) (h : rdM M n p) (hr : r < 400) (hk : M 36 23 = nI (k + 1)) (hk3 : k < 32) (ht : t < 105) (htop : M 52 k = -1) (hx : tx (M 37) n p = 62) (key : h4 scr L F d D I J N (-1) (r + 1) (seM (adM M (p + 1)) k (nI t)) R) : h4 scr L F d D I J (N + 150) (nI t) r M R := by
  intro f tl hf hk
  obtain ⟨tl1, e4, k4⟩ := kb_st hk
  obtain ⟨tl2, e5, k5⟩ := kb_st k4
  have f1 := kb_f hk (show 2 < 4 by omega)
  have f2 := kb_f hk (show 3 < 4 by omega)
  have f3 := kb_f k4 (show 2 < 5 by omega)
  have f4 := kb_f k4 (show 3 < 5 by omega)
  have f5 := kb_f k5 (show 2 < 6 by omega)
  have f6 := kb_f k5 (show 3 < 6 by omega)
  obtain ⟨g, rfl⟩ : ∃ g, f = g + 150 := ⟨f - 150, by omega⟩
  have hr2 : ¬ (400 : Int32) ≤ nI r := by
    rw [show (400 : Int32) = nI 400 by decide +kernel]
    exact nI_ge hr (by decide)
  have er : nI r + 1 = nI (r + 1) := nI_1 r
  have hk2 : M 36 23 = nI (k + 1) := by assumption
  have t1 : 0 ≤ nI t := nI_pos' (by omega)
  have t0 : ¬ nI (k + 1) = 0 := nI_ne0 (by omega) (by omega)
  have ep : nI (k + 1) - 1 = nI k := nI_pred k
  have g1 : ¬ nI k < 0 := nI_pos (by omega)
  have g2 : (nI k).toNatClampNeg = k := nI_clamp (by omega)
  have g3 : ¬ 32 ≤ k := by omega
  have se := s_101 scr L (F + 12800) (d + 1) I J M n p 62 h
  have hk5 : adM M (p + 1) 36 23 = nI (k + 1) := (adM_36 M (p + 1) 23 (by omega)).trans hk2
  rw [s_104_9]
  simp [s_104_0, s_104_1, s_104_2, s_104_5, s_104_6, s_104_7, s_104_8, s_104_10, s_104_13, s_104_16, s_104_17, s_104_20, s_104_21, s_104_22, s_104_25, s_104_27, s_104_29, s_104_31, s_104_34, s_104_36, s_104_38, s_104_41, s_104_43, s_104_45, s_104_48, s_104_49, s_104_52, s_104_53, s_104_55, s_104_56, s_104_57, s_104_60, s_104_61, s_104_63, s_104_66, s_104_68, s_104_71, s_104_73, s_104_75, s_104_78, s_104_80, s_104_82, s_104_85, s_104_86, s_104_87, s_104_88, s_104_89, s_104_92, s_104_93, s_104_94, s_104_97, s_104_99, s_104_101, s_104_104, s_104_105, s_104_108, s_104_110, s_104_112, s_104_115, s_104_116, s_104_119, s_104_121, s_104_123, s_104_126, s_104_127, s_104_130, s_104_131, s_104_132, s_104_134, s_104_137, s_104_138, s_104_141, s_104_142, s_104_145, s_104_147, s_104_149, s_104_152, s_104_154, s_104_157, s_104_158, s_104_159, s_104_160, s_104_161, s_104_164, s_104_165, s_104_166, s_104_169, s_104_172, s_104_173, s_104_176, s_104_179, s_104_180, s_104_181, s_104_182, s_104_185, s_104_186, s_104_189, s_104_190, s_104_191, s_104_192, s_104_194, s_104_196, s_104_198, s_104_201, s_104_202, s_104_203, s_104_204, s_104_205, s_104_208, s_104_209, s_104_210, s_104_211, s_104_214, s_104_215, s_104_216, s_104_219, s_104_222, s_104_224, s_104_225, s_104_228, s_104_229, s_104_231, s_104_234, s_104_237, s_104_238, s_104_239, s_104_240, s_104_243, s_104_244, s_104_247, s_104_248, s_104_249, s_104_250, s_104_251, s_104_252, s_104_253, s_104_256, s_104_257, s_104_259, s_104_262, s_104_265, s_104_266, s_104_267, s_104_268, s_104_269, s_104_271, s_104_272, s_104_275, s_104_276, s_104_277, s_104_278, s_104_281, s_104_282, s_104_283, s_104_286, s_104_289, s_104_292, s_104_293, ha_36, hg_36_0, hq_36_0, hg_36_1, hg_36_2, hq_36_2, hg_36_3, hg_36_4, hg_36_5, hg_36_6, hq_36_6, hg_36_7, hq_36_7, hg_36_8, hq_36_8, hg_36_9, hg_36_10, hg_36_11, hg_36_12, hg_36_13, hg_36_14, hg_36_15, hg_36_16, hg_36_17, hg_36_18, hq_36_18, hg_36_19, hg_36_20, hq_36_20, hg_36_21, hq_36_21, hg_36_22, hg_36_23, hq_36_23, hg_36_24, hg_36_25, hq_36_25, hg_36_26, hq_36_26, hg_36_27, hq_36_27, hg_36_28, hq_36_28, hg_36_29, hg_36_30, hg_36_31, hq_36_31, hg_36_32, hg_36_33, hg_36_34, hg_36_35, hq_36_35, hg_36_36, hg_36_37, hg_36_38, hg_36_39, hg_36_40, hq_36_40, hg_36_41, hg_36_42, hg_36_43, hg_36_44, hq_36_44, hg_36_45, hg_36_46, hg_36_47, hg_36_48, hg_36_49, hq_36_49, hg_36_50, hg_36_51, hq_36_51, hg_36_52, hq_36_52, hg_36_53, hq_36_53, hg_36_54, hq_36_54, hg_36_55, hq_36_55, hg_36_56, hq_36_56, hg_36_57, hg_36_58, hq_36_58, hg_36_59, hq_36_59, hg_36_60, hq_36_60, hg_36_61, hl_37, hs_37, hl_38, hs_38, hl_39, hs_39, hl_40, hs_40, hl_41, hs_41, hl_42, hs_42, hl_43, hs_43, hl_44, hs_44, hl_45, hs_45, hl_46, hs_46, hl_47, hs_47, hl_48, hs_48, hl_49, hs_49, hl_50, hs_50, hl_51, hs_51, hl_52, hs_52, hl_53, hs_53, hl_54, hs_54, hl_55, hs_55, hl_56, hs_56, hl_57, hs_57, hl_58, hs_58, hl_59, hs_59, hl_60, hs_60, hl_61, hs_61, hl_62, hs_62, hl_63, hs_63, hl_64, hs_64, hl_65, hs_65, hl_66, hs_66, hl_67, hs_67, hl_68, hs_68, hl_69, hs_69, hl_70, hs_70, hl_71, hs_71, am_ld_cons, am_ld_nil, am_st1_cons, am_st1_nil, am_st2_cons, am_st2_nil, am_P1, am_P2, Value.category, am_add_add, am_add0, am_add_some, hr2, er, e4, e5, f1, f2, f3, f4, f5, f6, hk2, hk5, t1, t0, ep, g1, g2, g3, htop, se, hx]
  exact key _ _ (by omega) (kb_cons (by omega) (kb_le (by omega) k4))
set_option maxRecDepth 100000 in
set_option maxHeartbeats 4000000 in
theorem h104_mid_f (scr : Nat → Int32) (L F d D : Nat) (I : am_I) (J : am_J) (M : am_I) (n p N r k t c : Nat) (R : Option am_X) (h : rdM M n p) (hr : r < 400) (hk : M 36 23 = nI (k + 1)) (hk3 : k < 32) (ht : t < 105) (htop : M 52 k = -1) (hx : ¬ tx (M 37) n p = 62) : h4 scr L F d D I J 150 (nI t) r M (some (some (.int (-1)), hp I J M, 0, 0)) := by
  intro f tl hf hk
  obtain ⟨tl1, e4, k4⟩ := kb_st hk
  obtain ⟨tl2, e5, k5⟩ := kb_st k4
  have f1 := kb_f hk (show 2 < 4 by omega)
  have f2 := kb_f hk (show 3 < 4 by omega)
  have f3 := kb_f k4 (show 2 < 5 by omega)
  have f4 := kb_f k4 (show 3 < 5 by omega)
  have f5 := kb_f k5 (show 2 < 6 by omega)
  have f6 := kb_f k5 (show 3 < 6 by omega)
  obtain ⟨g, rfl⟩ : ∃ g, f = g + 150 := ⟨f - 150, by omega⟩
  have hr2 : ¬ (400 : Int32) ≤ nI r := by
    rw [show (400 : Int32) = nI 400 by decide +kernel]
    exact nI_ge hr (by decide)
  have er : nI r + 1 = nI (r + 1) := nI_1 r
  have hk2 : M 36 23 = nI (k + 1) := by assumption
  have t1 : 0 ≤ nI t := nI_pos' (by omega)
  have t0 : ¬ nI (k + 1) = 0 := nI_ne0 (by omega) (by omega)
  have ep : nI (k + 1) - 1 = nI k := nI_pred k
  have g1 : ¬ nI k < 0 := nI_pos (by omega)
  have g2 : (nI k).toNatClampNeg = k := nI_clamp (by omega)
  have g3 : ¬ 32 ≤ k := by omega
  have se := s_101 scr L (F + 12800) (d + 1) I J M n p 62 h
  rw [s_104_9]
  simp [s_104_0, s_104_1, s_104_2, s_104_5, s_104_6, s_104_7, s_104_8, s_104_10, s_104_13, s_104_16, s_104_17, s_104_20, s_104_21, s_104_22, s_104_25, s_104_27, s_104_29, s_104_31, s_104_34, s_104_36, s_104_38, s_104_41, s_104_43, s_104_45, s_104_48, s_104_49, s_104_52, s_104_53, s_104_55, s_104_56, s_104_57, s_104_60, s_104_61, s_104_63, s_104_66, s_104_68, s_104_71, s_104_73, s_104_75, s_104_78, s_104_80, s_104_82, s_104_85, s_104_86, s_104_87, s_104_88, s_104_89, s_104_92, s_104_93, s_104_94, s_104_97, s_104_99, s_104_101, s_104_104, s_104_105, s_104_108, s_104_110, s_104_112, s_104_115, s_104_116, s_104_119, s_104_121, s_104_123, s_104_126, s_104_127, s_104_130, s_104_131, s_104_132, s_104_134, s_104_137, s_104_138, s_104_141, s_104_142, s_104_145, s_104_147, s_104_149, s_104_152, s_104_154, s_104_157, s_104_158, s_104_159, s_104_160, s_104_161, s_104_164, s_104_165, s_104_166, s_104_169, s_104_172, s_104_173, s_104_176, s_104_179, s_104_180, s_104_181, s_104_182, s_104_185, s_104_186, s_104_189, s_104_190, s_104_191, s_104_192, s_104_194, s_104_196, s_104_198, s_104_201, s_104_202, s_104_203, s_104_204, s_104_205, s_104_208, s_104_209, s_104_210, s_104_211, s_104_214, s_104_215, s_104_216, s_104_219, s_104_222, s_104_224, s_104_225, s_104_228, s_104_229, s_104_231, s_104_234, s_104_237, s_104_238, s_104_239, s_104_240, s_104_243, s_104_244, s_104_247, s_104_248, s_104_249, s_104_250, s_104_251, s_104_252, s_104_253, s_104_256, s_104_257, s_104_259, s_104_262, s_104_265, s_104_266, s_104_267, s_104_268, s_104_269, s_104_271, s_104_272, s_104_275, s_104_276, s_104_277, s_104_278, s_104_281, s_104_282, s_104_283, s_104_286, s_104_289, s_104_292, s_104_293, ha_36, hg_36_0, hq_36_0, hg_36_1, hg_36_2, hq_36_2, hg_36_3, hg_36_4, hg_36_5, hg_36_6, hq_36_6, hg_36_7, hq_36_7, hg_36_8, hq_36_8, hg_36_9, hg_36_10, hg_36_11, hg_36_12, hg_36_13, hg_36_14, hg_36_15, hg_36_16, hg_36_17, hg_36_18, hq_36_18, hg_36_19, hg_36_20, hq_36_20, hg_36_21, hq_36_21, hg_36_22, hg_36_23, hq_36_23, hg_36_24, hg_36_25, hq_36_25, hg_36_26, hq_36_26, hg_36_27, hq_36_27, hg_36_28, hq_36_28, hg_36_29, hg_36_30, hg_36_31, hq_36_31, hg_36_32, hg_36_33, hg_36_34, hg_36_35, hq_36_35, hg_36_36, hg_36_37, hg_36_38, hg_36_39, hg_36_40, hq_36_40, hg_36_41, hg_36_42, hg_36_43, hg_36_44, hq_36_44, hg_36_45, hg_36_46, hg_36_47, hg_36_48, hg_36_49, hq_36_49, hg_36_50, hg_36_51, hq_36_51, hg_36_52, hq_36_52, hg_36_53, hq_36_53, hg_36_54, hq_36_54, hg_36_55, hq_36_55, hg_36_56, hq_36_56, hg_36_57, hg_36_58, hq_36_58, hg_36_59, hq_36_59, hg_36_60, hq_36_60, hg_36_61, hl_37, hs_37, hl_38, hs_38, hl_39, hs_39, hl_40, hs_40, hl_41, hs_41, hl_42, hs_42, hl_43, hs_43, hl_44, hs_44, hl_45, hs_45, hl_46, hs_46, hl_47, hs_47, hl_48, hs_48, hl_49, hs_49, hl_50, hs_50, hl_51, hs_51, hl_52, hs_52, hl_53, hs_53, hl_54, hs_54, hl_55, hs_55, hl_56, hs_56, hl_57, hs_57, hl_58, hs_58, hl_59, hs_59, hl_60, hs_60, hl_61, hs_61, hl_62, hs_62, hl_63, hs_63, hl_64, hs_64, hl_65, hs_65, hl_66, hs_66, hl_67, hs_67, hl_68, hs_68, hl_69, hs_69, hl_70, hs_70, hl_71, hs_71, am_ld_cons, am_ld_nil, am_st1_cons, am_st1_nil, am_st2_cons, am_st2_nil, am_P1, am_P2, Value.category, am_add_add, am_add0, am_add_some, hr2, er, e4, e5, f1, f2, f3, f4, f5, f6, hk2, t1, t0, ep, g1, g2, g3, htop, se, hx]
  try trivial
set_option maxRecDepth 100000 in
set_option maxHeartbeats 4000000 in
theorem h104_fun (scr : Nat → Int32) (L F d D : Nat) (I : am_I) (J : am_J) (M : am_I) (n p N r k t c : Nat) (R : Option am_X) (h : rdM M n p) (hr : r < 400) (hk : M 36 23 = nI (k + 1)) (hk3 : k < 32) (ht : t < 105) (a : Nat) (ha : a < 105) (htop : M 52 k = nI a) (hx : tx (M 37) n p = 41) (hc : M 36 2 = nI c) (hc2 : c < 256) (hc3 : 3 ≤ c) (t2 : Nat) (M1 : am_I) (hz : kz (adM M (p + 1)) c 3 (nI a) (nI t) = (nI t2, M1)) (hm : M1 36 23 = nI (k + 1)) (key : h4 scr L F d D I J N (nI t2) (r + 1) (clM M1 k) R) : h4 scr L F d D I J (N + 150) (nI t) r M R := by
  intro f tl hf hk
  obtain ⟨tl1, e4, k4⟩ := kb_st hk
  obtain ⟨tl2, e5, k5⟩ := kb_st k4
  have f1 := kb_f hk (show 2 < 4 by omega)
  have f2 := kb_f hk (show 3 < 4 by omega)
  have f3 := kb_f k4 (show 2 < 5 by omega)
  have f4 := kb_f k4 (show 3 < 5 by omega)
  have f5 := kb_f k5 (show 2 < 6 by omega)
  have f6 := kb_f k5 (show 3 < 6 by omega)
  obtain ⟨g, rfl⟩ : ∃ g, f = g + 150 := ⟨f - 150, by omega⟩
  have hr2 : ¬ (400 : Int32) ≤ nI r := by
    rw [show (400 : Int32) = nI 400 by decide +kernel]
    exact nI_ge hr (by decide)
  have er : nI r + 1 = nI (r + 1) := nI_1 r
  have hk2 : M 36 23 = nI (k + 1) := by assumption
  have t1 : 0 ≤ nI t := nI_pos' (by omega)
  have t0 : ¬ nI (k + 1) = 0 := nI_ne0 (by omega) (by omega)
  have ep : nI (k + 1) - 1 = nI k := nI_pred k
  have g1 : ¬ nI k < 0 := nI_pos (by omega)
  have g2 : (nI k).toNatClampNeg = k := nI_clamp (by omega)
  have g3 : ¬ 32 ≤ k := by omega
  have a1 : ¬ nI a = -2 := by
    intro z
    have z1 := nI_pos' (n := a) (by omega)
    rw [z] at z1
    exact absurd z1 (by decide)
  have a2 : ¬ nI a = -1 := nI_nm (by omega)
  have se := s_101 scr L (F + 12800) (d + 1) I J M n p 41 h
  have sz := n_95 scr L (F + 1000) (d + 2) I J (adM M (p + 1)) 3 (nI a) (nI t) c ((adM_36 M (p + 1) 2 (by omega)).trans hc) hc3 hc2
  rw [hz] at sz
  rw [s_104_9]
  simp [s_104_0, s_104_1, s_104_2, s_104_5, s_104_6, s_104_7, s_104_8, s_104_10, s_104_13, s_104_16, s_104_17, s_104_20, s_104_21, s_104_22, s_104_25, s_104_27, s_104_29, s_104_31, s_104_34, s_104_36, s_104_38, s_104_41, s_104_43, s_104_45, s_104_48, s_104_49, s_104_52, s_104_53, s_104_55, s_104_56, s_104_57, s_104_60, s_104_61, s_104_63, s_104_66, s_104_68, s_104_71, s_104_73, s_104_75, s_104_78, s_104_80, s_104_82, s_104_85, s_104_86, s_104_87, s_104_88, s_104_89, s_104_92, s_104_93, s_104_94, s_104_97, s_104_99, s_104_101, s_104_104, s_104_105, s_104_108, s_104_110, s_104_112, s_104_115, s_104_116, s_104_119, s_104_121, s_104_123, s_104_126, s_104_127, s_104_130, s_104_131, s_104_132, s_104_134, s_104_137, s_104_138, s_104_141, s_104_142, s_104_145, s_104_147, s_104_149, s_104_152, s_104_154, s_104_157, s_104_158, s_104_159, s_104_160, s_104_161, s_104_164, s_104_165, s_104_166, s_104_169, s_104_172, s_104_173, s_104_176, s_104_179, s_104_180, s_104_181, s_104_182, s_104_185, s_104_186, s_104_189, s_104_190, s_104_191, s_104_192, s_104_194, s_104_196, s_104_198, s_104_201, s_104_202, s_104_203, s_104_204, s_104_205, s_104_208, s_104_209, s_104_210, s_104_211, s_104_214, s_104_215, s_104_216, s_104_219, s_104_222, s_104_224, s_104_225, s_104_228, s_104_229, s_104_231, s_104_234, s_104_237, s_104_238, s_104_239, s_104_240, s_104_243, s_104_244, s_104_247, s_104_248, s_104_249, s_104_250, s_104_251, s_104_252, s_104_253, s_104_256, s_104_257, s_104_259, s_104_262, s_104_265, s_104_266, s_104_267, s_104_268, s_104_269, s_104_271, s_104_272, s_104_275, s_104_276, s_104_277, s_104_278, s_104_281, s_104_282, s_104_283, s_104_286, s_104_289, s_104_292, s_104_293, ha_36, hg_36_0, hq_36_0, hg_36_1, hg_36_2, hq_36_2, hg_36_3, hg_36_4, hg_36_5, hg_36_6, hq_36_6, hg_36_7, hq_36_7, hg_36_8, hq_36_8, hg_36_9, hg_36_10, hg_36_11, hg_36_12, hg_36_13, hg_36_14, hg_36_15, hg_36_16, hg_36_17, hg_36_18, hq_36_18, hg_36_19, hg_36_20, hq_36_20, hg_36_21, hq_36_21, hg_36_22, hg_36_23, hq_36_23, hg_36_24, hg_36_25, hq_36_25, hg_36_26, hq_36_26, hg_36_27, hq_36_27, hg_36_28, hq_36_28, hg_36_29, hg_36_30, hg_36_31, hq_36_31, hg_36_32, hg_36_33, hg_36_34, hg_36_35, hq_36_35, hg_36_36, hg_36_37, hg_36_38, hg_36_39, hg_36_40, hq_36_40, hg_36_41, hg_36_42, hg_36_43, hg_36_44, hq_36_44, hg_36_45, hg_36_46, hg_36_47, hg_36_48, hg_36_49, hq_36_49, hg_36_50, hg_36_51, hq_36_51, hg_36_52, hq_36_52, hg_36_53, hq_36_53, hg_36_54, hq_36_54, hg_36_55, hq_36_55, hg_36_56, hq_36_56, hg_36_57, hg_36_58, hq_36_58, hg_36_59, hq_36_59, hg_36_60, hq_36_60, hg_36_61, hl_37, hs_37, hl_38, hs_38, hl_39, hs_39, hl_40, hs_40, hl_41, hs_41, hl_42, hs_42, hl_43, hs_43, hl_44, hs_44, hl_45, hs_45, hl_46, hs_46, hl_47, hs_47, hl_48, hs_48, hl_49, hs_49, hl_50, hs_50, hl_51, hs_51, hl_52, hs_52, hl_53, hs_53, hl_54, hs_54, hl_55, hs_55, hl_56, hs_56, hl_57, hs_57, hl_58, hs_58, hl_59, hs_59, hl_60, hs_60, hl_61, hs_61, hl_62, hs_62, hl_63, hs_63, hl_64, hs_64, hl_65, hs_65, hl_66, hs_66, hl_67, hs_67, hl_68, hs_68, hl_69, hs_69, hl_70, hs_70, hl_71, hs_71, am_ld_cons, am_ld_nil, am_st1_cons, am_st1_nil, am_st2_cons, am_st2_nil, am_P1, am_P2, Value.category, am_add_add, am_add0, am_add_some, hr2, er, e4, e5, f1, f2, f3, f4, f5, f6, hk2, t1, t0, ep, g1, g2, g3, htop, a1, a2, se, hx, sz, hm]
  exact key _ _ (by omega) (kb_cons (by omega) (kb_le (by omega) k4))
set_option maxRecDepth 100000 in
set_option maxHeartbeats 4000000 in
theorem h104_fun_f (scr : Nat → Int32) (L F d D : Nat) (I : am_I) (J : am_J) (M : am_I) (n p N r k t c : Nat) (R : Option am_X) (h : rdM M n p) (hr : r < 400) (hk : M 36 23 = nI (k + 1)) (hk3 : k < 32) (ht : t < 105) (a : Nat) (ha : a < 105) (htop : M 52 k = nI a) (hx : ¬ tx (M 37) n p = 41) : h4 scr L F d D I J 150 (nI t) r M (some (some (.int (-1)), hp I J M, 0, 0)) := by
  intro f tl hf hk
  obtain ⟨tl1, e4, k4⟩ := kb_st hk
  obtain ⟨tl2, e5, k5⟩ := kb_st k4
  have f1 := kb_f hk (show 2 < 4 by omega)
  have f2 := kb_f hk (show 3 < 4 by omega)
  have f3 := kb_f k4 (show 2 < 5 by omega)
  have f4 := kb_f k4 (show 3 < 5 by omega)
  have f5 := kb_f k5 (show 2 < 6 by omega)
  have f6 := kb_f k5 (show 3 < 6 by omega)
  obtain ⟨g, rfl⟩ : ∃ g, f = g + 150 := ⟨f - 150, by omega⟩
  have hr2 : ¬ (400 : Int32) ≤ nI r := by
    rw [show (400 : Int32) = nI 400 by decide +kernel]
    exact nI_ge hr (by decide)
  have er : nI r + 1 = nI (r + 1) := nI_1 r
  have hk2 : M 36 23 = nI (k + 1) := by assumption
  have t1 : 0 ≤ nI t := nI_pos' (by omega)
  have t0 : ¬ nI (k + 1) = 0 := nI_ne0 (by omega) (by omega)
  have ep : nI (k + 1) - 1 = nI k := nI_pred k
  have g1 : ¬ nI k < 0 := nI_pos (by omega)
  have g2 : (nI k).toNatClampNeg = k := nI_clamp (by omega)
  have g3 : ¬ 32 ≤ k := by omega
  have a1 : ¬ nI a = -2 := by
    intro z
    have z1 := nI_pos' (n := a) (by omega)
    rw [z] at z1
    exact absurd z1 (by decide)
  have a2 : ¬ nI a = -1 := nI_nm (by omega)
  have se := s_101 scr L (F + 12800) (d + 1) I J M n p 41 h
  rw [s_104_9]
  simp [s_104_0, s_104_1, s_104_2, s_104_5, s_104_6, s_104_7, s_104_8, s_104_10, s_104_13, s_104_16, s_104_17, s_104_20, s_104_21, s_104_22, s_104_25, s_104_27, s_104_29, s_104_31, s_104_34, s_104_36, s_104_38, s_104_41, s_104_43, s_104_45, s_104_48, s_104_49, s_104_52, s_104_53, s_104_55, s_104_56, s_104_57, s_104_60, s_104_61, s_104_63, s_104_66, s_104_68, s_104_71, s_104_73, s_104_75, s_104_78, s_104_80, s_104_82, s_104_85, s_104_86, s_104_87, s_104_88, s_104_89, s_104_92, s_104_93, s_104_94, s_104_97, s_104_99, s_104_101, s_104_104, s_104_105, s_104_108, s_104_110, s_104_112, s_104_115, s_104_116, s_104_119, s_104_121, s_104_123, s_104_126, s_104_127, s_104_130, s_104_131, s_104_132, s_104_134, s_104_137, s_104_138, s_104_141, s_104_142, s_104_145, s_104_147, s_104_149, s_104_152, s_104_154, s_104_157, s_104_158, s_104_159, s_104_160, s_104_161, s_104_164, s_104_165, s_104_166, s_104_169, s_104_172, s_104_173, s_104_176, s_104_179, s_104_180, s_104_181, s_104_182, s_104_185, s_104_186, s_104_189, s_104_190, s_104_191, s_104_192, s_104_194, s_104_196, s_104_198, s_104_201, s_104_202, s_104_203, s_104_204, s_104_205, s_104_208, s_104_209, s_104_210, s_104_211, s_104_214, s_104_215, s_104_216, s_104_219, s_104_222, s_104_224, s_104_225, s_104_228, s_104_229, s_104_231, s_104_234, s_104_237, s_104_238, s_104_239, s_104_240, s_104_243, s_104_244, s_104_247, s_104_248, s_104_249, s_104_250, s_104_251, s_104_252, s_104_253, s_104_256, s_104_257, s_104_259, s_104_262, s_104_265, s_104_266, s_104_267, s_104_268, s_104_269, s_104_271, s_104_272, s_104_275, s_104_276, s_104_277, s_104_278, s_104_281, s_104_282, s_104_283, s_104_286, s_104_289, s_104_292, s_104_293, ha_36, hg_36_0, hq_36_0, hg_36_1, hg_36_2, hq_36_2, hg_36_3, hg_36_4, hg_36_5, hg_36_6, hq_36_6, hg_36_7, hq_36_7, hg_36_8, hq_36_8, hg_36_9, hg_36_10, hg_36_11, hg_36_12, hg_36_13, hg_36_14, hg_36_15, hg_36_16, hg_36_17, hg_36_18, hq_36_18, hg_36_19, hg_36_20, hq_36_20, hg_36_21, hq_36_21, hg_36_22, hg_36_23, hq_36_23, hg_36_24, hg_36_25, hq_36_25, hg_36_26, hq_36_26, hg_36_27, hq_36_27, hg_36_28, hq_36_28, hg_36_29, hg_36_30, hg_36_31, hq_36_31, hg_36_32, hg_36_33, hg_36_34, hg_36_35, hq_36_35, hg_36_36, hg_36_37, hg_36_38, hg_36_39, hg_36_40, hq_36_40, hg_36_41, hg_36_42, hg_36_43, hg_36_44, hq_36_44, hg_36_45, hg_36_46, hg_36_47, hg_36_48, hg_36_49, hq_36_49, hg_36_50, hg_36_51, hq_36_51, hg_36_52, hq_36_52, hg_36_53, hq_36_53, hg_36_54, hq_36_54, hg_36_55, hq_36_55, hg_36_56, hq_36_56, hg_36_57, hg_36_58, hq_36_58, hg_36_59, hq_36_59, hg_36_60, hq_36_60, hg_36_61, hl_37, hs_37, hl_38, hs_38, hl_39, hs_39, hl_40, hs_40, hl_41, hs_41, hl_42, hs_42, hl_43, hs_43, hl_44, hs_44, hl_45, hs_45, hl_46, hs_46, hl_47, hs_47, hl_48, hs_48, hl_49, hs_49, hl_50, hs_50, hl_51, hs_51, hl_52, hs_52, hl_53, hs_53, hl_54, hs_54, hl_55, hs_55, hl_56, hs_56, hl_57, hs_57, hl_58, hs_58, hl_59, hs_59, hl_60, hs_60, hl_61, hs_61, hl_62, hs_62, hl_63, hs_63, hl_64, hs_64, hl_65, hs_65, hl_66, hs_66, hl_67, hs_67, hl_68, hs_68, hl_69, hs_69, hl_70, hs_70, hl_71, hs_71, am_ld_cons, am_ld_nil, am_st1_cons, am_st1_nil, am_st2_cons, am_st2_nil, am_P1, am_P2, Value.category, am_add_add, am_add0, am_add_some, hr2, er, e4, e5, f1, f2, f3, f4, f5, f6, hk2, t1, t0, ep, g1, g2, g3, htop, a1, a2, se, hx]
  try trivial
set_option maxRecDepth 100000 in
set_option maxHeartbeats 4000000 in
theorem h104_end (scr : Nat → Int32) (L F d D : Nat) (I : am_I) (J : am_J) (M : am_I) (r t : Nat) (hr : r < 400) (hk : M 36 23 = 0) (ht : t < 105) : h4 scr L F d D I J 150 (nI t) r M (some (some (.int (nI t)), hp I J M, 0, 0)) := by
  intro f tl hf hk
  obtain ⟨tl1, e4, k4⟩ := kb_st hk
  obtain ⟨tl2, e5, k5⟩ := kb_st k4
  have f1 := kb_f hk (show 2 < 4 by omega)
  have f2 := kb_f hk (show 3 < 4 by omega)
  have f3 := kb_f k4 (show 2 < 5 by omega)
  have f4 := kb_f k4 (show 3 < 5 by omega)
  have f5 := kb_f k5 (show 2 < 6 by omega)
  have f6 := kb_f k5 (show 3 < 6 by omega)
  obtain ⟨g, rfl⟩ : ∃ g, f = g + 150 := ⟨f - 150, by omega⟩
  have hr2 : ¬ (400 : Int32) ≤ nI r := by
    rw [show (400 : Int32) = nI 400 by decide +kernel]
    exact nI_ge hr (by decide)
  have er : nI r + 1 = nI (r + 1) := nI_1 r
  have hk2 : M 36 23 = 0 := by assumption
  have t1 : 0 ≤ nI t := nI_pos' (by omega)
  rw [s_104_9]
  simp [s_104_0, s_104_1, s_104_2, s_104_5, s_104_6, s_104_7, s_104_8, s_104_10, s_104_13, s_104_16, s_104_17, s_104_20, s_104_21, s_104_22, s_104_25, s_104_27, s_104_29, s_104_31, s_104_34, s_104_36, s_104_38, s_104_41, s_104_43, s_104_45, s_104_48, s_104_49, s_104_52, s_104_53, s_104_55, s_104_56, s_104_57, s_104_60, s_104_61, s_104_63, s_104_66, s_104_68, s_104_71, s_104_73, s_104_75, s_104_78, s_104_80, s_104_82, s_104_85, s_104_86, s_104_87, s_104_88, s_104_89, s_104_92, s_104_93, s_104_94, s_104_97, s_104_99, s_104_101, s_104_104, s_104_105, s_104_108, s_104_110, s_104_112, s_104_115, s_104_116, s_104_119, s_104_121, s_104_123, s_104_126, s_104_127, s_104_130, s_104_131, s_104_132, s_104_134, s_104_137, s_104_138, s_104_141, s_104_142, s_104_145, s_104_147, s_104_149, s_104_152, s_104_154, s_104_157, s_104_158, s_104_159, s_104_160, s_104_161, s_104_164, s_104_165, s_104_166, s_104_169, s_104_172, s_104_173, s_104_176, s_104_179, s_104_180, s_104_181, s_104_182, s_104_185, s_104_186, s_104_189, s_104_190, s_104_191, s_104_192, s_104_194, s_104_196, s_104_198, s_104_201, s_104_202, s_104_203, s_104_204, s_104_205, s_104_208, s_104_209, s_104_210, s_104_211, s_104_214, s_104_215, s_104_216, s_104_219, s_104_222, s_104_224, s_104_225, s_104_228, s_104_229, s_104_231, s_104_234, s_104_237, s_104_238, s_104_239, s_104_240, s_104_243, s_104_244, s_104_247, s_104_248, s_104_249, s_104_250, s_104_251, s_104_252, s_104_253, s_104_256, s_104_257, s_104_259, s_104_262, s_104_265, s_104_266, s_104_267, s_104_268, s_104_269, s_104_271, s_104_272, s_104_275, s_104_276, s_104_277, s_104_278, s_104_281, s_104_282, s_104_283, s_104_286, s_104_289, s_104_292, s_104_293, ha_36, hg_36_0, hq_36_0, hg_36_1, hg_36_2, hq_36_2, hg_36_3, hg_36_4, hg_36_5, hg_36_6, hq_36_6, hg_36_7, hq_36_7, hg_36_8, hq_36_8, hg_36_9, hg_36_10, hg_36_11, hg_36_12, hg_36_13, hg_36_14, hg_36_15, hg_36_16, hg_36_17, hg_36_18, hq_36_18, hg_36_19, hg_36_20, hq_36_20, hg_36_21, hq_36_21, hg_36_22, hg_36_23, hq_36_23, hg_36_24, hg_36_25, hq_36_25, hg_36_26, hq_36_26, hg_36_27, hq_36_27, hg_36_28, hq_36_28, hg_36_29, hg_36_30, hg_36_31, hq_36_31, hg_36_32, hg_36_33, hg_36_34, hg_36_35, hq_36_35, hg_36_36, hg_36_37, hg_36_38, hg_36_39, hg_36_40, hq_36_40, hg_36_41, hg_36_42, hg_36_43, hg_36_44, hq_36_44, hg_36_45, hg_36_46, hg_36_47, hg_36_48, hg_36_49, hq_36_49, hg_36_50, hg_36_51, hq_36_51, hg_36_52, hq_36_52, hg_36_53, hq_36_53, hg_36_54, hq_36_54, hg_36_55, hq_36_55, hg_36_56, hq_36_56, hg_36_57, hg_36_58, hq_36_58, hg_36_59, hq_36_59, hg_36_60, hq_36_60, hg_36_61, hl_37, hs_37, hl_38, hs_38, hl_39, hs_39, hl_40, hs_40, hl_41, hs_41, hl_42, hs_42, hl_43, hs_43, hl_44, hs_44, hl_45, hs_45, hl_46, hs_46, hl_47, hs_47, hl_48, hs_48, hl_49, hs_49, hl_50, hs_50, hl_51, hs_51, hl_52, hs_52, hl_53, hs_53, hl_54, hs_54, hl_55, hs_55, hl_56, hs_56, hl_57, hs_57, hl_58, hs_58, hl_59, hs_59, hl_60, hs_60, hl_61, hs_61, hl_62, hs_62, hl_63, hs_63, hl_64, hs_64, hl_65, hs_65, hl_66, hs_66, hl_67, hs_67, hl_68, hs_68, hl_69, hs_69, hl_70, hs_70, hl_71, hs_71, am_ld_cons, am_ld_nil, am_st1_cons, am_st1_nil, am_st2_cons, am_st2_nil, am_P1, am_P2, Value.category, am_add_add, am_add0, am_add_some, hr2, er, e4, e5, f1, f2, f3, f4, f5, f6, hk2, t1]
  try trivial
set_option maxRecDepth 100000 in
set_option maxHeartbeats 4000000 in
theorem h104_go (scr : Nat → Int32) (L F d : Nat) (I : Nat → Nat → Int32) (J : Nat → Nat → Int64) (M : Nat → Nat → Int32) (D N : Nat) (R : Option am_X) (key : h4 scr L F d D I J N (-1) 0 (va_up M 36 (upd (M 36) 23 0)) R) (hN : N ≤ 12900 + F) : am_r scr L (F + 13000) (d + 4) 104 [.ref 37, .int (nI D)] (hp I J M) = R := by
  simp [r_104, s_104_0, s_104_1, s_104_2, s_104_5, s_104_6, s_104_7, s_104_8, s_104_10, s_104_13, s_104_16, s_104_17, s_104_20, s_104_21, s_104_22, s_104_25, s_104_27, s_104_29, s_104_31, s_104_34, s_104_36, s_104_38, s_104_41, s_104_43, s_104_45, s_104_48, s_104_49, s_104_52, s_104_53, s_104_55, s_104_56, s_104_57, s_104_60, s_104_61, s_104_63, s_104_66, s_104_68, s_104_71, s_104_73, s_104_75, s_104_78, s_104_80, s_104_82, s_104_85, s_104_86, s_104_87, s_104_88, s_104_89, s_104_92, s_104_93, s_104_94, s_104_97, s_104_99, s_104_101, s_104_104, s_104_105, s_104_108, s_104_110, s_104_112, s_104_115, s_104_116, s_104_119, s_104_121, s_104_123, s_104_126, s_104_127, s_104_130, s_104_131, s_104_132, s_104_134, s_104_137, s_104_138, s_104_141, s_104_142, s_104_145, s_104_147, s_104_149, s_104_152, s_104_154, s_104_157, s_104_158, s_104_159, s_104_160, s_104_161, s_104_164, s_104_165, s_104_166, s_104_169, s_104_172, s_104_173, s_104_176, s_104_179, s_104_180, s_104_181, s_104_182, s_104_185, s_104_186, s_104_189, s_104_190, s_104_191, s_104_192, s_104_194, s_104_196, s_104_198, s_104_201, s_104_202, s_104_203, s_104_204, s_104_205, s_104_208, s_104_209, s_104_210, s_104_211, s_104_214, s_104_215, s_104_216, s_104_219, s_104_222, s_104_224, s_104_225, s_104_228, s_104_229, s_104_231, s_104_234, s_104_237, s_104_238, s_104_239, s_104_240, s_104_243, s_104_244, s_104_247, s_104_248, s_104_249, s_104_250, s_104_251, s_104_252, s_104_253, s_104_256, s_104_257, s_104_259, s_104_262, s_104_265, s_104_266, s_104_267, s_104_268, s_104_269, s_104_271, s_104_272, s_104_275, s_104_276, s_104_277, s_104_278, s_104_281, s_104_282, s_104_283, s_104_286, s_104_289, s_104_292, s_104_293, ha_36, hg_36_0, hq_36_0, hg_36_1, hg_36_2, hq_36_2, hg_36_3, hg_36_4, hg_36_5, hg_36_6, hq_36_6, hg_36_7, hq_36_7, hg_36_8, hq_36_8, hg_36_9, hg_36_10, hg_36_11, hg_36_12, hg_36_13, hg_36_14, hg_36_15, hg_36_16, hg_36_17, hg_36_18, hq_36_18, hg_36_19, hg_36_20, hq_36_20, hg_36_21, hq_36_21, hg_36_22, hg_36_23, hq_36_23, hg_36_24, hg_36_25, hq_36_25, hg_36_26, hq_36_26, hg_36_27, hq_36_27, hg_36_28, hq_36_28, hg_36_29, hg_36_30, hg_36_31, hq_36_31, hg_36_32, hg_36_33, hg_36_34, hg_36_35, hq_36_35, hg_36_36, hg_36_37, hg_36_38, hg_36_39, hg_36_40, hq_36_40, hg_36_41, hg_36_42, hg_36_43, hg_36_44, hq_36_44, hg_36_45, hg_36_46, hg_36_47, hg_36_48, hg_36_49, hq_36_49, hg_36_50, hg_36_51, hq_36_51, hg_36_52, hq_36_52, hg_36_53, hq_36_53, hg_36_54, hq_36_54, hg_36_55, hq_36_55, hg_36_56, hq_36_56, hg_36_57, hg_36_58, hq_36_58, hg_36_59, hq_36_59, hg_36_60, hq_36_60, hg_36_61, hl_37, hs_37, hl_38, hs_38, hl_39, hs_39, hl_40, hs_40, hl_41, hs_41, hl_42, hs_42, hl_43, hs_43, hl_44, hs_44, hl_45, hs_45, hl_46, hs_46, hl_47, hs_47, hl_48, hs_48, hl_49, hs_49, hl_50, hs_50, hl_51, hs_51, hl_52, hs_52, hl_53, hs_53, hl_54, hs_54, hl_55, hs_55, hl_56, hs_56, hl_57, hs_57, hl_58, hs_58, hl_59, hs_59, hl_60, hs_60, hl_61, hs_61, hl_62, hs_62, hl_63, hs_63, hl_64, hs_64, hl_65, hs_65, hl_66, hs_66, hl_67, hs_67, hl_68, hs_68, hl_69, hs_69, hl_70, hs_70, hl_71, hs_71, am_ld_cons, am_ld_nil, am_st1_cons, am_st1_nil, am_st2_cons, am_st2_nil, am_P1, am_P2, Value.category, am_add_add, am_add0, am_add_some]
  have k1 := key
  unfold h4 at k1
  rw [nI_0] at k1
  exact k1 _ _ (by omega) (kb_nil 4)
