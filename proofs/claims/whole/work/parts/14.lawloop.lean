/-! The law's loop, a turn for each call. -/
theorem am_ild0 (scr : Nat → Int32) (L : Nat) (h : am_H) (i : Int32) : am_ild scr L h 0 i = if i < 0 ∨ L ≤ i.toNatClampNeg then none else some (scr i.toNatClampNeg) := rfl
def lv0 (p : Nat) : am_L := [(0, .ref 0), (1, .ref 1), (2, .ref 37), (3, .int (nI p))]
def wd (a b : Int32) : Int64 := a.toInt64 <<< (32 &&& 63) ||| b.toInt64 &&& 4294967295
theorem lw_cmp {L p : Nat} (h : p + 3 ≤ L) (hL : L ≤ 1536) : ¬ (Int32.ofNat L - 3 < nI p) := by
  have e : Int32.ofNat L - 3 = nI (L - 3) := pk_sub (a := L) (b := 3) (by omega)
  rw [e, nI_ltI (by omega) (by omega)]
  omega
theorem lw_out {L p : Nat} (h : L < p + 3) (hL : L ≤ 1536) (hp : p ≤ 1536) : Int32.ofNat L - 3 < nI p := by
  by_cases h3 : 3 ≤ L
  · have e : Int32.ofNat L - 3 = nI (L - 3) := pk_sub (a := L) (b := 3) h3
    rw [e, nI_ltI (by omega) (by omega)]
    omega
  · have h4 : Int32.ofNat L - 3 < 0 := by
      have : L = 0 ∨ L = 1 ∨ L = 2 := by omega
      rcases this with rfl | rfl | rfl <;> decide
    have h5 : 0 ≤ nI p := nI_pos' (by omega)
    rw [Int32.lt_iff_toInt_lt] at h4 ⊢
    rw [Int32.le_iff_toInt_le] at h5
    omega
set_option maxRecDepth 100000 in
set_option maxHeartbeats 4000000 in
theorem lw_0 (scr : Nat → Int32) (L F d p : Nat) (hL : L ≤ 1536) (hq : p + 3 ≤ L) (ho : scr p &&& 15 = 0) (I I1 : Nat → Nat → Int32) (J J1 : Nat → Nat → Int64) (M M1 : Nat → Nat → Int32) (v : Int32) (hA : am_r scr L F d 2 [.ref 1, .long (wd (scr (p + 1)) (scr (p + 2)))] (hp I J M) = some (some (.int v), hp I1 J1 M, 0, 0)) (hB : am_r scr L F d 94 [.ref 37, .long (wd (scr (p + 1)) (scr (p + 2)))] (hp I1 J1 M) = some (some (.int v), hp I1 J1 M1, 0, 0)) (f : Nat) (r : Option am_X) (K : ∀ f', f ≤ f' → am_f d scr L (am_r scr L F d) 0 f' 18 (lv0 (p + 3)) [] (hp I1 J1 M1) = r) : am_f d scr L (am_r scr L F d) 0 (f + 70) 18 (lv0 p) [] (hp I J M) = r := by
  have g0 : ¬ nI p < 0 := nI_pos (by omega)
  have g1 : (nI p).toNatClampNeg = p := nI_clamp (by omega)
  have g2 : ¬ L ≤ p := by omega
  have g3 : ¬ nI (p + 1) < 0 := nI_pos (by omega)
  have g4 : (nI (p + 1)).toNatClampNeg = p + 1 := nI_clamp (by omega)
  have g5 : ¬ L ≤ p + 1 := by omega
  have g6 : ¬ nI (p + 2) < 0 := nI_pos (by omega)
  have g7 : (nI (p + 2)).toNatClampNeg = p + 2 := nI_clamp (by omega)
  have g8 : ¬ L ≤ p + 2 := by omega
  have e1 : nI p + 1 = nI (p + 1) := nI_1 p
  have e2 : nI p + 2 = nI (p + 2) := nI_add p 2
  have e3 : nI p + 3 = nI (p + 3) := nI_add p 3
  have hcmp := lw_cmp hq hL
  unfold lv0
  unfold wd at hA hB
  rw [s_0_18]
  simp [s_0_19, s_0_20, s_0_21, s_0_22, s_0_23, s_0_26, s_0_27, s_0_28, s_0_29, s_0_31, s_0_32, s_0_88, s_0_89, s_0_90, s_0_91, s_0_92, s_0_93, s_0_94, s_0_95, s_0_97, s_0_98, s_0_99, s_0_100, s_0_101, s_0_102, s_0_103, s_0_104, s_0_107, s_0_108, s_0_109, s_0_112, s_0_113, s_0_114, s_0_115, s_0_116, s_0_117, s_0_118, s_0_119, s_0_121, s_0_122, s_0_123, s_0_124, s_0_125, s_0_126, s_0_127, s_0_128, s_0_131, s_0_132, s_0_133, s_0_136, s_0_139, s_0_140, s_0_141, s_0_142, s_0_145, s_0_146, s_0_149, s_0_152, s_0_153, s_0_154, s_0_155, s_0_158, s_0_159, s_0_162, s_0_165, s_0_166, s_0_167, s_0_168, s_0_169, s_0_170, s_0_171, s_0_172, s_0_173, s_0_176, s_0_177, s_0_178, s_0_179, s_0_180, s_0_181, s_0_182, s_0_185, s_0_188, s_0_189, s_0_190, s_0_191, s_0_192, s_0_193, s_0_194, s_0_195, s_0_196, s_0_199, s_0_200, s_0_201, s_0_202, s_0_203, s_0_204, s_0_205, s_0_208, s_0_211, s_0_212, s_0_213, s_0_214, s_0_215, s_0_216, s_0_217, s_0_218, s_0_219, s_0_222, s_0_223, s_0_224, s_0_225, s_0_226, s_0_227, s_0_228, s_0_231, s_0_234, s_0_235, s_0_236, s_0_237, s_0_240, s_0_241, s_0_244, s_0_247, s_0_248, s_0_249, s_0_250, s_0_251, s_0_252, s_0_253, s_0_254, s_0_255, s_0_258, s_0_259, s_0_260, s_0_261, s_0_262, s_0_263, s_0_264, s_0_267, s_0_270, s_0_271, s_0_272, s_0_273, s_0_276, s_0_277, s_0_280, s_0_283, s_0_284, s_0_285, s_0_286, s_0_289, s_0_290, s_0_293, s_0_296, s_0_297, s_0_298, s_0_301, s_0_304, s_0_305, ha_0, ha_36, am_ild0, am_ld_cons, am_ld_nil, am_st1_cons, am_st1_nil, am_st2_cons, am_st2_nil, am_P1, am_P2, Value.category, am_add_add, am_add0, am_add_some, g0, g1, g2, g3, g4, g5, g6, g7, g8, e1, e2, e3, hcmp, ho, hA, hB]
  exact K _ (by omega)
set_option maxRecDepth 100000 in
set_option maxHeartbeats 4000000 in
theorem lw_1 (scr : Nat → Int32) (L F d p : Nat) (hL : L ≤ 1536) (hq : p + 3 ≤ L) (ho : scr p &&& 15 = 1) (I I1 : Nat → Nat → Int32) (J J1 : Nat → Nat → Int64) (M M1 : Nat → Nat → Int32) (v : Int32) (hA : am_r scr L F d 3 [.ref 1] (hp I J M) = some (some (.int v), hp I1 J1 M, 0, 0)) (hB : am_r scr L F d 111 [.ref 37] (hp I1 J1 M) = some (some (.int v), hp I1 J1 M1, 0, 0)) (f : Nat) (r : Option am_X) (K : ∀ f', f ≤ f' → am_f d scr L (am_r scr L F d) 0 f' 18 (lv0 (p + 3)) [] (hp I1 J1 M1) = r) : am_f d scr L (am_r scr L F d) 0 (f + 70) 18 (lv0 p) [] (hp I J M) = r := by
  have g0 : ¬ nI p < 0 := nI_pos (by omega)
  have g1 : (nI p).toNatClampNeg = p := nI_clamp (by omega)
  have g2 : ¬ L ≤ p := by omega
  have g3 : ¬ nI (p + 1) < 0 := nI_pos (by omega)
  have g4 : (nI (p + 1)).toNatClampNeg = p + 1 := nI_clamp (by omega)
  have g5 : ¬ L ≤ p + 1 := by omega
  have g6 : ¬ nI (p + 2) < 0 := nI_pos (by omega)
  have g7 : (nI (p + 2)).toNatClampNeg = p + 2 := nI_clamp (by omega)
  have g8 : ¬ L ≤ p + 2 := by omega
  have e1 : nI p + 1 = nI (p + 1) := nI_1 p
  have e2 : nI p + 2 = nI (p + 2) := nI_add p 2
  have e3 : nI p + 3 = nI (p + 3) := nI_add p 3
  have hcmp := lw_cmp hq hL
  unfold lv0
  skip
  rw [s_0_18]
  simp [s_0_19, s_0_20, s_0_21, s_0_22, s_0_23, s_0_26, s_0_27, s_0_28, s_0_29, s_0_31, s_0_32, s_0_88, s_0_89, s_0_90, s_0_91, s_0_92, s_0_93, s_0_94, s_0_95, s_0_97, s_0_98, s_0_99, s_0_100, s_0_101, s_0_102, s_0_103, s_0_104, s_0_107, s_0_108, s_0_109, s_0_112, s_0_113, s_0_114, s_0_115, s_0_116, s_0_117, s_0_118, s_0_119, s_0_121, s_0_122, s_0_123, s_0_124, s_0_125, s_0_126, s_0_127, s_0_128, s_0_131, s_0_132, s_0_133, s_0_136, s_0_139, s_0_140, s_0_141, s_0_142, s_0_145, s_0_146, s_0_149, s_0_152, s_0_153, s_0_154, s_0_155, s_0_158, s_0_159, s_0_162, s_0_165, s_0_166, s_0_167, s_0_168, s_0_169, s_0_170, s_0_171, s_0_172, s_0_173, s_0_176, s_0_177, s_0_178, s_0_179, s_0_180, s_0_181, s_0_182, s_0_185, s_0_188, s_0_189, s_0_190, s_0_191, s_0_192, s_0_193, s_0_194, s_0_195, s_0_196, s_0_199, s_0_200, s_0_201, s_0_202, s_0_203, s_0_204, s_0_205, s_0_208, s_0_211, s_0_212, s_0_213, s_0_214, s_0_215, s_0_216, s_0_217, s_0_218, s_0_219, s_0_222, s_0_223, s_0_224, s_0_225, s_0_226, s_0_227, s_0_228, s_0_231, s_0_234, s_0_235, s_0_236, s_0_237, s_0_240, s_0_241, s_0_244, s_0_247, s_0_248, s_0_249, s_0_250, s_0_251, s_0_252, s_0_253, s_0_254, s_0_255, s_0_258, s_0_259, s_0_260, s_0_261, s_0_262, s_0_263, s_0_264, s_0_267, s_0_270, s_0_271, s_0_272, s_0_273, s_0_276, s_0_277, s_0_280, s_0_283, s_0_284, s_0_285, s_0_286, s_0_289, s_0_290, s_0_293, s_0_296, s_0_297, s_0_298, s_0_301, s_0_304, s_0_305, ha_0, ha_36, am_ild0, am_ld_cons, am_ld_nil, am_st1_cons, am_st1_nil, am_st2_cons, am_st2_nil, am_P1, am_P2, Value.category, am_add_add, am_add0, am_add_some, g0, g1, g2, g3, g4, g5, g6, g7, g8, e1, e2, e3, hcmp, ho, hA, hB]
  exact K _ (by omega)
set_option maxRecDepth 100000 in
set_option maxHeartbeats 4000000 in
theorem lw_2 (scr : Nat → Int32) (L F d p : Nat) (hL : L ≤ 1536) (hq : p + 3 ≤ L) (ho : scr p &&& 15 = 2) (I I1 : Nat → Nat → Int32) (J J1 : Nat → Nat → Int64) (M M1 : Nat → Nat → Int32) (v : Int32) (hA : am_r scr L F d 4 [.ref 1] (hp I J M) = some (some (.int v), hp I1 J1 M, 0, 0)) (hB : am_r scr L F d 132 [.ref 37] (hp I1 J1 M) = some (some (.int v), hp I1 J1 M1, 0, 0)) (f : Nat) (r : Option am_X) (K : ∀ f', f ≤ f' → am_f d scr L (am_r scr L F d) 0 f' 18 (lv0 (p + 3)) [] (hp I1 J1 M1) = r) : am_f d scr L (am_r scr L F d) 0 (f + 70) 18 (lv0 p) [] (hp I J M) = r := by
  have g0 : ¬ nI p < 0 := nI_pos (by omega)
  have g1 : (nI p).toNatClampNeg = p := nI_clamp (by omega)
  have g2 : ¬ L ≤ p := by omega
  have g3 : ¬ nI (p + 1) < 0 := nI_pos (by omega)
  have g4 : (nI (p + 1)).toNatClampNeg = p + 1 := nI_clamp (by omega)
  have g5 : ¬ L ≤ p + 1 := by omega
  have g6 : ¬ nI (p + 2) < 0 := nI_pos (by omega)
  have g7 : (nI (p + 2)).toNatClampNeg = p + 2 := nI_clamp (by omega)
  have g8 : ¬ L ≤ p + 2 := by omega
  have e1 : nI p + 1 = nI (p + 1) := nI_1 p
  have e2 : nI p + 2 = nI (p + 2) := nI_add p 2
  have e3 : nI p + 3 = nI (p + 3) := nI_add p 3
  have hcmp := lw_cmp hq hL
  unfold lv0
  skip
  rw [s_0_18]
  simp [s_0_19, s_0_20, s_0_21, s_0_22, s_0_23, s_0_26, s_0_27, s_0_28, s_0_29, s_0_31, s_0_32, s_0_88, s_0_89, s_0_90, s_0_91, s_0_92, s_0_93, s_0_94, s_0_95, s_0_97, s_0_98, s_0_99, s_0_100, s_0_101, s_0_102, s_0_103, s_0_104, s_0_107, s_0_108, s_0_109, s_0_112, s_0_113, s_0_114, s_0_115, s_0_116, s_0_117, s_0_118, s_0_119, s_0_121, s_0_122, s_0_123, s_0_124, s_0_125, s_0_126, s_0_127, s_0_128, s_0_131, s_0_132, s_0_133, s_0_136, s_0_139, s_0_140, s_0_141, s_0_142, s_0_145, s_0_146, s_0_149, s_0_152, s_0_153, s_0_154, s_0_155, s_0_158, s_0_159, s_0_162, s_0_165, s_0_166, s_0_167, s_0_168, s_0_169, s_0_170, s_0_171, s_0_172, s_0_173, s_0_176, s_0_177, s_0_178, s_0_179, s_0_180, s_0_181, s_0_182, s_0_185, s_0_188, s_0_189, s_0_190, s_0_191, s_0_192, s_0_193, s_0_194, s_0_195, s_0_196, s_0_199, s_0_200, s_0_201, s_0_202, s_0_203, s_0_204, s_0_205, s_0_208, s_0_211, s_0_212, s_0_213, s_0_214, s_0_215, s_0_216, s_0_217, s_0_218, s_0_219, s_0_222, s_0_223, s_0_224, s_0_225, s_0_226, s_0_227, s_0_228, s_0_231, s_0_234, s_0_235, s_0_236, s_0_237, s_0_240, s_0_241, s_0_244, s_0_247, s_0_248, s_0_249, s_0_250, s_0_251, s_0_252, s_0_253, s_0_254, s_0_255, s_0_258, s_0_259, s_0_260, s_0_261, s_0_262, s_0_263, s_0_264, s_0_267, s_0_270, s_0_271, s_0_272, s_0_273, s_0_276, s_0_277, s_0_280, s_0_283, s_0_284, s_0_285, s_0_286, s_0_289, s_0_290, s_0_293, s_0_296, s_0_297, s_0_298, s_0_301, s_0_304, s_0_305, ha_0, ha_36, am_ild0, am_ld_cons, am_ld_nil, am_st1_cons, am_st1_nil, am_st2_cons, am_st2_nil, am_P1, am_P2, Value.category, am_add_add, am_add0, am_add_some, g0, g1, g2, g3, g4, g5, g6, g7, g8, e1, e2, e3, hcmp, ho, hA, hB]
  exact K _ (by omega)
set_option maxRecDepth 100000 in
set_option maxHeartbeats 4000000 in
theorem lw_3 (scr : Nat → Int32) (L F d p : Nat) (hL : L ≤ 1536) (hq : p + 3 ≤ L) (ho : scr p &&& 15 = 3) (I I1 : Nat → Nat → Int32) (J J1 : Nat → Nat → Int64) (M M1 : Nat → Nat → Int32) (v : Int32) (hA : am_r scr L F d 5 [.ref 1, .int (scr (p + 1))] (hp I J M) = some (some (.int v), hp I1 J1 M, 0, 0)) (hB : am_r scr L F d 133 [.ref 37, .int (scr (p + 1))] (hp I1 J1 M) = some (some (.int v), hp I1 J1 M1, 0, 0)) (f : Nat) (r : Option am_X) (K : ∀ f', f ≤ f' → am_f d scr L (am_r scr L F d) 0 f' 18 (lv0 (p + 3)) [] (hp I1 J1 M1) = r) : am_f d scr L (am_r scr L F d) 0 (f + 70) 18 (lv0 p) [] (hp I J M) = r := by
  have g0 : ¬ nI p < 0 := nI_pos (by omega)
  have g1 : (nI p).toNatClampNeg = p := nI_clamp (by omega)
  have g2 : ¬ L ≤ p := by omega
  have g3 : ¬ nI (p + 1) < 0 := nI_pos (by omega)
  have g4 : (nI (p + 1)).toNatClampNeg = p + 1 := nI_clamp (by omega)
  have g5 : ¬ L ≤ p + 1 := by omega
  have g6 : ¬ nI (p + 2) < 0 := nI_pos (by omega)
  have g7 : (nI (p + 2)).toNatClampNeg = p + 2 := nI_clamp (by omega)
  have g8 : ¬ L ≤ p + 2 := by omega
  have e1 : nI p + 1 = nI (p + 1) := nI_1 p
  have e2 : nI p + 2 = nI (p + 2) := nI_add p 2
  have e3 : nI p + 3 = nI (p + 3) := nI_add p 3
  have hcmp := lw_cmp hq hL
  unfold lv0
  skip
  rw [s_0_18]
  simp [s_0_19, s_0_20, s_0_21, s_0_22, s_0_23, s_0_26, s_0_27, s_0_28, s_0_29, s_0_31, s_0_32, s_0_88, s_0_89, s_0_90, s_0_91, s_0_92, s_0_93, s_0_94, s_0_95, s_0_97, s_0_98, s_0_99, s_0_100, s_0_101, s_0_102, s_0_103, s_0_104, s_0_107, s_0_108, s_0_109, s_0_112, s_0_113, s_0_114, s_0_115, s_0_116, s_0_117, s_0_118, s_0_119, s_0_121, s_0_122, s_0_123, s_0_124, s_0_125, s_0_126, s_0_127, s_0_128, s_0_131, s_0_132, s_0_133, s_0_136, s_0_139, s_0_140, s_0_141, s_0_142, s_0_145, s_0_146, s_0_149, s_0_152, s_0_153, s_0_154, s_0_155, s_0_158, s_0_159, s_0_162, s_0_165, s_0_166, s_0_167, s_0_168, s_0_169, s_0_170, s_0_171, s_0_172, s_0_173, s_0_176, s_0_177, s_0_178, s_0_179, s_0_180, s_0_181, s_0_182, s_0_185, s_0_188, s_0_189, s_0_190, s_0_191, s_0_192, s_0_193, s_0_194, s_0_195, s_0_196, s_0_199, s_0_200, s_0_201, s_0_202, s_0_203, s_0_204, s_0_205, s_0_208, s_0_211, s_0_212, s_0_213, s_0_214, s_0_215, s_0_216, s_0_217, s_0_218, s_0_219, s_0_222, s_0_223, s_0_224, s_0_225, s_0_226, s_0_227, s_0_228, s_0_231, s_0_234, s_0_235, s_0_236, s_0_237, s_0_240, s_0_241, s_0_244, s_0_247, s_0_248, s_0_249, s_0_250, s_0_251, s_0_252, s_0_253, s_0_254, s_0_255, s_0_258, s_0_259, s_0_260, s_0_261, s_0_262, s_0_263, s_0_264, s_0_267, s_0_270, s_0_271, s_0_272, s_0_273, s_0_276, s_0_277, s_0_280, s_0_283, s_0_284, s_0_285, s_0_286, s_0_289, s_0_290, s_0_293, s_0_296, s_0_297, s_0_298, s_0_301, s_0_304, s_0_305, ha_0, ha_36, am_ild0, am_ld_cons, am_ld_nil, am_st1_cons, am_st1_nil, am_st2_cons, am_st2_nil, am_P1, am_P2, Value.category, am_add_add, am_add0, am_add_some, g0, g1, g2, g3, g4, g5, g6, g7, g8, e1, e2, e3, hcmp, ho, hA, hB]
  exact K _ (by omega)
set_option maxRecDepth 100000 in
set_option maxHeartbeats 4000000 in
theorem lw_4 (scr : Nat → Int32) (L F d p : Nat) (hL : L ≤ 1536) (hq : p + 3 ≤ L) (ho : scr p &&& 15 = 4) (I I1 : Nat → Nat → Int32) (J J1 : Nat → Nat → Int64) (M M1 : Nat → Nat → Int32) (v : Int32) (hA : am_r scr L F d 6 [.ref 1, .int (scr (p + 1))] (hp I J M) = some (some (.int v), hp I1 J1 M, 0, 0)) (hB : am_r scr L F d 131 [.ref 37, .int (scr (p + 1))] (hp I1 J1 M) = some (some (.int v), hp I1 J1 M1, 0, 0)) (f : Nat) (r : Option am_X) (K : ∀ f', f ≤ f' → am_f d scr L (am_r scr L F d) 0 f' 18 (lv0 (p + 3)) [] (hp I1 J1 M1) = r) : am_f d scr L (am_r scr L F d) 0 (f + 70) 18 (lv0 p) [] (hp I J M) = r := by
  have g0 : ¬ nI p < 0 := nI_pos (by omega)
  have g1 : (nI p).toNatClampNeg = p := nI_clamp (by omega)
  have g2 : ¬ L ≤ p := by omega
  have g3 : ¬ nI (p + 1) < 0 := nI_pos (by omega)
  have g4 : (nI (p + 1)).toNatClampNeg = p + 1 := nI_clamp (by omega)
  have g5 : ¬ L ≤ p + 1 := by omega
  have g6 : ¬ nI (p + 2) < 0 := nI_pos (by omega)
  have g7 : (nI (p + 2)).toNatClampNeg = p + 2 := nI_clamp (by omega)
  have g8 : ¬ L ≤ p + 2 := by omega
  have e1 : nI p + 1 = nI (p + 1) := nI_1 p
  have e2 : nI p + 2 = nI (p + 2) := nI_add p 2
  have e3 : nI p + 3 = nI (p + 3) := nI_add p 3
  have hcmp := lw_cmp hq hL
  unfold lv0
  skip
  rw [s_0_18]
  simp [s_0_19, s_0_20, s_0_21, s_0_22, s_0_23, s_0_26, s_0_27, s_0_28, s_0_29, s_0_31, s_0_32, s_0_88, s_0_89, s_0_90, s_0_91, s_0_92, s_0_93, s_0_94, s_0_95, s_0_97, s_0_98, s_0_99, s_0_100, s_0_101, s_0_102, s_0_103, s_0_104, s_0_107, s_0_108, s_0_109, s_0_112, s_0_113, s_0_114, s_0_115, s_0_116, s_0_117, s_0_118, s_0_119, s_0_121, s_0_122, s_0_123, s_0_124, s_0_125, s_0_126, s_0_127, s_0_128, s_0_131, s_0_132, s_0_133, s_0_136, s_0_139, s_0_140, s_0_141, s_0_142, s_0_145, s_0_146, s_0_149, s_0_152, s_0_153, s_0_154, s_0_155, s_0_158, s_0_159, s_0_162, s_0_165, s_0_166, s_0_167, s_0_168, s_0_169, s_0_170, s_0_171, s_0_172, s_0_173, s_0_176, s_0_177, s_0_178, s_0_179, s_0_180, s_0_181, s_0_182, s_0_185, s_0_188, s_0_189, s_0_190, s_0_191, s_0_192, s_0_193, s_0_194, s_0_195, s_0_196, s_0_199, s_0_200, s_0_201, s_0_202, s_0_203, s_0_204, s_0_205, s_0_208, s_0_211, s_0_212, s_0_213, s_0_214, s_0_215, s_0_216, s_0_217, s_0_218, s_0_219, s_0_222, s_0_223, s_0_224, s_0_225, s_0_226, s_0_227, s_0_228, s_0_231, s_0_234, s_0_235, s_0_236, s_0_237, s_0_240, s_0_241, s_0_244, s_0_247, s_0_248, s_0_249, s_0_250, s_0_251, s_0_252, s_0_253, s_0_254, s_0_255, s_0_258, s_0_259, s_0_260, s_0_261, s_0_262, s_0_263, s_0_264, s_0_267, s_0_270, s_0_271, s_0_272, s_0_273, s_0_276, s_0_277, s_0_280, s_0_283, s_0_284, s_0_285, s_0_286, s_0_289, s_0_290, s_0_293, s_0_296, s_0_297, s_0_298, s_0_301, s_0_304, s_0_305, ha_0, ha_36, am_ild0, am_ld_cons, am_ld_nil, am_st1_cons, am_st1_nil, am_st2_cons, am_st2_nil, am_P1, am_P2, Value.category, am_add_add, am_add0, am_add_some, g0, g1, g2, g3, g4, g5, g6, g7, g8, e1, e2, e3, hcmp, ho, hA, hB]
  exact K _ (by omega)
set_option maxRecDepth 100000 in
set_option maxHeartbeats 4000000 in
theorem lw_5 (scr : Nat → Int32) (L F d p : Nat) (hL : L ≤ 1536) (hq : p + 3 ≤ L) (ho : scr p &&& 15 = 5) (I I1 : Nat → Nat → Int32) (J J1 : Nat → Nat → Int64) (M M1 : Nat → Nat → Int32) (v : Int32) (hA : am_r scr L F d 7 [.ref 1, .int (scr (p + 1))] (hp I J M) = some (some (.int v), hp I1 J1 M, 0, 0)) (hB : am_r scr L F d 134 [.ref 37, .int (scr (p + 1))] (hp I1 J1 M) = some (some (.int v), hp I1 J1 M1, 0, 0)) (f : Nat) (r : Option am_X) (K : ∀ f', f ≤ f' → am_f d scr L (am_r scr L F d) 0 f' 18 (lv0 (p + 3)) [] (hp I1 J1 M1) = r) : am_f d scr L (am_r scr L F d) 0 (f + 70) 18 (lv0 p) [] (hp I J M) = r := by
  have g0 : ¬ nI p < 0 := nI_pos (by omega)
  have g1 : (nI p).toNatClampNeg = p := nI_clamp (by omega)
  have g2 : ¬ L ≤ p := by omega
  have g3 : ¬ nI (p + 1) < 0 := nI_pos (by omega)
  have g4 : (nI (p + 1)).toNatClampNeg = p + 1 := nI_clamp (by omega)
  have g5 : ¬ L ≤ p + 1 := by omega
  have g6 : ¬ nI (p + 2) < 0 := nI_pos (by omega)
  have g7 : (nI (p + 2)).toNatClampNeg = p + 2 := nI_clamp (by omega)
  have g8 : ¬ L ≤ p + 2 := by omega
  have e1 : nI p + 1 = nI (p + 1) := nI_1 p
  have e2 : nI p + 2 = nI (p + 2) := nI_add p 2
  have e3 : nI p + 3 = nI (p + 3) := nI_add p 3
  have hcmp := lw_cmp hq hL
  unfold lv0
  skip
  rw [s_0_18]
  simp [s_0_19, s_0_20, s_0_21, s_0_22, s_0_23, s_0_26, s_0_27, s_0_28, s_0_29, s_0_31, s_0_32, s_0_88, s_0_89, s_0_90, s_0_91, s_0_92, s_0_93, s_0_94, s_0_95, s_0_97, s_0_98, s_0_99, s_0_100, s_0_101, s_0_102, s_0_103, s_0_104, s_0_107, s_0_108, s_0_109, s_0_112, s_0_113, s_0_114, s_0_115, s_0_116, s_0_117, s_0_118, s_0_119, s_0_121, s_0_122, s_0_123, s_0_124, s_0_125, s_0_126, s_0_127, s_0_128, s_0_131, s_0_132, s_0_133, s_0_136, s_0_139, s_0_140, s_0_141, s_0_142, s_0_145, s_0_146, s_0_149, s_0_152, s_0_153, s_0_154, s_0_155, s_0_158, s_0_159, s_0_162, s_0_165, s_0_166, s_0_167, s_0_168, s_0_169, s_0_170, s_0_171, s_0_172, s_0_173, s_0_176, s_0_177, s_0_178, s_0_179, s_0_180, s_0_181, s_0_182, s_0_185, s_0_188, s_0_189, s_0_190, s_0_191, s_0_192, s_0_193, s_0_194, s_0_195, s_0_196, s_0_199, s_0_200, s_0_201, s_0_202, s_0_203, s_0_204, s_0_205, s_0_208, s_0_211, s_0_212, s_0_213, s_0_214, s_0_215, s_0_216, s_0_217, s_0_218, s_0_219, s_0_222, s_0_223, s_0_224, s_0_225, s_0_226, s_0_227, s_0_228, s_0_231, s_0_234, s_0_235, s_0_236, s_0_237, s_0_240, s_0_241, s_0_244, s_0_247, s_0_248, s_0_249, s_0_250, s_0_251, s_0_252, s_0_253, s_0_254, s_0_255, s_0_258, s_0_259, s_0_260, s_0_261, s_0_262, s_0_263, s_0_264, s_0_267, s_0_270, s_0_271, s_0_272, s_0_273, s_0_276, s_0_277, s_0_280, s_0_283, s_0_284, s_0_285, s_0_286, s_0_289, s_0_290, s_0_293, s_0_296, s_0_297, s_0_298, s_0_301, s_0_304, s_0_305, ha_0, ha_36, am_ild0, am_ld_cons, am_ld_nil, am_st1_cons, am_st1_nil, am_st2_cons, am_st2_nil, am_P1, am_P2, Value.category, am_add_add, am_add0, am_add_some, g0, g1, g2, g3, g4, g5, g6, g7, g8, e1, e2, e3, hcmp, ho, hA, hB]
  exact K _ (by omega)
set_option maxRecDepth 100000 in
set_option maxHeartbeats 4000000 in
theorem lw_6 (scr : Nat → Int32) (L F d p : Nat) (hL : L ≤ 1536) (hq : p + 3 ≤ L) (ho : scr p &&& 15 = 6) (I I1 : Nat → Nat → Int32) (J J1 : Nat → Nat → Int64) (M M1 : Nat → Nat → Int32) (v : Int32) (hA : am_r scr L F d 8 [.ref 1] (hp I J M) = some (some (.int v), hp I1 J1 M, 0, 0)) (hB : am_r scr L F d 135 [.ref 37] (hp I1 J1 M) = some (some (.int v), hp I1 J1 M1, 0, 0)) (f : Nat) (r : Option am_X) (K : ∀ f', f ≤ f' → am_f d scr L (am_r scr L F d) 0 f' 18 (lv0 (p + 3)) [] (hp I1 J1 M1) = r) : am_f d scr L (am_r scr L F d) 0 (f + 70) 18 (lv0 p) [] (hp I J M) = r := by
  have g0 : ¬ nI p < 0 := nI_pos (by omega)
  have g1 : (nI p).toNatClampNeg = p := nI_clamp (by omega)
  have g2 : ¬ L ≤ p := by omega
  have g3 : ¬ nI (p + 1) < 0 := nI_pos (by omega)
  have g4 : (nI (p + 1)).toNatClampNeg = p + 1 := nI_clamp (by omega)
  have g5 : ¬ L ≤ p + 1 := by omega
  have g6 : ¬ nI (p + 2) < 0 := nI_pos (by omega)
  have g7 : (nI (p + 2)).toNatClampNeg = p + 2 := nI_clamp (by omega)
  have g8 : ¬ L ≤ p + 2 := by omega
  have e1 : nI p + 1 = nI (p + 1) := nI_1 p
  have e2 : nI p + 2 = nI (p + 2) := nI_add p 2
  have e3 : nI p + 3 = nI (p + 3) := nI_add p 3
  have hcmp := lw_cmp hq hL
  unfold lv0
  skip
  rw [s_0_18]
  simp [s_0_19, s_0_20, s_0_21, s_0_22, s_0_23, s_0_26, s_0_27, s_0_28, s_0_29, s_0_31, s_0_32, s_0_88, s_0_89, s_0_90, s_0_91, s_0_92, s_0_93, s_0_94, s_0_95, s_0_97, s_0_98, s_0_99, s_0_100, s_0_101, s_0_102, s_0_103, s_0_104, s_0_107, s_0_108, s_0_109, s_0_112, s_0_113, s_0_114, s_0_115, s_0_116, s_0_117, s_0_118, s_0_119, s_0_121, s_0_122, s_0_123, s_0_124, s_0_125, s_0_126, s_0_127, s_0_128, s_0_131, s_0_132, s_0_133, s_0_136, s_0_139, s_0_140, s_0_141, s_0_142, s_0_145, s_0_146, s_0_149, s_0_152, s_0_153, s_0_154, s_0_155, s_0_158, s_0_159, s_0_162, s_0_165, s_0_166, s_0_167, s_0_168, s_0_169, s_0_170, s_0_171, s_0_172, s_0_173, s_0_176, s_0_177, s_0_178, s_0_179, s_0_180, s_0_181, s_0_182, s_0_185, s_0_188, s_0_189, s_0_190, s_0_191, s_0_192, s_0_193, s_0_194, s_0_195, s_0_196, s_0_199, s_0_200, s_0_201, s_0_202, s_0_203, s_0_204, s_0_205, s_0_208, s_0_211, s_0_212, s_0_213, s_0_214, s_0_215, s_0_216, s_0_217, s_0_218, s_0_219, s_0_222, s_0_223, s_0_224, s_0_225, s_0_226, s_0_227, s_0_228, s_0_231, s_0_234, s_0_235, s_0_236, s_0_237, s_0_240, s_0_241, s_0_244, s_0_247, s_0_248, s_0_249, s_0_250, s_0_251, s_0_252, s_0_253, s_0_254, s_0_255, s_0_258, s_0_259, s_0_260, s_0_261, s_0_262, s_0_263, s_0_264, s_0_267, s_0_270, s_0_271, s_0_272, s_0_273, s_0_276, s_0_277, s_0_280, s_0_283, s_0_284, s_0_285, s_0_286, s_0_289, s_0_290, s_0_293, s_0_296, s_0_297, s_0_298, s_0_301, s_0_304, s_0_305, ha_0, ha_36, am_ild0, am_ld_cons, am_ld_nil, am_st1_cons, am_st1_nil, am_st2_cons, am_st2_nil, am_P1, am_P2, Value.category, am_add_add, am_add0, am_add_some, g0, g1, g2, g3, g4, g5, g6, g7, g8, e1, e2, e3, hcmp, ho, hA, hB]
  exact K _ (by omega)
set_option maxRecDepth 100000 in
set_option maxHeartbeats 4000000 in
theorem lw_7 (scr : Nat → Int32) (L F d p : Nat) (hL : L ≤ 1536) (hq : p + 3 ≤ L) (ho : scr p &&& 15 = 7) (I I1 : Nat → Nat → Int32) (J J1 : Nat → Nat → Int64) (M M1 : Nat → Nat → Int32) (v : Int32) (hA : am_r scr L F d 9 [.ref 1, .int (scr (p + 1))] (hp I J M) = some (some (.int v), hp I1 J1 M, 0, 0)) (hB : am_r scr L F d 136 [.ref 37, .int (scr (p + 1))] (hp I1 J1 M) = some (some (.int v), hp I1 J1 M1, 0, 0)) (f : Nat) (r : Option am_X) (K : ∀ f', f ≤ f' → am_f d scr L (am_r scr L F d) 0 f' 18 (lv0 (p + 3)) [] (hp I1 J1 M1) = r) : am_f d scr L (am_r scr L F d) 0 (f + 70) 18 (lv0 p) [] (hp I J M) = r := by
  have g0 : ¬ nI p < 0 := nI_pos (by omega)
  have g1 : (nI p).toNatClampNeg = p := nI_clamp (by omega)
  have g2 : ¬ L ≤ p := by omega
  have g3 : ¬ nI (p + 1) < 0 := nI_pos (by omega)
  have g4 : (nI (p + 1)).toNatClampNeg = p + 1 := nI_clamp (by omega)
  have g5 : ¬ L ≤ p + 1 := by omega
  have g6 : ¬ nI (p + 2) < 0 := nI_pos (by omega)
  have g7 : (nI (p + 2)).toNatClampNeg = p + 2 := nI_clamp (by omega)
  have g8 : ¬ L ≤ p + 2 := by omega
  have e1 : nI p + 1 = nI (p + 1) := nI_1 p
  have e2 : nI p + 2 = nI (p + 2) := nI_add p 2
  have e3 : nI p + 3 = nI (p + 3) := nI_add p 3
  have hcmp := lw_cmp hq hL
  unfold lv0
  skip
  rw [s_0_18]
  simp [s_0_19, s_0_20, s_0_21, s_0_22, s_0_23, s_0_26, s_0_27, s_0_28, s_0_29, s_0_31, s_0_32, s_0_88, s_0_89, s_0_90, s_0_91, s_0_92, s_0_93, s_0_94, s_0_95, s_0_97, s_0_98, s_0_99, s_0_100, s_0_101, s_0_102, s_0_103, s_0_104, s_0_107, s_0_108, s_0_109, s_0_112, s_0_113, s_0_114, s_0_115, s_0_116, s_0_117, s_0_118, s_0_119, s_0_121, s_0_122, s_0_123, s_0_124, s_0_125, s_0_126, s_0_127, s_0_128, s_0_131, s_0_132, s_0_133, s_0_136, s_0_139, s_0_140, s_0_141, s_0_142, s_0_145, s_0_146, s_0_149, s_0_152, s_0_153, s_0_154, s_0_155, s_0_158, s_0_159, s_0_162, s_0_165, s_0_166, s_0_167, s_0_168, s_0_169, s_0_170, s_0_171, s_0_172, s_0_173, s_0_176, s_0_177, s_0_178, s_0_179, s_0_180, s_0_181, s_0_182, s_0_185, s_0_188, s_0_189, s_0_190, s_0_191, s_0_192, s_0_193, s_0_194, s_0_195, s_0_196, s_0_199, s_0_200, s_0_201, s_0_202, s_0_203, s_0_204, s_0_205, s_0_208, s_0_211, s_0_212, s_0_213, s_0_214, s_0_215, s_0_216, s_0_217, s_0_218, s_0_219, s_0_222, s_0_223, s_0_224, s_0_225, s_0_226, s_0_227, s_0_228, s_0_231, s_0_234, s_0_235, s_0_236, s_0_237, s_0_240, s_0_241, s_0_244, s_0_247, s_0_248, s_0_249, s_0_250, s_0_251, s_0_252, s_0_253, s_0_254, s_0_255, s_0_258, s_0_259, s_0_260, s_0_261, s_0_262, s_0_263, s_0_264, s_0_267, s_0_270, s_0_271, s_0_272, s_0_273, s_0_276, s_0_277, s_0_280, s_0_283, s_0_284, s_0_285, s_0_286, s_0_289, s_0_290, s_0_293, s_0_296, s_0_297, s_0_298, s_0_301, s_0_304, s_0_305, ha_0, ha_36, am_ild0, am_ld_cons, am_ld_nil, am_st1_cons, am_st1_nil, am_st2_cons, am_st2_nil, am_P1, am_P2, Value.category, am_add_add, am_add0, am_add_some, g0, g1, g2, g3, g4, g5, g6, g7, g8, e1, e2, e3, hcmp, ho, hA, hB]
  exact K _ (by omega)
set_option maxRecDepth 100000 in
set_option maxHeartbeats 4000000 in
theorem lw_8 (scr : Nat → Int32) (L F d p : Nat) (hL : L ≤ 1536) (hq : p + 3 ≤ L) (ho : scr p &&& 15 = 8) (I I1 : Nat → Nat → Int32) (J J1 : Nat → Nat → Int64) (M M1 : Nat → Nat → Int32) (v : Int32) (hA : am_r scr L F d 10 [.ref 1] (hp I J M) = some (some (.int v), hp I1 J1 M, 0, 0)) (hB : am_r scr L F d 137 [.ref 37] (hp I1 J1 M) = some (some (.int v), hp I1 J1 M1, 0, 0)) (f : Nat) (r : Option am_X) (K : ∀ f', f ≤ f' → am_f d scr L (am_r scr L F d) 0 f' 18 (lv0 (p + 3)) [] (hp I1 J1 M1) = r) : am_f d scr L (am_r scr L F d) 0 (f + 70) 18 (lv0 p) [] (hp I J M) = r := by
  have g0 : ¬ nI p < 0 := nI_pos (by omega)
  have g1 : (nI p).toNatClampNeg = p := nI_clamp (by omega)
  have g2 : ¬ L ≤ p := by omega
  have g3 : ¬ nI (p + 1) < 0 := nI_pos (by omega)
  have g4 : (nI (p + 1)).toNatClampNeg = p + 1 := nI_clamp (by omega)
  have g5 : ¬ L ≤ p + 1 := by omega
  have g6 : ¬ nI (p + 2) < 0 := nI_pos (by omega)
  have g7 : (nI (p + 2)).toNatClampNeg = p + 2 := nI_clamp (by omega)
  have g8 : ¬ L ≤ p + 2 := by omega
  have e1 : nI p + 1 = nI (p + 1) := nI_1 p
  have e2 : nI p + 2 = nI (p + 2) := nI_add p 2
  have e3 : nI p + 3 = nI (p + 3) := nI_add p 3
  have hcmp := lw_cmp hq hL
  unfold lv0
  skip
  rw [s_0_18]
  simp [s_0_19, s_0_20, s_0_21, s_0_22, s_0_23, s_0_26, s_0_27, s_0_28, s_0_29, s_0_31, s_0_32, s_0_88, s_0_89, s_0_90, s_0_91, s_0_92, s_0_93, s_0_94, s_0_95, s_0_97, s_0_98, s_0_99, s_0_100, s_0_101, s_0_102, s_0_103, s_0_104, s_0_107, s_0_108, s_0_109, s_0_112, s_0_113, s_0_114, s_0_115, s_0_116, s_0_117, s_0_118, s_0_119, s_0_121, s_0_122, s_0_123, s_0_124, s_0_125, s_0_126, s_0_127, s_0_128, s_0_131, s_0_132, s_0_133, s_0_136, s_0_139, s_0_140, s_0_141, s_0_142, s_0_145, s_0_146, s_0_149, s_0_152, s_0_153, s_0_154, s_0_155, s_0_158, s_0_159, s_0_162, s_0_165, s_0_166, s_0_167, s_0_168, s_0_169, s_0_170, s_0_171, s_0_172, s_0_173, s_0_176, s_0_177, s_0_178, s_0_179, s_0_180, s_0_181, s_0_182, s_0_185, s_0_188, s_0_189, s_0_190, s_0_191, s_0_192, s_0_193, s_0_194, s_0_195, s_0_196, s_0_199, s_0_200, s_0_201, s_0_202, s_0_203, s_0_204, s_0_205, s_0_208, s_0_211, s_0_212, s_0_213, s_0_214, s_0_215, s_0_216, s_0_217, s_0_218, s_0_219, s_0_222, s_0_223, s_0_224, s_0_225, s_0_226, s_0_227, s_0_228, s_0_231, s_0_234, s_0_235, s_0_236, s_0_237, s_0_240, s_0_241, s_0_244, s_0_247, s_0_248, s_0_249, s_0_250, s_0_251, s_0_252, s_0_253, s_0_254, s_0_255, s_0_258, s_0_259, s_0_260, s_0_261, s_0_262, s_0_263, s_0_264, s_0_267, s_0_270, s_0_271, s_0_272, s_0_273, s_0_276, s_0_277, s_0_280, s_0_283, s_0_284, s_0_285, s_0_286, s_0_289, s_0_290, s_0_293, s_0_296, s_0_297, s_0_298, s_0_301, s_0_304, s_0_305, ha_0, ha_36, am_ild0, am_ld_cons, am_ld_nil, am_st1_cons, am_st1_nil, am_st2_cons, am_st2_nil, am_P1, am_P2, Value.category, am_add_add, am_add0, am_add_some, g0, g1, g2, g3, g4, g5, g6, g7, g8, e1, e2, e3, hcmp, ho, hA, hB]
  exact K _ (by omega)
set_option maxRecDepth 100000 in
set_option maxHeartbeats 4000000 in
theorem lw_9 (scr : Nat → Int32) (L F d p : Nat) (hL : L ≤ 1536) (hq : p + 3 ≤ L) (ho : scr p &&& 15 = 9) (I I1 : Nat → Nat → Int32) (J J1 : Nat → Nat → Int64) (M M1 : Nat → Nat → Int32) (v : Int32) (hA : am_r scr L F d 11 [.ref 1] (hp I J M) = some (some (.int v), hp I1 J1 M, 0, 0)) (hB : am_r scr L F d 138 [.ref 37] (hp I1 J1 M) = some (some (.int v), hp I1 J1 M1, 0, 0)) (f : Nat) (r : Option am_X) (K : ∀ f', f ≤ f' → am_f d scr L (am_r scr L F d) 0 f' 18 (lv0 (p + 3)) [] (hp I1 J1 M1) = r) : am_f d scr L (am_r scr L F d) 0 (f + 70) 18 (lv0 p) [] (hp I J M) = r := by
  have g0 : ¬ nI p < 0 := nI_pos (by omega)
  have g1 : (nI p).toNatClampNeg = p := nI_clamp (by omega)
  have g2 : ¬ L ≤ p := by omega
  have g3 : ¬ nI (p + 1) < 0 := nI_pos (by omega)
  have g4 : (nI (p + 1)).toNatClampNeg = p + 1 := nI_clamp (by omega)
  have g5 : ¬ L ≤ p + 1 := by omega
  have g6 : ¬ nI (p + 2) < 0 := nI_pos (by omega)
  have g7 : (nI (p + 2)).toNatClampNeg = p + 2 := nI_clamp (by omega)
  have g8 : ¬ L ≤ p + 2 := by omega
  have e1 : nI p + 1 = nI (p + 1) := nI_1 p
  have e2 : nI p + 2 = nI (p + 2) := nI_add p 2
  have e3 : nI p + 3 = nI (p + 3) := nI_add p 3
  have hcmp := lw_cmp hq hL
  unfold lv0
  skip
  rw [s_0_18]
  simp [s_0_19, s_0_20, s_0_21, s_0_22, s_0_23, s_0_26, s_0_27, s_0_28, s_0_29, s_0_31, s_0_32, s_0_88, s_0_89, s_0_90, s_0_91, s_0_92, s_0_93, s_0_94, s_0_95, s_0_97, s_0_98, s_0_99, s_0_100, s_0_101, s_0_102, s_0_103, s_0_104, s_0_107, s_0_108, s_0_109, s_0_112, s_0_113, s_0_114, s_0_115, s_0_116, s_0_117, s_0_118, s_0_119, s_0_121, s_0_122, s_0_123, s_0_124, s_0_125, s_0_126, s_0_127, s_0_128, s_0_131, s_0_132, s_0_133, s_0_136, s_0_139, s_0_140, s_0_141, s_0_142, s_0_145, s_0_146, s_0_149, s_0_152, s_0_153, s_0_154, s_0_155, s_0_158, s_0_159, s_0_162, s_0_165, s_0_166, s_0_167, s_0_168, s_0_169, s_0_170, s_0_171, s_0_172, s_0_173, s_0_176, s_0_177, s_0_178, s_0_179, s_0_180, s_0_181, s_0_182, s_0_185, s_0_188, s_0_189, s_0_190, s_0_191, s_0_192, s_0_193, s_0_194, s_0_195, s_0_196, s_0_199, s_0_200, s_0_201, s_0_202, s_0_203, s_0_204, s_0_205, s_0_208, s_0_211, s_0_212, s_0_213, s_0_214, s_0_215, s_0_216, s_0_217, s_0_218, s_0_219, s_0_222, s_0_223, s_0_224, s_0_225, s_0_226, s_0_227, s_0_228, s_0_231, s_0_234, s_0_235, s_0_236, s_0_237, s_0_240, s_0_241, s_0_244, s_0_247, s_0_248, s_0_249, s_0_250, s_0_251, s_0_252, s_0_253, s_0_254, s_0_255, s_0_258, s_0_259, s_0_260, s_0_261, s_0_262, s_0_263, s_0_264, s_0_267, s_0_270, s_0_271, s_0_272, s_0_273, s_0_276, s_0_277, s_0_280, s_0_283, s_0_284, s_0_285, s_0_286, s_0_289, s_0_290, s_0_293, s_0_296, s_0_297, s_0_298, s_0_301, s_0_304, s_0_305, ha_0, ha_36, am_ild0, am_ld_cons, am_ld_nil, am_st1_cons, am_st1_nil, am_st2_cons, am_st2_nil, am_P1, am_P2, Value.category, am_add_add, am_add0, am_add_some, g0, g1, g2, g3, g4, g5, g6, g7, g8, e1, e2, e3, hcmp, ho, hA, hB]
  exact K _ (by omega)
set_option maxRecDepth 100000 in
set_option maxHeartbeats 4000000 in
theorem lw_no (scr : Nat → Int32) (L F d p : Nat) (hL : L ≤ 1536) (hq : p + 3 ≤ L) (ho : ∀ o : Int32, o < 10 → 0 ≤ o → ¬ scr p &&& 15 = o) (h : am_H) (f : Nat) (r : Option am_X) (K : ∀ f', f ≤ f' → am_f d scr L (am_r scr L F d) 0 f' 18 (lv0 (p + 3)) [] h = r) : am_f d scr L (am_r scr L F d) 0 (f + 70) 18 (lv0 p) [] h = r := by
  have g0 : ¬ nI p < 0 := nI_pos (by omega)
  have g1 : (nI p).toNatClampNeg = p := nI_clamp (by omega)
  have g2 : ¬ L ≤ p := by omega
  have g3 : ¬ nI (p + 1) < 0 := nI_pos (by omega)
  have g4 : (nI (p + 1)).toNatClampNeg = p + 1 := nI_clamp (by omega)
  have g5 : ¬ L ≤ p + 1 := by omega
  have g6 : ¬ nI (p + 2) < 0 := nI_pos (by omega)
  have g7 : (nI (p + 2)).toNatClampNeg = p + 2 := nI_clamp (by omega)
  have g8 : ¬ L ≤ p + 2 := by omega
  have e1 : nI p + 1 = nI (p + 1) := nI_1 p
  have e2 : nI p + 2 = nI (p + 2) := nI_add p 2
  have e3 : nI p + 3 = nI (p + 3) := nI_add p 3
  have hcmp := lw_cmp hq hL
  unfold lv0
  rw [s_0_18]
  simp [s_0_19, s_0_20, s_0_21, s_0_22, s_0_23, s_0_26, s_0_27, s_0_28, s_0_29, s_0_31, s_0_32, s_0_88, s_0_89, s_0_90, s_0_91, s_0_92, s_0_93, s_0_94, s_0_95, s_0_97, s_0_98, s_0_99, s_0_100, s_0_101, s_0_102, s_0_103, s_0_104, s_0_107, s_0_108, s_0_109, s_0_112, s_0_113, s_0_114, s_0_115, s_0_116, s_0_117, s_0_118, s_0_119, s_0_121, s_0_122, s_0_123, s_0_124, s_0_125, s_0_126, s_0_127, s_0_128, s_0_131, s_0_132, s_0_133, s_0_136, s_0_139, s_0_140, s_0_141, s_0_142, s_0_145, s_0_146, s_0_149, s_0_152, s_0_153, s_0_154, s_0_155, s_0_158, s_0_159, s_0_162, s_0_165, s_0_166, s_0_167, s_0_168, s_0_169, s_0_170, s_0_171, s_0_172, s_0_173, s_0_176, s_0_177, s_0_178, s_0_179, s_0_180, s_0_181, s_0_182, s_0_185, s_0_188, s_0_189, s_0_190, s_0_191, s_0_192, s_0_193, s_0_194, s_0_195, s_0_196, s_0_199, s_0_200, s_0_201, s_0_202, s_0_203, s_0_204, s_0_205, s_0_208, s_0_211, s_0_212, s_0_213, s_0_214, s_0_215, s_0_216, s_0_217, s_0_218, s_0_219, s_0_222, s_0_223, s_0_224, s_0_225, s_0_226, s_0_227, s_0_228, s_0_231, s_0_234, s_0_235, s_0_236, s_0_237, s_0_240, s_0_241, s_0_244, s_0_247, s_0_248, s_0_249, s_0_250, s_0_251, s_0_252, s_0_253, s_0_254, s_0_255, s_0_258, s_0_259, s_0_260, s_0_261, s_0_262, s_0_263, s_0_264, s_0_267, s_0_270, s_0_271, s_0_272, s_0_273, s_0_276, s_0_277, s_0_280, s_0_283, s_0_284, s_0_285, s_0_286, s_0_289, s_0_290, s_0_293, s_0_296, s_0_297, s_0_298, s_0_301, s_0_304, s_0_305, am_ild0, am_ld_cons, am_ld_nil, am_st1_cons, am_st1_nil, am_st2_cons, am_st2_nil, am_P1, am_P2, Value.category, am_add_add, am_add0, am_add_some, g0, g1, g2, g3, g4, g5, g6, g7, g8, e1, e2, e3, hcmp, ho 0 (by decide) (by decide), ho 1 (by decide) (by decide), ho 2 (by decide) (by decide), ho 3 (by decide) (by decide), ho 4 (by decide) (by decide), ho 5 (by decide) (by decide), ho 6 (by decide) (by decide), ho 7 (by decide) (by decide), ho 8 (by decide) (by decide), ho 9 (by decide) (by decide)]
  exact K _ (by omega)
set_option maxRecDepth 100000 in
set_option maxHeartbeats 4000000 in
theorem lw_end (scr : Nat → Int32) (L F d p : Nat) (hL : L ≤ 1536) (hp2 : p ≤ 1536) (hq : L < p + 3) (h : am_H) (f : Nat) : am_f d scr L (am_r scr L F d) 0 (f + 20) 18 (lv0 p) [] h = some (some (.int 1), h, 0, 0) := by
  have hcmp := lw_out hq hL hp2
  unfold lv0
  simp [s_0_18, s_0_19, s_0_20, s_0_21, s_0_22, s_0_23, s_0_26, s_0_27, s_0_28, s_0_29, s_0_31, s_0_32, s_0_88, s_0_89, s_0_90, s_0_91, s_0_92, s_0_93, s_0_94, s_0_95, s_0_97, s_0_98, s_0_99, s_0_100, s_0_101, s_0_102, s_0_103, s_0_104, s_0_107, s_0_108, s_0_109, s_0_112, s_0_113, s_0_114, s_0_115, s_0_116, s_0_117, s_0_118, s_0_119, s_0_121, s_0_122, s_0_123, s_0_124, s_0_125, s_0_126, s_0_127, s_0_128, s_0_131, s_0_132, s_0_133, s_0_136, s_0_139, s_0_140, s_0_141, s_0_142, s_0_145, s_0_146, s_0_149, s_0_152, s_0_153, s_0_154, s_0_155, s_0_158, s_0_159, s_0_162, s_0_165, s_0_166, s_0_167, s_0_168, s_0_169, s_0_170, s_0_171, s_0_172, s_0_173, s_0_176, s_0_177, s_0_178, s_0_179, s_0_180, s_0_181, s_0_182, s_0_185, s_0_188, s_0_189, s_0_190, s_0_191, s_0_192, s_0_193, s_0_194, s_0_195, s_0_196, s_0_199, s_0_200, s_0_201, s_0_202, s_0_203, s_0_204, s_0_205, s_0_208, s_0_211, s_0_212, s_0_213, s_0_214, s_0_215, s_0_216, s_0_217, s_0_218, s_0_219, s_0_222, s_0_223, s_0_224, s_0_225, s_0_226, s_0_227, s_0_228, s_0_231, s_0_234, s_0_235, s_0_236, s_0_237, s_0_240, s_0_241, s_0_244, s_0_247, s_0_248, s_0_249, s_0_250, s_0_251, s_0_252, s_0_253, s_0_254, s_0_255, s_0_258, s_0_259, s_0_260, s_0_261, s_0_262, s_0_263, s_0_264, s_0_267, s_0_270, s_0_271, s_0_272, s_0_273, s_0_276, s_0_277, s_0_280, s_0_283, s_0_284, s_0_285, s_0_286, s_0_289, s_0_290, s_0_293, s_0_296, s_0_297, s_0_298, s_0_301, s_0_304, s_0_305, am_ld_cons, am_ld_nil, am_st1_cons, am_st1_nil, am_st2_cons, am_st2_nil, am_P1, am_P2, Value.category, hcmp]
