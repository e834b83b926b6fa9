/-! Reading an expression: the class's methods, a level each. -/
def wr (I : am_I) (x s : Nat) (v : Int32) : am_I := va_up I x (upd (I x) s v)
def beI (I : am_I) (p : Nat) (y : Int32) : am_I := va_up (va_up (va_up (va_up I 8 (upd (I 8) p y)) 9 (upd (I 9) p (-1))) 10 (upd (I 10) p (-1))) 11 (upd (I 11) p (-1))
def enI (I : am_I) (K : Nat) (x : Int32) : am_I := va_up (va_up I 17 (upd (I 17) K x)) 1 (upd (I 1) 12 (nI (K + 1)))
set_option maxRecDepth 100000 in
set_option maxHeartbeats 4000000 in
theorem c61_deep (scr : Nat → Int32) (L F d : Nat) (I : Nat → Nat → Int32) (J : Nat → Nat → Int64) (M : Nat → Nat → Int32) (D : Nat) (y : Int32) (hD : 20 < D) (hD2 : D < 1000) : am_r scr L (F + 63000) (d + 1) 61 [.ref 19, .int y, .int (nI D)] (hp I J M) = some (some (.int (-1)), hp I J M, 0, 0) := by
  have hl : (20 : Int32) < nI D := by
    rw [show (20 : Int32) = nI 20 by decide +kernel]
    exact nI_lt hD (by omega)
  simp [r_61, s_61_0, s_61_1, s_61_3, s_61_6, s_61_7, s_61_10, s_61_11, s_61_14, s_61_17, s_61_18, s_61_19, s_61_20, s_61_23, s_61_24, s_61_25, s_61_26, s_61_29, s_61_30, s_61_31, s_61_34, s_61_35, s_61_38, s_61_39, s_61_40, s_61_43, s_61_44, s_61_47, s_61_48, s_61_49, s_61_124, s_61_125, s_61_126, s_61_127, s_61_130, s_61_132, s_61_135, s_61_136, s_61_137, s_61_138, s_61_141, s_61_143, s_61_146, s_61_147, s_61_148, s_61_149, s_61_152, s_61_154, s_61_157, s_61_158, s_61_159, s_61_160, s_61_163, s_61_165, s_61_168, s_61_169, s_61_170, s_61_171, s_61_174, s_61_176, s_61_179, s_61_180, s_61_182, s_61_183, s_61_184, s_61_187, s_61_189, s_61_192, s_61_193, s_61_195, s_61_196, s_61_197, s_61_200, s_61_202, s_61_205, s_61_206, s_61_208, s_61_209, s_61_210, s_61_213, s_61_215, s_61_218, s_61_219, s_61_220, s_61_223, s_61_224, s_61_225, s_61_226, s_61_229, s_61_231, s_61_233, s_61_236, s_61_237, s_61_238, s_61_239, s_61_242, s_61_243, s_61_246, s_61_247, ha_0, hg_0_0, hg_0_1, hg_0_2, hg_0_3, hg_0_4, hq_0_4, hg_0_5, hq_0_5, ha_1, hg_1_0, hg_1_1, hg_1_2, hg_1_3, hg_1_4, hg_1_5, hg_1_6, hg_1_7, hg_1_8, hg_1_9, hg_1_10, hg_1_11, hg_1_12, hq_1_12, ha_2, hg_2_0, hg_2_1, hg_2_2, hg_2_3, hg_2_4, hq_2_4, hl_3, hs_3, hl_4, hs_4, hl_5, hs_5, hl_6, hs_6, hl_7, hs_7, hl_8, hs_8, hl_9, hs_9, hl_10, hs_10, hl_11, hs_11, hl_12, hs_12, hl_13, hs_13, hl_14, hs_14, hl_15, hs_15, hl_16, hs_16, hl_17, hs_17, ha_18, hg_18_0, hg_18_1, hg_18_2, hq_18_2, hg_18_3, hq_18_3, hl_19, hs_19, ha_20, hg_20_0, hg_20_1, ha_21, hg_21_0, hg_21_1, hg_21_2, hg_21_3, hg_21_4, hg_21_5, hg_21_6, hq_21_6, hg_21_7, hg_21_8, hg_21_9, hg_21_10, hq_21_10, hg_21_11, hq_21_11, hg_21_12, hq_21_12, hg_21_13, hq_21_13, hg_21_14, hq_21_14, hg_21_15, hq_21_15, hg_21_16, hq_21_16, hg_21_17, hq_21_17, ha_22, hg_22_0, hg_22_1, hg_22_2, hg_22_3, hg_22_4, hg_22_5, hg_22_6, hq_22_6, hg_22_7, hq_22_7, hg_22_8, hq_22_8, hl_23, hs_23, hl_24, hs_24, hl_25, hs_25, hl_26, hs_26, hl_27, hs_27, ha_28, hg_28_0, hg_28_1, hq_28_1, hl_29, hs_29, hl_30, hs_30, hl_31, hs_31, hl_32, hs_32, hl_33, hs_33, hl_34, hs_34, hl_35, hs_35, am_ld_cons, am_ld_nil, am_st1_cons, am_st1_nil, am_st2_cons, am_st2_nil, am_P1, am_P2, Value.category, am_add_add, am_add0, am_add_some, hl]
set_option maxRecDepth 100000 in
set_option maxHeartbeats 4000000 in
theorem c61_end (scr : Nat → Int32) (L F d : Nat) (I : Nat → Nat → Int32) (J : Nat → Nat → Int64) (M : Nat → Nat → Int32) (n p D : Nat) (y : Int32) (h : rdI I n p) (hpn : n ≤ p) (hD : D ≤ 20) : am_r scr L (F + 63000) (d + 1) 61 [.ref 19, .int y, .int (nI D)] (hp I J M) = some (some (.int (-1)), hp I J M, 0, 0) := by
  have hl : ¬ (20 : Int32) < nI D := by
    rw [show (20 : Int32) = nI 20 by decide +kernel]
    exact nI_nlt hD (by decide)
  obtain ⟨h1, h2, h3, h4, h5⟩ := h
  have hq : nI n ≤ nI p := nI_le hpn (by omega)
  have hq2 : ¬ nI p < nI n := nI_nlt hpn (by omega)
  simp [r_61, s_61_0, s_61_1, s_61_3, s_61_6, s_61_7, s_61_10, s_61_11, s_61_14, s_61_17, s_61_18, s_61_19, s_61_20, s_61_23, s_61_24, s_61_25, s_61_26, s_61_29, s_61_30, s_61_31, s_61_34, s_61_35, s_61_38, s_61_39, s_61_40, s_61_43, s_61_44, s_61_47, s_61_48, s_61_49, s_61_124, s_61_125, s_61_126, s_61_127, s_61_130, s_61_132, s_61_135, s_61_136, s_61_137, s_61_138, s_61_141, s_61_143, s_61_146, s_61_147, s_61_148, s_61_149, s_61_152, s_61_154, s_61_157, s_61_158, s_61_159, s_61_160, s_61_163, s_61_165, s_61_168, s_61_169, s_61_170, s_61_171, s_61_174, s_61_176, s_61_179, s_61_180, s_61_182, s_61_183, s_61_184, s_61_187, s_61_189, s_61_192, s_61_193, s_61_195, s_61_196, s_61_197, s_61_200, s_61_202, s_61_205, s_61_206, s_61_208, s_61_209, s_61_210, s_61_213, s_61_215, s_61_218, s_61_219, s_61_220, s_61_223, s_61_224, s_61_225, s_61_226, s_61_229, s_61_231, s_61_233, s_61_236, s_61_237, s_61_238, s_61_239, s_61_242, s_61_243, s_61_246, s_61_247, ha_0, hg_0_0, hg_0_1, hg_0_2, hg_0_3, hg_0_4, hq_0_4, hg_0_5, hq_0_5, ha_1, hg_1_0, hg_1_1, hg_1_2, hg_1_3, hg_1_4, hg_1_5, hg_1_6, hg_1_7, hg_1_8, hg_1_9, hg_1_10, hg_1_11, hg_1_12, hq_1_12, ha_2, hg_2_0, hg_2_1, hg_2_2, hg_2_3, hg_2_4, hq_2_4, hl_3, hs_3, hl_4, hs_4, hl_5, hs_5, hl_6, hs_6, hl_7, hs_7, hl_8, hs_8, hl_9, hs_9, hl_10, hs_10, hl_11, hs_11, hl_12, hs_12, hl_13, hs_13, hl_14, hs_14, hl_15, hs_15, hl_16, hs_16, hl_17, hs_17, ha_18, hg_18_0, hg_18_1, hg_18_2, hq_18_2, hg_18_3, hq_18_3, hl_19, hs_19, ha_20, hg_20_0, hg_20_1, ha_21, hg_21_0, hg_21_1, hg_21_2, hg_21_3, hg_21_4, hg_21_5, hg_21_6, hq_21_6, hg_21_7, hg_21_8, hg_21_9, hg_21_10, hq_21_10, hg_21_11, hq_21_11, hg_21_12, hq_21_12, hg_21_13, hq_21_13, hg_21_14, hq_21_14, hg_21_15, hq_21_15, hg_21_16, hq_21_16, hg_21_17, hq_21_17, ha_22, hg_22_0, hg_22_1, hg_22_2, hg_22_3, hg_22_4, hg_22_5, hg_22_6, hq_22_6, hg_22_7, hq_22_7, hg_22_8, hq_22_8, hl_23, hs_23, hl_24, hs_24, hl_25, hs_25, hl_26, hs_26, hl_27, hs_27, ha_28, hg_28_0, hg_28_1, hq_28_1, hl_29, hs_29, hl_30, hs_30, hl_31, hs_31, hl_32, hs_32, hl_33, hs_33, hl_34, hs_34, hl_35, hs_35, am_ld_cons, am_ld_nil, am_st1_cons, am_st1_nil, am_st2_cons, am_st2_nil, am_P1, am_P2, Value.category, am_add_add, am_add0, am_add_some, hl, h1, h2, hq, hq2]
set_option maxRecDepth 100000 in
set_option maxHeartbeats 4000000 in
theorem c61_fun_f (scr : Nat → Int32) (L F d : Nat) (I : Nat → Nat → Int32) (J : Nat → Nat → Int64) (M : Nat → Nat → Int32) (n p D : Nat) (y : Int32) (h : rdI I n p) (hpn : p < n) (hD : D ≤ 20) (x : Int32) (hx : I 19 p = x) (hx2 : x = 92) (I2 : am_I) (k : am_r scr L (F + 63000) (d + 29) 65 [.ref 19, .int (nI p), .int (nI D)] (hp (beI (adI I (p + 1)) p y) J M) = some (some (.int 0), hp I2 J M, 0, 0)) : am_r scr L (F + 63000) (d + 30) 61 [.ref 19, .int y, .int (nI D)] (hp I J M) = some (some (.int (-1)), hp I2 J M, 0, 0) := by
  have hl : ¬ (20 : Int32) < nI D := by
    rw [show (20 : Int32) = nI 20 by decide +kernel]
    exact nI_nlt hD (by decide)
  obtain ⟨h1, h2, h3, h4, h5⟩ := h
  have hq : ¬ nI n ≤ nI p := nI_ge hpn (by omega)
  have hq2 : nI p < nI n := nI_lt hpn (by omega)
  have e1 : nI p + 1 = nI (p + 1) := nI_1 p
  have g1 : ¬ nI p < 0 := nI_pos (by omega)
  have g2 : (nI p).toNatClampNeg = p := nI_clamp (by omega)
  have g3 : ¬ 100 ≤ p := by omega
  have hb := m_53 scr L (F + 62900) (d + 28) (adI I (p + 1)) J M p y (by omega)
  have e19 : beI (adI I (p + 1)) p y 19 p = x := by
    rw [← hx]
    simp [beI, adI, va_up]
  have e20 : beI (adI I (p + 1)) p y 19 = I 19 := by simp [beI, adI, va_up]
  have e5 := h5 p hpn
  rw [hx] at e5
  have ea : va_up I 18 (upd (I 18) 3 (nI (p + 1))) = adI I (p + 1) := rfl
  have eb : va_up (va_up (va_up (va_up (adI I (p + 1)) 8 (upd (adI I (p + 1) 8) p y)) 9 (upd (adI I (p + 1) 9) p (-1))) 10 (upd (adI I (p + 1) 10) p (-1))) 11 (upd (adI I (p + 1) 11) p (-1)) = beI (adI I (p + 1)) p y := rfl
  subst hx2
  simp [r_61, s_61_0, s_61_1, s_61_3, s_61_6, s_61_7, s_61_10, s_61_11, s_61_14, s_61_17, s_61_18, s_61_19, s_61_20, s_61_23, s_61_24, s_61_25, s_61_26, s_61_29, s_61_30, s_61_31, s_61_34, s_61_35, s_61_38, s_61_39, s_61_40, s_61_43, s_61_44, s_61_47, s_61_48, s_61_49, s_61_124, s_61_125, s_61_126, s_61_127, s_61_130, s_61_132, s_61_135, s_61_136, s_61_137, s_61_138, s_61_141, s_61_143, s_61_146, s_61_147, s_61_148, s_61_149, s_61_152, s_61_154, s_61_157, s_61_158, s_61_159, s_61_160, s_61_163, s_61_165, s_61_168, s_61_169, s_61_170, s_61_171, s_61_174, s_61_176, s_61_179, s_61_180, s_61_182, s_61_183, s_61_184, s_61_187, s_61_189, s_61_192, s_61_193, s_61_195, s_61_196, s_61_197, s_61_200, s_61_202, s_61_205, s_61_206, s_61_208, s_61_209, s_61_210, s_61_213, s_61_215, s_61_218, s_61_219, s_61_220, s_61_223, s_61_224, s_61_225, s_61_226, s_61_229, s_61_231, s_61_233, s_61_236, s_61_237, s_61_238, s_61_239, s_61_242, s_61_243, s_61_246, s_61_247, ha_0, hg_0_0, hg_0_1, hg_0_2, hg_0_3, hg_0_4, hq_0_4, hg_0_5, hq_0_5, ha_1, hg_1_0, hg_1_1, hg_1_2, hg_1_3, hg_1_4, hg_1_5, hg_1_6, hg_1_7, hg_1_8, hg_1_9, hg_1_10, hg_1_11, hg_1_12, hq_1_12, ha_2, hg_2_0, hg_2_1, hg_2_2, hg_2_3, hg_2_4, hq_2_4, hl_3, hs_3, hl_4, hs_4, hl_5, hs_5, hl_6, hs_6, hl_7, hs_7, hl_8, hs_8, hl_9, hs_9, hl_10, hs_10, hl_11, hs_11, hl_12, hs_12, hl_13, hs_13, hl_14, hs_14, hl_15, hs_15, hl_16, hs_16, hl_17, hs_17, ha_18, hg_18_0, hg_18_1, hg_18_2, hq_18_2, hg_18_3, hq_18_3, hl_19, hs_19, ha_20, hg_20_0, hg_20_1, ha_21, hg_21_0, hg_21_1, hg_21_2, hg_21_3, hg_21_4, hg_21_5, hg_21_6, hq_21_6, hg_21_7, hg_21_8, hg_21_9, hg_21_10, hq_21_10, hg_21_11, hq_21_11, hg_21_12, hq_21_12, hg_21_13, hq_21_13, hg_21_14, hq_21_14, hg_21_15, hq_21_15, hg_21_16, hq_21_16, hg_21_17, hq_21_17, ha_22, hg_22_0, hg_22_1, hg_22_2, hg_22_3, hg_22_4, hg_22_5, hg_22_6, hq_22_6, hg_22_7, hq_22_7, hg_22_8, hq_22_8, hl_23, hs_23, hl_24, hs_24, hl_25, hs_25, hl_26, hs_26, hl_27, hs_27, ha_28, hg_28_0, hg_28_1, hq_28_1, hl_29, hs_29, hl_30, hs_30, hl_31, hs_31, hl_32, hs_32, hl_33, hs_33, hl_34, hs_34, hl_35, hs_35, am_ld_cons, am_ld_nil, am_st1_cons, am_st1_nil, am_st2_cons, am_st2_nil, am_P1, am_P2, Value.category, am_add_add, am_add0, am_add_some, hl, h1, h2, hq, hq2, e1, ea, hb, eb, g1, g2, g3, e20, hx, e5, k]
set_option maxRecDepth 100000 in
set_option maxHeartbeats 4000000 in
theorem c61_fun_g (scr : Nat → Int32) (L F d : Nat) (I : Nat → Nat → Int32) (J : Nat → Nat → Int64) (M : Nat → Nat → Int32) (n p D : Nat) (y : Int32) (h : rdI I n p) (hpn : p < n) (hD : D ≤ 20) (x : Int32) (hx : I 19 p = x) (hx2 : x = 92) (I2 : am_I) (K : Nat) (hK : I2 1 12 = nI K) (hK2 : K < 100) (k : am_r scr L (F + 63000) (d + 29) 65 [.ref 19, .int (nI p), .int (nI D)] (hp (beI (adI I (p + 1)) p y) J M) = some (some (.int 1), hp I2 J M, 0, 0)) : am_r scr L (F + 63000) (d + 30) 61 [.ref 19, .int y, .int (nI D)] (hp I J M) = some (some (.int (nI p)), hp (enI I2 K (nI p)) J M, 0, 0) := by
  have hl : ¬ (20 : Int32) < nI D := by
    rw [show (20 : Int32) = nI 20 by decide +kernel]
    exact nI_nlt hD (by decide)
  obtain ⟨h1, h2, h3, h4, h5⟩ := h
  have hq : ¬ nI n ≤ nI p := nI_ge hpn (by omega)
  have hq2 : nI p < nI n := nI_lt hpn (by omega)
  have e1 : nI p + 1 = nI (p + 1) := nI_1 p
  have g1 : ¬ nI p < 0 := nI_pos (by omega)
  have g2 : (nI p).toNatClampNeg = p := nI_clamp (by omega)
  have g3 : ¬ 100 ≤ p := by omega
  have hb := m_53 scr L (F + 62900) (d + 28) (adI I (p + 1)) J M p y (by omega)
  have e19 : beI (adI I (p + 1)) p y 19 p = x := by
    rw [← hx]
    simp [beI, adI, va_up]
  have e20 : beI (adI I (p + 1)) p y 19 = I 19 := by simp [beI, adI, va_up]
  have e5 := h5 p hpn
  rw [hx] at e5
  have ea : va_up I 18 (upd (I 18) 3 (nI (p + 1))) = adI I (p + 1) := rfl
  have eb : va_up (va_up (va_up (va_up (adI I (p + 1)) 8 (upd (adI I (p + 1) 8) p y)) 9 (upd (adI I (p + 1) 9) p (-1))) 10 (upd (adI I (p + 1) 10) p (-1))) 11 (upd (adI I (p + 1) 11) p (-1)) = beI (adI I (p + 1)) p y := rfl
  have he := m_54 scr L (F + 62900) (d + 28) I2 J M K (nI p) hK hK2
  rw [show va_up (va_up I2 17 (upd (I2 17) K (nI p))) 1 (upd (I2 1) 12 (nI (K + 1))) = enI I2 K (nI p) from rfl] at he
  subst hx2
  simp [r_61, s_61_0, s_61_1, s_61_3, s_61_6, s_61_7, s_61_10, s_61_11, s_61_14, s_61_17, s_61_18, s_61_19, s_61_20, s_61_23, s_61_24, s_61_25, s_61_26, s_61_29, s_61_30, s_61_31, s_61_34, s_61_35, s_61_38, s_61_39, s_61_40, s_61_43, s_61_44, s_61_47, s_61_48, s_61_49, s_61_124, s_61_125, s_61_126, s_61_127, s_61_130, s_61_132, s_61_135, s_61_136, s_61_137, s_61_138, s_61_141, s_61_143, s_61_146, s_61_147, s_61_148, s_61_149, s_61_152, s_61_154, s_61_157, s_61_158, s_61_159, s_61_160, s_61_163, s_61_165, s_61_168, s_61_169, s_61_170, s_61_171, s_61_174, s_61_176, s_61_179, s_61_180, s_61_182, s_61_183, s_61_184, s_61_187, s_61_189, s_61_192, s_61_193, s_61_195, s_61_196, s_61_197, s_61_200, s_61_202, s_61_205, s_61_206, s_61_208, s_61_209, s_61_210, s_61_213, s_61_215, s_61_218, s_61_219, s_61_220, s_61_223, s_61_224, s_61_225, s_61_226, s_61_229, s_61_231, s_61_233, s_61_236, s_61_237, s_61_238, s_61_239, s_61_242, s_61_243, s_61_246, s_61_247, ha_0, hg_0_0, hg_0_1, hg_0_2, hg_0_3, hg_0_4, hq_0_4, hg_0_5, hq_0_5, ha_1, hg_1_0, hg_1_1, hg_1_2, hg_1_3, hg_1_4, hg_1_5, hg_1_6, hg_1_7, hg_1_8, hg_1_9, hg_1_10, hg_1_11, hg_1_12, hq_1_12, ha_2, hg_2_0, hg_2_1, hg_2_2, hg_2_3, hg_2_4, hq_2_4, hl_3, hs_3, hl_4, hs_4, hl_5, hs_5, hl_6, hs_6, hl_7, hs_7, hl_8, hs_8, hl_9, hs_9, hl_10, hs_10, hl_11, hs_11, hl_12, hs_12, hl_13, hs_13, hl_14, hs_14, hl_15, hs_15, hl_16, hs_16, hl_17, hs_17, ha_18, hg_18_0, hg_18_1, hg_18_2, hq_18_2, hg_18_3, hq_18_3, hl_19, hs_19, ha_20, hg_20_0, hg_20_1, ha_21, hg_21_0, hg_21_1, hg_21_2, hg_21_3, hg_21_4, hg_21_5, hg_21_6, hq_21_6, hg_21_7, hg_21_8, hg_21_9, hg_21_10, hq_21_10, hg_21_11, hq_21_11, hg_21_12, hq_21_12, hg_21_13, hq_21_13, hg_21_14, hq_21_14, hg_21_15, hq_21_15, hg_21_16, hq_21_16, hg_21_17, hq_21_17, ha_22, hg_22_0, hg_22_1, hg_22_2, hg_22_3, hg_22_4, hg_22_5, hg_22_6, hq_22_6, hg_22_7, hq_22_7, hg_22_8, hq_22_8, hl_23, hs_23, hl_24, hs_24, hl_25, hs_25, hl_26, hs_26, hl_27, hs_27, ha_28, hg_28_0, hg_28_1, hq_28_1, hl_29, hs_29, hl_30, hs_30, hl_31, hs_31, hl_32, hs_32, hl_33, hs_33, hl_34, hs_34, hl_35, hs_35, am_ld_cons, am_ld_nil, am_st1_cons, am_st1_nil, am_st2_cons, am_st2_nil, am_P1, am_P2, Value.category, am_add_add, am_add0, am_add_some, hl, h1, h2, hq, hq2, e1, ea, hb, eb, g1, g2, g3, e20, hx, e5, k, he]
set_option maxRecDepth 100000 in
set_option maxHeartbeats 4000000 in
theorem c61_pair_f (scr : Nat → Int32) (L F d : Nat) (I : Nat → Nat → Int32) (J : Nat → Nat → Int64) (M : Nat → Nat → Int32) (n p D : Nat) (y : Int32) (h : rdI I n p) (hpn : p < n) (hD : D ≤ 20) (x : Int32) (hx : I 19 p = x) (hx2 : x = 40) (I2 : am_I) (k : am_r scr L (F + 63000) (d + 29) 66 [.ref 19, .int (nI p), .int (nI D)] (hp (beI (adI I (p + 1)) p y) J M) = some (some (.int 0), hp I2 J M, 0, 0)) : am_r scr L (F + 63000) (d + 30) 61 [.ref 19, .int y, .int (nI D)] (hp I J M) = some (some (.int (-1)), hp I2 J M, 0, 0) := by
  have hl : ¬ (20 : Int32) < nI D := by
    rw [show (20 : Int32) = nI 20 by decide +kernel]
    exact nI_nlt hD (by decide)
  obtain ⟨h1, h2, h3, h4, h5⟩ := h
  have hq : ¬ nI n ≤ nI p := nI_ge hpn (by omega)
  have hq2 : nI p < nI n := nI_lt hpn (by omega)
  have e1 : nI p + 1 = nI (p + 1) := nI_1 p
  have g1 : ¬ nI p < 0 := nI_pos (by omega)
  have g2 : (nI p).toNatClampNeg = p := nI_clamp (by omega)
  have g3 : ¬ 100 ≤ p := by omega
  have hb := m_53 scr L (F + 62900) (d + 28) (adI I (p + 1)) J M p y (by omega)
  have e19 : beI (adI I (p + 1)) p y 19 p = x := by
    rw [← hx]
    simp [beI, adI, va_up]
  have e20 : beI (adI I (p + 1)) p y 19 = I 19 := by simp [beI, adI, va_up]
  have e5 := h5 p hpn
  rw [hx] at e5
  have ea : va_up I 18 (upd (I 18) 3 (nI (p + 1))) = adI I (p + 1) := rfl
  have eb : va_up (va_up (va_up (va_up (adI I (p + 1)) 8 (upd (adI I (p + 1) 8) p y)) 9 (upd (adI I (p + 1) 9) p (-1))) 10 (upd (adI I (p + 1) 10) p (-1))) 11 (upd (adI I (p + 1) 11) p (-1)) = beI (adI I (p + 1)) p y := rfl
  subst hx2
  simp [r_61, s_61_0, s_61_1, s_61_3, s_61_6, s_61_7, s_61_10, s_61_11, s_61_14, s_61_17, s_61_18, s_61_19, s_61_20, s_61_23, s_61_24, s_61_25, s_61_26, s_61_29, s_61_30, s_61_31, s_61_34, s_61_35, s_61_38, s_61_39, s_61_40, s_61_43, s_61_44, s_61_47, s_61_48, s_61_49, s_61_124, s_61_125, s_61_126, s_61_127, s_61_130, s_61_132, s_61_135, s_61_136, s_61_137, s_61_138, s_61_141, s_61_143, s_61_146, s_61_147, s_61_148, s_61_149, s_61_152, s_61_154, s_61_157, s_61_158, s_61_159, s_61_160, s_61_163, s_61_165, s_61_168, s_61_169, s_61_170, s_61_171, s_61_174, s_61_176, s_61_179, s_61_180, s_61_182, s_61_183, s_61_184, s_61_187, s_61_189, s_61_192, s_61_193, s_61_195, s_61_196, s_61_197, s_61_200, s_61_202, s_61_205, s_61_206, s_61_208, s_61_209, s_61_210, s_61_213, s_61_215, s_61_218, s_61_219, s_61_220, s_61_223, s_61_224, s_61_225, s_61_226, s_61_229, s_61_231, s_61_233, s_61_236, s_61_237, s_61_238, s_61_239, s_61_242, s_61_243, s_61_246, s_61_247, ha_0, hg_0_0, hg_0_1, hg_0_2, hg_0_3, hg_0_4, hq_0_4, hg_0_5, hq_0_5, ha_1, hg_1_0, hg_1_1, hg_1_2, hg_1_3, hg_1_4, hg_1_5, hg_1_6, hg_1_7, hg_1_8, hg_1_9, hg_1_10, hg_1_11, hg_1_12, hq_1_12, ha_2, hg_2_0, hg_2_1, hg_2_2, hg_2_3, hg_2_4, hq_2_4, hl_3, hs_3, hl_4, hs_4, hl_5, hs_5, hl_6, hs_6, hl_7, hs_7, hl_8, hs_8, hl_9, hs_9, hl_10, hs_10, hl_11, hs_11, hl_12, hs_12, hl_13, hs_13, hl_14, hs_14, hl_15, hs_15, hl_16, hs_16, hl_17, hs_17, ha_18, hg_18_0, hg_18_1, hg_18_2, hq_18_2, hg_18_3, hq_18_3, hl_19, hs_19, ha_20, hg_20_0, hg_20_1, ha_21, hg_21_0, hg_21_1, hg_21_2, hg_21_3, hg_21_4, hg_21_5, hg_21_6, hq_21_6, hg_21_7, hg_21_8, hg_21_9, hg_21_10, hq_21_10, hg_21_11, hq_21_11, hg_21_12, hq_21_12, hg_21_13, hq_21_13, hg_21_14, hq_21_14, hg_21_15, hq_21_15, hg_21_16, hq_21_16, hg_21_17, hq_21_17, ha_22, hg_22_0, hg_22_1, hg_22_2, hg_22_3, hg_22_4, hg_22_5, hg_22_6, hq_22_6, hg_22_7, hq_22_7, hg_22_8, hq_22_8, hl_23, hs_23, hl_24, hs_24, hl_25, hs_25, hl_26, hs_26, hl_27, hs_27, ha_28, hg_28_0, hg_28_1, hq_28_1, hl_29, hs_29, hl_30, hs_30, hl_31, hs_31, hl_32, hs_32, hl_33, hs_33, hl_34, hs_34, hl_35, hs_35, am_ld_cons, am_ld_nil, am_st1_cons, am_st1_nil, am_st2_cons, am_st2_nil, am_P1, am_P2, Value.category, am_add_add, am_add0, am_add_some, hl, h1, h2, hq, hq2, e1, ea, hb, eb, g1, g2, g3, e20, hx, e5, k]
set_option maxRecDepth 100000 in
set_option maxHeartbeats 4000000 in
theorem c61_pair_g (scr : Nat → Int32) (L F d : Nat) (I : Nat → Nat → Int32) (J : Nat → Nat → Int64) (M : Nat → Nat → Int32) (n p D : Nat) (y : Int32) (h : rdI I n p) (hpn : p < n) (hD : D ≤ 20) (x : Int32) (hx : I 19 p = x) (hx2 : x = 40) (I2 : am_I) (K : Nat) (hK : I2 1 12 = nI K) (hK2 : K < 100) (k : am_r scr L (F + 63000) (d + 29) 66 [.ref 19, .int (nI p), .int (nI D)] (hp (beI (adI I (p + 1)) p y) J M) = some (some (.int 1), hp I2 J M, 0, 0)) : am_r scr L (F + 63000) (d + 30) 61 [.ref 19, .int y, .int (nI D)] (hp I J M) = some (some (.int (nI p)), hp (enI I2 K (nI p)) J M, 0, 0) := by
  have hl : ¬ (20 : Int32) < nI D := by
    rw [show (20 : Int32) = nI 20 by decide +kernel]
    exact nI_nlt hD (by decide)
  obtain ⟨h1, h2, h3, h4, h5⟩ := h
  have hq : ¬ nI n ≤ nI p := nI_ge hpn (by omega)
  have hq2 : nI p < nI n := nI_lt hpn (by omega)
  have e1 : nI p + 1 = nI (p + 1) := nI_1 p
  have g1 : ¬ nI p < 0 := nI_pos (by omega)
  have g2 : (nI p).toNatClampNeg = p := nI_clamp (by omega)
  have g3 : ¬ 100 ≤ p := by omega
  have hb := m_53 scr L (F + 62900) (d + 28) (adI I (p + 1)) J M p y (by omega)
  have e19 : beI (adI I (p + 1)) p y 19 p = x := by
    rw [← hx]
    simp [beI, adI, va_up]
  have e20 : beI (adI I (p + 1)) p y 19 = I 19 := by simp [beI, adI, va_up]
  have e5 := h5 p hpn
  rw [hx] at e5
  have ea : va_up I 18 (upd (I 18) 3 (nI (p + 1))) = adI I (p + 1) := rfl
  have eb : va_up (va_up (va_up (va_up (adI I (p + 1)) 8 (upd (adI I (p + 1) 8) p y)) 9 (upd (adI I (p + 1) 9) p (-1))) 10 (upd (adI I (p + 1) 10) p (-1))) 11 (upd (adI I (p + 1) 11) p (-1)) = beI (adI I (p + 1)) p y := rfl
  have he := m_54 scr L (F + 62900) (d + 28) I2 J M K (nI p) hK hK2
  rw [show va_up (va_up I2 17 (upd (I2 17) K (nI p))) 1 (upd (I2 1) 12 (nI (K + 1))) = enI I2 K (nI p) from rfl] at he
  subst hx2
  simp [r_61, s_61_0, s_61_1, s_61_3, s_61_6, s_61_7, s_61_10, s_61_11, s_61_14, s_61_17, s_61_18, s_61_19, s_61_20, s_61_23, s_61_24, s_61_25, s_61_26, s_61_29, s_61_30, s_61_31, s_61_34, s_61_35, s_61_38, s_61_39, s_61_40, s_61_43, s_61_44, s_61_47, s_61_48, s_61_49, s_61_124, s_61_125, s_61_126, s_61_127, s_61_130, s_61_132, s_61_135, s_61_136, s_61_137, s_61_138, s_61_141, s_61_143, s_61_146, s_61_147, s_61_148, s_61_149, s_61_152, s_61_154, s_61_157, s_61_158, s_61_159, s_61_160, s_61_163, s_61_165, s_61_168, s_61_169, s_61_170, s_61_171, s_61_174, s_61_176, s_61_179, s_61_180, s_61_182, s_61_183, s_61_184, s_61_187, s_61_189, s_61_192, s_61_193, s_61_195, s_61_196, s_61_197, s_61_200, s_61_202, s_61_205, s_61_206, s_61_208, s_61_209, s_61_210, s_61_213, s_61_215, s_61_218, s_61_219, s_61_220, s_61_223, s_61_224, s_61_225, s_61_226, s_61_229, s_61_231, s_61_233, s_61_236, s_61_237, s_61_238, s_61_239, s_61_242, s_61_243, s_61_246, s_61_247, ha_0, hg_0_0, hg_0_1, hg_0_2, hg_0_3, hg_0_4, hq_0_4, hg_0_5, hq_0_5, ha_1, hg_1_0, hg_1_1, hg_1_2, hg_1_3, hg_1_4, hg_1_5, hg_1_6, hg_1_7, hg_1_8, hg_1_9, hg_1_10, hg_1_11, hg_1_12, hq_1_12, ha_2, hg_2_0, hg_2_1, hg_2_2, hg_2_3, hg_2_4, hq_2_4, hl_3, hs_3, hl_4, hs_4, hl_5, hs_5, hl_6, hs_6, hl_7, hs_7, hl_8, hs_8, hl_9, hs_9, hl_10, hs_10, hl_11, hs_11, hl_12, hs_12, hl_13, hs_13, hl_14, hs_14, hl_15, hs_15, hl_16, hs_16, hl_17, hs_17, ha_18, hg_18_0, hg_18_1, hg_18_2, hq_18_2, hg_18_3, hq_18_3, hl_19, hs_19, ha_20, hg_20_0, hg_20_1, ha_21, hg_21_0, hg_21_1, hg_21_2, hg_21_3, hg_21_4, hg_21_5, hg_21_6, hq_21_6, hg_21_7, hg_21_8, hg_21_9, hg_21_10, hq_21_10, hg_21_11, hq_21_11, hg_21_12, hq_21_12, hg_21_13, hq_21_13, hg_21_14, hq_21_14, hg_21_15, hq_21_15, hg_21_16, hq_21_16, hg_21_17, hq_21_17, ha_22, hg_22_0, hg_22_1, hg_22_2, hg_22_3, hg_22_4, hg_22_5, hg_22_6, hq_22_6, hg_22_7, hq_22_7, hg_22_8, hq_22_8, hl_23, hs_23, hl_24, hs_24, hl_25, hs_25, hl_26, hs_26, hl_27, hs_27, ha_28, hg_28_0, hg_28_1, hq_28_1, hl_29, hs_29, hl_30, hs_30, hl_31, hs_31, hl_32, hs_32, hl_33, hs_33, hl_34, hs_34, hl_35, hs_35, am_ld_cons, am_ld_nil, am_st1_cons, am_st1_nil, am_st2_cons, am_st2_nil, am_P1, am_P2, Value.category, am_add_add, am_add0, am_add_some, hl, h1, h2, hq, hq2, e1, ea, hb, eb, g1, g2, g3, e20, hx, e5, k, he]
set_option maxRecDepth 100000 in
set_option maxHeartbeats 4000000 in
theorem c61_op_f (scr : Nat → Int32) (L F d : Nat) (I : Nat → Nat → Int32) (J : Nat → Nat → Int64) (M : Nat → Nat → Int32) (n p D : Nat) (y : Int32) (h : rdI I n p) (hpn : p < n) (hD : D ≤ 20) (x : Int32) (hx : I 19 p = x) (hx2 : x = 123) (I2 : am_I) (k : am_r scr L (F + 63000) (d + 29) 67 [.ref 19, .int (nI p), .int (nI D)] (hp (beI (adI I (p + 1)) p y) J M) = some (some (.int 0), hp I2 J M, 0, 0)) : am_r scr L (F + 63000) (d + 30) 61 [.ref 19, .int y, .int (nI D)] (hp I J M) = some (some (.int (-1)), hp I2 J M, 0, 0) := by
  have hl : ¬ (20 : Int32) < nI D := by
    rw [show (20 : Int32) = nI 20 by decide +kernel]
    exact nI_nlt hD (by decide)
  obtain ⟨h1, h2, h3, h4, h5⟩ := h
  have hq : ¬ nI n ≤ nI p := nI_ge hpn (by omega)
  have hq2 : nI p < nI n := nI_lt hpn (by omega)
  have e1 : nI p + 1 = nI (p + 1) := nI_1 p
  have g1 : ¬ nI p < 0 := nI_pos (by omega)
  have g2 : (nI p).toNatClampNeg = p := nI_clamp (by omega)
  have g3 : ¬ 100 ≤ p := by omega
  have hb := m_53 scr L (F + 62900) (d + 28) (adI I (p + 1)) J M p y (by omega)
  have e19 : beI (adI I (p + 1)) p y 19 p = x := by
    rw [← hx]
    simp [beI, adI, va_up]
  have e20 : beI (adI I (p + 1)) p y 19 = I 19 := by simp [beI, adI, va_up]
  have e5 := h5 p hpn
  rw [hx] at e5
  have ea : va_up I 18 (upd (I 18) 3 (nI (p + 1))) = adI I (p + 1) := rfl
  have eb : va_up (va_up (va_up (va_up (adI I (p + 1)) 8 (upd (adI I (p + 1) 8) p y)) 9 (upd (adI I (p + 1) 9) p (-1))) 10 (upd (adI I (p + 1) 10) p (-1))) 11 (upd (adI I (p + 1) 11) p (-1)) = beI (adI I (p + 1)) p y := rfl
  subst hx2
  simp [r_61, s_61_0, s_61_1, s_61_3, s_61_6, s_61_7, s_61_10, s_61_11, s_61_14, s_61_17, s_61_18, s_61_19, s_61_20, s_61_23, s_61_24, s_61_25, s_61_26, s_61_29, s_61_30, s_61_31, s_61_34, s_61_35, s_61_38, s_61_39, s_61_40, s_61_43, s_61_44, s_61_47, s_61_48, s_61_49, s_61_124, s_61_125, s_61_126, s_61_127, s_61_130, s_61_132, s_61_135, s_61_136, s_61_137, s_61_138, s_61_141, s_61_143, s_61_146, s_61_147, s_61_148, s_61_149, s_61_152, s_61_154, s_61_157, s_61_158, s_61_159, s_61_160, s_61_163, s_61_165, s_61_168, s_61_169, s_61_170, s_61_171, s_61_174, s_61_176, s_61_179, s_61_180, s_61_182, s_61_183, s_61_184, s_61_187, s_61_189, s_61_192, s_61_193, s_61_195, s_61_196, s_61_197, s_61_200, s_61_202, s_61_205, s_61_206, s_61_208, s_61_209, s_61_210, s_61_213, s_61_215, s_61_218, s_61_219, s_61_220, s_61_223, s_61_224, s_61_225, s_61_226, s_61_229, s_61_231, s_61_233, s_61_236, s_61_237, s_61_238, s_61_239, s_61_242, s_61_243, s_61_246, s_61_247, ha_0, hg_0_0, hg_0_1, hg_0_2, hg_0_3, hg_0_4, hq_0_4, hg_0_5, hq_0_5, ha_1, hg_1_0, hg_1_1, hg_1_2, hg_1_3, hg_1_4, hg_1_5, hg_1_6, hg_1_7, hg_1_8, hg_1_9, hg_1_10, hg_1_11, hg_1_12, hq_1_12, ha_2, hg_2_0, hg_2_1, hg_2_2, hg_2_3, hg_2_4, hq_2_4, hl_3, hs_3, hl_4, hs_4, hl_5, hs_5, hl_6, hs_6, hl_7, hs_7, hl_8, hs_8, hl_9, hs_9, hl_10, hs_10, hl_11, hs_11, hl_12, hs_12, hl_13, hs_13, hl_14, hs_14, hl_15, hs_15, hl_16, hs_16, hl_17, hs_17, ha_18, hg_18_0, hg_18_1, hg_18_2, hq_18_2, hg_18_3, hq_18_3, hl_19, hs_19, ha_20, hg_20_0, hg_20_1, ha_21, hg_21_0, hg_21_1, hg_21_2, hg_21_3, hg_21_4, hg_21_5, hg_21_6, hq_21_6, hg_21_7, hg_21_8, hg_21_9, hg_21_10, hq_21_10, hg_21_11, hq_21_11, hg_21_12, hq_21_12, hg_21_13, hq_21_13, hg_21_14, hq_21_14, hg_21_15, hq_21_15, hg_21_16, hq_21_16, hg_21_17, hq_21_17, ha_22, hg_22_0, hg_22_1, hg_22_2, hg_22_3, hg_22_4, hg_22_5, hg_22_6, hq_22_6, hg_22_7, hq_22_7, hg_22_8, hq_22_8, hl_23, hs_23, hl_24, hs_24, hl_25, hs_25, hl_26, hs_26, hl_27, hs_27, ha_28, hg_28_0, hg_28_1, hq_28_1, hl_29, hs_29, hl_30, hs_30, hl_31, hs_31, hl_32, hs_32, hl_33, hs_33, hl_34, hs_34, hl_35, hs_35, am_ld_cons, am_ld_nil, am_st1_cons, am_st1_nil, am_st2_cons, am_st2_nil, am_P1, am_P2, Value.category, am_add_add, am_add0, am_add_some, hl, h1, h2, hq, hq2, e1, ea, hb, eb, g1, g2, g3, e20, hx, e5, k]
set_option maxRecDepth 100000 in
set_option maxHeartbeats 4000000 in
theorem c61_op_g (scr : Nat → Int32) (L F d : Nat) (I : Nat → Nat → Int32) (J : Nat → Nat → Int64) (M : Nat → Nat → Int32) (n p D : Nat) (y : Int32) (h : rdI I n p) (hpn : p < n) (hD : D ≤ 20) (x : Int32) (hx : I 19 p = x) (hx2 : x = 123) (I2 : am_I) (K : Nat) (hK : I2 1 12 = nI K) (hK2 : K < 100) (k : am_r scr L (F + 63000) (d + 29) 67 [.ref 19, .int (nI p), .int (nI D)] (hp (beI (adI I (p + 1)) p y) J M) = some (some (.int 1), hp I2 J M, 0, 0)) : am_r scr L (F + 63000) (d + 30) 61 [.ref 19, .int y, .int (nI D)] (hp I J M) = some (some (.int (nI p)), hp (enI I2 K (nI p)) J M, 0, 0) := by
  have hl : ¬ (20 : Int32) < nI D := by
    rw [show (20 : Int32) = nI 20 by decide +kernel]
    exact nI_nlt hD (by decide)
  obtain ⟨h1, h2, h3, h4, h5⟩ := h
  have hq : ¬ nI n ≤ nI p := nI_ge hpn (by omega)
  have hq2 : nI p < nI n := nI_lt hpn (by omega)
  have e1 : nI p + 1 = nI (p + 1) := nI_1 p
  have g1 : ¬ nI p < 0 := nI_pos (by omega)
  have g2 : (nI p).toNatClampNeg = p := nI_clamp (by omega)
  have g3 : ¬ 100 ≤ p := by omega
  have hb := m_53 scr L (F + 62900) (d + 28) (adI I (p + 1)) J M p y (by omega)
  have e19 : beI (adI I (p + 1)) p y 19 p = x := by
    rw [← hx]
    simp [beI, adI, va_up]
  have e20 : beI (adI I (p + 1)) p y 19 = I 19 := by simp [beI, adI, va_up]
  have e5 := h5 p hpn
  rw [hx] at e5
  have ea : va_up I 18 (upd (I 18) 3 (nI (p + 1))) = adI I (p + 1) := rfl
  have eb : va_up (va_up (va_up (va_up (adI I (p + 1)) 8 (upd (adI I (p + 1) 8) p y)) 9 (upd (adI I (p + 1) 9) p (-1))) 10 (upd (adI I (p + 1) 10) p (-1))) 11 (upd (adI I (p + 1) 11) p (-1)) = beI (adI I (p + 1)) p y := rfl
  have he := m_54 scr L (F + 62900) (d + 28) I2 J M K (nI p) hK hK2
  rw [show va_up (va_up I2 17 (upd (I2 17) K (nI p))) 1 (upd (I2 1) 12 (nI (K + 1))) = enI I2 K (nI p) from rfl] at he
  subst hx2
  simp [r_61, s_61_0, s_61_1, s_61_3, s_61_6, s_61_7, s_61_10, s_61_11, s_61_14, s_61_17, s_61_18, s_61_19, s_61_20, s_61_23, s_61_24, s_61_25, s_61_26, s_61_29, s_61_30, s_61_31, s_61_34, s_61_35, s_61_38, s_61_39, s_61_40, s_61_43, s_61_44, s_61_47, s_61_48, s_61_49, s_61_124, s_61_125, s_61_126, s_61_127, s_61_130, s_61_132, s_61_135, s_61_136, s_61_137, s_61_138, s_61_141, s_61_143, s_61_146, s_61_147, s_61_148, s_61_149, s_61_152, s_61_154, s_61_157, s_61_158, s_61_159, s_61_160, s_61_163, s_61_165, s_61_168, s_61_169, s_61_170, s_61_171, s_61_174, s_61_176, s_61_179, s_61_180, s_61_182, s_61_183, s_61_184, s_61_187, s_61_189, s_61_192, s_61_193, s_61_195, s_61_196, s_61_197, s_61_200, s_61_202, s_61_205, s_61_206, s_61_208, s_61_209, s_61_210, s_61_213, s_61_215, s_61_218, s_61_219, s_61_220, s_61_223, s_61_224, s_61_225, s_61_226, s_61_229, s_61_231, s_61_233, s_61_236, s_61_237, s_61_238, s_61_239, s_61_242, s_61_243, s_61_246, s_61_247, ha_0, hg_0_0, hg_0_1, hg_0_2, hg_0_3, hg_0_4, hq_0_4, hg_0_5, hq_0_5, ha_1, hg_1_0, hg_1_1, hg_1_2, hg_1_3, hg_1_4, hg_1_5, hg_1_6, hg_1_7, hg_1_8, hg_1_9, hg_1_10, hg_1_11, hg_1_12, hq_1_12, ha_2, hg_2_0, hg_2_1, hg_2_2, hg_2_3, hg_2_4, hq_2_4, hl_3, hs_3, hl_4, hs_4, hl_5, hs_5, hl_6, hs_6, hl_7, hs_7, hl_8, hs_8, hl_9, hs_9, hl_10, hs_10, hl_11, hs_11, hl_12, hs_12, hl_13, hs_13, hl_14, hs_14, hl_15, hs_15, hl_16, hs_16, hl_17, hs_17, ha_18, hg_18_0, hg_18_1, hg_18_2, hq_18_2, hg_18_3, hq_18_3, hl_19, hs_19, ha_20, hg_20_0, hg_20_1, ha_21, hg_21_0, hg_21_1, hg_21_2, hg_21_3, hg_21_4, hg_21_5, hg_21_6, hq_21_6, hg_21_7, hg_21_8, hg_21_9, hg_21_10, hq_21_10, hg_21_11, hq_21_11, hg_21_12, hq_21_12, hg_21_13, hq_21_13, hg_21_14, hq_21_14, hg_21_15, hq_21_15, hg_21_16, hq_21_16, hg_21_17, hq_21_17, ha_22, hg_22_0, hg_22_1, hg_22_2, hg_22_3, hg_22_4, hg_22_5, hg_22_6, hq_22_6, hg_22_7, hq_22_7, hg_22_8, hq_22_8, hl_23, hs_23, hl_24, hs_24, hl_25, hs_25, hl_26, hs_26, hl_27, hs_27, ha_28, hg_28_0, hg_28_1, hq_28_1, hl_29, hs_29, hl_30, hs_30, hl_31, hs_31, hl_32, hs_32, hl_33, hs_33, hl_34, hs_34, hl_35, hs_35, am_ld_cons, am_ld_nil, am_st1_cons, am_st1_nil, am_st2_cons, am_st2_nil, am_P1, am_P2, Value.category, am_add_add, am_add0, am_add_some, hl, h1, h2, hq, hq2, e1, ea, hb, eb, g1, g2, g3, e20, hx, e5, k, he]
set_option maxRecDepth 100000 in
set_option maxHeartbeats 4000000 in
theorem c61_ch_f (scr : Nat → Int32) (L F d : Nat) (I : Nat → Nat → Int32) (J : Nat → Nat → Int64) (M : Nat → Nat → Int32) (n p D : Nat) (y : Int32) (h : rdI I n p) (hpn : p < n) (hD : D ≤ 20) (x : Int32) (hx : I 19 p = x) (hx2 : x = 91) (I2 : am_I) (k : am_r scr L (F + 63000) (d + 29) 68 [.ref 19, .int (nI p), .int (nI D)] (hp (beI (adI I (p + 1)) p y) J M) = some (some (.int 0), hp I2 J M, 0, 0)) : am_r scr L (F + 63000) (d + 30) 61 [.ref 19, .int y, .int (nI D)] (hp I J M) = some (some (.int (-1)), hp I2 J M, 0, 0) := by
  have hl : ¬ (20 : Int32) < nI D := by
    rw [show (20 : Int32) = nI 20 by decide +kernel]
    exact nI_nlt hD (by decide)
  obtain ⟨h1, h2, h3, h4, h5⟩ := h
  have hq : ¬ nI n ≤ nI p := nI_ge hpn (by omega)
  have hq2 : nI p < nI n := nI_lt hpn (by omega)
  have e1 : nI p + 1 = nI (p + 1) := nI_1 p
  have g1 : ¬ nI p < 0 := nI_pos (by omega)
  have g2 : (nI p).toNatClampNeg = p := nI_clamp (by omega)
  have g3 : ¬ 100 ≤ p := by omega
  have hb := m_53 scr L (F + 62900) (d + 28) (adI I (p + 1)) J M p y (by omega)
  have e19 : beI (adI I (p + 1)) p y 19 p = x := by
    rw [← hx]
    simp [beI, adI, va_up]
  have e20 : beI (adI I (p + 1)) p y 19 = I 19 := by simp [beI, adI, va_up]
  have e5 := h5 p hpn
  rw [hx] at e5
  have ea : va_up I 18 (upd (I 18) 3 (nI (p + 1))) = adI I (p + 1) := rfl
  have eb : va_up (va_up (va_up (va_up (adI I (p + 1)) 8 (upd (adI I (p + 1) 8) p y)) 9 (upd (adI I (p + 1) 9) p (-1))) 10 (upd (adI I (p + 1) 10) p (-1))) 11 (upd (adI I (p + 1) 11) p (-1)) = beI (adI I (p + 1)) p y := rfl
  subst hx2
  simp [r_61, s_61_0, s_61_1, s_61_3, s_61_6, s_61_7, s_61_10, s_61_11, s_61_14, s_61_17, s_61_18, s_61_19, s_61_20, s_61_23, s_61_24, s_61_25, s_61_26, s_61_29, s_61_30, s_61_31, s_61_34, s_61_35, s_61_38, s_61_39, s_61_40, s_61_43, s_61_44, s_61_47, s_61_48, s_61_49, s_61_124, s_61_125, s_61_126, s_61_127, s_61_130, s_61_132, s_61_135, s_61_136, s_61_137, s_61_138, s_61_141, s_61_143, s_61_146, s_61_147, s_61_148, s_61_149, s_61_152, s_61_154, s_61_157, s_61_158, s_61_159, s_61_160, s_61_163, s_61_165, s_61_168, s_61_169, s_61_170, s_61_171, s_61_174, s_61_176, s_61_179, s_61_180, s_61_182, s_61_183, s_61_184, s_61_187, s_61_189, s_61_192, s_61_193, s_61_195, s_61_196, s_61_197, s_61_200, s_61_202, s_61_205, s_61_206, s_61_208, s_61_209, s_61_210, s_61_213, s_61_215, s_61_218, s_61_219, s_61_220, s_61_223, s_61_224, s_61_225, s_61_226, s_61_229, s_61_231, s_61_233, s_61_236, s_61_237, s_61_238, s_61_239, s_61_242, s_61_243, s_61_246, s_61_247, ha_0, hg_0_0, hg_0_1, hg_0_2, hg_0_3, hg_0_4, hq_0_4, hg_0_5, hq_0_5, ha_1, hg_1_0, hg_1_1, hg_1_2, hg_1_3, hg_1_4, hg_1_5, hg_1_6, hg_1_7, hg_1_8, hg_1_9, hg_1_10, hg_1_11, hg_1_12, hq_1_12, ha_2, hg_2_0, hg_2_1, hg_2_2, hg_2_3, hg_2_4, hq_2_4, hl_3, hs_3, hl_4, hs_4, hl_5, hs_5, hl_6, hs_6, hl_7, hs_7, hl_8, hs_8, hl_9, hs_9, hl_10, hs_10, hl_11, hs_11, hl_12, hs_12, hl_13, hs_13, hl_14, hs_14, hl_15, hs_15, hl_16, hs_16, hl_17, hs_17, ha_18, hg_18_0, hg_18_1, hg_18_2, hq_18_2, hg_18_3, hq_18_3, hl_19, hs_19, ha_20, hg_20_0, hg_20_1, ha_21, hg_21_0, hg_21_1, hg_21_2, hg_21_3, hg_21_4, hg_21_5, hg_21_6, hq_21_6, hg_21_7, hg_21_8, hg_21_9, hg_21_10, hq_21_10, hg_21_11, hq_21_11, hg_21_12, hq_21_12, hg_21_13, hq_21_13, hg_21_14, hq_21_14, hg_21_15, hq_21_15, hg_21_16, hq_21_16, hg_21_17, hq_21_17, ha_22, hg_22_0, hg_22_1, hg_22_2, hg_22_3, hg_22_4, hg_22_5, hg_22_6, hq_22_6, hg_22_7, hq_22_7, hg_22_8, hq_22_8, hl_23, hs_23, hl_24, hs_24, hl_25, hs_25, hl_26, hs_26, hl_27, hs_27, ha_28, hg_28_0, hg_28_1, hq_28_1, hl_29, hs_29, hl_30, hs_30, hl_31, hs_31, hl_32, hs_32, hl_33, hs_33, hl_34, hs_34, hl_35, hs_35, am_ld_cons, am_ld_nil, am_st1_cons, am_st1_nil, am_st2_cons, am_st2_nil, am_P1, am_P2, Value.category, am_add_add, am_add0, am_add_some, hl, h1, h2, hq, hq2, e1, ea, hb, eb, g1, g2, g3, e20, hx, e5, k]
set_option maxRecDepth 100000 in
set_option maxHeartbeats 4000000 in
theorem c61_ch_g (scr : Nat → Int32) (L F d : Nat) (I : Nat → Nat → Int32) (J : Nat → Nat → Int64) (M : Nat → Nat → Int32) (n p D : Nat) (y : Int32) (h : rdI I n p) (hpn : p < n) (hD : D ≤ 20) (x : Int32) (hx : I 19 p = x) (hx2 : x = 91) (I2 : am_I) (K : Nat) (hK : I2 1 12 = nI K) (hK2 : K < 100) (k : am_r scr L (F + 63000) (d + 29) 68 [.ref 19, .int (nI p), .int (nI D)] (hp (beI (adI I (p + 1)) p y) J M) = some (some (.int 1), hp I2 J M, 0, 0)) : am_r scr L (F + 63000) (d + 30) 61 [.ref 19, .int y, .int (nI D)] (hp I J M) = some (some (.int (nI p)), hp (enI I2 K (nI p)) J M, 0, 0) := by
  have hl : ¬ (20 : Int32) < nI D := by
    rw [show (20 : Int32) = nI 20 by decide +kernel]
    exact nI_nlt hD (by decide)
  obtain ⟨h1, h2, h3, h4, h5⟩ := h
  have hq : ¬ nI n ≤ nI p := nI_ge hpn (by omega)
  have hq2 : nI p < nI n := nI_lt hpn (by omega)
  have e1 : nI p + 1 = nI (p + 1) := nI_1 p
  have g1 : ¬ nI p < 0 := nI_pos (by omega)
  have g2 : (nI p).toNatClampNeg = p := nI_clamp (by omega)
  have g3 : ¬ 100 ≤ p := by omega
  have hb := m_53 scr L (F + 62900) (d + 28) (adI I (p + 1)) J M p y (by omega)
  have e19 : beI (adI I (p + 1)) p y 19 p = x := by
    rw [← hx]
    simp [beI, adI, va_up]
  have e20 : beI (adI I (p + 1)) p y 19 = I 19 := by simp [beI, adI, va_up]
  have e5 := h5 p hpn
  rw [hx] at e5
  have ea : va_up I 18 (upd (I 18) 3 (nI (p + 1))) = adI I (p + 1) := rfl
  have eb : va_up (va_up (va_up (va_up (adI I (p + 1)) 8 (upd (adI I (p + 1) 8) p y)) 9 (upd (adI I (p + 1) 9) p (-1))) 10 (upd (adI I (p + 1) 10) p (-1))) 11 (upd (adI I (p + 1) 11) p (-1)) = beI (adI I (p + 1)) p y := rfl
  have he := m_54 scr L (F + 62900) (d + 28) I2 J M K (nI p) hK hK2
  rw [show va_up (va_up I2 17 (upd (I2 17) K (nI p))) 1 (upd (I2 1) 12 (nI (K + 1))) = enI I2 K (nI p) from rfl] at he
  subst hx2
  simp [r_61, s_61_0, s_61_1, s_61_3, s_61_6, s_61_7, s_61_10, s_61_11, s_61_14, s_61_17, s_61_18, s_61_19, s_61_20, s_61_23, s_61_24, s_61_25, s_61_26, s_61_29, s_61_30, s_61_31, s_61_34, s_61_35, s_61_38, s_61_39, s_61_40, s_61_43, s_61_44, s_61_47, s_61_48, s_61_49, s_61_124, s_61_125, s_61_126, s_61_127, s_61_130, s_61_132, s_61_135, s_61_136, s_61_137, s_61_138, s_61_141, s_61_143, s_61_146, s_61_147, s_61_148, s_61_149, s_61_152, s_61_154, s_61_157, s_61_158, s_61_159, s_61_160, s_61_163, s_61_165, s_61_168, s_61_169, s_61_170, s_61_171, s_61_174, s_61_176, s_61_179, s_61_180, s_61_182, s_61_183, s_61_184, s_61_187, s_61_189, s_61_192, s_61_193, s_61_195, s_61_196, s_61_197, s_61_200, s_61_202, s_61_205, s_61_206, s_61_208, s_61_209, s_61_210, s_61_213, s_61_215, s_61_218, s_61_219, s_61_220, s_61_223, s_61_224, s_61_225, s_61_226, s_61_229, s_61_231, s_61_233, s_61_236, s_61_237, s_61_238, s_61_239, s_61_242, s_61_243, s_61_246, s_61_247, ha_0, hg_0_0, hg_0_1, hg_0_2, hg_0_3, hg_0_4, hq_0_4, hg_0_5, hq_0_5, ha_1, hg_1_0, hg_1_1, hg_1_2, hg_1_3, hg_1_4, hg_1_5, hg_1_6, hg_1_7, hg_1_8, hg_1_9, hg_1_10, hg_1_11, hg_1_12, hq_1_12, ha_2, hg_2_0, hg_2_1, hg_2_2, hg_2_3, hg_2_4, hq_2_4, hl_3, hs_3, hl_4, hs_4, hl_5, hs_5, hl_6, hs_6, hl_7, hs_7, hl_8, hs_8, hl_9, hs_9, hl_10, hs_10, hl_11, hs_11, hl_12, hs_12, hl_13, hs_13, hl_14, hs_14, hl_15, hs_15, hl_16, hs_16, hl_17, hs_17, ha_18, hg_18_0, hg_18_1, hg_18_2, hq_18_2, hg_18_3, hq_18_3, hl_19, hs_19, ha_20, hg_20_0, hg_20_1, ha_21, hg_21_0, hg_21_1, hg_21_2, hg_21_3, hg_21_4, hg_21_5, hg_21_6, hq_21_6, hg_21_7, hg_21_8, hg_21_9, hg_21_10, hq_21_10, hg_21_11, hq_21_11, hg_21_12, hq_21_12, hg_21_13, hq_21_13, hg_21_14, hq_21_14, hg_21_15, hq_21_15, hg_21_16, hq_21_16, hg_21_17, hq_21_17, ha_22, hg_22_0, hg_22_1, hg_22_2, hg_22_3, hg_22_4, hg_22_5, hg_22_6, hq_22_6, hg_22_7, hq_22_7, hg_22_8, hq_22_8, hl_23, hs_23, hl_24, hs_24, hl_25, hs_25, hl_26, hs_26, hl_27, hs_27, ha_28, hg_28_0, hg_28_1, hq_28_1, hl_29, hs_29, hl_30, hs_30, hl_31, hs_31, hl_32, hs_32, hl_33, hs_33, hl_34, hs_34, hl_35, hs_35, am_ld_cons, am_ld_nil, am_st1_cons, am_st1_nil, am_st2_cons, am_st2_nil, am_P1, am_P2, Value.category, am_add_add, am_add0, am_add_some, hl, h1, h2, hq, hq2, e1, ea, hb, eb, g1, g2, g3, e20, hx, e5, k, he]
set_option maxRecDepth 100000 in
set_option maxHeartbeats 4000000 in
theorem c61_cast_f (scr : Nat → Int32) (L F d : Nat) (I : Nat → Nat → Int32) (J : Nat → Nat → Int64) (M : Nat → Nat → Int32) (n p D : Nat) (y : Int32) (h : rdI I n p) (hpn : p < n) (hD : D ≤ 20) (x : Int32) (hx : I 19 p = x) (hx2 : x = 60) (I2 : am_I) (k : am_r scr L (F + 63000) (d + 29) 69 [.ref 19, .int (nI p), .int (nI D)] (hp (beI (adI I (p + 1)) p y) J M) = some (some (.int 0), hp I2 J M, 0, 0)) : am_r scr L (F + 63000) (d + 30) 61 [.ref 19, .int y, .int (nI D)] (hp I J M) = some (some (.int (-1)), hp I2 J M, 0, 0) := by
  have hl : ¬ (20 : Int32) < nI D := by
    rw [show (20 : Int32) = nI 20 by decide +kernel]
    exact nI_nlt hD (by decide)
  obtain ⟨h1, h2, h3, h4, h5⟩ := h
  have hq : ¬ nI n ≤ nI p := nI_ge hpn (by omega)
  have hq2 : nI p < nI n := nI_lt hpn (by omega)
  have e1 : nI p + 1 = nI (p + 1) := nI_1 p
  have g1 : ¬ nI p < 0 := nI_pos (by omega)
  have g2 : (nI p).toNatClampNeg = p := nI_clamp (by omega)
  have g3 : ¬ 100 ≤ p := by omega
  have hb := m_53 scr L (F + 62900) (d + 28) (adI I (p + 1)) J M p y (by omega)
  have e19 : beI (adI I (p + 1)) p y 19 p = x := by
    rw [← hx]
    simp [beI, adI, va_up]
  have e20 : beI (adI I (p + 1)) p y 19 = I 19 := by simp [beI, adI, va_up]
  have e5 := h5 p hpn
  rw [hx] at e5
  have ea : va_up I 18 (upd (I 18) 3 (nI (p + 1))) = adI I (p + 1) := rfl
  have eb : va_up (va_up (va_up (va_up (adI I (p + 1)) 8 (upd (adI I (p + 1) 8) p y)) 9 (upd (adI I (p + 1) 9) p (-1))) 10 (upd (adI I (p + 1) 10) p (-1))) 11 (upd (adI I (p + 1) 11) p (-1)) = beI (adI I (p + 1)) p y := rfl
  subst hx2
  simp [r_61, s_61_0, s_61_1, s_61_3, s_61_6, s_61_7, s_61_10, s_61_11, s_61_14, s_61_17, s_61_18, s_61_19, s_61_20, s_61_23, s_61_24, s_61_25, s_61_26, s_61_29, s_61_30, s_61_31, s_61_34, s_61_35, s_61_38, s_61_39, s_61_40, s_61_43, s_61_44, s_61_47, s_61_48, s_61_49, s_61_124, s_61_125, s_61_126, s_61_127, s_61_130, s_61_132, s_61_135, s_61_136, s_61_137, s_61_138, s_61_141, s_61_143, s_61_146, s_61_147, s_61_148, s_61_149, s_61_152, s_61_154, s_61_157, s_61_158, s_61_159, s_61_160, s_61_163, s_61_165, s_61_168, s_61_169, s_61_170, s_61_171, s_61_174, s_61_176, s_61_179, s_61_180, s_61_182, s_61_183, s_61_184, s_61_187, s_61_189, s_61_192, s_61_193, s_61_195, s_61_196, s_61_197, s_61_200, s_61_202, s_61_205, s_61_206, s_61_208, s_61_209, s_61_210, s_61_213, s_61_215, s_61_218, s_61_219, s_61_220, s_61_223, s_61_224, s_61_225, s_61_226, s_61_229, s_61_231, s_61_233, s_61_236, s_61_237, s_61_238, s_61_239, s_61_242, s_61_243, s_61_246, s_61_247, ha_0, hg_0_0, hg_0_1, hg_0_2, hg_0_3, hg_0_4, hq_0_4, hg_0_5, hq_0_5, ha_1, hg_1_0, hg_1_1, hg_1_2, hg_1_3, hg_1_4, hg_1_5, hg_1_6, hg_1_7, hg_1_8, hg_1_9, hg_1_10, hg_1_11, hg_1_12, hq_1_12, ha_2, hg_2_0, hg_2_1, hg_2_2, hg_2_3, hg_2_4, hq_2_4, hl_3, hs_3, hl_4, hs_4, hl_5, hs_5, hl_6, hs_6, hl_7, hs_7, hl_8, hs_8, hl_9, hs_9, hl_10, hs_10, hl_11, hs_11, hl_12, hs_12, hl_13, hs_13, hl_14, hs_14, hl_15, hs_15, hl_16, hs_16, hl_17, hs_17, ha_18, hg_18_0, hg_18_1, hg_18_2, hq_18_2, hg_18_3, hq_18_3, hl_19, hs_19, ha_20, hg_20_0, hg_20_1, ha_21, hg_21_0, hg_21_1, hg_21_2, hg_21_3, hg_21_4, hg_21_5, hg_21_6, hq_21_6, hg_21_7, hg_21_8, hg_21_9, hg_21_10, hq_21_10, hg_21_11, hq_21_11, hg_21_12, hq_21_12, hg_21_13, hq_21_13, hg_21_14, hq_21_14, hg_21_15, hq_21_15, hg_21_16, hq_21_16, hg_21_17, hq_21_17, ha_22, hg_22_0, hg_22_1, hg_22_2, hg_22_3, hg_22_4, hg_22_5, hg_22_6, hq_22_6, hg_22_7, hq_22_7, hg_22_8, hq_22_8, hl_23, hs_23, hl_24, hs_24, hl_25, hs_25, hl_26, hs_26, hl_27, hs_27, ha_28, hg_28_0, hg_28_1, hq_28_1, hl_29, hs_29, hl_30, hs_30, hl_31, hs_31, hl_32, hs_32, hl_33, hs_33, hl_34, hs_34, hl_35, hs_35, am_ld_cons, am_ld_nil, am_st1_cons, am_st1_nil, am_st2_cons, am_st2_nil, am_P1, am_P2, Value.category, am_add_add, am_add0, am_add_some, hl, h1, h2, hq, hq2, e1, ea, hb, eb, g1, g2, g3, e20, hx, e5, k]
set_option maxRecDepth 100000 in
set_option maxHeartbeats 4000000 in
theorem c61_cast_g (scr : Nat → Int32) (L F d : Nat) (I : Nat → Nat → Int32) (J : Nat → Nat → Int64) (M : Nat → Nat → Int32) (n p D : Nat) (y : Int32) (h : rdI I n p) (hpn : p < n) (hD : D ≤ 20) (x : Int32) (hx : I 19 p = x) (hx2 : x = 60) (I2 : am_I) (K : Nat) (hK : I2 1 12 = nI K) (hK2 : K < 100) (k : am_r scr L (F + 63000) (d + 29) 69 [.ref 19, .int (nI p), .int (nI D)] (hp (beI (adI I (p + 1)) p y) J M) = some (some (.int 1), hp I2 J M, 0, 0)) : am_r scr L (F + 63000) (d + 30) 61 [.ref 19, .int y, .int (nI D)] (hp I J M) = some (some (.int (nI p)), hp (enI I2 K (nI p)) J M, 0, 0) := by
  have hl : ¬ (20 : Int32) < nI D := by
    rw [show (20 : Int32) = nI 20 by decide +kernel]
    exact nI_nlt hD (by decide)
  obtain ⟨h1, h2, h3, h4, h5⟩ := h
  have hq : ¬ nI n ≤ nI p := nI_ge hpn (by omega)
  have hq2 : nI p < nI n := nI_lt hpn (by omega)
  have e1 : nI p + 1 = nI (p + 1) := nI_1 p
  have g1 : ¬ nI p < 0 := nI_pos (by omega)
  have g2 : (nI p).toNatClampNeg = p := nI_clamp (by omega)
  have g3 : ¬ 100 ≤ p := by omega
  have hb := m_53 scr L (F + 62900) (d + 28) (adI I (p + 1)) J M p y (by omega)
  have e19 : beI (adI I (p + 1)) p y 19 p = x := by
    rw [← hx]
    simp [beI, adI, va_up]
  have e20 : beI (adI I (p + 1)) p y 19 = I 19 := by simp [beI, adI, va_up]
  have e5 := h5 p hpn
  rw [hx] at e5
  have ea : va_up I 18 (upd (I 18) 3 (nI (p + 1))) = adI I (p + 1) := rfl
  have eb : va_up (va_up (va_up (va_up (adI I (p + 1)) 8 (upd (adI I (p + 1) 8) p y)) 9 (upd (adI I (p + 1) 9) p (-1))) 10 (upd (adI I (p + 1) 10) p (-1))) 11 (upd (adI I (p + 1) 11) p (-1)) = beI (adI I (p + 1)) p y := rfl
  have he := m_54 scr L (F + 62900) (d + 28) I2 J M K (nI p) hK hK2
  rw [show va_up (va_up I2 17 (upd (I2 17) K (nI p))) 1 (upd (I2 1) 12 (nI (K + 1))) = enI I2 K (nI p) from rfl] at he
  subst hx2
  simp [r_61, s_61_0, s_61_1, s_61_3, s_61_6, s_61_7, s_61_10, s_61_11, s_61_14, s_61_17, s_61_18, s_61_19, s_61_20, s_61_23, s_61_24, s_61_25, s_61_26, s_61_29, s_61_30, s_61_31, s_61_34, s_61_35, s_61_38, s_61_39, s_61_40, s_61_43, s_61_44, s_61_47, s_61_48, s_61_49, s_61_124, s_61_125, s_61_126, s_61_127, s_61_130, s_61_132, s_61_135, s_61_136, s_61_137, s_61_138, s_61_141, s_61_143, s_61_146, s_61_147, s_61_148, s_61_149, s_61_152, s_61_154, s_61_157, s_61_158, s_61_159, s_61_160, s_61_163, s_61_165, s_61_168, s_61_169, s_61_170, s_61_171, s_61_174, s_61_176, s_61_179, s_61_180, s_61_182, s_61_183, s_61_184, s_61_187, s_61_189, s_61_192, s_61_193, s_61_195, s_61_196, s_61_197, s_61_200, s_61_202, s_61_205, s_61_206, s_61_208, s_61_209, s_61_210, s_61_213, s_61_215, s_61_218, s_61_219, s_61_220, s_61_223, s_61_224, s_61_225, s_61_226, s_61_229, s_61_231, s_61_233, s_61_236, s_61_237, s_61_238, s_61_239, s_61_242, s_61_243, s_61_246, s_61_247, ha_0, hg_0_0, hg_0_1, hg_0_2, hg_0_3, hg_0_4, hq_0_4, hg_0_5, hq_0_5, ha_1, hg_1_0, hg_1_1, hg_1_2, hg_1_3, hg_1_4, hg_1_5, hg_1_6, hg_1_7, hg_1_8, hg_1_9, hg_1_10, hg_1_11, hg_1_12, hq_1_12, ha_2, hg_2_0, hg_2_1, hg_2_2, hg_2_3, hg_2_4, hq_2_4, hl_3, hs_3, hl_4, hs_4, hl_5, hs_5, hl_6, hs_6, hl_7, hs_7, hl_8, hs_8, hl_9, hs_9, hl_10, hs_10, hl_11, hs_11, hl_12, hs_12, hl_13, hs_13, hl_14, hs_14, hl_15, hs_15, hl_16, hs_16, hl_17, hs_17, ha_18, hg_18_0, hg_18_1, hg_18_2, hq_18_2, hg_18_3, hq_18_3, hl_19, hs_19, ha_20, hg_20_0, hg_20_1, ha_21, hg_21_0, hg_21_1, hg_21_2, hg_21_3, hg_21_4, hg_21_5, hg_21_6, hq_21_6, hg_21_7, hg_21_8, hg_21_9, hg_21_10, hq_21_10, hg_21_11, hq_21_11, hg_21_12, hq_21_12, hg_21_13, hq_21_13, hg_21_14, hq_21_14, hg_21_15, hq_21_15, hg_21_16, hq_21_16, hg_21_17, hq_21_17, ha_22, hg_22_0, hg_22_1, hg_22_2, hg_22_3, hg_22_4, hg_22_5, hg_22_6, hq_22_6, hg_22_7, hq_22_7, hg_22_8, hq_22_8, hl_23, hs_23, hl_24, hs_24, hl_25, hs_25, hl_26, hs_26, hl_27, hs_27, ha_28, hg_28_0, hg_28_1, hq_28_1, hl_29, hs_29, hl_30, hs_30, hl_31, hs_31, hl_32, hs_32, hl_33, hs_33, hl_34, hs_34, hl_35, hs_35, am_ld_cons, am_ld_nil, am_st1_cons, am_st1_nil, am_st2_cons, am_st2_nil, am_P1, am_P2, Value.category, am_add_add, am_add0, am_add_some, hl, h1, h2, hq, hq2, e1, ea, hb, eb, g1, g2, g3, e20, hx, e5, k, he]
set_option maxRecDepth 100000 in
set_option maxHeartbeats 4000000 in
theorem c61_new_f (scr : Nat → Int32) (L F d : Nat) (I : Nat → Nat → Int32) (J : Nat → Nat → Int64) (M : Nat → Nat → Int32) (n p D : Nat) (y : Int32) (h : rdI I n p) (hpn : p < n) (hD : D ≤ 20) (x : Int32) (hx : I 19 p = x) (hx2 : x = 64) (I2 : am_I) (k : am_r scr L (F + 63000) (d + 29) 70 [.ref 19, .int 10, .int (nI p), .int (nI D)] (hp (beI (adI I (p + 1)) p y) J M) = some (some (.int 0), hp I2 J M, 0, 0)) : am_r scr L (F + 63000) (d + 30) 61 [.ref 19, .int y, .int (nI D)] (hp I J M) = some (some (.int (-1)), hp I2 J M, 0, 0) := by
  have hl : ¬ (20 : Int32) < nI D := by
    rw [show (20 : Int32) = nI 20 by decide +kernel]
    exact nI_nlt hD (by decide)
  obtain ⟨h1, h2, h3, h4, h5⟩ := h
  have hq : ¬ nI n ≤ nI p := nI_ge hpn (by omega)
  have hq2 : nI p < nI n := nI_lt hpn (by omega)
  have e1 : nI p + 1 = nI (p + 1) := nI_1 p
  have g1 : ¬ nI p < 0 := nI_pos (by omega)
  have g2 : (nI p).toNatClampNeg = p := nI_clamp (by omega)
  have g3 : ¬ 100 ≤ p := by omega
  have hb := m_53 scr L (F + 62900) (d + 28) (adI I (p + 1)) J M p y (by omega)
  have e19 : beI (adI I (p + 1)) p y 19 p = x := by
    rw [← hx]
    simp [beI, adI, va_up]
  have e20 : beI (adI I (p + 1)) p y 19 = I 19 := by simp [beI, adI, va_up]
  have e5 := h5 p hpn
  rw [hx] at e5
  have ea : va_up I 18 (upd (I 18) 3 (nI (p + 1))) = adI I (p + 1) := rfl
  have eb : va_up (va_up (va_up (va_up (adI I (p + 1)) 8 (upd (adI I (p + 1) 8) p y)) 9 (upd (adI I (p + 1) 9) p (-1))) 10 (upd (adI I (p + 1) 10) p (-1))) 11 (upd (adI I (p + 1) 11) p (-1)) = beI (adI I (p + 1)) p y := rfl
  subst hx2
  simp [r_61, s_61_0, s_61_1, s_61_3, s_61_6, s_61_7, s_61_10, s_61_11, s_61_14, s_61_17, s_61_18, s_61_19, s_61_20, s_61_23, s_61_24, s_61_25, s_61_26, s_61_29, s_61_30, s_61_31, s_61_34, s_61_35, s_61_38, s_61_39, s_61_40, s_61_43, s_61_44, s_61_47, s_61_48, s_61_49, s_61_124, s_61_125, s_61_126, s_61_127, s_61_130, s_61_132, s_61_135, s_61_136, s_61_137, s_61_138, s_61_141, s_61_143, s_61_146, s_61_147, s_61_148, s_61_149, s_61_152, s_61_154, s_61_157, s_61_158, s_61_159, s_61_160, s_61_163, s_61_165, s_61_168, s_61_169, s_61_170, s_61_171, s_61_174, s_61_176, s_61_179, s_61_180, s_61_182, s_61_183, s_61_184, s_61_187, s_61_189, s_61_192, s_61_193, s_61_195, s_61_196, s_61_197, s_61_200, s_61_202, s_61_205, s_61_206, s_61_208, s_61_209, s_61_210, s_61_213, s_61_215, s_61_218, s_61_219, s_61_220, s_61_223, s_61_224, s_61_225, s_61_226, s_61_229, s_61_231, s_61_233, s_61_236, s_61_237, s_61_238, s_61_239, s_61_242, s_61_243, s_61_246, s_61_247, ha_0, hg_0_0, hg_0_1, hg_0_2, hg_0_3, hg_0_4, hq_0_4, hg_0_5, hq_0_5, ha_1, hg_1_0, hg_1_1, hg_1_2, hg_1_3, hg_1_4, hg_1_5, hg_1_6, hg_1_7, hg_1_8, hg_1_9, hg_1_10, hg_1_11, hg_1_12, hq_1_12, ha_2, hg_2_0, hg_2_1, hg_2_2, hg_2_3, hg_2_4, hq_2_4, hl_3, hs_3, hl_4, hs_4, hl_5, hs_5, hl_6, hs_6, hl_7, hs_7, hl_8, hs_8, hl_9, hs_9, hl_10, hs_10, hl_11, hs_11, hl_12, hs_12, hl_13, hs_13, hl_14, hs_14, hl_15, hs_15, hl_16, hs_16, hl_17, hs_17, ha_18, hg_18_0, hg_18_1, hg_18_2, hq_18_2, hg_18_3, hq_18_3, hl_19, hs_19, ha_20, hg_20_0, hg_20_1, ha_21, hg_21_0, hg_21_1, hg_21_2, hg_21_3, hg_21_4, hg_21_5, hg_21_6, hq_21_6, hg_21_7, hg_21_8, hg_21_9, hg_21_10, hq_21_10, hg_21_11, hq_21_11, hg_21_12, hq_21_12, hg_21_13, hq_21_13, hg_21_14, hq_21_14, hg_21_15, hq_21_15, hg_21_16, hq_21_16, hg_21_17, hq_21_17, ha_22, hg_22_0, hg_22_1, hg_22_2, hg_22_3, hg_22_4, hg_22_5, hg_22_6, hq_22_6, hg_22_7, hq_22_7, hg_22_8, hq_22_8, hl_23, hs_23, hl_24, hs_24, hl_25, hs_25, hl_26, hs_26, hl_27, hs_27, ha_28, hg_28_0, hg_28_1, hq_28_1, hl_29, hs_29, hl_30, hs_30, hl_31, hs_31, hl_32, hs_32, hl_33, hs_33, hl_34, hs_34, hl_35, hs_35, am_ld_cons, am_ld_nil, am_st1_cons, am_st1_nil, am_st2_cons, am_st2_nil, am_P1, am_P2, Value.category, am_add_add, am_add0, am_add_some, hl, h1, h2, hq, hq2, e1, ea, hb, eb, g1, g2, g3, e20, hx, e5, k]
set_option maxRecDepth 100000 in
set_option maxHeartbeats 4000000 in
theorem c61_new_g (scr : Nat → Int32) (L F d : Nat) (I : Nat → Nat → Int32) (J : Nat → Nat → Int64) (M : Nat → Nat → Int32) (n p D : Nat) (y : Int32) (h : rdI I n p) (hpn : p < n) (hD : D ≤ 20) (x : Int32) (hx : I 19 p = x) (hx2 : x = 64) (I2 : am_I) (K : Nat) (hK : I2 1 12 = nI K) (hK2 : K < 100) (k : am_r scr L (F + 63000) (d + 29) 70 [.ref 19, .int 10, .int (nI p), .int (nI D)] (hp (beI (adI I (p + 1)) p y) J M) = some (some (.int 1), hp I2 J M, 0, 0)) : am_r scr L (F + 63000) (d + 30) 61 [.ref 19, .int y, .int (nI D)] (hp I J M) = some (some (.int (nI p)), hp (enI I2 K (nI p)) J M, 0, 0) := by
  have hl : ¬ (20 : Int32) < nI D := by
    rw [show (20 : Int32) = nI 20 by decide +kernel]
    exact nI_nlt hD (by decide)
  obtain ⟨h1, h2, h3, h4, h5⟩ := h
  have hq : ¬ nI n ≤ nI p := nI_ge hpn (by omega)
  have hq2 : nI p < nI n := nI_lt hpn (by omega)
  have e1 : nI p + 1 = nI (p + 1) := nI_1 p
  have g1 : ¬ nI p < 0 := nI_pos (by omega)
  have g2 : (nI p).toNatClampNeg = p := nI_clamp (by omega)
  have g3 : ¬ 100 ≤ p := by omega
  have hb := m_53 scr L (F + 62900) (d + 28) (adI I (p + 1)) J M p y (by omega)
  have e19 : beI (adI I (p + 1)) p y 19 p = x := by
    rw [← hx]
    simp [beI, adI, va_up]
  have e20 : beI (adI I (p + 1)) p y 19 = I 19 := by simp [beI, adI, va_up]
  have e5 := h5 p hpn
  rw [hx] at e5
  have ea : va_up I 18 (upd (I 18) 3 (nI (p + 1))) = adI I (p + 1) := rfl
  have eb : va_up (va_up (va_up (va_up (adI I (p + 1)) 8 (upd (adI I (p + 1) 8) p y)) 9 (upd (adI I (p + 1) 9) p (-1))) 10 (upd (adI I (p + 1) 10) p (-1))) 11 (upd (adI I (p + 1) 11) p (-1)) = beI (adI I (p + 1)) p y := rfl
  have he := m_54 scr L (F + 62900) (d + 28) I2 J M K (nI p) hK hK2
  rw [show va_up (va_up I2 17 (upd (I2 17) K (nI p))) 1 (upd (I2 1) 12 (nI (K + 1))) = enI I2 K (nI p) from rfl] at he
  subst hx2
  simp [r_61, s_61_0, s_61_1, s_61_3, s_61_6, s_61_7, s_61_10, s_61_11, s_61_14, s_61_17, s_61_18, s_61_19, s_61_20, s_61_23, s_61_24, s_61_25, s_61_26, s_61_29, s_61_30, s_61_31, s_61_34, s_61_35, s_61_38, s_61_39, s_61_40, s_61_43, s_61_44, s_61_47, s_61_48, s_61_49, s_61_124, s_61_125, s_61_126, s_61_127, s_61_130, s_61_132, s_61_135, s_61_136, s_61_137, s_61_138, s_61_141, s_61_143, s_61_146, s_61_147, s_61_148, s_61_149, s_61_152, s_61_154, s_61_157, s_61_158, s_61_159, s_61_160, s_61_163, s_61_165, s_61_168, s_61_169, s_61_170, s_61_171, s_61_174, s_61_176, s_61_179, s_61_180, s_61_182, s_61_183, s_61_184, s_61_187, s_61_189, s_61_192, s_61_193, s_61_195, s_61_196, s_61_197, s_61_200, s_61_202, s_61_205, s_61_206, s_61_208, s_61_209, s_61_210, s_61_213, s_61_215, s_61_218, s_61_219, s_61_220, s_61_223, s_61_224, s_61_225, s_61_226, s_61_229, s_61_231, s_61_233, s_61_236, s_61_237, s_61_238, s_61_239, s_61_242, s_61_243, s_61_246, s_61_247, ha_0, hg_0_0, hg_0_1, hg_0_2, hg_0_3, hg_0_4, hq_0_4, hg_0_5, hq_0_5, ha_1, hg_1_0, hg_1_1, hg_1_2, hg_1_3, hg_1_4, hg_1_5, hg_1_6, hg_1_7, hg_1_8, hg_1_9, hg_1_10, hg_1_11, hg_1_12, hq_1_12, ha_2, hg_2_0, hg_2_1, hg_2_2, hg_2_3, hg_2_4, hq_2_4, hl_3, hs_3, hl_4, hs_4, hl_5, hs_5, hl_6, hs_6, hl_7, hs_7, hl_8, hs_8, hl_9, hs_9, hl_10, hs_10, hl_11, hs_11, hl_12, hs_12, hl_13, hs_13, hl_14, hs_14, hl_15, hs_15, hl_16, hs_16, hl_17, hs_17, ha_18, hg_18_0, hg_18_1, hg_18_2, hq_18_2, hg_18_3, hq_18_3, hl_19, hs_19, ha_20, hg_20_0, hg_20_1, ha_21, hg_21_0, hg_21_1, hg_21_2, hg_21_3, hg_21_4, hg_21_5, hg_21_6, hq_21_6, hg_21_7, hg_21_8, hg_21_9, hg_21_10, hq_21_10, hg_21_11, hq_21_11, hg_21_12, hq_21_12, hg_21_13, hq_21_13, hg_21_14, hq_21_14, hg_21_15, hq_21_15, hg_21_16, hq_21_16, hg_21_17, hq_21_17, ha_22, hg_22_0, hg_22_1, hg_22_2, hg_22_3, hg_22_4, hg_22_5, hg_22_6, hq_22_6, hg_22_7, hq_22_7, hg_22_8, hq_22_8, hl_23, hs_23, hl_24, hs_24, hl_25, hs_25, hl_26, hs_26, hl_27, hs_27, ha_28, hg_28_0, hg_28_1, hq_28_1, hl_29, hs_29, hl_30, hs_30, hl_31, hs_31, hl_32, hs_32, hl_33, hs_33, hl_34, hs_34, hl_35, hs_35, am_ld_cons, am_ld_nil, am_st1_cons, am_st1_nil, am_st2_cons, am_st2_nil, am_P1, am_P2, Value.category, am_add_add, am_add0, am_add_some, hl, h1, h2, hq, hq2, e1, ea, hb, eb, g1, g2, g3, e20, hx, e5, k, he]
set_option maxRecDepth 100000 in
set_option maxHeartbeats 4000000 in
theorem c61_read_f (scr : Nat → Int32) (L F d : Nat) (I : Nat → Nat → Int32) (J : Nat → Nat → Int64) (M : Nat → Nat → Int32) (n p D : Nat) (y : Int32) (h : rdI I n p) (hpn : p < n) (hD : D ≤ 20) (x : Int32) (hx : I 19 p = x) (hx2 : x = 33) (I2 : am_I) (k : am_r scr L (F + 63000) (d + 29) 70 [.ref 19, .int 11, .int (nI p), .int (nI D)] (hp (beI (adI I (p + 1)) p y) J M) = some (some (.int 0), hp I2 J M, 0, 0)) : am_r scr L (F + 63000) (d + 30) 61 [.ref 19, .int y, .int (nI D)] (hp I J M) = some (some (.int (-1)), hp I2 J M, 0, 0) := by
  have hl : ¬ (20 : Int32) < nI D := by
    rw [show (20 : Int32) = nI 20 by decide +kernel]
    exact nI_nlt hD (by decide)
  obtain ⟨h1, h2, h3, h4, h5⟩ := h
  have hq : ¬ nI n ≤ nI p := nI_ge hpn (by omega)
  have hq2 : nI p < nI n := nI_lt hpn (by omega)
  have e1 : nI p + 1 = nI (p + 1) := nI_1 p
  have g1 : ¬ nI p < 0 := nI_pos (by omega)
  have g2 : (nI p).toNatClampNeg = p := nI_clamp (by omega)
  have g3 : ¬ 100 ≤ p := by omega
  have hb := m_53 scr L (F + 62900) (d + 28) (adI I (p + 1)) J M p y (by omega)
  have e19 : beI (adI I (p + 1)) p y 19 p = x := by
    rw [← hx]
    simp [beI, adI, va_up]
  have e20 : beI (adI I (p + 1)) p y 19 = I 19 := by simp [beI, adI, va_up]
  have e5 := h5 p hpn
  rw [hx] at e5
  have ea : va_up I 18 (upd (I 18) 3 (nI (p + 1))) = adI I (p + 1) := rfl
  have eb : va_up (va_up (va_up (va_up (adI I (p + 1)) 8 (upd (adI I (p + 1) 8) p y)) 9 (upd (adI I (p + 1) 9) p (-1))) 10 (upd (adI I (p + 1) 10) p (-1))) 11 (upd (adI I (p + 1) 11) p (-1)) = beI (adI I (p + 1)) p y := rfl
  subst hx2
  simp [r_61, s_61_0, s_61_1, s_61_3, s_61_6, s_61_7, s_61_10, s_61_11, s_61_14, s_61_17, s_61_18, s_61_19, s_61_20, s_61_23, s_61_24, s_61_25, s_61_26, s_61_29, s_61_30, s_61_31, s_61_34, s_61_35, s_61_38, s_61_39, s_61_40, s_61_43, s_61_44, s_61_47, s_61_48, s_61_49, s_61_124, s_61_125, s_61_126, s_61_127, s_61_130, s_61_132, s_61_135, s_61_136, s_61_137, s_61_138, s_61_141, s_61_143, s_61_146, s_61_147, s_61_148, s_61_149, s_61_152, s_61_154, s_61_157, s_61_158, s_61_159, s_61_160, s_61_163, s_61_165, s_61_168, s_61_169, s_61_170, s_61_171, s_61_174, s_61_176, s_61_179, s_61_180, s_61_182, s_61_183, s_61_184, s_61_187, s_61_189, s_61_192, s_61_193, s_61_195, s_61_196, s_61_197, s_61_200, s_61_202, s_61_205, s_61_206, s_61_208, s_61_209, s_61_210, s_61_213, s_61_215, s_61_218, s_61_219, s_61_220, s_61_223, s_61_224, s_61_225, s_61_226, s_61_229, s_61_231, s_61_233, s_61_236, s_61_237, s_61_238, s_61_239, s_61_242, s_61_243, s_61_246, s_61_247, ha_0, hg_0_0, hg_0_1, hg_0_2, hg_0_3, hg_0_4, hq_0_4, hg_0_5, hq_0_5, ha_1, hg_1_0, hg_1_1, hg_1_2, hg_1_3, hg_1_4, hg_1_5, hg_1_6, hg_1_7, hg_1_8, hg_1_9, hg_1_10, hg_1_11, hg_1_12, hq_1_12, ha_2, hg_2_0, hg_2_1, hg_2_2, hg_2_3, hg_2_4, hq_2_4, hl_3, hs_3, hl_4, hs_4, hl_5, hs_5, hl_6, hs_6, hl_7, hs_7, hl_8, hs_8, hl_9, hs_9, hl_10, hs_10, hl_11, hs_11, hl_12, hs_12, hl_13, hs_13, hl_14, hs_14, hl_15, hs_15, hl_16, hs_16, hl_17, hs_17, ha_18, hg_18_0, hg_18_1, hg_18_2, hq_18_2, hg_18_3, hq_18_3, hl_19, hs_19, ha_20, hg_20_0, hg_20_1, ha_21, hg_21_0, hg_21_1, hg_21_2, hg_21_3, hg_21_4, hg_21_5, hg_21_6, hq_21_6, hg_21_7, hg_21_8, hg_21_9, hg_21_10, hq_21_10, hg_21_11, hq_21_11, hg_21_12, hq_21_12, hg_21_13, hq_21_13, hg_21_14, hq_21_14, hg_21_15, hq_21_15, hg_21_16, hq_21_16, hg_21_17, hq_21_17, ha_22, hg_22_0, hg_22_1, hg_22_2, hg_22_3, hg_22_4, hg_22_5, hg_22_6, hq_22_6, hg_22_7, hq_22_7, hg_22_8, hq_22_8, hl_23, hs_23, hl_24, hs_24, hl_25, hs_25, hl_26, hs_26, hl_27, hs_27, ha_28, hg_28_0, hg_28_1, hq_28_1, hl_29, hs_29, hl_30, hs_30, hl_31, hs_31, hl_32, hs_32, hl_33, hs_33, hl_34, hs_34, hl_35, hs_35, am_ld_cons, am_ld_nil, am_st1_cons, am_st1_nil, am_st2_cons, am_st2_nil, am_P1, am_P2, Value.category, am_add_add, am_add0, am_add_some, hl, h1, h2, hq, hq2, e1, ea, hb, eb, g1, g2, g3, e20, hx, e5, k]
set_option maxRecDepth 100000 in
set_option maxHeartbeats 4000000 in
theorem c61_read_g (scr : Nat → Int32) (L F d : Nat) (I : Nat → Nat → Int32) (J : Nat → Nat → Int64) (M : Nat → Nat → Int32) (n p D : Nat) (y : Int32) (h : rdI I n p) (hpn : p < n) (hD : D ≤ 20) (x : Int32) (hx : I 19 p = x) (hx2 : x = 33) (I2 : am_I) (K : Nat) (hK : I2 1 12 = nI K) (hK2 : K < 100) (k : am_r scr L (F + 63000) (d + 29) 70 [.ref 19, .int 11, .int (nI p), .int (nI D)] (hp (beI (adI I (p + 1)) p y) J M) = some (some (.int 1), hp I2 J M, 0, 0)) : am_r scr L (F + 63000) (d + 30) 61 [.ref 19, .int y, .int (nI D)] (hp I J M) = some (some (.int (nI p)), hp (enI I2 K (nI p)) J M, 0, 0) := by
  have hl : ¬ (20 : Int32) < nI D := by
    rw [show (20 : Int32) = nI 20 by decide +kernel]
    exact nI_nlt hD (by decide)
  obtain ⟨h1, h2, h3, h4, h5⟩ := h
  have hq : ¬ nI n ≤ nI p := nI_ge hpn (by omega)
  have hq2 : nI p < nI n := nI_lt hpn (by omega)
  have e1 : nI p + 1 = nI (p + 1) := nI_1 p
  have g1 : ¬ nI p < 0 := nI_pos (by omega)
  have g2 : (nI p).toNatClampNeg = p := nI_clamp (by omega)
  have g3 : ¬ 100 ≤ p := by omega
  have hb := m_53 scr L (F + 62900) (d + 28) (adI I (p + 1)) J M p y (by omega)
  have e19 : beI (adI I (p + 1)) p y 19 p = x := by
    rw [← hx]
    simp [beI, adI, va_up]
  have e20 : beI (adI I (p + 1)) p y 19 = I 19 := by simp [beI, adI, va_up]
  have e5 := h5 p hpn
  rw [hx] at e5
  have ea : va_up I 18 (upd (I 18) 3 (nI (p + 1))) = adI I (p + 1) := rfl
  have eb : va_up (va_up (va_up (va_up (adI I (p + 1)) 8 (upd (adI I (p + 1) 8) p y)) 9 (upd (adI I (p + 1) 9) p (-1))) 10 (upd (adI I (p + 1) 10) p (-1))) 11 (upd (adI I (p + 1) 11) p (-1)) = beI (adI I (p + 1)) p y := rfl
  have he := m_54 scr L (F + 62900) (d + 28) I2 J M K (nI p) hK hK2
  rw [show va_up (va_up I2 17 (upd (I2 17) K (nI p))) 1 (upd (I2 1) 12 (nI (K + 1))) = enI I2 K (nI p) from rfl] at he
  subst hx2
  simp [r_61, s_61_0, s_61_1, s_61_3, s_61_6, s_61_7, s_61_10, s_61_11, s_61_14, s_61_17, s_61_18, s_61_19, s_61_20, s_61_23, s_61_24, s_61_25, s_61_26, s_61_29, s_61_30, s_61_31, s_61_34, s_61_35, s_61_38, s_61_39, s_61_40, s_61_43, s_61_44, s_61_47, s_61_48, s_61_49, s_61_124, s_61_125, s_61_126, s_61_127, s_61_130, s_61_132, s_61_135, s_61_136, s_61_137, s_61_138, s_61_141, s_61_143, s_61_146, s_61_147, s_61_148, s_61_149, s_61_152, s_61_154, s_61_157, s_61_158, s_61_159, s_61_160, s_61_163, s_61_165, s_61_168, s_61_169, s_61_170, s_61_171, s_61_174, s_61_176, s_61_179, s_61_180, s_61_182, s_61_183, s_61_184, s_61_187, s_61_189, s_61_192, s_61_193, s_61_195, s_61_196, s_61_197, s_61_200, s_61_202, s_61_205, s_61_206, s_61_208, s_61_209, s_61_210, s_61_213, s_61_215, s_61_218, s_61_219, s_61_220, s_61_223, s_61_224, s_61_225, s_61_226, s_61_229, s_61_231, s_61_233, s_61_236, s_61_237, s_61_238, s_61_239, s_61_242, s_61_243, s_61_246, s_61_247, ha_0, hg_0_0, hg_0_1, hg_0_2, hg_0_3, hg_0_4, hq_0_4, hg_0_5, hq_0_5, ha_1, hg_1_0, hg_1_1, hg_1_2, hg_1_3, hg_1_4, hg_1_5, hg_1_6, hg_1_7, hg_1_8, hg_1_9, hg_1_10, hg_1_11, hg_1_12, hq_1_12, ha_2, hg_2_0, hg_2_1, hg_2_2, hg_2_3, hg_2_4, hq_2_4, hl_3, hs_3, hl_4, hs_4, hl_5, hs_5, hl_6, hs_6, hl_7, hs_7, hl_8, hs_8, hl_9, hs_9, hl_10, hs_10, hl_11, hs_11, hl_12, hs_12, hl_13, hs_13, hl_14, hs_14, hl_15, hs_15, hl_16, hs_16, hl_17, hs_17, ha_18, hg_18_0, hg_18_1, hg_18_2, hq_18_2, hg_18_3, hq_18_3, hl_19, hs_19, ha_20, hg_20_0, hg_20_1, ha_21, hg_21_0, hg_21_1, hg_21_2, hg_21_3, hg_21_4, hg_21_5, hg_21_6, hq_21_6, hg_21_7, hg_21_8, hg_21_9, hg_21_10, hq_21_10, hg_21_11, hq_21_11, hg_21_12, hq_21_12, hg_21_13, hq_21_13, hg_21_14, hq_21_14, hg_21_15, hq_21_15, hg_21_16, hq_21_16, hg_21_17, hq_21_17, ha_22, hg_22_0, hg_22_1, hg_22_2, hg_22_3, hg_22_4, hg_22_5, hg_22_6, hq_22_6, hg_22_7, hq_22_7, hg_22_8, hq_22_8, hl_23, hs_23, hl_24, hs_24, hl_25, hs_25, hl_26, hs_26, hl_27, hs_27, ha_28, hg_28_0, hg_28_1, hq_28_1, hl_29, hs_29, hl_30, hs_30, hl_31, hs_31, hl_32, hs_32, hl_33, hs_33, hl_34, hs_34, hl_35, hs_35, am_ld_cons, am_ld_nil, am_st1_cons, am_st1_nil, am_st2_cons, am_st2_nil, am_P1, am_P2, Value.category, am_add_add, am_add0, am_add_some, hl, h1, h2, hq, hq2, e1, ea, hb, eb, g1, g2, g3, e20, hx, e5, k, he]
set_option maxRecDepth 100000 in
set_option maxHeartbeats 4000000 in
theorem c61_put_f (scr : Nat → Int32) (L F d : Nat) (I : Nat → Nat → Int32) (J : Nat → Nat → Int64) (M : Nat → Nat → Int32) (n p D : Nat) (y : Int32) (h : rdI I n p) (hpn : p < n) (hD : D ≤ 20) (x : Int32) (hx : I 19 p = x) (hx2 : x = 36) (I2 : am_I) (k : am_r scr L (F + 63000) (d + 29) 70 [.ref 19, .int 13, .int (nI p), .int (nI D)] (hp (beI (adI I (p + 1)) p y) J M) = some (some (.int 0), hp I2 J M, 0, 0)) : am_r scr L (F + 63000) (d + 30) 61 [.ref 19, .int y, .int (nI D)] (hp I J M) = some (some (.int (-1)), hp I2 J M, 0, 0) := by
  have hl : ¬ (20 : Int32) < nI D := by
    rw [show (20 : Int32) = nI 20 by decide +kernel]
    exact nI_nlt hD (by decide)
  obtain ⟨h1, h2, h3, h4, h5⟩ := h
  have hq : ¬ nI n ≤ nI p := nI_ge hpn (by omega)
  have hq2 : nI p < nI n := nI_lt hpn (by omega)
  have e1 : nI p + 1 = nI (p + 1) := nI_1 p
  have g1 : ¬ nI p < 0 := nI_pos (by omega)
  have g2 : (nI p).toNatClampNeg = p := nI_clamp (by omega)
  have g3 : ¬ 100 ≤ p := by omega
  have hb := m_53 scr L (F + 62900) (d + 28) (adI I (p + 1)) J M p y (by omega)
  have e19 : beI (adI I (p + 1)) p y 19 p = x := by
    rw [← hx]
    simp [beI, adI, va_up]
  have e20 : beI (adI I (p + 1)) p y 19 = I 19 := by simp [beI, adI, va_up]
  have e5 := h5 p hpn
  rw [hx] at e5
  have ea : va_up I 18 (upd (I 18) 3 (nI (p + 1))) = adI I (p + 1) := rfl
  have eb : va_up (va_up (va_up (va_up (adI I (p + 1)) 8 (upd (adI I (p + 1) 8) p y)) 9 (upd (adI I (p + 1) 9) p (-1))) 10 (upd (adI I (p + 1) 10) p (-1))) 11 (upd (adI I (p + 1) 11) p (-1)) = beI (adI I (p + 1)) p y := rfl
  subst hx2
  simp [r_61, s_61_0, s_61_1, s_61_3, s_61_6, s_61_7, s_61_10, s_61_11, s_61_14, s_61_17, s_61_18, s_61_19, s_61_20, s_61_23, s_61_24, s_61_25, s_61_26, s_61_29, s_61_30, s_61_31, s_61_34, s_61_35, s_61_38, s_61_39, s_61_40, s_61_43, s_61_44, s_61_47, s_61_48, s_61_49, s_61_124, s_61_125, s_61_126, s_61_127, s_61_130, s_61_132, s_61_135, s_61_136, s_61_137, s_61_138, s_61_141, s_61_143, s_61_146, s_61_147, s_61_148, s_61_149, s_61_152, s_61_154, s_61_157, s_61_158, s_61_159, s_61_160, s_61_163, s_61_165, s_61_168, s_61_169, s_61_170, s_61_171, s_61_174, s_61_176, s_61_179, s_61_180, s_61_182, s_61_183, s_61_184, s_61_187, s_61_189, s_61_192, s_61_193, s_61_195, s_61_196, s_61_197, s_61_200, s_61_202, s_61_205, s_61_206, s_61_208, s_61_209, s_61_210, s_61_213, s_61_215, s_61_218, s_61_219, s_61_220, s_61_223, s_61_224, s_61_225, s_61_226, s_61_229, s_61_231, s_61_233, s_61_236, s_61_237, s_61_238, s_61_239, s_61_242, s_61_243, s_61_246, s_61_247, ha_0, hg_0_0, hg_0_1, hg_0_2, hg_0_3, hg_0_4, hq_0_4, hg_0_5, hq_0_5, ha_1, hg_1_0, hg_1_1, hg_1_2, hg_1_3, hg_1_4, hg_1_5, hg_1_6, hg_1_7, hg_1_8, hg_1_9, hg_1_10, hg_1_11, hg_1_12, hq_1_12, ha_2, hg_2_0, hg_2_1, hg_2_2, hg_2_3, hg_2_4, hq_2_4, hl_3, hs_3, hl_4, hs_4, hl_5, hs_5, hl_6, hs_6, hl_7, hs_7, hl_8, hs_8, hl_9, hs_9, hl_10, hs_10, hl_11, hs_11, hl_12, hs_12, hl_13, hs_13, hl_14, hs_14, hl_15, hs_15, hl_16, hs_16, hl_17, hs_17, ha_18, hg_18_0, hg_18_1, hg_18_2, hq_18_2, hg_18_3, hq_18_3, hl_19, hs_19, ha_20, hg_20_0, hg_20_1, ha_21, hg_21_0, hg_21_1, hg_21_2, hg_21_3, hg_21_4, hg_21_5, hg_21_6, hq_21_6, hg_21_7, hg_21_8, hg_21_9, hg_21_10, hq_21_10, hg_21_11, hq_21_11, hg_21_12, hq_21_12, hg_21_13, hq_21_13, hg_21_14, hq_21_14, hg_21_15, hq_21_15, hg_21_16, hq_21_16, hg_21_17, hq_21_17, ha_22, hg_22_0, hg_22_1, hg_22_2, hg_22_3, hg_22_4, hg_22_5, hg_22_6, hq_22_6, hg_22_7, hq_22_7, hg_22_8, hq_22_8, hl_23, hs_23, hl_24, hs_24, hl_25, hs_25, hl_26, hs_26, hl_27, hs_27, ha_28, hg_28_0, hg_28_1, hq_28_1, hl_29, hs_29, hl_30, hs_30, hl_31, hs_31, hl_32, hs_32, hl_33, hs_33, hl_34, hs_34, hl_35, hs_35, am_ld_cons, am_ld_nil, am_st1_cons, am_st1_nil, am_st2_cons, am_st2_nil, am_P1, am_P2, Value.category, am_add_add, am_add0, am_add_some, hl, h1, h2, hq, hq2, e1, ea, hb, eb, g1, g2, g3, e20, hx, e5, k]
set_option maxRecDepth 100000 in
set_option maxHeartbeats 4000000 in
theorem c61_put_g (scr : Nat → Int32) (L F d : Nat) (I : Nat → Nat → Int32) (J : Nat → Nat → Int64) (M : Nat → Nat → Int32) (n p D : Nat) (y : Int32) (h : rdI I n p) (hpn : p < n) (hD : D ≤ 20) (x : Int32) (hx : I 19 p = x) (hx2 : x = 36) (I2 : am_I) (K : Nat) (hK : I2 1 12 = nI K) (hK2 : K < 100) (k : am_r scr L (F + 63000) (d + 29) 70 [.ref 19, .int 13, .int (nI p), .int (nI D)] (hp (beI (adI I (p + 1)) p y) J M) = some (some (.int 1), hp I2 J M, 0, 0)) : am_r scr L (F + 63000) (d + 30) 61 [.ref 19, .int y, .int (nI D)] (hp I J M) = some (some (.int (nI p)), hp (enI I2 K (nI p)) J M, 0, 0) := by
  have hl : ¬ (20 : Int32) < nI D := by
    rw [show (20 : Int32) = nI 20 by decide +kernel]
    exact nI_nlt hD (by decide)
  obtain ⟨h1, h2, h3, h4, h5⟩ := h
  have hq : ¬ nI n ≤ nI p := nI_ge hpn (by omega)
  have hq2 : nI p < nI n := nI_lt hpn (by omega)
  have e1 : nI p + 1 = nI (p + 1) := nI_1 p
  have g1 : ¬ nI p < 0 := nI_pos (by omega)
  have g2 : (nI p).toNatClampNeg = p := nI_clamp (by omega)
  have g3 : ¬ 100 ≤ p := by omega
  have hb := m_53 scr L (F + 62900) (d + 28) (adI I (p + 1)) J M p y (by omega)
  have e19 : beI (adI I (p + 1)) p y 19 p = x := by
    rw [← hx]
    simp [beI, adI, va_up]
  have e20 : beI (adI I (p + 1)) p y 19 = I 19 := by simp [beI, adI, va_up]
  have e5 := h5 p hpn
  rw [hx] at e5
  have ea : va_up I 18 (upd (I 18) 3 (nI (p + 1))) = adI I (p + 1) := rfl
  have eb : va_up (va_up (va_up (va_up (adI I (p + 1)) 8 (upd (adI I (p + 1) 8) p y)) 9 (upd (adI I (p + 1) 9) p (-1))) 10 (upd (adI I (p + 1) 10) p (-1))) 11 (upd (adI I (p + 1) 11) p (-1)) = beI (adI I (p + 1)) p y := rfl
  have he := m_54 scr L (F + 62900) (d + 28) I2 J M K (nI p) hK hK2
  rw [show va_up (va_up I2 17 (upd (I2 17) K (nI p))) 1 (upd (I2 1) 12 (nI (K + 1))) = enI I2 K (nI p) from rfl] at he
  subst hx2
  simp [r_61, s_61_0, s_61_1, s_61_3, s_61_6, s_61_7, s_61_10, s_61_11, s_61_14, s_61_17, s_61_18, s_61_19, s_61_20, s_61_23, s_61_24, s_61_25, s_61_26, s_61_29, s_61_30, s_61_31, s_61_34, s_61_35, s_61_38, s_61_39, s_61_40, s_61_43, s_61_44, s_61_47, s_61_48, s_61_49, s_61_124, s_61_125, s_61_126, s_61_127, s_61_130, s_61_132, s_61_135, s_61_136, s_61_137, s_61_138, s_61_141, s_61_143, s_61_146, s_61_147, s_61_148, s_61_149, s_61_152, s_61_154, s_61_157, s_61_158, s_61_159, s_61_160, s_61_163, s_61_165, s_61_168, s_61_169, s_61_170, s_61_171, s_61_174, s_61_176, s_61_179, s_61_180, s_61_182, s_61_183, s_61_184, s_61_187, s_61_189, s_61_192, s_61_193, s_61_195, s_61_196, s_61_197, s_61_200, s_61_202, s_61_205, s_61_206, s_61_208, s_61_209, s_61_210, s_61_213, s_61_215, s_61_218, s_61_219, s_61_220, s_61_223, s_61_224, s_61_225, s_61_226, s_61_229, s_61_231, s_61_233, s_61_236, s_61_237, s_61_238, s_61_239, s_61_242, s_61_243, s_61_246, s_61_247, ha_0, hg_0_0, hg_0_1, hg_0_2, hg_0_3, hg_0_4, hq_0_4, hg_0_5, hq_0_5, ha_1, hg_1_0, hg_1_1, hg_1_2, hg_1_3, hg_1_4, hg_1_5, hg_1_6, hg_1_7, hg_1_8, hg_1_9, hg_1_10, hg_1_11, hg_1_12, hq_1_12, ha_2, hg_2_0, hg_2_1, hg_2_2, hg_2_3, hg_2_4, hq_2_4, hl_3, hs_3, hl_4, hs_4, hl_5, hs_5, hl_6, hs_6, hl_7, hs_7, hl_8, hs_8, hl_9, hs_9, hl_10, hs_10, hl_11, hs_11, hl_12, hs_12, hl_13, hs_13, hl_14, hs_14, hl_15, hs_15, hl_16, hs_16, hl_17, hs_17, ha_18, hg_18_0, hg_18_1, hg_18_2, hq_18_2, hg_18_3, hq_18_3, hl_19, hs_19, ha_20, hg_20_0, hg_20_1, ha_21, hg_21_0, hg_21_1, hg_21_2, hg_21_3, hg_21_4, hg_21_5, hg_21_6, hq_21_6, hg_21_7, hg_21_8, hg_21_9, hg_21_10, hq_21_10, hg_21_11, hq_21_11, hg_21_12, hq_21_12, hg_21_13, hq_21_13, hg_21_14, hq_21_14, hg_21_15, hq_21_15, hg_21_16, hq_21_16, hg_21_17, hq_21_17, ha_22, hg_22_0, hg_22_1, hg_22_2, hg_22_3, hg_22_4, hg_22_5, hg_22_6, hq_22_6, hg_22_7, hq_22_7, hg_22_8, hq_22_8, hl_23, hs_23, hl_24, hs_24, hl_25, hs_25, hl_26, hs_26, hl_27, hs_27, ha_28, hg_28_0, hg_28_1, hq_28_1, hl_29, hs_29, hl_30, hs_30, hl_31, hs_31, hl_32, hs_32, hl_33, hs_33, hl_34, hs_34, hl_35, hs_35, am_ld_cons, am_ld_nil, am_st1_cons, am_st1_nil, am_st2_cons, am_st2_nil, am_P1, am_P2, Value.category, am_add_add, am_add0, am_add_some, hl, h1, h2, hq, hq2, e1, ea, hb, eb, g1, g2, g3, e20, hx, e5, k, he]
set_option maxRecDepth 100000 in
set_option maxHeartbeats 4000000 in
theorem c61_leaf_f (scr : Nat → Int32) (L F d : Nat) (I : Nat → Nat → Int32) (J : Nat → Nat → Int64) (M : Nat → Nat → Int32) (n p D : Nat) (y : Int32) (h : rdI I n p) (hpn : p < n) (hD : D ≤ 20) (x : Int32) (hx : I 19 p = x) (x1 : ¬ x = 33) (x2 : ¬ x = 36) (x3 : ¬ x = 40) (x4 : ¬ x = 60) (x5 : ¬ x = 64) (x6 : ¬ x = 91) (x7 : ¬ x = 92) (x8 : ¬ x = 123) (I2 : am_I) (k : am_r scr L (F + 63000) (d + 29) 62 [.ref 19, .int (x), .int (nI p)] (hp (beI (adI I (p + 1)) p y) J M) = some (some (.int 0), hp I2 J M, 0, 0)) : am_r scr L (F + 63000) (d + 30) 61 [.ref 19, .int y, .int (nI D)] (hp I J M) = some (some (.int (-1)), hp I2 J M, 0, 0) := by
  have hl : ¬ (20 : Int32) < nI D := by
    rw [show (20 : Int32) = nI 20 by decide +kernel]
    exact nI_nlt hD (by decide)
  obtain ⟨h1, h2, h3, h4, h5⟩ := h
  have hq : ¬ nI n ≤ nI p := nI_ge hpn (by omega)
  have hq2 : nI p < nI n := nI_lt hpn (by omega)
  have e1 : nI p + 1 = nI (p + 1) := nI_1 p
  have g1 : ¬ nI p < 0 := nI_pos (by omega)
  have g2 : (nI p).toNatClampNeg = p := nI_clamp (by omega)
  have g3 : ¬ 100 ≤ p := by omega
  have hb := m_53 scr L (F + 62900) (d + 28) (adI I (p + 1)) J M p y (by omega)
  have e19 : beI (adI I (p + 1)) p y 19 p = x := by
    rw [← hx]
    simp [beI, adI, va_up]
  have e20 : beI (adI I (p + 1)) p y 19 = I 19 := by simp [beI, adI, va_up]
  have e5 := h5 p hpn
  rw [hx] at e5
  have ea : va_up I 18 (upd (I 18) 3 (nI (p + 1))) = adI I (p + 1) := rfl
  have eb : va_up (va_up (va_up (va_up (adI I (p + 1)) 8 (upd (adI I (p + 1) 8) p y)) 9 (upd (adI I (p + 1) 9) p (-1))) 10 (upd (adI I (p + 1) 10) p (-1))) 11 (upd (adI I (p + 1) 11) p (-1)) = beI (adI I (p + 1)) p y := rfl
  simp [r_61, s_61_0, s_61_1, s_61_3, s_61_6, s_61_7, s_61_10, s_61_11, s_61_14, s_61_17, s_61_18, s_61_19, s_61_20, s_61_23, s_61_24, s_61_25, s_61_26, s_61_29, s_61_30, s_61_31, s_61_34, s_61_35, s_61_38, s_61_39, s_61_40, s_61_43, s_61_44, s_61_47, s_61_48, s_61_49, s_61_124, s_61_125, s_61_126, s_61_127, s_61_130, s_61_132, s_61_135, s_61_136, s_61_137, s_61_138, s_61_141, s_61_143, s_61_146, s_61_147, s_61_148, s_61_149, s_61_152, s_61_154, s_61_157, s_61_158, s_61_159, s_61_160, s_61_163, s_61_165, s_61_168, s_61_169, s_61_170, s_61_171, s_61_174, s_61_176, s_61_179, s_61_180, s_61_182, s_61_183, s_61_184, s_61_187, s_61_189, s_61_192, s_61_193, s_61_195, s_61_196, s_61_197, s_61_200, s_61_202, s_61_205, s_61_206, s_61_208, s_61_209, s_61_210, s_61_213, s_61_215, s_61_218, s_61_219, s_61_220, s_61_223, s_61_224, s_61_225, s_61_226, s_61_229, s_61_231, s_61_233, s_61_236, s_61_237, s_61_238, s_61_239, s_61_242, s_61_243, s_61_246, s_61_247, ha_0, hg_0_0, hg_0_1, hg_0_2, hg_0_3, hg_0_4, hq_0_4, hg_0_5, hq_0_5, ha_1, hg_1_0, hg_1_1, hg_1_2, hg_1_3, hg_1_4, hg_1_5, hg_1_6, hg_1_7, hg_1_8, hg_1_9, hg_1_10, hg_1_11, hg_1_12, hq_1_12, ha_2, hg_2_0, hg_2_1, hg_2_2, hg_2_3, hg_2_4, hq_2_4, hl_3, hs_3, hl_4, hs_4, hl_5, hs_5, hl_6, hs_6, hl_7, hs_7, hl_8, hs_8, hl_9, hs_9, hl_10, hs_10, hl_11, hs_11, hl_12, hs_12, hl_13, hs_13, hl_14, hs_14, hl_15, hs_15, hl_16, hs_16, hl_17, hs_17, ha_18, hg_18_0, hg_18_1, hg_18_2, hq_18_2, hg_18_3, hq_18_3, hl_19, hs_19, ha_20, hg_20_0, hg_20_1, ha_21, hg_21_0, hg_21_1, hg_21_2, hg_21_3, hg_21_4, hg_21_5, hg_21_6, hq_21_6, hg_21_7, hg_21_8, hg_21_9, hg_21_10, hq_21_10, hg_21_11, hq_21_11, hg_21_12, hq_21_12, hg_21_13, hq_21_13, hg_21_14, hq_21_14, hg_21_15, hq_21_15, hg_21_16, hq_21_16, hg_21_17, hq_21_17, ha_22, hg_22_0, hg_22_1, hg_22_2, hg_22_3, hg_22_4, hg_22_5, hg_22_6, hq_22_6, hg_22_7, hq_22_7, hg_22_8, hq_22_8, hl_23, hs_23, hl_24, hs_24, hl_25, hs_25, hl_26, hs_26, hl_27, hs_27, ha_28, hg_28_0, hg_28_1, hq_28_1, hl_29, hs_29, hl_30, hs_30, hl_31, hs_31, hl_32, hs_32, hl_33, hs_33, hl_34, hs_34, hl_35, hs_35, am_ld_cons, am_ld_nil, am_st1_cons, am_st1_nil, am_st2_cons, am_st2_nil, am_P1, am_P2, Value.category, am_add_add, am_add0, am_add_some, hl, h1, h2, hq, hq2, e1, ea, hb, eb, g1, g2, g3, e20, hx, e5, k, x1, x2, x3, x4, x5, x6, x7, x8]
set_option maxRecDepth 100000 in
set_option maxHeartbeats 4000000 in
theorem c61_leaf_g (scr : Nat → Int32) (L F d : Nat) (I : Nat → Nat → Int32) (J : Nat → Nat → Int64) (M : Nat → Nat → Int32) (n p D : Nat) (y : Int32) (h : rdI I n p) (hpn : p < n) (hD : D ≤ 20) (x : Int32) (hx : I 19 p = x) (x1 : ¬ x = 33) (x2 : ¬ x = 36) (x3 : ¬ x = 40) (x4 : ¬ x = 60) (x5 : ¬ x = 64) (x6 : ¬ x = 91) (x7 : ¬ x = 92) (x8 : ¬ x = 123) (I2 : am_I) (K : Nat) (hK : I2 1 12 = nI K) (hK2 : K < 100) (k : am_r scr L (F + 63000) (d + 29) 62 [.ref 19, .int (x), .int (nI p)] (hp (beI (adI I (p + 1)) p y) J M) = some (some (.int 1), hp I2 J M, 0, 0)) : am_r scr L (F + 63000) (d + 30) 61 [.ref 19, .int y, .int (nI D)] (hp I J M) = some (some (.int (nI p)), hp (enI I2 K (nI p)) J M, 0, 0) := by
  have hl : ¬ (20 : Int32) < nI D := by
    rw [show (20 : Int32) = nI 20 by decide +kernel]
    exact nI_nlt hD (by decide)
  obtain ⟨h1, h2, h3, h4, h5⟩ := h
  have hq : ¬ nI n ≤ nI p := nI_ge hpn (by omega)
  have hq2 : nI p < nI n := nI_lt hpn (by omega)
  have e1 : nI p + 1 = nI (p + 1) := nI_1 p
  have g1 : ¬ nI p < 0 := nI_pos (by omega)
  have g2 : (nI p).toNatClampNeg = p := nI_clamp (by omega)
  have g3 : ¬ 100 ≤ p := by omega
  have hb := m_53 scr L (F + 62900) (d + 28) (adI I (p + 1)) J M p y (by omega)
  have e19 : beI (adI I (p + 1)) p y 19 p = x := by
    rw [← hx]
    simp [beI, adI, va_up]
  have e20 : beI (adI I (p + 1)) p y 19 = I 19 := by simp [beI, adI, va_up]
  have e5 := h5 p hpn
  rw [hx] at e5
  have ea : va_up I 18 (upd (I 18) 3 (nI (p + 1))) = adI I (p + 1) := rfl
  have eb : va_up (va_up (va_up (va_up (adI I (p + 1)) 8 (upd (adI I (p + 1) 8) p y)) 9 (upd (adI I (p + 1) 9) p (-1))) 10 (upd (adI I (p + 1) 10) p (-1))) 11 (upd (adI I (p + 1) 11) p (-1)) = beI (adI I (p + 1)) p y := rfl
  have he := m_54 scr L (F + 62900) (d + 28) I2 J M K (nI p) hK hK2
  rw [show va_up (va_up I2 17 (upd (I2 17) K (nI p))) 1 (upd (I2 1) 12 (nI (K + 1))) = enI I2 K (nI p) from rfl] at he
  simp [r_61, s_61_0, s_61_1, s_61_3, s_61_6, s_61_7, s_61_10, s_61_11, s_61_14, s_61_17, s_61_18, s_61_19, s_61_20, s_61_23, s_61_24, s_61_25, s_61_26, s_61_29, s_61_30, s_61_31, s_61_34, s_61_35, s_61_38, s_61_39, s_61_40, s_61_43, s_61_44, s_61_47, s_61_48, s_61_49, s_61_124, s_61_125, s_61_126, s_61_127, s_61_130, s_61_132, s_61_135, s_61_136, s_61_137, s_61_138, s_61_141, s_61_143, s_61_146, s_61_147, s_61_148, s_61_149, s_61_152, s_61_154, s_61_157, s_61_158, s_61_159, s_61_160, s_61_163, s_61_165, s_61_168, s_61_169, s_61_170, s_61_171, s_61_174, s_61_176, s_61_179, s_61_180, s_61_182, s_61_183, s_61_184, s_61_187, s_61_189, s_61_192, s_61_193, s_61_195, s_61_196, s_61_197, s_61_200, s_61_202, s_61_205, s_61_206, s_61_208, s_61_209, s_61_210, s_61_213, s_61_215, s_61_218, s_61_219, s_61_220, s_61_223, s_61_224, s_61_225, s_61_226, s_61_229, s_61_231, s_61_233, s_61_236, s_61_237, s_61_238, s_61_239, s_61_242, s_61_243, s_61_246, s_61_247, ha_0, hg_0_0, hg_0_1, hg_0_2, hg_0_3, hg_0_4, hq_0_4, hg_0_5, hq_0_5, ha_1, hg_1_0, hg_1_1, hg_1_2, hg_1_3, hg_1_4, hg_1_5, hg_1_6, hg_1_7, hg_1_8, hg_1_9, hg_1_10, hg_1_11, hg_1_12, hq_1_12, ha_2, hg_2_0, hg_2_1, hg_2_2, hg_2_3, hg_2_4, hq_2_4, hl_3, hs_3, hl_4, hs_4, hl_5, hs_5, hl_6, hs_6, hl_7, hs_7, hl_8, hs_8, hl_9, hs_9, hl_10, hs_10, hl_11, hs_11, hl_12, hs_12, hl_13, hs_13, hl_14, hs_14, hl_15, hs_15, hl_16, hs_16, hl_17, hs_17, ha_18, hg_18_0, hg_18_1, hg_18_2, hq_18_2, hg_18_3, hq_18_3, hl_19, hs_19, ha_20, hg_20_0, hg_20_1, ha_21, hg_21_0, hg_21_1, hg_21_2, hg_21_3, hg_21_4, hg_21_5, hg_21_6, hq_21_6, hg_21_7, hg_21_8, hg_21_9, hg_21_10, hq_21_10, hg_21_11, hq_21_11, hg_21_12, hq_21_12, hg_21_13, hq_21_13, hg_21_14, hq_21_14, hg_21_15, hq_21_15, hg_21_16, hq_21_16, hg_21_17, hq_21_17, ha_22, hg_22_0, hg_22_1, hg_22_2, hg_22_3, hg_22_4, hg_22_5, hg_22_6, hq_22_6, hg_22_7, hq_22_7, hg_22_8, hq_22_8, hl_23, hs_23, hl_24, hs_24, hl_25, hs_25, hl_26, hs_26, hl_27, hs_27, ha_28, hg_28_0, hg_28_1, hq_28_1, hl_29, hs_29, hl_30, hs_30, hl_31, hs_31, hl_32, hs_32, hl_33, hs_33, hl_34, hs_34, hl_35, hs_35, am_ld_cons, am_ld_nil, am_st1_cons, am_st1_nil, am_st2_cons, am_st2_nil, am_P1, am_P2, Value.category, am_add_add, am_add0, am_add_some, hl, h1, h2, hq, hq2, e1, ea, hb, eb, g1, g2, g3, e20, hx, e5, k, he, x1, x2, x3, x4, x5, x6, x7, x8]
set_option maxRecDepth 100000 in
set_option maxHeartbeats 4000000 in
theorem c71_f (scr : Nat → Int32) (L F d : Nat) (I : Nat → Nat → Int32) (J : Nat → Nat → Int64) (M : Nat → Nat → Int32) (s D : Nat) (hs : s < 100) (I1 : am_I) (k : am_r scr L (F + 63000) (d + 20) 61 [.ref 19, .int (nI s), .int (nI (D + 1))] (hp I J M) = some (some (.int (-1)), hp I1 J M, 0, 0)) : am_r scr L (F + 63000) (d + 21) 71 [.ref 19, .int (nI s), .int (nI D)] (hp I J M) = some (some (.int 0), hp (wr I1 9 s (-1)) J M, 0, 0) := by
  have g1 : ¬ nI s < 0 := nI_pos (by omega)
  have g2 : (nI s).toNatClampNeg = s := nI_clamp (by omega)
  have g3 : ¬ 100 ≤ s := by omega
  have e1 : nI D + 1 = nI (D + 1) := nI_1 D
  simp [r_71, s_71_0, s_71_1, s_71_4, s_71_7, s_71_8, s_71_9, s_71_10, s_71_11, s_71_12, s_71_13, s_71_16, s_71_17, s_71_18, s_71_21, s_71_24, s_71_25, s_71_26, s_71_27, s_71_30, s_71_31, s_71_34, s_71_35, ha_0, hg_0_0, hg_0_1, hg_0_2, hg_0_3, hg_0_4, hq_0_4, hg_0_5, hq_0_5, ha_1, hg_1_0, hg_1_1, hg_1_2, hg_1_3, hg_1_4, hg_1_5, hg_1_6, hg_1_7, hg_1_8, hg_1_9, hg_1_10, hg_1_11, hg_1_12, hq_1_12, ha_2, hg_2_0, hg_2_1, hg_2_2, hg_2_3, hg_2_4, hq_2_4, hl_3, hs_3, hl_4, hs_4, hl_5, hs_5, hl_6, hs_6, hl_7, hs_7, hl_8, hs_8, hl_9, hs_9, hl_10, hs_10, hl_11, hs_11, hl_12, hs_12, hl_13, hs_13, hl_14, hs_14, hl_15, hs_15, hl_16, hs_16, hl_17, hs_17, ha_18, hg_18_0, hg_18_1, hg_18_2, hq_18_2, hg_18_3, hq_18_3, hl_19, hs_19, ha_20, hg_20_0, hg_20_1, ha_21, hg_21_0, hg_21_1, hg_21_2, hg_21_3, hg_21_4, hg_21_5, hg_21_6, hq_21_6, hg_21_7, hg_21_8, hg_21_9, hg_21_10, hq_21_10, hg_21_11, hq_21_11, hg_21_12, hq_21_12, hg_21_13, hq_21_13, hg_21_14, hq_21_14, hg_21_15, hq_21_15, hg_21_16, hq_21_16, hg_21_17, hq_21_17, ha_22, hg_22_0, hg_22_1, hg_22_2, hg_22_3, hg_22_4, hg_22_5, hg_22_6, hq_22_6, hg_22_7, hq_22_7, hg_22_8, hq_22_8, hl_23, hs_23, hl_24, hs_24, hl_25, hs_25, hl_26, hs_26, hl_27, hs_27, ha_28, hg_28_0, hg_28_1, hq_28_1, hl_29, hs_29, hl_30, hs_30, hl_31, hs_31, hl_32, hs_32, hl_33, hs_33, hl_34, hs_34, hl_35, hs_35, am_ld_cons, am_ld_nil, am_st1_cons, am_st1_nil, am_st2_cons, am_st2_nil, am_P1, am_P2, Value.category, am_add_add, am_add0, am_add_some, g1, g2, g3, e1, k, wr, pk_us, va_up_self]
set_option maxRecDepth 100000 in
set_option maxHeartbeats 4000000 in
theorem c71_g (scr : Nat → Int32) (L F d : Nat) (I : Nat → Nat → Int32) (J : Nat → Nat → Int64) (M : Nat → Nat → Int32) (s D q : Nat) (hs : s < 100) (hq : q < 1000) (I1 : am_I) (k : am_r scr L (F + 63000) (d + 20) 61 [.ref 19, .int (nI s), .int (nI (D + 1))] (hp I J M) = some (some (.int (nI q)), hp I1 J M, 0, 0)) : am_r scr L (F + 63000) (d + 21) 71 [.ref 19, .int (nI s), .int (nI D)] (hp I J M) = some (some (.int 1), hp (wr I1 9 s (nI q)) J M, 0, 0) := by
  have g1 : ¬ nI s < 0 := nI_pos (by omega)
  have g2 : (nI s).toNatClampNeg = s := nI_clamp (by omega)
  have g3 : ¬ 100 ≤ s := by omega
  have e1 : nI D + 1 = nI (D + 1) := nI_1 D
  have t1 : ¬ nI q = -1 := nI_nm (by omega)
  simp [r_71, s_71_0, s_71_1, s_71_4, s_71_7, s_71_8, s_71_9, s_71_10, s_71_11, s_71_12, s_71_13, s_71_16, s_71_17, s_71_18, s_71_21, s_71_24, s_71_25, s_71_26, s_71_27, s_71_30, s_71_31, s_71_34, s_71_35, ha_0, hg_0_0, hg_0_1, hg_0_2, hg_0_3, hg_0_4, hq_0_4, hg_0_5, hq_0_5, ha_1, hg_1_0, hg_1_1, hg_1_2, hg_1_3, hg_1_4, hg_1_5, hg_1_6, hg_1_7, hg_1_8, hg_1_9, hg_1_10, hg_1_11, hg_1_12, hq_1_12, ha_2, hg_2_0, hg_2_1, hg_2_2, hg_2_3, hg_2_4, hq_2_4, hl_3, hs_3, hl_4, hs_4, hl_5, hs_5, hl_6, hs_6, hl_7, hs_7, hl_8, hs_8, hl_9, hs_9, hl_10, hs_10, hl_11, hs_11, hl_12, hs_12, hl_13, hs_13, hl_14, hs_14, hl_15, hs_15, hl_16, hs_16, hl_17, hs_17, ha_18, hg_18_0, hg_18_1, hg_18_2, hq_18_2, hg_18_3, hq_18_3, hl_19, hs_19, ha_20, hg_20_0, hg_20_1, ha_21, hg_21_0, hg_21_1, hg_21_2, hg_21_3, hg_21_4, hg_21_5, hg_21_6, hq_21_6, hg_21_7, hg_21_8, hg_21_9, hg_21_10, hq_21_10, hg_21_11, hq_21_11, hg_21_12, hq_21_12, hg_21_13, hq_21_13, hg_21_14, hq_21_14, hg_21_15, hq_21_15, hg_21_16, hq_21_16, hg_21_17, hq_21_17, ha_22, hg_22_0, hg_22_1, hg_22_2, hg_22_3, hg_22_4, hg_22_5, hg_22_6, hq_22_6, hg_22_7, hq_22_7, hg_22_8, hq_22_8, hl_23, hs_23, hl_24, hs_24, hl_25, hs_25, hl_26, hs_26, hl_27, hs_27, ha_28, hg_28_0, hg_28_1, hq_28_1, hl_29, hs_29, hl_30, hs_30, hl_31, hs_31, hl_32, hs_32, hl_33, hs_33, hl_34, hs_34, hl_35, hs_35, am_ld_cons, am_ld_nil, am_st1_cons, am_st1_nil, am_st2_cons, am_st2_nil, am_P1, am_P2, Value.category, am_add_add, am_add0, am_add_some, g1, g2, g3, e1, k, wr, pk_us, va_up_self, t1]
set_option maxRecDepth 100000 in
set_option maxHeartbeats 4000000 in
theorem c72_f (scr : Nat → Int32) (L F d : Nat) (I : Nat → Nat → Int32) (J : Nat → Nat → Int64) (M : Nat → Nat → Int32) (s D : Nat) (hs : s < 100) (I1 : am_I) (k : am_r scr L (F + 63000) (d + 20) 61 [.ref 19, .int (nI s), .int (nI (D + 1))] (hp I J M) = some (some (.int (-1)), hp I1 J M, 0, 0)) : am_r scr L (F + 63000) (d + 21) 72 [.ref 19, .int (nI s), .int (nI D)] (hp I J M) = some (some (.int 0), hp (wr I1 10 s (-1)) J M, 0, 0) := by
  have g1 : ¬ nI s < 0 := nI_pos (by omega)
  have g2 : (nI s).toNatClampNeg = s := nI_clamp (by omega)
  have g3 : ¬ 100 ≤ s := by omega
  have e1 : nI D + 1 = nI (D + 1) := nI_1 D
  simp [r_72, s_72_0, s_72_1, s_72_4, s_72_7, s_72_8, s_72_9, s_72_10, s_72_11, s_72_12, s_72_13, s_72_16, s_72_17, s_72_18, s_72_21, s_72_24, s_72_25, s_72_26, s_72_27, s_72_30, s_72_31, s_72_34, s_72_35, ha_0, hg_0_0, hg_0_1, hg_0_2, hg_0_3, hg_0_4, hq_0_4, hg_0_5, hq_0_5, ha_1, hg_1_0, hg_1_1, hg_1_2, hg_1_3, hg_1_4, hg_1_5, hg_1_6, hg_1_7, hg_1_8, hg_1_9, hg_1_10, hg_1_11, hg_1_12, hq_1_12, ha_2, hg_2_0, hg_2_1, hg_2_2, hg_2_3, hg_2_4, hq_2_4, hl_3, hs_3, hl_4, hs_4, hl_5, hs_5, hl_6, hs_6, hl_7, hs_7, hl_8, hs_8, hl_9, hs_9, hl_10, hs_10, hl_11, hs_11, hl_12, hs_12, hl_13, hs_13, hl_14, hs_14, hl_15, hs_15, hl_16, hs_16, hl_17, hs_17, ha_18, hg_18_0, hg_18_1, hg_18_2, hq_18_2, hg_18_3, hq_18_3, hl_19, hs_19, ha_20, hg_20_0, hg_20_1, ha_21, hg_21_0, hg_21_1, hg_21_2, hg_21_3, hg_21_4, hg_21_5, hg_21_6, hq_21_6, hg_21_7, hg_21_8, hg_21_9, hg_21_10, hq_21_10, hg_21_11, hq_21_11, hg_21_12, hq_21_12, hg_21_13, hq_21_13, hg_21_14, hq_21_14, hg_21_15, hq_21_15, hg_21_16, hq_21_16, hg_21_17, hq_21_17, ha_22, hg_22_0, hg_22_1, hg_22_2, hg_22_3, hg_22_4, hg_22_5, hg_22_6, hq_22_6, hg_22_7, hq_22_7, hg_22_8, hq_22_8, hl_23, hs_23, hl_24, hs_24, hl_25, hs_25, hl_26, hs_26, hl_27, hs_27, ha_28, hg_28_0, hg_28_1, hq_28_1, hl_29, hs_29, hl_30, hs_30, hl_31, hs_31, hl_32, hs_32, hl_33, hs_33, hl_34, hs_34, hl_35, hs_35, am_ld_cons, am_ld_nil, am_st1_cons, am_st1_nil, am_st2_cons, am_st2_nil, am_P1, am_P2, Value.category, am_add_add, am_add0, am_add_some, g1, g2, g3, e1, k, wr, pk_us, va_up_self]
set_option maxRecDepth 100000 in
set_option maxHeartbeats 4000000 in
theorem c72_g (scr : Nat → Int32) (L F d : Nat) (I : Nat → Nat → Int32) (J : Nat → Nat → Int64) (M : Nat → Nat → Int32) (s D q : Nat) (hs : s < 100) (hq : q < 1000) (I1 : am_I) (k : am_r scr L (F + 63000) (d + 20) 61 [.ref 19, .int (nI s), .int (nI (D + 1))] (hp I J M) = some (some (.int (nI q)), hp I1 J M, 0, 0)) : am_r scr L (F + 63000) (d + 21) 72 [.ref 19, .int (nI s), .int (nI D)] (hp I J M) = some (some (.int 1), hp (wr I1 10 s (nI q)) J M, 0, 0) := by
  have g1 : ¬ nI s < 0 := nI_pos (by omega)
  have g2 : (nI s).toNatClampNeg = s := nI_clamp (by omega)
  have g3 : ¬ 100 ≤ s := by omega
  have e1 : nI D + 1 = nI (D + 1) := nI_1 D
  have t1 : ¬ nI q = -1 := nI_nm (by omega)
  simp [r_72, s_72_0, s_72_1, s_72_4, s_72_7, s_72_8, s_72_9, s_72_10, s_72_11, s_72_12, s_72_13, s_72_16, s_72_17, s_72_18, s_72_21, s_72_24, s_72_25, s_72_26, s_72_27, s_72_30, s_72_31, s_72_34, s_72_35, ha_0, hg_0_0, hg_0_1, hg_0_2, hg_0_3, hg_0_4, hq_0_4, hg_0_5, hq_0_5, ha_1, hg_1_0, hg_1_1, hg_1_2, hg_1_3, hg_1_4, hg_1_5, hg_1_6, hg_1_7, hg_1_8, hg_1_9, hg_1_10, hg_1_11, hg_1_12, hq_1_12, ha_2, hg_2_0, hg_2_1, hg_2_2, hg_2_3, hg_2_4, hq_2_4, hl_3, hs_3, hl_4, hs_4, hl_5, hs_5, hl_6, hs_6, hl_7, hs_7, hl_8, hs_8, hl_9, hs_9, hl_10, hs_10, hl_11, hs_11, hl_12, hs_12, hl_13, hs_13, hl_14, hs_14, hl_15, hs_15, hl_16, hs_16, hl_17, hs_17, ha_18, hg_18_0, hg_18_1, hg_18_2, hq_18_2, hg_18_3, hq_18_3, hl_19, hs_19, ha_20, hg_20_0, hg_20_1, ha_21, hg_21_0, hg_21_1, hg_21_2, hg_21_3, hg_21_4, hg_21_5, hg_21_6, hq_21_6, hg_21_7, hg_21_8, hg_21_9, hg_21_10, hq_21_10, hg_21_11, hq_21_11, hg_21_12, hq_21_12, hg_21_13, hq_21_13, hg_21_14, hq_21_14, hg_21_15, hq_21_15, hg_21_16, hq_21_16, hg_21_17, hq_21_17, ha_22, hg_22_0, hg_22_1, hg_22_2, hg_22_3, hg_22_4, hg_22_5, hg_22_6, hq_22_6, hg_22_7, hq_22_7, hg_22_8, hq_22_8, hl_23, hs_23, hl_24, hs_24, hl_25, hs_25, hl_26, hs_26, hl_27, hs_27, ha_28, hg_28_0, hg_28_1, hq_28_1, hl_29, hs_29, hl_30, hs_30, hl_31, hs_31, hl_32, hs_32, hl_33, hs_33, hl_34, hs_34, hl_35, hs_35, am_ld_cons, am_ld_nil, am_st1_cons, am_st1_nil, am_st2_cons, am_st2_nil, am_P1, am_P2, Value.category, am_add_add, am_add0, am_add_some, g1, g2, g3, e1, k, wr, pk_us, va_up_self, t1]
set_option maxRecDepth 100000 in
set_option maxHeartbeats 4000000 in
theorem c73_f (scr : Nat → Int32) (L F d : Nat) (I : Nat → Nat → Int32) (J : Nat → Nat → Int64) (M : Nat → Nat → Int32) (s D : Nat) (hs : s < 100) (I1 : am_I) (k : am_r scr L (F + 63000) (d + 20) 74 [.ref 19, .int (nI (D + 1))] (hp I J M) = some (some (.int (-1)), hp I1 J M, 0, 0)) : am_r scr L (F + 63000) (d + 21) 73 [.ref 19, .int (nI s), .int (nI D)] (hp I J M) = some (some (.int 0), hp (wr I1 13 s (-1)) J M, 0, 0) := by
  have g1 : ¬ nI s < 0 := nI_pos (by omega)
  have g2 : (nI s).toNatClampNeg = s := nI_clamp (by omega)
  have g3 : ¬ 100 ≤ s := by omega
  have e1 : nI D + 1 = nI (D + 1) := nI_1 D
  simp [r_73, s_73_0, s_73_1, s_73_4, s_73_7, s_73_8, s_73_9, s_73_10, s_73_11, s_73_12, s_73_15, s_73_16, s_73_17, s_73_20, s_73_23, s_73_24, s_73_25, s_73_26, s_73_29, s_73_30, s_73_33, s_73_34, ha_0, hg_0_0, hg_0_1, hg_0_2, hg_0_3, hg_0_4, hq_0_4, hg_0_5, hq_0_5, ha_1, hg_1_0, hg_1_1, hg_1_2, hg_1_3, hg_1_4, hg_1_5, hg_1_6, hg_1_7, hg_1_8, hg_1_9, hg_1_10, hg_1_11, hg_1_12, hq_1_12, ha_2, hg_2_0, hg_2_1, hg_2_2, hg_2_3, hg_2_4, hq_2_4, hl_3, hs_3, hl_4, hs_4, hl_5, hs_5, hl_6, hs_6, hl_7, hs_7, hl_8, hs_8, hl_9, hs_9, hl_10, hs_10, hl_11, hs_11, hl_12, hs_12, hl_13, hs_13, hl_14, hs_14, hl_15, hs_15, hl_16, hs_16, hl_17, hs_17, ha_18, hg_18_0, hg_18_1, hg_18_2, hq_18_2, hg_18_3, hq_18_3, hl_19, hs_19, ha_20, hg_20_0, hg_20_1, ha_21, hg_21_0, hg_21_1, hg_21_2, hg_21_3, hg_21_4, hg_21_5, hg_21_6, hq_21_6, hg_21_7, hg_21_8, hg_21_9, hg_21_10, hq_21_10, hg_21_11, hq_21_11, hg_21_12, hq_21_12, hg_21_13, hq_21_13, hg_21_14, hq_21_14, hg_21_15, hq_21_15, hg_21_16, hq_21_16, hg_21_17, hq_21_17, ha_22, hg_22_0, hg_22_1, hg_22_2, hg_22_3, hg_22_4, hg_22_5, hg_22_6, hq_22_6, hg_22_7, hq_22_7, hg_22_8, hq_22_8, hl_23, hs_23, hl_24, hs_24, hl_25, hs_25, hl_26, hs_26, hl_27, hs_27, ha_28, hg_28_0, hg_28_1, hq_28_1, hl_29, hs_29, hl_30, hs_30, hl_31, hs_31, hl_32, hs_32, hl_33, hs_33, hl_34, hs_34, hl_35, hs_35, am_ld_cons, am_ld_nil, am_st1_cons, am_st1_nil, am_st2_cons, am_st2_nil, am_P1, am_P2, Value.category, am_add_add, am_add0, am_add_some, g1, g2, g3, e1, k, wr, pk_us, va_up_self]
set_option maxRecDepth 100000 in
set_option maxHeartbeats 4000000 in
theorem c73_g (scr : Nat → Int32) (L F d : Nat) (I : Nat → Nat → Int32) (J : Nat → Nat → Int64) (M : Nat → Nat → Int32) (s D q : Nat) (hs : s < 100) (hq : q < 1000) (I1 : am_I) (k : am_r scr L (F + 63000) (d + 20) 74 [.ref 19, .int (nI (D + 1))] (hp I J M) = some (some (.int (nI q)), hp I1 J M, 0, 0)) : am_r scr L (F + 63000) (d + 21) 73 [.ref 19, .int (nI s), .int (nI D)] (hp I J M) = some (some (.int 1), hp (wr I1 13 s (nI q)) J M, 0, 0) := by
  have g1 : ¬ nI s < 0 := nI_pos (by omega)
  have g2 : (nI s).toNatClampNeg = s := nI_clamp (by omega)
  have g3 : ¬ 100 ≤ s := by omega
  have e1 : nI D + 1 = nI (D + 1) := nI_1 D
  have t1 : ¬ nI q = -1 := nI_nm (by omega)
  simp [r_73, s_73_0, s_73_1, s_73_4, s_73_7, s_73_8, s_73_9, s_73_10, s_73_11, s_73_12, s_73_15, s_73_16, s_73_17, s_73_20, s_73_23, s_73_24, s_73_25, s_73_26, s_73_29, s_73_30, s_73_33, s_73_34, ha_0, hg_0_0, hg_0_1, hg_0_2, hg_0_3, hg_0_4, hq_0_4, hg_0_5, hq_0_5, ha_1, hg_1_0, hg_1_1, hg_1_2, hg_1_3, hg_1_4, hg_1_5, hg_1_6, hg_1_7, hg_1_8, hg_1_9, hg_1_10, hg_1_11, hg_1_12, hq_1_12, ha_2, hg_2_0, hg_2_1, hg_2_2, hg_2_3, hg_2_4, hq_2_4, hl_3, hs_3, hl_4, hs_4, hl_5, hs_5, hl_6, hs_6, hl_7, hs_7, hl_8, hs_8, hl_9, hs_9, hl_10, hs_10, hl_11, hs_11, hl_12, hs_12, hl_13, hs_13, hl_14, hs_14, hl_15, hs_15, hl_16, hs_16, hl_17, hs_17, ha_18, hg_18_0, hg_18_1, hg_18_2, hq_18_2, hg_18_3, hq_18_3, hl_19, hs_19, ha_20, hg_20_0, hg_20_1, ha_21, hg_21_0, hg_21_1, hg_21_2, hg_21_3, hg_21_4, hg_21_5, hg_21_6, hq_21_6, hg_21_7, hg_21_8, hg_21_9, hg_21_10, hq_21_10, hg_21_11, hq_21_11, hg_21_12, hq_21_12, hg_21_13, hq_21_13, hg_21_14, hq_21_14, hg_21_15, hq_21_15, hg_21_16, hq_21_16, hg_21_17, hq_21_17, ha_22, hg_22_0, hg_22_1, hg_22_2, hg_22_3, hg_22_4, hg_22_5, hg_22_6, hq_22_6, hg_22_7, hq_22_7, hg_22_8, hq_22_8, hl_23, hs_23, hl_24, hs_24, hl_25, hs_25, hl_26, hs_26, hl_27, hs_27, ha_28, hg_28_0, hg_28_1, hq_28_1, hl_29, hs_29, hl_30, hs_30, hl_31, hs_31, hl_32, hs_32, hl_33, hs_33, hl_34, hs_34, hl_35, hs_35, am_ld_cons, am_ld_nil, am_st1_cons, am_st1_nil, am_st2_cons, am_st2_nil, am_P1, am_P2, Value.category, am_add_add, am_add0, am_add_some, g1, g2, g3, e1, k, wr, pk_us, va_up_self, t1]
