/-! Casts: what is inside all casts. -/
/-- the value v is made of the casts ws, the outermost first, around e -/
def ch (f : Nat → Int64) : List Nat → Int64 → Int64 → Prop
  | [], v, e => v = e ∧ v &&& 4 = 0
  | w :: ws, v, e => ¬ v &&& 4 = 0 ∧ v_ca v = nI w ∧ w < 200 ∧ ch f ws (f w) e
set_option maxRecDepth 100000 in
set_option maxHeartbeats 4000000 in
theorem l_16 (scr : Nat → Int32) (L F d : Nat) (I : Nat → Nat → Int32) (J : Nat → Nat → Int64) (M : Nat → Nat → Int32) (x e : Int64) : ∀ (ws : List Nat) (v : Int64) (i n : Nat), ch (J 23) ws v e → i + ws.length ≤ 200 → am_f (d + 1) scr L (am_r scr L (F + 9000) (d + 1)) 16 (n + (30 * ws.length + 20)) 5 ((0, .ref 23) :: (1, .long x) :: (3, .long v) :: (5, .int (nI i)) :: []) [] (hp I J M) = some (some (.long e), hp I J M, 0, 0) := by
  intro ws
  induction ws with
  | nil =>
    intro v i n hc hi
    obtain ⟨rfl, h4⟩ := hc
    have k1 := m_88 scr L (F + 8900) d I J M v
    rw [if_pos h4] at k1
    rw [show n + (30 * ([] : List Nat).length + 20) = n + 20 from rfl, s_16_5]
    by_cases h : nI i < 200
    · have h' : ¬ 200 ≤ nI i := Int32.not_le.mpr h
      simp [s_16_0, s_16_1, s_16_2, s_16_3, s_16_7, s_16_10, s_16_13, s_16_14, s_16_17, s_16_20, s_16_21, s_16_24, s_16_25, s_16_28, s_16_29, s_16_30, s_16_33, s_16_36, s_16_37, ha_0, hg_0_0, hg_0_1, hg_0_2, hg_0_3, hg_0_4, hq_0_4, hg_0_5, hq_0_5, ha_1, hg_1_0, hg_1_1, hg_1_2, hg_1_3, hg_1_4, hg_1_5, hg_1_6, hg_1_7, hg_1_8, hg_1_9, hg_1_10, hg_1_11, hg_1_12, hq_1_12, ha_2, hg_2_0, hg_2_1, hg_2_2, hg_2_3, hg_2_4, hq_2_4, hl_3, hs_3, hl_4, hs_4, hl_5, hs_5, hl_6, hs_6, hl_7, hs_7, hl_8, hs_8, hl_9, hs_9, hl_10, hs_10, hl_11, hs_11, hl_12, hs_12, hl_13, hs_13, hl_14, hs_14, hl_15, hs_15, hl_16, hs_16, hl_17, hs_17, ha_18, hg_18_0, hg_18_1, hg_18_2, hq_18_2, hg_18_3, hq_18_3, hl_19, hs_19, ha_20, hg_20_0, hg_20_1, ha_21, hg_21_0, hg_21_1, hg_21_2, hg_21_3, hg_21_4, hg_21_5, hg_21_6, hq_21_6, hg_21_7, hg_21_8, hg_21_9, hg_21_10, hq_21_10, hg_21_11, hq_21_11, hg_21_12, hq_21_12, hg_21_13, hq_21_13, hg_21_14, hq_21_14, hg_21_15, hq_21_15, hg_21_16, hq_21_16, hg_21_17, hq_21_17, ha_22, hg_22_0, hg_22_1, hg_22_2, hg_22_3, hg_22_4, hg_22_5, hg_22_6, hq_22_6, hg_22_7, hq_22_7, hg_22_8, hq_22_8, hl_23, hs_23, hl_24, hs_24, hl_25, hs_25, hl_26, hs_26, hl_27, hs_27, ha_28, hg_28_0, hg_28_1, hq_28_1, hl_29, hs_29, hl_30, hs_30, hl_31, hs_31, hl_32, hs_32, hl_33, hs_33, hl_34, hs_34, hl_35, hs_35, am_ld_cons, am_ld_nil, am_st1_cons, am_st1_nil, am_st2_cons, am_st2_nil, am_P1, am_P2, Value.category, am_add_add, am_add0, am_add_some, h, h', k1]
    · have h' : 200 ≤ nI i := Int32.not_lt.mp h
      simp [s_16_0, s_16_1, s_16_2, s_16_3, s_16_7, s_16_10, s_16_13, s_16_14, s_16_17, s_16_20, s_16_21, s_16_24, s_16_25, s_16_28, s_16_29, s_16_30, s_16_33, s_16_36, s_16_37, ha_0, hg_0_0, hg_0_1, hg_0_2, hg_0_3, hg_0_4, hq_0_4, hg_0_5, hq_0_5, ha_1, hg_1_0, hg_1_1, hg_1_2, hg_1_3, hg_1_4, hg_1_5, hg_1_6, hg_1_7, hg_1_8, hg_1_9, hg_1_10, hg_1_11, hg_1_12, hq_1_12, ha_2, hg_2_0, hg_2_1, hg_2_2, hg_2_3, hg_2_4, hq_2_4, hl_3, hs_3, hl_4, hs_4, hl_5, hs_5, hl_6, hs_6, hl_7, hs_7, hl_8, hs_8, hl_9, hs_9, hl_10, hs_10, hl_11, hs_11, hl_12, hs_12, hl_13, hs_13, hl_14, hs_14, hl_15, hs_15, hl_16, hs_16, hl_17, hs_17, ha_18, hg_18_0, hg_18_1, hg_18_2, hq_18_2, hg_18_3, hq_18_3, hl_19, hs_19, ha_20, hg_20_0, hg_20_1, ha_21, hg_21_0, hg_21_1, hg_21_2, hg_21_3, hg_21_4, hg_21_5, hg_21_6, hq_21_6, hg_21_7, hg_21_8, hg_21_9, hg_21_10, hq_21_10, hg_21_11, hq_21_11, hg_21_12, hq_21_12, hg_21_13, hq_21_13, hg_21_14, hq_21_14, hg_21_15, hq_21_15, hg_21_16, hq_21_16, hg_21_17, hq_21_17, ha_22, hg_22_0, hg_22_1, hg_22_2, hg_22_3, hg_22_4, hg_22_5, hg_22_6, hq_22_6, hg_22_7, hq_22_7, hg_22_8, hq_22_8, hl_23, hs_23, hl_24, hs_24, hl_25, hs_25, hl_26, hs_26, hl_27, hs_27, ha_28, hg_28_0, hg_28_1, hq_28_1, hl_29, hs_29, hl_30, hs_30, hl_31, hs_31, hl_32, hs_32, hl_33, hs_33, hl_34, hs_34, hl_35, hs_35, am_ld_cons, am_ld_nil, am_st1_cons, am_st1_nil, am_st2_cons, am_st2_nil, am_P1, am_P2, Value.category, am_add_add, am_add0, am_add_some, h, h', k1]
  | cons w ws ih =>
    intro v i n hc hi
    obtain ⟨h4, h5, h6, h7⟩ := hc
    rw [List.length_cons] at hi
    have k1 := m_88 scr L (F + 8900) d I J M v
    rw [if_neg h4] at k1
    have k2 := m_87 scr L (F + 8900) d I J M v
    rw [h5] at k2
    have g1 : ¬ nI w < 0 := nI_pos (by omega)
    have g2 : (nI w).toNatClampNeg = w := nI_clamp (by omega)
    have g3 : ¬ 200 ≤ w := by omega
    have e1 : nI i + 1 = nI (i + 1) := nI_1 i
    have h : nI i < 200 := by
      have e5 : (200 : Int32) = nI 200 := by decide +kernel
      rw [e5, nI_ltI (by omega) (by omega)]
      omega
    have h' : ¬ 200 ≤ nI i := Int32.not_le.mpr h
    rw [List.length_cons, show n + (30 * (ws.length + 1) + 20) = (n + (30 * ws.length + 20)) + 30 by omega]
    generalize hN : n + (30 * ws.length + 20) = N
    have key : ∀ f, N ≤ f → am_f (d + 1) scr L (am_r scr L (F + 9000) (d + 1)) 16 f 5 ((0, .ref 23) :: (1, .long x) :: (3, .long (J 23 w)) :: (5, .int (nI (i + 1))) :: []) [] (hp I J M) = some (some (.long e), hp I J M, 0, 0) := by
      intro f hf
      have z := ih (J 23 w) (i + 1) (f - (30 * ws.length + 20)) h7 (by omega)
      rw [show f - (30 * ws.length + 20) + (30 * ws.length + 20) = f by omega] at z
      exact z
    rw [s_16_5]
    simp [s_16_0, s_16_1, s_16_2, s_16_3, s_16_7, s_16_10, s_16_13, s_16_14, s_16_17, s_16_20, s_16_21, s_16_24, s_16_25, s_16_28, s_16_29, s_16_30, s_16_33, s_16_36, s_16_37, ha_0, hg_0_0, hg_0_1, hg_0_2, hg_0_3, hg_0_4, hq_0_4, hg_0_5, hq_0_5, ha_1, hg_1_0, hg_1_1, hg_1_2, hg_1_3, hg_1_4, hg_1_5, hg_1_6, hg_1_7, hg_1_8, hg_1_9, hg_1_10, hg_1_11, hg_1_12, hq_1_12, ha_2, hg_2_0, hg_2_1, hg_2_2, hg_2_3, hg_2_4, hq_2_4, hl_3, hs_3, hl_4, hs_4, hl_5, hs_5, hl_6, hs_6, hl_7, hs_7, hl_8, hs_8, hl_9, hs_9, hl_10, hs_10, hl_11, hs_11, hl_12, hs_12, hl_13, hs_13, hl_14, hs_14, hl_15, hs_15, hl_16, hs_16, hl_17, hs_17, ha_18, hg_18_0, hg_18_1, hg_18_2, hq_18_2, hg_18_3, hq_18_3, hl_19, hs_19, ha_20, hg_20_0, hg_20_1, ha_21, hg_21_0, hg_21_1, hg_21_2, hg_21_3, hg_21_4, hg_21_5, hg_21_6, hq_21_6, hg_21_7, hg_21_8, hg_21_9, hg_21_10, hq_21_10, hg_21_11, hq_21_11, hg_21_12, hq_21_12, hg_21_13, hq_21_13, hg_21_14, hq_21_14, hg_21_15, hq_21_15, hg_21_16, hq_21_16, hg_21_17, hq_21_17, ha_22, hg_22_0, hg_22_1, hg_22_2, hg_22_3, hg_22_4, hg_22_5, hg_22_6, hq_22_6, hg_22_7, hq_22_7, hg_22_8, hq_22_8, hl_23, hs_23, hl_24, hs_24, hl_25, hs_25, hl_26, hs_26, hl_27, hs_27, ha_28, hg_28_0, hg_28_1, hq_28_1, hl_29, hs_29, hl_30, hs_30, hl_31, hs_31, hl_32, hs_32, hl_33, hs_33, hl_34, hs_34, hl_35, hs_35, am_ld_cons, am_ld_nil, am_st1_cons, am_st1_nil, am_st2_cons, am_st2_nil, am_P1, am_P2, Value.category, am_add_add, am_add0, am_add_some, h, h', k1, k2, g1, g2, g3, e1]
    exact key _ (by omega)
set_option maxRecDepth 100000 in
set_option maxHeartbeats 4000000 in
theorem m_16 (scr : Nat → Int32) (L F d : Nat) (I : Nat → Nat → Int32) (J : Nat → Nat → Int64) (M : Nat → Nat → Int32) (v e : Int64) (ws : List Nat) (hc : ch (J 23) ws v e) (hw : ws.length ≤ 200) : am_r scr L (F + 9000) (d + 2) 16 [.ref 23, .long v] (hp I J M) = some (some (.long e), hp I J M, 0, 0) := by
  rw [r_16]
  have z := l_16 scr L F d I J M v e ws v 0 (F + 8996 - (30 * ws.length + 20)) hc (by omega)
  rw [show F + 8996 - (30 * ws.length + 20) + (30 * ws.length + 20) = F + 8996 by omega, nI_0] at z
  simp [s_16_0, s_16_1, s_16_2, s_16_3, am_ld_cons, am_ld_nil, am_st1_cons, am_st1_nil, am_st2_cons, am_st2_nil, am_P1, am_P2, Value.category]
  exact z
