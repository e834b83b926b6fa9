/-! The machine: a variable's value. -/
def vi (f : Nat → Nat) : Nat → Nat → Nat
  | 0, s => s
  | k + 1, s => vi f k (f s)
set_option maxRecDepth 100000 in
set_option maxHeartbeats 4000000 in
theorem l_36 (d L : Nat) (scr : Nat → Int32) (call : Nat → List Value → am_H → Option am_X) (I : Nat → Nat → Int32) (J : Nat → Nat → Int64) (M : Nat → Nat → Int32) (f : Nat → Nat) (B : Nat) (hB : B ≤ 1000) (hf : ∀ s, s < 41 → I 33 s = nI (f s) ∧ f s < 41) : ∀ (k i s n : Nat), i + k = B → s < 41 → am_f d scr L call 36 (n + (20 * k + 20)) 7 ((0, .ref 22) :: (1, .int (nI B)) :: (2, .int (nI s)) :: (3, .int (nI i)) :: []) [] (hp I J M) = some (some (.long (J 34 (vi f k s))), hp I J M, 0, 0) := by
  intro k
  induction k with
  | zero =>
    intro i s n hi hs
    have g1 : ¬ nI s < 0 := nI_pos (by omega)
    have g2 : (nI s).toNatClampNeg = s := nI_clamp (by omega)
    have g3 : ¬ 41 ≤ s := by omega
    obtain rfl : i = B := by omega
    have h : nI i ≤ nI i := nI_le (Nat.le_refl _) (by omega)
    rw [show n + (20 * 0 + 20) = n + 20 from rfl, s_36_7]
    simp [s_36_0, s_36_1, s_36_4, s_36_5, s_36_6, s_36_8, s_36_9, s_36_12, s_36_13, s_36_16, s_36_17, s_36_18, s_36_19, s_36_22, s_36_25, s_36_26, s_36_29, s_36_30, s_36_31, ha_0, hg_0_0, hg_0_1, hg_0_2, hg_0_3, hg_0_4, hq_0_4, hg_0_5, hq_0_5, ha_1, hg_1_0, hg_1_1, hg_1_2, hg_1_3, hg_1_4, hg_1_5, hg_1_6, hg_1_7, hg_1_8, hg_1_9, hg_1_10, hg_1_11, hg_1_12, hq_1_12, ha_2, hg_2_0, hg_2_1, hg_2_2, hg_2_3, hg_2_4, hq_2_4, hl_3, hs_3, hl_4, hs_4, hl_5, hs_5, hl_6, hs_6, hl_7, hs_7, hl_8, hs_8, hl_9, hs_9, hl_10, hs_10, hl_11, hs_11, hl_12, hs_12, hl_13, hs_13, hl_14, hs_14, hl_15, hs_15, hl_16, hs_16, hl_17, hs_17, ha_18, hg_18_0, hg_18_1, hg_18_2, hq_18_2, hg_18_3, hq_18_3, hl_19, hs_19, ha_20, hg_20_0, hg_20_1, ha_21, hg_21_0, hg_21_1, hg_21_2, hg_21_3, hg_21_4, hg_21_5, hg_21_6, hq_21_6, hg_21_7, hg_21_8, hg_21_9, hg_21_10, hq_21_10, hg_21_11, hq_21_11, hg_21_12, hq_21_12, hg_21_13, hq_21_13, hg_21_14, hq_21_14, hg_21_15, hq_21_15, hg_21_16, hq_21_16, hg_21_17, hq_21_17, ha_22, hg_22_0, hg_22_1, hg_22_2, hg_22_3, hg_22_4, hg_22_5, hg_22_6, hq_22_6, hg_22_7, hq_22_7, hg_22_8, hq_22_8, hl_23, hs_23, hl_24, hs_24, hl_25, hs_25, hl_26, hs_26, hl_27, hs_27, ha_28, hg_28_0, hg_28_1, hq_28_1, hl_29, hs_29, hl_30, hs_30, hl_31, hs_31, hl_32, hs_32, hl_33, hs_33, hl_34, hs_34, hl_35, hs_35, am_ld_cons, am_ld_nil, am_st1_cons, am_st1_nil, am_st2_cons, am_st2_nil, am_P1, am_P2, Value.category, h, g1, g2, g3, vi]
  | succ k ih =>
    intro i s n hi hs
    have g1 : ¬ nI s < 0 := nI_pos (by omega)
    have g2 : (nI s).toNatClampNeg = s := nI_clamp (by omega)
    have g3 : ¬ 41 ≤ s := by omega
    obtain ⟨a1, a2⟩ := hf s hs
    have h : ¬ nI B ≤ nI i := nI_ge (by omega) (by omega)
    have e1 : nI i + 1 = nI (i + 1) := nI_1 i
    rw [show n + (20 * (k + 1) + 20) = (n + (20 * k + 20)) + 20 by omega]
    generalize hN : n + (20 * k + 20) = N
    have key : ∀ g, N ≤ g → am_f d scr L call 36 g 7 ((0, .ref 22) :: (1, .int (nI B)) :: (2, .int (nI (f s))) :: (3, .int (nI (i + 1))) :: []) [] (hp I J M) = some (some (.long (J 34 (vi f k (f s)))), hp I J M, 0, 0) := by
      intro g hg
      have z := ih (i + 1) (f s) (g - (20 * k + 20)) (by omega) a2
      rw [show g - (20 * k + 20) + (20 * k + 20) = g by omega] at z
      exact z
    rw [s_36_7]
    simp [s_36_0, s_36_1, s_36_4, s_36_5, s_36_6, s_36_8, s_36_9, s_36_12, s_36_13, s_36_16, s_36_17, s_36_18, s_36_19, s_36_22, s_36_25, s_36_26, s_36_29, s_36_30, s_36_31, ha_0, hg_0_0, hg_0_1, hg_0_2, hg_0_3, hg_0_4, hq_0_4, hg_0_5, hq_0_5, ha_1, hg_1_0, hg_1_1, hg_1_2, hg_1_3, hg_1_4, hg_1_5, hg_1_6, hg_1_7, hg_1_8, hg_1_9, hg_1_10, hg_1_11, hg_1_12, hq_1_12, ha_2, hg_2_0, hg_2_1, hg_2_2, hg_2_3, hg_2_4, hq_2_4, hl_3, hs_3, hl_4, hs_4, hl_5, hs_5, hl_6, hs_6, hl_7, hs_7, hl_8, hs_8, hl_9, hs_9, hl_10, hs_10, hl_11, hs_11, hl_12, hs_12, hl_13, hs_13, hl_14, hs_14, hl_15, hs_15, hl_16, hs_16, hl_17, hs_17, ha_18, hg_18_0, hg_18_1, hg_18_2, hq_18_2, hg_18_3, hq_18_3, hl_19, hs_19, ha_20, hg_20_0, hg_20_1, ha_21, hg_21_0, hg_21_1, hg_21_2, hg_21_3, hg_21_4, hg_21_5, hg_21_6, hq_21_6, hg_21_7, hg_21_8, hg_21_9, hg_21_10, hq_21_10, hg_21_11, hq_21_11, hg_21_12, hq_21_12, hg_21_13, hq_21_13, hg_21_14, hq_21_14, hg_21_15, hq_21_15, hg_21_16, hq_21_16, hg_21_17, hq_21_17, ha_22, hg_22_0, hg_22_1, hg_22_2, hg_22_3, hg_22_4, hg_22_5, hg_22_6, hq_22_6, hg_22_7, hq_22_7, hg_22_8, hq_22_8, hl_23, hs_23, hl_24, hs_24, hl_25, hs_25, hl_26, hs_26, hl_27, hs_27, ha_28, hg_28_0, hg_28_1, hq_28_1, hl_29, hs_29, hl_30, hs_30, hl_31, hs_31, hl_32, hs_32, hl_33, hs_33, hl_34, hs_34, hl_35, hs_35, am_ld_cons, am_ld_nil, am_st1_cons, am_st1_nil, am_st2_cons, am_st2_nil, am_P1, am_P2, Value.category, h, g1, g2, g3, a1, e1, vi]
    exact key _ (by omega)
set_option maxRecDepth 100000 in
set_option maxHeartbeats 4000000 in
theorem m_36 (scr : Nat → Int32) (L F d : Nat) (I : Nat → Nat → Int32) (J : Nat → Nat → Int64) (M : Nat → Nat → Int32) (f : Nat → Nat) (B s : Nat) (hB : B ≤ 1000) (hf : ∀ s, s < 41 → I 33 s = nI (f s) ∧ f s < 41) (hs : I 21 15 = nI s) (hs2 : s < 41) : am_r scr L (F + 30000) (d + 1) 36 [.ref 22, .int (nI B)] (hp I J M) = some (some (.long (J 34 (vi f B s))), hp I J M, 0, 0) := by
  rw [r_36]
  have z := l_36 d L scr (am_r scr L (F + 30000) d) I J M f B hB hf B 0 s (F + 29995 - (20 * B + 20)) (by omega) hs2
  rw [show F + 29995 - (20 * B + 20) + (20 * B + 20) = F + 29995 by omega, nI_0] at z
  simp [s_36_0, s_36_1, s_36_4, s_36_5, s_36_6, ha_0, hg_0_0, hg_0_1, hg_0_2, hg_0_3, hg_0_4, hq_0_4, hg_0_5, hq_0_5, ha_1, hg_1_0, hg_1_1, hg_1_2, hg_1_3, hg_1_4, hg_1_5, hg_1_6, hg_1_7, hg_1_8, hg_1_9, hg_1_10, hg_1_11, hg_1_12, hq_1_12, ha_2, hg_2_0, hg_2_1, hg_2_2, hg_2_3, hg_2_4, hq_2_4, hl_3, hs_3, hl_4, hs_4, hl_5, hs_5, hl_6, hs_6, hl_7, hs_7, hl_8, hs_8, hl_9, hs_9, hl_10, hs_10, hl_11, hs_11, hl_12, hs_12, hl_13, hs_13, hl_14, hs_14, hl_15, hs_15, hl_16, hs_16, hl_17, hs_17, ha_18, hg_18_0, hg_18_1, hg_18_2, hq_18_2, hg_18_3, hq_18_3, hl_19, hs_19, ha_20, hg_20_0, hg_20_1, ha_21, hg_21_0, hg_21_1, hg_21_2, hg_21_3, hg_21_4, hg_21_5, hg_21_6, hq_21_6, hg_21_7, hg_21_8, hg_21_9, hg_21_10, hq_21_10, hg_21_11, hq_21_11, hg_21_12, hq_21_12, hg_21_13, hq_21_13, hg_21_14, hq_21_14, hg_21_15, hq_21_15, hg_21_16, hq_21_16, hg_21_17, hq_21_17, ha_22, hg_22_0, hg_22_1, hg_22_2, hg_22_3, hg_22_4, hg_22_5, hg_22_6, hq_22_6, hg_22_7, hq_22_7, hg_22_8, hq_22_8, hl_23, hs_23, hl_24, hs_24, hl_25, hs_25, hl_26, hs_26, hl_27, hs_27, ha_28, hg_28_0, hg_28_1, hq_28_1, hl_29, hs_29, hl_30, hs_30, hl_31, hs_31, hl_32, hs_32, hl_33, hs_33, hl_34, hs_34, hl_35, hs_35, am_ld_cons, am_ld_nil, am_st1_cons, am_st1_nil, am_st2_cons, am_st2_nil, am_P1, am_P2, Value.category, hs]
  exact z
