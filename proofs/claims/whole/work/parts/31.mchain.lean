/-! The reference's casts: what is inside, and how many. -/
def mch (kd on inn : Nat → Int32) : List Nat → Nat → Nat → Prop
  | [], v, e => v = e ∧ v < 2300 ∧ ¬ kd v = 4
  | w :: ws, v, e => v < 2300 ∧ kd v = 4 ∧ on v = nI w ∧ w < 200 ∧ ∃ v', inn w = nI v' ∧ mch kd on inn ws v' e
set_option maxRecDepth 100000 in
set_option maxHeartbeats 4000000 in
theorem l_115 (d L : Nat) (scr : Nat → Int32) (call : Nat → List Value → am_H → Option am_X) (I : Nat → Nat → Int32) (J : Nat → Nat → Int64) (M : Nat → Nat → Int32) (x : Int32) (e : Nat) : ∀ (ws : List Nat) (v m n : Nat), mch (M 55) (M 56) (M 58) ws v e → am_f d scr L call 115 (n + (30 * ws.length + 20)) 2 ((0, .ref 37) :: (1, .int x) :: (2, .int (nI v)) :: []) [] (hp I J M) = some (some (.int (nI e)), hp I J M, 0, 0) := by
  intro ws
  induction ws with
  | nil =>
    intro v m n hc
    obtain ⟨rfl, h1, h2⟩ := hc
    have g1 : ¬ nI v < 0 := nI_pos (by omega)
    have g2 : (nI v).toNatClampNeg = v := nI_clamp (by omega)
    have g3 : ¬ 2300 ≤ v := by omega
    rw [show n + (30 * ([] : List Nat).length + 20) = n + 20 from rfl, s_115_2]
    simp [s_115_0, s_115_1, s_115_3, s_115_6, s_115_7, s_115_8, s_115_9, s_115_12, s_115_13, s_115_16, s_115_17, s_115_20, s_115_21, s_115_22, s_115_23, s_115_24, s_115_27, s_115_28, ha_36, hg_36_0, hq_36_0, hg_36_1, hg_36_2, hq_36_2, hg_36_3, hg_36_4, hg_36_5, hg_36_6, hq_36_6, hg_36_7, hq_36_7, hg_36_8, hq_36_8, hg_36_9, hg_36_10, hg_36_11, hg_36_12, hg_36_13, hg_36_14, hg_36_15, hg_36_16, hg_36_17, hg_36_18, hq_36_18, hg_36_19, hg_36_20, hq_36_20, hg_36_21, hq_36_21, hg_36_22, hg_36_23, hq_36_23, hg_36_24, hg_36_25, hq_36_25, hg_36_26, hq_36_26, hg_36_27, hq_36_27, hg_36_28, hq_36_28, hg_36_29, hg_36_30, hg_36_31, hq_36_31, hg_36_32, hg_36_33, hg_36_34, hg_36_35, hq_36_35, hg_36_36, hg_36_37, hg_36_38, hg_36_39, hg_36_40, hq_36_40, hg_36_41, hg_36_42, hg_36_43, hg_36_44, hq_36_44, hg_36_45, hg_36_46, hg_36_47, hg_36_48, hg_36_49, hq_36_49, hg_36_50, hg_36_51, hq_36_51, hg_36_52, hq_36_52, hg_36_53, hq_36_53, hg_36_54, hq_36_54, hg_36_55, hq_36_55, hg_36_56, hq_36_56, hg_36_57, hg_36_58, hq_36_58, hg_36_59, hq_36_59, hg_36_60, hq_36_60, hg_36_61, hl_37, hs_37, hl_38, hs_38, hl_39, hs_39, hl_40, hs_40, hl_41, hs_41, hl_42, hs_42, hl_43, hs_43, hl_44, hs_44, hl_45, hs_45, hl_46, hs_46, hl_47, hs_47, hl_48, hs_48, hl_49, hs_49, hl_50, hs_50, hl_51, hs_51, hl_52, hs_52, hl_53, hs_53, hl_54, hs_54, hl_55, hs_55, hl_56, hs_56, hl_57, hs_57, hl_58, hs_58, hl_59, hs_59, hl_60, hs_60, hl_61, hs_61, hl_62, hs_62, hl_63, hs_63, hl_64, hs_64, hl_65, hs_65, hl_66, hs_66, hl_67, hs_67, hl_68, hs_68, hl_69, hs_69, hl_70, hs_70, hl_71, hs_71, am_ld_cons, am_ld_nil, am_st1_cons, am_st1_nil, am_st2_cons, am_st2_nil, am_P1, am_P2, Value.category, g1, g2, g3, h2]
  | cons w ws ih =>
    intro v m n hc
    obtain ⟨h1, h2, h3, h4, v', h5, h6⟩ := hc
    have g1 : ¬ nI v < 0 := nI_pos (by omega)
    have g2 : (nI v).toNatClampNeg = v := nI_clamp (by omega)
    have g3 : ¬ 2300 ≤ v := by omega
    have g4 : ¬ nI w < 0 := nI_pos (by omega)
    have g5 : (nI w).toNatClampNeg = w := nI_clamp (by omega)
    have g6 : ¬ 200 ≤ w := by omega
    have e1 : nI m + 1 = nI (m + 1) := nI_1 m
    rw [List.length_cons, show n + (30 * (ws.length + 1) + 20) = (n + (30 * ws.length + 20)) + 30 by omega]
    generalize hN : n + (30 * ws.length + 20) = N
    have key : ∀ f, N ≤ f → am_f d scr L call 115 f 2 ((0, .ref 37) :: (1, .int x) :: (2, .int (nI v')) :: []) [] (hp I J M) = some (some (.int (nI e)), hp I J M, 0, 0) := by
      intro f hf
      have z := ih v' m (f - (30 * ws.length + 20)) h6
      rw [show f - (30 * ws.length + 20) + (30 * ws.length + 20) = f by omega] at z
      skip
      exact z
    rw [s_115_2]
    simp [s_115_0, s_115_1, s_115_3, s_115_6, s_115_7, s_115_8, s_115_9, s_115_12, s_115_13, s_115_16, s_115_17, s_115_20, s_115_21, s_115_22, s_115_23, s_115_24, s_115_27, s_115_28, ha_36, hg_36_0, hq_36_0, hg_36_1, hg_36_2, hq_36_2, hg_36_3, hg_36_4, hg_36_5, hg_36_6, hq_36_6, hg_36_7, hq_36_7, hg_36_8, hq_36_8, hg_36_9, hg_36_10, hg_36_11, hg_36_12, hg_36_13, hg_36_14, hg_36_15, hg_36_16, hg_36_17, hg_36_18, hq_36_18, hg_36_19, hg_36_20, hq_36_20, hg_36_21, hq_36_21, hg_36_22, hg_36_23, hq_36_23, hg_36_24, hg_36_25, hq_36_25, hg_36_26, hq_36_26, hg_36_27, hq_36_27, hg_36_28, hq_36_28, hg_36_29, hg_36_30, hg_36_31, hq_36_31, hg_36_32, hg_36_33, hg_36_34, hg_36_35, hq_36_35, hg_36_36, hg_36_37, hg_36_38, hg_36_39, hg_36_40, hq_36_40, hg_36_41, hg_36_42, hg_36_43, hg_36_44, hq_36_44, hg_36_45, hg_36_46, hg_36_47, hg_36_48, hg_36_49, hq_36_49, hg_36_50, hg_36_51, hq_36_51, hg_36_52, hq_36_52, hg_36_53, hq_36_53, hg_36_54, hq_36_54, hg_36_55, hq_36_55, hg_36_56, hq_36_56, hg_36_57, hg_36_58, hq_36_58, hg_36_59, hq_36_59, hg_36_60, hq_36_60, hg_36_61, hl_37, hs_37, hl_38, hs_38, hl_39, hs_39, hl_40, hs_40, hl_41, hs_41, hl_42, hs_42, hl_43, hs_43, hl_44, hs_44, hl_45, hs_45, hl_46, hs_46, hl_47, hs_47, hl_48, hs_48, hl_49, hs_49, hl_50, hs_50, hl_51, hs_51, hl_52, hs_52, hl_53, hs_53, hl_54, hs_54, hl_55, hs_55, hl_56, hs_56, hl_57, hs_57, hl_58, hs_58, hl_59, hs_59, hl_60, hs_60, hl_61, hs_61, hl_62, hs_62, hl_63, hs_63, hl_64, hs_64, hl_65, hs_65, hl_66, hs_66, hl_67, hs_67, hl_68, hs_68, hl_69, hs_69, hl_70, hs_70, hl_71, hs_71, am_ld_cons, am_ld_nil, am_st1_cons, am_st1_nil, am_st2_cons, am_st2_nil, am_P1, am_P2, Value.category, g1, g2, g3, g4, g5, g6, h2, h3, h5, e1]
    exact key _ (by omega)
set_option maxRecDepth 100000 in
set_option maxHeartbeats 4000000 in
theorem l_116 (d L : Nat) (scr : Nat → Int32) (call : Nat → List Value → am_H → Option am_X) (I : Nat → Nat → Int32) (J : Nat → Nat → Int64) (M : Nat → Nat → Int32) (x : Int32) (e : Nat) : ∀ (ws : List Nat) (v m n : Nat), mch (M 55) (M 56) (M 58) ws v e → am_f d scr L call 116 (n + (30 * ws.length + 20)) 4 ((0, .ref 37) :: (1, .int x) :: (2, .int (nI m)) :: (3, .int (nI v)) :: []) [] (hp I J M) = some (some (.int (nI (m + ws.length))), hp I J M, 0, 0) := by
  intro ws
  induction ws with
  | nil =>
    intro v m n hc
    obtain ⟨rfl, h1, h2⟩ := hc
    have g1 : ¬ nI v < 0 := nI_pos (by omega)
    have g2 : (nI v).toNatClampNeg = v := nI_clamp (by omega)
    have g3 : ¬ 2300 ≤ v := by omega
    rw [show n + (30 * ([] : List Nat).length + 20) = n + 20 from rfl, s_116_4]
    simp [s_116_0, s_116_1, s_116_2, s_116_3, s_116_5, s_116_8, s_116_9, s_116_10, s_116_11, s_116_14, s_116_17, s_116_18, s_116_21, s_116_22, s_116_25, s_116_26, s_116_27, s_116_28, s_116_29, s_116_32, s_116_33, ha_36, hg_36_0, hq_36_0, hg_36_1, hg_36_2, hq_36_2, hg_36_3, hg_36_4, hg_36_5, hg_36_6, hq_36_6, hg_36_7, hq_36_7, hg_36_8, hq_36_8, hg_36_9, hg_36_10, hg_36_11, hg_36_12, hg_36_13, hg_36_14, hg_36_15, hg_36_16, hg_36_17, hg_36_18, hq_36_18, hg_36_19, hg_36_20, hq_36_20, hg_36_21, hq_36_21, hg_36_22, hg_36_23, hq_36_23, hg_36_24, hg_36_25, hq_36_25, hg_36_26, hq_36_26, hg_36_27, hq_36_27, hg_36_28, hq_36_28, hg_36_29, hg_36_30, hg_36_31, hq_36_31, hg_36_32, hg_36_33, hg_36_34, hg_36_35, hq_36_35, hg_36_36, hg_36_37, hg_36_38, hg_36_39, hg_36_40, hq_36_40, hg_36_41, hg_36_42, hg_36_43, hg_36_44, hq_36_44, hg_36_45, hg_36_46, hg_36_47, hg_36_48, hg_36_49, hq_36_49, hg_36_50, hg_36_51, hq_36_51, hg_36_52, hq_36_52, hg_36_53, hq_36_53, hg_36_54, hq_36_54, hg_36_55, hq_36_55, hg_36_56, hq_36_56, hg_36_57, hg_36_58, hq_36_58, hg_36_59, hq_36_59, hg_36_60, hq_36_60, hg_36_61, hl_37, hs_37, hl_38, hs_38, hl_39, hs_39, hl_40, hs_40, hl_41, hs_41, hl_42, hs_42, hl_43, hs_43, hl_44, hs_44, hl_45, hs_45, hl_46, hs_46, hl_47, hs_47, hl_48, hs_48, hl_49, hs_49, hl_50, hs_50, hl_51, hs_51, hl_52, hs_52, hl_53, hs_53, hl_54, hs_54, hl_55, hs_55, hl_56, hs_56, hl_57, hs_57, hl_58, hs_58, hl_59, hs_59, hl_60, hs_60, hl_61, hs_61, hl_62, hs_62, hl_63, hs_63, hl_64, hs_64, hl_65, hs_65, hl_66, hs_66, hl_67, hs_67, hl_68, hs_68, hl_69, hs_69, hl_70, hs_70, hl_71, hs_71, am_ld_cons, am_ld_nil, am_st1_cons, am_st1_nil, am_st2_cons, am_st2_nil, am_P1, am_P2, Value.category, g1, g2, g3, h2]
  | cons w ws ih =>
    intro v m n hc
    obtain ⟨h1, h2, h3, h4, v', h5, h6⟩ := hc
    have g1 : ¬ nI v < 0 := nI_pos (by omega)
    have g2 : (nI v).toNatClampNeg = v := nI_clamp (by omega)
    have g3 : ¬ 2300 ≤ v := by omega
    have g4 : ¬ nI w < 0 := nI_pos (by omega)
    have g5 : (nI w).toNatClampNeg = w := nI_clamp (by omega)
    have g6 : ¬ 200 ≤ w := by omega
    have e1 : nI m + 1 = nI (m + 1) := nI_1 m
    rw [List.length_cons, show n + (30 * (ws.length + 1) + 20) = (n + (30 * ws.length + 20)) + 30 by omega]
    generalize hN : n + (30 * ws.length + 20) = N
    have key : ∀ f, N ≤ f → am_f d scr L call 116 f 4 ((0, .ref 37) :: (1, .int x) :: (2, .int (nI (m + 1))) :: (3, .int (nI v')) :: []) [] (hp I J M) = some (some (.int (nI (m + (ws.length + 1)))), hp I J M, 0, 0) := by
      intro f hf
      have z := ih v' (m + 1) (f - (30 * ws.length + 20)) h6
      rw [show f - (30 * ws.length + 20) + (30 * ws.length + 20) = f by omega] at z
      rw [show m + 1 + ws.length = m + (ws.length + 1) by omega] at z
      exact z
    rw [s_116_4]
    simp [s_116_0, s_116_1, s_116_2, s_116_3, s_116_5, s_116_8, s_116_9, s_116_10, s_116_11, s_116_14, s_116_17, s_116_18, s_116_21, s_116_22, s_116_25, s_116_26, s_116_27, s_116_28, s_116_29, s_116_32, s_116_33, ha_36, hg_36_0, hq_36_0, hg_36_1, hg_36_2, hq_36_2, hg_36_3, hg_36_4, hg_36_5, hg_36_6, hq_36_6, hg_36_7, hq_36_7, hg_36_8, hq_36_8, hg_36_9, hg_36_10, hg_36_11, hg_36_12, hg_36_13, hg_36_14, hg_36_15, hg_36_16, hg_36_17, hg_36_18, hq_36_18, hg_36_19, hg_36_20, hq_36_20, hg_36_21, hq_36_21, hg_36_22, hg_36_23, hq_36_23, hg_36_24, hg_36_25, hq_36_25, hg_36_26, hq_36_26, hg_36_27, hq_36_27, hg_36_28, hq_36_28, hg_36_29, hg_36_30, hg_36_31, hq_36_31, hg_36_32, hg_36_33, hg_36_34, hg_36_35, hq_36_35, hg_36_36, hg_36_37, hg_36_38, hg_36_39, hg_36_40, hq_36_40, hg_36_41, hg_36_42, hg_36_43, hg_36_44, hq_36_44, hg_36_45, hg_36_46, hg_36_47, hg_36_48, hg_36_49, hq_36_49, hg_36_50, hg_36_51, hq_36_51, hg_36_52, hq_36_52, hg_36_53, hq_36_53, hg_36_54, hq_36_54, hg_36_55, hq_36_55, hg_36_56, hq_36_56, hg_36_57, hg_36_58, hq_36_58, hg_36_59, hq_36_59, hg_36_60, hq_36_60, hg_36_61, hl_37, hs_37, hl_38, hs_38, hl_39, hs_39, hl_40, hs_40, hl_41, hs_41, hl_42, hs_42, hl_43, hs_43, hl_44, hs_44, hl_45, hs_45, hl_46, hs_46, hl_47, hs_47, hl_48, hs_48, hl_49, hs_49, hl_50, hs_50, hl_51, hs_51, hl_52, hs_52, hl_53, hs_53, hl_54, hs_54, hl_55, hs_55, hl_56, hs_56, hl_57, hs_57, hl_58, hs_58, hl_59, hs_59, hl_60, hs_60, hl_61, hs_61, hl_62, hs_62, hl_63, hs_63, hl_64, hs_64, hl_65, hs_65, hl_66, hs_66, hl_67, hs_67, hl_68, hs_68, hl_69, hs_69, hl_70, hs_70, hl_71, hs_71, am_ld_cons, am_ld_nil, am_st1_cons, am_st1_nil, am_st2_cons, am_st2_nil, am_P1, am_P2, Value.category, g1, g2, g3, g4, g5, g6, h2, h3, h5, e1]
    exact key _ (by omega)
set_option maxRecDepth 100000 in
set_option maxHeartbeats 4000000 in
theorem m_115 (scr : Nat → Int32) (L F d : Nat) (I : Nat → Nat → Int32) (J : Nat → Nat → Int64) (M : Nat → Nat → Int32) (v e : Nat) (ws : List Nat) (hc : mch (M 55) (M 56) (M 58) ws v e) (hw : ws.length ≤ 200) : am_r scr L (F + 9000) (d + 1) 115 [.ref 37, .int (nI v)] (hp I J M) = some (some (.int (nI e)), hp I J M, 0, 0) := by
  rw [r_115]
  have z := l_115 d L scr (am_r scr L (F + 9000) d) I J M (nI v) e ws v 0 (F + 8998 - (30 * ws.length + 20)) hc
  rw [show F + 8998 - (30 * ws.length + 20) + (30 * ws.length + 20) = F + 8998 by omega] at z
  simp [s_115_0, s_115_1, am_ld_cons, am_ld_nil, am_st1_cons, am_st1_nil, am_st2_cons, am_st2_nil, am_P1, am_P2, Value.category]
  exact z
set_option maxRecDepth 100000 in
set_option maxHeartbeats 4000000 in
theorem m_116 (scr : Nat → Int32) (L F d : Nat) (I : Nat → Nat → Int32) (J : Nat → Nat → Int64) (M : Nat → Nat → Int32) (v e : Nat) (ws : List Nat) (hc : mch (M 55) (M 56) (M 58) ws v e) (hw : ws.length ≤ 200) : am_r scr L (F + 9000) (d + 1) 116 [.ref 37, .int (nI v)] (hp I J M) = some (some (.int (nI ws.length)), hp I J M, 0, 0) := by
  rw [r_116]
  have z := l_116 d L scr (am_r scr L (F + 9000) d) I J M (nI v) e ws v 0 (F + 8996 - (30 * ws.length + 20)) hc
  rw [show F + 8996 - (30 * ws.length + 20) + (30 * ws.length + 20) = F + 8996 by omega, nI_0, Nat.zero_add] at z
  simp [s_116_0, s_116_1, s_116_2, s_116_3, am_ld_cons, am_ld_nil, am_st1_cons, am_st1_nil, am_st2_cons, am_st2_nil, am_P1, am_P2, Value.category]
  exact z
