/-! The reference's casts: the k-th from outside. -/
set_option maxRecDepth 100000 in
set_option maxHeartbeats 4000000 in
theorem l_117 (d L : Nat) (scr : Nat → Int32) (call : Nat → List Value → am_H → Option am_X) (I : Nat → Nat → Int32) (J : Nat → Nat → Int64) (M : Nat → Nat → Int32) (x : Int32) (e k : Nat) (hk : k ≤ 1000) : ∀ (r : Nat) (ws : List Nat) (v i n w : Nat), mch (M 55) (M 56) (M 58) ws v e → i + r = k → ws[r]? = some w → am_f d scr L call 117 (n + (30 * r + 20)) 5 ((0, .ref 37) :: (1, .int x) :: (2, .int (nI k)) :: (3, .int (nI v)) :: (4, .int (nI i)) :: []) [] (hp I J M) = some (some (.int (nI w)), hp I J M, 0, 0) := by
  intro r
  induction r with
  | zero =>
    intro ws v i n w hc hi hw
    cases ws with
    | nil => cases hw
    | cons w0 ws =>
      obtain rfl : w0 = w := Option.some.inj hw
      obtain ⟨h1, h2, h3, h4, v', h5, h6⟩ := hc
      have g1 : ¬ nI v < 0 := nI_pos (by omega)
      have g2 : (nI v).toNatClampNeg = v := nI_clamp (by omega)
      have g3 : ¬ 2300 ≤ v := by omega
      obtain rfl : i = k := by omega
      have h : nI i ≤ nI i := nI_le (Nat.le_refl _) (by omega)
      rw [show n + (30 * 0 + 20) = n + 20 from rfl, s_117_5]
      simp [s_117_0, s_117_1, s_117_2, s_117_3, s_117_7, s_117_8, s_117_11, s_117_12, s_117_15, s_117_16, s_117_19, s_117_20, s_117_21, s_117_22, s_117_23, s_117_26, s_117_29, s_117_30, s_117_33, s_117_34, s_117_35, ha_36, hg_36_0, hq_36_0, hg_36_1, hg_36_2, hq_36_2, hg_36_3, hg_36_4, hg_36_5, hg_36_6, hq_36_6, hg_36_7, hq_36_7, hg_36_8, hq_36_8, hg_36_9, hg_36_10, hg_36_11, hg_36_12, hg_36_13, hg_36_14, hg_36_15, hg_36_16, hg_36_17, hg_36_18, hq_36_18, hg_36_19, hg_36_20, hq_36_20, hg_36_21, hq_36_21, hg_36_22, hg_36_23, hq_36_23, hg_36_24, hg_36_25, hq_36_25, hg_36_26, hq_36_26, hg_36_27, hq_36_27, hg_36_28, hq_36_28, hg_36_29, hg_36_30, hg_36_31, hq_36_31, hg_36_32, hg_36_33, hg_36_34, hg_36_35, hq_36_35, hg_36_36, hg_36_37, hg_36_38, hg_36_39, hg_36_40, hq_36_40, hg_36_41, hg_36_42, hg_36_43, hg_36_44, hq_36_44, hg_36_45, hg_36_46, hg_36_47, hg_36_48, hg_36_49, hq_36_49, hg_36_50, hg_36_51, hq_36_51, hg_36_52, hq_36_52, hg_36_53, hq_36_53, hg_36_54, hq_36_54, hg_36_55, hq_36_55, hg_36_56, hq_36_56, hg_36_57, hg_36_58, hq_36_58, hg_36_59, hq_36_59, hg_36_60, hq_36_60, hg_36_61, hl_37, hs_37, hl_38, hs_38, hl_39, hs_39, hl_40, hs_40, hl_41, hs_41, hl_42, hs_42, hl_43, hs_43, hl_44, hs_44, hl_45, hs_45, hl_46, hs_46, hl_47, hs_47, hl_48, hs_48, hl_49, hs_49, hl_50, hs_50, hl_51, hs_51, hl_52, hs_52, hl_53, hs_53, hl_54, hs_54, hl_55, hs_55, hl_56, hs_56, hl_57, hs_57, hl_58, hs_58, hl_59, hs_59, hl_60, hs_60, hl_61, hs_61, hl_62, hs_62, hl_63, hs_63, hl_64, hs_64, hl_65, hs_65, hl_66, hs_66, hl_67, hs_67, hl_68, hs_68, hl_69, hs_69, hl_70, hs_70, hl_71, hs_71, am_ld_cons, am_ld_nil, am_st1_cons, am_st1_nil, am_st2_cons, am_st2_nil, am_P1, am_P2, Value.category, g1, g2, g3, h3, h]
  | succ r ih =>
    intro ws v i n w hc hi hw
    cases ws with
    | nil => cases hw
    | cons w0 ws =>
      obtain ⟨h1, h2, h3, h4, v', h5, h6⟩ := hc
      have g1 : ¬ nI v < 0 := nI_pos (by omega)
      have g2 : (nI v).toNatClampNeg = v := nI_clamp (by omega)
      have g3 : ¬ 2300 ≤ v := by omega
      have g4 : ¬ nI w0 < 0 := nI_pos (by omega)
      have g5 : (nI w0).toNatClampNeg = w0 := nI_clamp (by omega)
      have g6 : ¬ 200 ≤ w0 := by omega
      have e1 : nI i + 1 = nI (i + 1) := nI_1 i
      have h : ¬ nI k ≤ nI i := nI_ge (by omega) (by omega)
      rw [show n + (30 * (r + 1) + 20) = (n + (30 * r + 20)) + 30 by omega]
      generalize hN : n + (30 * r + 20) = N
      have key : ∀ f, N ≤ f → am_f d scr L call 117 f 5 ((0, .ref 37) :: (1, .int x) :: (2, .int (nI k)) :: (3, .int (nI v')) :: (4, .int (nI (i + 1))) :: []) [] (hp I J M) = some (some (.int (nI w)), hp I J M, 0, 0) := by
        intro f hf
        have z := ih ws v' (i + 1) (f - (30 * r + 20)) w h6 (by omega) hw
        rw [show f - (30 * r + 20) + (30 * r + 20) = f by omega] at z
        exact z
      rw [s_117_5]
      simp [s_117_0, s_117_1, s_117_2, s_117_3, s_117_7, s_117_8, s_117_11, s_117_12, s_117_15, s_117_16, s_117_19, s_117_20, s_117_21, s_117_22, s_117_23, s_117_26, s_117_29, s_117_30, s_117_33, s_117_34, s_117_35, ha_36, hg_36_0, hq_36_0, hg_36_1, hg_36_2, hq_36_2, hg_36_3, hg_36_4, hg_36_5, hg_36_6, hq_36_6, hg_36_7, hq_36_7, hg_36_8, hq_36_8, hg_36_9, hg_36_10, hg_36_11, hg_36_12, hg_36_13, hg_36_14, hg_36_15, hg_36_16, hg_36_17, hg_36_18, hq_36_18, hg_36_19, hg_36_20, hq_36_20, hg_36_21, hq_36_21, hg_36_22, hg_36_23, hq_36_23, hg_36_24, hg_36_25, hq_36_25, hg_36_26, hq_36_26, hg_36_27, hq_36_27, hg_36_28, hq_36_28, hg_36_29, hg_36_30, hg_36_31, hq_36_31, hg_36_32, hg_36_33, hg_36_34, hg_36_35, hq_36_35, hg_36_36, hg_36_37, hg_36_38, hg_36_39, hg_36_40, hq_36_40, hg_36_41, hg_36_42, hg_36_43, hg_36_44, hq_36_44, hg_36_45, hg_36_46, hg_36_47, hg_36_48, hg_36_49, hq_36_49, hg_36_50, hg_36_51, hq_36_51, hg_36_52, hq_36_52, hg_36_53, hq_36_53, hg_36_54, hq_36_54, hg_36_55, hq_36_55, hg_36_56, hq_36_56, hg_36_57, hg_36_58, hq_36_58, hg_36_59, hq_36_59, hg_36_60, hq_36_60, hg_36_61, hl_37, hs_37, hl_38, hs_38, hl_39, hs_39, hl_40, hs_40, hl_41, hs_41, hl_42, hs_42, hl_43, hs_43, hl_44, hs_44, hl_45, hs_45, hl_46, hs_46, hl_47, hs_47, hl_48, hs_48, hl_49, hs_49, hl_50, hs_50, hl_51, hs_51, hl_52, hs_52, hl_53, hs_53, hl_54, hs_54, hl_55, hs_55, hl_56, hs_56, hl_57, hs_57, hl_58, hs_58, hl_59, hs_59, hl_60, hs_60, hl_61, hs_61, hl_62, hs_62, hl_63, hs_63, hl_64, hs_64, hl_65, hs_65, hl_66, hs_66, hl_67, hs_67, hl_68, hs_68, hl_69, hs_69, hl_70, hs_70, hl_71, hs_71, am_ld_cons, am_ld_nil, am_st1_cons, am_st1_nil, am_st2_cons, am_st2_nil, am_P1, am_P2, Value.category, g1, g2, g3, g4, g5, g6, h3, h5, e1, h]
      exact key _ (by omega)
set_option maxRecDepth 100000 in
set_option maxHeartbeats 4000000 in
theorem m_117 (scr : Nat → Int32) (L F d : Nat) (I : Nat → Nat → Int32) (J : Nat → Nat → Int64) (M : Nat → Nat → Int32) (v e k w : Nat) (ws : List Nat) (hc : mch (M 55) (M 56) (M 58) ws v e) (hk : k ≤ 200) (hw : ws[k]? = some w) : am_r scr L (F + 9000) (d + 1) 117 [.ref 37, .int (nI v), .int (nI k)] (hp I J M) = some (some (.int (nI w)), hp I J M, 0, 0) := by
  rw [r_117]
  have z := l_117 d L scr (am_r scr L (F + 9000) d) I J M (nI v) e k (by omega) k ws v 0 (F + 8996 - (30 * k + 20)) w hc (by omega) hw
  rw [show F + 8996 - (30 * k + 20) + (30 * k + 20) = F + 8996 by omega, nI_0] at z
  simp [s_117_0, s_117_1, s_117_2, s_117_3, am_ld_cons, am_ld_nil, am_st1_cons, am_st1_nil, am_st2_cons, am_st2_nil, am_P1, am_P2, Value.category]
  exact z
