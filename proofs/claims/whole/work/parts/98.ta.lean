/-! The text of a type: the class's characters. -/
def wt (M : am_I) : Nat → Nat → List Int32
  | 0, t => [jk_ch (tm t)]
  | h + 1, t => if t < 3 then [jk_ch (tm t)] else if M 38 t = 4 then 38 :: wt M h (tA M t) else 40 :: (wt M h (tA M t) ++ 62 :: (wt M h (tB M t) ++ [41]))
theorem wt_3 {M : am_I} {h t : Nat} (ht : t < 3) : wt M h t = [jk_ch (tm t)] := by
  cases h with
  | zero => rfl
  | succ h => rw [wt, if_pos ht]
theorem wt_4 {M : am_I} {h t : Nat} (ht : 3 ≤ t) (hk : M 38 t = 4) : wt M (h + 1) t = 38 :: wt M h (tA M t) := by
  rw [wt, if_neg (by omega), if_pos hk]
theorem wt_f {M : am_I} {h t : Nat} (ht : 3 ≤ t) (hk : M 38 t = 3) : wt M (h + 1) t = 40 :: (wt M h (tA M t) ++ 62 :: (wt M h (tB M t) ++ [41])) := by
  rw [wt, if_neg (by omega), if_neg (by rw [hk]; decide)]
theorem hb_AB {M : am_I} {h t : Nat} (ht : 3 ≤ t) (hh : hb M (h + 1) t) (h39 : M 39 t = nI (tA M t)) (hl : tA M t < 105) (hc : t < 105) : hb M h (tA M t) ∧ (M 38 t = 3 → M 40 t = nI (tB M t) → tB M t < 105 → hb M h (tB M t)) := by
  rcases hh with hh | ⟨a, h1, h2, h3, h4⟩
  · omega
  · have e1 : tA M t = a := nI_inj (by omega) (by omega) (h39.symm.trans h1)
    rw [e1]
    refine ⟨h3, fun z z2 z3 => ?_⟩
    obtain ⟨b, g1, g2, g3⟩ := h4 z
    have e2 : tB M t = b := nI_inj (by omega) (by omega) (z2.symm.trans g1)
    rw [e2]
    exact g3
theorem tln_3 {I M : am_I} {c t : Nat} (h : tyR I M c) (ht : t < 3) : tln I t = 1 := by
  unfold tln
  rw [(h.2.2.2.2.2.2.1 (tm t) (tm_lt ht (by omega))).2.2.2.1]
  decide +kernel
theorem wt_len {I M : am_I} {c : Nat} (hR : tyR I M c) : ∀ (h t : Nat), t < c → hb M h t → (wt M h t).length = tln I t
  | 0, t, ht, hh => by
    rw [wt_3 hh, tln_3 hR hh]
    rfl
  | h + 1, t, ht, hh => by
    have hc := hR.2.1
    have hl := ty_len hR ht
    rcases ty_kind hR ht with ⟨k1, _⟩ | ⟨k1, k2, k3, k4, k5, k6, k7, k8, k9⟩ | ⟨k1, k2, k3, k4, k5, k6⟩
    · rw [wt_3 k1, tln_3 hR k1]
      rfl
    · have hq := hb_AB k1 hh k6 (by omega) (by omega)
      rw [wt_f k1 k2, hl.2.2.2.1 k2, List.length_cons, List.length_append, List.length_cons, List.length_append, wt_len hR h _ (by omega) hq.1, wt_len hR h _ (by omega) (hq.2 k2 k7 (by omega))]
      simp only [List.length_cons, List.length_nil]
      omega
    · have hq := hb_AB k1 hh k5 (by omega) (by omega)
      rw [wt_4 k1 k2, hl.2.2.2.2 k2, List.length_cons, wt_len hR h _ (by omega) hq.1]
theorem wt_M {M M' : am_I} (e1 : M' 38 = M 38) (e2 : M' 39 = M 39) (e3 : M' 40 = M 40) : ∀ (h t : Nat), wt M' h t = wt M h t
  | 0, t => rfl
  | h + 1, t => by
    have eA : tA M' t = tA M t := by
      unfold tA
      rw [e2]
    have eB : tB M' t = tB M t := by
      unfold tB
      rw [e3]
    rw [wt, wt, e1, eA, eB, wt_M e1 e2 e3 h, wt_M e1 e2 e3 h]
/-- character's loop -/
def h83 (scr : Nat → Int32) (L d : Nat) (call : Nat → List Value → am_H → Option am_X) (I : am_I) (J : am_J) (M : am_I) (x : Nat) (at1 : Int32) (j N : Nat) (R : Option am_X) : Prop := ∀ (f : Nat) (x1 x2 : Int32), N ≤ f → am_f (d + 4) scr L call 83 f 8 ((0, .ref 3) :: (1, .int x1) :: (2, .int x2) :: (3, .int (nI x)) :: (4, .int at1) :: (5, .int (nI j)) :: []) [] (hp I J M) = R
theorem nI_su (a b : Nat) : nI (a + b) - nI b = nI a := by
  rw [← nI_add]
  exact Int32.add_sub_cancel _ _
theorem nI_m1 (n : Nat) : nI (n + 1) + (-1) = nI n := by
  rw [← Int32.sub_eq_add_neg]
  exact nI_pred n
set_option maxRecDepth 100000 in
set_option maxHeartbeats 4000000 in
theorem h83_neg (scr : Nat → Int32) (L d : Nat) (call : Nat → List Value → am_H → Option am_X) (I : am_I) (J : am_J) (M : am_I) (x a j l : Nat) (hj : j ≤ 40) (hx : x < 105) (hl : I 6 x = nI l) (hl2 : l ≤ 200) (at1 : Int32) (ha : at1 < 0) : h83 scr L d call I J M x at1 j 100 (some (some (.int (-1)), hp I J M, 0, 0)) := by
  intro f x1 x2 hf
  obtain ⟨g, rfl⟩ : ∃ g, f = g + 100 := ⟨f - 100, by omega⟩
  have g0 : ¬ (40 : Int32) < nI j := nI_nlt (a := 40) (b := j) (by omega) (by omega)
  have g1 : ¬ nI x < 0 := nI_pos (by omega)
  have g2 : (nI x).toNatClampNeg = x := nI_clamp (by omega)
  have g3 : ¬ 105 ≤ x := by omega
  have g4 : nI j + 1 = nI (j + 1) := nI_1 j
  rw [s_83_8]
  simp [s_83_0, s_83_1, s_83_2, s_83_3, s_83_5, s_83_6, s_83_10, s_83_12, s_83_15, s_83_17, s_83_20, s_83_22, s_83_23, s_83_26, s_83_27, s_83_28, s_83_31, s_83_32, s_83_33, s_83_34, s_83_37, s_83_38, s_83_39, s_83_40, s_83_45, s_83_46, s_83_49, s_83_50, s_83_54, s_83_55, s_83_57, s_83_60, s_83_61, s_83_64, s_83_65, s_83_66, s_83_67, s_83_70, s_83_72, s_83_75, s_83_77, s_83_78, s_83_81, s_83_82, s_83_85, s_83_86, s_83_87, s_83_88, s_83_91, s_83_93, s_83_94, s_83_97, s_83_98, s_83_101, s_83_102, s_83_103, s_83_104, s_83_107, s_83_108, s_83_111, s_83_112, s_83_113, s_83_114, s_83_117, s_83_119, s_83_120, s_83_123, s_83_124, s_83_127, s_83_128, s_83_129, s_83_130, s_83_131, s_83_133, s_83_135, s_83_138, s_83_140, s_83_141, s_83_144, s_83_146, s_83_147, s_83_150, s_83_151, s_83_154, s_83_155, s_83_156, s_83_157, s_83_160, s_83_162, s_83_163, s_83_164, s_83_167, s_83_168, s_83_169, s_83_170, s_83_173, s_83_176, s_83_177, ha_0, hg_0_0, hg_0_1, hg_0_2, hg_0_3, hg_0_4, hq_0_4, hg_0_5, hq_0_5, ha_1, hg_1_0, hg_1_1, hg_1_2, hg_1_3, hg_1_4, hg_1_5, hg_1_6, hg_1_7, hg_1_8, hg_1_9, hg_1_10, hg_1_11, hg_1_12, hq_1_12, ha_2, hg_2_0, hg_2_1, hg_2_2, hg_2_3, hg_2_4, hq_2_4, hl_3, hs_3, hl_4, hs_4, hl_5, hs_5, hl_6, hs_6, hl_7, hs_7, hl_8, hs_8, hl_9, hs_9, hl_10, hs_10, hl_11, hs_11, hl_12, hs_12, hl_13, hs_13, hl_14, hs_14, hl_15, hs_15, hl_16, hs_16, hl_17, hs_17, ha_18, hg_18_0, hg_18_1, hg_18_2, hq_18_2, hg_18_3, hq_18_3, hl_19, hs_19, ha_20, hg_20_0, hg_20_1, ha_21, hg_21_0, hg_21_1, hg_21_2, hg_21_3, hg_21_4, hg_21_5, hg_21_6, hq_21_6, hg_21_7, hg_21_8, hg_21_9, hg_21_10, hq_21_10, hg_21_11, hq_21_11, hg_21_12, hq_21_12, hg_21_13, hq_21_13, hg_21_14, hq_21_14, hg_21_15, hq_21_15, hg_21_16, hq_21_16, hg_21_17, hq_21_17, ha_22, hg_22_0, hg_22_1, hg_22_2, hg_22_3, hg_22_4, hg_22_5, hg_22_6, hq_22_6, hg_22_7, hq_22_7, hg_22_8, hq_22_8, hl_23, hs_23, hl_24, hs_24, hl_25, hs_25, hl_26, hs_26, hl_27, hs_27, ha_28, hg_28_0, hg_28_1, hq_28_1, hl_29, hs_29, hl_30, hs_30, hl_31, hs_31, hl_32, hs_32, hl_33, hs_33, hl_34, hs_34, hl_35, hs_35, am_ld_cons, am_ld_nil, am_st1_cons, am_st1_nil, am_st2_cons, am_st2_nil, am_P1, am_P2, Value.category, am_add_add, am_add0, am_add_some, g0, g1, g2, g3, g4, hl, ha]
set_option maxRecDepth 100000 in
set_option maxHeartbeats 4000000 in
theorem h83_out (scr : Nat → Int32) (L d : Nat) (call : Nat → List Value → am_H → Option am_X) (I : am_I) (J : am_J) (M : am_I) (x a j l : Nat) (hj : j ≤ 40) (hx : x < 105) (hl : I 6 x = nI l) (hl2 : l ≤ 200) (ha : l ≤ a) (ha2 : a < 2 ^ 31) : h83 scr L d call I J M x (nI a) j 100 (some (some (.int (-1)), hp I J M, 0, 0)) := by
  intro f x1 x2 hf
  obtain ⟨g, rfl⟩ : ∃ g, f = g + 100 := ⟨f - 100, by omega⟩
  have g0 : ¬ (40 : Int32) < nI j := nI_nlt (a := 40) (b := j) (by omega) (by omega)
  have g1 : ¬ nI x < 0 := nI_pos (by omega)
  have g2 : (nI x).toNatClampNeg = x := nI_clamp (by omega)
  have g3 : ¬ 105 ≤ x := by omega
  have g4 : nI j + 1 = nI (j + 1) := nI_1 j
  have p1 : ¬ nI a < 0 := nI_pos (by omega)
  have p2 : ¬ nI a < nI l := nI_nlt (by omega) (by omega)
  rw [s_83_8]
  simp [s_83_0, s_83_1, s_83_2, s_83_3, s_83_5, s_83_6, s_83_10, s_83_12, s_83_15, s_83_17, s_83_20, s_83_22, s_83_23, s_83_26, s_83_27, s_83_28, s_83_31, s_83_32, s_83_33, s_83_34, s_83_37, s_83_38, s_83_39, s_83_40, s_83_45, s_83_46, s_83_49, s_83_50, s_83_54, s_83_55, s_83_57, s_83_60, s_83_61, s_83_64, s_83_65, s_83_66, s_83_67, s_83_70, s_83_72, s_83_75, s_83_77, s_83_78, s_83_81, s_83_82, s_83_85, s_83_86, s_83_87, s_83_88, s_83_91, s_83_93, s_83_94, s_83_97, s_83_98, s_83_101, s_83_102, s_83_103, s_83_104, s_83_107, s_83_108, s_83_111, s_83_112, s_83_113, s_83_114, s_83_117, s_83_119, s_83_120, s_83_123, s_83_124, s_83_127, s_83_128, s_83_129, s_83_130, s_83_131, s_83_133, s_83_135, s_83_138, s_83_140, s_83_141, s_83_144, s_83_146, s_83_147, s_83_150, s_83_151, s_83_154, s_83_155, s_83_156, s_83_157, s_83_160, s_83_162, s_83_163, s_83_164, s_83_167, s_83_168, s_83_169, s_83_170, s_83_173, s_83_176, s_83_177, ha_0, hg_0_0, hg_0_1, hg_0_2, hg_0_3, hg_0_4, hq_0_4, hg_0_5, hq_0_5, ha_1, hg_1_0, hg_1_1, hg_1_2, hg_1_3, hg_1_4, hg_1_5, hg_1_6, hg_1_7, hg_1_8, hg_1_9, hg_1_10, hg_1_11, hg_1_12, hq_1_12, ha_2, hg_2_0, hg_2_1, hg_2_2, hg_2_3, hg_2_4, hq_2_4, hl_3, hs_3, hl_4, hs_4, hl_5, hs_5, hl_6, hs_6, hl_7, hs_7, hl_8, hs_8, hl_9, hs_9, hl_10, hs_10, hl_11, hs_11, hl_12, hs_12, hl_13, hs_13, hl_14, hs_14, hl_15, hs_15, hl_16, hs_16, hl_17, hs_17, ha_18, hg_18_0, hg_18_1, hg_18_2, hq_18_2, hg_18_3, hq_18_3, hl_19, hs_19, ha_20, hg_20_0, hg_20_1, ha_21, hg_21_0, hg_21_1, hg_21_2, hg_21_3, hg_21_4, hg_21_5, hg_21_6, hq_21_6, hg_21_7, hg_21_8, hg_21_9, hg_21_10, hq_21_10, hg_21_11, hq_21_11, hg_21_12, hq_21_12, hg_21_13, hq_21_13, hg_21_14, hq_21_14, hg_21_15, hq_21_15, hg_21_16, hq_21_16, hg_21_17, hq_21_17, ha_22, hg_22_0, hg_22_1, hg_22_2, hg_22_3, hg_22_4, hg_22_5, hg_22_6, hq_22_6, hg_22_7, hq_22_7, hg_22_8, hq_22_8, hl_23, hs_23, hl_24, hs_24, hl_25, hs_25, hl_26, hs_26, hl_27, hs_27, ha_28, hg_28_0, hg_28_1, hq_28_1, hl_29, hs_29, hl_30, hs_30, hl_31, hs_31, hl_32, hs_32, hl_33, hs_33, hl_34, hs_34, hl_35, hs_35, am_ld_cons, am_ld_nil, am_st1_cons, am_st1_nil, am_st2_cons, am_st2_nil, am_P1, am_P2, Value.category, am_add_add, am_add0, am_add_some, g0, g1, g2, g3, g4, hl, p1, p2]
set_option maxRecDepth 100000 in
set_option maxHeartbeats 4000000 in
theorem h83_leaf (scr : Nat → Int32) (L d : Nat) (call : Nat → List Value → am_H → Option am_X) (I : am_I) (J : am_J) (M : am_I) (x a j l : Nat) (hj : j ≤ 40) (hx : x < 105) (hl : I 6 x = nI l) (hl2 : l ≤ 200) (ha : a < l) (k : Nat) (hk : k < 3) (hs : I 3 x = nI k) : h83 scr L d call I J M x (nI a) j 100 (some (some (.int (jk_ch k)), hp I J M, 0, 0)) := by
  intro f x1 x2 hf
  obtain ⟨g, rfl⟩ : ∃ g, f = g + 100 := ⟨f - 100, by omega⟩
  have g0 : ¬ (40 : Int32) < nI j := nI_nlt (a := 40) (b := j) (by omega) (by omega)
  have g1 : ¬ nI x < 0 := nI_pos (by omega)
  have g2 : (nI x).toNatClampNeg = x := nI_clamp (by omega)
  have g3 : ¬ 105 ≤ x := by omega
  have g4 : nI j + 1 = nI (j + 1) := nI_1 j
  have p1 : ¬ nI a < 0 := nI_pos (by omega)
  have p2 : nI a < nI l := nI_lt (by omega) (by omega)
  have p3 : ¬ (3 : Int32) ≤ nI k := nI_ge (b := 3) (by omega) (by omega)
  rw [s_83_8]
  simp [s_83_0, s_83_1, s_83_2, s_83_3, s_83_5, s_83_6, s_83_10, s_83_12, s_83_15, s_83_17, s_83_20, s_83_22, s_83_23, s_83_26, s_83_27, s_83_28, s_83_31, s_83_32, s_83_33, s_83_34, s_83_37, s_83_38, s_83_39, s_83_40, s_83_45, s_83_46, s_83_49, s_83_50, s_83_54, s_83_55, s_83_57, s_83_60, s_83_61, s_83_64, s_83_65, s_83_66, s_83_67, s_83_70, s_83_72, s_83_75, s_83_77, s_83_78, s_83_81, s_83_82, s_83_85, s_83_86, s_83_87, s_83_88, s_83_91, s_83_93, s_83_94, s_83_97, s_83_98, s_83_101, s_83_102, s_83_103, s_83_104, s_83_107, s_83_108, s_83_111, s_83_112, s_83_113, s_83_114, s_83_117, s_83_119, s_83_120, s_83_123, s_83_124, s_83_127, s_83_128, s_83_129, s_83_130, s_83_131, s_83_133, s_83_135, s_83_138, s_83_140, s_83_141, s_83_144, s_83_146, s_83_147, s_83_150, s_83_151, s_83_154, s_83_155, s_83_156, s_83_157, s_83_160, s_83_162, s_83_163, s_83_164, s_83_167, s_83_168, s_83_169, s_83_170, s_83_173, s_83_176, s_83_177, ha_0, hg_0_0, hg_0_1, hg_0_2, hg_0_3, hg_0_4, hq_0_4, hg_0_5, hq_0_5, ha_1, hg_1_0, hg_1_1, hg_1_2, hg_1_3, hg_1_4, hg_1_5, hg_1_6, hg_1_7, hg_1_8, hg_1_9, hg_1_10, hg_1_11, hg_1_12, hq_1_12, ha_2, hg_2_0, hg_2_1, hg_2_2, hg_2_3, hg_2_4, hq_2_4, hl_3, hs_3, hl_4, hs_4, hl_5, hs_5, hl_6, hs_6, hl_7, hs_7, hl_8, hs_8, hl_9, hs_9, hl_10, hs_10, hl_11, hs_11, hl_12, hs_12, hl_13, hs_13, hl_14, hs_14, hl_15, hs_15, hl_16, hs_16, hl_17, hs_17, ha_18, hg_18_0, hg_18_1, hg_18_2, hq_18_2, hg_18_3, hq_18_3, hl_19, hs_19, ha_20, hg_20_0, hg_20_1, ha_21, hg_21_0, hg_21_1, hg_21_2, hg_21_3, hg_21_4, hg_21_5, hg_21_6, hq_21_6, hg_21_7, hg_21_8, hg_21_9, hg_21_10, hq_21_10, hg_21_11, hq_21_11, hg_21_12, hq_21_12, hg_21_13, hq_21_13, hg_21_14, hq_21_14, hg_21_15, hq_21_15, hg_21_16, hq_21_16, hg_21_17, hq_21_17, ha_22, hg_22_0, hg_22_1, hg_22_2, hg_22_3, hg_22_4, hg_22_5, hg_22_6, hq_22_6, hg_22_7, hq_22_7, hg_22_8, hq_22_8, hl_23, hs_23, hl_24, hs_24, hl_25, hs_25, hl_26, hs_26, hl_27, hs_27, ha_28, hg_28_0, hg_28_1, hq_28_1, hl_29, hs_29, hl_30, hs_30, hl_31, hs_31, hl_32, hs_32, hl_33, hs_33, hl_34, hs_34, hl_35, hs_35, am_ld_cons, am_ld_nil, am_st1_cons, am_st1_nil, am_st2_cons, am_st2_nil, am_P1, am_P2, Value.category, am_add_add, am_add0, am_add_some, g0, g1, g2, g3, g4, hl, p1, p2, p3, hs]
  rw [s_83_43 d L _ scr call _ I J M x k (by simp [am_ld_cons, am_ld_nil, am_st1_cons, am_st1_nil, am_st2_cons, am_st2_nil, am_P1, am_P2, Value.category]) (by simp [am_ld_cons, am_ld_nil, am_st1_cons, am_st1_nil, am_st2_cons, am_st2_nil, am_P1, am_P2, Value.category]) hx hs hk]
  simp [s_83_0, s_83_1, s_83_2, s_83_3, s_83_5, s_83_6, s_83_10, s_83_12, s_83_15, s_83_17, s_83_20, s_83_22, s_83_23, s_83_26, s_83_27, s_83_28, s_83_31, s_83_32, s_83_33, s_83_34, s_83_37, s_83_38, s_83_39, s_83_40, s_83_45, s_83_46, s_83_49, s_83_50, s_83_54, s_83_55, s_83_57, s_83_60, s_83_61, s_83_64, s_83_65, s_83_66, s_83_67, s_83_70, s_83_72, s_83_75, s_83_77, s_83_78, s_83_81, s_83_82, s_83_85, s_83_86, s_83_87, s_83_88, s_83_91, s_83_93, s_83_94, s_83_97, s_83_98, s_83_101, s_83_102, s_83_103, s_83_104, s_83_107, s_83_108, s_83_111, s_83_112, s_83_113, s_83_114, s_83_117, s_83_119, s_83_120, s_83_123, s_83_124, s_83_127, s_83_128, s_83_129, s_83_130, s_83_131, s_83_133, s_83_135, s_83_138, s_83_140, s_83_141, s_83_144, s_83_146, s_83_147, s_83_150, s_83_151, s_83_154, s_83_155, s_83_156, s_83_157, s_83_160, s_83_162, s_83_163, s_83_164, s_83_167, s_83_168, s_83_169, s_83_170, s_83_173, s_83_176, s_83_177, ha_0, hg_0_0, hg_0_1, hg_0_2, hg_0_3, hg_0_4, hq_0_4, hg_0_5, hq_0_5, ha_1, hg_1_0, hg_1_1, hg_1_2, hg_1_3, hg_1_4, hg_1_5, hg_1_6, hg_1_7, hg_1_8, hg_1_9, hg_1_10, hg_1_11, hg_1_12, hq_1_12, ha_2, hg_2_0, hg_2_1, hg_2_2, hg_2_3, hg_2_4, hq_2_4, hl_3, hs_3, hl_4, hs_4, hl_5, hs_5, hl_6, hs_6, hl_7, hs_7, hl_8, hs_8, hl_9, hs_9, hl_10, hs_10, hl_11, hs_11, hl_12, hs_12, hl_13, hs_13, hl_14, hs_14, hl_15, hs_15, hl_16, hs_16, hl_17, hs_17, ha_18, hg_18_0, hg_18_1, hg_18_2, hq_18_2, hg_18_3, hq_18_3, hl_19, hs_19, ha_20, hg_20_0, hg_20_1, ha_21, hg_21_0, hg_21_1, hg_21_2, hg_21_3, hg_21_4, hg_21_5, hg_21_6, hq_21_6, hg_21_7, hg_21_8, hg_21_9, hg_21_10, hq_21_10, hg_21_11, hq_21_11, hg_21_12, hq_21_12, hg_21_13, hq_21_13, hg_21_14, hq_21_14, hg_21_15, hq_21_15, hg_21_16, hq_21_16, hg_21_17, hq_21_17, ha_22, hg_22_0, hg_22_1, hg_22_2, hg_22_3, hg_22_4, hg_22_5, hg_22_6, hq_22_6, hg_22_7, hq_22_7, hg_22_8, hq_22_8, hl_23, hs_23, hl_24, hs_24, hl_25, hs_25, hl_26, hs_26, hl_27, hs_27, ha_28, hg_28_0, hg_28_1, hq_28_1, hl_29, hs_29, hl_30, hs_30, hl_31, hs_31, hl_32, hs_32, hl_33, hs_33, hl_34, hs_34, hl_35, hs_35, am_ld_cons, am_ld_nil, am_st1_cons, am_st1_nil, am_st2_cons, am_st2_nil, am_P1, am_P2, Value.category, am_add_add, am_add0, am_add_some]
set_option maxRecDepth 100000 in
set_option maxHeartbeats 4000000 in
theorem h83_c0 (scr : Nat → Int32) (L d : Nat) (call : Nat → List Value → am_H → Option am_X) (I : am_I) (J : am_J) (M : am_I) (x a j l : Nat) (hj : j ≤ 40) (hx : x < 105) (hl : I 6 x = nI l) (hl2 : l ≤ 200) (ha : 0 < l) (hs : I 3 x = 4) : h83 scr L d call I J M x (nI 0) j 100 (some (some (.int 38), hp I J M, 0, 0)) := by
  intro f x1 x2 hf
  obtain ⟨g, rfl⟩ : ∃ g, f = g + 100 := ⟨f - 100, by omega⟩
  have g0 : ¬ (40 : Int32) < nI j := nI_nlt (a := 40) (b := j) (by omega) (by omega)
  have g1 : ¬ nI x < 0 := nI_pos (by omega)
  have g2 : (nI x).toNatClampNeg = x := nI_clamp (by omega)
  have g3 : ¬ 105 ≤ x := by omega
  have g4 : nI j + 1 = nI (j + 1) := nI_1 j
  have p1 : ¬ nI 0 < 0 := nI_pos (by omega)
  have p2 : nI 0 < nI l := nI_lt (by omega) (by omega)
  have p3 : nI 0 = 0 := nI_0
  rw [p3] at p1 p2 ⊢
  rw [s_83_8]
  simp [s_83_0, s_83_1, s_83_2, s_83_3, s_83_5, s_83_6, s_83_10, s_83_12, s_83_15, s_83_17, s_83_20, s_83_22, s_83_23, s_83_26, s_83_27, s_83_28, s_83_31, s_83_32, s_83_33, s_83_34, s_83_37, s_83_38, s_83_39, s_83_40, s_83_45, s_83_46, s_83_49, s_83_50, s_83_54, s_83_55, s_83_57, s_83_60, s_83_61, s_83_64, s_83_65, s_83_66, s_83_67, s_83_70, s_83_72, s_83_75, s_83_77, s_83_78, s_83_81, s_83_82, s_83_85, s_83_86, s_83_87, s_83_88, s_83_91, s_83_93, s_83_94, s_83_97, s_83_98, s_83_101, s_83_102, s_83_103, s_83_104, s_83_107, s_83_108, s_83_111, s_83_112, s_83_113, s_83_114, s_83_117, s_83_119, s_83_120, s_83_123, s_83_124, s_83_127, s_83_128, s_83_129, s_83_130, s_83_131, s_83_133, s_83_135, s_83_138, s_83_140, s_83_141, s_83_144, s_83_146, s_83_147, s_83_150, s_83_151, s_83_154, s_83_155, s_83_156, s_83_157, s_83_160, s_83_162, s_83_163, s_83_164, s_83_167, s_83_168, s_83_169, s_83_170, s_83_173, s_83_176, s_83_177, ha_0, hg_0_0, hg_0_1, hg_0_2, hg_0_3, hg_0_4, hq_0_4, hg_0_5, hq_0_5, ha_1, hg_1_0, hg_1_1, hg_1_2, hg_1_3, hg_1_4, hg_1_5, hg_1_6, hg_1_7, hg_1_8, hg_1_9, hg_1_10, hg_1_11, hg_1_12, hq_1_12, ha_2, hg_2_0, hg_2_1, hg_2_2, hg_2_3, hg_2_4, hq_2_4, hl_3, hs_3, hl_4, hs_4, hl_5, hs_5, hl_6, hs_6, hl_7, hs_7, hl_8, hs_8, hl_9, hs_9, hl_10, hs_10, hl_11, hs_11, hl_12, hs_12, hl_13, hs_13, hl_14, hs_14, hl_15, hs_15, hl_16, hs_16, hl_17, hs_17, ha_18, hg_18_0, hg_18_1, hg_18_2, hq_18_2, hg_18_3, hq_18_3, hl_19, hs_19, ha_20, hg_20_0, hg_20_1, ha_21, hg_21_0, hg_21_1, hg_21_2, hg_21_3, hg_21_4, hg_21_5, hg_21_6, hq_21_6, hg_21_7, hg_21_8, hg_21_9, hg_21_10, hq_21_10, hg_21_11, hq_21_11, hg_21_12, hq_21_12, hg_21_13, hq_21_13, hg_21_14, hq_21_14, hg_21_15, hq_21_15, hg_21_16, hq_21_16, hg_21_17, hq_21_17, ha_22, hg_22_0, hg_22_1, hg_22_2, hg_22_3, hg_22_4, hg_22_5, hg_22_6, hq_22_6, hg_22_7, hq_22_7, hg_22_8, hq_22_8, hl_23, hs_23, hl_24, hs_24, hl_25, hs_25, hl_26, hs_26, hl_27, hs_27, ha_28, hg_28_0, hg_28_1, hq_28_1, hl_29, hs_29, hl_30, hs_30, hl_31, hs_31, hl_32, hs_32, hl_33, hs_33, hl_34, hs_34, hl_35, hs_35, am_ld_cons, am_ld_nil, am_st1_cons, am_st1_nil, am_st2_cons, am_st2_nil, am_P1, am_P2, Value.category, am_add_add, am_add0, am_add_some, g0, g1, g2, g3, g4, hl, p1, p2, p3, hs]
set_option maxRecDepth 100000 in
set_option maxHeartbeats 4000000 in
theorem h83_f0 (scr : Nat → Int32) (L d : Nat) (call : Nat → List Value → am_H → Option am_X) (I : am_I) (J : am_J) (M : am_I) (x a j l : Nat) (hj : j ≤ 40) (hx : x < 105) (hl : I 6 x = nI l) (hl2 : l ≤ 200) (ha : 0 < l) (hs : I 3 x = 3) : h83 scr L d call I J M x (nI 0) j 100 (some (some (.int 40), hp I J M, 0, 0)) := by
  intro f x1 x2 hf
  obtain ⟨g, rfl⟩ : ∃ g, f = g + 100 := ⟨f - 100, by omega⟩
  have g0 : ¬ (40 : Int32) < nI j := nI_nlt (a := 40) (b := j) (by omega) (by omega)
  have g1 : ¬ nI x < 0 := nI_pos (by omega)
  have g2 : (nI x).toNatClampNeg = x := nI_clamp (by omega)
  have g3 : ¬ 105 ≤ x := by omega
  have g4 : nI j + 1 = nI (j + 1) := nI_1 j
  have p1 : ¬ nI 0 < 0 := nI_pos (by omega)
  have p2 : nI 0 < nI l := nI_lt (by omega) (by omega)
  have p3 : nI 0 = 0 := nI_0
  rw [p3] at p1 p2 ⊢
  rw [s_83_8]
  simp [s_83_0, s_83_1, s_83_2, s_83_3, s_83_5, s_83_6, s_83_10, s_83_12, s_83_15, s_83_17, s_83_20, s_83_22, s_83_23, s_83_26, s_83_27, s_83_28, s_83_31, s_83_32, s_83_33, s_83_34, s_83_37, s_83_38, s_83_39, s_83_40, s_83_45, s_83_46, s_83_49, s_83_50, s_83_54, s_83_55, s_83_57, s_83_60, s_83_61, s_83_64, s_83_65, s_83_66, s_83_67, s_83_70, s_83_72, s_83_75, s_83_77, s_83_78, s_83_81, s_83_82, s_83_85, s_83_86, s_83_87, s_83_88, s_83_91, s_83_93, s_83_94, s_83_97, s_83_98, s_83_101, s_83_102, s_83_103, s_83_104, s_83_107, s_83_108, s_83_111, s_83_112, s_83_113, s_83_114, s_83_117, s_83_119, s_83_120, s_83_123, s_83_124, s_83_127, s_83_128, s_83_129, s_83_130, s_83_131, s_83_133, s_83_135, s_83_138, s_83_140, s_83_141, s_83_144, s_83_146, s_83_147, s_83_150, s_83_151, s_83_154, s_83_155, s_83_156, s_83_157, s_83_160, s_83_162, s_83_163, s_83_164, s_83_167, s_83_168, s_83_169, s_83_170, s_83_173, s_83_176, s_83_177, ha_0, hg_0_0, hg_0_1, hg_0_2, hg_0_3, hg_0_4, hq_0_4, hg_0_5, hq_0_5, ha_1, hg_1_0, hg_1_1, hg_1_2, hg_1_3, hg_1_4, hg_1_5, hg_1_6, hg_1_7, hg_1_8, hg_1_9, hg_1_10, hg_1_11, hg_1_12, hq_1_12, ha_2, hg_2_0, hg_2_1, hg_2_2, hg_2_3, hg_2_4, hq_2_4, hl_3, hs_3, hl_4, hs_4, hl_5, hs_5, hl_6, hs_6, hl_7, hs_7, hl_8, hs_8, hl_9, hs_9, hl_10, hs_10, hl_11, hs_11, hl_12, hs_12, hl_13, hs_13, hl_14, hs_14, hl_15, hs_15, hl_16, hs_16, hl_17, hs_17, ha_18, hg_18_0, hg_18_1, hg_18_2, hq_18_2, hg_18_3, hq_18_3, hl_19, hs_19, ha_20, hg_20_0, hg_20_1, ha_21, hg_21_0, hg_21_1, hg_21_2, hg_21_3, hg_21_4, hg_21_5, hg_21_6, hq_21_6, hg_21_7, hg_21_8, hg_21_9, hg_21_10, hq_21_10, hg_21_11, hq_21_11, hg_21_12, hq_21_12, hg_21_13, hq_21_13, hg_21_14, hq_21_14, hg_21_15, hq_21_15, hg_21_16, hq_21_16, hg_21_17, hq_21_17, ha_22, hg_22_0, hg_22_1, hg_22_2, hg_22_3, hg_22_4, hg_22_5, hg_22_6, hq_22_6, hg_22_7, hq_22_7, hg_22_8, hq_22_8, hl_23, hs_23, hl_24, hs_24, hl_25, hs_25, hl_26, hs_26, hl_27, hs_27, ha_28, hg_28_0, hg_28_1, hq_28_1, hl_29, hs_29, hl_30, hs_30, hl_31, hs_31, hl_32, hs_32, hl_33, hs_33, hl_34, hs_34, hl_35, hs_35, am_ld_cons, am_ld_nil, am_st1_cons, am_st1_nil, am_st2_cons, am_st2_nil, am_P1, am_P2, Value.category, am_add_add, am_add0, am_add_some, g0, g1, g2, g3, g4, hl, p1, p2, p3, hs]
set_option maxRecDepth 100000 in
set_option maxHeartbeats 4000000 in
theorem h83_cell (scr : Nat → Int32) (L d : Nat) (call : Nat → List Value → am_H → Option am_X) (I : am_I) (J : am_J) (M : am_I) (x a j l : Nat) (hj : j ≤ 40) (hx : x < 105) (hl : I 6 x = nI l) (hl2 : l ≤ 200) (ha : a + 1 < l) (hs : I 3 x = 4) (y : Nat) (hy : I 4 x = nI y) (n0 : Nat) (R : Option am_X) (key : h83 scr L d call I J M y (nI a) (j + 1) n0 R) : h83 scr L d call I J M x (nI (a + 1)) j (n0 + 100) R := by
  intro f x1 x2 hf
  obtain ⟨g, rfl⟩ : ∃ g, f = g + 100 := ⟨f - 100, by omega⟩
  have g0 : ¬ (40 : Int32) < nI j := nI_nlt (a := 40) (b := j) (by omega) (by omega)
  have g1 : ¬ nI x < 0 := nI_pos (by omega)
  have g2 : (nI x).toNatClampNeg = x := nI_clamp (by omega)
  have g3 : ¬ 105 ≤ x := by omega
  have g4 : nI j + 1 = nI (j + 1) := nI_1 j
  have p1 : ¬ nI (a + 1) < 0 := nI_pos (by omega)
  have p2 : nI (a + 1) < nI l := nI_lt (by omega) (by omega)
  have p3 : ¬ nI (a + 1) = 0 := nI_ne0 (by omega) (by omega)
  have p4 := nI_m1 a
  rw [s_83_8]
  simp [s_83_0, s_83_1, s_83_2, s_83_3, s_83_5, s_83_6, s_83_10, s_83_12, s_83_15, s_83_17, s_83_20, s_83_22, s_83_23, s_83_26, s_83_27, s_83_28, s_83_31, s_83_32, s_83_33, s_83_34, s_83_37, s_83_38, s_83_39, s_83_40, s_83_45, s_83_46, s_83_49, s_83_50, s_83_54, s_83_55, s_83_57, s_83_60, s_83_61, s_83_64, s_83_65, s_83_66, s_83_67, s_83_70, s_83_72, s_83_75, s_83_77, s_83_78, s_83_81, s_83_82, s_83_85, s_83_86, s_83_87, s_83_88, s_83_91, s_83_93, s_83_94, s_83_97, s_83_98, s_83_101, s_83_102, s_83_103, s_83_104, s_83_107, s_83_108, s_83_111, s_83_112, s_83_113, s_83_114, s_83_117, s_83_119, s_83_120, s_83_123, s_83_124, s_83_127, s_83_128, s_83_129, s_83_130, s_83_131, s_83_133, s_83_135, s_83_138, s_83_140, s_83_141, s_83_144, s_83_146, s_83_147, s_83_150, s_83_151, s_83_154, s_83_155, s_83_156, s_83_157, s_83_160, s_83_162, s_83_163, s_83_164, s_83_167, s_83_168, s_83_169, s_83_170, s_83_173, s_83_176, s_83_177, ha_0, hg_0_0, hg_0_1, hg_0_2, hg_0_3, hg_0_4, hq_0_4, hg_0_5, hq_0_5, ha_1, hg_1_0, hg_1_1, hg_1_2, hg_1_3, hg_1_4, hg_1_5, hg_1_6, hg_1_7, hg_1_8, hg_1_9, hg_1_10, hg_1_11, hg_1_12, hq_1_12, ha_2, hg_2_0, hg_2_1, hg_2_2, hg_2_3, hg_2_4, hq_2_4, hl_3, hs_3, hl_4, hs_4, hl_5, hs_5, hl_6, hs_6, hl_7, hs_7, hl_8, hs_8, hl_9, hs_9, hl_10, hs_10, hl_11, hs_11, hl_12, hs_12, hl_13, hs_13, hl_14, hs_14, hl_15, hs_15, hl_16, hs_16, hl_17, hs_17, ha_18, hg_18_0, hg_18_1, hg_18_2, hq_18_2, hg_18_3, hq_18_3, hl_19, hs_19, ha_20, hg_20_0, hg_20_1, ha_21, hg_21_0, hg_21_1, hg_21_2, hg_21_3, hg_21_4, hg_21_5, hg_21_6, hq_21_6, hg_21_7, hg_21_8, hg_21_9, hg_21_10, hq_21_10, hg_21_11, hq_21_11, hg_21_12, hq_21_12, hg_21_13, hq_21_13, hg_21_14, hq_21_14, hg_21_15, hq_21_15, hg_21_16, hq_21_16, hg_21_17, hq_21_17, ha_22, hg_22_0, hg_22_1, hg_22_2, hg_22_3, hg_22_4, hg_22_5, hg_22_6, hq_22_6, hg_22_7, hq_22_7, hg_22_8, hq_22_8, hl_23, hs_23, hl_24, hs_24, hl_25, hs_25, hl_26, hs_26, hl_27, hs_27, ha_28, hg_28_0, hg_28_1, hq_28_1, hl_29, hs_29, hl_30, hs_30, hl_31, hs_31, hl_32, hs_32, hl_33, hs_33, hl_34, hs_34, hl_35, hs_35, am_ld_cons, am_ld_nil, am_st1_cons, am_st1_nil, am_st2_cons, am_st2_nil, am_P1, am_P2, Value.category, am_add_add, am_add0, am_add_some, g0, g1, g2, g3, g4, hl, p1, p2, p3, p4, hs, hy]
  exact key _ _ _ (by omega)
set_option maxRecDepth 100000 in
set_option maxHeartbeats 4000000 in
theorem h83_left (scr : Nat → Int32) (L d : Nat) (call : Nat → List Value → am_H → Option am_X) (I : am_I) (J : am_J) (M : am_I) (x a j l : Nat) (hj : j ≤ 40) (hx : x < 105) (hl : I 6 x = nI l) (hl2 : l ≤ 200) (ha : a + 1 < l) (hs : I 3 x = 3) (y ly : Nat) (hy : I 4 x = nI y) (hy2 : y < 105) (hly : I 6 y = nI ly) (hal : a < ly) (hly2 : ly ≤ 200) (n0 : Nat) (R : Option am_X) (key : h83 scr L d call I J M y (nI a) (j + 1) n0 R) : h83 scr L d call I J M x (nI (a + 1)) j (n0 + 100) R := by
  intro f x1 x2 hf
  obtain ⟨g, rfl⟩ : ∃ g, f = g + 100 := ⟨f - 100, by omega⟩
  have g0 : ¬ (40 : Int32) < nI j := nI_nlt (a := 40) (b := j) (by omega) (by omega)
  have g1 : ¬ nI x < 0 := nI_pos (by omega)
  have g2 : (nI x).toNatClampNeg = x := nI_clamp (by omega)
  have g3 : ¬ 105 ≤ x := by omega
  have g4 : nI j + 1 = nI (j + 1) := nI_1 j
  have p1 : ¬ nI (a + 1) < 0 := nI_pos (by omega)
  have p2 : nI (a + 1) < nI l := nI_lt (by omega) (by omega)
  have p3 : ¬ nI (a + 1) = 0 := nI_ne0 (by omega) (by omega)
  have p4 := nI_m1 a
  have y1 : ¬ nI y < 0 := nI_pos (by omega)
  have y2 : (nI y).toNatClampNeg = y := nI_clamp (by omega)
  have y3 : ¬ 105 ≤ y := by omega
  have p5 : ¬ nI ly ≤ nI a := nI_ge (by omega) (by omega)
  rw [s_83_8]
  simp [s_83_0, s_83_1, s_83_2, s_83_3, s_83_5, s_83_6, s_83_10, s_83_12, s_83_15, s_83_17, s_83_20, s_83_22, s_83_23, s_83_26, s_83_27, s_83_28, s_83_31, s_83_32, s_83_33, s_83_34, s_83_37, s_83_38, s_83_39, s_83_40, s_83_45, s_83_46, s_83_49, s_83_50, s_83_54, s_83_55, s_83_57, s_83_60, s_83_61, s_83_64, s_83_65, s_83_66, s_83_67, s_83_70, s_83_72, s_83_75, s_83_77, s_83_78, s_83_81, s_83_82, s_83_85, s_83_86, s_83_87, s_83_88, s_83_91, s_83_93, s_83_94, s_83_97, s_83_98, s_83_101, s_83_102, s_83_103, s_83_104, s_83_107, s_83_108, s_83_111, s_83_112, s_83_113, s_83_114, s_83_117, s_83_119, s_83_120, s_83_123, s_83_124, s_83_127, s_83_128, s_83_129, s_83_130, s_83_131, s_83_133, s_83_135, s_83_138, s_83_140, s_83_141, s_83_144, s_83_146, s_83_147, s_83_150, s_83_151, s_83_154, s_83_155, s_83_156, s_83_157, s_83_160, s_83_162, s_83_163, s_83_164, s_83_167, s_83_168, s_83_169, s_83_170, s_83_173, s_83_176, s_83_177, ha_0, hg_0_0, hg_0_1, hg_0_2, hg_0_3, hg_0_4, hq_0_4, hg_0_5, hq_0_5, ha_1, hg_1_0, hg_1_1, hg_1_2, hg_1_3, hg_1_4, hg_1_5, hg_1_6, hg_1_7, hg_1_8, hg_1_9, hg_1_10, hg_1_11, hg_1_12, hq_1_12, ha_2, hg_2_0, hg_2_1, hg_2_2, hg_2_3, hg_2_4, hq_2_4, hl_3, hs_3, hl_4, hs_4, hl_5, hs_5, hl_6, hs_6, hl_7, hs_7, hl_8, hs_8, hl_9, hs_9, hl_10, hs_10, hl_11, hs_11, hl_12, hs_12, hl_13, hs_13, hl_14, hs_14, hl_15, hs_15, hl_16, hs_16, hl_17, hs_17, ha_18, hg_18_0, hg_18_1, hg_18_2, hq_18_2, hg_18_3, hq_18_3, hl_19, hs_19, ha_20, hg_20_0, hg_20_1, ha_21, hg_21_0, hg_21_1, hg_21_2, hg_21_3, hg_21_4, hg_21_5, hg_21_6, hq_21_6, hg_21_7, hg_21_8, hg_21_9, hg_21_10, hq_21_10, hg_21_11, hq_21_11, hg_21_12, hq_21_12, hg_21_13, hq_21_13, hg_21_14, hq_21_14, hg_21_15, hq_21_15, hg_21_16, hq_21_16, hg_21_17, hq_21_17, ha_22, hg_22_0, hg_22_1, hg_22_2, hg_22_3, hg_22_4, hg_22_5, hg_22_6, hq_22_6, hg_22_7, hq_22_7, hg_22_8, hq_22_8, hl_23, hs_23, hl_24, hs_24, hl_25, hs_25, hl_26, hs_26, hl_27, hs_27, ha_28, hg_28_0, hg_28_1, hq_28_1, hl_29, hs_29, hl_30, hs_30, hl_31, hs_31, hl_32, hs_32, hl_33, hs_33, hl_34, hs_34, hl_35, hs_35, am_ld_cons, am_ld_nil, am_st1_cons, am_st1_nil, am_st2_cons, am_st2_nil, am_P1, am_P2, Value.category, am_add_add, am_add0, am_add_some, g0, g1, g2, g3, g4, hl, p1, p2, p3, p4, p5, hs, hy, y1, y2, y3, hly]
  exact key _ _ _ (by omega)
set_option maxRecDepth 100000 in
set_option maxHeartbeats 4000000 in
theorem h83_gt (scr : Nat → Int32) (L d : Nat) (call : Nat → List Value → am_H → Option am_X) (I : am_I) (J : am_J) (M : am_I) (x a j l : Nat) (hj : j ≤ 40) (hx : x < 105) (hl : I 6 x = nI l) (hl2 : l ≤ 200) (hs : I 3 x = 3) (y ly : Nat) (hy : I 4 x = nI y) (hy2 : y < 105) (hly : I 6 y = nI ly) (ha : ly + 1 < l) : h83 scr L d call I J M x (nI (ly + 1)) j 100 (some (some (.int 62), hp I J M, 0, 0)) := by
  intro f x1 x2 hf
  obtain ⟨g, rfl⟩ : ∃ g, f = g + 100 := ⟨f - 100, by omega⟩
  have g0 : ¬ (40 : Int32) < nI j := nI_nlt (a := 40) (b := j) (by omega) (by omega)
  have g1 : ¬ nI x < 0 := nI_pos (by omega)
  have g2 : (nI x).toNatClampNeg = x := nI_clamp (by omega)
  have g3 : ¬ 105 ≤ x := by omega
  have g4 : nI j + 1 = nI (j + 1) := nI_1 j
  have p1 : ¬ nI (ly + 1) < 0 := nI_pos (by omega)
  have p2 : nI (ly + 1) < nI l := nI_lt (by omega) (by omega)
  have p3 : ¬ nI (ly + 1) = 0 := nI_ne0 (by omega) (by omega)
  have p4 := nI_m1 ly
  have y1 : ¬ nI y < 0 := nI_pos (by omega)
  have y2 : (nI y).toNatClampNeg = y := nI_clamp (by omega)
  have y3 : ¬ 105 ≤ y := by omega
  have p5 : ¬ nI ly < nI ly := nI_nlt (by omega) (by omega)
  have p6 : nI ly - nI ly = 0 := Int32.sub_self _
  rw [s_83_8]
  simp [s_83_0, s_83_1, s_83_2, s_83_3, s_83_5, s_83_6, s_83_10, s_83_12, s_83_15, s_83_17, s_83_20, s_83_22, s_83_23, s_83_26, s_83_27, s_83_28, s_83_31, s_83_32, s_83_33, s_83_34, s_83_37, s_83_38, s_83_39, s_83_40, s_83_45, s_83_46, s_83_49, s_83_50, s_83_54, s_83_55, s_83_57, s_83_60, s_83_61, s_83_64, s_83_65, s_83_66, s_83_67, s_83_70, s_83_72, s_83_75, s_83_77, s_83_78, s_83_81, s_83_82, s_83_85, s_83_86, s_83_87, s_83_88, s_83_91, s_83_93, s_83_94, s_83_97, s_83_98, s_83_101, s_83_102, s_83_103, s_83_104, s_83_107, s_83_108, s_83_111, s_83_112, s_83_113, s_83_114, s_83_117, s_83_119, s_83_120, s_83_123, s_83_124, s_83_127, s_83_128, s_83_129, s_83_130, s_83_131, s_83_133, s_83_135, s_83_138, s_83_140, s_83_141, s_83_144, s_83_146, s_83_147, s_83_150, s_83_151, s_83_154, s_83_155, s_83_156, s_83_157, s_83_160, s_83_162, s_83_163, s_83_164, s_83_167, s_83_168, s_83_169, s_83_170, s_83_173, s_83_176, s_83_177, ha_0, hg_0_0, hg_0_1, hg_0_2, hg_0_3, hg_0_4, hq_0_4, hg_0_5, hq_0_5, ha_1, hg_1_0, hg_1_1, hg_1_2, hg_1_3, hg_1_4, hg_1_5, hg_1_6, hg_1_7, hg_1_8, hg_1_9, hg_1_10, hg_1_11, hg_1_12, hq_1_12, ha_2, hg_2_0, hg_2_1, hg_2_2, hg_2_3, hg_2_4, hq_2_4, hl_3, hs_3, hl_4, hs_4, hl_5, hs_5, hl_6, hs_6, hl_7, hs_7, hl_8, hs_8, hl_9, hs_9, hl_10, hs_10, hl_11, hs_11, hl_12, hs_12, hl_13, hs_13, hl_14, hs_14, hl_15, hs_15, hl_16, hs_16, hl_17, hs_17, ha_18, hg_18_0, hg_18_1, hg_18_2, hq_18_2, hg_18_3, hq_18_3, hl_19, hs_19, ha_20, hg_20_0, hg_20_1, ha_21, hg_21_0, hg_21_1, hg_21_2, hg_21_3, hg_21_4, hg_21_5, hg_21_6, hq_21_6, hg_21_7, hg_21_8, hg_21_9, hg_21_10, hq_21_10, hg_21_11, hq_21_11, hg_21_12, hq_21_12, hg_21_13, hq_21_13, hg_21_14, hq_21_14, hg_21_15, hq_21_15, hg_21_16, hq_21_16, hg_21_17, hq_21_17, ha_22, hg_22_0, hg_22_1, hg_22_2, hg_22_3, hg_22_4, hg_22_5, hg_22_6, hq_22_6, hg_22_7, hq_22_7, hg_22_8, hq_22_8, hl_23, hs_23, hl_24, hs_24, hl_25, hs_25, hl_26, hs_26, hl_27, hs_27, ha_28, hg_28_0, hg_28_1, hq_28_1, hl_29, hs_29, hl_30, hs_30, hl_31, hs_31, hl_32, hs_32, hl_33, hs_33, hl_34, hs_34, hl_35, hs_35, am_ld_cons, am_ld_nil, am_st1_cons, am_st1_nil, am_st2_cons, am_st2_nil, am_P1, am_P2, Value.category, am_add_add, am_add0, am_add_some, g0, g1, g2, g3, g4, hl, p1, p2, p3, p4, p5, p6, hs, hy, y1, y2, y3, hly]
set_option maxRecDepth 100000 in
set_option maxHeartbeats 4000000 in
theorem h83_rp (scr : Nat → Int32) (L d : Nat) (call : Nat → List Value → am_H → Option am_X) (I : am_I) (J : am_J) (M : am_I) (x a j l : Nat) (hj : j ≤ 40) (hx : x < 105) (hl : I 6 x = nI l) (hl2 : l ≤ 200) (hs : I 3 x = 3) (y ly : Nat) (hy : I 4 x = nI y) (hy2 : y < 105) (hly : I 6 y = nI ly) (r lr : Nat) (hr : I 5 x = nI r) (hr2 : r < 105) (hlr : I 6 r = nI lr) (hlr2 : lr ≤ 200) (ha : a + 1 + ly + 1 < l) (hal : a = lr) : h83 scr L d call I J M x (nI (a + 1 + ly + 1)) j 100 (some (some (.int 41), hp I J M, 0, 0)) := by
  intro f x1 x2 hf
  obtain ⟨g, rfl⟩ : ∃ g, f = g + 100 := ⟨f - 100, by omega⟩
  have g0 : ¬ (40 : Int32) < nI j := nI_nlt (a := 40) (b := j) (by omega) (by omega)
  have g1 : ¬ nI x < 0 := nI_pos (by omega)
  have g2 : (nI x).toNatClampNeg = x := nI_clamp (by omega)
  have g3 : ¬ 105 ≤ x := by omega
  have g4 : nI j + 1 = nI (j + 1) := nI_1 j
  have p1 : ¬ nI (a + 1 + ly + 1) < 0 := nI_pos (by omega)
  have p2 : nI (a + 1 + ly + 1) < nI l := nI_lt (by omega) (by omega)
  have p3 : ¬ nI (a + 1 + ly + 1) = 0 := nI_ne0 (by omega) (by omega)
  have p4 := nI_m1 (a + 1 + ly)
  have y1 : ¬ nI y < 0 := nI_pos (by omega)
  have y2 : (nI y).toNatClampNeg = y := nI_clamp (by omega)
  have y3 : ¬ 105 ≤ y := by omega
  have r1 : ¬ nI r < 0 := nI_pos (by omega)
  have r2 : (nI r).toNatClampNeg = r := nI_clamp (by omega)
  have r3 : ¬ 105 ≤ r := by omega
  have p5 : nI ly ≤ nI (a + 1 + ly) := nI_le (by omega) (by omega)
  have p6 := nI_su (a + 1) ly
  have p7 : ¬ nI (a + 1) = 0 := nI_ne0 (by omega) (by omega)
  have p8 := nI_m1 a
  rw [← hal] at hlr
  rw [s_83_8]
  simp [s_83_0, s_83_1, s_83_2, s_83_3, s_83_5, s_83_6, s_83_10, s_83_12, s_83_15, s_83_17, s_83_20, s_83_22, s_83_23, s_83_26, s_83_27, s_83_28, s_83_31, s_83_32, s_83_33, s_83_34, s_83_37, s_83_38, s_83_39, s_83_40, s_83_45, s_83_46, s_83_49, s_83_50, s_83_54, s_83_55, s_83_57, s_83_60, s_83_61, s_83_64, s_83_65, s_83_66, s_83_67, s_83_70, s_83_72, s_83_75, s_83_77, s_83_78, s_83_81, s_83_82, s_83_85, s_83_86, s_83_87, s_83_88, s_83_91, s_83_93, s_83_94, s_83_97, s_83_98, s_83_101, s_83_102, s_83_103, s_83_104, s_83_107, s_83_108, s_83_111, s_83_112, s_83_113, s_83_114, s_83_117, s_83_119, s_83_120, s_83_123, s_83_124, s_83_127, s_83_128, s_83_129, s_83_130, s_83_131, s_83_133, s_83_135, s_83_138, s_83_140, s_83_141, s_83_144, s_83_146, s_83_147, s_83_150, s_83_151, s_83_154, s_83_155, s_83_156, s_83_157, s_83_160, s_83_162, s_83_163, s_83_164, s_83_167, s_83_168, s_83_169, s_83_170, s_83_173, s_83_176, s_83_177, ha_0, hg_0_0, hg_0_1, hg_0_2, hg_0_3, hg_0_4, hq_0_4, hg_0_5, hq_0_5, ha_1, hg_1_0, hg_1_1, hg_1_2, hg_1_3, hg_1_4, hg_1_5, hg_1_6, hg_1_7, hg_1_8, hg_1_9, hg_1_10, hg_1_11, hg_1_12, hq_1_12, ha_2, hg_2_0, hg_2_1, hg_2_2, hg_2_3, hg_2_4, hq_2_4, hl_3, hs_3, hl_4, hs_4, hl_5, hs_5, hl_6, hs_6, hl_7, hs_7, hl_8, hs_8, hl_9, hs_9, hl_10, hs_10, hl_11, hs_11, hl_12, hs_12, hl_13, hs_13, hl_14, hs_14, hl_15, hs_15, hl_16, hs_16, hl_17, hs_17, ha_18, hg_18_0, hg_18_1, hg_18_2, hq_18_2, hg_18_3, hq_18_3, hl_19, hs_19, ha_20, hg_20_0, hg_20_1, ha_21, hg_21_0, hg_21_1, hg_21_2, hg_21_3, hg_21_4, hg_21_5, hg_21_6, hq_21_6, hg_21_7, hg_21_8, hg_21_9, hg_21_10, hq_21_10, hg_21_11, hq_21_11, hg_21_12, hq_21_12, hg_21_13, hq_21_13, hg_21_14, hq_21_14, hg_21_15, hq_21_15, hg_21_16, hq_21_16, hg_21_17, hq_21_17, ha_22, hg_22_0, hg_22_1, hg_22_2, hg_22_3, hg_22_4, hg_22_5, hg_22_6, hq_22_6, hg_22_7, hq_22_7, hg_22_8, hq_22_8, hl_23, hs_23, hl_24, hs_24, hl_25, hs_25, hl_26, hs_26, hl_27, hs_27, ha_28, hg_28_0, hg_28_1, hq_28_1, hl_29, hs_29, hl_30, hs_30, hl_31, hs_31, hl_32, hs_32, hl_33, hs_33, hl_34, hs_34, hl_35, hs_35, am_ld_cons, am_ld_nil, am_st1_cons, am_st1_nil, am_st2_cons, am_st2_nil, am_P1, am_P2, Value.category, am_add_add, am_add0, am_add_some, g0, g1, g2, g3, g4, hl, p1, p2, p3, p4, p5, p6, p7, p8, hs, hy, y1, y2, y3, hly, hr, r1, r2, r3, hlr]
set_option maxRecDepth 100000 in
set_option maxHeartbeats 4000000 in
theorem h83_right (scr : Nat → Int32) (L d : Nat) (call : Nat → List Value → am_H → Option am_X) (I : am_I) (J : am_J) (M : am_I) (x a j l : Nat) (hj : j ≤ 40) (hx : x < 105) (hl : I 6 x = nI l) (hl2 : l ≤ 200) (hs : I 3 x = 3) (y ly : Nat) (hy : I 4 x = nI y) (hy2 : y < 105) (hly : I 6 y = nI ly) (r lr : Nat) (hr : I 5 x = nI r) (hr2 : r < 105) (hlr : I 6 r = nI lr) (hlr2 : lr ≤ 200) (ha : a + 1 + ly + 1 < l) (hal : a < lr) (n0 : Nat) (R : Option am_X) (key : h83 scr L d call I J M r (nI a) (j + 1) n0 R) : h83 scr L d call I J M x (nI (a + 1 + ly + 1)) j (n0 + 100) R := by
  intro f x1 x2 hf
  obtain ⟨g, rfl⟩ : ∃ g, f = g + 100 := ⟨f - 100, by omega⟩
  have g0 : ¬ (40 : Int32) < nI j := nI_nlt (a := 40) (b := j) (by omega) (by omega)
  have g1 : ¬ nI x < 0 := nI_pos (by omega)
  have g2 : (nI x).toNatClampNeg = x := nI_clamp (by omega)
  have g3 : ¬ 105 ≤ x := by omega
  have g4 : nI j + 1 = nI (j + 1) := nI_1 j
  have p1 : ¬ nI (a + 1 + ly + 1) < 0 := nI_pos (by omega)
  have p2 : nI (a + 1 + ly + 1) < nI l := nI_lt (by omega) (by omega)
  have p3 : ¬ nI (a + 1 + ly + 1) = 0 := nI_ne0 (by omega) (by omega)
  have p4 := nI_m1 (a + 1 + ly)
  have y1 : ¬ nI y < 0 := nI_pos (by omega)
  have y2 : (nI y).toNatClampNeg = y := nI_clamp (by omega)
  have y3 : ¬ 105 ≤ y := by omega
  have r1 : ¬ nI r < 0 := nI_pos (by omega)
  have r2 : (nI r).toNatClampNeg = r := nI_clamp (by omega)
  have r3 : ¬ 105 ≤ r := by omega
  have p5 : nI ly ≤ nI (a + 1 + ly) := nI_le (by omega) (by omega)
  have p6 := nI_su (a + 1) ly
  have p7 : ¬ nI (a + 1) = 0 := nI_ne0 (by omega) (by omega)
  have p8 := nI_m1 a
  have p9 : ¬ nI a = nI lr := fun z => by
    have := nI_inj (by omega) (by omega) z
    omega
  rw [s_83_8]
  simp [s_83_0, s_83_1, s_83_2, s_83_3, s_83_5, s_83_6, s_83_10, s_83_12, s_83_15, s_83_17, s_83_20, s_83_22, s_83_23, s_83_26, s_83_27, s_83_28, s_83_31, s_83_32, s_83_33, s_83_34, s_83_37, s_83_38, s_83_39, s_83_40, s_83_45, s_83_46, s_83_49, s_83_50, s_83_54, s_83_55, s_83_57, s_83_60, s_83_61, s_83_64, s_83_65, s_83_66, s_83_67, s_83_70, s_83_72, s_83_75, s_83_77, s_83_78, s_83_81, s_83_82, s_83_85, s_83_86, s_83_87, s_83_88, s_83_91, s_83_93, s_83_94, s_83_97, s_83_98, s_83_101, s_83_102, s_83_103, s_83_104, s_83_107, s_83_108, s_83_111, s_83_112, s_83_113, s_83_114, s_83_117, s_83_119, s_83_120, s_83_123, s_83_124, s_83_127, s_83_128, s_83_129, s_83_130, s_83_131, s_83_133, s_83_135, s_83_138, s_83_140, s_83_141, s_83_144, s_83_146, s_83_147, s_83_150, s_83_151, s_83_154, s_83_155, s_83_156, s_83_157, s_83_160, s_83_162, s_83_163, s_83_164, s_83_167, s_83_168, s_83_169, s_83_170, s_83_173, s_83_176, s_83_177, ha_0, hg_0_0, hg_0_1, hg_0_2, hg_0_3, hg_0_4, hq_0_4, hg_0_5, hq_0_5, ha_1, hg_1_0, hg_1_1, hg_1_2, hg_1_3, hg_1_4, hg_1_5, hg_1_6, hg_1_7, hg_1_8, hg_1_9, hg_1_10, hg_1_11, hg_1_12, hq_1_12, ha_2, hg_2_0, hg_2_1, hg_2_2, hg_2_3, hg_2_4, hq_2_4, hl_3, hs_3, hl_4, hs_4, hl_5, hs_5, hl_6, hs_6, hl_7, hs_7, hl_8, hs_8, hl_9, hs_9, hl_10, hs_10, hl_11, hs_11, hl_12, hs_12, hl_13, hs_13, hl_14, hs_14, hl_15, hs_15, hl_16, hs_16, hl_17, hs_17, ha_18, hg_18_0, hg_18_1, hg_18_2, hq_18_2, hg_18_3, hq_18_3, hl_19, hs_19, ha_20, hg_20_0, hg_20_1, ha_21, hg_21_0, hg_21_1, hg_21_2, hg_21_3, hg_21_4, hg_21_5, hg_21_6, hq_21_6, hg_21_7, hg_21_8, hg_21_9, hg_21_10, hq_21_10, hg_21_11, hq_21_11, hg_21_12, hq_21_12, hg_21_13, hq_21_13, hg_21_14, hq_21_14, hg_21_15, hq_21_15, hg_21_16, hq_21_16, hg_21_17, hq_21_17, ha_22, hg_22_0, hg_22_1, hg_22_2, hg_22_3, hg_22_4, hg_22_5, hg_22_6, hq_22_6, hg_22_7, hq_22_7, hg_22_8, hq_22_8, hl_23, hs_23, hl_24, hs_24, hl_25, hs_25, hl_26, hs_26, hl_27, hs_27, ha_28, hg_28_0, hg_28_1, hq_28_1, hl_29, hs_29, hl_30, hs_30, hl_31, hs_31, hl_32, hs_32, hl_33, hs_33, hl_34, hs_34, hl_35, hs_35, am_ld_cons, am_ld_nil, am_st1_cons, am_st1_nil, am_st2_cons, am_st2_nil, am_P1, am_P2, Value.category, am_add_add, am_add0, am_add_some, g0, g1, g2, g3, g4, hl, p1, p2, p3, p4, p5, p6, p7, p8, p9, hs, hy, y1, y2, y3, hly, hr, r1, r2, r3, hlr]
  exact key _ _ _ (by omega)
theorem gD_l {x : Int32} {A B : List Int32} {a : Nat} (h : a < A.length) : (A ++ B).getD a x = A.getD a x := by
  rw [List.getD_eq_getElem?_getD, List.getD_eq_getElem?_getD, List.getElem?_append_left h]
theorem gD_r {x : Int32} {A B : List Int32} {a n : Nat} (h : A.length = n) : (A ++ B).getD (a + n) x = B.getD a x := by
  rw [List.getD_eq_getElem?_getD, List.getD_eq_getElem?_getD, List.getElem?_append_right (by omega), show a + n - A.length = a by omega]
theorem gD_s {x y : Int32} {A : List Int32} {a : Nat} : (y :: A).getD (a + 1) x = A.getD a x := by
  rw [List.getD_eq_getElem?_getD, List.getD_eq_getElem?_getD, List.getElem?_cons_succ]
theorem gD_o {x : Int32} {A : List Int32} {a : Nat} (h : A.length ≤ a) : A.getD a x = x := by
  rw [List.getD_eq_getElem?_getD, List.getElem?_eq_none h]
  rfl
theorem ty_LR {I M : am_I} {c t : Nat} (h : tyR I M c) (h3 : 3 ≤ t) (ht : t < c) : I 4 (tm t) = nI (tm (tA M t)) ∧ (M 38 t = 3 → I 5 (tm t) = nI (tm (tB M t))) := by
  have hc2 := h.2.1
  rw [tm_3 h3]
  unfold tA tB
  rcases h.2.2.2.2.2.2.2.1 t (by omega) ht with ⟨a, b, la, lb, k1, k2, k3, k4, k5, k6, k7, k8, _⟩ | ⟨a, la, k1, k3, k4, k5, k6, k7, k8, _⟩
  · rw [k5, k6, k7, k8, nI_clamp (by omega), nI_clamp (by omega)]
    exact ⟨rfl, fun _ => rfl⟩
  · rw [k5, k7, k8, nI_clamp (by omega)]
    exact ⟨rfl, fun z => absurd (k3.symm.trans z) n43⟩
theorem h83_all {I M : am_I} {c : Nat} (hR : tyR I M c) (scr : Nat → Int32) (L d : Nat) (call : Nat → List Value → am_H → Option am_X) (J : am_J) (Mx : am_I) : ∀ (h t a j : Nat), t < c → hb M h t → j + h ≤ 40 → a < 2 ^ 31 → h83 scr L d call I J Mx (tm t) (nI a) j (100 * (h + 1)) (some (some (.int ((wt M h t).getD a (-1))), hp I J Mx, 0, 0))
  | h, t, a, j, ht, hh, hj, ha => by
    have hc := hR.2.1
    have hc1 := hR.1
    have hl := ty_len hR ht
    have hw := wt_len hR h t ht hh
    have hx := tm_lt ht (by omega)
    by_cases g : tln I t ≤ a
    · rw [gD_o (by omega)]
      exact fun f x1 x2 hf => h83_out scr L d call I J Mx (tm t) a j (tln I t) (by omega) (by omega) hl.1 hl.2.2.1 g ha f x1 x2 (by omega)
    rcases ty_kind hR ht with ⟨k1, k2, k3⟩ | ⟨k1, k2, k3, k4, k5, k6, k7, k8, k9⟩ | ⟨k1, k2, k3, k4, k5, k6⟩
    · have e1 := tln_3 hR k1
      obtain rfl : a = 0 := by omega
      rw [wt_3 k1]
      exact fun f x1 x2 hf => h83_leaf scr L d call I J Mx (tm t) 0 j (tln I t) (by omega) (by omega) hl.1 hl.2.2.1 (by omega) (tm t) (tm_lt k1 (by omega)) k3 f x1 x2 (by omega)
    · obtain ⟨h, rfl⟩ : ∃ i, h = i + 1 := by
        cases h with
        | zero => have : t < 3 := hh; omega
        | succ h => exact ⟨h, rfl⟩
      have hq := hb_AB k1 hh k6 (by omega) (by omega)
      have hqb := hq.2 k2 k7 (by omega)
      have hLR := ty_LR hR k1 ht
      have hA := ty_len hR (t := tA M t) (by omega)
      have hB := ty_len hR (t := tB M t) (by omega)
      have wA := wt_len hR h _ (by omega) hq.1
      have wB := wt_len hR h _ (by omega) hqb
      have tA1 := tm_lt (t := tA M t) (c := c) (by omega) (by omega)
      have tB1 := tm_lt (t := tB M t) (c := c) (by omega) (by omega)
      have hl3 := hl.2.2.2.1 k2
      rw [wt_f k1 k2]
      by_cases a0 : a = 0
      · subst a0
        exact fun f x1 x2 hf => h83_f0 scr L d call I J Mx (tm t) 0 j (tln I t) (by omega) (by omega) hl.1 hl.2.2.1 (by omega) k3 f x1 x2 (by omega)
      obtain ⟨a1, rfl⟩ : ∃ i, a = i + 1 := ⟨a - 1, by omega⟩
      rw [gD_s]
      by_cases a2 : a1 < tln I (tA M t)
      · rw [gD_l (by omega), show 100 * (h + 1 + 1) = 100 * (h + 1) + 100 by omega]
        exact h83_left scr L d call I J Mx (tm t) a1 j (tln I t) (by omega) (by omega) hl.1 hl.2.2.1 (by omega) k3 (tm (tA M t)) (tln I (tA M t)) hLR.1 (by omega) hA.1 a2 hA.2.2.1 _ _ (h83_all hR scr L d call J Mx h (tA M t) a1 (j + 1) (by omega) hq.1 (by omega) (by omega))
      obtain ⟨a3, rfl⟩ : ∃ i, a1 = i + tln I (tA M t) := ⟨a1 - tln I (tA M t), by omega⟩
      rw [gD_r wA]
      by_cases a4 : a3 = 0
      · subst a4
        intro f x1 x2 hf
        have := h83_gt scr L d call I J Mx (tm t) 0 j (tln I t) (by omega) (by omega) hl.1 hl.2.2.1 k3 (tm (tA M t)) (tln I (tA M t)) hLR.1 (by omega) hA.1 (by omega) f x1 x2 (by omega)
        rw [show 0 + tln I (tA M t) + 1 = tln I (tA M t) + 1 by omega]
        exact this
      obtain ⟨a5, rfl⟩ : ∃ i, a3 = i + 1 := ⟨a3 - 1, by omega⟩
      rw [gD_s]
      by_cases a6 : a5 < tln I (tB M t)
      · rw [gD_l (by omega), show 100 * (h + 1 + 1) = 100 * (h + 1) + 100 by omega]
        exact h83_right scr L d call I J Mx (tm t) a5 j (tln I t) (by omega) (by omega) hl.1 hl.2.2.1 k3 (tm (tA M t)) (tln I (tA M t)) hLR.1 (by omega) hA.1 (tm (tB M t)) (tln I (tB M t)) (hLR.2 k2) (by omega) hB.1 hB.2.2.1 (by omega) a6 _ _ (h83_all hR scr L d call J Mx h (tB M t) a5 (j + 1) (by omega) hqb (by omega) (by omega))
      have a7 : a5 = tln I (tB M t) := by omega
      have e9 : (wt M h (tB M t) ++ [41]).getD a5 (-1) = 41 := by
        have := gD_r (x := (-1 : Int32)) (A := wt M h (tB M t)) (B := [41]) (a := 0) wB
        rw [show 0 + tln I (tB M t) = a5 by omega] at this
        exact this
      rw [e9]
      exact fun f x1 x2 hf => h83_rp scr L d call I J Mx (tm t) a5 j (tln I t) (by omega) (by omega) hl.1 hl.2.2.1 k3 (tm (tA M t)) (tln I (tA M t)) hLR.1 (by omega) hA.1 (tm (tB M t)) (tln I (tB M t)) (hLR.2 k2) (by omega) hB.1 hB.2.2.1 (by omega) a7 f x1 x2 (by omega)
    · obtain ⟨h, rfl⟩ : ∃ i, h = i + 1 := by
        cases h with
        | zero => have : t < 3 := hh; omega
        | succ h => exact ⟨h, rfl⟩
      have hq := hb_AB k1 hh k5 (by omega) (by omega)
      have hLR := ty_LR hR k1 ht
      have hl3 := hl.2.2.2.2 k2
      rw [wt_4 k1 k2]
      by_cases a0 : a = 0
      · subst a0
        exact fun f x1 x2 hf => h83_c0 scr L d call I J Mx (tm t) 0 j (tln I t) (by omega) (by omega) hl.1 hl.2.2.1 (by omega) k3 f x1 x2 (by omega)
      obtain ⟨a1, rfl⟩ : ∃ i, a = i + 1 := ⟨a - 1, by omega⟩
      rw [gD_s, show 100 * (h + 1 + 1) = 100 * (h + 1) + 100 by omega]
      exact h83_cell scr L d call I J Mx (tm t) a1 j (tln I t) (by omega) (by omega) hl.1 hl.2.2.1 (by omega) k3 (tm (tA M t)) hLR.1 _ _ (h83_all hR scr L d call J Mx h (tA M t) a1 (j + 1) (by omega) hq.1 (by omega) (by omega))
set_option maxRecDepth 100000 in
set_option maxHeartbeats 4000000 in
theorem c83_go {I M : am_I} {c : Nat} (hR : tyR I M c) (scr : Nat → Int32) (L F d : Nat) (J : am_J) (Mx : am_I) (h t : Nat) (ht : t < c) (hh : hb M h t) (hh2 : h ≤ 40) (x : Int32) : am_r scr L (F + 5000) (d + 5) 83 [.ref 3, .int (nI (tm t)), .int x] (hp I J Mx) = some (some (.int (if x < 0 then -1 else (wt M h t).getD x.toNatClampNeg (-1))), hp I J Mx, 0, 0) := by
  have hc := hR.2.1
  have hc1 := hR.1
  have hl := ty_len hR ht
  have hx := tm_lt ht (by omega)
  have key : h83 scr L d (am_r scr L (F + 5000) (d + 4)) I J Mx (tm t) x 0 (100 * (h + 1)) (some (some (.int (if x < 0 then -1 else (wt M h t).getD x.toNatClampNeg (-1))), hp I J Mx, 0, 0)) := by
    by_cases g : x < 0
    · rw [if_pos g]
      exact fun f x1 x2 hf => h83_neg scr L d _ I J Mx (tm t) 0 0 (tln I t) (by omega) (by omega) hl.1 hl.2.2.1 x g f x1 x2 (by omega)
    · obtain ⟨a, ha, rfl⟩ := nI_of g
      rw [if_neg g, nI_clamp ha]
      exact h83_all hR scr L d _ J Mx h t a 0 ht hh (by omega) ha
  unfold h83 at key
  rw [nI_0] at key
  simp [r_83, s_83_0, s_83_1, s_83_2, s_83_3, s_83_5, s_83_6, am_ld_cons, am_ld_nil, am_st1_cons, am_st1_nil, am_st2_cons, am_st2_nil, am_P1, am_P2, Value.category, am_add_add, am_add0, am_add_some]
  exact key _ _ _ (by omega)
