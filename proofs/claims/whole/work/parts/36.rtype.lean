/-! Reading a type: a level of the class's recursion, a turn of the reference's loop. -/
def rdI (I : am_I) (n p : Nat) : Prop := I 18 2 = nI n ∧ I 18 3 = nI p ∧ n ≤ 100 ∧ p ≤ 200 ∧ tok (I 19) n
def rdM (M : am_I) (n p : Nat) : Prop := M 36 0 = nI n ∧ M 36 20 = nI p ∧ n ≤ 100 ∧ p ≤ 200 ∧ tok (M 37) n
def adI (I : am_I) (p : Nat) : am_I := va_up I 18 (upd (I 18) 3 (nI p))
def adM (M : am_I) (p : Nat) : am_I := va_up M 36 (upd (M 36) 20 (nI p))
theorem adI_ne (I : am_I) (p x : Nat) (h : ¬ x = 18) : adI I p x = I x := va_up_ne I _ h
theorem adM_ne (M : am_I) (p x : Nat) (h : ¬ x = 36) : adM M p x = M x := va_up_ne M _ h
theorem adI_18 (I : am_I) (p y : Nat) (h : ¬ y = 3) : adI I p 18 y = I 18 y := by simp [adI, va_up, upd, h]
theorem adM_36 (M : am_I) (p y : Nat) (h : ¬ y = 20) : adM M p 36 y = M 36 y := by simp [adM, va_up, upd, h]
theorem adI_p (I : am_I) (p : Nat) : adI I p 18 3 = nI p := by simp [adI, va_up, upd]
theorem adM_p (M : am_I) (p : Nat) : adM M p 36 20 = nI p := by simp [adM, va_up, upd]
theorem rdI_ad {I : am_I} {n p q : Nat} (h : rdI I n p) (hq : q ≤ 200) : rdI (adI I q) n q := by
  obtain ⟨h1, h2, h3, h4, h5⟩ := h
  exact ⟨(adI_18 I q 2 (by omega)).trans h1, adI_p I q, h3, hq, by rw [adI_ne I q 19 (by omega)]; exact h5⟩
theorem rdM_ad {M : am_I} {n p q : Nat} (h : rdM M n p) (hq : q ≤ 200) : rdM (adM M q) n q := by
  obtain ⟨h1, h2, h3, h4, h5⟩ := h
  exact ⟨(adM_36 M q 0 (by omega)).trans h1, adM_p M q, h3, hq, by rw [adM_ne M q 37 (by omega)]; exact h5⟩
theorem s_60 (scr : Nat → Int32) (L F d : Nat) (I : am_I) (J : am_J) (M : am_I) (n p : Nat) (x : Int32) (h : rdI I n p) : am_r scr L (F + 200) (d + 2) 60 [.ref 19, .int x] (hp I J M) = if tx (I 19) n p = x then some (some (.int 1), hp (adI I (p + 1)) J M, 0, 0) else some (some (.int 0), hp I J M, 0, 0) := by
  obtain ⟨h1, h2, h3, h4, h5⟩ := h
  exact m_60 scr L F d I J M p n x h2 h1 h3 (by omega) h5
theorem s_59 (scr : Nat → Int32) (L F d : Nat) (I : am_I) (J : am_J) (M : am_I) (n p : Nat) (h : rdI I n p) : am_r scr L (F + 100) (d + 1) 59 [.ref 19] (hp I J M) = some (some (.int (tx (I 19) n p)), hp I J M, 0, 0) := by
  obtain ⟨h1, h2, h3, h4, h5⟩ := h
  exact m_59 scr L F d I J M p n h2 h1 h3 (by omega) h5
theorem adM_id {M : am_I} {n p : Nat} (h : rdM M n p) : va_up M 36 (upd (M 36) 20 (nI p)) = M := by
  funext k
  by_cases hk : k = 36
  · subst hk
    rw [va_up_self]
    funext y
    by_cases hy : y = 20
    · subst hy
      rw [pk_us]
      exact h.2.1.symm
    · rw [pk_un hy]
  · rw [va_up_ne M _ hk]
theorem s_101 (scr : Nat → Int32) (L F d : Nat) (I : am_I) (J : am_J) (M : am_I) (n p : Nat) (x : Int32) (h : rdM M n p) : am_r scr L (F + 200) (d + 2) 101 [.ref 37, .int x] (hp I J M) = if tx (M 37) n p = x then some (some (.int 1), hp I J (adM M (p + 1)), 0, 0) else some (some (.int 0), hp I J M, 0, 0) := by
  have h6 := adM_id h
  obtain ⟨h1, h2, h3, h4, h5⟩ := h
  rw [m_101 scr L F d I J M p n x h2 h1 h3 (by omega) h5, h6]
  rfl
theorem s_100 (scr : Nat → Int32) (L F d : Nat) (I : am_I) (J : am_J) (M : am_I) (n p : Nat) (h : rdM M n p) : am_r scr L (F + 100) (d + 1) 100 [.ref 37, .int 0] (hp I J M) = some (some (.int (tx (M 37) n p)), hp I J M, 0, 0) := by
  obtain ⟨h1, h2, h3, h4, h5⟩ := h
  have h6 := m_100 scr L F d I J M p n 0 h2 h1 h3 (by omega) (by omega) h5
  rw [nI_0, Nat.add_zero] at h6
  exact h6
theorem s_100b (scr : Nat → Int32) (L F d : Nat) (I : am_I) (J : am_J) (M : am_I) (n p : Nat) (h : rdM M n p) : am_r scr L (F + 100) (d + 1) 100 [.ref 37, .int 1] (hp I J M) = some (some (.int (tx (M 37) n (p + 1))), hp I J M, 0, 0) := by
  obtain ⟨h1, h2, h3, h4, h5⟩ := h
  have h6 := m_100 scr L F d I J M p n 1 h2 h1 h3 (by omega) (by omega) h5
  rw [show nI 1 = 1 by decide +kernel] at h6
  exact h6
/-- locals beyond place i -/
def kb (i : Nat) (tl : am_L) : Prop := ∀ q, q ∈ tl → i ≤ q.1
theorem kb_nil (i : Nat) : kb i [] := fun _ h => absurd h List.not_mem_nil
theorem kb_cons {i j : Nat} {v : Value} {tl : am_L} (h : i ≤ j) (hk : kb i tl) : kb i ((j, v) :: tl) := by
  intro q hq
  rcases List.mem_cons.mp hq with h1 | h1
  · rw [h1]
    exact h
  · exact hk q h1
theorem kb_le {i j : Nat} {tl : am_L} (h : i ≤ j) (hk : kb j tl) : kb i tl := fun q hq => Nat.le_trans h (hk q hq)
theorem kb_f {i j : Nat} {tl : am_L} (hk : kb i tl) (h : j < i) : tl.filter (am_P1 j) = tl := by
  rw [List.filter_eq_self]
  intro q hq
  have h1 := hk q hq
  have h2 : ¬ q.1 = j := by omega
  have h3 : ¬ q.1 + 1 = j := by omega
  simp [am_P1, h2, h3]
theorem kb_st {i : Nat} {tl : am_L} (hk : kb i tl) : ∃ tl', (∀ v, am_st1 tl i v = (i, v) :: tl') ∧ kb (i + 1) tl' := by
  refine ⟨tl.filter (am_P1 i), fun v => ?_, ?_⟩
  · cases tl with
    | nil => rfl
    | cons q t =>
      obtain ⟨k, w⟩ := q
      have h1 : i ≤ k := hk (k, w) List.mem_cons_self
      rw [am_st1_cons, if_neg (by omega)]
  · intro q hq
    obtain ⟨h1, h2⟩ := List.mem_filter.mp hq
    have h3 := hk q h1
    have h4 : ¬ q.1 = i := by
      intro h
      simp [am_P1, h] at h2
    omega
theorem nI_nm {n : Nat} (h : n < 2 ^ 31) : ¬ nI n = -1 := by
  intro z
  have h1 := nI_pos' h
  rw [z] at h1
  exact absurd h1 (by decide)
set_option maxRecDepth 100000 in
set_option maxHeartbeats 4000000 in
theorem c74_deep (scr : Nat → Int32) (L F d : Nat) (I : Nat → Nat → Int32) (J : Nat → Nat → Int64) (M : Nat → Nat → Int32) (D : Nat) (hD : 20 < D) (hD2 : D < 1000) : am_r scr L (F + 13000) (d + 1) 74 [.ref 19, .int (nI D)] (hp I J M) = some (some (.int (-1)), hp I J M, 0, 0) := by
  have hl : ¬ nI D ≤ 20 := by
    rw [show (20 : Int32) = nI 20 by decide +kernel]
    exact nI_ge hD (by omega)
  simp [r_74, s_74_0, s_74_1, s_74_3, s_74_6, s_74_7, s_74_8, s_74_9, s_74_11, s_74_14, s_74_17, s_74_18, s_74_19, s_74_20, s_74_22, s_74_25, s_74_28, s_74_29, s_74_30, s_74_31, s_74_33, s_74_36, s_74_39, s_74_40, s_74_41, s_74_42, s_74_44, s_74_47, s_74_50, s_74_51, s_74_52, s_74_53, s_74_54, s_74_57, s_74_58, s_74_59, s_74_60, s_74_63, s_74_64, s_74_67, s_74_68, s_74_71, s_74_74, s_74_75, s_74_78, s_74_79, s_74_80, s_74_82, s_74_85, s_74_88, s_74_89, s_74_90, s_74_91, s_74_92, s_74_93, s_74_94, s_74_97, s_74_98, s_74_99, s_74_100, s_74_103, s_74_104, s_74_106, s_74_109, s_74_112, s_74_113, s_74_114, s_74_115, s_74_116, s_74_117, s_74_118, s_74_121, s_74_122, s_74_123, s_74_124, s_74_127, s_74_128, s_74_130, s_74_133, s_74_136, s_74_137, s_74_138, s_74_139, s_74_142, s_74_145, s_74_146, s_74_147, s_74_150, ha_0, hg_0_0, hg_0_1, hg_0_2, hg_0_3, hg_0_4, hq_0_4, hg_0_5, hq_0_5, ha_1, hg_1_0, hg_1_1, hg_1_2, hg_1_3, hg_1_4, hg_1_5, hg_1_6, hg_1_7, hg_1_8, hg_1_9, hg_1_10, hg_1_11, hg_1_12, hq_1_12, ha_2, hg_2_0, hg_2_1, hg_2_2, hg_2_3, hg_2_4, hq_2_4, hl_3, hs_3, hl_4, hs_4, hl_5, hs_5, hl_6, hs_6, hl_7, hs_7, hl_8, hs_8, hl_9, hs_9, hl_10, hs_10, hl_11, hs_11, hl_12, hs_12, hl_13, hs_13, hl_14, hs_14, hl_15, hs_15, hl_16, hs_16, hl_17, hs_17, ha_18, hg_18_0, hg_18_1, hg_18_2, hq_18_2, hg_18_3, hq_18_3, hl_19, hs_19, ha_20, hg_20_0, hg_20_1, ha_21, hg_21_0, hg_21_1, hg_21_2, hg_21_3, hg_21_4, hg_21_5, hg_21_6, hq_21_6, hg_21_7, hg_21_8, hg_21_9, hg_21_10, hq_21_10, hg_21_11, hq_21_11, hg_21_12, hq_21_12, hg_21_13, hq_21_13, hg_21_14, hq_21_14, hg_21_15, hq_21_15, hg_21_16, hq_21_16, hg_21_17, hq_21_17, ha_22, hg_22_0, hg_22_1, hg_22_2, hg_22_3, hg_22_4, hg_22_5, hg_22_6, hq_22_6, hg_22_7, hq_22_7, hg_22_8, hq_22_8, hl_23, hs_23, hl_24, hs_24, hl_25, hs_25, hl_26, hs_26, hl_27, hs_27, ha_28, hg_28_0, hg_28_1, hq_28_1, hl_29, hs_29, hl_30, hs_30, hl_31, hs_31, hl_32, hs_32, hl_33, hs_33, hl_34, hs_34, hl_35, hs_35, am_ld_cons, am_ld_nil, am_st1_cons, am_st1_nil, am_st2_cons, am_st2_nil, am_P1, am_P2, Value.category, am_add_add, am_add0, am_add_some, hl]
set_option maxRecDepth 100000 in
set_option maxHeartbeats 4000000 in
theorem c74_q (scr : Nat → Int32) (L F d : Nat) (I : Nat → Nat → Int32) (J : Nat → Nat → Int64) (M : Nat → Nat → Int32) (n p D : Nat) (h : rdI I n p) (hD : D ≤ 20) (hx : tx (I 19) n p = 63) : am_r scr L (F + 13000) (d + 4) 74 [.ref 19, .int (nI D)] (hp I J M) = some (some (.int 0), hp (adI I (p + 1)) J M, 0, 0) := by
  have hl : nI D ≤ 20 := by
    rw [show (20 : Int32) = nI 20 by decide +kernel]
    exact nI_le hD (by decide)
  have e1 : nI D + 1 = nI (D + 1) := nI_1 D
  have s0 := fun x => s_60 scr L (F + 12800) (d + 1) I J M n p x h
  simp [r_74, s_74_0, s_74_1, s_74_3, s_74_6, s_74_7, s_74_8, s_74_9, s_74_11, s_74_14, s_74_17, s_74_18, s_74_19, s_74_20, s_74_22, s_74_25, s_74_28, s_74_29, s_74_30, s_74_31, s_74_33, s_74_36, s_74_39, s_74_40, s_74_41, s_74_42, s_74_44, s_74_47, s_74_50, s_74_51, s_74_52, s_74_53, s_74_54, s_74_57, s_74_58, s_74_59, s_74_60, s_74_63, s_74_64, s_74_67, s_74_68, s_74_71, s_74_74, s_74_75, s_74_78, s_74_79, s_74_80, s_74_82, s_74_85, s_74_88, s_74_89, s_74_90, s_74_91, s_74_92, s_74_93, s_74_94, s_74_97, s_74_98, s_74_99, s_74_100, s_74_103, s_74_104, s_74_106, s_74_109, s_74_112, s_74_113, s_74_114, s_74_115, s_74_116, s_74_117, s_74_118, s_74_121, s_74_122, s_74_123, s_74_124, s_74_127, s_74_128, s_74_130, s_74_133, s_74_136, s_74_137, s_74_138, s_74_139, s_74_142, s_74_145, s_74_146, s_74_147, s_74_150, ha_0, hg_0_0, hg_0_1, hg_0_2, hg_0_3, hg_0_4, hq_0_4, hg_0_5, hq_0_5, ha_1, hg_1_0, hg_1_1, hg_1_2, hg_1_3, hg_1_4, hg_1_5, hg_1_6, hg_1_7, hg_1_8, hg_1_9, hg_1_10, hg_1_11, hg_1_12, hq_1_12, ha_2, hg_2_0, hg_2_1, hg_2_2, hg_2_3, hg_2_4, hq_2_4, hl_3, hs_3, hl_4, hs_4, hl_5, hs_5, hl_6, hs_6, hl_7, hs_7, hl_8, hs_8, hl_9, hs_9, hl_10, hs_10, hl_11, hs_11, hl_12, hs_12, hl_13, hs_13, hl_14, hs_14, hl_15, hs_15, hl_16, hs_16, hl_17, hs_17, ha_18, hg_18_0, hg_18_1, hg_18_2, hq_18_2, hg_18_3, hq_18_3, hl_19, hs_19, ha_20, hg_20_0, hg_20_1, ha_21, hg_21_0, hg_21_1, hg_21_2, hg_21_3, hg_21_4, hg_21_5, hg_21_6, hq_21_6, hg_21_7, hg_21_8, hg_21_9, hg_21_10, hq_21_10, hg_21_11, hq_21_11, hg_21_12, hq_21_12, hg_21_13, hq_21_13, hg_21_14, hq_21_14, hg_21_15, hq_21_15, hg_21_16, hq_21_16, hg_21_17, hq_21_17, ha_22, hg_22_0, hg_22_1, hg_22_2, hg_22_3, hg_22_4, hg_22_5, hg_22_6, hq_22_6, hg_22_7, hq_22_7, hg_22_8, hq_22_8, hl_23, hs_23, hl_24, hs_24, hl_25, hs_25, hl_26, hs_26, hl_27, hs_27, ha_28, hg_28_0, hg_28_1, hq_28_1, hl_29, hs_29, hl_30, hs_30, hl_31, hs_31, hl_32, hs_32, hl_33, hs_33, hl_34, hs_34, hl_35, hs_35, am_ld_cons, am_ld_nil, am_st1_cons, am_st1_nil, am_st2_cons, am_st2_nil, am_P1, am_P2, Value.category, am_add_add, am_add0, am_add_some, hl, s0, hx]
set_option maxRecDepth 100000 in
set_option maxHeartbeats 4000000 in
theorem c74_i (scr : Nat → Int32) (L F d : Nat) (I : Nat → Nat → Int32) (J : Nat → Nat → Int64) (M : Nat → Nat → Int32) (n p D : Nat) (h : rdI I n p) (hD : D ≤ 20) (hx : tx (I 19) n p = 105) : am_r scr L (F + 13000) (d + 4) 74 [.ref 19, .int (nI D)] (hp I J M) = some (some (.int 1), hp (adI I (p + 1)) J M, 0, 0) := by
  have hl : nI D ≤ 20 := by
    rw [show (20 : Int32) = nI 20 by decide +kernel]
    exact nI_le hD (by decide)
  have e1 : nI D + 1 = nI (D + 1) := nI_1 D
  have s0 := fun x => s_60 scr L (F + 12800) (d + 1) I J M n p x h
  simp [r_74, s_74_0, s_74_1, s_74_3, s_74_6, s_74_7, s_74_8, s_74_9, s_74_11, s_74_14, s_74_17, s_74_18, s_74_19, s_74_20, s_74_22, s_74_25, s_74_28, s_74_29, s_74_30, s_74_31, s_74_33, s_74_36, s_74_39, s_74_40, s_74_41, s_74_42, s_74_44, s_74_47, s_74_50, s_74_51, s_74_52, s_74_53, s_74_54, s_74_57, s_74_58, s_74_59, s_74_60, s_74_63, s_74_64, s_74_67, s_74_68, s_74_71, s_74_74, s_74_75, s_74_78, s_74_79, s_74_80, s_74_82, s_74_85, s_74_88, s_74_89, s_74_90, s_74_91, s_74_92, s_74_93, s_74_94, s_74_97, s_74_98, s_74_99, s_74_100, s_74_103, s_74_104, s_74_106, s_74_109, s_74_112, s_74_113, s_74_114, s_74_115, s_74_116, s_74_117, s_74_118, s_74_121, s_74_122, s_74_123, s_74_124, s_74_127, s_74_128, s_74_130, s_74_133, s_74_136, s_74_137, s_74_138, s_74_139, s_74_142, s_74_145, s_74_146, s_74_147, s_74_150, ha_0, hg_0_0, hg_0_1, hg_0_2, hg_0_3, hg_0_4, hq_0_4, hg_0_5, hq_0_5, ha_1, hg_1_0, hg_1_1, hg_1_2, hg_1_3, hg_1_4, hg_1_5, hg_1_6, hg_1_7, hg_1_8, hg_1_9, hg_1_10, hg_1_11, hg_1_12, hq_1_12, ha_2, hg_2_0, hg_2_1, hg_2_2, hg_2_3, hg_2_4, hq_2_4, hl_3, hs_3, hl_4, hs_4, hl_5, hs_5, hl_6, hs_6, hl_7, hs_7, hl_8, hs_8, hl_9, hs_9, hl_10, hs_10, hl_11, hs_11, hl_12, hs_12, hl_13, hs_13, hl_14, hs_14, hl_15, hs_15, hl_16, hs_16, hl_17, hs_17, ha_18, hg_18_0, hg_18_1, hg_18_2, hq_18_2, hg_18_3, hq_18_3, hl_19, hs_19, ha_20, hg_20_0, hg_20_1, ha_21, hg_21_0, hg_21_1, hg_21_2, hg_21_3, hg_21_4, hg_21_5, hg_21_6, hq_21_6, hg_21_7, hg_21_8, hg_21_9, hg_21_10, hq_21_10, hg_21_11, hq_21_11, hg_21_12, hq_21_12, hg_21_13, hq_21_13, hg_21_14, hq_21_14, hg_21_15, hq_21_15, hg_21_16, hq_21_16, hg_21_17, hq_21_17, ha_22, hg_22_0, hg_22_1, hg_22_2, hg_22_3, hg_22_4, hg_22_5, hg_22_6, hq_22_6, hg_22_7, hq_22_7, hg_22_8, hq_22_8, hl_23, hs_23, hl_24, hs_24, hl_25, hs_25, hl_26, hs_26, hl_27, hs_27, ha_28, hg_28_0, hg_28_1, hq_28_1, hl_29, hs_29, hl_30, hs_30, hl_31, hs_31, hl_32, hs_32, hl_33, hs_33, hl_34, hs_34, hl_35, hs_35, am_ld_cons, am_ld_nil, am_st1_cons, am_st1_nil, am_st2_cons, am_st2_nil, am_P1, am_P2, Value.category, am_add_add, am_add0, am_add_some, hl, s0, hx]
set_option maxRecDepth 100000 in
set_option maxHeartbeats 4000000 in
theorem c74_b (scr : Nat → Int32) (L F d : Nat) (I : Nat → Nat → Int32) (J : Nat → Nat → Int64) (M : Nat → Nat → Int32) (n p D : Nat) (h : rdI I n p) (hD : D ≤ 20) (hx : tx (I 19) n p = 98) : am_r scr L (F + 13000) (d + 4) 74 [.ref 19, .int (nI D)] (hp I J M) = some (some (.int 2), hp (adI I (p + 1)) J M, 0, 0) := by
  have hl : nI D ≤ 20 := by
    rw [show (20 : Int32) = nI 20 by decide +kernel]
    exact nI_le hD (by decide)
  have e1 : nI D + 1 = nI (D + 1) := nI_1 D
  have s0 := fun x => s_60 scr L (F + 12800) (d + 1) I J M n p x h
  simp [r_74, s_74_0, s_74_1, s_74_3, s_74_6, s_74_7, s_74_8, s_74_9, s_74_11, s_74_14, s_74_17, s_74_18, s_74_19, s_74_20, s_74_22, s_74_25, s_74_28, s_74_29, s_74_30, s_74_31, s_74_33, s_74_36, s_74_39, s_74_40, s_74_41, s_74_42, s_74_44, s_74_47, s_74_50, s_74_51, s_74_52, s_74_53, s_74_54, s_74_57, s_74_58, s_74_59, s_74_60, s_74_63, s_74_64, s_74_67, s_74_68, s_74_71, s_74_74, s_74_75, s_74_78, s_74_79, s_74_80, s_74_82, s_74_85, s_74_88, s_74_89, s_74_90, s_74_91, s_74_92, s_74_93, s_74_94, s_74_97, s_74_98, s_74_99, s_74_100, s_74_103, s_74_104, s_74_106, s_74_109, s_74_112, s_74_113, s_74_114, s_74_115, s_74_116, s_74_117, s_74_118, s_74_121, s_74_122, s_74_123, s_74_124, s_74_127, s_74_128, s_74_130, s_74_133, s_74_136, s_74_137, s_74_138, s_74_139, s_74_142, s_74_145, s_74_146, s_74_147, s_74_150, ha_0, hg_0_0, hg_0_1, hg_0_2, hg_0_3, hg_0_4, hq_0_4, hg_0_5, hq_0_5, ha_1, hg_1_0, hg_1_1, hg_1_2, hg_1_3, hg_1_4, hg_1_5, hg_1_6, hg_1_7, hg_1_8, hg_1_9, hg_1_10, hg_1_11, hg_1_12, hq_1_12, ha_2, hg_2_0, hg_2_1, hg_2_2, hg_2_3, hg_2_4, hq_2_4, hl_3, hs_3, hl_4, hs_4, hl_5, hs_5, hl_6, hs_6, hl_7, hs_7, hl_8, hs_8, hl_9, hs_9, hl_10, hs_10, hl_11, hs_11, hl_12, hs_12, hl_13, hs_13, hl_14, hs_14, hl_15, hs_15, hl_16, hs_16, hl_17, hs_17, ha_18, hg_18_0, hg_18_1, hg_18_2, hq_18_2, hg_18_3, hq_18_3, hl_19, hs_19, ha_20, hg_20_0, hg_20_1, ha_21, hg_21_0, hg_21_1, hg_21_2, hg_21_3, hg_21_4, hg_21_5, hg_21_6, hq_21_6, hg_21_7, hg_21_8, hg_21_9, hg_21_10, hq_21_10, hg_21_11, hq_21_11, hg_21_12, hq_21_12, hg_21_13, hq_21_13, hg_21_14, hq_21_14, hg_21_15, hq_21_15, hg_21_16, hq_21_16, hg_21_17, hq_21_17, ha_22, hg_22_0, hg_22_1, hg_22_2, hg_22_3, hg_22_4, hg_22_5, hg_22_6, hq_22_6, hg_22_7, hq_22_7, hg_22_8, hq_22_8, hl_23, hs_23, hl_24, hs_24, hl_25, hs_25, hl_26, hs_26, hl_27, hs_27, ha_28, hg_28_0, hg_28_1, hq_28_1, hl_29, hs_29, hl_30, hs_30, hl_31, hs_31, hl_32, hs_32, hl_33, hs_33, hl_34, hs_34, hl_35, hs_35, am_ld_cons, am_ld_nil, am_st1_cons, am_st1_nil, am_st2_cons, am_st2_nil, am_P1, am_P2, Value.category, am_add_add, am_add0, am_add_some, hl, s0, hx]
set_option maxRecDepth 100000 in
set_option maxHeartbeats 4000000 in
theorem c74_bad (scr : Nat → Int32) (L F d : Nat) (I : Nat → Nat → Int32) (J : Nat → Nat → Int64) (M : Nat → Nat → Int32) (n p D : Nat) (h : rdI I n p) (hD : D ≤ 20) (x1 : ¬ tx (I 19) n p = 63) (x2 : ¬ tx (I 19) n p = 105) (x3 : ¬ tx (I 19) n p = 98) (x4 : ¬ tx (I 19) n p = 38) (x5 : ¬ tx (I 19) n p = 40) : am_r scr L (F + 13000) (d + 4) 74 [.ref 19, .int (nI D)] (hp I J M) = some (some (.int (-1)), hp I J M, 0, 0) := by
  have hl : nI D ≤ 20 := by
    rw [show (20 : Int32) = nI 20 by decide +kernel]
    exact nI_le hD (by decide)
  have e1 : nI D + 1 = nI (D + 1) := nI_1 D
  have s0 := fun x => s_60 scr L (F + 12800) (d + 1) I J M n p x h
  simp [r_74, s_74_0, s_74_1, s_74_3, s_74_6, s_74_7, s_74_8, s_74_9, s_74_11, s_74_14, s_74_17, s_74_18, s_74_19, s_74_20, s_74_22, s_74_25, s_74_28, s_74_29, s_74_30, s_74_31, s_74_33, s_74_36, s_74_39, s_74_40, s_74_41, s_74_42, s_74_44, s_74_47, s_74_50, s_74_51, s_74_52, s_74_53, s_74_54, s_74_57, s_74_58, s_74_59, s_74_60, s_74_63, s_74_64, s_74_67, s_74_68, s_74_71, s_74_74, s_74_75, s_74_78, s_74_79, s_74_80, s_74_82, s_74_85, s_74_88, s_74_89, s_74_90, s_74_91, s_74_92, s_74_93, s_74_94, s_74_97, s_74_98, s_74_99, s_74_100, s_74_103, s_74_104, s_74_106, s_74_109, s_74_112, s_74_113, s_74_114, s_74_115, s_74_116, s_74_117, s_74_118, s_74_121, s_74_122, s_74_123, s_74_124, s_74_127, s_74_128, s_74_130, s_74_133, s_74_136, s_74_137, s_74_138, s_74_139, s_74_142, s_74_145, s_74_146, s_74_147, s_74_150, ha_0, hg_0_0, hg_0_1, hg_0_2, hg_0_3, hg_0_4, hq_0_4, hg_0_5, hq_0_5, ha_1, hg_1_0, hg_1_1, hg_1_2, hg_1_3, hg_1_4, hg_1_5, hg_1_6, hg_1_7, hg_1_8, hg_1_9, hg_1_10, hg_1_11, hg_1_12, hq_1_12, ha_2, hg_2_0, hg_2_1, hg_2_2, hg_2_3, hg_2_4, hq_2_4, hl_3, hs_3, hl_4, hs_4, hl_5, hs_5, hl_6, hs_6, hl_7, hs_7, hl_8, hs_8, hl_9, hs_9, hl_10, hs_10, hl_11, hs_11, hl_12, hs_12, hl_13, hs_13, hl_14, hs_14, hl_15, hs_15, hl_16, hs_16, hl_17, hs_17, ha_18, hg_18_0, hg_18_1, hg_18_2, hq_18_2, hg_18_3, hq_18_3, hl_19, hs_19, ha_20, hg_20_0, hg_20_1, ha_21, hg_21_0, hg_21_1, hg_21_2, hg_21_3, hg_21_4, hg_21_5, hg_21_6, hq_21_6, hg_21_7, hg_21_8, hg_21_9, hg_21_10, hq_21_10, hg_21_11, hq_21_11, hg_21_12, hq_21_12, hg_21_13, hq_21_13, hg_21_14, hq_21_14, hg_21_15, hq_21_15, hg_21_16, hq_21_16, hg_21_17, hq_21_17, ha_22, hg_22_0, hg_22_1, hg_22_2, hg_22_3, hg_22_4, hg_22_5, hg_22_6, hq_22_6, hg_22_7, hq_22_7, hg_22_8, hq_22_8, hl_23, hs_23, hl_24, hs_24, hl_25, hs_25, hl_26, hs_26, hl_27, hs_27, ha_28, hg_28_0, hg_28_1, hq_28_1, hl_29, hs_29, hl_30, hs_30, hl_31, hs_31, hl_32, hs_32, hl_33, hs_33, hl_34, hs_34, hl_35, hs_35, am_ld_cons, am_ld_nil, am_st1_cons, am_st1_nil, am_st2_cons, am_st2_nil, am_P1, am_P2, Value.category, am_add_add, am_add0, am_add_some, hl, s0, x1, x2, x3, x4, x5]
set_option maxRecDepth 100000 in
set_option maxHeartbeats 4000000 in
theorem c74_ref_f (scr : Nat → Int32) (L F d : Nat) (I : Nat → Nat → Int32) (J : Nat → Nat → Int64) (M : Nat → Nat → Int32) (n p D : Nat) (h : rdI I n p) (hD : D ≤ 20) (hx : tx (I 19) n p = 38) (I1 : am_I) (k1 : am_r scr L (F + 13000) (d + 3) 74 [.ref 19, .int (nI (D + 1))] (hp (adI I (p + 1)) J M) = some (some (.int (-1)), hp I1 J M, 0, 0)) : am_r scr L (F + 13000) (d + 4) 74 [.ref 19, .int (nI D)] (hp I J M) = some (some (.int (-1)), hp I1 J M, 0, 0) := by
  have hl : nI D ≤ 20 := by
    rw [show (20 : Int32) = nI 20 by decide +kernel]
    exact nI_le hD (by decide)
  have e1 : nI D + 1 = nI (D + 1) := nI_1 D
  have s0 := fun x => s_60 scr L (F + 12800) (d + 1) I J M n p x h
  simp [r_74, s_74_0, s_74_1, s_74_3, s_74_6, s_74_7, s_74_8, s_74_9, s_74_11, s_74_14, s_74_17, s_74_18, s_74_19, s_74_20, s_74_22, s_74_25, s_74_28, s_74_29, s_74_30, s_74_31, s_74_33, s_74_36, s_74_39, s_74_40, s_74_41, s_74_42, s_74_44, s_74_47, s_74_50, s_74_51, s_74_52, s_74_53, s_74_54, s_74_57, s_74_58, s_74_59, s_74_60, s_74_63, s_74_64, s_74_67, s_74_68, s_74_71, s_74_74, s_74_75, s_74_78, s_74_79, s_74_80, s_74_82, s_74_85, s_74_88, s_74_89, s_74_90, s_74_91, s_74_92, s_74_93, s_74_94, s_74_97, s_74_98, s_74_99, s_74_100, s_74_103, s_74_104, s_74_106, s_74_109, s_74_112, s_74_113, s_74_114, s_74_115, s_74_116, s_74_117, s_74_118, s_74_121, s_74_122, s_74_123, s_74_124, s_74_127, s_74_128, s_74_130, s_74_133, s_74_136, s_74_137, s_74_138, s_74_139, s_74_142, s_74_145, s_74_146, s_74_147, s_74_150, ha_0, hg_0_0, hg_0_1, hg_0_2, hg_0_3, hg_0_4, hq_0_4, hg_0_5, hq_0_5, ha_1, hg_1_0, hg_1_1, hg_1_2, hg_1_3, hg_1_4, hg_1_5, hg_1_6, hg_1_7, hg_1_8, hg_1_9, hg_1_10, hg_1_11, hg_1_12, hq_1_12, ha_2, hg_2_0, hg_2_1, hg_2_2, hg_2_3, hg_2_4, hq_2_4, hl_3, hs_3, hl_4, hs_4, hl_5, hs_5, hl_6, hs_6, hl_7, hs_7, hl_8, hs_8, hl_9, hs_9, hl_10, hs_10, hl_11, hs_11, hl_12, hs_12, hl_13, hs_13, hl_14, hs_14, hl_15, hs_15, hl_16, hs_16, hl_17, hs_17, ha_18, hg_18_0, hg_18_1, hg_18_2, hq_18_2, hg_18_3, hq_18_3, hl_19, hs_19, ha_20, hg_20_0, hg_20_1, ha_21, hg_21_0, hg_21_1, hg_21_2, hg_21_3, hg_21_4, hg_21_5, hg_21_6, hq_21_6, hg_21_7, hg_21_8, hg_21_9, hg_21_10, hq_21_10, hg_21_11, hq_21_11, hg_21_12, hq_21_12, hg_21_13, hq_21_13, hg_21_14, hq_21_14, hg_21_15, hq_21_15, hg_21_16, hq_21_16, hg_21_17, hq_21_17, ha_22, hg_22_0, hg_22_1, hg_22_2, hg_22_3, hg_22_4, hg_22_5, hg_22_6, hq_22_6, hg_22_7, hq_22_7, hg_22_8, hq_22_8, hl_23, hs_23, hl_24, hs_24, hl_25, hs_25, hl_26, hs_26, hl_27, hs_27, ha_28, hg_28_0, hg_28_1, hq_28_1, hl_29, hs_29, hl_30, hs_30, hl_31, hs_31, hl_32, hs_32, hl_33, hs_33, hl_34, hs_34, hl_35, hs_35, am_ld_cons, am_ld_nil, am_st1_cons, am_st1_nil, am_st2_cons, am_st2_nil, am_P1, am_P2, Value.category, am_add_add, am_add0, am_add_some, hl, e1, s0, hx, k1]
set_option maxRecDepth 100000 in
set_option maxHeartbeats 4000000 in
theorem c74_ref_g (scr : Nat → Int32) (L F d : Nat) (I : Nat → Nat → Int32) (J : Nat → Nat → Int64) (M : Nat → Nat → Int32) (n p D : Nat) (h : rdI I n p) (hD : D ≤ 20) (hx : tx (I 19) n p = 38) (I1 : am_I) (t c : Nat) (k1 : am_r scr L (F + 13000) (d + 3) 74 [.ref 19, .int (nI (D + 1))] (hp (adI I (p + 1)) J M) = some (some (.int (nI t)), hp I1 J M, 0, 0)) (ht : t < 105) (hc : I1 2 4 = nI c) (hc2 : c ≤ 105) (hc3 : 3 ≤ c) (v : Int32) (I2 : am_I) (kk : ky I1 c 4 (nI t) (nI t) (I1 6 t + 1) = (v, I2)) : am_r scr L (F + 13000) (d + 4) 74 [.ref 19, .int (nI D)] (hp I J M) = some (some (.int v), hp I2 J M, 0, 0) := by
  have hl : nI D ≤ 20 := by
    rw [show (20 : Int32) = nI 20 by decide +kernel]
    exact nI_le hD (by decide)
  have e1 : nI D + 1 = nI (D + 1) := nI_1 D
  have s0 := fun x => s_60 scr L (F + 12800) (d + 1) I J M n p x h
  have t1 : ¬ nI t = -1 := nI_nm (by omega)
  have s1 := m_78 scr L (F + 900) (d + 1) I1 J M t c ht hc hc2 hc3
  rw [kk] at s1
  simp [r_74, s_74_0, s_74_1, s_74_3, s_74_6, s_74_7, s_74_8, s_74_9, s_74_11, s_74_14, s_74_17, s_74_18, s_74_19, s_74_20, s_74_22, s_74_25, s_74_28, s_74_29, s_74_30, s_74_31, s_74_33, s_74_36, s_74_39, s_74_40, s_74_41, s_74_42, s_74_44, s_74_47, s_74_50, s_74_51, s_74_52, s_74_53, s_74_54, s_74_57, s_74_58, s_74_59, s_74_60, s_74_63, s_74_64, s_74_67, s_74_68, s_74_71, s_74_74, s_74_75, s_74_78, s_74_79, s_74_80, s_74_82, s_74_85, s_74_88, s_74_89, s_74_90, s_74_91, s_74_92, s_74_93, s_74_94, s_74_97, s_74_98, s_74_99, s_74_100, s_74_103, s_74_104, s_74_106, s_74_109, s_74_112, s_74_113, s_74_114, s_74_115, s_74_116, s_74_117, s_74_118, s_74_121, s_74_122, s_74_123, s_74_124, s_74_127, s_74_128, s_74_130, s_74_133, s_74_136, s_74_137, s_74_138, s_74_139, s_74_142, s_74_145, s_74_146, s_74_147, s_74_150, ha_0, hg_0_0, hg_0_1, hg_0_2, hg_0_3, hg_0_4, hq_0_4, hg_0_5, hq_0_5, ha_1, hg_1_0, hg_1_1, hg_1_2, hg_1_3, hg_1_4, hg_1_5, hg_1_6, hg_1_7, hg_1_8, hg_1_9, hg_1_10, hg_1_11, hg_1_12, hq_1_12, ha_2, hg_2_0, hg_2_1, hg_2_2, hg_2_3, hg_2_4, hq_2_4, hl_3, hs_3, hl_4, hs_4, hl_5, hs_5, hl_6, hs_6, hl_7, hs_7, hl_8, hs_8, hl_9, hs_9, hl_10, hs_10, hl_11, hs_11, hl_12, hs_12, hl_13, hs_13, hl_14, hs_14, hl_15, hs_15, hl_16, hs_16, hl_17, hs_17, ha_18, hg_18_0, hg_18_1, hg_18_2, hq_18_2, hg_18_3, hq_18_3, hl_19, hs_19, ha_20, hg_20_0, hg_20_1, ha_21, hg_21_0, hg_21_1, hg_21_2, hg_21_3, hg_21_4, hg_21_5, hg_21_6, hq_21_6, hg_21_7, hg_21_8, hg_21_9, hg_21_10, hq_21_10, hg_21_11, hq_21_11, hg_21_12, hq_21_12, hg_21_13, hq_21_13, hg_21_14, hq_21_14, hg_21_15, hq_21_15, hg_21_16, hq_21_16, hg_21_17, hq_21_17, ha_22, hg_22_0, hg_22_1, hg_22_2, hg_22_3, hg_22_4, hg_22_5, hg_22_6, hq_22_6, hg_22_7, hq_22_7, hg_22_8, hq_22_8, hl_23, hs_23, hl_24, hs_24, hl_25, hs_25, hl_26, hs_26, hl_27, hs_27, ha_28, hg_28_0, hg_28_1, hq_28_1, hl_29, hs_29, hl_30, hs_30, hl_31, hs_31, hl_32, hs_32, hl_33, hs_33, hl_34, hs_34, hl_35, hs_35, am_ld_cons, am_ld_nil, am_st1_cons, am_st1_nil, am_st2_cons, am_st2_nil, am_P1, am_P2, Value.category, am_add_add, am_add0, am_add_some, hl, e1, s0, hx, k1, t1, s1]
set_option maxRecDepth 100000 in
set_option maxHeartbeats 4000000 in
theorem c74_fun_f1 (scr : Nat → Int32) (L F d : Nat) (I : Nat → Nat → Int32) (J : Nat → Nat → Int64) (M : Nat → Nat → Int32) (n p D : Nat) (h : rdI I n p) (hD : D ≤ 20) (hx : tx (I 19) n p = 40) (I1 : am_I) (k1 : am_r scr L (F + 13000) (d + 3) 74 [.ref 19, .int (nI (D + 1))] (hp (adI I (p + 1)) J M) = some (some (.int (-1)), hp I1 J M, 0, 0)) : am_r scr L (F + 13000) (d + 4) 74 [.ref 19, .int (nI D)] (hp I J M) = some (some (.int (-1)), hp I1 J M, 0, 0) := by
  have hl : nI D ≤ 20 := by
    rw [show (20 : Int32) = nI 20 by decide +kernel]
    exact nI_le hD (by decide)
  have e1 : nI D + 1 = nI (D + 1) := nI_1 D
  have s0 := fun x => s_60 scr L (F + 12800) (d + 1) I J M n p x h
  simp [r_74, s_74_0, s_74_1, s_74_3, s_74_6, s_74_7, s_74_8, s_74_9, s_74_11, s_74_14, s_74_17, s_74_18, s_74_19, s_74_20, s_74_22, s_74_25, s_74_28, s_74_29, s_74_30, s_74_31, s_74_33, s_74_36, s_74_39, s_74_40, s_74_41, s_74_42, s_74_44, s_74_47, s_74_50, s_74_51, s_74_52, s_74_53, s_74_54, s_74_57, s_74_58, s_74_59, s_74_60, s_74_63, s_74_64, s_74_67, s_74_68, s_74_71, s_74_74, s_74_75, s_74_78, s_74_79, s_74_80, s_74_82, s_74_85, s_74_88, s_74_89, s_74_90, s_74_91, s_74_92, s_74_93, s_74_94, s_74_97, s_74_98, s_74_99, s_74_100, s_74_103, s_74_104, s_74_106, s_74_109, s_74_112, s_74_113, s_74_114, s_74_115, s_74_116, s_74_117, s_74_118, s_74_121, s_74_122, s_74_123, s_74_124, s_74_127, s_74_128, s_74_130, s_74_133, s_74_136, s_74_137, s_74_138, s_74_139, s_74_142, s_74_145, s_74_146, s_74_147, s_74_150, ha_0, hg_0_0, hg_0_1, hg_0_2, hg_0_3, hg_0_4, hq_0_4, hg_0_5, hq_0_5, ha_1, hg_1_0, hg_1_1, hg_1_2, hg_1_3, hg_1_4, hg_1_5, hg_1_6, hg_1_7, hg_1_8, hg_1_9, hg_1_10, hg_1_11, hg_1_12, hq_1_12, ha_2, hg_2_0, hg_2_1, hg_2_2, hg_2_3, hg_2_4, hq_2_4, hl_3, hs_3, hl_4, hs_4, hl_5, hs_5, hl_6, hs_6, hl_7, hs_7, hl_8, hs_8, hl_9, hs_9, hl_10, hs_10, hl_11, hs_11, hl_12, hs_12, hl_13, hs_13, hl_14, hs_14, hl_15, hs_15, hl_16, hs_16, hl_17, hs_17, ha_18, hg_18_0, hg_18_1, hg_18_2, hq_18_2, hg_18_3, hq_18_3, hl_19, hs_19, ha_20, hg_20_0, hg_20_1, ha_21, hg_21_0, hg_21_1, hg_21_2, hg_21_3, hg_21_4, hg_21_5, hg_21_6, hq_21_6, hg_21_7, hg_21_8, hg_21_9, hg_21_10, hq_21_10, hg_21_11, hq_21_11, hg_21_12, hq_21_12, hg_21_13, hq_21_13, hg_21_14, hq_21_14, hg_21_15, hq_21_15, hg_21_16, hq_21_16, hg_21_17, hq_21_17, ha_22, hg_22_0, hg_22_1, hg_22_2, hg_22_3, hg_22_4, hg_22_5, hg_22_6, hq_22_6, hg_22_7, hq_22_7, hg_22_8, hq_22_8, hl_23, hs_23, hl_24, hs_24, hl_25, hs_25, hl_26, hs_26, hl_27, hs_27, ha_28, hg_28_0, hg_28_1, hq_28_1, hl_29, hs_29, hl_30, hs_30, hl_31, hs_31, hl_32, hs_32, hl_33, hs_33, hl_34, hs_34, hl_35, hs_35, am_ld_cons, am_ld_nil, am_st1_cons, am_st1_nil, am_st2_cons, am_st2_nil, am_P1, am_P2, Value.category, am_add_add, am_add0, am_add_some, hl, e1, s0, hx, k1]
set_option maxRecDepth 100000 in
set_option maxHeartbeats 4000000 in
theorem c74_fun_f2 (scr : Nat → Int32) (L F d : Nat) (I : Nat → Nat → Int32) (J : Nat → Nat → Int64) (M : Nat → Nat → Int32) (n p D : Nat) (h : rdI I n p) (hD : D ≤ 20) (hx : tx (I 19) n p = 40) (I1 : am_I) (t1 p1 : Nat) (k1 : am_r scr L (F + 13000) (d + 3) 74 [.ref 19, .int (nI (D + 1))] (hp (adI I (p + 1)) J M) = some (some (.int (nI t1)), hp I1 J M, 0, 0)) (ht1 : t1 < 105) (h1 : rdI I1 n p1) (hy : ¬ tx (I1 19) n p1 = 62) : am_r scr L (F + 13000) (d + 4) 74 [.ref 19, .int (nI D)] (hp I J M) = some (some (.int (-1)), hp I1 J M, 0, 0) := by
  have hl : nI D ≤ 20 := by
    rw [show (20 : Int32) = nI 20 by decide +kernel]
    exact nI_le hD (by decide)
  have e1 : nI D + 1 = nI (D + 1) := nI_1 D
  have s0 := fun x => s_60 scr L (F + 12800) (d + 1) I J M n p x h
  have q1 : ¬ nI t1 = -1 := nI_nm (by omega)
  have s1 := fun x => s_60 scr L (F + 12800) (d + 1) I1 J M n p1 x h1
  simp [r_74, s_74_0, s_74_1, s_74_3, s_74_6, s_74_7, s_74_8, s_74_9, s_74_11, s_74_14, s_74_17, s_74_18, s_74_19, s_74_20, s_74_22, s_74_25, s_74_28, s_74_29, s_74_30, s_74_31, s_74_33, s_74_36, s_74_39, s_74_40, s_74_41, s_74_42, s_74_44, s_74_47, s_74_50, s_74_51, s_74_52, s_74_53, s_74_54, s_74_57, s_74_58, s_74_59, s_74_60, s_74_63, s_74_64, s_74_67, s_74_68, s_74_71, s_74_74, s_74_75, s_74_78, s_74_79, s_74_80, s_74_82, s_74_85, s_74_88, s_74_89, s_74_90, s_74_91, s_74_92, s_74_93, s_74_94, s_74_97, s_74_98, s_74_99, s_74_100, s_74_103, s_74_104, s_74_106, s_74_109, s_74_112, s_74_113, s_74_114, s_74_115, s_74_116, s_74_117, s_74_118, s_74_121, s_74_122, s_74_123, s_74_124, s_74_127, s_74_128, s_74_130, s_74_133, s_74_136, s_74_137, s_74_138, s_74_139, s_74_142, s_74_145, s_74_146, s_74_147, s_74_150, ha_0, hg_0_0, hg_0_1, hg_0_2, hg_0_3, hg_0_4, hq_0_4, hg_0_5, hq_0_5, ha_1, hg_1_0, hg_1_1, hg_1_2, hg_1_3, hg_1_4, hg_1_5, hg_1_6, hg_1_7, hg_1_8, hg_1_9, hg_1_10, hg_1_11, hg_1_12, hq_1_12, ha_2, hg_2_0, hg_2_1, hg_2_2, hg_2_3, hg_2_4, hq_2_4, hl_3, hs_3, hl_4, hs_4, hl_5, hs_5, hl_6, hs_6, hl_7, hs_7, hl_8, hs_8, hl_9, hs_9, hl_10, hs_10, hl_11, hs_11, hl_12, hs_12, hl_13, hs_13, hl_14, hs_14, hl_15, hs_15, hl_16, hs_16, hl_17, hs_17, ha_18, hg_18_0, hg_18_1, hg_18_2, hq_18_2, hg_18_3, hq_18_3, hl_19, hs_19, ha_20, hg_20_0, hg_20_1, ha_21, hg_21_0, hg_21_1, hg_21_2, hg_21_3, hg_21_4, hg_21_5, hg_21_6, hq_21_6, hg_21_7, hg_21_8, hg_21_9, hg_21_10, hq_21_10, hg_21_11, hq_21_11, hg_21_12, hq_21_12, hg_21_13, hq_21_13, hg_21_14, hq_21_14, hg_21_15, hq_21_15, hg_21_16, hq_21_16, hg_21_17, hq_21_17, ha_22, hg_22_0, hg_22_1, hg_22_2, hg_22_3, hg_22_4, hg_22_5, hg_22_6, hq_22_6, hg_22_7, hq_22_7, hg_22_8, hq_22_8, hl_23, hs_23, hl_24, hs_24, hl_25, hs_25, hl_26, hs_26, hl_27, hs_27, ha_28, hg_28_0, hg_28_1, hq_28_1, hl_29, hs_29, hl_30, hs_30, hl_31, hs_31, hl_32, hs_32, hl_33, hs_33, hl_34, hs_34, hl_35, hs_35, am_ld_cons, am_ld_nil, am_st1_cons, am_st1_nil, am_st2_cons, am_st2_nil, am_P1, am_P2, Value.category, am_add_add, am_add0, am_add_some, hl, e1, s0, s1, hx, hy, k1, q1]
set_option maxRecDepth 100000 in
set_option maxHeartbeats 4000000 in
theorem c74_fun_f3 (scr : Nat → Int32) (L F d : Nat) (I : Nat → Nat → Int32) (J : Nat → Nat → Int64) (M : Nat → Nat → Int32) (n p D : Nat) (h : rdI I n p) (hD : D ≤ 20) (hx : tx (I 19) n p = 40) (I1 : am_I) (t1 p1 : Nat) (k1 : am_r scr L (F + 13000) (d + 3) 74 [.ref 19, .int (nI (D + 1))] (hp (adI I (p + 1)) J M) = some (some (.int (nI t1)), hp I1 J M, 0, 0)) (ht1 : t1 < 105) (h1 : rdI I1 n p1) (hy : tx (I1 19) n p1 = 62) (I2 : am_I) (k2 : am_r scr L (F + 13000) (d + 3) 74 [.ref 19, .int (nI (D + 1))] (hp (adI I1 (p1 + 1)) J M) = some (some (.int (-1)), hp I2 J M, 0, 0)) : am_r scr L (F + 13000) (d + 4) 74 [.ref 19, .int (nI D)] (hp I J M) = some (some (.int (-1)), hp I2 J M, 0, 0) := by
  have hl : nI D ≤ 20 := by
    rw [show (20 : Int32) = nI 20 by decide +kernel]
    exact nI_le hD (by decide)
  have e1 : nI D + 1 = nI (D + 1) := nI_1 D
  have s0 := fun x => s_60 scr L (F + 12800) (d + 1) I J M n p x h
  have q1 : ¬ nI t1 = -1 := nI_nm (by omega)
  have s1 := fun x => s_60 scr L (F + 12800) (d + 1) I1 J M n p1 x h1
  simp [r_74, s_74_0, s_74_1, s_74_3, s_74_6, s_74_7, s_74_8, s_74_9, s_74_11, s_74_14, s_74_17, s_74_18, s_74_19, s_74_20, s_74_22, s_74_25, s_74_28, s_74_29, s_74_30, s_74_31, s_74_33, s_74_36, s_74_39, s_74_40, s_74_41, s_74_42, s_74_44, s_74_47, s_74_50, s_74_51, s_74_52, s_74_53, s_74_54, s_74_57, s_74_58, s_74_59, s_74_60, s_74_63, s_74_64, s_74_67, s_74_68, s_74_71, s_74_74, s_74_75, s_74_78, s_74_79, s_74_80, s_74_82, s_74_85, s_74_88, s_74_89, s_74_90, s_74_91, s_74_92, s_74_93, s_74_94, s_74_97, s_74_98, s_74_99, s_74_100, s_74_103, s_74_104, s_74_106, s_74_109, s_74_112, s_74_113, s_74_114, s_74_115, s_74_116, s_74_117, s_74_118, s_74_121, s_74_122, s_74_123, s_74_124, s_74_127, s_74_128, s_74_130, s_74_133, s_74_136, s_74_137, s_74_138, s_74_139, s_74_142, s_74_145, s_74_146, s_74_147, s_74_150, ha_0, hg_0_0, hg_0_1, hg_0_2, hg_0_3, hg_0_4, hq_0_4, hg_0_5, hq_0_5, ha_1, hg_1_0, hg_1_1, hg_1_2, hg_1_3, hg_1_4, hg_1_5, hg_1_6, hg_1_7, hg_1_8, hg_1_9, hg_1_10, hg_1_11, hg_1_12, hq_1_12, ha_2, hg_2_0, hg_2_1, hg_2_2, hg_2_3, hg_2_4, hq_2_4, hl_3, hs_3, hl_4, hs_4, hl_5, hs_5, hl_6, hs_6, hl_7, hs_7, hl_8, hs_8, hl_9, hs_9, hl_10, hs_10, hl_11, hs_11, hl_12, hs_12, hl_13, hs_13, hl_14, hs_14, hl_15, hs_15, hl_16, hs_16, hl_17, hs_17, ha_18, hg_18_0, hg_18_1, hg_18_2, hq_18_2, hg_18_3, hq_18_3, hl_19, hs_19, ha_20, hg_20_0, hg_20_1, ha_21, hg_21_0, hg_21_1, hg_21_2, hg_21_3, hg_21_4, hg_21_5, hg_21_6, hq_21_6, hg_21_7, hg_21_8, hg_21_9, hg_21_10, hq_21_10, hg_21_11, hq_21_11, hg_21_12, hq_21_12, hg_21_13, hq_21_13, hg_21_14, hq_21_14, hg_21_15, hq_21_15, hg_21_16, hq_21_16, hg_21_17, hq_21_17, ha_22, hg_22_0, hg_22_1, hg_22_2, hg_22_3, hg_22_4, hg_22_5, hg_22_6, hq_22_6, hg_22_7, hq_22_7, hg_22_8, hq_22_8, hl_23, hs_23, hl_24, hs_24, hl_25, hs_25, hl_26, hs_26, hl_27, hs_27, ha_28, hg_28_0, hg_28_1, hq_28_1, hl_29, hs_29, hl_30, hs_30, hl_31, hs_31, hl_32, hs_32, hl_33, hs_33, hl_34, hs_34, hl_35, hs_35, am_ld_cons, am_ld_nil, am_st1_cons, am_st1_nil, am_st2_cons, am_st2_nil, am_P1, am_P2, Value.category, am_add_add, am_add0, am_add_some, hl, e1, s0, s1, hx, hy, k1, q1, k2]
set_option maxRecDepth 100000 in
set_option maxHeartbeats 4000000 in
theorem c74_fun_f4 (scr : Nat → Int32) (L F d : Nat) (I : Nat → Nat → Int32) (J : Nat → Nat → Int64) (M : Nat → Nat → Int32) (n p D : Nat) (h : rdI I n p) (hD : D ≤ 20) (hx : tx (I 19) n p = 40) (I1 : am_I) (t1 p1 : Nat) (k1 : am_r scr L (F + 13000) (d + 3) 74 [.ref 19, .int (nI (D + 1))] (hp (adI I (p + 1)) J M) = some (some (.int (nI t1)), hp I1 J M, 0, 0)) (ht1 : t1 < 105) (h1 : rdI I1 n p1) (hy : tx (I1 19) n p1 = 62) (I2 : am_I) (t2 p2 : Nat) (k2 : am_r scr L (F + 13000) (d + 3) 74 [.ref 19, .int (nI (D + 1))] (hp (adI I1 (p1 + 1)) J M) = some (some (.int (nI t2)), hp I2 J M, 0, 0)) (ht2 : t2 < 105) (h2 : rdI I2 n p2) (hz : ¬ tx (I2 19) n p2 = 41) : am_r scr L (F + 13000) (d + 4) 74 [.ref 19, .int (nI D)] (hp I J M) = some (some (.int (-1)), hp I2 J M, 0, 0) := by
  have hl : nI D ≤ 20 := by
    rw [show (20 : Int32) = nI 20 by decide +kernel]
    exact nI_le hD (by decide)
  have e1 : nI D + 1 = nI (D + 1) := nI_1 D
  have s0 := fun x => s_60 scr L (F + 12800) (d + 1) I J M n p x h
  have q1 : ¬ nI t1 = -1 := nI_nm (by omega)
  have s1 := fun x => s_60 scr L (F + 12800) (d + 1) I1 J M n p1 x h1
  have q2 : ¬ nI t2 = -1 := nI_nm (by omega)
  have s2 := fun x => s_60 scr L (F + 12800) (d + 1) I2 J M n p2 x h2
  simp [r_74, s_74_0, s_74_1, s_74_3, s_74_6, s_74_7, s_74_8, s_74_9, s_74_11, s_74_14, s_74_17, s_74_18, s_74_19, s_74_20, s_74_22, s_74_25, s_74_28, s_74_29, s_74_30, s_74_31, s_74_33, s_74_36, s_74_39, s_74_40, s_74_41, s_74_42, s_74_44, s_74_47, s_74_50, s_74_51, s_74_52, s_74_53, s_74_54, s_74_57, s_74_58, s_74_59, s_74_60, s_74_63, s_74_64, s_74_67, s_74_68, s_74_71, s_74_74, s_74_75, s_74_78, s_74_79, s_74_80, s_74_82, s_74_85, s_74_88, s_74_89, s_74_90, s_74_91, s_74_92, s_74_93, s_74_94, s_74_97, s_74_98, s_74_99, s_74_100, s_74_103, s_74_104, s_74_106, s_74_109, s_74_112, s_74_113, s_74_114, s_74_115, s_74_116, s_74_117, s_74_118, s_74_121, s_74_122, s_74_123, s_74_124, s_74_127, s_74_128, s_74_130, s_74_133, s_74_136, s_74_137, s_74_138, s_74_139, s_74_142, s_74_145, s_74_146, s_74_147, s_74_150, ha_0, hg_0_0, hg_0_1, hg_0_2, hg_0_3, hg_0_4, hq_0_4, hg_0_5, hq_0_5, ha_1, hg_1_0, hg_1_1, hg_1_2, hg_1_3, hg_1_4, hg_1_5, hg_1_6, hg_1_7, hg_1_8, hg_1_9, hg_1_10, hg_1_11, hg_1_12, hq_1_12, ha_2, hg_2_0, hg_2_1, hg_2_2, hg_2_3, hg_2_4, hq_2_4, hl_3, hs_3, hl_4, hs_4, hl_5, hs_5, hl_6, hs_6, hl_7, hs_7, hl_8, hs_8, hl_9, hs_9, hl_10, hs_10, hl_11, hs_11, hl_12, hs_12, hl_13, hs_13, hl_14, hs_14, hl_15, hs_15, hl_16, hs_16, hl_17, hs_17, ha_18, hg_18_0, hg_18_1, hg_18_2, hq_18_2, hg_18_3, hq_18_3, hl_19, hs_19, ha_20, hg_20_0, hg_20_1, ha_21, hg_21_0, hg_21_1, hg_21_2, hg_21_3, hg_21_4, hg_21_5, hg_21_6, hq_21_6, hg_21_7, hg_21_8, hg_21_9, hg_21_10, hq_21_10, hg_21_11, hq_21_11, hg_21_12, hq_21_12, hg_21_13, hq_21_13, hg_21_14, hq_21_14, hg_21_15, hq_21_15, hg_21_16, hq_21_16, hg_21_17, hq_21_17, ha_22, hg_22_0, hg_22_1, hg_22_2, hg_22_3, hg_22_4, hg_22_5, hg_22_6, hq_22_6, hg_22_7, hq_22_7, hg_22_8, hq_22_8, hl_23, hs_23, hl_24, hs_24, hl_25, hs_25, hl_26, hs_26, hl_27, hs_27, ha_28, hg_28_0, hg_28_1, hq_28_1, hl_29, hs_29, hl_30, hs_30, hl_31, hs_31, hl_32, hs_32, hl_33, hs_33, hl_34, hs_34, hl_35, hs_35, am_ld_cons, am_ld_nil, am_st1_cons, am_st1_nil, am_st2_cons, am_st2_nil, am_P1, am_P2, Value.category, am_add_add, am_add0, am_add_some, hl, e1, s0, s1, s2, hx, hy, hz, k1, q1, k2, q2]
set_option maxRecDepth 100000 in
set_option maxHeartbeats 4000000 in
theorem c74_fun_g (scr : Nat → Int32) (L F d : Nat) (I : Nat → Nat → Int32) (J : Nat → Nat → Int64) (M : Nat → Nat → Int32) (n p D : Nat) (h : rdI I n p) (hD : D ≤ 20) (hx : tx (I 19) n p = 40) (I1 : am_I) (t1 p1 : Nat) (k1 : am_r scr L (F + 13000) (d + 3) 74 [.ref 19, .int (nI (D + 1))] (hp (adI I (p + 1)) J M) = some (some (.int (nI t1)), hp I1 J M, 0, 0)) (ht1 : t1 < 105) (h1 : rdI I1 n p1) (hy : tx (I1 19) n p1 = 62) (I2 : am_I) (t2 p2 : Nat) (k2 : am_r scr L (F + 13000) (d + 3) 74 [.ref 19, .int (nI (D + 1))] (hp (adI I1 (p1 + 1)) J M) = some (some (.int (nI t2)), hp I2 J M, 0, 0)) (ht2 : t2 < 105) (h2 : rdI I2 n p2) (hz : tx (I2 19) n p2 = 41) (c : Nat) (hc : I2 2 4 = nI c) (hc2 : c ≤ 105) (hc3 : 3 ≤ c) (v : Int32) (I3 : am_I) (kk : ky (adI I2 (p2 + 1)) c 3 (nI t1) (nI t2) (I2 6 t1 + I2 6 t2 + 3) = (v, I3)) : am_r scr L (F + 13000) (d + 4) 74 [.ref 19, .int (nI D)] (hp I J M) = some (some (.int v), hp I3 J M, 0, 0) := by
  have hl : nI D ≤ 20 := by
    rw [show (20 : Int32) = nI 20 by decide +kernel]
    exact nI_le hD (by decide)
  have e1 : nI D + 1 = nI (D + 1) := nI_1 D
  have s0 := fun x => s_60 scr L (F + 12800) (d + 1) I J M n p x h
  have q1 : ¬ nI t1 = -1 := nI_nm (by omega)
  have s1 := fun x => s_60 scr L (F + 12800) (d + 1) I1 J M n p1 x h1
  have q2 : ¬ nI t2 = -1 := nI_nm (by omega)
  have s2 := fun x => s_60 scr L (F + 12800) (d + 1) I2 J M n p2 x h2
  have s3 := m_77 scr L (F + 900) (d + 1) (adI I2 (p2 + 1)) J M t1 t2 c ht1 ht2 ((congrFun (adI_ne I2 (p2 + 1) 2 (by omega)) 4).trans hc) hc2 hc3
  rw [adI_ne I2 (p2 + 1) 6 (by omega), kk] at s3
  simp [r_74, s_74_0, s_74_1, s_74_3, s_74_6, s_74_7, s_74_8, s_74_9, s_74_11, s_74_14, s_74_17, s_74_18, s_74_19, s_74_20, s_74_22, s_74_25, s_74_28, s_74_29, s_74_30, s_74_31, s_74_33, s_74_36, s_74_39, s_74_40, s_74_41, s_74_42, s_74_44, s_74_47, s_74_50, s_74_51, s_74_52, s_74_53, s_74_54, s_74_57, s_74_58, s_74_59, s_74_60, s_74_63, s_74_64, s_74_67, s_74_68, s_74_71, s_74_74, s_74_75, s_74_78, s_74_79, s_74_80, s_74_82, s_74_85, s_74_88, s_74_89, s_74_90, s_74_91, s_74_92, s_74_93, s_74_94, s_74_97, s_74_98, s_74_99, s_74_100, s_74_103, s_74_104, s_74_106, s_74_109, s_74_112, s_74_113, s_74_114, s_74_115, s_74_116, s_74_117, s_74_118, s_74_121, s_74_122, s_74_123, s_74_124, s_74_127, s_74_128, s_74_130, s_74_133, s_74_136, s_74_137, s_74_138, s_74_139, s_74_142, s_74_145, s_74_146, s_74_147, s_74_150, ha_0, hg_0_0, hg_0_1, hg_0_2, hg_0_3, hg_0_4, hq_0_4, hg_0_5, hq_0_5, ha_1, hg_1_0, hg_1_1, hg_1_2, hg_1_3, hg_1_4, hg_1_5, hg_1_6, hg_1_7, hg_1_8, hg_1_9, hg_1_10, hg_1_11, hg_1_12, hq_1_12, ha_2, hg_2_0, hg_2_1, hg_2_2, hg_2_3, hg_2_4, hq_2_4, hl_3, hs_3, hl_4, hs_4, hl_5, hs_5, hl_6, hs_6, hl_7, hs_7, hl_8, hs_8, hl_9, hs_9, hl_10, hs_10, hl_11, hs_11, hl_12, hs_12, hl_13, hs_13, hl_14, hs_14, hl_15, hs_15, hl_16, hs_16, hl_17, hs_17, ha_18, hg_18_0, hg_18_1, hg_18_2, hq_18_2, hg_18_3, hq_18_3, hl_19, hs_19, ha_20, hg_20_0, hg_20_1, ha_21, hg_21_0, hg_21_1, hg_21_2, hg_21_3, hg_21_4, hg_21_5, hg_21_6, hq_21_6, hg_21_7, hg_21_8, hg_21_9, hg_21_10, hq_21_10, hg_21_11, hq_21_11, hg_21_12, hq_21_12, hg_21_13, hq_21_13, hg_21_14, hq_21_14, hg_21_15, hq_21_15, hg_21_16, hq_21_16, hg_21_17, hq_21_17, ha_22, hg_22_0, hg_22_1, hg_22_2, hg_22_3, hg_22_4, hg_22_5, hg_22_6, hq_22_6, hg_22_7, hq_22_7, hg_22_8, hq_22_8, hl_23, hs_23, hl_24, hs_24, hl_25, hs_25, hl_26, hs_26, hl_27, hs_27, ha_28, hg_28_0, hg_28_1, hq_28_1, hl_29, hs_29, hl_30, hs_30, hl_31, hs_31, hl_32, hs_32, hl_33, hs_33, hl_34, hs_34, hl_35, hs_35, am_ld_cons, am_ld_nil, am_st1_cons, am_st1_nil, am_st2_cons, am_st2_nil, am_P1, am_P2, Value.category, am_add_add, am_add0, am_add_some, hl, e1, s0, s1, s2, hx, hy, hz, k1, q1, k2, q2, s3]
