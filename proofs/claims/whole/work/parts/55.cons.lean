/-! Consistent types: both sides. -/
def tA (M : am_I) (t : Nat) : Nat := (M 39 t).toNatClampNeg
def tB (M : am_I) (t : Nat) : Nat := (M 40 t).toNatClampNeg
def cn (M : am_I) : Nat → Nat → Nat → Bool
  | 0, t, u => decide (t = u ∨ t = 2 ∨ u = 2)
  | e + 1, t, u => if t = u ∨ t = 2 ∨ u = 2 then true else if ¬ M 38 t = M 38 u ∨ M 38 t < 3 then false else if M 38 t = 3 then (cn M e (tA M t) (tA M u) && cn M e (tB M t) (tB M u)) else cn M e (tA M t) (tA M u)
def lfI (I : am_I) (t : Nat) : Nat := (I 4 t).toNatClampNeg
def rfI (I : am_I) (t : Nat) : Nat := (I 5 t).toNatClampNeg
theorem tyR_tbl {I M : am_I} {c : Nat} (h : tyR I M c) : tbl (I 4) (I 5) (lfI I) (rfI I) c := by
  intro t ht
  have hc := h.1
  have hc2 := h.2.1
  unfold lfI rfI
  by_cases g : t < 3
  · obtain ⟨a1, a2, a3, a4, a5⟩ := h.2.2.2.2.2.2.1 t g
    rw [a2, a3]
    exact ⟨by decide +kernel, by have : (0 : Int32).toNatClampNeg = 0 := by decide +kernel
                                 omega, by decide +kernel, by have : (0 : Int32).toNatClampNeg = 0 := by decide +kernel
                                                              omega⟩
  · rcases h.2.2.2.2.2.2.2.1 t (by omega) ht with ⟨a, b, la, lb, k1, k2, k3, k4, k5, k6, k7, k8, _⟩ | ⟨a, la, k1, k3, k4, k5, k6, k7, k8, _⟩
    · have q1 := tm_lt (t := a) (c := c) (by omega) (by omega)
      have q2 := tm_lt (t := b) (c := c) (by omega) (by omega)
      rw [k7, k8, nI_clamp (by omega), nI_clamp (by omega)]
      exact ⟨rfl, q1, rfl, q2⟩
    · have q1 := tm_lt (t := a) (c := c) (by omega) (by omega)
      rw [k7, k8, nI_clamp (by omega)]
      exact ⟨rfl, q1, rfl, q1⟩
/-- the kind of a type, on both sides -/
theorem ty_kind {I M : am_I} {c t : Nat} (h : tyR I M c) (ht : t < c) : (t < 3 ∧ M 38 t = nI t ∧ I 3 (tm t) = nI (tm t)) ∨ (3 ≤ t ∧ M 38 t = 3 ∧ I 3 (tm t) = 3 ∧ tA M t < t ∧ tB M t < t ∧ M 39 t = nI (tA M t) ∧ M 40 t = nI (tB M t) ∧ lfI I (tm t) = tm (tA M t) ∧ rfI I (tm t) = tm (tB M t)) ∨ (3 ≤ t ∧ M 38 t = 4 ∧ I 3 (tm t) = 4 ∧ tA M t < t ∧ M 39 t = nI (tA M t) ∧ lfI I (tm t) = tm (tA M t) ∧ rfI I (tm t) = tm (tA M t)) := by
  have hc := h.1
  have hc2 := h.2.1
  by_cases g : t < 3
  · left
    exact ⟨g, (h.2.2.2.2.2.2.1 t g).2.2.2.2, (h.2.2.2.2.2.2.1 (tm t) (tm_lt g (by omega))).1⟩
  · right
    rw [tm_3 (by omega)]
    unfold tA tB lfI rfI
    rcases h.2.2.2.2.2.2.2.1 t (by omega) ht with ⟨a, b, la, lb, k1, k2, k3, k4, k5, k6, k7, k8, _⟩ | ⟨a, la, k1, k3, k4, k5, k6, k7, k8, _⟩
    · left
      have q1 := tm_lt (t := a) (c := c) (by omega) (by omega)
      have q2 := tm_lt (t := b) (c := c) (by omega) (by omega)
      rw [k5, k6, k7, k8, nI_clamp (by omega), nI_clamp (by omega), nI_clamp (by omega), nI_clamp (by omega)]
      exact ⟨by omega, k3, k4, k1, k2, rfl, rfl, rfl, rfl⟩
    · right
      have q1 := tm_lt (t := a) (c := c) (by omega) (by omega)
      rw [k5, k7, k8, nI_clamp (by omega), nI_clamp (by omega)]
      exact ⟨by omega, k3, k4, k1, rfl, rfl, rfl⟩
theorem n03 : ∀ t : Nat, t < 3 → ¬ nI t = 3 ∧ ¬ nI t = 4 ∧ nI t < 3 := by decide +kernel
theorem pc_cn {I M : am_I} {c : Nat} (h : tyR I M c) : ∀ (e t u : Nat), t < c → u < c → pc (I 3) (lfI I) (rfI I) e (tm t) (tm u) = cn M e t u := by
  have hc := h.1
  have hc2 := h.2.1
  have e0 : ∀ t u : Nat, (tm t = tm u ∨ tm t = 0 ∨ tm u = 0) ↔ (t = u ∨ t = 2 ∨ u = 2) := by
    intro t u
    rw [tm_ne0, tm_ne0]
    exact ⟨fun z => z.imp_left tm_inj, fun z => z.imp_left (fun w => by rw [w])⟩
  intro e
  induction e with
  | zero =>
    intro t u ht hu
    simp only [pc, cn, e0]
  | succ e ih =>
    intro t u ht hu
    unfold pc cn
    by_cases q : t = u ∨ t = 2 ∨ u = 2
    · rw [if_pos q, if_pos ((e0 t u).mpr q)]
    · rw [if_neg q, if_neg (fun z => q ((e0 t u).mp z))]
      rcases ty_kind h ht with ⟨a1, a2, a3⟩ | ⟨a1, a2, a3, a4, a5, a6, a7, a8, a9⟩ | ⟨a1, a2, a3, a4, a5, a6, a7⟩
      · have z1 : ¬ M 38 t = M 38 u ∨ M 38 t < 3 := .inr (by rw [a2]; exact (n03 t a1).2.2)
        rw [if_pos z1]
        have z2 : ¬ I 3 (tm t) = I 3 (tm u) := by
          have y1 := tm_lt a1 (show 3 ≤ 3 by omega)
          rcases ty_kind h hu with ⟨b1, b2, b3⟩ | ⟨b1, b2, b3, _⟩ | ⟨b1, b2, b3, _⟩
          · rw [a3, b3]
            have y2 := tm_lt b1 (show 3 ≤ 3 by omega)
            intro z
            exact q (.inl (tm_inj (nI_inj (by omega) (by omega) z)))
          · rw [a3, b3]
            exact (n03 _ y1).1
          · rw [a3, b3]
            exact (n03 _ y1).2.1
        rw [if_pos z2]
      · rcases ty_kind h hu with ⟨b1, b2, b3⟩ | ⟨b1, b2, b3, b4, b5, b6, b7, b8, b9⟩ | ⟨b1, b2, b3, b4, b5, b6, b7⟩
        · have y2 := tm_lt b1 (show 3 ≤ 3 by omega)
          rw [a2, a3, b2, b3, if_pos (fun z => (n03 _ y2).1 z.symm), if_pos (.inl (fun z => (n03 _ b1).1 z.symm))]
        · rw [a2, a3, b2, b3, a8, b8, a9, b9, ih _ _ (by omega) (by omega), ih _ _ (by omega) (by omega)]
          simp only [not_true_eq_false, if_false, true_and]
          cases cn M e (tA M t) (tA M u) <;> simp
        · rw [a2, a3, b2, b3]
          simp
      · rcases ty_kind h hu with ⟨b1, b2, b3⟩ | ⟨b1, b2, b3, b4, b5, b6, b7, b8, b9⟩ | ⟨b1, b2, b3, b4, b5, b6, b7⟩
        · have y2 := tm_lt b1 (show 3 ≤ 3 by omega)
          rw [a2, a3, b2, b3, if_pos (fun z => (n03 _ y2).2.1 z.symm), if_pos (.inl (fun z => (n03 _ b1).2.1 z.symm))]
        · rw [a2, a3, b2, b3]
          simp
        · rw [a2, a3, b2, b3, a7, b7, ih _ _ (by omega) (by omega)]
          simp
theorem cn_eq {I M : am_I} {c : Nat} (h : tyR I M c) : ∀ (k t u e e' : Nat), t < c → hb M k t → k ≤ e → k ≤ e' → cn M e t u = cn M e' t u := by
  have hc := h.1
  have hc2 := h.2.1
  have lw : ∀ t u e, t < 3 → t < c → cn M e t u = decide (t = u ∨ t = 2 ∨ u = 2) := by
    intro t u e h3 ht
    cases e with
    | zero => rfl
    | succ e =>
      unfold cn
      by_cases q : t = u ∨ t = 2 ∨ u = 2
      · rw [if_pos q]
        simp [q]
      · rw [if_neg q]
        have z : M 38 t = nI t := (h.2.2.2.2.2.2.1 t h3).2.2.2.2
        have z1 : ¬ M 38 t = M 38 u ∨ M 38 t < 3 := .inr (by rw [z]; exact (n03 t h3).2.2)
        rw [if_pos z1]
        simp [q]
  intro k
  induction k with
  | zero =>
    intro t u e e' ht g _ _
    rw [lw t u e g ht, lw t u e' g ht]
  | succ k ih =>
    intro t u e e' ht g h1 h2
    by_cases t3 : t < 3
    · rw [lw t u e t3 ht, lw t u e' t3 ht]
    · rcases g with g | ⟨a, g1, g2, g3, g4⟩
      · exact absurd g t3
      obtain ⟨e, rfl⟩ : ∃ i, e = i + 1 := ⟨e - 1, by omega⟩
      obtain ⟨e', rfl⟩ : ∃ i, e' = i + 1 := ⟨e' - 1, by omega⟩
      unfold cn
      have ea : tA M t = a := by
        unfold tA
        rw [g1]
        exact nI_clamp (by omega)
      rw [ea, ih a (tA M u) e e' (by omega) g3 (by omega) (by omega)]
      by_cases k3 : M 38 t = 3
      · obtain ⟨b, b1, b2, b3⟩ := g4 k3
        have eb : tB M t = b := by
          unfold tB
          rw [b1]
          exact nI_clamp (by omega)
        rw [eb, ih b (tB M u) e e' (by omega) b3 (by omega) (by omega)]
      · simp only [k3, if_false]
def h7 (scr : Nat → Int32) (L d : Nat) (call : Nat → List Value → am_H → Option am_X) (I : am_I) (J : am_J) (N k : Nat) (M : am_I) (R : Option am_X) : Prop := ∀ (f : Nat) (tl : am_L) (x y : Int32), N ≤ f → kb 4 tl → am_f d scr L call 97 f 16 ((0, .ref 37) :: (1, .int x) :: (2, .int y) :: (3, .int (nI k)) :: tl) [] (hp I J M) = R
theorem nI_m2 (n : Nat) : nI (n + 2) + (-2) = nI n := by
  rw [← nI_add, Int32.add_assoc, show nI 2 + (-2) = 0 by decide +kernel, Int32.add_zero]
theorem nI_p2 (n : Nat) : nI n + 2 = nI (n + 2) := by
  rw [show (2 : Int32) = nI 2 by decide +kernel]
  exact nI_add n 2
set_option maxRecDepth 100000 in
set_option maxHeartbeats 4000000 in
theorem h97_end (scr : Nat → Int32) (L d : Nat) (call : Nat → List Value → am_H → Option am_X) (I : am_I) (J : am_J) (M : am_I) : h7 scr L d call I J 100 0 M (some (some (.int 1), hp I J M, 0, 0)) := by
  intro f tl x y hf hk
  obtain ⟨g, rfl⟩ : ∃ g, f = g + 100 := ⟨f - 100, by omega⟩
  have z0 : nI 0 = 0 := nI_0
  rw [s_97_16]
  simp [s_97_0, s_97_1, s_97_2, s_97_3, s_97_6, s_97_7, s_97_8, s_97_9, s_97_10, s_97_13, s_97_14, s_97_15, s_97_17, s_97_20, s_97_23, s_97_24, s_97_27, s_97_28, s_97_29, s_97_31, s_97_32, s_97_35, s_97_36, s_97_37, s_97_38, s_97_39, s_97_41, s_97_43, s_97_45, s_97_48, s_97_50, s_97_51, s_97_54, s_97_56, s_97_57, s_97_60, s_97_61, s_97_64, s_97_66, s_97_67, s_97_68, s_97_71, s_97_73, s_97_74, s_97_77, s_97_78, s_97_81, s_97_83, s_97_84, s_97_85, s_97_88, s_97_89, s_97_90, s_97_91, s_97_94, s_97_95, s_97_96, s_97_99, s_97_101, s_97_102, s_97_103, s_97_104, s_97_107, s_97_108, s_97_109, s_97_110, s_97_111, s_97_114, s_97_116, s_97_117, s_97_118, s_97_121, s_97_122, s_97_125, s_97_127, s_97_128, s_97_129, s_97_132, s_97_133, s_97_136, s_97_137, s_97_138, s_97_141, s_97_143, s_97_144, s_97_145, s_97_146, s_97_149, s_97_150, s_97_151, s_97_152, s_97_153, s_97_156, s_97_158, s_97_159, s_97_160, s_97_163, s_97_166, s_97_167, ha_36, hg_36_0, hq_36_0, hg_36_1, hg_36_2, hq_36_2, hg_36_3, hg_36_4, hg_36_5, hg_36_6, hq_36_6, hg_36_7, hq_36_7, hg_36_8, hq_36_8, hg_36_9, hg_36_10, hg_36_11, hg_36_12, hg_36_13, hg_36_14, hg_36_15, hg_36_16, hg_36_17, hg_36_18, hq_36_18, hg_36_19, hg_36_20, hq_36_20, hg_36_21, hq_36_21, hg_36_22, hg_36_23, hq_36_23, hg_36_24, hg_36_25, hq_36_25, hg_36_26, hq_36_26, hg_36_27, hq_36_27, hg_36_28, hq_36_28, hg_36_29, hg_36_30, hg_36_31, hq_36_31, hg_36_32, hg_36_33, hg_36_34, hg_36_35, hq_36_35, hg_36_36, hg_36_37, hg_36_38, hg_36_39, hg_36_40, hq_36_40, hg_36_41, hg_36_42, hg_36_43, hg_36_44, hq_36_44, hg_36_45, hg_36_46, hg_36_47, hg_36_48, hg_36_49, hq_36_49, hg_36_50, hg_36_51, hq_36_51, hg_36_52, hq_36_52, hg_36_53, hq_36_53, hg_36_54, hq_36_54, hg_36_55, hq_36_55, hg_36_56, hq_36_56, hg_36_57, hg_36_58, hq_36_58, hg_36_59, hq_36_59, hg_36_60, hq_36_60, hg_36_61, hl_37, hs_37, hl_38, hs_38, hl_39, hs_39, hl_40, hs_40, hl_41, hs_41, hl_42, hs_42, hl_43, hs_43, hl_44, hs_44, hl_45, hs_45, hl_46, hs_46, hl_47, hs_47, hl_48, hs_48, hl_49, hs_49, hl_50, hs_50, hl_51, hs_51, hl_52, hs_52, hl_53, hs_53, hl_54, hs_54, hl_55, hs_55, hl_56, hs_56, hl_57, hs_57, hl_58, hs_58, hl_59, hs_59, hl_60, hs_60, hl_61, hs_61, hl_62, hs_62, hl_63, hs_63, hl_64, hs_64, hl_65, hs_65, hl_66, hs_66, hl_67, hs_67, hl_68, hs_68, hl_69, hs_69, hl_70, hs_70, hl_71, hs_71, am_ld_cons, am_ld_nil, am_st1_cons, am_st1_nil, am_st2_cons, am_st2_nil, am_P1, am_P2, Value.category, am_add_add, am_add0, am_add_some, z0]
set_option maxRecDepth 100000 in
set_option maxHeartbeats 4000000 in
theorem h97_skip (scr : Nat → Int32) (L d : Nat) (call : Nat → List Value → am_H → Option am_X) (I : am_I) (J : am_J) (M : am_I) (j t u : Nat) (hj : j < 399) (ht : t < 256) (hu : u < 256) (hp1 : M 54 j = nI t) (hp2 : M 54 (j + 1) = nI u) (n0 : Nat) (R : Option am_X) (q : t = u ∨ t = 2 ∨ u = 2) (key : h7 scr L d call I J n0 j M R) : h7 scr L d call I J (n0 + 100) (j + 2) M R := by
  intro f tl x y hf hk
  obtain ⟨g, rfl⟩ : ∃ g, f = g + 100 := ⟨f - 100, by omega⟩
  obtain ⟨tl1, e4, k4⟩ := kb_st hk
  obtain ⟨tl2, e5, k5⟩ := kb_st k4
  have f1 := kb_f hk (show 3 < 4 by omega)
  have f2 := kb_f k5 (show 3 < 6 by omega)
  have f3 := kb_f k5 (show 4 < 6 by omega)
  have z0 : ¬ nI (j + 2) ≤ 0 := nI_nle (by omega) (by omega)
  have z1 := nI_m2 j
  have z2 : nI j + 1 = nI (j + 1) := nI_1 j
  have z3 := nI_p2 j
  have g1 : ¬ nI j < 0 := nI_pos (by omega)
  have g2 : (nI j).toNatClampNeg = j := nI_clamp (by omega)
  have g3 : ¬ 400 ≤ j := by omega
  have g4 : ¬ nI (j + 1) < 0 := nI_pos (by omega)
  have g5 : (nI (j + 1)).toNatClampNeg = j + 1 := nI_clamp (by omega)
  have g6 : ¬ 400 ≤ j + 1 := by omega
  have t1 : ¬ nI t < 0 := nI_pos (by omega)
  have t2 : (nI t).toNatClampNeg = t := nI_clamp (by omega)
  have t3 : ¬ 256 ≤ t := by omega
  have u1 : ¬ nI u < 0 := nI_pos (by omega)
  have u2 : (nI u).toNatClampNeg = u := nI_clamp (by omega)
  have u3 : ¬ 256 ≤ u := by omega
  rw [s_97_16]
  rcases q with q | q | q
  · subst q
    simp [s_97_0, s_97_1, s_97_2, s_97_3, s_97_6, s_97_7, s_97_8, s_97_9, s_97_10, s_97_13, s_97_14, s_97_15, s_97_17, s_97_20, s_97_23, s_97_24, s_97_27, s_97_28, s_97_29, s_97_31, s_97_32, s_97_35, s_97_36, s_97_37, s_97_38, s_97_39, s_97_41, s_97_43, s_97_45, s_97_48, s_97_50, s_97_51, s_97_54, s_97_56, s_97_57, s_97_60, s_97_61, s_97_64, s_97_66, s_97_67, s_97_68, s_97_71, s_97_73, s_97_74, s_97_77, s_97_78, s_97_81, s_97_83, s_97_84, s_97_85, s_97_88, s_97_89, s_97_90, s_97_91, s_97_94, s_97_95, s_97_96, s_97_99, s_97_101, s_97_102, s_97_103, s_97_104, s_97_107, s_97_108, s_97_109, s_97_110, s_97_111, s_97_114, s_97_116, s_97_117, s_97_118, s_97_121, s_97_122, s_97_125, s_97_127, s_97_128, s_97_129, s_97_132, s_97_133, s_97_136, s_97_137, s_97_138, s_97_141, s_97_143, s_97_144, s_97_145, s_97_146, s_97_149, s_97_150, s_97_151, s_97_152, s_97_153, s_97_156, s_97_158, s_97_159, s_97_160, s_97_163, s_97_166, s_97_167, ha_36, hg_36_0, hq_36_0, hg_36_1, hg_36_2, hq_36_2, hg_36_3, hg_36_4, hg_36_5, hg_36_6, hq_36_6, hg_36_7, hq_36_7, hg_36_8, hq_36_8, hg_36_9, hg_36_10, hg_36_11, hg_36_12, hg_36_13, hg_36_14, hg_36_15, hg_36_16, hg_36_17, hg_36_18, hq_36_18, hg_36_19, hg_36_20, hq_36_20, hg_36_21, hq_36_21, hg_36_22, hg_36_23, hq_36_23, hg_36_24, hg_36_25, hq_36_25, hg_36_26, hq_36_26, hg_36_27, hq_36_27, hg_36_28, hq_36_28, hg_36_29, hg_36_30, hg_36_31, hq_36_31, hg_36_32, hg_36_33, hg_36_34, hg_36_35, hq_36_35, hg_36_36, hg_36_37, hg_36_38, hg_36_39, hg_36_40, hq_36_40, hg_36_41, hg_36_42, hg_36_43, hg_36_44, hq_36_44, hg_36_45, hg_36_46, hg_36_47, hg_36_48, hg_36_49, hq_36_49, hg_36_50, hg_36_51, hq_36_51, hg_36_52, hq_36_52, hg_36_53, hq_36_53, hg_36_54, hq_36_54, hg_36_55, hq_36_55, hg_36_56, hq_36_56, hg_36_57, hg_36_58, hq_36_58, hg_36_59, hq_36_59, hg_36_60, hq_36_60, hg_36_61, hl_37, hs_37, hl_38, hs_38, hl_39, hs_39, hl_40, hs_40, hl_41, hs_41, hl_42, hs_42, hl_43, hs_43, hl_44, hs_44, hl_45, hs_45, hl_46, hs_46, hl_47, hs_47, hl_48, hs_48, hl_49, hs_49, hl_50, hs_50, hl_51, hs_51, hl_52, hs_52, hl_53, hs_53, hl_54, hs_54, hl_55, hs_55, hl_56, hs_56, hl_57, hs_57, hl_58, hs_58, hl_59, hs_59, hl_60, hs_60, hl_61, hs_61, hl_62, hs_62, hl_63, hs_63, hl_64, hs_64, hl_65, hs_65, hl_66, hs_66, hl_67, hs_67, hl_68, hs_68, hl_69, hs_69, hl_70, hs_70, hl_71, hs_71, am_ld_cons, am_ld_nil, am_st1_cons, am_st1_nil, am_st2_cons, am_st2_nil, am_P1, am_P2, Value.category, am_add_add, am_add0, am_add_some, e4, e5, f1, f2, f3, z0, z1, z2, z3, g1, g2, g3, g4, g5, g6, hp1, hp2]
    exact key _ _ _ _ (by omega) (kb_cons (by omega) (kb_cons (by omega) (kb_le (by omega) k5)))
  · subst q
    by_cases w : nI 2 = nI u
    · simp [s_97_0, s_97_1, s_97_2, s_97_3, s_97_6, s_97_7, s_97_8, s_97_9, s_97_10, s_97_13, s_97_14, s_97_15, s_97_17, s_97_20, s_97_23, s_97_24, s_97_27, s_97_28, s_97_29, s_97_31, s_97_32, s_97_35, s_97_36, s_97_37, s_97_38, s_97_39, s_97_41, s_97_43, s_97_45, s_97_48, s_97_50, s_97_51, s_97_54, s_97_56, s_97_57, s_97_60, s_97_61, s_97_64, s_97_66, s_97_67, s_97_68, s_97_71, s_97_73, s_97_74, s_97_77, s_97_78, s_97_81, s_97_83, s_97_84, s_97_85, s_97_88, s_97_89, s_97_90, s_97_91, s_97_94, s_97_95, s_97_96, s_97_99, s_97_101, s_97_102, s_97_103, s_97_104, s_97_107, s_97_108, s_97_109, s_97_110, s_97_111, s_97_114, s_97_116, s_97_117, s_97_118, s_97_121, s_97_122, s_97_125, s_97_127, s_97_128, s_97_129, s_97_132, s_97_133, s_97_136, s_97_137, s_97_138, s_97_141, s_97_143, s_97_144, s_97_145, s_97_146, s_97_149, s_97_150, s_97_151, s_97_152, s_97_153, s_97_156, s_97_158, s_97_159, s_97_160, s_97_163, s_97_166, s_97_167, ha_36, hg_36_0, hq_36_0, hg_36_1, hg_36_2, hq_36_2, hg_36_3, hg_36_4, hg_36_5, hg_36_6, hq_36_6, hg_36_7, hq_36_7, hg_36_8, hq_36_8, hg_36_9, hg_36_10, hg_36_11, hg_36_12, hg_36_13, hg_36_14, hg_36_15, hg_36_16, hg_36_17, hg_36_18, hq_36_18, hg_36_19, hg_36_20, hq_36_20, hg_36_21, hq_36_21, hg_36_22, hg_36_23, hq_36_23, hg_36_24, hg_36_25, hq_36_25, hg_36_26, hq_36_26, hg_36_27, hq_36_27, hg_36_28, hq_36_28, hg_36_29, hg_36_30, hg_36_31, hq_36_31, hg_36_32, hg_36_33, hg_36_34, hg_36_35, hq_36_35, hg_36_36, hg_36_37, hg_36_38, hg_36_39, hg_36_40, hq_36_40, hg_36_41, hg_36_42, hg_36_43, hg_36_44, hq_36_44, hg_36_45, hg_36_46, hg_36_47, hg_36_48, hg_36_49, hq_36_49, hg_36_50, hg_36_51, hq_36_51, hg_36_52, hq_36_52, hg_36_53, hq_36_53, hg_36_54, hq_36_54, hg_36_55, hq_36_55, hg_36_56, hq_36_56, hg_36_57, hg_36_58, hq_36_58, hg_36_59, hq_36_59, hg_36_60, hq_36_60, hg_36_61, hl_37, hs_37, hl_38, hs_38, hl_39, hs_39, hl_40, hs_40, hl_41, hs_41, hl_42, hs_42, hl_43, hs_43, hl_44, hs_44, hl_45, hs_45, hl_46, hs_46, hl_47, hs_47, hl_48, hs_48, hl_49, hs_49, hl_50, hs_50, hl_51, hs_51, hl_52, hs_52, hl_53, hs_53, hl_54, hs_54, hl_55, hs_55, hl_56, hs_56, hl_57, hs_57, hl_58, hs_58, hl_59, hs_59, hl_60, hs_60, hl_61, hs_61, hl_62, hs_62, hl_63, hs_63, hl_64, hs_64, hl_65, hs_65, hl_66, hs_66, hl_67, hs_67, hl_68, hs_68, hl_69, hs_69, hl_70, hs_70, hl_71, hs_71, am_ld_cons, am_ld_nil, am_st1_cons, am_st1_nil, am_st2_cons, am_st2_nil, am_P1, am_P2, Value.category, am_add_add, am_add0, am_add_some, e4, e5, f1, f2, f3, z0, z1, z2, z3, g1, g2, g3, g4, g5, g6, hp1, hp2, w]
      exact key _ _ _ _ (by omega) (kb_cons (by omega) (kb_cons (by omega) (kb_le (by omega) k5)))
    · have w2 : nI 2 = 2 := by decide +kernel
      rw [w2] at w hp1
      simp [s_97_0, s_97_1, s_97_2, s_97_3, s_97_6, s_97_7, s_97_8, s_97_9, s_97_10, s_97_13, s_97_14, s_97_15, s_97_17, s_97_20, s_97_23, s_97_24, s_97_27, s_97_28, s_97_29, s_97_31, s_97_32, s_97_35, s_97_36, s_97_37, s_97_38, s_97_39, s_97_41, s_97_43, s_97_45, s_97_48, s_97_50, s_97_51, s_97_54, s_97_56, s_97_57, s_97_60, s_97_61, s_97_64, s_97_66, s_97_67, s_97_68, s_97_71, s_97_73, s_97_74, s_97_77, s_97_78, s_97_81, s_97_83, s_97_84, s_97_85, s_97_88, s_97_89, s_97_90, s_97_91, s_97_94, s_97_95, s_97_96, s_97_99, s_97_101, s_97_102, s_97_103, s_97_104, s_97_107, s_97_108, s_97_109, s_97_110, s_97_111, s_97_114, s_97_116, s_97_117, s_97_118, s_97_121, s_97_122, s_97_125, s_97_127, s_97_128, s_97_129, s_97_132, s_97_133, s_97_136, s_97_137, s_97_138, s_97_141, s_97_143, s_97_144, s_97_145, s_97_146, s_97_149, s_97_150, s_97_151, s_97_152, s_97_153, s_97_156, s_97_158, s_97_159, s_97_160, s_97_163, s_97_166, s_97_167, ha_36, hg_36_0, hq_36_0, hg_36_1, hg_36_2, hq_36_2, hg_36_3, hg_36_4, hg_36_5, hg_36_6, hq_36_6, hg_36_7, hq_36_7, hg_36_8, hq_36_8, hg_36_9, hg_36_10, hg_36_11, hg_36_12, hg_36_13, hg_36_14, hg_36_15, hg_36_16, hg_36_17, hg_36_18, hq_36_18, hg_36_19, hg_36_20, hq_36_20, hg_36_21, hq_36_21, hg_36_22, hg_36_23, hq_36_23, hg_36_24, hg_36_25, hq_36_25, hg_36_26, hq_36_26, hg_36_27, hq_36_27, hg_36_28, hq_36_28, hg_36_29, hg_36_30, hg_36_31, hq_36_31, hg_36_32, hg_36_33, hg_36_34, hg_36_35, hq_36_35, hg_36_36, hg_36_37, hg_36_38, hg_36_39, hg_36_40, hq_36_40, hg_36_41, hg_36_42, hg_36_43, hg_36_44, hq_36_44, hg_36_45, hg_36_46, hg_36_47, hg_36_48, hg_36_49, hq_36_49, hg_36_50, hg_36_51, hq_36_51, hg_36_52, hq_36_52, hg_36_53, hq_36_53, hg_36_54, hq_36_54, hg_36_55, hq_36_55, hg_36_56, hq_36_56, hg_36_57, hg_36_58, hq_36_58, hg_36_59, hq_36_59, hg_36_60, hq_36_60, hg_36_61, hl_37, hs_37, hl_38, hs_38, hl_39, hs_39, hl_40, hs_40, hl_41, hs_41, hl_42, hs_42, hl_43, hs_43, hl_44, hs_44, hl_45, hs_45, hl_46, hs_46, hl_47, hs_47, hl_48, hs_48, hl_49, hs_49, hl_50, hs_50, hl_51, hs_51, hl_52, hs_52, hl_53, hs_53, hl_54, hs_54, hl_55, hs_55, hl_56, hs_56, hl_57, hs_57, hl_58, hs_58, hl_59, hs_59, hl_60, hs_60, hl_61, hs_61, hl_62, hs_62, hl_63, hs_63, hl_64, hs_64, hl_65, hs_65, hl_66, hs_66, hl_67, hs_67, hl_68, hs_68, hl_69, hs_69, hl_70, hs_70, hl_71, hs_71, am_ld_cons, am_ld_nil, am_st1_cons, am_st1_nil, am_st2_cons, am_st2_nil, am_P1, am_P2, Value.category, am_add_add, am_add0, am_add_some, e4, e5, f1, f2, f3, z0, z1, z2, z3, g1, g2, g3, g4, g5, g6, hp1, hp2, w]
      exact key _ _ _ _ (by omega) (kb_cons (by omega) (kb_cons (by omega) (kb_le (by omega) k5)))
  · subst q
    have w2 : nI 2 = 2 := by decide +kernel
    rw [w2] at hp2
    by_cases w : nI t = 2
    · simp [s_97_0, s_97_1, s_97_2, s_97_3, s_97_6, s_97_7, s_97_8, s_97_9, s_97_10, s_97_13, s_97_14, s_97_15, s_97_17, s_97_20, s_97_23, s_97_24, s_97_27, s_97_28, s_97_29, s_97_31, s_97_32, s_97_35, s_97_36, s_97_37, s_97_38, s_97_39, s_97_41, s_97_43, s_97_45, s_97_48, s_97_50, s_97_51, s_97_54, s_97_56, s_97_57, s_97_60, s_97_61, s_97_64, s_97_66, s_97_67, s_97_68, s_97_71, s_97_73, s_97_74, s_97_77, s_97_78, s_97_81, s_97_83, s_97_84, s_97_85, s_97_88, s_97_89, s_97_90, s_97_91, s_97_94, s_97_95, s_97_96, s_97_99, s_97_101, s_97_102, s_97_103, s_97_104, s_97_107, s_97_108, s_97_109, s_97_110, s_97_111, s_97_114, s_97_116, s_97_117, s_97_118, s_97_121, s_97_122, s_97_125, s_97_127, s_97_128, s_97_129, s_97_132, s_97_133, s_97_136, s_97_137, s_97_138, s_97_141, s_97_143, s_97_144, s_97_145, s_97_146, s_97_149, s_97_150, s_97_151, s_97_152, s_97_153, s_97_156, s_97_158, s_97_159, s_97_160, s_97_163, s_97_166, s_97_167, ha_36, hg_36_0, hq_36_0, hg_36_1, hg_36_2, hq_36_2, hg_36_3, hg_36_4, hg_36_5, hg_36_6, hq_36_6, hg_36_7, hq_36_7, hg_36_8, hq_36_8, hg_36_9, hg_36_10, hg_36_11, hg_36_12, hg_36_13, hg_36_14, hg_36_15, hg_36_16, hg_36_17, hg_36_18, hq_36_18, hg_36_19, hg_36_20, hq_36_20, hg_36_21, hq_36_21, hg_36_22, hg_36_23, hq_36_23, hg_36_24, hg_36_25, hq_36_25, hg_36_26, hq_36_26, hg_36_27, hq_36_27, hg_36_28, hq_36_28, hg_36_29, hg_36_30, hg_36_31, hq_36_31, hg_36_32, hg_36_33, hg_36_34, hg_36_35, hq_36_35, hg_36_36, hg_36_37, hg_36_38, hg_36_39, hg_36_40, hq_36_40, hg_36_41, hg_36_42, hg_36_43, hg_36_44, hq_36_44, hg_36_45, hg_36_46, hg_36_47, hg_36_48, hg_36_49, hq_36_49, hg_36_50, hg_36_51, hq_36_51, hg_36_52, hq_36_52, hg_36_53, hq_36_53, hg_36_54, hq_36_54, hg_36_55, hq_36_55, hg_36_56, hq_36_56, hg_36_57, hg_36_58, hq_36_58, hg_36_59, hq_36_59, hg_36_60, hq_36_60, hg_36_61, hl_37, hs_37, hl_38, hs_38, hl_39, hs_39, hl_40, hs_40, hl_41, hs_41, hl_42, hs_42, hl_43, hs_43, hl_44, hs_44, hl_45, hs_45, hl_46, hs_46, hl_47, hs_47, hl_48, hs_48, hl_49, hs_49, hl_50, hs_50, hl_51, hs_51, hl_52, hs_52, hl_53, hs_53, hl_54, hs_54, hl_55, hs_55, hl_56, hs_56, hl_57, hs_57, hl_58, hs_58, hl_59, hs_59, hl_60, hs_60, hl_61, hs_61, hl_62, hs_62, hl_63, hs_63, hl_64, hs_64, hl_65, hs_65, hl_66, hs_66, hl_67, hs_67, hl_68, hs_68, hl_69, hs_69, hl_70, hs_70, hl_71, hs_71, am_ld_cons, am_ld_nil, am_st1_cons, am_st1_nil, am_st2_cons, am_st2_nil, am_P1, am_P2, Value.category, am_add_add, am_add0, am_add_some, e4, e5, f1, f2, f3, z0, z1, z2, z3, g1, g2, g3, g4, g5, g6, hp1, hp2, w]
      exact key _ _ _ _ (by omega) (kb_cons (by omega) (kb_cons (by omega) (kb_le (by omega) k5)))
    · simp [s_97_0, s_97_1, s_97_2, s_97_3, s_97_6, s_97_7, s_97_8, s_97_9, s_97_10, s_97_13, s_97_14, s_97_15, s_97_17, s_97_20, s_97_23, s_97_24, s_97_27, s_97_28, s_97_29, s_97_31, s_97_32, s_97_35, s_97_36, s_97_37, s_97_38, s_97_39, s_97_41, s_97_43, s_97_45, s_97_48, s_97_50, s_97_51, s_97_54, s_97_56, s_97_57, s_97_60, s_97_61, s_97_64, s_97_66, s_97_67, s_97_68, s_97_71, s_97_73, s_97_74, s_97_77, s_97_78, s_97_81, s_97_83, s_97_84, s_97_85, s_97_88, s_97_89, s_97_90, s_97_91, s_97_94, s_97_95, s_97_96, s_97_99, s_97_101, s_97_102, s_97_103, s_97_104, s_97_107, s_97_108, s_97_109, s_97_110, s_97_111, s_97_114, s_97_116, s_97_117, s_97_118, s_97_121, s_97_122, s_97_125, s_97_127, s_97_128, s_97_129, s_97_132, s_97_133, s_97_136, s_97_137, s_97_138, s_97_141, s_97_143, s_97_144, s_97_145, s_97_146, s_97_149, s_97_150, s_97_151, s_97_152, s_97_153, s_97_156, s_97_158, s_97_159, s_97_160, s_97_163, s_97_166, s_97_167, ha_36, hg_36_0, hq_36_0, hg_36_1, hg_36_2, hq_36_2, hg_36_3, hg_36_4, hg_36_5, hg_36_6, hq_36_6, hg_36_7, hq_36_7, hg_36_8, hq_36_8, hg_36_9, hg_36_10, hg_36_11, hg_36_12, hg_36_13, hg_36_14, hg_36_15, hg_36_16, hg_36_17, hg_36_18, hq_36_18, hg_36_19, hg_36_20, hq_36_20, hg_36_21, hq_36_21, hg_36_22, hg_36_23, hq_36_23, hg_36_24, hg_36_25, hq_36_25, hg_36_26, hq_36_26, hg_36_27, hq_36_27, hg_36_28, hq_36_28, hg_36_29, hg_36_30, hg_36_31, hq_36_31, hg_36_32, hg_36_33, hg_36_34, hg_36_35, hq_36_35, hg_36_36, hg_36_37, hg_36_38, hg_36_39, hg_36_40, hq_36_40, hg_36_41, hg_36_42, hg_36_43, hg_36_44, hq_36_44, hg_36_45, hg_36_46, hg_36_47, hg_36_48, hg_36_49, hq_36_49, hg_36_50, hg_36_51, hq_36_51, hg_36_52, hq_36_52, hg_36_53, hq_36_53, hg_36_54, hq_36_54, hg_36_55, hq_36_55, hg_36_56, hq_36_56, hg_36_57, hg_36_58, hq_36_58, hg_36_59, hq_36_59, hg_36_60, hq_36_60, hg_36_61, hl_37, hs_37, hl_38, hs_38, hl_39, hs_39, hl_40, hs_40, hl_41, hs_41, hl_42, hs_42, hl_43, hs_43, hl_44, hs_44, hl_45, hs_45, hl_46, hs_46, hl_47, hs_47, hl_48, hs_48, hl_49, hs_49, hl_50, hs_50, hl_51, hs_51, hl_52, hs_52, hl_53, hs_53, hl_54, hs_54, hl_55, hs_55, hl_56, hs_56, hl_57, hs_57, hl_58, hs_58, hl_59, hs_59, hl_60, hs_60, hl_61, hs_61, hl_62, hs_62, hl_63, hs_63, hl_64, hs_64, hl_65, hs_65, hl_66, hs_66, hl_67, hs_67, hl_68, hs_68, hl_69, hs_69, hl_70, hs_70, hl_71, hs_71, am_ld_cons, am_ld_nil, am_st1_cons, am_st1_nil, am_st2_cons, am_st2_nil, am_P1, am_P2, Value.category, am_add_add, am_add0, am_add_some, e4, e5, f1, f2, f3, z0, z1, z2, z3, g1, g2, g3, g4, g5, g6, hp1, hp2, w]
      exact key _ _ _ _ (by omega) (kb_cons (by omega) (kb_cons (by omega) (kb_le (by omega) k5)))
set_option maxRecDepth 100000 in
set_option maxHeartbeats 4000000 in
theorem h97_false (scr : Nat → Int32) (L d : Nat) (call : Nat → List Value → am_H → Option am_X) (I : am_I) (J : am_J) (M : am_I) (j t u : Nat) (hj : j < 399) (ht : t < 256) (hu : u < 256) (hp1 : M 54 j = nI t) (hp2 : M 54 (j + 1) = nI u) (q : ¬ (t = u ∨ t = 2 ∨ u = 2)) (w : ¬ M 38 t = M 38 u ∨ M 38 t < 3) : h7 scr L d call I J 100 (j + 2) M (some (some (.int 0), hp I J M, 0, 0)) := by
  have q1 : ¬ nI t = nI u := fun z => q (.inl (nI_inj (by omega) (by omega) z))
  have q2 : ¬ nI t = 2 := fun z => q (.inr (.inl (nI_inj (b := 2) (by omega) (by omega) (z.trans (by decide +kernel)))))
  have q3 : ¬ nI u = 2 := fun z => q (.inr (.inr (nI_inj (b := 2) (by omega) (by omega) (z.trans (by decide +kernel)))))
  intro f tl x y hf hk
  obtain ⟨g, rfl⟩ : ∃ g, f = g + 100 := ⟨f - 100, by omega⟩
  obtain ⟨tl1, e4, k4⟩ := kb_st hk
  obtain ⟨tl2, e5, k5⟩ := kb_st k4
  have f1 := kb_f hk (show 3 < 4 by omega)
  have f2 := kb_f k5 (show 3 < 6 by omega)
  have f3 := kb_f k5 (show 4 < 6 by omega)
  have z0 : ¬ nI (j + 2) ≤ 0 := nI_nle (by omega) (by omega)
  have z1 := nI_m2 j
  have z2 : nI j + 1 = nI (j + 1) := nI_1 j
  have z3 := nI_p2 j
  have g1 : ¬ nI j < 0 := nI_pos (by omega)
  have g2 : (nI j).toNatClampNeg = j := nI_clamp (by omega)
  have g3 : ¬ 400 ≤ j := by omega
  have g4 : ¬ nI (j + 1) < 0 := nI_pos (by omega)
  have g5 : (nI (j + 1)).toNatClampNeg = j + 1 := nI_clamp (by omega)
  have g6 : ¬ 400 ≤ j + 1 := by omega
  have t1 : ¬ nI t < 0 := nI_pos (by omega)
  have t2 : (nI t).toNatClampNeg = t := nI_clamp (by omega)
  have t3 : ¬ 256 ≤ t := by omega
  have u1 : ¬ nI u < 0 := nI_pos (by omega)
  have u2 : (nI u).toNatClampNeg = u := nI_clamp (by omega)
  have u3 : ¬ 256 ≤ u := by omega
  rw [s_97_16]
  by_cases w1 : M 38 t = M 38 u
  · have w2 : M 38 u < 3 := by
      rcases w with w | w
      · exact absurd w1 w
      · rw [← w1]
        exact w
    have w3 : ¬ (3 : Int32) ≤ M 38 u := fun z => absurd (Int32.lt_of_lt_of_le w2 z) Int32.lt_irrefl
    simp [s_97_0, s_97_1, s_97_2, s_97_3, s_97_6, s_97_7, s_97_8, s_97_9, s_97_10, s_97_13, s_97_14, s_97_15, s_97_17, s_97_20, s_97_23, s_97_24, s_97_27, s_97_28, s_97_29, s_97_31, s_97_32, s_97_35, s_97_36, s_97_37, s_97_38, s_97_39, s_97_41, s_97_43, s_97_45, s_97_48, s_97_50, s_97_51, s_97_54, s_97_56, s_97_57, s_97_60, s_97_61, s_97_64, s_97_66, s_97_67, s_97_68, s_97_71, s_97_73, s_97_74, s_97_77, s_97_78, s_97_81, s_97_83, s_97_84, s_97_85, s_97_88, s_97_89, s_97_90, s_97_91, s_97_94, s_97_95, s_97_96, s_97_99, s_97_101, s_97_102, s_97_103, s_97_104, s_97_107, s_97_108, s_97_109, s_97_110, s_97_111, s_97_114, s_97_116, s_97_117, s_97_118, s_97_121, s_97_122, s_97_125, s_97_127, s_97_128, s_97_129, s_97_132, s_97_133, s_97_136, s_97_137, s_97_138, s_97_141, s_97_143, s_97_144, s_97_145, s_97_146, s_97_149, s_97_150, s_97_151, s_97_152, s_97_153, s_97_156, s_97_158, s_97_159, s_97_160, s_97_163, s_97_166, s_97_167, ha_36, hg_36_0, hq_36_0, hg_36_1, hg_36_2, hq_36_2, hg_36_3, hg_36_4, hg_36_5, hg_36_6, hq_36_6, hg_36_7, hq_36_7, hg_36_8, hq_36_8, hg_36_9, hg_36_10, hg_36_11, hg_36_12, hg_36_13, hg_36_14, hg_36_15, hg_36_16, hg_36_17, hg_36_18, hq_36_18, hg_36_19, hg_36_20, hq_36_20, hg_36_21, hq_36_21, hg_36_22, hg_36_23, hq_36_23, hg_36_24, hg_36_25, hq_36_25, hg_36_26, hq_36_26, hg_36_27, hq_36_27, hg_36_28, hq_36_28, hg_36_29, hg_36_30, hg_36_31, hq_36_31, hg_36_32, hg_36_33, hg_36_34, hg_36_35, hq_36_35, hg_36_36, hg_36_37, hg_36_38, hg_36_39, hg_36_40, hq_36_40, hg_36_41, hg_36_42, hg_36_43, hg_36_44, hq_36_44, hg_36_45, hg_36_46, hg_36_47, hg_36_48, hg_36_49, hq_36_49, hg_36_50, hg_36_51, hq_36_51, hg_36_52, hq_36_52, hg_36_53, hq_36_53, hg_36_54, hq_36_54, hg_36_55, hq_36_55, hg_36_56, hq_36_56, hg_36_57, hg_36_58, hq_36_58, hg_36_59, hq_36_59, hg_36_60, hq_36_60, hg_36_61, hl_37, hs_37, hl_38, hs_38, hl_39, hs_39, hl_40, hs_40, hl_41, hs_41, hl_42, hs_42, hl_43, hs_43, hl_44, hs_44, hl_45, hs_45, hl_46, hs_46, hl_47, hs_47, hl_48, hs_48, hl_49, hs_49, hl_50, hs_50, hl_51, hs_51, hl_52, hs_52, hl_53, hs_53, hl_54, hs_54, hl_55, hs_55, hl_56, hs_56, hl_57, hs_57, hl_58, hs_58, hl_59, hs_59, hl_60, hs_60, hl_61, hs_61, hl_62, hs_62, hl_63, hs_63, hl_64, hs_64, hl_65, hs_65, hl_66, hs_66, hl_67, hs_67, hl_68, hs_68, hl_69, hs_69, hl_70, hs_70, hl_71, hs_71, am_ld_cons, am_ld_nil, am_st1_cons, am_st1_nil, am_st2_cons, am_st2_nil, am_P1, am_P2, Value.category, am_add_add, am_add0, am_add_some, e4, e5, f1, f2, f3, z0, z1, z2, z3, g1, g2, g3, g4, g5, g6, t1, t2, t3, u1, u2, u3, hp1, hp2, q1, q2, q3, w1, w2, w3]
  · simp [s_97_0, s_97_1, s_97_2, s_97_3, s_97_6, s_97_7, s_97_8, s_97_9, s_97_10, s_97_13, s_97_14, s_97_15, s_97_17, s_97_20, s_97_23, s_97_24, s_97_27, s_97_28, s_97_29, s_97_31, s_97_32, s_97_35, s_97_36, s_97_37, s_97_38, s_97_39, s_97_41, s_97_43, s_97_45, s_97_48, s_97_50, s_97_51, s_97_54, s_97_56, s_97_57, s_97_60, s_97_61, s_97_64, s_97_66, s_97_67, s_97_68, s_97_71, s_97_73, s_97_74, s_97_77, s_97_78, s_97_81, s_97_83, s_97_84, s_97_85, s_97_88, s_97_89, s_97_90, s_97_91, s_97_94, s_97_95, s_97_96, s_97_99, s_97_101, s_97_102, s_97_103, s_97_104, s_97_107, s_97_108, s_97_109, s_97_110, s_97_111, s_97_114, s_97_116, s_97_117, s_97_118, s_97_121, s_97_122, s_97_125, s_97_127, s_97_128, s_97_129, s_97_132, s_97_133, s_97_136, s_97_137, s_97_138, s_97_141, s_97_143, s_97_144, s_97_145, s_97_146, s_97_149, s_97_150, s_97_151, s_97_152, s_97_153, s_97_156, s_97_158, s_97_159, s_97_160, s_97_163, s_97_166, s_97_167, ha_36, hg_36_0, hq_36_0, hg_36_1, hg_36_2, hq_36_2, hg_36_3, hg_36_4, hg_36_5, hg_36_6, hq_36_6, hg_36_7, hq_36_7, hg_36_8, hq_36_8, hg_36_9, hg_36_10, hg_36_11, hg_36_12, hg_36_13, hg_36_14, hg_36_15, hg_36_16, hg_36_17, hg_36_18, hq_36_18, hg_36_19, hg_36_20, hq_36_20, hg_36_21, hq_36_21, hg_36_22, hg_36_23, hq_36_23, hg_36_24, hg_36_25, hq_36_25, hg_36_26, hq_36_26, hg_36_27, hq_36_27, hg_36_28, hq_36_28, hg_36_29, hg_36_30, hg_36_31, hq_36_31, hg_36_32, hg_36_33, hg_36_34, hg_36_35, hq_36_35, hg_36_36, hg_36_37, hg_36_38, hg_36_39, hg_36_40, hq_36_40, hg_36_41, hg_36_42, hg_36_43, hg_36_44, hq_36_44, hg_36_45, hg_36_46, hg_36_47, hg_36_48, hg_36_49, hq_36_49, hg_36_50, hg_36_51, hq_36_51, hg_36_52, hq_36_52, hg_36_53, hq_36_53, hg_36_54, hq_36_54, hg_36_55, hq_36_55, hg_36_56, hq_36_56, hg_36_57, hg_36_58, hq_36_58, hg_36_59, hq_36_59, hg_36_60, hq_36_60, hg_36_61, hl_37, hs_37, hl_38, hs_38, hl_39, hs_39, hl_40, hs_40, hl_41, hs_41, hl_42, hs_42, hl_43, hs_43, hl_44, hs_44, hl_45, hs_45, hl_46, hs_46, hl_47, hs_47, hl_48, hs_48, hl_49, hs_49, hl_50, hs_50, hl_51, hs_51, hl_52, hs_52, hl_53, hs_53, hl_54, hs_54, hl_55, hs_55, hl_56, hs_56, hl_57, hs_57, hl_58, hs_58, hl_59, hs_59, hl_60, hs_60, hl_61, hs_61, hl_62, hs_62, hl_63, hs_63, hl_64, hs_64, hl_65, hs_65, hl_66, hs_66, hl_67, hs_67, hl_68, hs_68, hl_69, hs_69, hl_70, hs_70, hl_71, hs_71, am_ld_cons, am_ld_nil, am_st1_cons, am_st1_nil, am_st2_cons, am_st2_nil, am_P1, am_P2, Value.category, am_add_add, am_add0, am_add_some, e4, e5, f1, f2, f3, z0, z1, z2, z3, g1, g2, g3, g4, g5, g6, t1, t2, t3, u1, u2, u3, hp1, hp2, q1, q2, q3, w1]
set_option maxRecDepth 100000 in
set_option maxHeartbeats 4000000 in
theorem h97_cell (scr : Nat → Int32) (L d : Nat) (call : Nat → List Value → am_H → Option am_X) (I : am_I) (J : am_J) (M : am_I) (j t u : Nat) (hj : j < 399) (ht : t < 256) (hu : u < 256) (hp1 : M 54 j = nI t) (hp2 : M 54 (j + 1) = nI u) (n0 : Nat) (R : Option am_X) (q : ¬ (t = u ∨ t = 2 ∨ u = 2)) (w1 : M 38 t = 4) (w2 : M 38 u = 4) (a a2 : Nat) (ha : M 39 t = nI a) (ha2 : M 39 u = nI a2) (key : h7 scr L d call I J n0 (j + 2) (wr (wr M 54 j (nI a)) 54 (j + 1) (nI a2)) R) : h7 scr L d call I J (n0 + 100) (j + 2) M R := by
  have q1 : ¬ nI t = nI u := fun z => q (.inl (nI_inj (by omega) (by omega) z))
  have q2 : ¬ nI t = 2 := fun z => q (.inr (.inl (nI_inj (b := 2) (by omega) (by omega) (z.trans (by decide +kernel)))))
  have q3 : ¬ nI u = 2 := fun z => q (.inr (.inr (nI_inj (b := 2) (by omega) (by omega) (z.trans (by decide +kernel)))))
  intro f tl x y hf hk
  obtain ⟨g, rfl⟩ : ∃ g, f = g + 100 := ⟨f - 100, by omega⟩
  obtain ⟨tl1, e4, k4⟩ := kb_st hk
  obtain ⟨tl2, e5, k5⟩ := kb_st k4
  have f1 := kb_f hk (show 3 < 4 by omega)
  have f2 := kb_f k5 (show 3 < 6 by omega)
  have f3 := kb_f k5 (show 4 < 6 by omega)
  have z0 : ¬ nI (j + 2) ≤ 0 := nI_nle (by omega) (by omega)
  have z1 := nI_m2 j
  have z2 : nI j + 1 = nI (j + 1) := nI_1 j
  have z3 := nI_p2 j
  have g1 : ¬ nI j < 0 := nI_pos (by omega)
  have g2 : (nI j).toNatClampNeg = j := nI_clamp (by omega)
  have g3 : ¬ 400 ≤ j := by omega
  have g4 : ¬ nI (j + 1) < 0 := nI_pos (by omega)
  have g5 : (nI (j + 1)).toNatClampNeg = j + 1 := nI_clamp (by omega)
  have g6 : ¬ 400 ≤ j + 1 := by omega
  have t1 : ¬ nI t < 0 := nI_pos (by omega)
  have t2 : (nI t).toNatClampNeg = t := nI_clamp (by omega)
  have t3 : ¬ 256 ≤ t := by omega
  have u1 : ¬ nI u < 0 := nI_pos (by omega)
  have u2 : (nI u).toNatClampNeg = u := nI_clamp (by omega)
  have u3 : ¬ 256 ≤ u := by omega
  rw [s_97_16]
  have w5 : wr M 54 j (nI a) 39 u = nI a2 := (wr_ap _ _ _ _ _ _ (by omega)).trans ha2
  have w6 : (wr (wr M 54 j (nI a)) 54 (j + 1) (nI a2)) 38 t = 4 := by
    rw [wr_ap _ _ _ _ _ _ (by omega), wr_ap _ _ _ _ _ _ (by omega)]
    exact w1
  simp [s_97_0, s_97_1, s_97_2, s_97_3, s_97_6, s_97_7, s_97_8, s_97_9, s_97_10, s_97_13, s_97_14, s_97_15, s_97_17, s_97_20, s_97_23, s_97_24, s_97_27, s_97_28, s_97_29, s_97_31, s_97_32, s_97_35, s_97_36, s_97_37, s_97_38, s_97_39, s_97_41, s_97_43, s_97_45, s_97_48, s_97_50, s_97_51, s_97_54, s_97_56, s_97_57, s_97_60, s_97_61, s_97_64, s_97_66, s_97_67, s_97_68, s_97_71, s_97_73, s_97_74, s_97_77, s_97_78, s_97_81, s_97_83, s_97_84, s_97_85, s_97_88, s_97_89, s_97_90, s_97_91, s_97_94, s_97_95, s_97_96, s_97_99, s_97_101, s_97_102, s_97_103, s_97_104, s_97_107, s_97_108, s_97_109, s_97_110, s_97_111, s_97_114, s_97_116, s_97_117, s_97_118, s_97_121, s_97_122, s_97_125, s_97_127, s_97_128, s_97_129, s_97_132, s_97_133, s_97_136, s_97_137, s_97_138, s_97_141, s_97_143, s_97_144, s_97_145, s_97_146, s_97_149, s_97_150, s_97_151, s_97_152, s_97_153, s_97_156, s_97_158, s_97_159, s_97_160, s_97_163, s_97_166, s_97_167, ha_36, hg_36_0, hq_36_0, hg_36_1, hg_36_2, hq_36_2, hg_36_3, hg_36_4, hg_36_5, hg_36_6, hq_36_6, hg_36_7, hq_36_7, hg_36_8, hq_36_8, hg_36_9, hg_36_10, hg_36_11, hg_36_12, hg_36_13, hg_36_14, hg_36_15, hg_36_16, hg_36_17, hg_36_18, hq_36_18, hg_36_19, hg_36_20, hq_36_20, hg_36_21, hq_36_21, hg_36_22, hg_36_23, hq_36_23, hg_36_24, hg_36_25, hq_36_25, hg_36_26, hq_36_26, hg_36_27, hq_36_27, hg_36_28, hq_36_28, hg_36_29, hg_36_30, hg_36_31, hq_36_31, hg_36_32, hg_36_33, hg_36_34, hg_36_35, hq_36_35, hg_36_36, hg_36_37, hg_36_38, hg_36_39, hg_36_40, hq_36_40, hg_36_41, hg_36_42, hg_36_43, hg_36_44, hq_36_44, hg_36_45, hg_36_46, hg_36_47, hg_36_48, hg_36_49, hq_36_49, hg_36_50, hg_36_51, hq_36_51, hg_36_52, hq_36_52, hg_36_53, hq_36_53, hg_36_54, hq_36_54, hg_36_55, hq_36_55, hg_36_56, hq_36_56, hg_36_57, hg_36_58, hq_36_58, hg_36_59, hq_36_59, hg_36_60, hq_36_60, hg_36_61, hl_37, hs_37, hl_38, hs_38, hl_39, hs_39, hl_40, hs_40, hl_41, hs_41, hl_42, hs_42, hl_43, hs_43, hl_44, hs_44, hl_45, hs_45, hl_46, hs_46, hl_47, hs_47, hl_48, hs_48, hl_49, hs_49, hl_50, hs_50, hl_51, hs_51, hl_52, hs_52, hl_53, hs_53, hl_54, hs_54, hl_55, hs_55, hl_56, hs_56, hl_57, hs_57, hl_58, hs_58, hl_59, hs_59, hl_60, hs_60, hl_61, hs_61, hl_62, hs_62, hl_63, hs_63, hl_64, hs_64, hl_65, hs_65, hl_66, hs_66, hl_67, hs_67, hl_68, hs_68, hl_69, hs_69, hl_70, hs_70, hl_71, hs_71, am_ld_cons, am_ld_nil, am_st1_cons, am_st1_nil, am_st2_cons, am_st2_nil, am_P1, am_P2, Value.category, am_add_add, am_add0, am_add_some, e4, e5, f1, f2, f3, z0, z1, z2, z3, g1, g2, g3, g4, g5, g6, t1, t2, t3, u1, u2, u3, hp1, hp2, q1, q2, q3, w1, w2, ha, wr_fold, w5, w6]
  exact key _ _ _ _ (by omega) (kb_cons (by omega) (kb_cons (by omega) (kb_le (by omega) k5)))
set_option maxRecDepth 100000 in
set_option maxHeartbeats 4000000 in
theorem h97_fun (scr : Nat → Int32) (L d : Nat) (call : Nat → List Value → am_H → Option am_X) (I : am_I) (J : am_J) (M : am_I) (j t u : Nat) (hj : j < 399) (ht : t < 256) (hu : u < 256) (hp1 : M 54 j = nI t) (hp2 : M 54 (j + 1) = nI u) (hj2 : j < 397) (n0 : Nat) (R : Option am_X) (q : ¬ (t = u ∨ t = 2 ∨ u = 2)) (w1 : M 38 t = 3) (w2 : M 38 u = 3) (a a2 b b2 : Nat) (ha : M 39 t = nI a) (ha2 : M 39 u = nI a2) (hb1 : M 40 t = nI b) (hb2 : M 40 u = nI b2) (key : h7 scr L d call I J n0 (j + 4) (wr (wr (wr (wr M 54 j (nI a)) 54 (j + 1) (nI a2)) 54 (j + 2) (nI b)) 54 (j + 3) (nI b2)) R) : h7 scr L d call I J (n0 + 100) (j + 2) M R := by
  have q1 : ¬ nI t = nI u := fun z => q (.inl (nI_inj (by omega) (by omega) z))
  have q2 : ¬ nI t = 2 := fun z => q (.inr (.inl (nI_inj (b := 2) (by omega) (by omega) (z.trans (by decide +kernel)))))
  have q3 : ¬ nI u = 2 := fun z => q (.inr (.inr (nI_inj (b := 2) (by omega) (by omega) (z.trans (by decide +kernel)))))
  intro f tl x y hf hk
  obtain ⟨g, rfl⟩ : ∃ g, f = g + 100 := ⟨f - 100, by omega⟩
  obtain ⟨tl1, e4, k4⟩ := kb_st hk
  obtain ⟨tl2, e5, k5⟩ := kb_st k4
  have f1 := kb_f hk (show 3 < 4 by omega)
  have f2 := kb_f k5 (show 3 < 6 by omega)
  have f3 := kb_f k5 (show 4 < 6 by omega)
  have z0 : ¬ nI (j + 2) ≤ 0 := nI_nle (by omega) (by omega)
  have z1 := nI_m2 j
  have z2 : nI j + 1 = nI (j + 1) := nI_1 j
  have z3 := nI_p2 j
  have g1 : ¬ nI j < 0 := nI_pos (by omega)
  have g2 : (nI j).toNatClampNeg = j := nI_clamp (by omega)
  have g3 : ¬ 400 ≤ j := by omega
  have g4 : ¬ nI (j + 1) < 0 := nI_pos (by omega)
  have g5 : (nI (j + 1)).toNatClampNeg = j + 1 := nI_clamp (by omega)
  have g6 : ¬ 400 ≤ j + 1 := by omega
  have t1 : ¬ nI t < 0 := nI_pos (by omega)
  have t2 : (nI t).toNatClampNeg = t := nI_clamp (by omega)
  have t3 : ¬ 256 ≤ t := by omega
  have u1 : ¬ nI u < 0 := nI_pos (by omega)
  have u2 : (nI u).toNatClampNeg = u := nI_clamp (by omega)
  have u3 : ¬ 256 ≤ u := by omega
  rw [s_97_16]
  have w5 : wr M 54 j (nI a) 39 u = nI a2 := (wr_ap _ _ _ _ _ _ (by omega)).trans ha2
  have w6 : (wr (wr M 54 j (nI a)) 54 (j + 1) (nI a2)) 38 t = 3 := by
    rw [wr_ap _ _ _ _ _ _ (by omega), wr_ap _ _ _ _ _ _ (by omega)]
    exact w1
  have w7 : (wr (wr M 54 j (nI a)) 54 (j + 1) (nI a2)) 40 t = nI b := by
    rw [wr_ap _ _ _ _ _ _ (by omega), wr_ap _ _ _ _ _ _ (by omega)]
    exact hb1
  have w8 : wr (wr (wr M 54 j (nI a)) 54 (j + 1) (nI a2)) 54 (j + 2) (nI b) 40 u = nI b2 := by
    rw [wr_ap _ _ _ _ _ _ (by omega), wr_ap _ _ _ _ _ _ (by omega), wr_ap _ _ _ _ _ _ (by omega)]
    exact hb2
  have r1 : ¬ nI (j + 2) < 0 := nI_pos (by omega)
  have r2 : (nI (j + 2)).toNatClampNeg = j + 2 := nI_clamp (by omega)
  have r3 : ¬ 400 ≤ j + 2 := by omega
  have r4 : ¬ nI (j + 3) < 0 := nI_pos (by omega)
  have r5 : (nI (j + 3)).toNatClampNeg = j + 3 := nI_clamp (by omega)
  have r6 : ¬ 400 ≤ j + 3 := by omega
  have r7 : nI (j + 2) + 1 = nI (j + 3) := nI_1 (j + 2)
  have r8 := nI_p2 (j + 2)
  simp [s_97_0, s_97_1, s_97_2, s_97_3, s_97_6, s_97_7, s_97_8, s_97_9, s_97_10, s_97_13, s_97_14, s_97_15, s_97_17, s_97_20, s_97_23, s_97_24, s_97_27, s_97_28, s_97_29, s_97_31, s_97_32, s_97_35, s_97_36, s_97_37, s_97_38, s_97_39, s_97_41, s_97_43, s_97_45, s_97_48, s_97_50, s_97_51, s_97_54, s_97_56, s_97_57, s_97_60, s_97_61, s_97_64, s_97_66, s_97_67, s_97_68, s_97_71, s_97_73, s_97_74, s_97_77, s_97_78, s_97_81, s_97_83, s_97_84, s_97_85, s_97_88, s_97_89, s_97_90, s_97_91, s_97_94, s_97_95, s_97_96, s_97_99, s_97_101, s_97_102, s_97_103, s_97_104, s_97_107, s_97_108, s_97_109, s_97_110, s_97_111, s_97_114, s_97_116, s_97_117, s_97_118, s_97_121, s_97_122, s_97_125, s_97_127, s_97_128, s_97_129, s_97_132, s_97_133, s_97_136, s_97_137, s_97_138, s_97_141, s_97_143, s_97_144, s_97_145, s_97_146, s_97_149, s_97_150, s_97_151, s_97_152, s_97_153, s_97_156, s_97_158, s_97_159, s_97_160, s_97_163, s_97_166, s_97_167, ha_36, hg_36_0, hq_36_0, hg_36_1, hg_36_2, hq_36_2, hg_36_3, hg_36_4, hg_36_5, hg_36_6, hq_36_6, hg_36_7, hq_36_7, hg_36_8, hq_36_8, hg_36_9, hg_36_10, hg_36_11, hg_36_12, hg_36_13, hg_36_14, hg_36_15, hg_36_16, hg_36_17, hg_36_18, hq_36_18, hg_36_19, hg_36_20, hq_36_20, hg_36_21, hq_36_21, hg_36_22, hg_36_23, hq_36_23, hg_36_24, hg_36_25, hq_36_25, hg_36_26, hq_36_26, hg_36_27, hq_36_27, hg_36_28, hq_36_28, hg_36_29, hg_36_30, hg_36_31, hq_36_31, hg_36_32, hg_36_33, hg_36_34, hg_36_35, hq_36_35, hg_36_36, hg_36_37, hg_36_38, hg_36_39, hg_36_40, hq_36_40, hg_36_41, hg_36_42, hg_36_43, hg_36_44, hq_36_44, hg_36_45, hg_36_46, hg_36_47, hg_36_48, hg_36_49, hq_36_49, hg_36_50, hg_36_51, hq_36_51, hg_36_52, hq_36_52, hg_36_53, hq_36_53, hg_36_54, hq_36_54, hg_36_55, hq_36_55, hg_36_56, hq_36_56, hg_36_57, hg_36_58, hq_36_58, hg_36_59, hq_36_59, hg_36_60, hq_36_60, hg_36_61, hl_37, hs_37, hl_38, hs_38, hl_39, hs_39, hl_40, hs_40, hl_41, hs_41, hl_42, hs_42, hl_43, hs_43, hl_44, hs_44, hl_45, hs_45, hl_46, hs_46, hl_47, hs_47, hl_48, hs_48, hl_49, hs_49, hl_50, hs_50, hl_51, hs_51, hl_52, hs_52, hl_53, hs_53, hl_54, hs_54, hl_55, hs_55, hl_56, hs_56, hl_57, hs_57, hl_58, hs_58, hl_59, hs_59, hl_60, hs_60, hl_61, hs_61, hl_62, hs_62, hl_63, hs_63, hl_64, hs_64, hl_65, hs_65, hl_66, hs_66, hl_67, hs_67, hl_68, hs_68, hl_69, hs_69, hl_70, hs_70, hl_71, hs_71, am_ld_cons, am_ld_nil, am_st1_cons, am_st1_nil, am_st2_cons, am_st2_nil, am_P1, am_P2, Value.category, am_add_add, am_add0, am_add_some, e4, e5, f1, f2, f3, z0, z1, z2, z3, g1, g2, g3, g4, g5, g6, t1, t2, t3, u1, u2, u3, hp1, hp2, q1, q2, q3, w1, w2, ha, wr_fold, w5, w6, w7, w8, r1, r2, r3, r4, r5, r6, r7, r8]
  exact key _ _ _ _ (by omega) (kb_cons (by omega) (kb_cons (by omega) (kb_le (by omega) k5)))
set_option maxRecDepth 100000 in
set_option maxHeartbeats 4000000 in
theorem r97_go (scr : Nat → Int32) (L F d : Nat) (I : am_I) (J : am_J) (M : am_I) (t u N : Nat) (R : Option am_X) (hN : N ≤ F + 20900) (key : h7 scr L d (am_r scr L (F + 21000) d) I J N 2 (wr (wr M 54 0 (nI t)) 54 1 (nI u)) R) : am_r scr L (F + 21000) (d + 1) 97 [.ref 37, .int (nI t), .int (nI u)] (hp I J M) = R := by
  unfold h7 at key
  have e2 : nI 2 = 2 := by decide +kernel
  rw [e2] at key
  have t0 : (0 : Int32).toNatClampNeg = 0 := by decide +kernel
  have t1 : (1 : Int32).toNatClampNeg = 1 := by decide +kernel
  simp [r_97, s_97_0, s_97_1, s_97_2, s_97_3, s_97_6, s_97_7, s_97_8, s_97_9, s_97_10, s_97_13, s_97_14, s_97_15, s_97_17, s_97_20, s_97_23, s_97_24, s_97_27, s_97_28, s_97_29, s_97_31, s_97_32, s_97_35, s_97_36, s_97_37, s_97_38, s_97_39, s_97_41, s_97_43, s_97_45, s_97_48, s_97_50, s_97_51, s_97_54, s_97_56, s_97_57, s_97_60, s_97_61, s_97_64, s_97_66, s_97_67, s_97_68, s_97_71, s_97_73, s_97_74, s_97_77, s_97_78, s_97_81, s_97_83, s_97_84, s_97_85, s_97_88, s_97_89, s_97_90, s_97_91, s_97_94, s_97_95, s_97_96, s_97_99, s_97_101, s_97_102, s_97_103, s_97_104, s_97_107, s_97_108, s_97_109, s_97_110, s_97_111, s_97_114, s_97_116, s_97_117, s_97_118, s_97_121, s_97_122, s_97_125, s_97_127, s_97_128, s_97_129, s_97_132, s_97_133, s_97_136, s_97_137, s_97_138, s_97_141, s_97_143, s_97_144, s_97_145, s_97_146, s_97_149, s_97_150, s_97_151, s_97_152, s_97_153, s_97_156, s_97_158, s_97_159, s_97_160, s_97_163, s_97_166, s_97_167, ha_36, hg_36_0, hq_36_0, hg_36_1, hg_36_2, hq_36_2, hg_36_3, hg_36_4, hg_36_5, hg_36_6, hq_36_6, hg_36_7, hq_36_7, hg_36_8, hq_36_8, hg_36_9, hg_36_10, hg_36_11, hg_36_12, hg_36_13, hg_36_14, hg_36_15, hg_36_16, hg_36_17, hg_36_18, hq_36_18, hg_36_19, hg_36_20, hq_36_20, hg_36_21, hq_36_21, hg_36_22, hg_36_23, hq_36_23, hg_36_24, hg_36_25, hq_36_25, hg_36_26, hq_36_26, hg_36_27, hq_36_27, hg_36_28, hq_36_28, hg_36_29, hg_36_30, hg_36_31, hq_36_31, hg_36_32, hg_36_33, hg_36_34, hg_36_35, hq_36_35, hg_36_36, hg_36_37, hg_36_38, hg_36_39, hg_36_40, hq_36_40, hg_36_41, hg_36_42, hg_36_43, hg_36_44, hq_36_44, hg_36_45, hg_36_46, hg_36_47, hg_36_48, hg_36_49, hq_36_49, hg_36_50, hg_36_51, hq_36_51, hg_36_52, hq_36_52, hg_36_53, hq_36_53, hg_36_54, hq_36_54, hg_36_55, hq_36_55, hg_36_56, hq_36_56, hg_36_57, hg_36_58, hq_36_58, hg_36_59, hq_36_59, hg_36_60, hq_36_60, hg_36_61, hl_37, hs_37, hl_38, hs_38, hl_39, hs_39, hl_40, hs_40, hl_41, hs_41, hl_42, hs_42, hl_43, hs_43, hl_44, hs_44, hl_45, hs_45, hl_46, hs_46, hl_47, hs_47, hl_48, hs_48, hl_49, hs_49, hl_50, hs_50, hl_51, hs_51, hl_52, hs_52, hl_53, hs_53, hl_54, hs_54, hl_55, hs_55, hl_56, hs_56, hl_57, hs_57, hl_58, hs_58, hl_59, hs_59, hl_60, hs_60, hl_61, hs_61, hl_62, hs_62, hl_63, hs_63, hl_64, hs_64, hl_65, hs_65, hl_66, hs_66, hl_67, hs_67, hl_68, hs_68, hl_69, hs_69, hl_70, hs_70, hl_71, hs_71, am_ld_cons, am_ld_nil, am_st1_cons, am_st1_nil, am_st2_cons, am_st2_nil, am_P1, am_P2, Value.category, am_add_add, am_add0, am_add_some, wr_fold, t0, t1]
  exact key _ _ _ _ (by omega) (kb_nil 4)
