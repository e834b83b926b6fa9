/-! write: the class's Reader.append and the reference's write, both by w_1 and w_2. -/
theorem am_ld_st1 (i : Nat) (v : Value) : ∀ lv : am_L, am_ld (am_st1 lv i v) i = some v
  | [] => by simp [am_st1_nil, am_ld_cons]
  | (k, x) :: t => by
    rw [am_st1_cons]
    by_cases h : k < i
    · rw [if_pos h]
      by_cases hp : am_P1 i (k, x) = true
      · rw [if_pos hp, am_ld_cons, if_neg (by omega)]
        exact am_ld_st1 i v t
      · rw [if_neg hp]
        exact am_ld_st1 i v t
    · rw [if_neg h, am_ld_cons, if_pos rfl]
def w_b (w : Int64) (s : Int32) : Int32 := (w.toUInt64 >>> (s.toInt64.toUInt64 &&& Int64.toUInt64 63)).toInt64.toInt32 &&& 255
def w_c (b : Int32) : Int32 := vp_nar .char (b.toUInt32 % 65536).toInt32
/-- how many of the lowest j bytes aren't 0; none if one is no character -/
def w_1 (w : Int64) : Nat → Int32 → Option Int32
  | 0, m => some m
  | j + 1, m => if ¬ w_b w (nI (8 * j)) = 0 ∧ (w_b w (nI (8 * j)) < 32 ∨ 126 < w_b w (nI (8 * j))) then none else w_1 w j (if w_b w (nI (8 * j)) = 0 then m else m + 1)
/-- the text behind a write -/
def w_2 (w : Int64) : Nat → (Nat → Int32) → Nat → (Nat → Int32) × Nat
  | 0, t, c => (t, c)
  | j + 1, t, c => if w_b w (nI (8 * j)) = 0 then w_2 w j t c else w_2 w j (upd t c (w_c (w_b w (nI (8 * j))))) (c + 1)
def w_s (j : Nat) : Int32 := match j with
  | 0 => -8
  | k + 1 => nI (8 * k)
def w_k (j : Nat) : Int32 := match j with
  | 0 => -1
  | k + 1 => nI k
theorem w_s_dec : ∀ j, j < 8 → nI (8 * j) + (-8) = w_s j := by decide +kernel
theorem w_k_dec : ∀ j, j < 8 → nI j + (-1) = w_k j := by decide +kernel
theorem w_s_pos : ∀ j, j < 8 → ¬ nI (8 * j) < 0 := by decide +kernel
theorem w_k_pos : ∀ j, j < 8 → ¬ nI j < 0 := by decide +kernel
theorem w_k_mul : ∀ j, j < 8 → 8 * nI j = nI (8 * j) := by decide +kernel
set_option maxRecDepth 100000 in
set_option maxHeartbeats 4000000 in
theorem l_57_a (d L : Nat) (scr : Nat → Int32) (call : Nat → List Value → am_H → Option am_X) (w : Int64) (h : am_H) (r : Option am_X) : ∀ (j : Nat), j ≤ 8 → ∀ (n : Nat) (m : Int32) (tl : am_L), (w_1 w j m = none → r = some (some (.int 0), h, 0, 0)) →
    (∀ (n' : Nat) (m' : Int32) (tl' : am_L), n ≤ n' → w_1 w j m = some m' → am_f d scr L call 57 n' 57 ((0, .ref 19) :: (1, .long w) :: (3, .int m') :: (4, .int (-8)) :: tl') [] h = r) →
    am_f d scr L call 57 (n + (30 * j + 10)) 6 ((0, .ref 19) :: (1, .long w) :: (3, .int m) :: (4, .int (w_s j)) :: tl) [] h = r := by
  intro j
  induction j with
  | zero =>
    intro hj n m tl hb hk
    have h0 := hk (n + 8) m tl (by omega) rfl
    simp [s_57_6, s_57_8, w_s, am_ld_cons, am_ld_nil, am_st1_cons, am_st1_nil, am_st2_cons, am_st2_nil, am_P1, am_P2, Value.category]
    exact h0
  | succ j ih =>
    intro hj n m tl hb hk
    have e1 : n + (30 * (j + 1) + 10) = (n + (30 * j + 10)) + 30 := by omega
    rw [e1]
    have hp := w_s_pos j (by omega)
    have hd := w_s_dec j (by omega)
    simp only [w_1] at hb hk
    generalize hbe : w_b w (nI (8 * j)) = b at hb hk
    have hbe2 : (w.toUInt64 >>> ((nI (8 * j)).toInt64.toUInt64 &&& Int64.toUInt64 63)).toInt64.toInt32 &&& 255 = b := hbe
    generalize hN : n + (30 * j + 10) = N
    have ihN : ∀ (k : Nat) (m2 : Int32) (tl2 : am_L), (w_1 w j m2 = none → r = some (some (.int 0), h, 0, 0)) → (∀ (n' : Nat) (m' : Int32) (tl' : am_L), n ≤ n' → w_1 w j m2 = some m' → am_f d scr L call 57 n' 57 ((0, .ref 19) :: (1, .long w) :: (3, .int m') :: (4, .int (-8)) :: tl') [] h = r) → am_f d scr L call 57 (N + k) 6 ((0, .ref 19) :: (1, .long w) :: (3, .int m2) :: (4, .int (w_s j)) :: tl2) [] h = r := by
      intro k m2 tl2 h1 h2
      rw [← hN, show n + (30 * j + 10) + k = (n + k) + (30 * j + 10) by omega]
      exact ih (by omega) (n + k) m2 tl2 h1 (fun n' m' tl' hn h3 => h2 n' m' tl' (by omega) h3)
    show am_f d scr L call 57 (N + 30) 6 ((0, .ref 19) :: (1, .long w) :: (3, .int m) :: (4, .int (nI (8 * j))) :: tl) [] h = r
    rw [s_57_6]
    by_cases hz : b = 0
    · subst hz
      simp [s_57_0, s_57_1, s_57_2, s_57_4, s_57_8, s_57_11, s_57_12, s_57_14, s_57_15, s_57_16, s_57_19, s_57_20, s_57_22, s_57_24, s_57_27, s_57_29, s_57_31, s_57_34, s_57_36, s_57_38, s_57_41, s_57_42, s_57_43, s_57_45, s_57_48, s_57_51, s_57_54, s_57_57, s_57_58, s_57_60, s_57_61, s_57_64, s_57_65, s_57_68, s_57_69, s_57_70, s_57_72, s_57_74, s_57_76, s_57_79, s_57_80, s_57_82, s_57_83, s_57_84, s_57_87, s_57_88, s_57_90, s_57_92, s_57_95, s_57_96, s_57_99, s_57_100, s_57_103, s_57_105, s_57_106, s_57_107, s_57_108, s_57_109, s_57_112, s_57_113, s_57_114, s_57_117, s_57_120, s_57_123, s_57_124, am_ld_cons, am_ld_nil, am_st1_cons, am_st1_nil, am_st2_cons, am_st2_nil, am_P1, am_P2, Value.category, hp, hd, hbe2, am_ld_st1]
      exact ihN _ m _ (by simpa using hb) (fun n' m' tl' hn h1 => hk n' m' tl' hn (by simpa using h1))
    · by_cases hbad : b < 32 ∨ 126 < b
      · have hr := hb (by simp [hz, hbad])
        rw [hr]
        rcases hbad with hb1 | hb1
        · simp [s_57_0, s_57_1, s_57_2, s_57_4, s_57_8, s_57_11, s_57_12, s_57_14, s_57_15, s_57_16, s_57_19, s_57_20, s_57_22, s_57_24, s_57_27, s_57_29, s_57_31, s_57_34, s_57_36, s_57_38, s_57_41, s_57_42, s_57_43, s_57_45, s_57_48, s_57_51, s_57_54, s_57_57, s_57_58, s_57_60, s_57_61, s_57_64, s_57_65, s_57_68, s_57_69, s_57_70, s_57_72, s_57_74, s_57_76, s_57_79, s_57_80, s_57_82, s_57_83, s_57_84, s_57_87, s_57_88, s_57_90, s_57_92, s_57_95, s_57_96, s_57_99, s_57_100, s_57_103, s_57_105, s_57_106, s_57_107, s_57_108, s_57_109, s_57_112, s_57_113, s_57_114, s_57_117, s_57_120, s_57_123, s_57_124, am_ld_cons, am_ld_nil, am_st1_cons, am_st1_nil, am_st2_cons, am_st2_nil, am_P1, am_P2, Value.category, hp, hd, hbe2, am_ld_st1, hz, hb1]
        · have hb2 : ¬ b ≤ 126 := Int32.not_le.mpr hb1
          by_cases hb3 : b < 32
          · simp [s_57_0, s_57_1, s_57_2, s_57_4, s_57_8, s_57_11, s_57_12, s_57_14, s_57_15, s_57_16, s_57_19, s_57_20, s_57_22, s_57_24, s_57_27, s_57_29, s_57_31, s_57_34, s_57_36, s_57_38, s_57_41, s_57_42, s_57_43, s_57_45, s_57_48, s_57_51, s_57_54, s_57_57, s_57_58, s_57_60, s_57_61, s_57_64, s_57_65, s_57_68, s_57_69, s_57_70, s_57_72, s_57_74, s_57_76, s_57_79, s_57_80, s_57_82, s_57_83, s_57_84, s_57_87, s_57_88, s_57_90, s_57_92, s_57_95, s_57_96, s_57_99, s_57_100, s_57_103, s_57_105, s_57_106, s_57_107, s_57_108, s_57_109, s_57_112, s_57_113, s_57_114, s_57_117, s_57_120, s_57_123, s_57_124, am_ld_cons, am_ld_nil, am_st1_cons, am_st1_nil, am_st2_cons, am_st2_nil, am_P1, am_P2, Value.category, hp, hd, hbe2, am_ld_st1, hz, hb3]
          · simp [s_57_0, s_57_1, s_57_2, s_57_4, s_57_8, s_57_11, s_57_12, s_57_14, s_57_15, s_57_16, s_57_19, s_57_20, s_57_22, s_57_24, s_57_27, s_57_29, s_57_31, s_57_34, s_57_36, s_57_38, s_57_41, s_57_42, s_57_43, s_57_45, s_57_48, s_57_51, s_57_54, s_57_57, s_57_58, s_57_60, s_57_61, s_57_64, s_57_65, s_57_68, s_57_69, s_57_70, s_57_72, s_57_74, s_57_76, s_57_79, s_57_80, s_57_82, s_57_83, s_57_84, s_57_87, s_57_88, s_57_90, s_57_92, s_57_95, s_57_96, s_57_99, s_57_100, s_57_103, s_57_105, s_57_106, s_57_107, s_57_108, s_57_109, s_57_112, s_57_113, s_57_114, s_57_117, s_57_120, s_57_123, s_57_124, am_ld_cons, am_ld_nil, am_st1_cons, am_st1_nil, am_st2_cons, am_st2_nil, am_P1, am_P2, Value.category, hp, hd, hbe2, am_ld_st1, hz, hb2, hb3]
      · have hb3 : ¬ b < 32 := fun z => hbad (Or.inl z)
        have hb2 : b ≤ 126 := Int32.not_lt.mp (fun z => hbad (Or.inr z))
        simp [s_57_0, s_57_1, s_57_2, s_57_4, s_57_8, s_57_11, s_57_12, s_57_14, s_57_15, s_57_16, s_57_19, s_57_20, s_57_22, s_57_24, s_57_27, s_57_29, s_57_31, s_57_34, s_57_36, s_57_38, s_57_41, s_57_42, s_57_43, s_57_45, s_57_48, s_57_51, s_57_54, s_57_57, s_57_58, s_57_60, s_57_61, s_57_64, s_57_65, s_57_68, s_57_69, s_57_70, s_57_72, s_57_74, s_57_76, s_57_79, s_57_80, s_57_82, s_57_83, s_57_84, s_57_87, s_57_88, s_57_90, s_57_92, s_57_95, s_57_96, s_57_99, s_57_100, s_57_103, s_57_105, s_57_106, s_57_107, s_57_108, s_57_109, s_57_112, s_57_113, s_57_114, s_57_117, s_57_120, s_57_123, s_57_124, am_ld_cons, am_ld_nil, am_st1_cons, am_st1_nil, am_st2_cons, am_st2_nil, am_P1, am_P2, Value.category, hp, hd, hbe2, am_ld_st1, hz, hb2, hb3]
        exact ihN _ (m + 1) _ (by simpa [hz, hbad] using hb) (fun n' m' tl' hn h1 => hk n' m' tl' hn (by simpa [hz, hbad] using h1))
set_option maxRecDepth 100000 in
set_option maxHeartbeats 4000000 in
theorem l_94_a (d L : Nat) (scr : Nat → Int32) (call : Nat → List Value → am_H → Option am_X) (w : Int64) (h : am_H) (r : Option am_X) : ∀ (j : Nat), j ≤ 8 → ∀ (n : Nat) (m : Int32) (tl : am_L), (w_1 w j m = none → r = some (some (.int 0), h, 0, 0)) →
    (∀ (n' : Nat) (m' : Int32) (tl' : am_L), n ≤ n' → w_1 w j m = some m' → am_f d scr L call 94 n' 65 ((0, .ref 37) :: (1, .long w) :: (3, .int m') :: (4, .int (-1)) :: tl') [] h = r) →
    am_f d scr L call 94 (n + (30 * j + 10)) 6 ((0, .ref 37) :: (1, .long w) :: (3, .int m) :: (4, .int (w_k j)) :: tl) [] h = r := by
  intro j
  induction j with
  | zero =>
    intro hj n m tl hb hk
    have h0 := hk (n + 8) m tl (by omega) rfl
    simp [s_94_6, s_94_8, w_k, am_ld_cons, am_ld_nil, am_st1_cons, am_st1_nil, am_st2_cons, am_st2_nil, am_P1, am_P2, Value.category]
    exact h0
  | succ j ih =>
    intro hj n m tl hb hk
    have e1 : n + (30 * (j + 1) + 10) = (n + (30 * j + 10)) + 30 := by omega
    rw [e1]
    have hp := w_k_pos j (by omega)
    have hd := w_k_dec j (by omega)
    simp only [w_1] at hb hk
    generalize hbe : w_b w (nI (8 * j)) = b at hb hk
    have hbe2 : (w.toUInt64 >>> ((nI (8 * j)).toInt64.toUInt64 &&& Int64.toUInt64 63)).toInt64.toInt32 &&& 255 = b := hbe
    generalize hN : n + (30 * j + 10) = N
    have ihN : ∀ (k : Nat) (m2 : Int32) (tl2 : am_L), (w_1 w j m2 = none → r = some (some (.int 0), h, 0, 0)) → (∀ (n' : Nat) (m' : Int32) (tl' : am_L), n ≤ n' → w_1 w j m2 = some m' → am_f d scr L call 94 n' 65 ((0, .ref 37) :: (1, .long w) :: (3, .int m') :: (4, .int (-1)) :: tl') [] h = r) → am_f d scr L call 94 (N + k) 6 ((0, .ref 37) :: (1, .long w) :: (3, .int m2) :: (4, .int (w_k j)) :: tl2) [] h = r := by
      intro k m2 tl2 h1 h2
      rw [← hN, show n + (30 * j + 10) + k = (n + k) + (30 * j + 10) by omega]
      exact ih (by omega) (n + k) m2 tl2 h1 (fun n' m' tl' hn h3 => h2 n' m' tl' (by omega) h3)
    show am_f d scr L call 94 (N + 30) 6 ((0, .ref 37) :: (1, .long w) :: (3, .int m) :: (4, .int (nI j)) :: tl) [] h = r
    rw [s_94_6]
    by_cases hz : b = 0
    · subst hz
      simp [s_94_0, s_94_1, s_94_2, s_94_4, s_94_8, s_94_11, s_94_12, s_94_14, s_94_16, s_94_17, s_94_18, s_94_19, s_94_22, s_94_23, s_94_25, s_94_27, s_94_30, s_94_32, s_94_34, s_94_37, s_94_39, s_94_41, s_94_44, s_94_45, s_94_46, s_94_48, s_94_51, s_94_52, s_94_53, s_94_54, s_94_57, s_94_58, s_94_59, s_94_62, s_94_65, s_94_66, s_94_69, s_94_70, s_94_71, s_94_73, s_94_76, s_94_77, s_94_78, s_94_80, s_94_82, s_94_84, s_94_87, s_94_88, s_94_90, s_94_92, s_94_93, s_94_94, s_94_95, s_94_98, s_94_99, s_94_101, s_94_103, s_94_106, s_94_107, s_94_110, s_94_111, s_94_114, s_94_116, s_94_117, s_94_118, s_94_119, s_94_120, s_94_123, s_94_124, s_94_125, s_94_128, s_94_131, s_94_134, s_94_135, am_ld_cons, am_ld_nil, am_st1_cons, am_st1_nil, am_st2_cons, am_st2_nil, am_P1, am_P2, Value.category, hp, hd, hbe2, am_ld_st1, w_k_mul j (by omega)]
      exact ihN _ m _ (by simpa using hb) (fun n' m' tl' hn h1 => hk n' m' tl' hn (by simpa using h1))
    · by_cases hbad : b < 32 ∨ 126 < b
      · have hr := hb (by simp [hz, hbad])
        rw [hr]
        rcases hbad with hb1 | hb1
        · simp [s_94_0, s_94_1, s_94_2, s_94_4, s_94_8, s_94_11, s_94_12, s_94_14, s_94_16, s_94_17, s_94_18, s_94_19, s_94_22, s_94_23, s_94_25, s_94_27, s_94_30, s_94_32, s_94_34, s_94_37, s_94_39, s_94_41, s_94_44, s_94_45, s_94_46, s_94_48, s_94_51, s_94_52, s_94_53, s_94_54, s_94_57, s_94_58, s_94_59, s_94_62, s_94_65, s_94_66, s_94_69, s_94_70, s_94_71, s_94_73, s_94_76, s_94_77, s_94_78, s_94_80, s_94_82, s_94_84, s_94_87, s_94_88, s_94_90, s_94_92, s_94_93, s_94_94, s_94_95, s_94_98, s_94_99, s_94_101, s_94_103, s_94_106, s_94_107, s_94_110, s_94_111, s_94_114, s_94_116, s_94_117, s_94_118, s_94_119, s_94_120, s_94_123, s_94_124, s_94_125, s_94_128, s_94_131, s_94_134, s_94_135, am_ld_cons, am_ld_nil, am_st1_cons, am_st1_nil, am_st2_cons, am_st2_nil, am_P1, am_P2, Value.category, hp, hd, hbe2, am_ld_st1, hz, hb1, w_k_mul j (by omega)]
        · have hb2 : ¬ b ≤ 126 := Int32.not_le.mpr hb1
          by_cases hb3 : b < 32
          · simp [s_94_0, s_94_1, s_94_2, s_94_4, s_94_8, s_94_11, s_94_12, s_94_14, s_94_16, s_94_17, s_94_18, s_94_19, s_94_22, s_94_23, s_94_25, s_94_27, s_94_30, s_94_32, s_94_34, s_94_37, s_94_39, s_94_41, s_94_44, s_94_45, s_94_46, s_94_48, s_94_51, s_94_52, s_94_53, s_94_54, s_94_57, s_94_58, s_94_59, s_94_62, s_94_65, s_94_66, s_94_69, s_94_70, s_94_71, s_94_73, s_94_76, s_94_77, s_94_78, s_94_80, s_94_82, s_94_84, s_94_87, s_94_88, s_94_90, s_94_92, s_94_93, s_94_94, s_94_95, s_94_98, s_94_99, s_94_101, s_94_103, s_94_106, s_94_107, s_94_110, s_94_111, s_94_114, s_94_116, s_94_117, s_94_118, s_94_119, s_94_120, s_94_123, s_94_124, s_94_125, s_94_128, s_94_131, s_94_134, s_94_135, am_ld_cons, am_ld_nil, am_st1_cons, am_st1_nil, am_st2_cons, am_st2_nil, am_P1, am_P2, Value.category, hp, hd, hbe2, am_ld_st1, hz, hb3, w_k_mul j (by omega)]
          · simp [s_94_0, s_94_1, s_94_2, s_94_4, s_94_8, s_94_11, s_94_12, s_94_14, s_94_16, s_94_17, s_94_18, s_94_19, s_94_22, s_94_23, s_94_25, s_94_27, s_94_30, s_94_32, s_94_34, s_94_37, s_94_39, s_94_41, s_94_44, s_94_45, s_94_46, s_94_48, s_94_51, s_94_52, s_94_53, s_94_54, s_94_57, s_94_58, s_94_59, s_94_62, s_94_65, s_94_66, s_94_69, s_94_70, s_94_71, s_94_73, s_94_76, s_94_77, s_94_78, s_94_80, s_94_82, s_94_84, s_94_87, s_94_88, s_94_90, s_94_92, s_94_93, s_94_94, s_94_95, s_94_98, s_94_99, s_94_101, s_94_103, s_94_106, s_94_107, s_94_110, s_94_111, s_94_114, s_94_116, s_94_117, s_94_118, s_94_119, s_94_120, s_94_123, s_94_124, s_94_125, s_94_128, s_94_131, s_94_134, s_94_135, am_ld_cons, am_ld_nil, am_st1_cons, am_st1_nil, am_st2_cons, am_st2_nil, am_P1, am_P2, Value.category, hp, hd, hbe2, am_ld_st1, hz, hb2, hb3, w_k_mul j (by omega)]
      · have hb3 : ¬ b < 32 := fun z => hbad (Or.inl z)
        have hb2 : b ≤ 126 := Int32.not_lt.mp (fun z => hbad (Or.inr z))
        simp [s_94_0, s_94_1, s_94_2, s_94_4, s_94_8, s_94_11, s_94_12, s_94_14, s_94_16, s_94_17, s_94_18, s_94_19, s_94_22, s_94_23, s_94_25, s_94_27, s_94_30, s_94_32, s_94_34, s_94_37, s_94_39, s_94_41, s_94_44, s_94_45, s_94_46, s_94_48, s_94_51, s_94_52, s_94_53, s_94_54, s_94_57, s_94_58, s_94_59, s_94_62, s_94_65, s_94_66, s_94_69, s_94_70, s_94_71, s_94_73, s_94_76, s_94_77, s_94_78, s_94_80, s_94_82, s_94_84, s_94_87, s_94_88, s_94_90, s_94_92, s_94_93, s_94_94, s_94_95, s_94_98, s_94_99, s_94_101, s_94_103, s_94_106, s_94_107, s_94_110, s_94_111, s_94_114, s_94_116, s_94_117, s_94_118, s_94_119, s_94_120, s_94_123, s_94_124, s_94_125, s_94_128, s_94_131, s_94_134, s_94_135, am_ld_cons, am_ld_nil, am_st1_cons, am_st1_nil, am_st2_cons, am_st2_nil, am_P1, am_P2, Value.category, hp, hd, hbe2, am_ld_st1, hz, hb2, hb3, w_k_mul j (by omega)]
        exact ihN _ (m + 1) _ (by simpa [hz, hbad] using hb) (fun n' m' tl' hn h1 => hk n' m' tl' hn (by simpa [hz, hbad] using h1))
theorem w_2_le (w : Int64) : ∀ (j : Nat) (t : Nat → Int32) (c : Nat), c ≤ (w_2 w j t c).2
  | 0, t, c => Nat.le_refl _
  | j + 1, t, c => by
    unfold w_2
    split
    · exact w_2_le w j t c
    · exact Nat.le_trans (Nat.le_succ c) (w_2_le w j _ (c + 1))
theorem mm_ext {α : Type} {A B : Nat → α} (h : ∀ k, A k = B k) : A = B := funext h
/-- the memory behind a write: the text (cell a) and how long it is (cell b, place p) -/
def w_M (A : Nat → Nat → Int32) (a b p : Nat) (q : (Nat → Int32) × Nat) : Nat → Nat → Int32 := va_up (va_up A a q.1) b (upd (A b) p (nI q.2))
theorem w_M_id {A : Nat → Nat → Int32} {a b p c : Nat} (hab : a ≠ b) (hc : A b p = nI c) : w_M A a b p (A a, c) = A := by
  funext k
  by_cases h1 : k = b
  · subst h1
    unfold w_M
    rw [va_up_self]
    funext j
    by_cases h2 : j = p
    · subst h2
      rw [pk_us, hc]
    · rw [pk_un h2]
  · unfold w_M
    rw [va_up_ne _ _ h1]
    by_cases h2 : k = a
    · subst h2
      rw [va_up_self]
    · rw [va_up_ne _ _ h2]
theorem w_M_st {A : Nat → Nat → Int32} {a b p : Nat} (hab : a ≠ b) (t : Nat → Int32) (x : Int32) (q : (Nat → Int32) × Nat) : w_M (va_up (va_up A a t) b (upd (A b) p x)) a b p q = w_M A a b p q := by
  funext k
  unfold w_M
  by_cases h1 : k = b
  · subst h1
    rw [va_up_self, va_up_self, va_up_self]
    funext j
    by_cases h2 : j = p
    · subst h2
      rw [pk_us, pk_us]
    · rw [pk_un h2, pk_un h2, pk_un h2]
  · rw [va_up_ne _ _ h1, va_up_ne _ _ h1]
    by_cases h2 : k = a
    · subst h2
      rw [va_up_self, va_up_self]
    · rw [va_up_ne _ _ h2, va_up_ne _ _ h2, va_up_ne _ _ h1, va_up_ne _ _ h2]
set_option maxRecDepth 100000 in
set_option maxHeartbeats 4000000 in
theorem l_57_b (d L : Nat) (scr : Nat → Int32) (call : Nat → List Value → am_H → Option am_X) (w : Int64) (J : Nat → Nat → Int64) (M : Nat → Nat → Int32) : ∀ (j : Nat), j ≤ 8 → ∀ (n : Nat) (m : Int32) (tl : am_L) (I : Nat → Nat → Int32) (c : Nat), I 18 2 = nI c → (w_2 w j (I 19) c).2 ≤ 100 →
    am_f d scr L call 57 (n + (35 * j + 10)) 74 ((0, .ref 19) :: (1, .long w) :: (3, .int m) :: (4, .int (w_s j)) :: tl) [] (hp I J M) = some (some (.int 1), hp (w_M I 19 18 2 (w_2 w j (I 19) c)) J M, 0, 0) := by
  intro j
  induction j with
  | zero =>
    intro hj n m tl I c hc hle
    have e0 : w_M I 19 18 2 (w_2 w 0 (I 19) c) = I := w_M_id (by decide) hc
    rw [e0]
    simp [s_57_0, s_57_1, s_57_2, s_57_4, s_57_6, s_57_8, s_57_11, s_57_12, s_57_14, s_57_15, s_57_16, s_57_19, s_57_20, s_57_22, s_57_24, s_57_27, s_57_29, s_57_31, s_57_34, s_57_36, s_57_38, s_57_41, s_57_42, s_57_43, s_57_45, s_57_48, s_57_51, s_57_54, s_57_57, s_57_58, s_57_60, s_57_61, s_57_64, s_57_65, s_57_68, s_57_69, s_57_70, s_57_72, s_57_76, s_57_79, s_57_80, s_57_82, s_57_83, s_57_84, s_57_87, s_57_88, s_57_90, s_57_92, s_57_95, s_57_96, s_57_99, s_57_100, s_57_103, s_57_105, s_57_106, s_57_107, s_57_108, s_57_109, s_57_112, s_57_113, s_57_114, s_57_117, s_57_120, s_57_123, s_57_124, s_57_74, w_s, am_ld_cons, am_ld_nil, am_st1_cons, am_st1_nil, am_st2_cons, am_st2_nil, am_P1, am_P2, Value.category]
  | succ j ih =>
    intro hj n m tl I c hc hle
    have e1 : n + (35 * (j + 1) + 10) = (n + (35 * j + 10)) + 35 := by omega
    rw [e1]
    have hp1 := w_s_pos j (by omega)
    have hd1 := w_s_dec j (by omega)
    generalize hN : n + (35 * j + 10) = N
    have ihN : ∀ (k : Nat) (m2 : Int32) (tl2 : am_L) (A : Nat → Nat → Int32) (c2 : Nat), A 18 2 = nI c2 → (w_2 w j (A 19) c2).2 ≤ 100 → am_f d scr L call 57 (N + k) 74 ((0, .ref 19) :: (1, .long w) :: (3, .int m2) :: (4, .int (w_s j)) :: tl2) [] (hp A J M) = some (some (.int 1), hp (w_M A 19 18 2 (w_2 w j (A 19) c2)) J M, 0, 0) := by
      intro k m2 tl2 A c2 h1 h2
      rw [← hN, show n + (35 * j + 10) + k = (n + k) + (35 * j + 10) by omega]
      exact ih (by omega) (n + k) m2 tl2 A c2 h1 h2
    show am_f d scr L call 57 (N + 35) 74 ((0, .ref 19) :: (1, .long w) :: (3, .int m) :: (4, .int (nI (8 * j))) :: tl) [] (hp I J M) = _
    rw [s_57_74]
    unfold w_2 at hle ⊢
    generalize hbe : w_b w (nI (8 * j)) = b at hle ⊢
    have hbe2 : (w.toUInt64 >>> ((nI (8 * j)).toInt64.toUInt64 &&& Int64.toUInt64 63)).toInt64.toInt32 &&& 255 = b := hbe
    by_cases hz : b = 0
    · subst hz
      rw [if_pos rfl] at hle ⊢
      simp [s_57_0, s_57_1, s_57_2, s_57_4, s_57_6, s_57_8, s_57_11, s_57_12, s_57_14, s_57_15, s_57_16, s_57_19, s_57_20, s_57_22, s_57_24, s_57_27, s_57_29, s_57_31, s_57_34, s_57_36, s_57_38, s_57_41, s_57_42, s_57_43, s_57_45, s_57_48, s_57_51, s_57_54, s_57_57, s_57_58, s_57_60, s_57_61, s_57_64, s_57_65, s_57_68, s_57_69, s_57_70, s_57_72, s_57_76, s_57_79, s_57_80, s_57_82, s_57_83, s_57_84, s_57_87, s_57_88, s_57_90, s_57_92, s_57_95, s_57_96, s_57_99, s_57_100, s_57_103, s_57_105, s_57_106, s_57_107, s_57_108, s_57_109, s_57_112, s_57_113, s_57_114, s_57_117, s_57_120, s_57_123, s_57_124, ha_0, hg_0_0, hg_0_1, hg_0_2, hg_0_3, hg_0_4, hq_0_4, hg_0_5, hq_0_5, ha_1, hg_1_0, hg_1_1, hg_1_2, hg_1_3, hg_1_4, hg_1_5, hg_1_6, hg_1_7, hg_1_8, hg_1_9, hg_1_10, hg_1_11, hg_1_12, hq_1_12, ha_2, hg_2_0, hg_2_1, hg_2_2, hg_2_3, hg_2_4, hq_2_4, hl_3, hs_3, hl_4, hs_4, hl_5, hs_5, hl_6, hs_6, hl_7, hs_7, hl_8, hs_8, hl_9, hs_9, hl_10, hs_10, hl_11, hs_11, hl_12, hs_12, hl_13, hs_13, hl_14, hs_14, hl_15, hs_15, hl_16, hs_16, hl_17, hs_17, ha_18, hg_18_0, hg_18_1, hg_18_2, hq_18_2, hg_18_3, hq_18_3, hl_19, hs_19, ha_20, hg_20_0, hg_20_1, ha_21, hg_21_0, hg_21_1, hg_21_2, hg_21_3, hg_21_4, hg_21_5, hg_21_6, hq_21_6, hg_21_7, hg_21_8, hg_21_9, hg_21_10, hq_21_10, hg_21_11, hq_21_11, hg_21_12, hq_21_12, hg_21_13, hq_21_13, hg_21_14, hq_21_14, hg_21_15, hq_21_15, hg_21_16, hq_21_16, hg_21_17, hq_21_17, ha_22, hg_22_0, hg_22_1, hg_22_2, hg_22_3, hg_22_4, hg_22_5, hg_22_6, hq_22_6, hg_22_7, hq_22_7, hg_22_8, hq_22_8, hl_23, hs_23, hl_24, hs_24, hl_25, hs_25, hl_26, hs_26, hl_27, hs_27, ha_28, hg_28_0, hg_28_1, hq_28_1, hl_29, hs_29, hl_30, hs_30, hl_31, hs_31, hl_32, hs_32, hl_33, hs_33, hl_34, hs_34, hl_35, hs_35, am_ld_cons, am_ld_nil, am_st1_cons, am_st1_nil, am_st2_cons, am_st2_nil, am_P1, am_P2, Value.category, hp1, hd1, hbe2, am_ld_st1]
      exact ihN _ m _ I c hc hle
    · rw [if_neg hz] at hle ⊢
      have hc100 : c + 1 ≤ 100 := Nat.le_trans (w_2_le w j _ (c + 1)) hle
      have g1 : ¬ nI c < 0 := nI_pos (by omega)
      have g2 : (nI c).toNatClampNeg = c := nI_clamp (by omega)
      have g3 : ¬ 100 ≤ c := by omega
      have g4 : nI c + 1 = nI (c + 1) := nI_1 c
      simp [s_57_0, s_57_1, s_57_2, s_57_4, s_57_6, s_57_8, s_57_11, s_57_12, s_57_14, s_57_15, s_57_16, s_57_19, s_57_20, s_57_22, s_57_24, s_57_27, s_57_29, s_57_31, s_57_34, s_57_36, s_57_38, s_57_41, s_57_42, s_57_43, s_57_45, s_57_48, s_57_51, s_57_54, s_57_57, s_57_58, s_57_60, s_57_61, s_57_64, s_57_65, s_57_68, s_57_69, s_57_70, s_57_72, s_57_76, s_57_79, s_57_80, s_57_82, s_57_83, s_57_84, s_57_87, s_57_88, s_57_90, s_57_92, s_57_95, s_57_96, s_57_99, s_57_100, s_57_103, s_57_105, s_57_106, s_57_107, s_57_108, s_57_109, s_57_112, s_57_113, s_57_114, s_57_117, s_57_120, s_57_123, s_57_124, ha_0, hg_0_0, hg_0_1, hg_0_2, hg_0_3, hg_0_4, hq_0_4, hg_0_5, hq_0_5, ha_1, hg_1_0, hg_1_1, hg_1_2, hg_1_3, hg_1_4, hg_1_5, hg_1_6, hg_1_7, hg_1_8, hg_1_9, hg_1_10, hg_1_11, hg_1_12, hq_1_12, ha_2, hg_2_0, hg_2_1, hg_2_2, hg_2_3, hg_2_4, hq_2_4, hl_3, hs_3, hl_4, hs_4, hl_5, hs_5, hl_6, hs_6, hl_7, hs_7, hl_8, hs_8, hl_9, hs_9, hl_10, hs_10, hl_11, hs_11, hl_12, hs_12, hl_13, hs_13, hl_14, hs_14, hl_15, hs_15, hl_16, hs_16, hl_17, hs_17, ha_18, hg_18_0, hg_18_1, hg_18_2, hq_18_2, hg_18_3, hq_18_3, hl_19, hs_19, ha_20, hg_20_0, hg_20_1, ha_21, hg_21_0, hg_21_1, hg_21_2, hg_21_3, hg_21_4, hg_21_5, hg_21_6, hq_21_6, hg_21_7, hg_21_8, hg_21_9, hg_21_10, hq_21_10, hg_21_11, hq_21_11, hg_21_12, hq_21_12, hg_21_13, hq_21_13, hg_21_14, hq_21_14, hg_21_15, hq_21_15, hg_21_16, hq_21_16, hg_21_17, hq_21_17, ha_22, hg_22_0, hg_22_1, hg_22_2, hg_22_3, hg_22_4, hg_22_5, hg_22_6, hq_22_6, hg_22_7, hq_22_7, hg_22_8, hq_22_8, hl_23, hs_23, hl_24, hs_24, hl_25, hs_25, hl_26, hs_26, hl_27, hs_27, ha_28, hg_28_0, hg_28_1, hq_28_1, hl_29, hs_29, hl_30, hs_30, hl_31, hs_31, hl_32, hs_32, hl_33, hs_33, hl_34, hs_34, hl_35, hs_35, am_ld_cons, am_ld_nil, am_st1_cons, am_st1_nil, am_st2_cons, am_st2_nil, am_P1, am_P2, Value.category, hp1, hd1, hbe2, am_ld_st1, hz, hc, g1, g2, g3, g4, va_up_self, va_up_ne]
      have k2 := fun kk tl2 => ihN kk m tl2 (va_up (va_up I 19 (upd (I 19) c (w_c b))) 18 (upd (I 18) 2 (nI (c + 1)))) (c + 1) (by rw [va_up_self, pk_us]) (by rw [va_up_ne _ _ (by decide), va_up_self]; exact hle)
      rw [w_M_st (by decide), va_up_ne _ _ (show (19 : Nat) ≠ 18 by decide), va_up_self] at k2
      exact k2 _ _
set_option maxRecDepth 100000 in
set_option maxHeartbeats 4000000 in
theorem l_94_b (d L : Nat) (scr : Nat → Int32) (call : Nat → List Value → am_H → Option am_X) (w : Int64) (J : Nat → Nat → Int64) (I : Nat → Nat → Int32) : ∀ (j : Nat), j ≤ 8 → ∀ (n : Nat) (m : Int32) (tl : am_L) (M : Nat → Nat → Int32) (c : Nat), M 36 0 = nI c → (w_2 w j (M 37) c).2 ≤ 100 →
    am_f d scr L call 94 (n + (35 * j + 10)) 82 ((0, .ref 37) :: (1, .long w) :: (3, .int m) :: (4, .int (w_k j)) :: tl) [] (hp I J M) = some (some (.int 1), hp I J (w_M M 37 36 0 (w_2 w j (M 37) c)), 0, 0) := by
  intro j
  induction j with
  | zero =>
    intro hj n m tl M c hc hle
    have e0 : w_M M 37 36 0 (w_2 w 0 (M 37) c) = M := w_M_id (by decide) hc
    rw [e0]
    simp [s_94_0, s_94_1, s_94_2, s_94_4, s_94_6, s_94_8, s_94_11, s_94_12, s_94_14, s_94_16, s_94_17, s_94_18, s_94_19, s_94_22, s_94_23, s_94_25, s_94_27, s_94_30, s_94_32, s_94_34, s_94_37, s_94_39, s_94_41, s_94_44, s_94_45, s_94_46, s_94_48, s_94_51, s_94_52, s_94_53, s_94_54, s_94_57, s_94_58, s_94_59, s_94_62, s_94_65, s_94_66, s_94_69, s_94_70, s_94_71, s_94_73, s_94_76, s_94_77, s_94_78, s_94_80, s_94_84, s_94_87, s_94_88, s_94_90, s_94_92, s_94_93, s_94_94, s_94_95, s_94_98, s_94_99, s_94_101, s_94_103, s_94_106, s_94_107, s_94_110, s_94_111, s_94_114, s_94_116, s_94_117, s_94_118, s_94_119, s_94_120, s_94_123, s_94_124, s_94_125, s_94_128, s_94_131, s_94_134, s_94_135, s_94_82, w_k, am_ld_cons, am_ld_nil, am_st1_cons, am_st1_nil, am_st2_cons, am_st2_nil, am_P1, am_P2, Value.category]
  | succ j ih =>
    intro hj n m tl M c hc hle
    have e1 : n + (35 * (j + 1) + 10) = (n + (35 * j + 10)) + 35 := by omega
    rw [e1]
    have hp1 := w_k_pos j (by omega)
    have hd1 := w_k_dec j (by omega)
    generalize hN : n + (35 * j + 10) = N
    have ihN : ∀ (k : Nat) (m2 : Int32) (tl2 : am_L) (A : Nat → Nat → Int32) (c2 : Nat), A 36 0 = nI c2 → (w_2 w j (A 37) c2).2 ≤ 100 → am_f d scr L call 94 (N + k) 82 ((0, .ref 37) :: (1, .long w) :: (3, .int m2) :: (4, .int (w_k j)) :: tl2) [] (hp I J A) = some (some (.int 1), hp I J (w_M A 37 36 0 (w_2 w j (A 37) c2)), 0, 0) := by
      intro k m2 tl2 A c2 h1 h2
      rw [← hN, show n + (35 * j + 10) + k = (n + k) + (35 * j + 10) by omega]
      exact ih (by omega) (n + k) m2 tl2 A c2 h1 h2
    show am_f d scr L call 94 (N + 35) 82 ((0, .ref 37) :: (1, .long w) :: (3, .int m) :: (4, .int (nI j)) :: tl) [] (hp I J M) = _
    rw [s_94_82]
    unfold w_2 at hle ⊢
    generalize hbe : w_b w (nI (8 * j)) = b at hle ⊢
    have hbe2 : (w.toUInt64 >>> ((nI (8 * j)).toInt64.toUInt64 &&& Int64.toUInt64 63)).toInt64.toInt32 &&& 255 = b := hbe
    by_cases hz : b = 0
    · subst hz
      rw [if_pos rfl] at hle ⊢
      simp [s_94_0, s_94_1, s_94_2, s_94_4, s_94_6, s_94_8, s_94_11, s_94_12, s_94_14, s_94_16, s_94_17, s_94_18, s_94_19, s_94_22, s_94_23, s_94_25, s_94_27, s_94_30, s_94_32, s_94_34, s_94_37, s_94_39, s_94_41, s_94_44, s_94_45, s_94_46, s_94_48, s_94_51, s_94_52, s_94_53, s_94_54, s_94_57, s_94_58, s_94_59, s_94_62, s_94_65, s_94_66, s_94_69, s_94_70, s_94_71, s_94_73, s_94_76, s_94_77, s_94_78, s_94_80, s_94_84, s_94_87, s_94_88, s_94_90, s_94_92, s_94_93, s_94_94, s_94_95, s_94_98, s_94_99, s_94_101, s_94_103, s_94_106, s_94_107, s_94_110, s_94_111, s_94_114, s_94_116, s_94_117, s_94_118, s_94_119, s_94_120, s_94_123, s_94_124, s_94_125, s_94_128, s_94_131, s_94_134, s_94_135, ha_36, hg_36_0, hq_36_0, hg_36_1, hg_36_2, hq_36_2, hg_36_3, hg_36_4, hg_36_5, hg_36_6, hq_36_6, hg_36_7, hq_36_7, hg_36_8, hq_36_8, hg_36_9, hg_36_10, hg_36_11, hg_36_12, hg_36_13, hg_36_14, hg_36_15, hg_36_16, hg_36_17, hg_36_18, hq_36_18, hg_36_19, hg_36_20, hq_36_20, hg_36_21, hq_36_21, hg_36_22, hg_36_23, hq_36_23, hg_36_24, hg_36_25, hq_36_25, hg_36_26, hq_36_26, hg_36_27, hq_36_27, hg_36_28, hq_36_28, hg_36_29, hg_36_30, hg_36_31, hq_36_31, hg_36_32, hg_36_33, hg_36_34, hg_36_35, hq_36_35, hg_36_36, hg_36_37, hg_36_38, hg_36_39, hg_36_40, hq_36_40, hg_36_41, hg_36_42, hg_36_43, hg_36_44, hq_36_44, hg_36_45, hg_36_46, hg_36_47, hg_36_48, hg_36_49, hq_36_49, hg_36_50, hg_36_51, hq_36_51, hg_36_52, hq_36_52, hg_36_53, hq_36_53, hg_36_54, hq_36_54, hg_36_55, hq_36_55, hg_36_56, hq_36_56, hg_36_57, hg_36_58, hq_36_58, hg_36_59, hq_36_59, hg_36_60, hq_36_60, hg_36_61, hl_37, hs_37, hl_38, hs_38, hl_39, hs_39, hl_40, hs_40, hl_41, hs_41, hl_42, hs_42, hl_43, hs_43, hl_44, hs_44, hl_45, hs_45, hl_46, hs_46, hl_47, hs_47, hl_48, hs_48, hl_49, hs_49, hl_50, hs_50, hl_51, hs_51, hl_52, hs_52, hl_53, hs_53, hl_54, hs_54, hl_55, hs_55, hl_56, hs_56, hl_57, hs_57, hl_58, hs_58, hl_59, hs_59, hl_60, hs_60, hl_61, hs_61, hl_62, hs_62, hl_63, hs_63, hl_64, hs_64, hl_65, hs_65, hl_66, hs_66, hl_67, hs_67, hl_68, hs_68, hl_69, hs_69, hl_70, hs_70, hl_71, hs_71, am_ld_cons, am_ld_nil, am_st1_cons, am_st1_nil, am_st2_cons, am_st2_nil, am_P1, am_P2, Value.category, hp1, hd1, hbe2, am_ld_st1, w_k_mul j (by omega)]
      exact ihN _ m _ M c hc hle
    · rw [if_neg hz] at hle ⊢
      have hc100 : c + 1 ≤ 100 := Nat.le_trans (w_2_le w j _ (c + 1)) hle
      have g1 : ¬ nI c < 0 := nI_pos (by omega)
      have g2 : (nI c).toNatClampNeg = c := nI_clamp (by omega)
      have g3 : ¬ 100 ≤ c := by omega
      have g4 : nI c + 1 = nI (c + 1) := nI_1 c
      simp [s_94_0, s_94_1, s_94_2, s_94_4, s_94_6, s_94_8, s_94_11, s_94_12, s_94_14, s_94_16, s_94_17, s_94_18, s_94_19, s_94_22, s_94_23, s_94_25, s_94_27, s_94_30, s_94_32, s_94_34, s_94_37, s_94_39, s_94_41, s_94_44, s_94_45, s_94_46, s_94_48, s_94_51, s_94_52, s_94_53, s_94_54, s_94_57, s_94_58, s_94_59, s_94_62, s_94_65, s_94_66, s_94_69, s_94_70, s_94_71, s_94_73, s_94_76, s_94_77, s_94_78, s_94_80, s_94_84, s_94_87, s_94_88, s_94_90, s_94_92, s_94_93, s_94_94, s_94_95, s_94_98, s_94_99, s_94_101, s_94_103, s_94_106, s_94_107, s_94_110, s_94_111, s_94_114, s_94_116, s_94_117, s_94_118, s_94_119, s_94_120, s_94_123, s_94_124, s_94_125, s_94_128, s_94_131, s_94_134, s_94_135, ha_36, hg_36_0, hq_36_0, hg_36_1, hg_36_2, hq_36_2, hg_36_3, hg_36_4, hg_36_5, hg_36_6, hq_36_6, hg_36_7, hq_36_7, hg_36_8, hq_36_8, hg_36_9, hg_36_10, hg_36_11, hg_36_12, hg_36_13, hg_36_14, hg_36_15, hg_36_16, hg_36_17, hg_36_18, hq_36_18, hg_36_19, hg_36_20, hq_36_20, hg_36_21, hq_36_21, hg_36_22, hg_36_23, hq_36_23, hg_36_24, hg_36_25, hq_36_25, hg_36_26, hq_36_26, hg_36_27, hq_36_27, hg_36_28, hq_36_28, hg_36_29, hg_36_30, hg_36_31, hq_36_31, hg_36_32, hg_36_33, hg_36_34, hg_36_35, hq_36_35, hg_36_36, hg_36_37, hg_36_38, hg_36_39, hg_36_40, hq_36_40, hg_36_41, hg_36_42, hg_36_43, hg_36_44, hq_36_44, hg_36_45, hg_36_46, hg_36_47, hg_36_48, hg_36_49, hq_36_49, hg_36_50, hg_36_51, hq_36_51, hg_36_52, hq_36_52, hg_36_53, hq_36_53, hg_36_54, hq_36_54, hg_36_55, hq_36_55, hg_36_56, hq_36_56, hg_36_57, hg_36_58, hq_36_58, hg_36_59, hq_36_59, hg_36_60, hq_36_60, hg_36_61, hl_37, hs_37, hl_38, hs_38, hl_39, hs_39, hl_40, hs_40, hl_41, hs_41, hl_42, hs_42, hl_43, hs_43, hl_44, hs_44, hl_45, hs_45, hl_46, hs_46, hl_47, hs_47, hl_48, hs_48, hl_49, hs_49, hl_50, hs_50, hl_51, hs_51, hl_52, hs_52, hl_53, hs_53, hl_54, hs_54, hl_55, hs_55, hl_56, hs_56, hl_57, hs_57, hl_58, hs_58, hl_59, hs_59, hl_60, hs_60, hl_61, hs_61, hl_62, hs_62, hl_63, hs_63, hl_64, hs_64, hl_65, hs_65, hl_66, hs_66, hl_67, hs_67, hl_68, hs_68, hl_69, hs_69, hl_70, hs_70, hl_71, hs_71, am_ld_cons, am_ld_nil, am_st1_cons, am_st1_nil, am_st2_cons, am_st2_nil, am_P1, am_P2, Value.category, hp1, hd1, hbe2, am_ld_st1, hz, hc, g1, g2, g3, g4, va_up_self, va_up_ne, w_k_mul j (by omega)]
      have k2 := fun kk tl2 => ihN kk m tl2 (va_up (va_up M 37 (upd (M 37) c (w_c b))) 36 (upd (M 36) 0 (nI (c + 1)))) (c + 1) (by rw [va_up_self, pk_us]) (by rw [va_up_ne _ _ (by decide), va_up_self]; exact hle)
      rw [w_M_st (by decide), va_up_ne _ _ (show (37 : Nat) ≠ 36 by decide), va_up_self] at k2
      exact k2 _ _
theorem w_1_k (w : Int64) : ∀ (j a : Nat) (m : Int32), w_1 w j (nI a) = some m → ∃ k : Nat, k ≤ j ∧ m = nI (a + k) ∧ ∀ (t : Nat → Int32) (c : Nat), (w_2 w j t c).2 = c + k
  | 0, a, m, h => ⟨0, Nat.le_refl _, (Option.some.inj h).symm, fun t c => rfl⟩
  | j + 1, a, m, h => by
    unfold w_1 at h
    split at h
    · cases h
    · by_cases hz : w_b w (nI (8 * j)) = 0
      · rw [if_pos hz] at h
        obtain ⟨k, h1, h2, h3⟩ := w_1_k w j a m h
        refine ⟨k, by omega, h2, fun t c => ?_⟩
        unfold w_2
        rw [if_pos hz]
        exact h3 t c
      · rw [if_neg hz, nI_1] at h
        obtain ⟨k, h1, h2, h3⟩ := w_1_k w j (a + 1) m h
        refine ⟨k + 1, by omega, by rw [h2]; congr 1; omega, fun t c => ?_⟩
        unfold w_2
        rw [if_neg hz, h3]
        omega
/-- what a write makes of a text t of c characters -/
def w_r (w : Int64) (t : Nat → Int32) (c : Nat) : Option ((Nat → Int32) × Nat) := match w_1 w 8 0 with
  | none => none
  | some _ => if (w_2 w 8 t c).2 ≤ 100 then some (w_2 w 8 t c) else none
theorem w_100 : (100 : Int32) = nI 100 := by decide +kernel
set_option maxRecDepth 100000 in
set_option maxHeartbeats 4000000 in
theorem m_57 (scr : Nat → Int32) (L F d : Nat) (I : Nat → Nat → Int32) (J : Nat → Nat → Int64) (M : Nat → Nat → Int32) (w : Int64) (c : Nat) (hc : I 18 2 = nI c) (hc2 : c ≤ 100) : am_r scr L (F + 1000) (d + 1) 57 [.ref 19, .long w] (hp I J M) = (match w_r w (I 19) c with
    | none => some (some (.int 0), hp I J M, 0, 0)
    | some q => some (some (.int 1), hp (w_M I 19 18 2 q) J M, 0, 0)) := by
  unfold w_r
  rw [r_57]
  have e : am_f d scr L (am_r scr L (F + 1000) d) 57 (F + 1000) 0 [(0, .ref 19), (1, .long w)] [] (hp I J M) = am_f d scr L (am_r scr L (F + 1000) d) 57 (F + 996) 6 ((0, .ref 19) :: (1, .long w) :: (3, .int 0) :: (4, .int (w_s 8)) :: []) [] (hp I J M) := by
    have e8 : w_s 8 = 56 := by decide +kernel
    rw [e8]
    simp [s_57_0, s_57_1, s_57_2, s_57_4, am_ld_cons, am_ld_nil, am_st1_cons, am_st1_nil, am_st2_cons, am_st2_nil, am_P1, am_P2, Value.category]
  rw [e, show F + 996 = (F + 746) + (30 * 8 + 10) by omega]
  refine l_57_a d L scr _ w _ _ 8 (by omega) (F + 746) 0 [] (fun hn => by rw [hn]) (fun n' m' tl' hn hm => ?_)
  rw [hm]
  rw [← nI_0] at hm
  obtain ⟨k, hk, hm', h2⟩ := w_1_k w 8 0 m' hm
  rw [Nat.zero_add] at hm'
  subst hm'
  obtain ⟨N, rfl⟩ : ∃ N, n' = N + 400 := ⟨n' - 400, by omega⟩
  dsimp only
  rw [h2]
  have e8 : w_s 8 = 56 := by decide +kernel
  by_cases hle : c + k ≤ 100
  · rw [if_pos hle]
    have hcmp : nI k ≤ 100 - nI c := by
      rw [w_100, pk_sub hc2, nI_leI (by omega) (by omega)]
      omega
    have key : ∀ (f : Nat) (tl : am_L), 290 ≤ f → am_f d scr L (am_r scr L (F + 1000) d) 57 f 74 ((0, .ref 19) :: (1, .long w) :: (3, .int (nI k)) :: (4, .int 56) :: tl) [] (hp I J M) = some (some (.int 1), hp (w_M I 19 18 2 (w_2 w 8 (I 19) c)) J M, 0, 0) := by
      intro f tl hf
      have z := l_57_b d L scr (am_r scr L (F + 1000) d) w J M 8 (by omega) (f - 290) (nI k) tl I c hc (by rw [h2]; exact hle)
      rw [e8, show f - 290 + (35 * 8 + 10) = f by omega] at z
      exact z
    simp [s_57_57, s_57_58, s_57_60, s_57_61, s_57_64, s_57_65, s_57_68, s_57_69, s_57_70, s_57_72, ha_0, hg_0_0, hg_0_1, hg_0_2, hg_0_3, hg_0_4, hq_0_4, hg_0_5, hq_0_5, ha_1, hg_1_0, hg_1_1, hg_1_2, hg_1_3, hg_1_4, hg_1_5, hg_1_6, hg_1_7, hg_1_8, hg_1_9, hg_1_10, hg_1_11, hg_1_12, hq_1_12, ha_2, hg_2_0, hg_2_1, hg_2_2, hg_2_3, hg_2_4, hq_2_4, hl_3, hs_3, hl_4, hs_4, hl_5, hs_5, hl_6, hs_6, hl_7, hs_7, hl_8, hs_8, hl_9, hs_9, hl_10, hs_10, hl_11, hs_11, hl_12, hs_12, hl_13, hs_13, hl_14, hs_14, hl_15, hs_15, hl_16, hs_16, hl_17, hs_17, ha_18, hg_18_0, hg_18_1, hg_18_2, hq_18_2, hg_18_3, hq_18_3, hl_19, hs_19, ha_20, hg_20_0, hg_20_1, ha_21, hg_21_0, hg_21_1, hg_21_2, hg_21_3, hg_21_4, hg_21_5, hg_21_6, hq_21_6, hg_21_7, hg_21_8, hg_21_9, hg_21_10, hq_21_10, hg_21_11, hq_21_11, hg_21_12, hq_21_12, hg_21_13, hq_21_13, hg_21_14, hq_21_14, hg_21_15, hq_21_15, hg_21_16, hq_21_16, hg_21_17, hq_21_17, ha_22, hg_22_0, hg_22_1, hg_22_2, hg_22_3, hg_22_4, hg_22_5, hg_22_6, hq_22_6, hg_22_7, hq_22_7, hg_22_8, hq_22_8, hl_23, hs_23, hl_24, hs_24, hl_25, hs_25, hl_26, hs_26, hl_27, hs_27, ha_28, hg_28_0, hg_28_1, hq_28_1, hl_29, hs_29, hl_30, hs_30, hl_31, hs_31, hl_32, hs_32, hl_33, hs_33, hl_34, hs_34, hl_35, hs_35, am_ld_cons, am_ld_nil, am_st1_cons, am_st1_nil, am_st2_cons, am_st2_nil, am_P1, am_P2, Value.category, hc, hcmp]
    exact key _ _ (by omega)
  · rw [if_neg hle]
    have hcmp : ¬ nI k ≤ 100 - nI c := by
      rw [w_100, pk_sub hc2, nI_leI (by omega) (by omega)]
      omega
    simp [s_57_57, s_57_58, s_57_60, s_57_61, s_57_64, s_57_65, s_57_68, s_57_69, s_57_70, s_57_72, ha_0, hg_0_0, hg_0_1, hg_0_2, hg_0_3, hg_0_4, hq_0_4, hg_0_5, hq_0_5, ha_1, hg_1_0, hg_1_1, hg_1_2, hg_1_3, hg_1_4, hg_1_5, hg_1_6, hg_1_7, hg_1_8, hg_1_9, hg_1_10, hg_1_11, hg_1_12, hq_1_12, ha_2, hg_2_0, hg_2_1, hg_2_2, hg_2_3, hg_2_4, hq_2_4, hl_3, hs_3, hl_4, hs_4, hl_5, hs_5, hl_6, hs_6, hl_7, hs_7, hl_8, hs_8, hl_9, hs_9, hl_10, hs_10, hl_11, hs_11, hl_12, hs_12, hl_13, hs_13, hl_14, hs_14, hl_15, hs_15, hl_16, hs_16, hl_17, hs_17, ha_18, hg_18_0, hg_18_1, hg_18_2, hq_18_2, hg_18_3, hq_18_3, hl_19, hs_19, ha_20, hg_20_0, hg_20_1, ha_21, hg_21_0, hg_21_1, hg_21_2, hg_21_3, hg_21_4, hg_21_5, hg_21_6, hq_21_6, hg_21_7, hg_21_8, hg_21_9, hg_21_10, hq_21_10, hg_21_11, hq_21_11, hg_21_12, hq_21_12, hg_21_13, hq_21_13, hg_21_14, hq_21_14, hg_21_15, hq_21_15, hg_21_16, hq_21_16, hg_21_17, hq_21_17, ha_22, hg_22_0, hg_22_1, hg_22_2, hg_22_3, hg_22_4, hg_22_5, hg_22_6, hq_22_6, hg_22_7, hq_22_7, hg_22_8, hq_22_8, hl_23, hs_23, hl_24, hs_24, hl_25, hs_25, hl_26, hs_26, hl_27, hs_27, ha_28, hg_28_0, hg_28_1, hq_28_1, hl_29, hs_29, hl_30, hs_30, hl_31, hs_31, hl_32, hs_32, hl_33, hs_33, hl_34, hs_34, hl_35, hs_35, am_ld_cons, am_ld_nil, am_st1_cons, am_st1_nil, am_st2_cons, am_st2_nil, am_P1, am_P2, Value.category, hc, hcmp]
set_option maxRecDepth 100000 in
set_option maxHeartbeats 4000000 in
theorem m_94 (scr : Nat → Int32) (L F d : Nat) (I : Nat → Nat → Int32) (J : Nat → Nat → Int64) (M : Nat → Nat → Int32) (w : Int64) (c : Nat) (hc : M 36 0 = nI c) (hc2 : c ≤ 100) : am_r scr L (F + 1000) (d + 1) 94 [.ref 37, .long w] (hp I J M) = (match w_r w (M 37) c with
    | none => some (some (.int 0), hp I J M, 0, 0)
    | some q => some (some (.int 1), hp I J (w_M M 37 36 0 q), 0, 0)) := by
  unfold w_r
  rw [r_94]
  have e : am_f d scr L (am_r scr L (F + 1000) d) 94 (F + 1000) 0 [(0, .ref 37), (1, .long w)] [] (hp I J M) = am_f d scr L (am_r scr L (F + 1000) d) 94 (F + 996) 6 ((0, .ref 37) :: (1, .long w) :: (3, .int 0) :: (4, .int (w_k 8)) :: []) [] (hp I J M) := by
    have e8 : w_k 8 = 7 := by decide +kernel
    rw [e8]
    simp [s_94_0, s_94_1, s_94_2, s_94_4, am_ld_cons, am_ld_nil, am_st1_cons, am_st1_nil, am_st2_cons, am_st2_nil, am_P1, am_P2, Value.category]
  rw [e, show F + 996 = (F + 746) + (30 * 8 + 10) by omega]
  refine l_94_a d L scr _ w _ _ 8 (by omega) (F + 746) 0 [] (fun hn => by rw [hn]) (fun n' m' tl' hn hm => ?_)
  rw [hm]
  rw [← nI_0] at hm
  obtain ⟨k, hk, hm', h2⟩ := w_1_k w 8 0 m' hm
  rw [Nat.zero_add] at hm'
  subst hm'
  obtain ⟨N, rfl⟩ : ∃ N, n' = N + 400 := ⟨n' - 400, by omega⟩
  dsimp only
  rw [h2]
  have e8 : w_k 8 = 7 := by decide +kernel
  by_cases hle : c + k ≤ 100
  · rw [if_pos hle]
    have hcmp : nI c + nI k ≤ 100 := by
      rw [w_100, nI_add, nI_leI (by omega) (by omega)]
      omega
    have key : ∀ (f : Nat) (tl : am_L), 290 ≤ f → am_f d scr L (am_r scr L (F + 1000) d) 94 f 82 ((0, .ref 37) :: (1, .long w) :: (3, .int (nI k)) :: (4, .int 7) :: tl) [] (hp I J M) = some (some (.int 1), hp I J (w_M M 37 36 0 (w_2 w 8 (M 37) c)), 0, 0) := by
      intro f tl hf
      have z := l_94_b d L scr (am_r scr L (F + 1000) d) w J I 8 (by omega) (f - 290) (nI k) tl M c hc (by rw [h2]; exact hle)
      rw [e8, show f - 290 + (35 * 8 + 10) = f by omega] at z
      exact z
    simp [s_94_65, s_94_66, s_94_69, s_94_70, s_94_71, s_94_73, s_94_76, s_94_77, s_94_78, s_94_80, ha_36, hg_36_0, hq_36_0, hg_36_1, hg_36_2, hq_36_2, hg_36_3, hg_36_4, hg_36_5, hg_36_6, hq_36_6, hg_36_7, hq_36_7, hg_36_8, hq_36_8, hg_36_9, hg_36_10, hg_36_11, hg_36_12, hg_36_13, hg_36_14, hg_36_15, hg_36_16, hg_36_17, hg_36_18, hq_36_18, hg_36_19, hg_36_20, hq_36_20, hg_36_21, hq_36_21, hg_36_22, hg_36_23, hq_36_23, hg_36_24, hg_36_25, hq_36_25, hg_36_26, hq_36_26, hg_36_27, hq_36_27, hg_36_28, hq_36_28, hg_36_29, hg_36_30, hg_36_31, hq_36_31, hg_36_32, hg_36_33, hg_36_34, hg_36_35, hq_36_35, hg_36_36, hg_36_37, hg_36_38, hg_36_39, hg_36_40, hq_36_40, hg_36_41, hg_36_42, hg_36_43, hg_36_44, hq_36_44, hg_36_45, hg_36_46, hg_36_47, hg_36_48, hg_36_49, hq_36_49, hg_36_50, hg_36_51, hq_36_51, hg_36_52, hq_36_52, hg_36_53, hq_36_53, hg_36_54, hq_36_54, hg_36_55, hq_36_55, hg_36_56, hq_36_56, hg_36_57, hg_36_58, hq_36_58, hg_36_59, hq_36_59, hg_36_60, hq_36_60, hg_36_61, hl_37, hs_37, hl_38, hs_38, hl_39, hs_39, hl_40, hs_40, hl_41, hs_41, hl_42, hs_42, hl_43, hs_43, hl_44, hs_44, hl_45, hs_45, hl_46, hs_46, hl_47, hs_47, hl_48, hs_48, hl_49, hs_49, hl_50, hs_50, hl_51, hs_51, hl_52, hs_52, hl_53, hs_53, hl_54, hs_54, hl_55, hs_55, hl_56, hs_56, hl_57, hs_57, hl_58, hs_58, hl_59, hs_59, hl_60, hs_60, hl_61, hs_61, hl_62, hs_62, hl_63, hs_63, hl_64, hs_64, hl_65, hs_65, hl_66, hs_66, hl_67, hs_67, hl_68, hs_68, hl_69, hs_69, hl_70, hs_70, hl_71, hs_71, am_ld_cons, am_ld_nil, am_st1_cons, am_st1_nil, am_st2_cons, am_st2_nil, am_P1, am_P2, Value.category, hc, hcmp]
    exact key _ _ (by omega)
  · rw [if_neg hle]
    have hcmp : ¬ nI c + nI k ≤ 100 := by
      rw [w_100, nI_add, nI_leI (by omega) (by omega)]
      omega
    simp [s_94_65, s_94_66, s_94_69, s_94_70, s_94_71, s_94_73, s_94_76, s_94_77, s_94_78, s_94_80, ha_36, hg_36_0, hq_36_0, hg_36_1, hg_36_2, hq_36_2, hg_36_3, hg_36_4, hg_36_5, hg_36_6, hq_36_6, hg_36_7, hq_36_7, hg_36_8, hq_36_8, hg_36_9, hg_36_10, hg_36_11, hg_36_12, hg_36_13, hg_36_14, hg_36_15, hg_36_16, hg_36_17, hg_36_18, hq_36_18, hg_36_19, hg_36_20, hq_36_20, hg_36_21, hq_36_21, hg_36_22, hg_36_23, hq_36_23, hg_36_24, hg_36_25, hq_36_25, hg_36_26, hq_36_26, hg_36_27, hq_36_27, hg_36_28, hq_36_28, hg_36_29, hg_36_30, hg_36_31, hq_36_31, hg_36_32, hg_36_33, hg_36_34, hg_36_35, hq_36_35, hg_36_36, hg_36_37, hg_36_38, hg_36_39, hg_36_40, hq_36_40, hg_36_41, hg_36_42, hg_36_43, hg_36_44, hq_36_44, hg_36_45, hg_36_46, hg_36_47, hg_36_48, hg_36_49, hq_36_49, hg_36_50, hg_36_51, hq_36_51, hg_36_52, hq_36_52, hg_36_53, hq_36_53, hg_36_54, hq_36_54, hg_36_55, hq_36_55, hg_36_56, hq_36_56, hg_36_57, hg_36_58, hq_36_58, hg_36_59, hq_36_59, hg_36_60, hq_36_60, hg_36_61, hl_37, hs_37, hl_38, hs_38, hl_39, hs_39, hl_40, hs_40, hl_41, hs_41, hl_42, hs_42, hl_43, hs_43, hl_44, hs_44, hl_45, hs_45, hl_46, hs_46, hl_47, hs_47, hl_48, hs_48, hl_49, hs_49, hl_50, hs_50, hl_51, hs_51, hl_52, hs_52, hl_53, hs_53, hl_54, hs_54, hl_55, hs_55, hl_56, hs_56, hl_57, hs_57, hl_58, hs_58, hl_59, hs_59, hl_60, hs_60, hl_61, hs_61, hl_62, hs_62, hl_63, hs_63, hl_64, hs_64, hl_65, hs_65, hl_66, hs_66, hl_67, hs_67, hl_68, hs_68, hl_69, hs_69, hl_70, hs_70, hl_71, hs_71, am_ld_cons, am_ld_nil, am_st1_cons, am_st1_nil, am_st2_cons, am_st2_nil, am_P1, am_P2, Value.category, hc, hcmp]
set_option maxRecDepth 100000 in
set_option maxHeartbeats 4000000 in
theorem m_2 (scr : Nat → Int32) (L F d : Nat) (I : Nat → Nat → Int32) (J : Nat → Nat → Int64) (M : Nat → Nat → Int32) (w : Int64) (c : Nat) (hc : I 18 2 = nI c) (hc2 : c ≤ 100) : am_r scr L (F + 1000) (d + 2) 2 [.ref 1, .long w] (hp I J M) = (match w_r w (I 19) c with
    | none => some (some (.int 0), hp I J M, 0, 0)
    | some q => some (some (.int 1), hp (w_M I 19 18 2 q) J M, 0, 0)) := by
  have h57 := m_57 scr L F d I J M w c hc hc2
  simp [r_2, s_2_0, s_2_1, s_2_4, s_2_5, s_2_8, ha_0, hg_0_0, hg_0_1, hg_0_2, hg_0_3, hg_0_4, hq_0_4, hg_0_5, hq_0_5, ha_1, hg_1_0, hg_1_1, hg_1_2, hg_1_3, hg_1_4, hg_1_5, hg_1_6, hg_1_7, hg_1_8, hg_1_9, hg_1_10, hg_1_11, hg_1_12, hq_1_12, ha_2, hg_2_0, hg_2_1, hg_2_2, hg_2_3, hg_2_4, hq_2_4, hl_3, hs_3, hl_4, hs_4, hl_5, hs_5, hl_6, hs_6, hl_7, hs_7, hl_8, hs_8, hl_9, hs_9, hl_10, hs_10, hl_11, hs_11, hl_12, hs_12, hl_13, hs_13, hl_14, hs_14, hl_15, hs_15, hl_16, hs_16, hl_17, hs_17, ha_18, hg_18_0, hg_18_1, hg_18_2, hq_18_2, hg_18_3, hq_18_3, hl_19, hs_19, ha_20, hg_20_0, hg_20_1, ha_21, hg_21_0, hg_21_1, hg_21_2, hg_21_3, hg_21_4, hg_21_5, hg_21_6, hq_21_6, hg_21_7, hg_21_8, hg_21_9, hg_21_10, hq_21_10, hg_21_11, hq_21_11, hg_21_12, hq_21_12, hg_21_13, hq_21_13, hg_21_14, hq_21_14, hg_21_15, hq_21_15, hg_21_16, hq_21_16, hg_21_17, hq_21_17, ha_22, hg_22_0, hg_22_1, hg_22_2, hg_22_3, hg_22_4, hg_22_5, hg_22_6, hq_22_6, hg_22_7, hq_22_7, hg_22_8, hq_22_8, hl_23, hs_23, hl_24, hs_24, hl_25, hs_25, hl_26, hs_26, hl_27, hs_27, ha_28, hg_28_0, hg_28_1, hq_28_1, hl_29, hs_29, hl_30, hs_30, hl_31, hs_31, hl_32, hs_32, hl_33, hs_33, hl_34, hs_34, hl_35, hs_35, am_ld_cons, am_ld_nil, am_st1_cons, am_st1_nil, am_st2_cons, am_st2_nil, am_P1, am_P2, Value.category, am_add_add, am_add0, am_add_some, h57]
  cases w_r w (I 19) c <;> simp [r_2, s_2_0, s_2_1, s_2_4, s_2_5, s_2_8, ha_0, hg_0_0, hg_0_1, hg_0_2, hg_0_3, hg_0_4, hq_0_4, hg_0_5, hq_0_5, ha_1, hg_1_0, hg_1_1, hg_1_2, hg_1_3, hg_1_4, hg_1_5, hg_1_6, hg_1_7, hg_1_8, hg_1_9, hg_1_10, hg_1_11, hg_1_12, hq_1_12, ha_2, hg_2_0, hg_2_1, hg_2_2, hg_2_3, hg_2_4, hq_2_4, hl_3, hs_3, hl_4, hs_4, hl_5, hs_5, hl_6, hs_6, hl_7, hs_7, hl_8, hs_8, hl_9, hs_9, hl_10, hs_10, hl_11, hs_11, hl_12, hs_12, hl_13, hs_13, hl_14, hs_14, hl_15, hs_15, hl_16, hs_16, hl_17, hs_17, ha_18, hg_18_0, hg_18_1, hg_18_2, hq_18_2, hg_18_3, hq_18_3, hl_19, hs_19, ha_20, hg_20_0, hg_20_1, ha_21, hg_21_0, hg_21_1, hg_21_2, hg_21_3, hg_21_4, hg_21_5, hg_21_6, hq_21_6, hg_21_7, hg_21_8, hg_21_9, hg_21_10, hq_21_10, hg_21_11, hq_21_11, hg_21_12, hq_21_12, hg_21_13, hq_21_13, hg_21_14, hq_21_14, hg_21_15, hq_21_15, hg_21_16, hq_21_16, hg_21_17, hq_21_17, ha_22, hg_22_0, hg_22_1, hg_22_2, hg_22_3, hg_22_4, hg_22_5, hg_22_6, hq_22_6, hg_22_7, hq_22_7, hg_22_8, hq_22_8, hl_23, hs_23, hl_24, hs_24, hl_25, hs_25, hl_26, hs_26, hl_27, hs_27, ha_28, hg_28_0, hg_28_1, hq_28_1, hl_29, hs_29, hl_30, hs_30, hl_31, hs_31, hl_32, hs_32, hl_33, hs_33, hl_34, hs_34, hl_35, hs_35, am_ld_cons, am_ld_nil, am_st1_cons, am_st1_nil, am_st2_cons, am_st2_nil, am_P1, am_P2, Value.category, am_add_add, am_add0, am_add_some]
