/-! One call on fresh objects: the law on scripts of at most three ints. -/
theorem p1_K (xs : Nat → Int32) (h : am_H) : ∀ f', 2920 ≤ f' → am_f 20 xs 3 (am_r xs 3 3000 20) 0 f' 18 (lv0 (0 + 3)) [] h = some (some (.int 1), h, 0, 0) := by
  intro f' hf
  obtain ⟨g, rfl⟩ : ∃ g, f' = g + 20 := ⟨f' - 20, by omega⟩
  exact lw_end xs 3 3000 20 3 (by omega) (by omega) (by omega) h g
set_option maxRecDepth 100000 in
set_option maxHeartbeats 4000000 in
theorem p1_3 (xs : Nat → Int32) : ∃ h' : am_H, am_f 20 xs 3 (am_r xs 3 3000 20) 0 (2920 + 70) 18 (lv0 0) [] (hp i0 j0 m0) = some (some (.int 1), h', 0, 0) := by
  by_cases h0 : xs 0 &&& 15 = 0
  · have e : m0 37 = i0 19 := rfl
    have hA := m_2 xs 3 2000 18 i0 j0 m0 (wd (xs (0 + 1)) (xs (0 + 2))) 0 (i0_18_2.trans nI_0.symm) (by omega)
    cases hw : w_r (wd (xs (0 + 1)) (xs (0 + 2))) (i0 19) 0 with
    | none =>
      have hB := m_94 xs 3 2000 19 i0 j0 m0 (wd (xs (0 + 1)) (xs (0 + 2))) 0 (m0_36_0.trans nI_0.symm) (by omega)
      rw [hw] at hA
      rw [e, hw] at hB
      exact ⟨_, lw_0 xs 3 3000 20 0 (by omega) (by omega) h0 i0 i0 j0 j0 m0 m0 0 hA hB 2920 _ (p1_K xs _)⟩
    | some q =>
      have hB := m_94 xs 3 2000 19 (w_M i0 19 18 2 q) j0 m0 (wd (xs (0 + 1)) (xs (0 + 2))) 0 (m0_36_0.trans nI_0.symm) (by omega)
      rw [hw] at hA
      rw [e, hw] at hB
      exact ⟨_, lw_0 xs 3 3000 20 0 (by omega) (by omega) h0 i0 _ j0 j0 m0 _ 1 hA hB 2920 _ (p1_K xs _)⟩
  by_cases h1 : xs 0 &&& 15 = 1
  · obtain ⟨I1, hA⟩ := f_3 xs 3 2000 12
    obtain ⟨M1, hB⟩ := f_111 xs 3 2000 12 I1 j0
    exact ⟨_, lw_1 xs 3 3000 20 0 (by omega) (by omega) h1 i0 I1 j0 j0 m0 M1 1 hA hB 2920 _ (p1_K xs _)⟩
  by_cases h2 : xs 0 &&& 15 = 2
  · have hA := m_4 xs 3 2900 19 i0 j0 m0
    have hB := m_132 xs 3 2900 19 i0 j0 m0
    rw [i0_0_5] at hA
    rw [m0_36_27] at hB
    exact ⟨_, lw_2 xs 3 3000 20 0 (by omega) (by omega) h2 i0 i0 j0 j0 m0 m0 (-1) hA hB 2920 _ (p1_K xs _)⟩
  by_cases h3 : xs 0 &&& 15 = 3
  · exact ⟨_, lw_3 xs 3 3000 20 0 (by omega) (by omega) h3 i0 i0 j0 j0 m0 m0 (-1) (f_5 xs 3 2000 12 _) (f_133 xs 3 2000 12 _) 2920 _ (p1_K xs _)⟩
  by_cases h4 : xs 0 &&& 15 = 4
  · exact ⟨_, lw_4 xs 3 3000 20 0 (by omega) (by omega) h4 i0 i0 j0 j0 m0 m0 (-1) (f_6 xs 3 2000 12 _) (f_131 xs 3 2000 12 _) 2920 _ (p1_K xs _)⟩
  by_cases h5 : xs 0 &&& 15 = 5
  · exact ⟨_, lw_5 xs 3 3000 20 0 (by omega) (by omega) h5 i0 i0 j0 j0 m0 m0 (-1) (f_7 xs 3 2000 12 _) (f_134 xs 3 2000 12 _) 2920 _ (p1_K xs _)⟩
  by_cases h6 : xs 0 &&& 15 = 6
  · have hA := m_8 xs 3 2900 19 i0 j0 m0
    have hB := m_135 xs 3 2900 19 i0 j0 m0
    rw [i0_21_12, if_neg (by decide)] at hA
    rw [m0_36_51, if_neg (by decide)] at hB
    exact ⟨_, lw_6 xs 3 3000 20 0 (by omega) (by omega) h6 i0 i0 j0 j0 m0 m0 (-1) hA hB 2920 _ (p1_K xs _)⟩
  by_cases h7 : xs 0 &&& 15 = 7
  · exact ⟨_, lw_7 xs 3 3000 20 0 (by omega) (by omega) h7 i0 i0 j0 j0 m0 m0 0 (f_9 xs 3 2000 12 _) (f_136 xs 3 2000 12 _) 2920 _ (p1_K xs _)⟩
  by_cases h8 : xs 0 &&& 15 = 8
  · have hA := m_10 xs 3 2900 19 i0 j0 m0
    have hB := m_137 xs 3 2900 19 i0 j0 m0
    rw [i0_21_11] at hA
    rw [m0_36_53] at hB
    exact ⟨_, lw_8 xs 3 3000 20 0 (by omega) (by omega) h8 i0 i0 j0 j0 m0 m0 0 hA hB 2920 _ (p1_K xs _)⟩
  by_cases h9 : xs 0 &&& 15 = 9
  · have hA := m_11 xs 3 2900 19 i0 j0 m0
    have hB := m_138 xs 3 2900 19 i0 j0 m0
    rw [i0_21_10] at hA
    rw [m0_36_49] at hB
    exact ⟨_, lw_9 xs 3 3000 20 0 (by omega) (by omega) h9 i0 i0 j0 j0 m0 m0 0 hA hB 2920 _ (p1_K xs _)⟩
  refine ⟨_, lw_no xs 3 3000 20 0 (by omega) (by omega) (fun o ho1 ho2 => ?_) _ 2920 _ (p1_K xs _)⟩
  obtain ⟨j, hj, rfl⟩ := nI_of (x := o) (Int32.not_lt.mpr ho2)
  have hj2 : j < 10 := by
    have h10 : (10 : Int32) = nI 10 := rfl
    rw [h10, nI_ltI hj (by omega)] at ho1
    exact ho1
  have hc : j = 0 ∨ j = 1 ∨ j = 2 ∨ j = 3 ∨ j = 4 ∨ j = 5 ∨ j = 6 ∨ j = 7 ∨ j = 8 ∨ j = 9 := by omega
  rcases hc with rfl | rfl | rfl | rfl | rfl | rfl | rfl | rfl | rfl | rfl
  · exact h0
  · exact h1
  · exact h2
  · exact h3
  · exact h4
  · exact h5
  · exact h6
  · exact h7
  · exact h8
  · exact h9
theorem p1_pure {L : Nat} (hL : L ≤ 3) (xs : Nat → Int32) : ∃ (F d k n : Nat) (h' : am_H), d ≤ 1300 ∧ k ≤ 600000 ∧ n ≤ 7302250 ∧ am_f d xs L (am_r xs L F d) 0 F 0 [(0, .ref 0)] [] [] = some (some (.int 1), h', k, n) := by
  have hc := c_law xs L 2000 14
  have hl : lv0 0 = [(0, .ref 0), (1, .ref 1), (2, .ref 37), (3, .int 0)] := by unfold lv0; rw [nI_0]
  rw [← hl] at hc
  have key : ∃ h' : am_H, am_f 20 xs L (am_r xs L 3000 20) 0 2990 18 (lv0 0) [] (hp i0 j0 m0) = some (some (.int 1), h', 0, 0) := by
    by_cases h3 : L < 3
    · exact ⟨_, lw_end xs L 3000 20 0 (by omega) (by omega) (by omega) _ 2970⟩
    · obtain rfl : L = 3 := by omega
      exact p1_3 xs
  obtain ⟨h', hk⟩ := key
  have hk2 : am_f (14 + 6) xs L (am_r xs L (2000 + 1000) (14 + 6)) 0 (2000 + 990) 18 (lv0 0) [] (hp i0 j0 m0) = some (some (.int 1), h', 0, 0) := hk
  rw [hk2, am_add_some] at hc
  exact ⟨3000, 20, _, _, h', by omega, by omega, by omega, hc⟩
