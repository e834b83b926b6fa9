/-! The short answers, out of what the relation says. -/
theorem ok_pos (Rel : am_I → am_J → am_I → Prop) (h : ∀ I J M, Rel I J M → I 0 5 = M 36 27) (F d : Nat) : CallOk Rel (F + 100) (d + 1) 4 132 [] := by
  intro scr L I J M hR
  have hA := m_4 scr L F d I J M
  have hB := m_132 scr L F d I J M
  rw [← h I J M hR] at hB
  exact ⟨_, I, J, M, hA, hB, hR⟩
theorem ok_calls (Rel : am_I → am_J → am_I → Prop) (h : ∀ I J M, Rel I J M → I 21 11 = M 36 53) (F d : Nat) : CallOk Rel (F + 100) (d + 1) 10 137 [] := by
  intro scr L I J M hR
  have hA := m_10 scr L F d I J M
  have hB := m_137 scr L F d I J M
  rw [← h I J M hR] at hB
  exact ⟨_, I, J, M, hA, hB, hR⟩
theorem ok_stored (Rel : am_I → am_J → am_I → Prop) (h : ∀ I J M, Rel I J M → I 21 10 = M 36 49) (F d : Nat) : CallOk Rel (F + 100) (d + 1) 11 138 [] := by
  intro scr L I J M hR
  have hA := m_11 scr L F d I J M
  have hB := m_138 scr L F d I J M
  rw [← h I J M hR] at hB
  exact ⟨_, I, J, M, hA, hB, hR⟩
theorem ok_blamed (Rel : am_I → am_J → am_I → Prop) (h : ∀ I J M, Rel I J M → (I 21 12 = 2 ↔ M 36 51 = 2) ∧ (I 21 12 = 2 → I 22 8 = M 36 54)) (F d : Nat) : CallOk Rel (F + 100) (d + 1) 8 135 [] := by
  intro scr L I J M hR
  have hA := m_8 scr L F d I J M
  have hB := m_135 scr L F d I J M
  obtain ⟨h1, h2⟩ := h I J M hR
  by_cases hz : I 21 12 = 2
  · rw [if_pos hz] at hA
    rw [if_pos (h1.mp hz), ← h2 hz] at hB
    exact ⟨_, I, J, M, hA, hB, hR⟩
  · rw [if_neg hz] at hA
    rw [if_neg (fun z => hz (h1.mpr z))] at hB
    exact ⟨_, I, J, M, hA, hB, hR⟩
theorem ok_output (Rel : am_I → am_J → am_I → Prop) (h : ∀ I J M, Rel I J M → ∃ c : Nat, c < 2 ^ 30 ∧ I 28 1 = nI c ∧ M 36 56 = nI c ∧ M 70 = I 29) (F d : Nat) (k : Int32) : CallOk Rel (F + 200) (d + 2) 9 136 [.int k] := by
  intro scr L I J M hR
  obtain ⟨c, h0, h1, h2, h3⟩ := h I J M hR
  have hA := m_9 scr L F d I J M k c h1 h0
  have hB := m_136 scr L F (d + 1) I J M k c h2 h0
  rw [h3] at hB
  exact ⟨_, I, J, M, hA, hB, hR⟩
