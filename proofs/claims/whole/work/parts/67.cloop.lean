/-! Checking: all nodes, one after the other. -/
theorem ck_loop {I0 M0 : am_I} {c0 N K : Nat} (hd : ∀ y, y < N → dn M0 y) : ∀ (r k c : Nat) (I M : am_I), k + r = K → SK I0 M0 c0 N K I M c k → I 1 12 = nI K → M 36 18 = nI K →
    (∃ (I' M' : am_I) (qa : Nat), qa < 100 ∧ kF I I' ∧ kG M M' ∧ tyX I M I' M' c ∧ (∀ (scr : Nat → Int32) (L F d : Nat) (J : am_J) (Mx : am_I), h20 scr L F d I J Mx k (60 * (r + 1)) (some (some (.int (nI qa)), hp I' J Mx, 0, 0))) ∧ (∀ (scr : Nat → Int32) (L F d : Nat) (Ix : am_I) (J : am_J), h11 scr L F d Ix J M k (60 * (r + 1)) (some (some (.int 2), hp Ix J (wr M' 36 27 (nI qa)), 0, 0))))
    ∨ (∃ (I' M' : am_I) (c' : Nat), SK I0 M0 c0 N K I' M' c' K ∧ kF I I' ∧ kG M M' ∧ tyX I M I' M' c ∧ (∀ (scr : Nat → Int32) (L F d : Nat) (J : am_J) (Mx : am_I), h20 scr L F d I J Mx k (60 * (r + 1)) (some (some (.int (-1)), hp I' J Mx, 0, 0))) ∧ (∀ (scr : Nat → Int32) (L F d : Nat) (Ix : am_I) (J : am_J) (n0 : Nat) (R : Option am_X), h11 scr L F d Ix J M' K n0 R → h11 scr L F d Ix J M k (n0 + 60 * r) R)) := by
  intro r
  induction r with
  | zero =>
    intro k c I M hk h h1 h2
    have ek : k = K := by omega
    subst ek
    have hK := h.1.2.2.1
    have hN := h.1.2.1
    refine .inr ⟨I, M, c, h, kF_refl I, kG_refl M, tyX_refl I M c, fun scr L F d J Mx => ?_, fun scr L F d Ix J n0 R key => key⟩
    exact h20_end scr L F d I J Mx k k h1 (by omega) rfl
  | succ r ih =>
    intro k c I M hk h h1 h2
    have hK := h.1.2.2.1
    have hN := h.1.2.1
    have hkK : k < K := by omega
    obtain ⟨y, q, o, a1, a2, a3, a4, a5, a6, a7, a8, a9, a10⟩ := turn h hkK
    have hq0 : M0 42 y = nI q := by
      rw [← h.2.1.1.2.1]
      exact a5
    rcases ck_node h hkK a9 a2 hq0 a4 (hd y a2) with ⟨I', M', a, qa, b1, b2, b3, b4, b5, b6, b7, b8⟩ | ⟨I', M', c', t, b1, ⟨bc, bX⟩, b2, b3, b4, b5, b6⟩
    · refine .inl ⟨I', wr M' 71 y (-1 - nI a), qa, b3, b4, kG_trans b5 kG_71, tyX_wM b6 (by omega), fun scr L F d J Mx => ?_, fun scr L F d Ix J => ?_⟩
      · intro f tl hf hkb
        exact h20_err scr L F d I J Mx k K h1 (by omega) hkK q qa a3 b3 I' (b7 scr L F d J Mx) f tl (by omega) hkb
      · intro f tl hf hkb
        have k1 := b8 scr L F (d + 25) Ix J
        rw [show d + 25 + 20 = d + 45 by omega] at k1
        exact h11_err scr L F d Ix J M k K h2 (by omega) hkK y a a1 (by omega) b1 M' k1 _ b2 f tl (by omega) hkb
    · have h1' : I' 1 12 = nI K := (b2 1 12 (by omega)).trans h1
      have h2' : wr M' 71 y (nI t) 36 18 = nI K := (wr_ap _ _ _ _ _ _ (by omega)).trans ((b3.2 18 (by omega)).trans h2)
      have hX : tyX I M I' (wr M' 71 y (nI t)) c := tyX_wM bX (by omega)
      have k1 : ∀ (scr : Nat → Int32) (L F d : Nat) (Ix : am_I) (J : am_J), am_r scr L (F + 63000) (d + 45) 110 [.ref 37, .int (nI y)] (hp Ix J M) = some (some (.int (nI t)), hp Ix J M', 0, 0) := by
        intro scr L F d Ix J
        have := b5 scr L F (d + 25) Ix J
        rw [show d + 25 + 20 = d + 45 by omega] at this
        exact this
      rcases ih (k + 1) c' I' (wr M' 71 y (nI t)) (by omega) b6 h1' h2' with ⟨I2, M2, qa, g1, g2, g3, g4, g5, g6⟩ | ⟨I2, M2, c2, g1, g2, g3, g4, g5, g6⟩
      · refine .inl ⟨I2, M2, qa, g1, kF_trans b2 g2, kG_trans (kG_trans b3 kG_71) g3, tyX_trans hX g4 bc, fun scr L F d J Mx => ?_, fun scr L F d Ix J => ?_⟩
        · intro f tl hf hkb
          exact h20_go scr L F d I J Mx k K h1 (by omega) hkK q a3 I' (b4 scr L F d J Mx) _ _ (g5 scr L F d J Mx) f tl (by omega) hkb
        · intro f tl hf hkb
          exact h11_go scr L F d Ix J M k K h2 (by omega) hkK y t a1 (by omega) b1 M' (k1 scr L F d Ix J) _ _ (g6 scr L F d Ix J) f tl (by omega) hkb
      · refine .inr ⟨I2, M2, c2, g1, kF_trans b2 g2, kG_trans (kG_trans b3 kG_71) g3, tyX_trans hX g4 bc, fun scr L F d J Mx => ?_, fun scr L F d Ix J n0 R key => ?_⟩
        · intro f tl hf hkb
          exact h20_go scr L F d I J Mx k K h1 (by omega) hkK q a3 I' (b4 scr L F d J Mx) _ _ (g5 scr L F d J Mx) f tl (by omega) hkb
        · intro f tl hf hkb
          exact h11_go scr L F d Ix J M k K h2 (by omega) hkK y t a1 (by omega) b1 M' (k1 scr L F d Ix J) _ _ (g6 scr L F d Ix J n0 R key) f tl (by omega) hkb
