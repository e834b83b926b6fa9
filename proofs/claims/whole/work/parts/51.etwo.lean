/-! Reading an expression: calls, writes, operations, choices, casts, functions. -/
theorem g107_pair_b (M : am_I) (n p T : Nat) (a : Int32) (h : rdM M n p) (hT : T < 101) (hh : M 49 T = 0) (hop : M 41 T = 4) (x1 : ¬ tx (M 37) n p = 61) (x4 : ¬ tx (M 37) n p = 32) : ∃ v, ∀ (scr : Nat → Int32) (L F d : Nat) (I : am_I) (J : am_J), am_r scr L (F + 63000) (d + 30) 107 [.ref 37, .int (nI T), .int a] (hp I J M) = some (some (.int 0), hp I J (wr (wr (wr (wr M 49 T 1) 46 T a) 36 20 (nI (p + 1))) 41 T v), 0, 0) := ⟨_, fun scr L F d I J => g107_pair_f scr L F d I J M n p T a h hT hh hop x1 x4⟩
theorem g107_op_b (M : am_I) (n p T : Nat) (a : Int32) (h : rdM M n p) (hT : T < 101) (hh : M 49 T = 0) (hop : M 41 T = 6) (x2 : ¬ tx (M 37) n p = 45) (x3 : ¬ tx (M 37) n p = 60) (x4 : ¬ tx (M 37) n p = 43) : ∃ v, ∀ (scr : Nat → Int32) (L F d : Nat) (I : am_I) (J : am_J), am_r scr L (F + 63000) (d + 30) 107 [.ref 37, .int (nI T), .int a] (hp I J M) = some (some (.int 0), hp I J (wr (wr (wr (wr M 49 T 1) 46 T a) 36 20 (nI (p + 1))) 41 T v), 0, 0) := ⟨_, fun scr L F d I J => g107_op_f scr L F d I J M n p T a h hT hh hop x2 x3 x4⟩
theorem ex_pair {e : Nat} (ih : eAll e) {I M : am_I} {n p c N K o D : Nat} {y par : Int32} (hE : rdE I M n p c N K o) (hD : D + (e + 1) = 21) (hD0 : D = o + 1) (hP : isP M o par) (hy : yp M N y par) (hpn : p < n) (hx : I 19 p = 40) : eFail (e + 1) I M N D y ∨ ∃ (I' M' : am_I) (p' c' N' K' : Nat), eGood (e + 1) I M n p c N K o D y par I' M' p' c' N' K' := by
  have hT : M 37 = I 19 := hE.1.2.2.1
  have hn100 := hE.1.1.2.2.1
  have htx : tx (M 37) n p = 40 := by
    rw [hT]
    simp [tx, hpn, hx]
  have hcN := hE.2.1
  have hc5 := hE.1.2.2.2.2.1.1
  have m0 := Mid_begin (v := 4) (y := y) (par := par) (num := 40) hE hpn (by omega)
  have m2 := Mid_open m0 (by omega)
  have q41 : wr (wr (bgM M N p 4 par 40) 51 o (nI N)) 36 21 (nI (o + 1)) 41 N = 4 := by simp [bgM, wr, va_up, upd]
  have q49 : wr (wr (bgM M N p 4 par 40) 51 o (nI N)) 36 21 (nI (o + 1)) 49 N = 0 := by simp [bgM, wr, va_up, upd]
  rcases ih _ _ n (p + 1) c (N + 1) K (o + 1) (D + 1) (nI p) (nI N) m2.1 (by omega) (by omega) (.inr ⟨o, rfl, m2.2.2.2.1 rfl⟩) (.inr ⟨N, by omega, rfl, m2.2.2.2.2.1.symm⟩) with ⟨I3, M3, f1, f2, f3, f4, f5⟩ | ⟨I3, M3, p3, c3, N3, K3, g, gA, gB⟩
  · obtain ⟨w1, w2, w3⟩ := Mid_w m2
    refine .inl ⟨wr I3 9 p (-1), M3, wF_trans w1 (wF_trans f1 (wF_st (stI_wr (s := p) (by omega)))), wG_trans w2 f2, tyX_trans w3 (tyX_wI f3 (by omega)) (by omega), fun scr L F d J M0 => ?_, fun scr L F d I0 J => ?_⟩
    · have k1 := c71_f scr L F (d + 20 + 3 * e) ((beI (adI I (p + 1)) p y)) J M0 p D (by omega) I3 (by rw [show d + 20 + 3 * e + 20 = d + 40 + 3 * e by omega]; exact f4 scr L F d J M0)
      have k2 := c66_f1 scr L F (d + 20 + 3 * e) (beI (adI I (p + 1)) p y) J M0 p D n (by omega) _ k1
      have k3 := c61_pair_f scr L F (d + 13 + 3 * e) I J M0 n p D y hE.1.1 hpn (by omega) 40 hx rfl _ (by rw [show d + 13 + 3 * e + 29 = d + 20 + 3 * e + 22 by omega]; exact k2)
      rw [show d + 40 + 3 * (e + 1) = d + 13 + 3 * e + 30 by omega]
      exact k3
    · have k1 := b106_pair scr L F d I0 J M n p N o 40 hE.1.2.1 htx hE.2.2.1 (by omega) hE.2.2.2.1 (by omega) par hP rfl
      refine hO_le (N := 400 * (101 - (N + 1)) + 400 + 100) (by omega) ?_
      exact q_open scr L F d I0 J M _ N _ (by omega) _ k1 o hE.2.2.2.1 (wr_s _ _ _ _) (by omega) (f5 scr L F d I0 J)
  have m3 := Mid_part m2 g
  have t3 := pt_new (by omega) g
  obtain ⟨u1, u2, u3, u4, u5, u6, u7⟩ := part_f g
  have gp := g.2.1
  have gN := g.2.2.1
  have x41 := (u2 41 N (by omega) (by omega) (by omega)).trans q41
  have x49 := (u2 49 N (by omega) (by omega) (by omega)).trans q49
  have g42 : M3 42 (N + 1) = nI (p + 1) := g.2.2.2.2.2.2.2.2.2.1
  have hT3 : M3 37 = I3 19 := m3.1.1.2.2.1
  have r3 : rdI (wr I3 9 p (nI (p + 1))) n p3 := rdI_wr m3.1.1.1 (by omega)
  have i3 : wr I3 9 p (nI (p + 1)) 19 = I3 19 := wr_ne _ _ _ _ _ (by omega)
  have ka : ∀ (scr : Nat → Int32) (L F d : Nat) (J : am_J) (M0 : am_I), am_r scr L (F + 63000) (d + 20 + 3 * e + 21) 71 [.ref 19, .int (nI p), .int (nI D)] (hp (beI (adI I (p + 1)) p y) J M0) = some (some (.int 1), hp (wr I3 9 p (nI (p + 1))) J M0, 0, 0) := fun scr L F d J M0 => c71_g scr L F (d + 20 + 3 * e) (beI (adI I (p + 1)) p y) J M0 p D (p + 1) (by omega) (by omega) I3 (by rw [show d + 20 + 3 * e + 20 = d + 40 + 3 * e by omega]; exact gA scr L F d J M0)
  have ch1 : ∀ (scr : Nat → Int32) (L F d : Nat) (I0 : am_I) (J : am_J) (n0 : Nat) (R : Option am_X), hC scr L F d I0 J n0 (N3 - 1) (N + 1) M3 R → hO scr L F d I0 J (n0 + 100 * (2 * (N3 - (N + 1)) - 1) + 100) N M R := by
    intro scr L F d I0 J n0 R key
    have k1 := b106_pair scr L F d I0 J M n p N o 40 hE.1.2.1 htx hE.2.2.1 (by omega) hE.2.2.2.1 (by omega) par hP rfl
    refine q_open scr L F d I0 J M _ N _ (by omega) _ k1 o hE.2.2.2.1 (wr_s _ _ _ _) (by omega) ?_
    exact gB scr L F d I0 J _ _ key
  obtain ⟨v1, v2, v3⟩ := Mid_w m3
  by_cases s61 : tx (I3 19) n p3 = 61
  · have hp3 := tx_lt s61 (by decide)
    have sM : tx (M3 37) n p3 = 61 := by
      rw [hT3]
      exact s61
    have e4 : adI (wr (wr I3 9 p (nI (p + 1))) 7 p 5) (p3 + 1) = adI (wr (wr I3 9 p (nI (p + 1))) 7 p 5) (p3 + 1) := rfl
    have s1 : stI I3 (adI (wr (wr I3 9 p (nI (p + 1))) 7 p 5) (p3 + 1)) p := stI_trans (stI_wr (by omega)) (stI_trans (stI_wr (by omega)) stI_ad)
    have s2 : stM M3 (wr (wr (wr (wr M3 49 N 1) 46 N (nI (N + 1))) 36 20 (nI (p3 + 1))) 41 N 5) N := stM_trans (stM_wr (by omega)) (stM_trans (stM_wr (by omega)) (stM_trans (stM_ad (q := p3 + 1)) (stM_wr (by omega))))
    have hX : tyX I3 M3 (adI (wr (wr I3 9 p (nI (p + 1))) 7 p 5) (p3 + 1)) (wr (wr (wr (wr M3 49 N 1) 46 N (nI (N + 1))) 36 20 (nI (p3 + 1))) 41 N 5) c3 := tyX_aI (tyX_wI (tyX_wI (tyX_wM (tyX_wM (tyX_wM (tyX_wM (tyX_refl _ _ _) (by omega)) (by omega)) (by omega)) (by omega)) (by omega)) (by omega))
    have m4 : Mid I M (adI (wr (wr I3 9 p (nI (p + 1))) 7 p 5) (p3 + 1)) (wr (wr (wr (wr M3 49 N 1) 46 N (nI (N + 1))) 36 20 (nI (p3 + 1))) 41 N 5) n (p3 + 1) c3 N3 K3 (o + 1) o p N K c y par := Mid_step m3 (rdS_wM (rdS_ad (rdS_wI (rdS_wI (rdS_wM (rdS_wM m3.1.1 (by omega)) (by omega)) (by omega)) (by omega)) (by omega) (by omega)) (by omega)) (by omega) (by omega) (by have := m3.1.2.1; omega) hX s1 s2
    have t4 := pt_X t3 (st_ag (p := p3) (K0 := K) (K := K3) s1 s2) hX (by omega) (Nat.le_refl _) (Nat.le_refl _)
    have y41 : wr (wr (wr (wr M3 49 N 1) 46 N (nI (N + 1))) 36 20 (nI (p3 + 1))) 41 N 5 41 N = 5 := wr_s _ _ _ _
    have y49 : wr (wr (wr (wr M3 49 N 1) 46 N (nI (N + 1))) 36 20 (nI (p3 + 1))) 41 N 5 49 N = 1 := by
      rw [wr_q _ _ _ _ _ _ (by omega), wr_q _ _ _ _ _ _ (by omega), wr_q _ _ _ _ _ _ (by omega), wr_s]
    have y46 : wr (wr (wr (wr M3 49 N 1) 46 N (nI (N + 1))) 36 20 (nI (p3 + 1))) 41 N 5 46 N = nI (N + 1) := by
      rw [wr_q _ _ _ _ _ _ (by omega), wr_q _ _ _ _ _ _ (by omega), wr_s]
    have y42 : wr (wr (wr (wr M3 49 N 1) 46 N (nI (N + 1))) 36 20 (nI (p3 + 1))) 41 N 5 42 (N + 1) = nI (p + 1) := by
      rw [wr_q _ _ _ _ _ _ (by omega), wr_q _ _ _ _ _ _ (by omega), wr_q _ _ _ _ _ _ (by omega), wr_q _ _ _ _ _ _ (by omega)]
      exact g42
    have y9 : adI (wr (wr I3 9 p (nI (p + 1))) 7 p 5) (p3 + 1) 9 p = nI (p + 1) := by
      rw [adI_ne _ _ 9 (by omega), wr_q _ _ _ _ _ _ (by omega), wr_s]
    have y7 : adI (wr (wr I3 9 p (nI (p + 1))) 7 p 5) (p3 + 1) 7 p = 5 := by
      rw [adI_ne _ _ 7 (by omega), wr_s]
    have ch2 : ∀ (scr : Nat → Int32) (L F d : Nat) (I0 : am_I) (J : am_J) (n0 : Nat) (R : Option am_X), hO scr L F d I0 J n0 N3 (wr (wr (wr (wr M3 49 N 1) 46 N (nI (N + 1))) 36 20 (nI (p3 + 1))) 41 N 5) R → hO scr L F d I0 J (n0 + 100 * (2 * (N3 - N) - 1)) N M R := by
      intro scr L F d I0 J n0 R key
      have k2 := g107_pair_w scr L F d I0 J M3 n p3 N (nI (N + 1)) m3.1.1.2.1 (by omega) x49 x41 sM
      refine hO_le (N := (n0 + 100) + 100 * (2 * (N3 - (N + 1)) - 1) + 100) (by omega) ?_
      refine ch1 scr L F d I0 J _ _ ?_
      refine q_gn scr L F d I0 J M3 _ (N3 - 1) n0 (N + 1) (by omega) R o N m3.1.2.2.2.1 (by omega) (m3.2.2.2.1 rfl) (by omega) k2 m4.1.2.2.2.1 5 1 y41 y49 (by decide) ?_
      rw [show N3 - 1 + 1 = N3 by omega]
      exact key
    obtain ⟨v4, v5, v6⟩ := Mid_w m4
    rcases ih _ _ n (p3 + 1) c3 N3 K3 (o + 1) (D + 1) (nI p) (nI N) m4.1 (by omega) (by omega) (.inr ⟨o, rfl, m4.2.2.2.1 rfl⟩) (.inr ⟨N, by omega, rfl, m4.2.2.2.2.1.symm⟩) with ⟨I5, M5, f1, f2, f3, f4, f5⟩ | ⟨I5, M5, p5, c5, N5, K5, g2, gA2, gB2⟩
    · refine .inl ⟨wr I5 10 p (-1), M5, wF_trans v4 (wF_trans f1 (wF_st (stI_wr (s := p) (by omega)))), wG_trans v5 f2, tyX_trans v6 (tyX_wI f3 (by omega)) (by omega), fun scr L F d J M0 => ?_, fun scr L F d I0 J => ?_⟩
      · have k1 := c72_f scr L F (d + 20 + 3 * e) (adI (wr (wr I3 9 p (nI (p + 1))) 7 p 5) (p3 + 1)) J M0 p D (by omega) I5 (by rw [show d + 20 + 3 * e + 20 = d + 40 + 3 * e by omega]; exact f4 scr L F d J M0)
        have k2 := c66_w_f3 scr L F (d + 20 + 3 * e) (beI (adI I (p + 1)) p y) J M0 p D n (by omega) _ (ka scr L F d J M0) p3 r3 (by rw [i3]; exact s61) _ k1
        have k3 := c61_pair_f scr L F (d + 13 + 3 * e) I J M0 n p D y hE.1.1 hpn (by omega) 40 hx rfl _ (by rw [show d + 13 + 3 * e + 29 = d + 20 + 3 * e + 22 by omega]; exact k2)
        rw [show d + 40 + 3 * (e + 1) = d + 13 + 3 * e + 30 by omega]
        exact k3
      · refine hO_le (N := (400 * (101 - N3) + 400) + 100 * (2 * (N3 - N) - 1)) (by omega) ?_
        exact ch2 scr L F d I0 J _ _ (f5 scr L F d I0 J)
    have m5 := Mid_part m4 g2
    have t5 := pt_new (by omega) g2
    obtain ⟨w1, w2, w3, w4, w5, w6, w7⟩ := part_f g2
    have gp2 := g2.2.1
    have gN2 := g2.2.2.1
    have t6 := pt_X t4 (eF_ag (s := p) (K0 := K) g2.2.2.2.2.2.2.1 g2.2.2.2.2.2.2.2.1) g2.2.2.2.2.2.1 (by omega) g2.2.2.2.2.1 (Nat.le_of_lt gN2)
    have z41 := (w2 41 N (by omega) (by omega) (by omega)).trans y41
    have z49 := (w2 49 N (by omega) (by omega) (by omega)).trans y49
    have z46 := (w2 46 N (by omega) (by omega) (by omega)).trans y46
    have z42 := (w2 42 (N + 1) (by omega) (by omega) (by omega)).trans y42
    have z9 := (w1 9 p (by omega) (by omega) (by omega)).trans y9
    have z7 := (w1 7 p (by omega) (by omega) (by omega)).trans y7
    have z42b : M5 42 N3 = nI (p3 + 1) := g2.2.2.2.2.2.2.2.2.2.1
    have hT5 : M5 37 = I5 19 := m5.1.1.2.2.1
    have r5 : rdI (wr I5 10 p (nI (p3 + 1))) n p5 := rdI_wr m5.1.1.1 (by omega)
    have i5 : wr I5 10 p (nI (p3 + 1)) 19 = I5 19 := wr_ne _ _ _ _ _ (by omega)
    have kb2 : ∀ (scr : Nat → Int32) (L F d : Nat) (J : am_J) (M0 : am_I), am_r scr L (F + 63000) (d + 20 + 3 * e + 21) 72 [.ref 19, .int (nI p), .int (nI D)] (hp (adI (wr (wr I3 9 p (nI (p + 1))) 7 p 5) (p3 + 1)) J M0) = some (some (.int 1), hp (wr I5 10 p (nI (p3 + 1))) J M0, 0, 0) := fun scr L F d J M0 => c72_g scr L F (d + 20 + 3 * e) (adI (wr (wr I3 9 p (nI (p + 1))) 7 p 5) (p3 + 1)) J M0 p D (p3 + 1) (by omega) (by omega) I5 (by rw [show d + 20 + 3 * e + 20 = d + 40 + 3 * e by omega]; exact gA2 scr L F d J M0)
    have ch3 : ∀ (scr : Nat → Int32) (L F d : Nat) (I0 : am_I) (J : am_J) (n0 : Nat) (R : Option am_X), hC scr L F d I0 J n0 (N5 - 1) N3 M5 R → hO scr L F d I0 J (n0 + 100 * (2 * (N5 - N) - 2)) N M R := by
      intro scr L F d I0 J n0 R key
      refine hO_le (N := (n0 + 100 * (2 * (N5 - N3) - 1)) + 100 * (2 * (N3 - N) - 1)) (by omega) ?_
      refine ch2 scr L F d I0 J _ _ ?_
      exact gB2 scr L F d I0 J _ _ key
    obtain ⟨v7, v8, v9⟩ := Mid_w m5
    by_cases c1 : tx (I5 19) n p5 = 41
    · have hp5 := tx_lt c1 (by decide)
      have cM : tx (M5 37) n p5 = 41 := by
        rw [hT5]
        exact c1
      have s3 : stI I5 (adI (wr I5 10 p (nI (p3 + 1))) (p5 + 1)) p := stI_trans (stI_wr (by omega)) stI_ad
      have s4 : stM M5 (adM (wr (wr M5 49 N 2) 47 N (nI N3)) (p5 + 1)) N := stM_trans (stM_wr (by omega)) (stM_trans (stM_wr (by omega)) stM_ad)
      have hX6 : tyX I5 M5 (adI (wr I5 10 p (nI (p3 + 1))) (p5 + 1)) (adM (wr (wr M5 49 N 2) 47 N (nI N3)) (p5 + 1)) c5 := tyX_aI (tyX_wI (tyX_aM (tyX_wM (tyX_wM (tyX_refl _ _ _) (by omega)) (by omega))) (by omega))
      have m6 : Mid I M (adI (wr I5 10 p (nI (p3 + 1))) (p5 + 1)) (adM (wr (wr M5 49 N 2) 47 N (nI N3)) (p5 + 1)) n (p5 + 1) c5 N5 K5 (o + 1) o p N K c y par := Mid_step m5 (rdS_ad (rdS_wI (rdS_wM (rdS_wM m5.1.1 (by omega)) (by omega)) (by omega)) (by omega) (by omega)) (by omega) (by omega) (by have := m5.1.2.1; omega) hX6 s3 s4
      have t7 := pt_X t6 (st_ag (p := p5) (K0 := K) (K := K5) s3 s4) hX6 (by omega) (Nat.le_refl _) (Nat.le_refl _)
      have t8 := pt_X t5 (st_ag (p := p5) (K0 := K) (K := K5) s3 s4) hX6 (by omega) (Nat.le_refl _) (Nat.le_refl _)
      have q41 : adM (wr (wr M5 49 N 2) 47 N (nI N3)) (p5 + 1) 41 N = 5 := by
        rw [adM_ne _ _ 41 (by omega), wr_q _ _ _ _ _ _ (by omega), wr_q _ _ _ _ _ _ (by omega)]
        exact z41
      have q7 : adI (wr I5 10 p (nI (p3 + 1))) (p5 + 1) 7 p = 5 := by
        rw [adI_ne _ _ 7 (by omega), wr_q _ _ _ _ _ _ (by omega)]
        exact z7
      have q46 : adM (wr (wr M5 49 N 2) 47 N (nI N3)) (p5 + 1) 46 N = nI (N + 1) := by
        rw [adM_ne _ _ 46 (by omega), wr_q _ _ _ _ _ _ (by omega), wr_q _ _ _ _ _ _ (by omega)]
        exact z46
      have q42 : adM (wr (wr M5 49 N 2) 47 N (nI N3)) (p5 + 1) 42 (N + 1) = nI (p + 1) := by
        rw [adM_ne _ _ 42 (by omega), wr_q _ _ _ _ _ _ (by omega), wr_q _ _ _ _ _ _ (by omega)]
        exact z42
      have q42b : adM (wr (wr M5 49 N 2) 47 N (nI N3)) (p5 + 1) 42 N3 = nI (p3 + 1) := by
        rw [adM_ne _ _ 42 (by omega), wr_q _ _ _ _ _ _ (by omega), wr_q _ _ _ _ _ _ (by omega)]
        exact z42b
      have q47 : adM (wr (wr M5 49 N 2) 47 N (nI N3)) (p5 + 1) 47 N = nI N3 := by
        rw [adM_ne _ _ 47 (by omega), wr_s]
      have q49b : adM (wr (wr M5 49 N 2) 47 N (nI N3)) (p5 + 1) 49 N = 2 := by
        rw [adM_ne _ _ 49 (by omega), wr_q _ _ _ _ _ _ (by omega), wr_s]
      have q9 : adI (wr I5 10 p (nI (p3 + 1))) (p5 + 1) 9 p = nI (p + 1) := by
        rw [adI_ne _ _ 9 (by omega), wr_q _ _ _ _ _ _ (by omega)]
        exact z9
      have q10 : adI (wr I5 10 p (nI (p3 + 1))) (p5 + 1) 10 p = nI (p3 + 1) := by
        rw [adI_ne _ _ 10 (by omega), wr_s]
      have hnd : nd (adI (wr I5 10 p (nI (p3 + 1))) (p5 + 1)) (adM (wr (wr M5 49 N 2) 47 N (nI N3)) (p5 + 1)) N5 c5 N := nd_mk m6 hy 5 q41 q7 (by omega) (fun z => by omega) (fun z => by omega) (fun z => by omega) (fun z => by omega) (fun _ => ⟨N + 1, p + 1, by omega, t7.2.1, q46, q42, q9, t7.2.2.2.1⟩) (fun _ _ => ⟨N3, p3 + 1, by omega, t8.2.1, q47, q42b, q10, t8.2.2.2.1⟩) (fun z => by omega)
      have htw : tw (adI (wr I5 10 p (nI (p3 + 1))) (p5 + 1)) (adM (wr (wr M5 49 N 2) 47 N (nI N3)) (p5 + 1)) N5 c5 (e + 1) (p5 + 1 - p) N := ⟨by omega, by omega, 5, q41, by omega, fun z => by omega, fun z => by omega, fun _ _ => ⟨N + 1, N3, p3 - (p + 1), p5 - (p3 + 1), q46, by omega, t7.2.2.2.2, q47, by omega, t8.2.2.2.2, by omega⟩, fun z => by omega⟩
      refine .inr ⟨_, _, p5 + 1, c5, N5, K5 + 1, close_w m6 hnd htw (by omega) (dn_2 (o := 5) q41 (by omega) q46 q47 (by omega) (by omega)), fun scr L F d J M0 => ?_, fun scr L F d I0 J n0 R key => ?_⟩
      · have k2 := c66_w_g scr L F (d + 20 + 3 * e) (beI (adI I (p + 1)) p y) J M0 p D n (by omega) _ (ka scr L F d J M0) p3 r3 (by rw [i3]; exact s61) _ (kb2 scr L F d J M0) p5 r5 (by rw [i5]; exact c1)
        have k3 := c61_pair_g scr L F (d + 13 + 3 * e) I J M0 n p D y hE.1.1 hpn (by omega) 40 hx rfl _ K5 m6.1.2.2.2.2.2.1 (by have := m6.2.2.1; omega) (by rw [show d + 13 + 3 * e + 29 = d + 20 + 3 * e + 22 by omega]; exact k2)
        rw [show d + 40 + 3 * (e + 1) = d + 13 + 3 * e + 30 by omega]
        exact k3
      · have k2 := g107_pair2_w scr L F d I0 J M5 n p5 N (nI N3) m5.1.1.2.1 (by omega) z49 z41 cM
        refine hO_le (N := (n0 + 100) + 100 * (2 * (N5 - N) - 2)) (by omega) ?_
        refine ch3 scr L F d I0 J _ _ ?_
        exact q_gw scr L F d I0 J M5 _ (N5 - 1) n0 N3 (by omega) R o N m5.1.2.2.2.1 (by omega) (m5.2.2.2.1 rfl) (by omega) k2 m6.1.2.2.2.1 5 2 q41 q49b (by decide) K5 m6.1.2.2.2.2.2.2.1 (by have := m6.2.2.1; omega) key
    · refine .inl ⟨wr I5 10 p (nI (p3 + 1)), wr (wr M5 49 N 2) 47 N (nI N3), wF_trans v7 (wF_st (stI_wr (s := p) (by omega))), wG_trans v8 (wG_st (stM_trans (stM_wr (by omega)) (stM_wr (by omega)))), tyX_wI (tyX_wM (tyX_wM v9 (by omega)) (by omega)) (by omega), fun scr L F d J M0 => ?_, fun scr L F d I0 J => ?_⟩
      · have k2 := c66_w_f4 scr L F (d + 20 + 3 * e) (beI (adI I (p + 1)) p y) J M0 p D n (by omega) _ (ka scr L F d J M0) p3 r3 (by rw [i3]; exact s61) _ (kb2 scr L F d J M0) p5 r5 (by rw [i5]; exact c1)
        have k3 := c61_pair_f scr L F (d + 13 + 3 * e) I J M0 n p D y hE.1.1 hpn (by omega) 40 hx rfl _ (by rw [show d + 13 + 3 * e + 29 = d + 20 + 3 * e + 22 by omega]; exact k2)
        rw [show d + 40 + 3 * (e + 1) = d + 13 + 3 * e + 30 by omega]
        exact k3
      · have k2 := g107_pair2_w_f scr L F d I0 J M5 n p5 N (nI N3) m5.1.1.2.1 (by omega) z49 z41 (by rw [hT5]; exact c1)
        refine hO_le (N := 100 + 100 * (2 * (N5 - N) - 2)) (by omega) ?_
        refine ch3 scr L F d I0 J _ _ ?_
        exact q_gf scr L F d I0 J M5 _ (N5 - 1) 0 N3 (by omega) none o N m5.1.2.2.2.1 (by omega) (m5.2.2.2.1 rfl) (by omega) k2
  by_cases s32 : tx (I3 19) n p3 = 32
  · have hp3 := tx_lt s32 (by decide)
    have sM : tx (M3 37) n p3 = 32 := by
      rw [hT3]
      exact s32
    have e4 : adI (wr (wr I3 9 p (nI (p + 1))) 7 p 4) (p3 + 1) = adI (wr (wr I3 9 p (nI (p + 1))) 7 p 4) (p3 + 1) := rfl
    have s1 : stI I3 (adI (wr (wr I3 9 p (nI (p + 1))) 7 p 4) (p3 + 1)) p := stI_trans (stI_wr (by omega)) (stI_trans (stI_wr (by omega)) stI_ad)
    have s2 : stM M3 (wr (wr (wr (wr M3 49 N 1) 46 N (nI (N + 1))) 36 20 (nI (p3 + 1))) 41 N 4) N := stM_trans (stM_wr (by omega)) (stM_trans (stM_wr (by omega)) (stM_trans (stM_ad (q := p3 + 1)) (stM_wr (by omega))))
    have hX : tyX I3 M3 (adI (wr (wr I3 9 p (nI (p + 1))) 7 p 4) (p3 + 1)) (wr (wr (wr (wr M3 49 N 1) 46 N (nI (N + 1))) 36 20 (nI (p3 + 1))) 41 N 4) c3 := tyX_aI (tyX_wI (tyX_wI (tyX_wM (tyX_wM (tyX_wM (tyX_wM (tyX_refl _ _ _) (by omega)) (by omega)) (by omega)) (by omega)) (by omega)) (by omega))
    have m4 : Mid I M (adI (wr (wr I3 9 p (nI (p + 1))) 7 p 4) (p3 + 1)) (wr (wr (wr (wr M3 49 N 1) 46 N (nI (N + 1))) 36 20 (nI (p3 + 1))) 41 N 4) n (p3 + 1) c3 N3 K3 (o + 1) o p N K c y par := Mid_step m3 (rdS_wM (rdS_ad (rdS_wI (rdS_wI (rdS_wM (rdS_wM m3.1.1 (by omega)) (by omega)) (by omega)) (by omega)) (by omega) (by omega)) (by omega)) (by omega) (by omega) (by have := m3.1.2.1; omega) hX s1 s2
    have t4 := pt_X t3 (st_ag (p := p3) (K0 := K) (K := K3) s1 s2) hX (by omega) (Nat.le_refl _) (Nat.le_refl _)
    have y41 : wr (wr (wr (wr M3 49 N 1) 46 N (nI (N + 1))) 36 20 (nI (p3 + 1))) 41 N 4 41 N = 4 := wr_s _ _ _ _
    have y49 : wr (wr (wr (wr M3 49 N 1) 46 N (nI (N + 1))) 36 20 (nI (p3 + 1))) 41 N 4 49 N = 1 := by
      rw [wr_q _ _ _ _ _ _ (by omega), wr_q _ _ _ _ _ _ (by omega), wr_q _ _ _ _ _ _ (by omega), wr_s]
    have y46 : wr (wr (wr (wr M3 49 N 1) 46 N (nI (N + 1))) 36 20 (nI (p3 + 1))) 41 N 4 46 N = nI (N + 1) := by
      rw [wr_q _ _ _ _ _ _ (by omega), wr_q _ _ _ _ _ _ (by omega), wr_s]
    have y42 : wr (wr (wr (wr M3 49 N 1) 46 N (nI (N + 1))) 36 20 (nI (p3 + 1))) 41 N 4 42 (N + 1) = nI (p + 1) := by
      rw [wr_q _ _ _ _ _ _ (by omega), wr_q _ _ _ _ _ _ (by omega), wr_q _ _ _ _ _ _ (by omega), wr_q _ _ _ _ _ _ (by omega)]
      exact g42
    have y9 : adI (wr (wr I3 9 p (nI (p + 1))) 7 p 4) (p3 + 1) 9 p = nI (p + 1) := by
      rw [adI_ne _ _ 9 (by omega), wr_q _ _ _ _ _ _ (by omega), wr_s]
    have y7 : adI (wr (wr I3 9 p (nI (p + 1))) 7 p 4) (p3 + 1) 7 p = 4 := by
      rw [adI_ne _ _ 7 (by omega), wr_s]
    have ch2 : ∀ (scr : Nat → Int32) (L F d : Nat) (I0 : am_I) (J : am_J) (n0 : Nat) (R : Option am_X), hO scr L F d I0 J n0 N3 (wr (wr (wr (wr M3 49 N 1) 46 N (nI (N + 1))) 36 20 (nI (p3 + 1))) 41 N 4) R → hO scr L F d I0 J (n0 + 100 * (2 * (N3 - N) - 1)) N M R := by
      intro scr L F d I0 J n0 R key
      have k2 := g107_pair_c scr L F d I0 J M3 n p3 N (nI (N + 1)) m3.1.1.2.1 (by omega) x49 x41 sM
      refine hO_le (N := (n0 + 100) + 100 * (2 * (N3 - (N + 1)) - 1) + 100) (by omega) ?_
      refine ch1 scr L F d I0 J _ _ ?_
      refine q_gn scr L F d I0 J M3 _ (N3 - 1) n0 (N + 1) (by omega) R o N m3.1.2.2.2.1 (by omega) (m3.2.2.2.1 rfl) (by omega) k2 m4.1.2.2.2.1 4 1 y41 y49 (by decide) ?_
      rw [show N3 - 1 + 1 = N3 by omega]
      exact key
    obtain ⟨v4, v5, v6⟩ := Mid_w m4
    rcases ih _ _ n (p3 + 1) c3 N3 K3 (o + 1) (D + 1) (nI p) (nI N) m4.1 (by omega) (by omega) (.inr ⟨o, rfl, m4.2.2.2.1 rfl⟩) (.inr ⟨N, by omega, rfl, m4.2.2.2.2.1.symm⟩) with ⟨I5, M5, f1, f2, f3, f4, f5⟩ | ⟨I5, M5, p5, c5, N5, K5, g2, gA2, gB2⟩
    · refine .inl ⟨wr I5 10 p (-1), M5, wF_trans v4 (wF_trans f1 (wF_st (stI_wr (s := p) (by omega)))), wG_trans v5 f2, tyX_trans v6 (tyX_wI f3 (by omega)) (by omega), fun scr L F d J M0 => ?_, fun scr L F d I0 J => ?_⟩
      · have k1 := c72_f scr L F (d + 20 + 3 * e) (adI (wr (wr I3 9 p (nI (p + 1))) 7 p 4) (p3 + 1)) J M0 p D (by omega) I5 (by rw [show d + 20 + 3 * e + 20 = d + 40 + 3 * e by omega]; exact f4 scr L F d J M0)
        have k2 := c66_c_f3 scr L F (d + 20 + 3 * e) (beI (adI I (p + 1)) p y) J M0 p D n (by omega) _ (ka scr L F d J M0) p3 r3 (by rw [i3]; exact s32) _ k1
        have k3 := c61_pair_f scr L F (d + 13 + 3 * e) I J M0 n p D y hE.1.1 hpn (by omega) 40 hx rfl _ (by rw [show d + 13 + 3 * e + 29 = d + 20 + 3 * e + 22 by omega]; exact k2)
        rw [show d + 40 + 3 * (e + 1) = d + 13 + 3 * e + 30 by omega]
        exact k3
      · refine hO_le (N := (400 * (101 - N3) + 400) + 100 * (2 * (N3 - N) - 1)) (by omega) ?_
        exact ch2 scr L F d I0 J _ _ (f5 scr L F d I0 J)
    have m5 := Mid_part m4 g2
    have t5 := pt_new (by omega) g2
    obtain ⟨w1, w2, w3, w4, w5, w6, w7⟩ := part_f g2
    have gp2 := g2.2.1
    have gN2 := g2.2.2.1
    have t6 := pt_X t4 (eF_ag (s := p) (K0 := K) g2.2.2.2.2.2.2.1 g2.2.2.2.2.2.2.2.1) g2.2.2.2.2.2.1 (by omega) g2.2.2.2.2.1 (Nat.le_of_lt gN2)
    have z41 := (w2 41 N (by omega) (by omega) (by omega)).trans y41
    have z49 := (w2 49 N (by omega) (by omega) (by omega)).trans y49
    have z46 := (w2 46 N (by omega) (by omega) (by omega)).trans y46
    have z42 := (w2 42 (N + 1) (by omega) (by omega) (by omega)).trans y42
    have z9 := (w1 9 p (by omega) (by omega) (by omega)).trans y9
    have z7 := (w1 7 p (by omega) (by omega) (by omega)).trans y7
    have z42b : M5 42 N3 = nI (p3 + 1) := g2.2.2.2.2.2.2.2.2.2.1
    have hT5 : M5 37 = I5 19 := m5.1.1.2.2.1
    have r5 : rdI (wr I5 10 p (nI (p3 + 1))) n p5 := rdI_wr m5.1.1.1 (by omega)
    have i5 : wr I5 10 p (nI (p3 + 1)) 19 = I5 19 := wr_ne _ _ _ _ _ (by omega)
    have kb2 : ∀ (scr : Nat → Int32) (L F d : Nat) (J : am_J) (M0 : am_I), am_r scr L (F + 63000) (d + 20 + 3 * e + 21) 72 [.ref 19, .int (nI p), .int (nI D)] (hp (adI (wr (wr I3 9 p (nI (p + 1))) 7 p 4) (p3 + 1)) J M0) = some (some (.int 1), hp (wr I5 10 p (nI (p3 + 1))) J M0, 0, 0) := fun scr L F d J M0 => c72_g scr L F (d + 20 + 3 * e) (adI (wr (wr I3 9 p (nI (p + 1))) 7 p 4) (p3 + 1)) J M0 p D (p3 + 1) (by omega) (by omega) I5 (by rw [show d + 20 + 3 * e + 20 = d + 40 + 3 * e by omega]; exact gA2 scr L F d J M0)
    have ch3 : ∀ (scr : Nat → Int32) (L F d : Nat) (I0 : am_I) (J : am_J) (n0 : Nat) (R : Option am_X), hC scr L F d I0 J n0 (N5 - 1) N3 M5 R → hO scr L F d I0 J (n0 + 100 * (2 * (N5 - N) - 2)) N M R := by
      intro scr L F d I0 J n0 R key
      refine hO_le (N := (n0 + 100 * (2 * (N5 - N3) - 1)) + 100 * (2 * (N3 - N) - 1)) (by omega) ?_
      refine ch2 scr L F d I0 J _ _ ?_
      exact gB2 scr L F d I0 J _ _ key
    obtain ⟨v7, v8, v9⟩ := Mid_w m5
    by_cases c1 : tx (I5 19) n p5 = 41
    · have hp5 := tx_lt c1 (by decide)
      have cM : tx (M5 37) n p5 = 41 := by
        rw [hT5]
        exact c1
      have s3 : stI I5 (adI (wr I5 10 p (nI (p3 + 1))) (p5 + 1)) p := stI_trans (stI_wr (by omega)) stI_ad
      have s4 : stM M5 (adM (wr (wr M5 49 N 2) 47 N (nI N3)) (p5 + 1)) N := stM_trans (stM_wr (by omega)) (stM_trans (stM_wr (by omega)) stM_ad)
      have hX6 : tyX I5 M5 (adI (wr I5 10 p (nI (p3 + 1))) (p5 + 1)) (adM (wr (wr M5 49 N 2) 47 N (nI N3)) (p5 + 1)) c5 := tyX_aI (tyX_wI (tyX_aM (tyX_wM (tyX_wM (tyX_refl _ _ _) (by omega)) (by omega))) (by omega))
      have m6 : Mid I M (adI (wr I5 10 p (nI (p3 + 1))) (p5 + 1)) (adM (wr (wr M5 49 N 2) 47 N (nI N3)) (p5 + 1)) n (p5 + 1) c5 N5 K5 (o + 1) o p N K c y par := Mid_step m5 (rdS_ad (rdS_wI (rdS_wM (rdS_wM m5.1.1 (by omega)) (by omega)) (by omega)) (by omega) (by omega)) (by omega) (by omega) (by have := m5.1.2.1; omega) hX6 s3 s4
      have t7 := pt_X t6 (st_ag (p := p5) (K0 := K) (K := K5) s3 s4) hX6 (by omega) (Nat.le_refl _) (Nat.le_refl _)
      have t8 := pt_X t5 (st_ag (p := p5) (K0 := K) (K := K5) s3 s4) hX6 (by omega) (Nat.le_refl _) (Nat.le_refl _)
      have q41 : adM (wr (wr M5 49 N 2) 47 N (nI N3)) (p5 + 1) 41 N = 4 := by
        rw [adM_ne _ _ 41 (by omega), wr_q _ _ _ _ _ _ (by omega), wr_q _ _ _ _ _ _ (by omega)]
        exact z41
      have q7 : adI (wr I5 10 p (nI (p3 + 1))) (p5 + 1) 7 p = 4 := by
        rw [adI_ne _ _ 7 (by omega), wr_q _ _ _ _ _ _ (by omega)]
        exact z7
      have q46 : adM (wr (wr M5 49 N 2) 47 N (nI N3)) (p5 + 1) 46 N = nI (N + 1) := by
        rw [adM_ne _ _ 46 (by omega), wr_q _ _ _ _ _ _ (by omega), wr_q _ _ _ _ _ _ (by omega)]
        exact z46
      have q42 : adM (wr (wr M5 49 N 2) 47 N (nI N3)) (p5 + 1) 42 (N + 1) = nI (p + 1) := by
        rw [adM_ne _ _ 42 (by omega), wr_q _ _ _ _ _ _ (by omega), wr_q _ _ _ _ _ _ (by omega)]
        exact z42
      have q42b : adM (wr (wr M5 49 N 2) 47 N (nI N3)) (p5 + 1) 42 N3 = nI (p3 + 1) := by
        rw [adM_ne _ _ 42 (by omega), wr_q _ _ _ _ _ _ (by omega), wr_q _ _ _ _ _ _ (by omega)]
        exact z42b
      have q47 : adM (wr (wr M5 49 N 2) 47 N (nI N3)) (p5 + 1) 47 N = nI N3 := by
        rw [adM_ne _ _ 47 (by omega), wr_s]
      have q49b : adM (wr (wr M5 49 N 2) 47 N (nI N3)) (p5 + 1) 49 N = 2 := by
        rw [adM_ne _ _ 49 (by omega), wr_q _ _ _ _ _ _ (by omega), wr_s]
      have q9 : adI (wr I5 10 p (nI (p3 + 1))) (p5 + 1) 9 p = nI (p + 1) := by
        rw [adI_ne _ _ 9 (by omega), wr_q _ _ _ _ _ _ (by omega)]
        exact z9
      have q10 : adI (wr I5 10 p (nI (p3 + 1))) (p5 + 1) 10 p = nI (p3 + 1) := by
        rw [adI_ne _ _ 10 (by omega), wr_s]
      have hnd : nd (adI (wr I5 10 p (nI (p3 + 1))) (p5 + 1)) (adM (wr (wr M5 49 N 2) 47 N (nI N3)) (p5 + 1)) N5 c5 N := nd_mk m6 hy 4 q41 q7 (by omega) (fun z => by omega) (fun z => by omega) (fun z => by omega) (fun z => by omega) (fun _ => ⟨N + 1, p + 1, by omega, t7.2.1, q46, q42, q9, t7.2.2.2.1⟩) (fun _ _ => ⟨N3, p3 + 1, by omega, t8.2.1, q47, q42b, q10, t8.2.2.2.1⟩) (fun z => by omega)
      have htw : tw (adI (wr I5 10 p (nI (p3 + 1))) (p5 + 1)) (adM (wr (wr M5 49 N 2) 47 N (nI N3)) (p5 + 1)) N5 c5 (e + 1) (p5 + 1 - p) N := ⟨by omega, by omega, 4, q41, by omega, fun z => by omega, fun z => by omega, fun _ _ => ⟨N + 1, N3, p3 - (p + 1), p5 - (p3 + 1), q46, by omega, t7.2.2.2.2, q47, by omega, t8.2.2.2.2, by omega⟩, fun z => by omega⟩
      refine .inr ⟨_, _, p5 + 1, c5, N5, K5 + 1, close_w m6 hnd htw (by omega) (dn_2 (o := 4) q41 (by omega) q46 q47 (by omega) (by omega)), fun scr L F d J M0 => ?_, fun scr L F d I0 J n0 R key => ?_⟩
      · have k2 := c66_c_g scr L F (d + 20 + 3 * e) (beI (adI I (p + 1)) p y) J M0 p D n (by omega) _ (ka scr L F d J M0) p3 r3 (by rw [i3]; exact s32) _ (kb2 scr L F d J M0) p5 r5 (by rw [i5]; exact c1)
        have k3 := c61_pair_g scr L F (d + 13 + 3 * e) I J M0 n p D y hE.1.1 hpn (by omega) 40 hx rfl _ K5 m6.1.2.2.2.2.2.1 (by have := m6.2.2.1; omega) (by rw [show d + 13 + 3 * e + 29 = d + 20 + 3 * e + 22 by omega]; exact k2)
        rw [show d + 40 + 3 * (e + 1) = d + 13 + 3 * e + 30 by omega]
        exact k3
      · have k2 := g107_pair2_c scr L F d I0 J M5 n p5 N (nI N3) m5.1.1.2.1 (by omega) z49 z41 cM
        refine hO_le (N := (n0 + 100) + 100 * (2 * (N5 - N) - 2)) (by omega) ?_
        refine ch3 scr L F d I0 J _ _ ?_
        exact q_gw scr L F d I0 J M5 _ (N5 - 1) n0 N3 (by omega) R o N m5.1.2.2.2.1 (by omega) (m5.2.2.2.1 rfl) (by omega) k2 m6.1.2.2.2.1 4 2 q41 q49b (by decide) K5 m6.1.2.2.2.2.2.2.1 (by have := m6.2.2.1; omega) key
    · refine .inl ⟨wr I5 10 p (nI (p3 + 1)), wr (wr M5 49 N 2) 47 N (nI N3), wF_trans v7 (wF_st (stI_wr (s := p) (by omega))), wG_trans v8 (wG_st (stM_trans (stM_wr (by omega)) (stM_wr (by omega)))), tyX_wI (tyX_wM (tyX_wM v9 (by omega)) (by omega)) (by omega), fun scr L F d J M0 => ?_, fun scr L F d I0 J => ?_⟩
      · have k2 := c66_c_f4 scr L F (d + 20 + 3 * e) (beI (adI I (p + 1)) p y) J M0 p D n (by omega) _ (ka scr L F d J M0) p3 r3 (by rw [i3]; exact s32) _ (kb2 scr L F d J M0) p5 r5 (by rw [i5]; exact c1)
        have k3 := c61_pair_f scr L F (d + 13 + 3 * e) I J M0 n p D y hE.1.1 hpn (by omega) 40 hx rfl _ (by rw [show d + 13 + 3 * e + 29 = d + 20 + 3 * e + 22 by omega]; exact k2)
        rw [show d + 40 + 3 * (e + 1) = d + 13 + 3 * e + 30 by omega]
        exact k3
      · have k2 := g107_pair2_c_f scr L F d I0 J M5 n p5 N (nI N3) m5.1.1.2.1 (by omega) z49 z41 (by rw [hT5]; exact c1)
        refine hO_le (N := 100 + 100 * (2 * (N5 - N) - 2)) (by omega) ?_
        refine ch3 scr L F d I0 J _ _ ?_
        exact q_gf scr L F d I0 J M5 _ (N5 - 1) 0 N3 (by omega) none o N m5.1.2.2.2.1 (by omega) (m5.2.2.2.1 rfl) (by omega) k2
  have kf : ∀ (scr : Nat → Int32) (L F d : Nat) (J : am_J) (M0 : am_I), am_r scr L (F + 63000) (d + 20 + 3 * e + 22) 66 [.ref 19, .int (nI p), .int (nI D)] (hp (beI (adI I (p + 1)) p y) J M0) = some (some (.int 0), hp (wr (wr I3 9 p (nI (p + 1))) 7 p 4) J M0, 0, 0) := fun scr L F d J M0 => c66_f2 scr L F (d + 20 + 3 * e) (beI (adI I (p + 1)) p y) J M0 p D n (by omega) _ (ka scr L F d J M0) p3 r3 (by rw [i3]; exact s61) (by rw [i3]; exact s32)
  obtain ⟨vv, hv⟩ : ∃ vv, ∀ (scr : Nat → Int32) (L F d : Nat) (I0 : am_I) (J : am_J), am_r scr L (F + 63000) (d + 30) 107 [.ref 37, .int (nI N), .int (nI (N + 1))] (hp I0 J M3) = some (some (.int 0), hp I0 J (wr (wr (wr (wr M3 49 N 1) 46 N (nI (N + 1))) 36 20 (nI (p3 + 1))) 41 N vv), 0, 0) := g107_pair_b M3 n p3 N (nI (N + 1)) m3.1.1.2.1 (by omega) x49 x41 (by rw [hT3]; exact s61) (by rw [hT3]; exact s32)
  refine .inl ⟨_, _, wF_trans v1 (wF_st (stI_trans (stI_wr (x := 9) (s := p) (v := nI (p + 1)) (by omega)) (stI_wr (x := 7) (s := p) (v := 4) (by omega)))), wG_trans v2 (wG_st (stM_trans (stM_wr (x := 49) (T := N) (v := 1) (by omega)) (stM_trans (stM_wr (x := 46) (T := N) (v := nI (N + 1)) (by omega)) (stM_trans (stM_ad (q := p3 + 1)) (stM_wr (x := 41) (T := N) (v := vv) (by omega)))))), tyX_wI (tyX_wI (tyX_wM (tyX_aM (tyX_wM (tyX_wM v3 (by omega)) (by omega))) (by omega)) (by omega)) (by omega), fun scr L F d J M0 => ?_, fun scr L F d I0 J => ?_⟩
  · have k2 := kf scr L F d J M0
    have k3 := c61_pair_f scr L F (d + 13 + 3 * e) I J M0 n p D y hE.1.1 hpn (by omega) 40 hx rfl _ (by rw [show d + 13 + 3 * e + 29 = d + 20 + 3 * e + 22 by omega]; exact k2)
    rw [show d + 40 + 3 * (e + 1) = d + 13 + 3 * e + 30 by omega]
    exact k3
  · refine hO_le (N := 100 + 100 * (2 * (N3 - (N + 1)) - 1) + 100) (by omega) ?_
    refine ch1 scr L F d I0 J _ _ ?_
    exact q_gf scr L F d I0 J M3 _ (N3 - 1) 0 (N + 1) (by omega) none o N m3.1.2.2.2.1 (by omega) (m3.2.2.2.1 rfl) (by omega) (hv scr L F d I0 J)

theorem ex_op {e : Nat} (ih : eAll e) {I M : am_I} {n p c N K o D : Nat} {y par : Int32} (hE : rdE I M n p c N K o) (hD : D + (e + 1) = 21) (hD0 : D = o + 1) (hP : isP M o par) (hy : yp M N y par) (hpn : p < n) (hx : I 19 p = 123) : eFail (e + 1) I M N D y ∨ ∃ (I' M' : am_I) (p' c' N' K' : Nat), eGood (e + 1) I M n p c N K o D y par I' M' p' c' N' K' := by
  have hT : M 37 = I 19 := hE.1.2.2.1
  have hn100 := hE.1.1.2.2.1
  have htx : tx (M 37) n p = 123 := by
    rw [hT]
    simp [tx, hpn, hx]
  have hcN := hE.2.1
  have hc5 := hE.1.2.2.2.2.1.1
  have m0 := Mid_begin (v := 6) (y := y) (par := par) (num := 123) hE hpn (by omega)
  have m2 := Mid_open m0 (by omega)
  have q41 : wr (wr (bgM M N p 6 par 123) 51 o (nI N)) 36 21 (nI (o + 1)) 41 N = 6 := by simp [bgM, wr, va_up, upd]
  have q49 : wr (wr (bgM M N p 6 par 123) 51 o (nI N)) 36 21 (nI (o + 1)) 49 N = 0 := by simp [bgM, wr, va_up, upd]
  rcases ih _ _ n (p + 1) c (N + 1) K (o + 1) (D + 1) (nI p) (nI N) m2.1 (by omega) (by omega) (.inr ⟨o, rfl, m2.2.2.2.1 rfl⟩) (.inr ⟨N, by omega, rfl, m2.2.2.2.2.1.symm⟩) with ⟨I3, M3, f1, f2, f3, f4, f5⟩ | ⟨I3, M3, p3, c3, N3, K3, g, gA, gB⟩
  · obtain ⟨w1, w2, w3⟩ := Mid_w m2
    refine .inl ⟨wr I3 9 p (-1), M3, wF_trans w1 (wF_trans f1 (wF_st (stI_wr (s := p) (by omega)))), wG_trans w2 f2, tyX_trans w3 (tyX_wI f3 (by omega)) (by omega), fun scr L F d J M0 => ?_, fun scr L F d I0 J => ?_⟩
    · have k1 := c71_f scr L F (d + 20 + 3 * e) ((beI (adI I (p + 1)) p y)) J M0 p D (by omega) I3 (by rw [show d + 20 + 3 * e + 20 = d + 40 + 3 * e by omega]; exact f4 scr L F d J M0)
      have k2 := c67_f1 scr L F (d + 20 + 3 * e) (beI (adI I (p + 1)) p y) J M0 p D n (by omega) _ k1
      have k3 := c61_op_f scr L F (d + 13 + 3 * e) I J M0 n p D y hE.1.1 hpn (by omega) 123 hx rfl _ (by rw [show d + 13 + 3 * e + 29 = d + 20 + 3 * e + 22 by omega]; exact k2)
      rw [show d + 40 + 3 * (e + 1) = d + 13 + 3 * e + 30 by omega]
      exact k3
    · have k1 := b106_op scr L F d I0 J M n p N o 123 hE.1.2.1 htx hE.2.2.1 (by omega) hE.2.2.2.1 (by omega) par hP rfl
      refine hO_le (N := 400 * (101 - (N + 1)) + 400 + 100) (by omega) ?_
      exact q_open scr L F d I0 J M _ N _ (by omega) _ k1 o hE.2.2.2.1 (wr_s _ _ _ _) (by omega) (f5 scr L F d I0 J)
  have m3 := Mid_part m2 g
  have t3 := pt_new (by omega) g
  obtain ⟨u1, u2, u3, u4, u5, u6, u7⟩ := part_f g
  have gp := g.2.1
  have gN := g.2.2.1
  have x41 := (u2 41 N (by omega) (by omega) (by omega)).trans q41
  have x49 := (u2 49 N (by omega) (by omega) (by omega)).trans q49
  have g42 : M3 42 (N + 1) = nI (p + 1) := g.2.2.2.2.2.2.2.2.2.1
  have hT3 : M3 37 = I3 19 := m3.1.1.2.2.1
  have r3 : rdI (wr I3 9 p (nI (p + 1))) n p3 := rdI_wr m3.1.1.1 (by omega)
  have i3 : wr I3 9 p (nI (p + 1)) 19 = I3 19 := wr_ne _ _ _ _ _ (by omega)
  have ka : ∀ (scr : Nat → Int32) (L F d : Nat) (J : am_J) (M0 : am_I), am_r scr L (F + 63000) (d + 20 + 3 * e + 21) 71 [.ref 19, .int (nI p), .int (nI D)] (hp (beI (adI I (p + 1)) p y) J M0) = some (some (.int 1), hp (wr I3 9 p (nI (p + 1))) J M0, 0, 0) := fun scr L F d J M0 => c71_g scr L F (d + 20 + 3 * e) (beI (adI I (p + 1)) p y) J M0 p D (p + 1) (by omega) (by omega) I3 (by rw [show d + 20 + 3 * e + 20 = d + 40 + 3 * e by omega]; exact gA scr L F d J M0)
  have ch1 : ∀ (scr : Nat → Int32) (L F d : Nat) (I0 : am_I) (J : am_J) (n0 : Nat) (R : Option am_X), hC scr L F d I0 J n0 (N3 - 1) (N + 1) M3 R → hO scr L F d I0 J (n0 + 100 * (2 * (N3 - (N + 1)) - 1) + 100) N M R := by
    intro scr L F d I0 J n0 R key
    have k1 := b106_op scr L F d I0 J M n p N o 123 hE.1.2.1 htx hE.2.2.1 (by omega) hE.2.2.2.1 (by omega) par hP rfl
    refine q_open scr L F d I0 J M _ N _ (by omega) _ k1 o hE.2.2.2.1 (wr_s _ _ _ _) (by omega) ?_
    exact gB scr L F d I0 J _ _ key
  obtain ⟨v1, v2, v3⟩ := Mid_w m3
  by_cases s43 : tx (I3 19) n p3 = 43
  · have hp3 := tx_lt s43 (by decide)
    have sM : tx (M3 37) n p3 = 43 := by
      rw [hT3]
      exact s43
    have e4 : adI (wr (wr I3 9 p (nI (p + 1))) 7 p 6) (p3 + 1) = adI (wr (wr I3 9 p (nI (p + 1))) 7 p 6) (p3 + 1) := rfl
    have s1 : stI I3 (adI (wr (wr I3 9 p (nI (p + 1))) 7 p 6) (p3 + 1)) p := stI_trans (stI_wr (by omega)) (stI_trans (stI_wr (by omega)) stI_ad)
    have s2 : stM M3 (wr (wr (wr (wr M3 49 N 1) 46 N (nI (N + 1))) 36 20 (nI (p3 + 1))) 41 N 6) N := stM_trans (stM_wr (by omega)) (stM_trans (stM_wr (by omega)) (stM_trans (stM_ad (q := p3 + 1)) (stM_wr (by omega))))
    have hX : tyX I3 M3 (adI (wr (wr I3 9 p (nI (p + 1))) 7 p 6) (p3 + 1)) (wr (wr (wr (wr M3 49 N 1) 46 N (nI (N + 1))) 36 20 (nI (p3 + 1))) 41 N 6) c3 := tyX_aI (tyX_wI (tyX_wI (tyX_wM (tyX_wM (tyX_wM (tyX_wM (tyX_refl _ _ _) (by omega)) (by omega)) (by omega)) (by omega)) (by omega)) (by omega))
    have m4 : Mid I M (adI (wr (wr I3 9 p (nI (p + 1))) 7 p 6) (p3 + 1)) (wr (wr (wr (wr M3 49 N 1) 46 N (nI (N + 1))) 36 20 (nI (p3 + 1))) 41 N 6) n (p3 + 1) c3 N3 K3 (o + 1) o p N K c y par := Mid_step m3 (rdS_wM (rdS_ad (rdS_wI (rdS_wI (rdS_wM (rdS_wM m3.1.1 (by omega)) (by omega)) (by omega)) (by omega)) (by omega) (by omega)) (by omega)) (by omega) (by omega) (by have := m3.1.2.1; omega) hX s1 s2
    have t4 := pt_X t3 (st_ag (p := p3) (K0 := K) (K := K3) s1 s2) hX (by omega) (Nat.le_refl _) (Nat.le_refl _)
    have y41 : wr (wr (wr (wr M3 49 N 1) 46 N (nI (N + 1))) 36 20 (nI (p3 + 1))) 41 N 6 41 N = 6 := wr_s _ _ _ _
    have y49 : wr (wr (wr (wr M3 49 N 1) 46 N (nI (N + 1))) 36 20 (nI (p3 + 1))) 41 N 6 49 N = 1 := by
      rw [wr_q _ _ _ _ _ _ (by omega), wr_q _ _ _ _ _ _ (by omega), wr_q _ _ _ _ _ _ (by omega), wr_s]
    have y46 : wr (wr (wr (wr M3 49 N 1) 46 N (nI (N + 1))) 36 20 (nI (p3 + 1))) 41 N 6 46 N = nI (N + 1) := by
      rw [wr_q _ _ _ _ _ _ (by omega), wr_q _ _ _ _ _ _ (by omega), wr_s]
    have y42 : wr (wr (wr (wr M3 49 N 1) 46 N (nI (N + 1))) 36 20 (nI (p3 + 1))) 41 N 6 42 (N + 1) = nI (p + 1) := by
      rw [wr_q _ _ _ _ _ _ (by omega), wr_q _ _ _ _ _ _ (by omega), wr_q _ _ _ _ _ _ (by omega), wr_q _ _ _ _ _ _ (by omega)]
      exact g42
    have y9 : adI (wr (wr I3 9 p (nI (p + 1))) 7 p 6) (p3 + 1) 9 p = nI (p + 1) := by
      rw [adI_ne _ _ 9 (by omega), wr_q _ _ _ _ _ _ (by omega), wr_s]
    have y7 : adI (wr (wr I3 9 p (nI (p + 1))) 7 p 6) (p3 + 1) 7 p = 6 := by
      rw [adI_ne _ _ 7 (by omega), wr_s]
    have ch2 : ∀ (scr : Nat → Int32) (L F d : Nat) (I0 : am_I) (J : am_J) (n0 : Nat) (R : Option am_X), hO scr L F d I0 J n0 N3 (wr (wr (wr (wr M3 49 N 1) 46 N (nI (N + 1))) 36 20 (nI (p3 + 1))) 41 N 6) R → hO scr L F d I0 J (n0 + 100 * (2 * (N3 - N) - 1)) N M R := by
      intro scr L F d I0 J n0 R key
      have k2 := g107_op_p scr L F d I0 J M3 n p3 N (nI (N + 1)) m3.1.1.2.1 (by omega) x49 x41 sM
      refine hO_le (N := (n0 + 100) + 100 * (2 * (N3 - (N + 1)) - 1) + 100) (by omega) ?_
      refine ch1 scr L F d I0 J _ _ ?_
      refine q_gn scr L F d I0 J M3 _ (N3 - 1) n0 (N + 1) (by omega) R o N m3.1.2.2.2.1 (by omega) (m3.2.2.2.1 rfl) (by omega) k2 m4.1.2.2.2.1 6 1 y41 y49 (by decide) ?_
      rw [show N3 - 1 + 1 = N3 by omega]
      exact key
    obtain ⟨v4, v5, v6⟩ := Mid_w m4
    rcases ih _ _ n (p3 + 1) c3 N3 K3 (o + 1) (D + 1) (nI p) (nI N) m4.1 (by omega) (by omega) (.inr ⟨o, rfl, m4.2.2.2.1 rfl⟩) (.inr ⟨N, by omega, rfl, m4.2.2.2.2.1.symm⟩) with ⟨I5, M5, f1, f2, f3, f4, f5⟩ | ⟨I5, M5, p5, c5, N5, K5, g2, gA2, gB2⟩
    · refine .inl ⟨wr I5 10 p (-1), M5, wF_trans v4 (wF_trans f1 (wF_st (stI_wr (s := p) (by omega)))), wG_trans v5 f2, tyX_trans v6 (tyX_wI f3 (by omega)) (by omega), fun scr L F d J M0 => ?_, fun scr L F d I0 J => ?_⟩
      · have k1 := c72_f scr L F (d + 20 + 3 * e) (adI (wr (wr I3 9 p (nI (p + 1))) 7 p 6) (p3 + 1)) J M0 p D (by omega) I5 (by rw [show d + 20 + 3 * e + 20 = d + 40 + 3 * e by omega]; exact f4 scr L F d J M0)
        have k2 := c67_p_f3 scr L F (d + 20 + 3 * e) (beI (adI I (p + 1)) p y) J M0 p D n (by omega) _ (ka scr L F d J M0) p3 r3 (by rw [i3]; exact s43) _ k1
        have k3 := c61_op_f scr L F (d + 13 + 3 * e) I J M0 n p D y hE.1.1 hpn (by omega) 123 hx rfl _ (by rw [show d + 13 + 3 * e + 29 = d + 20 + 3 * e + 22 by omega]; exact k2)
        rw [show d + 40 + 3 * (e + 1) = d + 13 + 3 * e + 30 by omega]
        exact k3
      · refine hO_le (N := (400 * (101 - N3) + 400) + 100 * (2 * (N3 - N) - 1)) (by omega) ?_
        exact ch2 scr L F d I0 J _ _ (f5 scr L F d I0 J)
    have m5 := Mid_part m4 g2
    have t5 := pt_new (by omega) g2
    obtain ⟨w1, w2, w3, w4, w5, w6, w7⟩ := part_f g2
    have gp2 := g2.2.1
    have gN2 := g2.2.2.1
    have t6 := pt_X t4 (eF_ag (s := p) (K0 := K) g2.2.2.2.2.2.2.1 g2.2.2.2.2.2.2.2.1) g2.2.2.2.2.2.1 (by omega) g2.2.2.2.2.1 (Nat.le_of_lt gN2)
    have z41 := (w2 41 N (by omega) (by omega) (by omega)).trans y41
    have z49 := (w2 49 N (by omega) (by omega) (by omega)).trans y49
    have z46 := (w2 46 N (by omega) (by omega) (by omega)).trans y46
    have z42 := (w2 42 (N + 1) (by omega) (by omega) (by omega)).trans y42
    have z9 := (w1 9 p (by omega) (by omega) (by omega)).trans y9
    have z7 := (w1 7 p (by omega) (by omega) (by omega)).trans y7
    have z42b : M5 42 N3 = nI (p3 + 1) := g2.2.2.2.2.2.2.2.2.2.1
    have hT5 : M5 37 = I5 19 := m5.1.1.2.2.1
    have r5 : rdI (wr I5 10 p (nI (p3 + 1))) n p5 := rdI_wr m5.1.1.1 (by omega)
    have i5 : wr I5 10 p (nI (p3 + 1)) 19 = I5 19 := wr_ne _ _ _ _ _ (by omega)
    have kb2 : ∀ (scr : Nat → Int32) (L F d : Nat) (J : am_J) (M0 : am_I), am_r scr L (F + 63000) (d + 20 + 3 * e + 21) 72 [.ref 19, .int (nI p), .int (nI D)] (hp (adI (wr (wr I3 9 p (nI (p + 1))) 7 p 6) (p3 + 1)) J M0) = some (some (.int 1), hp (wr I5 10 p (nI (p3 + 1))) J M0, 0, 0) := fun scr L F d J M0 => c72_g scr L F (d + 20 + 3 * e) (adI (wr (wr I3 9 p (nI (p + 1))) 7 p 6) (p3 + 1)) J M0 p D (p3 + 1) (by omega) (by omega) I5 (by rw [show d + 20 + 3 * e + 20 = d + 40 + 3 * e by omega]; exact gA2 scr L F d J M0)
    have ch3 : ∀ (scr : Nat → Int32) (L F d : Nat) (I0 : am_I) (J : am_J) (n0 : Nat) (R : Option am_X), hC scr L F d I0 J n0 (N5 - 1) N3 M5 R → hO scr L F d I0 J (n0 + 100 * (2 * (N5 - N) - 2)) N M R := by
      intro scr L F d I0 J n0 R key
      refine hO_le (N := (n0 + 100 * (2 * (N5 - N3) - 1)) + 100 * (2 * (N3 - N) - 1)) (by omega) ?_
      refine ch2 scr L F d I0 J _ _ ?_
      exact gB2 scr L F d I0 J _ _ key
    obtain ⟨v7, v8, v9⟩ := Mid_w m5
    by_cases c1 : tx (I5 19) n p5 = 125
    · have hp5 := tx_lt c1 (by decide)
      have cM : tx (M5 37) n p5 = 125 := by
        rw [hT5]
        exact c1
      have s3 : stI I5 (adI (wr I5 10 p (nI (p3 + 1))) (p5 + 1)) p := stI_trans (stI_wr (by omega)) stI_ad
      have s4 : stM M5 (adM (wr (wr M5 49 N 2) 47 N (nI N3)) (p5 + 1)) N := stM_trans (stM_wr (by omega)) (stM_trans (stM_wr (by omega)) stM_ad)
      have hX6 : tyX I5 M5 (adI (wr I5 10 p (nI (p3 + 1))) (p5 + 1)) (adM (wr (wr M5 49 N 2) 47 N (nI N3)) (p5 + 1)) c5 := tyX_aI (tyX_wI (tyX_aM (tyX_wM (tyX_wM (tyX_refl _ _ _) (by omega)) (by omega))) (by omega))
      have m6 : Mid I M (adI (wr I5 10 p (nI (p3 + 1))) (p5 + 1)) (adM (wr (wr M5 49 N 2) 47 N (nI N3)) (p5 + 1)) n (p5 + 1) c5 N5 K5 (o + 1) o p N K c y par := Mid_step m5 (rdS_ad (rdS_wI (rdS_wM (rdS_wM m5.1.1 (by omega)) (by omega)) (by omega)) (by omega) (by omega)) (by omega) (by omega) (by have := m5.1.2.1; omega) hX6 s3 s4
      have t7 := pt_X t6 (st_ag (p := p5) (K0 := K) (K := K5) s3 s4) hX6 (by omega) (Nat.le_refl _) (Nat.le_refl _)
      have t8 := pt_X t5 (st_ag (p := p5) (K0 := K) (K := K5) s3 s4) hX6 (by omega) (Nat.le_refl _) (Nat.le_refl _)
      have q41 : adM (wr (wr M5 49 N 2) 47 N (nI N3)) (p5 + 1) 41 N = 6 := by
        rw [adM_ne _ _ 41 (by omega), wr_q _ _ _ _ _ _ (by omega), wr_q _ _ _ _ _ _ (by omega)]
        exact z41
      have q7 : adI (wr I5 10 p (nI (p3 + 1))) (p5 + 1) 7 p = 6 := by
        rw [adI_ne _ _ 7 (by omega), wr_q _ _ _ _ _ _ (by omega)]
        exact z7
      have q46 : adM (wr (wr M5 49 N 2) 47 N (nI N3)) (p5 + 1) 46 N = nI (N + 1) := by
        rw [adM_ne _ _ 46 (by omega), wr_q _ _ _ _ _ _ (by omega), wr_q _ _ _ _ _ _ (by omega)]
        exact z46
      have q42 : adM (wr (wr M5 49 N 2) 47 N (nI N3)) (p5 + 1) 42 (N + 1) = nI (p + 1) := by
        rw [adM_ne _ _ 42 (by omega), wr_q _ _ _ _ _ _ (by omega), wr_q _ _ _ _ _ _ (by omega)]
        exact z42
      have q42b : adM (wr (wr M5 49 N 2) 47 N (nI N3)) (p5 + 1) 42 N3 = nI (p3 + 1) := by
        rw [adM_ne _ _ 42 (by omega), wr_q _ _ _ _ _ _ (by omega), wr_q _ _ _ _ _ _ (by omega)]
        exact z42b
      have q47 : adM (wr (wr M5 49 N 2) 47 N (nI N3)) (p5 + 1) 47 N = nI N3 := by
        rw [adM_ne _ _ 47 (by omega), wr_s]
      have q49b : adM (wr (wr M5 49 N 2) 47 N (nI N3)) (p5 + 1) 49 N = 2 := by
        rw [adM_ne _ _ 49 (by omega), wr_q _ _ _ _ _ _ (by omega), wr_s]
      have q9 : adI (wr I5 10 p (nI (p3 + 1))) (p5 + 1) 9 p = nI (p + 1) := by
        rw [adI_ne _ _ 9 (by omega), wr_q _ _ _ _ _ _ (by omega)]
        exact z9
      have q10 : adI (wr I5 10 p (nI (p3 + 1))) (p5 + 1) 10 p = nI (p3 + 1) := by
        rw [adI_ne _ _ 10 (by omega), wr_s]
      have hnd : nd (adI (wr I5 10 p (nI (p3 + 1))) (p5 + 1)) (adM (wr (wr M5 49 N 2) 47 N (nI N3)) (p5 + 1)) N5 c5 N := nd_mk m6 hy 6 q41 q7 (by omega) (fun z => by omega) (fun z => by omega) (fun z => by omega) (fun z => by omega) (fun _ => ⟨N + 1, p + 1, by omega, t7.2.1, q46, q42, q9, t7.2.2.2.1⟩) (fun _ _ => ⟨N3, p3 + 1, by omega, t8.2.1, q47, q42b, q10, t8.2.2.2.1⟩) (fun z => by omega)
      have htw : tw (adI (wr I5 10 p (nI (p3 + 1))) (p5 + 1)) (adM (wr (wr M5 49 N 2) 47 N (nI N3)) (p5 + 1)) N5 c5 (e + 1) (p5 + 1 - p) N := ⟨by omega, by omega, 6, q41, by omega, fun z => by omega, fun z => by omega, fun _ _ => ⟨N + 1, N3, p3 - (p + 1), p5 - (p3 + 1), q46, by omega, t7.2.2.2.2, q47, by omega, t8.2.2.2.2, by omega⟩, fun z => by omega⟩
      refine .inr ⟨_, _, p5 + 1, c5, N5, K5 + 1, close_w m6 hnd htw (by omega) (dn_2 (o := 6) q41 (by omega) q46 q47 (by omega) (by omega)), fun scr L F d J M0 => ?_, fun scr L F d I0 J n0 R key => ?_⟩
      · have k2 := c67_p_g scr L F (d + 20 + 3 * e) (beI (adI I (p + 1)) p y) J M0 p D n (by omega) _ (ka scr L F d J M0) p3 r3 (by rw [i3]; exact s43) _ (kb2 scr L F d J M0) p5 r5 (by rw [i5]; exact c1)
        have k3 := c61_op_g scr L F (d + 13 + 3 * e) I J M0 n p D y hE.1.1 hpn (by omega) 123 hx rfl _ K5 m6.1.2.2.2.2.2.1 (by have := m6.2.2.1; omega) (by rw [show d + 13 + 3 * e + 29 = d + 20 + 3 * e + 22 by omega]; exact k2)
        rw [show d + 40 + 3 * (e + 1) = d + 13 + 3 * e + 30 by omega]
        exact k3
      · have k2 := g107_op2_p scr L F d I0 J M5 n p5 N (nI N3) m5.1.1.2.1 (by omega) z49 z41 cM
        refine hO_le (N := (n0 + 100) + 100 * (2 * (N5 - N) - 2)) (by omega) ?_
        refine ch3 scr L F d I0 J _ _ ?_
        exact q_gw scr L F d I0 J M5 _ (N5 - 1) n0 N3 (by omega) R o N m5.1.2.2.2.1 (by omega) (m5.2.2.2.1 rfl) (by omega) k2 m6.1.2.2.2.1 6 2 q41 q49b (by decide) K5 m6.1.2.2.2.2.2.2.1 (by have := m6.2.2.1; omega) key
    · refine .inl ⟨wr I5 10 p (nI (p3 + 1)), wr (wr M5 49 N 2) 47 N (nI N3), wF_trans v7 (wF_st (stI_wr (s := p) (by omega))), wG_trans v8 (wG_st (stM_trans (stM_wr (by omega)) (stM_wr (by omega)))), tyX_wI (tyX_wM (tyX_wM v9 (by omega)) (by omega)) (by omega), fun scr L F d J M0 => ?_, fun scr L F d I0 J => ?_⟩
      · have k2 := c67_p_f4 scr L F (d + 20 + 3 * e) (beI (adI I (p + 1)) p y) J M0 p D n (by omega) _ (ka scr L F d J M0) p3 r3 (by rw [i3]; exact s43) _ (kb2 scr L F d J M0) p5 r5 (by rw [i5]; exact c1)
        have k3 := c61_op_f scr L F (d + 13 + 3 * e) I J M0 n p D y hE.1.1 hpn (by omega) 123 hx rfl _ (by rw [show d + 13 + 3 * e + 29 = d + 20 + 3 * e + 22 by omega]; exact k2)
        rw [show d + 40 + 3 * (e + 1) = d + 13 + 3 * e + 30 by omega]
        exact k3
      · have k2 := g107_op2_p_f scr L F d I0 J M5 n p5 N (nI N3) m5.1.1.2.1 (by omega) z49 z41 (by rw [hT5]; exact c1)
        refine hO_le (N := 100 + 100 * (2 * (N5 - N) - 2)) (by omega) ?_
        refine ch3 scr L F d I0 J _ _ ?_
        exact q_gf scr L F d I0 J M5 _ (N5 - 1) 0 N3 (by omega) none o N m5.1.2.2.2.1 (by omega) (m5.2.2.2.1 rfl) (by omega) k2
  by_cases s45 : tx (I3 19) n p3 = 45
  · have hp3 := tx_lt s45 (by decide)
    have sM : tx (M3 37) n p3 = 45 := by
      rw [hT3]
      exact s45
    have e4 : adI (wr (wr I3 9 p (nI (p + 1))) 7 p 7) (p3 + 1) = adI (wr (wr I3 9 p (nI (p + 1))) 7 p 7) (p3 + 1) := rfl
    have s1 : stI I3 (adI (wr (wr I3 9 p (nI (p + 1))) 7 p 7) (p3 + 1)) p := stI_trans (stI_wr (by omega)) (stI_trans (stI_wr (by omega)) stI_ad)
    have s2 : stM M3 (wr (wr (wr (wr M3 49 N 1) 46 N (nI (N + 1))) 36 20 (nI (p3 + 1))) 41 N 7) N := stM_trans (stM_wr (by omega)) (stM_trans (stM_wr (by omega)) (stM_trans (stM_ad (q := p3 + 1)) (stM_wr (by omega))))
    have hX : tyX I3 M3 (adI (wr (wr I3 9 p (nI (p + 1))) 7 p 7) (p3 + 1)) (wr (wr (wr (wr M3 49 N 1) 46 N (nI (N + 1))) 36 20 (nI (p3 + 1))) 41 N 7) c3 := tyX_aI (tyX_wI (tyX_wI (tyX_wM (tyX_wM (tyX_wM (tyX_wM (tyX_refl _ _ _) (by omega)) (by omega)) (by omega)) (by omega)) (by omega)) (by omega))
    have m4 : Mid I M (adI (wr (wr I3 9 p (nI (p + 1))) 7 p 7) (p3 + 1)) (wr (wr (wr (wr M3 49 N 1) 46 N (nI (N + 1))) 36 20 (nI (p3 + 1))) 41 N 7) n (p3 + 1) c3 N3 K3 (o + 1) o p N K c y par := Mid_step m3 (rdS_wM (rdS_ad (rdS_wI (rdS_wI (rdS_wM (rdS_wM m3.1.1 (by omega)) (by omega)) (by omega)) (by omega)) (by omega) (by omega)) (by omega)) (by omega) (by omega) (by have := m3.1.2.1; omega) hX s1 s2
    have t4 := pt_X t3 (st_ag (p := p3) (K0 := K) (K := K3) s1 s2) hX (by omega) (Nat.le_refl _) (Nat.le_refl _)
    have y41 : wr (wr (wr (wr M3 49 N 1) 46 N (nI (N + 1))) 36 20 (nI (p3 + 1))) 41 N 7 41 N = 7 := wr_s _ _ _ _
    have y49 : wr (wr (wr (wr M3 49 N 1) 46 N (nI (N + 1))) 36 20 (nI (p3 + 1))) 41 N 7 49 N = 1 := by
      rw [wr_q _ _ _ _ _ _ (by omega), wr_q _ _ _ _ _ _ (by omega), wr_q _ _ _ _ _ _ (by omega), wr_s]
    have y46 : wr (wr (wr (wr M3 49 N 1) 46 N (nI (N + 1))) 36 20 (nI (p3 + 1))) 41 N 7 46 N = nI (N + 1) := by
      rw [wr_q _ _ _ _ _ _ (by omega), wr_q _ _ _ _ _ _ (by omega), wr_s]
    have y42 : wr (wr (wr (wr M3 49 N 1) 46 N (nI (N + 1))) 36 20 (nI (p3 + 1))) 41 N 7 42 (N + 1) = nI (p + 1) := by
      rw [wr_q _ _ _ _ _ _ (by omega), wr_q _ _ _ _ _ _ (by omega), wr_q _ _ _ _ _ _ (by omega), wr_q _ _ _ _ _ _ (by omega)]
      exact g42
    have y9 : adI (wr (wr I3 9 p (nI (p + 1))) 7 p 7) (p3 + 1) 9 p = nI (p + 1) := by
      rw [adI_ne _ _ 9 (by omega), wr_q _ _ _ _ _ _ (by omega), wr_s]
    have y7 : adI (wr (wr I3 9 p (nI (p + 1))) 7 p 7) (p3 + 1) 7 p = 7 := by
      rw [adI_ne _ _ 7 (by omega), wr_s]
    have ch2 : ∀ (scr : Nat → Int32) (L F d : Nat) (I0 : am_I) (J : am_J) (n0 : Nat) (R : Option am_X), hO scr L F d I0 J n0 N3 (wr (wr (wr (wr M3 49 N 1) 46 N (nI (N + 1))) 36 20 (nI (p3 + 1))) 41 N 7) R → hO scr L F d I0 J (n0 + 100 * (2 * (N3 - N) - 1)) N M R := by
      intro scr L F d I0 J n0 R key
      have k2 := g107_op_m scr L F d I0 J M3 n p3 N (nI (N + 1)) m3.1.1.2.1 (by omega) x49 x41 sM
      refine hO_le (N := (n0 + 100) + 100 * (2 * (N3 - (N + 1)) - 1) + 100) (by omega) ?_
      refine ch1 scr L F d I0 J _ _ ?_
      refine q_gn scr L F d I0 J M3 _ (N3 - 1) n0 (N + 1) (by omega) R o N m3.1.2.2.2.1 (by omega) (m3.2.2.2.1 rfl) (by omega) k2 m4.1.2.2.2.1 7 1 y41 y49 (by decide) ?_
      rw [show N3 - 1 + 1 = N3 by omega]
      exact key
    obtain ⟨v4, v5, v6⟩ := Mid_w m4
    rcases ih _ _ n (p3 + 1) c3 N3 K3 (o + 1) (D + 1) (nI p) (nI N) m4.1 (by omega) (by omega) (.inr ⟨o, rfl, m4.2.2.2.1 rfl⟩) (.inr ⟨N, by omega, rfl, m4.2.2.2.2.1.symm⟩) with ⟨I5, M5, f1, f2, f3, f4, f5⟩ | ⟨I5, M5, p5, c5, N5, K5, g2, gA2, gB2⟩
    · refine .inl ⟨wr I5 10 p (-1), M5, wF_trans v4 (wF_trans f1 (wF_st (stI_wr (s := p) (by omega)))), wG_trans v5 f2, tyX_trans v6 (tyX_wI f3 (by omega)) (by omega), fun scr L F d J M0 => ?_, fun scr L F d I0 J => ?_⟩
      · have k1 := c72_f scr L F (d + 20 + 3 * e) (adI (wr (wr I3 9 p (nI (p + 1))) 7 p 7) (p3 + 1)) J M0 p D (by omega) I5 (by rw [show d + 20 + 3 * e + 20 = d + 40 + 3 * e by omega]; exact f4 scr L F d J M0)
        have k2 := c67_m_f3 scr L F (d + 20 + 3 * e) (beI (adI I (p + 1)) p y) J M0 p D n (by omega) _ (ka scr L F d J M0) p3 r3 (by rw [i3]; exact s45) _ k1
        have k3 := c61_op_f scr L F (d + 13 + 3 * e) I J M0 n p D y hE.1.1 hpn (by omega) 123 hx rfl _ (by rw [show d + 13 + 3 * e + 29 = d + 20 + 3 * e + 22 by omega]; exact k2)
        rw [show d + 40 + 3 * (e + 1) = d + 13 + 3 * e + 30 by omega]
        exact k3
      · refine hO_le (N := (400 * (101 - N3) + 400) + 100 * (2 * (N3 - N) - 1)) (by omega) ?_
        exact ch2 scr L F d I0 J _ _ (f5 scr L F d I0 J)
    have m5 := Mid_part m4 g2
    have t5 := pt_new (by omega) g2
    obtain ⟨w1, w2, w3, w4, w5, w6, w7⟩ := part_f g2
    have gp2 := g2.2.1
    have gN2 := g2.2.2.1
    have t6 := pt_X t4 (eF_ag (s := p) (K0 := K) g2.2.2.2.2.2.2.1 g2.2.2.2.2.2.2.2.1) g2.2.2.2.2.2.1 (by omega) g2.2.2.2.2.1 (Nat.le_of_lt gN2)
    have z41 := (w2 41 N (by omega) (by omega) (by omega)).trans y41
    have z49 := (w2 49 N (by omega) (by omega) (by omega)).trans y49
    have z46 := (w2 46 N (by omega) (by omega) (by omega)).trans y46
    have z42 := (w2 42 (N + 1) (by omega) (by omega) (by omega)).trans y42
    have z9 := (w1 9 p (by omega) (by omega) (by omega)).trans y9
    have z7 := (w1 7 p (by omega) (by omega) (by omega)).trans y7
    have z42b : M5 42 N3 = nI (p3 + 1) := g2.2.2.2.2.2.2.2.2.2.1
    have hT5 : M5 37 = I5 19 := m5.1.1.2.2.1
    have r5 : rdI (wr I5 10 p (nI (p3 + 1))) n p5 := rdI_wr m5.1.1.1 (by omega)
    have i5 : wr I5 10 p (nI (p3 + 1)) 19 = I5 19 := wr_ne _ _ _ _ _ (by omega)
    have kb2 : ∀ (scr : Nat → Int32) (L F d : Nat) (J : am_J) (M0 : am_I), am_r scr L (F + 63000) (d + 20 + 3 * e + 21) 72 [.ref 19, .int (nI p), .int (nI D)] (hp (adI (wr (wr I3 9 p (nI (p + 1))) 7 p 7) (p3 + 1)) J M0) = some (some (.int 1), hp (wr I5 10 p (nI (p3 + 1))) J M0, 0, 0) := fun scr L F d J M0 => c72_g scr L F (d + 20 + 3 * e) (adI (wr (wr I3 9 p (nI (p + 1))) 7 p 7) (p3 + 1)) J M0 p D (p3 + 1) (by omega) (by omega) I5 (by rw [show d + 20 + 3 * e + 20 = d + 40 + 3 * e by omega]; exact gA2 scr L F d J M0)
    have ch3 : ∀ (scr : Nat → Int32) (L F d : Nat) (I0 : am_I) (J : am_J) (n0 : Nat) (R : Option am_X), hC scr L F d I0 J n0 (N5 - 1) N3 M5 R → hO scr L F d I0 J (n0 + 100 * (2 * (N5 - N) - 2)) N M R := by
      intro scr L F d I0 J n0 R key
      refine hO_le (N := (n0 + 100 * (2 * (N5 - N3) - 1)) + 100 * (2 * (N3 - N) - 1)) (by omega) ?_
      refine ch2 scr L F d I0 J _ _ ?_
      exact gB2 scr L F d I0 J _ _ key
    obtain ⟨v7, v8, v9⟩ := Mid_w m5
    by_cases c1 : tx (I5 19) n p5 = 125
    · have hp5 := tx_lt c1 (by decide)
      have cM : tx (M5 37) n p5 = 125 := by
        rw [hT5]
        exact c1
      have s3 : stI I5 (adI (wr I5 10 p (nI (p3 + 1))) (p5 + 1)) p := stI_trans (stI_wr (by omega)) stI_ad
      have s4 : stM M5 (adM (wr (wr M5 49 N 2) 47 N (nI N3)) (p5 + 1)) N := stM_trans (stM_wr (by omega)) (stM_trans (stM_wr (by omega)) stM_ad)
      have hX6 : tyX I5 M5 (adI (wr I5 10 p (nI (p3 + 1))) (p5 + 1)) (adM (wr (wr M5 49 N 2) 47 N (nI N3)) (p5 + 1)) c5 := tyX_aI (tyX_wI (tyX_aM (tyX_wM (tyX_wM (tyX_refl _ _ _) (by omega)) (by omega))) (by omega))
      have m6 : Mid I M (adI (wr I5 10 p (nI (p3 + 1))) (p5 + 1)) (adM (wr (wr M5 49 N 2) 47 N (nI N3)) (p5 + 1)) n (p5 + 1) c5 N5 K5 (o + 1) o p N K c y par := Mid_step m5 (rdS_ad (rdS_wI (rdS_wM (rdS_wM m5.1.1 (by omega)) (by omega)) (by omega)) (by omega) (by omega)) (by omega) (by omega) (by have := m5.1.2.1; omega) hX6 s3 s4
      have t7 := pt_X t6 (st_ag (p := p5) (K0 := K) (K := K5) s3 s4) hX6 (by omega) (Nat.le_refl _) (Nat.le_refl _)
      have t8 := pt_X t5 (st_ag (p := p5) (K0 := K) (K := K5) s3 s4) hX6 (by omega) (Nat.le_refl _) (Nat.le_refl _)
      have q41 : adM (wr (wr M5 49 N 2) 47 N (nI N3)) (p5 + 1) 41 N = 7 := by
        rw [adM_ne _ _ 41 (by omega), wr_q _ _ _ _ _ _ (by omega), wr_q _ _ _ _ _ _ (by omega)]
        exact z41
      have q7 : adI (wr I5 10 p (nI (p3 + 1))) (p5 + 1) 7 p = 7 := by
        rw [adI_ne _ _ 7 (by omega), wr_q _ _ _ _ _ _ (by omega)]
        exact z7
      have q46 : adM (wr (wr M5 49 N 2) 47 N (nI N3)) (p5 + 1) 46 N = nI (N + 1) := by
        rw [adM_ne _ _ 46 (by omega), wr_q _ _ _ _ _ _ (by omega), wr_q _ _ _ _ _ _ (by omega)]
        exact z46
      have q42 : adM (wr (wr M5 49 N 2) 47 N (nI N3)) (p5 + 1) 42 (N + 1) = nI (p + 1) := by
        rw [adM_ne _ _ 42 (by omega), wr_q _ _ _ _ _ _ (by omega), wr_q _ _ _ _ _ _ (by omega)]
        exact z42
      have q42b : adM (wr (wr M5 49 N 2) 47 N (nI N3)) (p5 + 1) 42 N3 = nI (p3 + 1) := by
        rw [adM_ne _ _ 42 (by omega), wr_q _ _ _ _ _ _ (by omega), wr_q _ _ _ _ _ _ (by omega)]
        exact z42b
      have q47 : adM (wr (wr M5 49 N 2) 47 N (nI N3)) (p5 + 1) 47 N = nI N3 := by
        rw [adM_ne _ _ 47 (by omega), wr_s]
      have q49b : adM (wr (wr M5 49 N 2) 47 N (nI N3)) (p5 + 1) 49 N = 2 := by
        rw [adM_ne _ _ 49 (by omega), wr_q _ _ _ _ _ _ (by omega), wr_s]
      have q9 : adI (wr I5 10 p (nI (p3 + 1))) (p5 + 1) 9 p = nI (p + 1) := by
        rw [adI_ne _ _ 9 (by omega), wr_q _ _ _ _ _ _ (by omega)]
        exact z9
      have q10 : adI (wr I5 10 p (nI (p3 + 1))) (p5 + 1) 10 p = nI (p3 + 1) := by
        rw [adI_ne _ _ 10 (by omega), wr_s]
      have hnd : nd (adI (wr I5 10 p (nI (p3 + 1))) (p5 + 1)) (adM (wr (wr M5 49 N 2) 47 N (nI N3)) (p5 + 1)) N5 c5 N := nd_mk m6 hy 7 q41 q7 (by omega) (fun z => by omega) (fun z => by omega) (fun z => by omega) (fun z => by omega) (fun _ => ⟨N + 1, p + 1, by omega, t7.2.1, q46, q42, q9, t7.2.2.2.1⟩) (fun _ _ => ⟨N3, p3 + 1, by omega, t8.2.1, q47, q42b, q10, t8.2.2.2.1⟩) (fun z => by omega)
      have htw : tw (adI (wr I5 10 p (nI (p3 + 1))) (p5 + 1)) (adM (wr (wr M5 49 N 2) 47 N (nI N3)) (p5 + 1)) N5 c5 (e + 1) (p5 + 1 - p) N := ⟨by omega, by omega, 7, q41, by omega, fun z => by omega, fun z => by omega, fun _ _ => ⟨N + 1, N3, p3 - (p + 1), p5 - (p3 + 1), q46, by omega, t7.2.2.2.2, q47, by omega, t8.2.2.2.2, by omega⟩, fun z => by omega⟩
      refine .inr ⟨_, _, p5 + 1, c5, N5, K5 + 1, close_w m6 hnd htw (by omega) (dn_2 (o := 7) q41 (by omega) q46 q47 (by omega) (by omega)), fun scr L F d J M0 => ?_, fun scr L F d I0 J n0 R key => ?_⟩
      · have k2 := c67_m_g scr L F (d + 20 + 3 * e) (beI (adI I (p + 1)) p y) J M0 p D n (by omega) _ (ka scr L F d J M0) p3 r3 (by rw [i3]; exact s45) _ (kb2 scr L F d J M0) p5 r5 (by rw [i5]; exact c1)
        have k3 := c61_op_g scr L F (d + 13 + 3 * e) I J M0 n p D y hE.1.1 hpn (by omega) 123 hx rfl _ K5 m6.1.2.2.2.2.2.1 (by have := m6.2.2.1; omega) (by rw [show d + 13 + 3 * e + 29 = d + 20 + 3 * e + 22 by omega]; exact k2)
        rw [show d + 40 + 3 * (e + 1) = d + 13 + 3 * e + 30 by omega]
        exact k3
      · have k2 := g107_op2_m scr L F d I0 J M5 n p5 N (nI N3) m5.1.1.2.1 (by omega) z49 z41 cM
        refine hO_le (N := (n0 + 100) + 100 * (2 * (N5 - N) - 2)) (by omega) ?_
        refine ch3 scr L F d I0 J _ _ ?_
        exact q_gw scr L F d I0 J M5 _ (N5 - 1) n0 N3 (by omega) R o N m5.1.2.2.2.1 (by omega) (m5.2.2.2.1 rfl) (by omega) k2 m6.1.2.2.2.1 7 2 q41 q49b (by decide) K5 m6.1.2.2.2.2.2.2.1 (by have := m6.2.2.1; omega) key
    · refine .inl ⟨wr I5 10 p (nI (p3 + 1)), wr (wr M5 49 N 2) 47 N (nI N3), wF_trans v7 (wF_st (stI_wr (s := p) (by omega))), wG_trans v8 (wG_st (stM_trans (stM_wr (by omega)) (stM_wr (by omega)))), tyX_wI (tyX_wM (tyX_wM v9 (by omega)) (by omega)) (by omega), fun scr L F d J M0 => ?_, fun scr L F d I0 J => ?_⟩
      · have k2 := c67_m_f4 scr L F (d + 20 + 3 * e) (beI (adI I (p + 1)) p y) J M0 p D n (by omega) _ (ka scr L F d J M0) p3 r3 (by rw [i3]; exact s45) _ (kb2 scr L F d J M0) p5 r5 (by rw [i5]; exact c1)
        have k3 := c61_op_f scr L F (d + 13 + 3 * e) I J M0 n p D y hE.1.1 hpn (by omega) 123 hx rfl _ (by rw [show d + 13 + 3 * e + 29 = d + 20 + 3 * e + 22 by omega]; exact k2)
        rw [show d + 40 + 3 * (e + 1) = d + 13 + 3 * e + 30 by omega]
        exact k3
      · have k2 := g107_op2_m_f scr L F d I0 J M5 n p5 N (nI N3) m5.1.1.2.1 (by omega) z49 z41 (by rw [hT5]; exact c1)
        refine hO_le (N := 100 + 100 * (2 * (N5 - N) - 2)) (by omega) ?_
        refine ch3 scr L F d I0 J _ _ ?_
        exact q_gf scr L F d I0 J M5 _ (N5 - 1) 0 N3 (by omega) none o N m5.1.2.2.2.1 (by omega) (m5.2.2.2.1 rfl) (by omega) k2
  by_cases s60 : tx (I3 19) n p3 = 60
  · have hp3 := tx_lt s60 (by decide)
    have sM : tx (M3 37) n p3 = 60 := by
      rw [hT3]
      exact s60
    have e4 : adI (wr (wr I3 9 p (nI (p + 1))) 7 p 8) (p3 + 1) = adI (wr (wr I3 9 p (nI (p + 1))) 7 p 8) (p3 + 1) := rfl
    have s1 : stI I3 (adI (wr (wr I3 9 p (nI (p + 1))) 7 p 8) (p3 + 1)) p := stI_trans (stI_wr (by omega)) (stI_trans (stI_wr (by omega)) stI_ad)
    have s2 : stM M3 (wr (wr (wr (wr M3 49 N 1) 46 N (nI (N + 1))) 36 20 (nI (p3 + 1))) 41 N 8) N := stM_trans (stM_wr (by omega)) (stM_trans (stM_wr (by omega)) (stM_trans (stM_ad (q := p3 + 1)) (stM_wr (by omega))))
    have hX : tyX I3 M3 (adI (wr (wr I3 9 p (nI (p + 1))) 7 p 8) (p3 + 1)) (wr (wr (wr (wr M3 49 N 1) 46 N (nI (N + 1))) 36 20 (nI (p3 + 1))) 41 N 8) c3 := tyX_aI (tyX_wI (tyX_wI (tyX_wM (tyX_wM (tyX_wM (tyX_wM (tyX_refl _ _ _) (by omega)) (by omega)) (by omega)) (by omega)) (by omega)) (by omega))
    have m4 : Mid I M (adI (wr (wr I3 9 p (nI (p + 1))) 7 p 8) (p3 + 1)) (wr (wr (wr (wr M3 49 N 1) 46 N (nI (N + 1))) 36 20 (nI (p3 + 1))) 41 N 8) n (p3 + 1) c3 N3 K3 (o + 1) o p N K c y par := Mid_step m3 (rdS_wM (rdS_ad (rdS_wI (rdS_wI (rdS_wM (rdS_wM m3.1.1 (by omega)) (by omega)) (by omega)) (by omega)) (by omega) (by omega)) (by omega)) (by omega) (by omega) (by have := m3.1.2.1; omega) hX s1 s2
    have t4 := pt_X t3 (st_ag (p := p3) (K0 := K) (K := K3) s1 s2) hX (by omega) (Nat.le_refl _) (Nat.le_refl _)
    have y41 : wr (wr (wr (wr M3 49 N 1) 46 N (nI (N + 1))) 36 20 (nI (p3 + 1))) 41 N 8 41 N = 8 := wr_s _ _ _ _
    have y49 : wr (wr (wr (wr M3 49 N 1) 46 N (nI (N + 1))) 36 20 (nI (p3 + 1))) 41 N 8 49 N = 1 := by
      rw [wr_q _ _ _ _ _ _ (by omega), wr_q _ _ _ _ _ _ (by omega), wr_q _ _ _ _ _ _ (by omega), wr_s]
    have y46 : wr (wr (wr (wr M3 49 N 1) 46 N (nI (N + 1))) 36 20 (nI (p3 + 1))) 41 N 8 46 N = nI (N + 1) := by
      rw [wr_q _ _ _ _ _ _ (by omega), wr_q _ _ _ _ _ _ (by omega), wr_s]
    have y42 : wr (wr (wr (wr M3 49 N 1) 46 N (nI (N + 1))) 36 20 (nI (p3 + 1))) 41 N 8 42 (N + 1) = nI (p + 1) := by
      rw [wr_q _ _ _ _ _ _ (by omega), wr_q _ _ _ _ _ _ (by omega), wr_q _ _ _ _ _ _ (by omega), wr_q _ _ _ _ _ _ (by omega)]
      exact g42
    have y9 : adI (wr (wr I3 9 p (nI (p + 1))) 7 p 8) (p3 + 1) 9 p = nI (p + 1) := by
      rw [adI_ne _ _ 9 (by omega), wr_q _ _ _ _ _ _ (by omega), wr_s]
    have y7 : adI (wr (wr I3 9 p (nI (p + 1))) 7 p 8) (p3 + 1) 7 p = 8 := by
      rw [adI_ne _ _ 7 (by omega), wr_s]
    have ch2 : ∀ (scr : Nat → Int32) (L F d : Nat) (I0 : am_I) (J : am_J) (n0 : Nat) (R : Option am_X), hO scr L F d I0 J n0 N3 (wr (wr (wr (wr M3 49 N 1) 46 N (nI (N + 1))) 36 20 (nI (p3 + 1))) 41 N 8) R → hO scr L F d I0 J (n0 + 100 * (2 * (N3 - N) - 1)) N M R := by
      intro scr L F d I0 J n0 R key
      have k2 := g107_op_l scr L F d I0 J M3 n p3 N (nI (N + 1)) m3.1.1.2.1 (by omega) x49 x41 sM
      refine hO_le (N := (n0 + 100) + 100 * (2 * (N3 - (N + 1)) - 1) + 100) (by omega) ?_
      refine ch1 scr L F d I0 J _ _ ?_
      refine q_gn scr L F d I0 J M3 _ (N3 - 1) n0 (N + 1) (by omega) R o N m3.1.2.2.2.1 (by omega) (m3.2.2.2.1 rfl) (by omega) k2 m4.1.2.2.2.1 8 1 y41 y49 (by decide) ?_
      rw [show N3 - 1 + 1 = N3 by omega]
      exact key
    obtain ⟨v4, v5, v6⟩ := Mid_w m4
    rcases ih _ _ n (p3 + 1) c3 N3 K3 (o + 1) (D + 1) (nI p) (nI N) m4.1 (by omega) (by omega) (.inr ⟨o, rfl, m4.2.2.2.1 rfl⟩) (.inr ⟨N, by omega, rfl, m4.2.2.2.2.1.symm⟩) with ⟨I5, M5, f1, f2, f3, f4, f5⟩ | ⟨I5, M5, p5, c5, N5, K5, g2, gA2, gB2⟩
    · refine .inl ⟨wr I5 10 p (-1), M5, wF_trans v4 (wF_trans f1 (wF_st (stI_wr (s := p) (by omega)))), wG_trans v5 f2, tyX_trans v6 (tyX_wI f3 (by omega)) (by omega), fun scr L F d J M0 => ?_, fun scr L F d I0 J => ?_⟩
      · have k1 := c72_f scr L F (d + 20 + 3 * e) (adI (wr (wr I3 9 p (nI (p + 1))) 7 p 8) (p3 + 1)) J M0 p D (by omega) I5 (by rw [show d + 20 + 3 * e + 20 = d + 40 + 3 * e by omega]; exact f4 scr L F d J M0)
        have k2 := c67_l_f3 scr L F (d + 20 + 3 * e) (beI (adI I (p + 1)) p y) J M0 p D n (by omega) _ (ka scr L F d J M0) p3 r3 (by rw [i3]; exact s60) _ k1
        have k3 := c61_op_f scr L F (d + 13 + 3 * e) I J M0 n p D y hE.1.1 hpn (by omega) 123 hx rfl _ (by rw [show d + 13 + 3 * e + 29 = d + 20 + 3 * e + 22 by omega]; exact k2)
        rw [show d + 40 + 3 * (e + 1) = d + 13 + 3 * e + 30 by omega]
        exact k3
      · refine hO_le (N := (400 * (101 - N3) + 400) + 100 * (2 * (N3 - N) - 1)) (by omega) ?_
        exact ch2 scr L F d I0 J _ _ (f5 scr L F d I0 J)
    have m5 := Mid_part m4 g2
    have t5 := pt_new (by omega) g2
    obtain ⟨w1, w2, w3, w4, w5, w6, w7⟩ := part_f g2
    have gp2 := g2.2.1
    have gN2 := g2.2.2.1
    have t6 := pt_X t4 (eF_ag (s := p) (K0 := K) g2.2.2.2.2.2.2.1 g2.2.2.2.2.2.2.2.1) g2.2.2.2.2.2.1 (by omega) g2.2.2.2.2.1 (Nat.le_of_lt gN2)
    have z41 := (w2 41 N (by omega) (by omega) (by omega)).trans y41
    have z49 := (w2 49 N (by omega) (by omega) (by omega)).trans y49
    have z46 := (w2 46 N (by omega) (by omega) (by omega)).trans y46
    have z42 := (w2 42 (N + 1) (by omega) (by omega) (by omega)).trans y42
    have z9 := (w1 9 p (by omega) (by omega) (by omega)).trans y9
    have z7 := (w1 7 p (by omega) (by omega) (by omega)).trans y7
    have z42b : M5 42 N3 = nI (p3 + 1) := g2.2.2.2.2.2.2.2.2.2.1
    have hT5 : M5 37 = I5 19 := m5.1.1.2.2.1
    have r5 : rdI (wr I5 10 p (nI (p3 + 1))) n p5 := rdI_wr m5.1.1.1 (by omega)
    have i5 : wr I5 10 p (nI (p3 + 1)) 19 = I5 19 := wr_ne _ _ _ _ _ (by omega)
    have kb2 : ∀ (scr : Nat → Int32) (L F d : Nat) (J : am_J) (M0 : am_I), am_r scr L (F + 63000) (d + 20 + 3 * e + 21) 72 [.ref 19, .int (nI p), .int (nI D)] (hp (adI (wr (wr I3 9 p (nI (p + 1))) 7 p 8) (p3 + 1)) J M0) = some (some (.int 1), hp (wr I5 10 p (nI (p3 + 1))) J M0, 0, 0) := fun scr L F d J M0 => c72_g scr L F (d + 20 + 3 * e) (adI (wr (wr I3 9 p (nI (p + 1))) 7 p 8) (p3 + 1)) J M0 p D (p3 + 1) (by omega) (by omega) I5 (by rw [show d + 20 + 3 * e + 20 = d + 40 + 3 * e by omega]; exact gA2 scr L F d J M0)
    have ch3 : ∀ (scr : Nat → Int32) (L F d : Nat) (I0 : am_I) (J : am_J) (n0 : Nat) (R : Option am_X), hC scr L F d I0 J n0 (N5 - 1) N3 M5 R → hO scr L F d I0 J (n0 + 100 * (2 * (N5 - N) - 2)) N M R := by
      intro scr L F d I0 J n0 R key
      refine hO_le (N := (n0 + 100 * (2 * (N5 - N3) - 1)) + 100 * (2 * (N3 - N) - 1)) (by omega) ?_
      refine ch2 scr L F d I0 J _ _ ?_
      exact gB2 scr L F d I0 J _ _ key
    obtain ⟨v7, v8, v9⟩ := Mid_w m5
    by_cases c1 : tx (I5 19) n p5 = 125
    · have hp5 := tx_lt c1 (by decide)
      have cM : tx (M5 37) n p5 = 125 := by
        rw [hT5]
        exact c1
      have s3 : stI I5 (adI (wr I5 10 p (nI (p3 + 1))) (p5 + 1)) p := stI_trans (stI_wr (by omega)) stI_ad
      have s4 : stM M5 (adM (wr (wr M5 49 N 2) 47 N (nI N3)) (p5 + 1)) N := stM_trans (stM_wr (by omega)) (stM_trans (stM_wr (by omega)) stM_ad)
      have hX6 : tyX I5 M5 (adI (wr I5 10 p (nI (p3 + 1))) (p5 + 1)) (adM (wr (wr M5 49 N 2) 47 N (nI N3)) (p5 + 1)) c5 := tyX_aI (tyX_wI (tyX_aM (tyX_wM (tyX_wM (tyX_refl _ _ _) (by omega)) (by omega))) (by omega))
      have m6 : Mid I M (adI (wr I5 10 p (nI (p3 + 1))) (p5 + 1)) (adM (wr (wr M5 49 N 2) 47 N (nI N3)) (p5 + 1)) n (p5 + 1) c5 N5 K5 (o + 1) o p N K c y par := Mid_step m5 (rdS_ad (rdS_wI (rdS_wM (rdS_wM m5.1.1 (by omega)) (by omega)) (by omega)) (by omega) (by omega)) (by omega) (by omega) (by have := m5.1.2.1; omega) hX6 s3 s4
      have t7 := pt_X t6 (st_ag (p := p5) (K0 := K) (K := K5) s3 s4) hX6 (by omega) (Nat.le_refl _) (Nat.le_refl _)
      have t8 := pt_X t5 (st_ag (p := p5) (K0 := K) (K := K5) s3 s4) hX6 (by omega) (Nat.le_refl _) (Nat.le_refl _)
      have q41 : adM (wr (wr M5 49 N 2) 47 N (nI N3)) (p5 + 1) 41 N = 8 := by
        rw [adM_ne _ _ 41 (by omega), wr_q _ _ _ _ _ _ (by omega), wr_q _ _ _ _ _ _ (by omega)]
        exact z41
      have q7 : adI (wr I5 10 p (nI (p3 + 1))) (p5 + 1) 7 p = 8 := by
        rw [adI_ne _ _ 7 (by omega), wr_q _ _ _ _ _ _ (by omega)]
        exact z7
      have q46 : adM (wr (wr M5 49 N 2) 47 N (nI N3)) (p5 + 1) 46 N = nI (N + 1) := by
        rw [adM_ne _ _ 46 (by omega), wr_q _ _ _ _ _ _ (by omega), wr_q _ _ _ _ _ _ (by omega)]
        exact z46
      have q42 : adM (wr (wr M5 49 N 2) 47 N (nI N3)) (p5 + 1) 42 (N + 1) = nI (p + 1) := by
        rw [adM_ne _ _ 42 (by omega), wr_q _ _ _ _ _ _ (by omega), wr_q _ _ _ _ _ _ (by omega)]
        exact z42
      have q42b : adM (wr (wr M5 49 N 2) 47 N (nI N3)) (p5 + 1) 42 N3 = nI (p3 + 1) := by
        rw [adM_ne _ _ 42 (by omega), wr_q _ _ _ _ _ _ (by omega), wr_q _ _ _ _ _ _ (by omega)]
        exact z42b
      have q47 : adM (wr (wr M5 49 N 2) 47 N (nI N3)) (p5 + 1) 47 N = nI N3 := by
        rw [adM_ne _ _ 47 (by omega), wr_s]
      have q49b : adM (wr (wr M5 49 N 2) 47 N (nI N3)) (p5 + 1) 49 N = 2 := by
        rw [adM_ne _ _ 49 (by omega), wr_q _ _ _ _ _ _ (by omega), wr_s]
      have q9 : adI (wr I5 10 p (nI (p3 + 1))) (p5 + 1) 9 p = nI (p + 1) := by
        rw [adI_ne _ _ 9 (by omega), wr_q _ _ _ _ _ _ (by omega)]
        exact z9
      have q10 : adI (wr I5 10 p (nI (p3 + 1))) (p5 + 1) 10 p = nI (p3 + 1) := by
        rw [adI_ne _ _ 10 (by omega), wr_s]
      have hnd : nd (adI (wr I5 10 p (nI (p3 + 1))) (p5 + 1)) (adM (wr (wr M5 49 N 2) 47 N (nI N3)) (p5 + 1)) N5 c5 N := nd_mk m6 hy 8 q41 q7 (by omega) (fun z => by omega) (fun z => by omega) (fun z => by omega) (fun z => by omega) (fun _ => ⟨N + 1, p + 1, by omega, t7.2.1, q46, q42, q9, t7.2.2.2.1⟩) (fun _ _ => ⟨N3, p3 + 1, by omega, t8.2.1, q47, q42b, q10, t8.2.2.2.1⟩) (fun z => by omega)
      have htw : tw (adI (wr I5 10 p (nI (p3 + 1))) (p5 + 1)) (adM (wr (wr M5 49 N 2) 47 N (nI N3)) (p5 + 1)) N5 c5 (e + 1) (p5 + 1 - p) N := ⟨by omega, by omega, 8, q41, by omega, fun z => by omega, fun z => by omega, fun _ _ => ⟨N + 1, N3, p3 - (p + 1), p5 - (p3 + 1), q46, by omega, t7.2.2.2.2, q47, by omega, t8.2.2.2.2, by omega⟩, fun z => by omega⟩
      refine .inr ⟨_, _, p5 + 1, c5, N5, K5 + 1, close_w m6 hnd htw (by omega) (dn_2 (o := 8) q41 (by omega) q46 q47 (by omega) (by omega)), fun scr L F d J M0 => ?_, fun scr L F d I0 J n0 R key => ?_⟩
      · have k2 := c67_l_g scr L F (d + 20 + 3 * e) (beI (adI I (p + 1)) p y) J M0 p D n (by omega) _ (ka scr L F d J M0) p3 r3 (by rw [i3]; exact s60) _ (kb2 scr L F d J M0) p5 r5 (by rw [i5]; exact c1)
        have k3 := c61_op_g scr L F (d + 13 + 3 * e) I J M0 n p D y hE.1.1 hpn (by omega) 123 hx rfl _ K5 m6.1.2.2.2.2.2.1 (by have := m6.2.2.1; omega) (by rw [show d + 13 + 3 * e + 29 = d + 20 + 3 * e + 22 by omega]; exact k2)
        rw [show d + 40 + 3 * (e + 1) = d + 13 + 3 * e + 30 by omega]
        exact k3
      · have k2 := g107_op2_l scr L F d I0 J M5 n p5 N (nI N3) m5.1.1.2.1 (by omega) z49 z41 cM
        refine hO_le (N := (n0 + 100) + 100 * (2 * (N5 - N) - 2)) (by omega) ?_
        refine ch3 scr L F d I0 J _ _ ?_
        exact q_gw scr L F d I0 J M5 _ (N5 - 1) n0 N3 (by omega) R o N m5.1.2.2.2.1 (by omega) (m5.2.2.2.1 rfl) (by omega) k2 m6.1.2.2.2.1 8 2 q41 q49b (by decide) K5 m6.1.2.2.2.2.2.2.1 (by have := m6.2.2.1; omega) key
    · refine .inl ⟨wr I5 10 p (nI (p3 + 1)), wr (wr M5 49 N 2) 47 N (nI N3), wF_trans v7 (wF_st (stI_wr (s := p) (by omega))), wG_trans v8 (wG_st (stM_trans (stM_wr (by omega)) (stM_wr (by omega)))), tyX_wI (tyX_wM (tyX_wM v9 (by omega)) (by omega)) (by omega), fun scr L F d J M0 => ?_, fun scr L F d I0 J => ?_⟩
      · have k2 := c67_l_f4 scr L F (d + 20 + 3 * e) (beI (adI I (p + 1)) p y) J M0 p D n (by omega) _ (ka scr L F d J M0) p3 r3 (by rw [i3]; exact s60) _ (kb2 scr L F d J M0) p5 r5 (by rw [i5]; exact c1)
        have k3 := c61_op_f scr L F (d + 13 + 3 * e) I J M0 n p D y hE.1.1 hpn (by omega) 123 hx rfl _ (by rw [show d + 13 + 3 * e + 29 = d + 20 + 3 * e + 22 by omega]; exact k2)
        rw [show d + 40 + 3 * (e + 1) = d + 13 + 3 * e + 30 by omega]
        exact k3
      · have k2 := g107_op2_l_f scr L F d I0 J M5 n p5 N (nI N3) m5.1.1.2.1 (by omega) z49 z41 (by rw [hT5]; exact c1)
        refine hO_le (N := 100 + 100 * (2 * (N5 - N) - 2)) (by omega) ?_
        refine ch3 scr L F d I0 J _ _ ?_
        exact q_gf scr L F d I0 J M5 _ (N5 - 1) 0 N3 (by omega) none o N m5.1.2.2.2.1 (by omega) (m5.2.2.2.1 rfl) (by omega) k2
  have kf : ∀ (scr : Nat → Int32) (L F d : Nat) (J : am_J) (M0 : am_I), am_r scr L (F + 63000) (d + 20 + 3 * e + 22) 67 [.ref 19, .int (nI p), .int (nI D)] (hp (beI (adI I (p + 1)) p y) J M0) = some (some (.int 0), hp (wr (wr I3 9 p (nI (p + 1))) 7 p 8) J M0, 0, 0) := fun scr L F d J M0 => c67_f2 scr L F (d + 20 + 3 * e) (beI (adI I (p + 1)) p y) J M0 p D n (by omega) _ (ka scr L F d J M0) p3 r3 (by rw [i3]; exact s43) (by rw [i3]; exact s45) (by rw [i3]; exact s60)
  obtain ⟨vv, hv⟩ : ∃ vv, ∀ (scr : Nat → Int32) (L F d : Nat) (I0 : am_I) (J : am_J), am_r scr L (F + 63000) (d + 30) 107 [.ref 37, .int (nI N), .int (nI (N + 1))] (hp I0 J M3) = some (some (.int 0), hp I0 J (wr (wr (wr (wr M3 49 N 1) 46 N (nI (N + 1))) 36 20 (nI (p3 + 1))) 41 N vv), 0, 0) := g107_op_b M3 n p3 N (nI (N + 1)) m3.1.1.2.1 (by omega) x49 x41 (by rw [hT3]; exact s45) (by rw [hT3]; exact s60) (by rw [hT3]; exact s43)
  refine .inl ⟨_, _, wF_trans v1 (wF_st (stI_trans (stI_wr (x := 9) (s := p) (v := nI (p + 1)) (by omega)) (stI_wr (x := 7) (s := p) (v := 8) (by omega)))), wG_trans v2 (wG_st (stM_trans (stM_wr (x := 49) (T := N) (v := 1) (by omega)) (stM_trans (stM_wr (x := 46) (T := N) (v := nI (N + 1)) (by omega)) (stM_trans (stM_ad (q := p3 + 1)) (stM_wr (x := 41) (T := N) (v := vv) (by omega)))))), tyX_wI (tyX_wI (tyX_wM (tyX_aM (tyX_wM (tyX_wM v3 (by omega)) (by omega))) (by omega)) (by omega)) (by omega), fun scr L F d J M0 => ?_, fun scr L F d I0 J => ?_⟩
  · have k2 := kf scr L F d J M0
    have k3 := c61_op_f scr L F (d + 13 + 3 * e) I J M0 n p D y hE.1.1 hpn (by omega) 123 hx rfl _ (by rw [show d + 13 + 3 * e + 29 = d + 20 + 3 * e + 22 by omega]; exact k2)
    rw [show d + 40 + 3 * (e + 1) = d + 13 + 3 * e + 30 by omega]
    exact k3
  · refine hO_le (N := 100 + 100 * (2 * (N3 - (N + 1)) - 1) + 100) (by omega) ?_
    refine ch1 scr L F d I0 J _ _ ?_
    exact q_gf scr L F d I0 J M3 _ (N3 - 1) 0 (N + 1) (by omega) none o N m3.1.2.2.2.1 (by omega) (m3.2.2.2.1 rfl) (by omega) (hv scr L F d I0 J)

