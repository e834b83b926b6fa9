/-! Reading an expression: choices, and all forms. -/
theorem ex_ch {e : Nat} (ih : eAll e) {I M : am_I} {n p c N K o D : Nat} {y par : Int32} (hE : rdE I M n p c N K o) (hD : D + (e + 1) = 21) (hD0 : D = o + 1) (hP : isP M o par) (hy : yp M N y par) (hpn : p < n) (hx : I 19 p = 91) : eFail (e + 1) I M N D y ∨ ∃ (I' M' : am_I) (p' c' N' K' : Nat), eGood (e + 1) I M n p c N K o D y par I' M' p' c' N' K' := by
  have hT : M 37 = I 19 := hE.1.2.2.1
  have hn100 := hE.1.1.2.2.1
  have htx : tx (M 37) n p = 91 := by
    rw [hT]
    simp [tx, hpn, hx]
  have hcN := hE.2.1
  have hc5 := hE.1.2.2.2.2.1.1
  have m0 := Mid_begin (v := 9) (y := y) (par := par) (num := 91) hE hpn (by omega)
  have m1 := Mid_step m0 (rdS_wI (x := 7) (s := p) (v := 9) m0.1.1 (by omega)) (by omega) (by omega) m0.1.2.1 (tyX_wI (tyX_refl _ _ _) (by omega)) (stI_wr (by omega)) (stM_refl _ _)
  have m2 := Mid_open m1 (by omega)
  have q41 : wr (wr (bgM M N p 9 par 91) 51 o (nI N)) 36 21 (nI (o + 1)) 41 N = 9 := by simp [bgM, wr, va_up, upd]
  have q49 : wr (wr (bgM M N p 9 par 91) 51 o (nI N)) 36 21 (nI (o + 1)) 49 N = 0 := by simp [bgM, wr, va_up, upd]
  rcases ih _ _ n (p + 1) c (N + 1) K (o + 1) (D + 1) (nI p) (nI N) m2.1 (by omega) (by omega) (.inr ⟨o, rfl, m2.2.2.2.1 rfl⟩) (.inr ⟨N, by omega, rfl, m2.2.2.2.2.1.symm⟩) with ⟨I3, M3, f1, f2, f3, f4, f5⟩ | ⟨I3, M3, p3, c3, N3, K3, g, gA, gB⟩
  · obtain ⟨w1, w2, w3⟩ := Mid_w m2
    refine .inl ⟨wr I3 9 p (-1), M3, wF_trans w1 (wF_trans f1 (wF_st (stI_wr (s := p) (by omega)))), wG_trans w2 f2, tyX_trans w3 (tyX_wI f3 (by omega)) (by omega), fun scr L F d J M0 => ?_, fun scr L F d I0 J => ?_⟩
    · have k1 := c71_f scr L F (d + 20 + 3 * e) ((wr (beI (adI I (p + 1)) p y) 7 p 9)) J M0 p D (by omega) I3 (by rw [show d + 20 + 3 * e + 20 = d + 40 + 3 * e by omega]; exact f4 scr L F d J M0)
      have k2 := c68_f1 scr L F (d + 20 + 3 * e) (beI (adI I (p + 1)) p y) J M0 p D n (by omega) _ k1
      have k3 := c61_ch_f scr L F (d + 13 + 3 * e) I J M0 n p D y hE.1.1 hpn (by omega) 91 hx rfl _ (by rw [show d + 13 + 3 * e + 29 = d + 20 + 3 * e + 22 by omega]; exact k2)
      rw [show d + 40 + 3 * (e + 1) = d + 13 + 3 * e + 30 by omega]
      exact k3
    · have k1 := b106_ch scr L F d I0 J M n p N o 91 hE.1.2.1 htx hE.2.2.1 (by omega) hE.2.2.2.1 (by omega) par hP rfl
      refine hO_le (N := 400 * (101 - (N + 1)) + 400 + 100) (by omega) ?_
      exact q_open scr L F d I0 J M _ N _ (by omega) _ k1 o hE.2.2.2.1 (wr_s _ _ _ _) (by omega) (f5 scr L F d I0 J)
  have m3 := Mid_part m2 g
  have t3 := pt_new (by omega) g
  obtain ⟨u1, u2, u3, u4, u5, u6, u7⟩ := part_f g
  have gp := g.2.1
  have gN := g.2.2.1
  have x41 := (u2 41 N (by omega) (by omega) (by omega)).trans q41
  have x49 := (u2 49 N (by omega) (by omega) (by omega)).trans q49
  have x7 := (u1 7 p (by omega) (by omega) (by omega)).trans (wr_s _ _ _ _)
  have g42 : M3 42 (N + 1) = nI (p + 1) := g.2.2.2.2.2.2.2.2.2.1
  have hT3 : M3 37 = I3 19 := m3.1.1.2.2.1
  have r3 : rdI (wr I3 9 p (nI (p + 1))) n p3 := rdI_wr m3.1.1.1 (by omega)
  have i3 : wr I3 9 p (nI (p + 1)) 19 = I3 19 := wr_ne _ _ _ _ _ (by omega)
  have ka : ∀ (scr : Nat → Int32) (L F d : Nat) (J : am_J) (M0 : am_I), am_r scr L (F + 63000) (d + 20 + 3 * e + 21) 71 [.ref 19, .int (nI p), .int (nI D)] (hp (wr (beI (adI I (p + 1)) p y) 7 p 9) J M0) = some (some (.int 1), hp (wr I3 9 p (nI (p + 1))) J M0, 0, 0) := fun scr L F d J M0 => c71_g scr L F (d + 20 + 3 * e) (wr (beI (adI I (p + 1)) p y) 7 p 9) J M0 p D (p + 1) (by omega) (by omega) I3 (by rw [show d + 20 + 3 * e + 20 = d + 40 + 3 * e by omega]; exact gA scr L F d J M0)
  have ch1 : ∀ (scr : Nat → Int32) (L F d : Nat) (I0 : am_I) (J : am_J) (n0 : Nat) (R : Option am_X), hC scr L F d I0 J n0 (N3 - 1) (N + 1) M3 R → hO scr L F d I0 J (n0 + 100 * (2 * (N3 - (N + 1)) - 1) + 100) N M R := by
    intro scr L F d I0 J n0 R key
    have k1 := b106_ch scr L F d I0 J M n p N o 91 hE.1.2.1 htx hE.2.2.1 (by omega) hE.2.2.2.1 (by omega) par hP rfl
    refine q_open scr L F d I0 J M _ N _ (by omega) _ k1 o hE.2.2.2.1 (wr_s _ _ _ _) (by omega) ?_
    exact gB scr L F d I0 J _ _ key
  obtain ⟨v1, v2, v3⟩ := Mid_w m3
  by_cases s63 : tx (I3 19) n p3 = 63
  case neg =>
    refine .inl ⟨wr I3 9 p (nI (p + 1)), wr (wr M3 49 N 1) 46 N (nI (N + 1)), wF_trans v1 (wF_st (stI_wr (s := p) (by omega))), wG_trans v2 (wG_st (stM_trans (stM_wr (by omega)) (stM_wr (by omega)))), tyX_wI (tyX_wM (tyX_wM v3 (by omega)) (by omega)) (by omega), fun scr L F d J M0 => ?_, fun scr L F d I0 J => ?_⟩
    · have k2 := c68_f2 scr L F (d + 20 + 3 * e) (beI (adI I (p + 1)) p y) J M0 p D n (by omega) _ (ka scr L F d J M0) p3 r3 (by rw [i3]; exact s63)
      have k3 := c61_ch_f scr L F (d + 13 + 3 * e) I J M0 n p D y hE.1.1 hpn (by omega) 91 hx rfl _ (by rw [show d + 13 + 3 * e + 29 = d + 20 + 3 * e + 22 by omega]; exact k2)
      rw [show d + 40 + 3 * (e + 1) = d + 13 + 3 * e + 30 by omega]
      exact k3
    · have k2 := g107_ch1_f scr L F d I0 J M3 n p3 N (nI (N + 1)) m3.1.1.2.1 (by omega) x49 x41 (by rw [hT3]; exact s63)
      refine hO_le (N := 100 + 100 * (2 * (N3 - (N + 1)) - 1) + 100) (by omega) ?_
      refine ch1 scr L F d I0 J _ _ ?_
      exact q_gf scr L F d I0 J M3 _ (N3 - 1) 0 (N + 1) (by omega) none o N m3.1.2.2.2.1 (by omega) (m3.2.2.2.1 rfl) (by omega) k2
  have hp3 := tx_lt s63 (by decide)
  have sM : tx (M3 37) n p3 = 63 := by
    rw [hT3]
    exact s63
  have s1 : stI I3 (adI (wr I3 9 p (nI (p + 1))) (p3 + 1)) p := stI_trans (stI_wr (by omega)) stI_ad
  have s2 : stM M3 (adM (wr (wr M3 49 N 1) 46 N (nI (N + 1))) (p3 + 1)) N := stM_trans (stM_wr (by omega)) (stM_trans (stM_wr (by omega)) stM_ad)
  have hX : tyX I3 M3 (adI (wr I3 9 p (nI (p + 1))) (p3 + 1)) (adM (wr (wr M3 49 N 1) 46 N (nI (N + 1))) (p3 + 1)) c3 := tyX_aI (tyX_wI (tyX_aM (tyX_wM (tyX_wM (tyX_refl _ _ _) (by omega)) (by omega))) (by omega))
  have m4 : Mid I M (adI (wr I3 9 p (nI (p + 1))) (p3 + 1)) (adM (wr (wr M3 49 N 1) 46 N (nI (N + 1))) (p3 + 1)) n (p3 + 1) c3 N3 K3 (o + 1) o p N K c y par := Mid_step m3 (rdS_ad (rdS_wI (rdS_wM (rdS_wM m3.1.1 (by omega)) (by omega)) (by omega)) (by omega) (by omega)) (by omega) (by omega) (by have := m3.1.2.1; omega) hX s1 s2
  have t4 := pt_X t3 (st_ag (p := p3) (K0 := K) (K := K3) s1 s2) hX (by omega) (Nat.le_refl _) (Nat.le_refl _)
  have y41 : (adM (wr (wr M3 49 N 1) 46 N (nI (N + 1))) (p3 + 1)) 41 N = 9 := by
    rw [adM_ne _ _ 41 (by omega), wr_q _ _ _ _ _ _ (by omega), wr_q _ _ _ _ _ _ (by omega)]
    exact x41
  have y49 : (adM (wr (wr M3 49 N 1) 46 N (nI (N + 1))) (p3 + 1)) 49 N = 1 := by
    rw [adM_ne _ _ 49 (by omega), wr_q _ _ _ _ _ _ (by omega), wr_s]
  have y46 : (adM (wr (wr M3 49 N 1) 46 N (nI (N + 1))) (p3 + 1)) 46 N = nI (N + 1) := by
    rw [adM_ne _ _ 46 (by omega), wr_s]
  have y42 : (adM (wr (wr M3 49 N 1) 46 N (nI (N + 1))) (p3 + 1)) 42 (N + 1) = nI (p + 1) := by
    rw [adM_ne _ _ 42 (by omega), wr_q _ _ _ _ _ _ (by omega), wr_q _ _ _ _ _ _ (by omega)]
    exact g42
  have y9 : (adI (wr I3 9 p (nI (p + 1))) (p3 + 1)) 9 p = nI (p + 1) := by
    rw [adI_ne _ _ 9 (by omega), wr_s]
  have y7 : (adI (wr I3 9 p (nI (p + 1))) (p3 + 1)) 7 p = 9 := by
    rw [adI_ne _ _ 7 (by omega), wr_q _ _ _ _ _ _ (by omega)]
    exact x7
  have ch2 : ∀ (scr : Nat → Int32) (L F d : Nat) (I0 : am_I) (J : am_J) (n0 : Nat) (R : Option am_X), hO scr L F d I0 J n0 N3 (adM (wr (wr M3 49 N 1) 46 N (nI (N + 1))) (p3 + 1)) R → hO scr L F d I0 J (n0 + 100 * (2 * (N3 - N) - 1)) N M R := by
    intro scr L F d I0 J n0 R key
    have k2 := g107_ch1 scr L F d I0 J M3 n p3 N (nI (N + 1)) m3.1.1.2.1 (by omega) x49 x41 sM
    refine hO_le (N := (n0 + 100) + 100 * (2 * (N3 - (N + 1)) - 1) + 100) (by omega) ?_
    refine ch1 scr L F d I0 J _ _ ?_
    refine q_gn scr L F d I0 J M3 _ (N3 - 1) n0 (N + 1) (by omega) R o N m3.1.2.2.2.1 (by omega) (m3.2.2.2.1 rfl) (by omega) k2 m4.1.2.2.2.1 9 1 y41 y49 (by decide) ?_
    rw [show N3 - 1 + 1 = N3 by omega]
    exact key
  obtain ⟨v4, v5, v6⟩ := Mid_w m4
  rcases ih _ _ n (p3 + 1) c3 N3 K3 (o + 1) (D + 1) (nI p) (nI N) m4.1 (by omega) (by omega) (.inr ⟨o, rfl, m4.2.2.2.1 rfl⟩) (.inr ⟨N, by omega, rfl, m4.2.2.2.2.1.symm⟩) with ⟨I5, M5, f1, f2, f3, f4, f5⟩ | ⟨I5, M5, p5, c5, N5, K5, g2, gA2, gB2⟩
  · refine .inl ⟨wr I5 10 p (-1), M5, wF_trans v4 (wF_trans f1 (wF_st (stI_wr (s := p) (by omega)))), wG_trans v5 f2, tyX_trans v6 (tyX_wI f3 (by omega)) (by omega), fun scr L F d J M0 => ?_, fun scr L F d I0 J => ?_⟩
    · have k1 := c72_f scr L F (d + 20 + 3 * e) (adI (wr I3 9 p (nI (p + 1))) (p3 + 1)) J M0 p D (by omega) I5 (by rw [show d + 20 + 3 * e + 20 = d + 40 + 3 * e by omega]; exact f4 scr L F d J M0)
      have k2 := c68_f3 scr L F (d + 20 + 3 * e) (beI (adI I (p + 1)) p y) J M0 p D n (by omega) _ (ka scr L F d J M0) p3 r3 (by rw [i3]; exact s63) _ k1
      have k3 := c61_ch_f scr L F (d + 13 + 3 * e) I J M0 n p D y hE.1.1 hpn (by omega) 91 hx rfl _ (by rw [show d + 13 + 3 * e + 29 = d + 20 + 3 * e + 22 by omega]; exact k2)
      rw [show d + 40 + 3 * (e + 1) = d + 13 + 3 * e + 30 by omega]
      exact k3
    · refine hO_le (N := (400 * (101 - N3) + 400) + 100 * (2 * (N3 - N) - 1)) (by omega) ?_
      exact ch2 scr L F d I0 J _ _ (f5 scr L F d I0 J)
  have m5 := Mid_part m4 g2
  have t5 := pt_new (by omega) g2
  obtain ⟨w1, w2, w3, w4, w5, w6, w7⟩ := part_f g2
  have gp2 := g2.2.1
  have gN2 := g2.2.2.1
  have t6 := pt_X t4 (eF_ag (s := p) (K0 := K) g2.2.2.2.2.2.2.1 g2.2.2.2.2.2.2.2.1) g2.2.2.2.2.2.1 (by omega) g2.2.2.2.2.1 (Nat.le_of_lt gN2)
  have z41 := (w2 41 N (by omega) (by omega) (by omega)).trans y41
  have z49 := (w2 49 N (by omega) (by omega) (by omega)).trans y49
  have z46 := (w2 46 N (by omega) (by omega) (by omega)).trans y46
  have z42 := (w2 42 (N + 1) (by omega) (by omega) (by omega)).trans y42
  have z9 := (w1 9 p (by omega) (by omega) (by omega)).trans y9
  have z7 := (w1 7 p (by omega) (by omega) (by omega)).trans y7
  have z42b : M5 42 N3 = nI (p3 + 1) := g2.2.2.2.2.2.2.2.2.2.1
  have hT5 : M5 37 = I5 19 := m5.1.1.2.2.1
  have r5 : rdI (wr I5 10 p (nI (p3 + 1))) n p5 := rdI_wr m5.1.1.1 (by omega)
  have i5 : wr I5 10 p (nI (p3 + 1)) 19 = I5 19 := wr_ne _ _ _ _ _ (by omega)
  have kb2 : ∀ (scr : Nat → Int32) (L F d : Nat) (J : am_J) (M0 : am_I), am_r scr L (F + 63000) (d + 20 + 3 * e + 21) 72 [.ref 19, .int (nI p), .int (nI D)] (hp (adI (wr I3 9 p (nI (p + 1))) (p3 + 1)) J M0) = some (some (.int 1), hp (wr I5 10 p (nI (p3 + 1))) J M0, 0, 0) := fun scr L F d J M0 => c72_g scr L F (d + 20 + 3 * e) (adI (wr I3 9 p (nI (p + 1))) (p3 + 1)) J M0 p D (p3 + 1) (by omega) (by omega) I5 (by rw [show d + 20 + 3 * e + 20 = d + 40 + 3 * e by omega]; exact gA2 scr L F d J M0)
  have ch3 : ∀ (scr : Nat → Int32) (L F d : Nat) (I0 : am_I) (J : am_J) (n0 : Nat) (R : Option am_X), hC scr L F d I0 J n0 (N5 - 1) N3 M5 R → hO scr L F d I0 J (n0 + 100 * (2 * (N5 - N) - 2)) N M R := by
    intro scr L F d I0 J n0 R key
    refine hO_le (N := (n0 + 100 * (2 * (N5 - N3) - 1)) + 100 * (2 * (N3 - N) - 1)) (by omega) ?_
    refine ch2 scr L F d I0 J _ _ ?_
    exact gB2 scr L F d I0 J _ _ key
  obtain ⟨v7, v8, v9⟩ := Mid_w m5
  by_cases s58 : tx (I5 19) n p5 = 58
  case neg =>
    refine .inl ⟨wr I5 10 p (nI (p3 + 1)), wr (wr M5 49 N 2) 47 N (nI N3), wF_trans v7 (wF_st (stI_wr (s := p) (by omega))), wG_trans v8 (wG_st (stM_trans (stM_wr (by omega)) (stM_wr (by omega)))), tyX_wI (tyX_wM (tyX_wM v9 (by omega)) (by omega)) (by omega), fun scr L F d J M0 => ?_, fun scr L F d I0 J => ?_⟩
    · have k2 := c68_f4 scr L F (d + 20 + 3 * e) (beI (adI I (p + 1)) p y) J M0 p D n (by omega) _ (ka scr L F d J M0) p3 r3 (by rw [i3]; exact s63) _ (kb2 scr L F d J M0) p5 r5 (by rw [i5]; exact s58)
      have k3 := c61_ch_f scr L F (d + 13 + 3 * e) I J M0 n p D y hE.1.1 hpn (by omega) 91 hx rfl _ (by rw [show d + 13 + 3 * e + 29 = d + 20 + 3 * e + 22 by omega]; exact k2)
      rw [show d + 40 + 3 * (e + 1) = d + 13 + 3 * e + 30 by omega]
      exact k3
    · have k2 := g107_ch2_f scr L F d I0 J M5 n p5 N (nI N3) m5.1.1.2.1 (by omega) z49 z41 (by rw [hT5]; exact s58)
      refine hO_le (N := 100 + 100 * (2 * (N5 - N) - 2)) (by omega) ?_
      refine ch3 scr L F d I0 J _ _ ?_
      exact q_gf scr L F d I0 J M5 _ (N5 - 1) 0 N3 (by omega) none o N m5.1.2.2.2.1 (by omega) (m5.2.2.2.1 rfl) (by omega) k2
  have hp5 := tx_lt s58 (by decide)
  have sM5 : tx (M5 37) n p5 = 58 := by
    rw [hT5]
    exact s58
  have s3 : stI I5 (adI (wr I5 10 p (nI (p3 + 1))) (p5 + 1)) p := stI_trans (stI_wr (by omega)) stI_ad
  have s4 : stM M5 (adM (wr (wr M5 49 N 2) 47 N (nI N3)) (p5 + 1)) N := stM_trans (stM_wr (by omega)) (stM_trans (stM_wr (by omega)) stM_ad)
  have hX6 : tyX I5 M5 (adI (wr I5 10 p (nI (p3 + 1))) (p5 + 1)) (adM (wr (wr M5 49 N 2) 47 N (nI N3)) (p5 + 1)) c5 := tyX_aI (tyX_wI (tyX_aM (tyX_wM (tyX_wM (tyX_refl _ _ _) (by omega)) (by omega))) (by omega))
  have m6 : Mid I M (adI (wr I5 10 p (nI (p3 + 1))) (p5 + 1)) (adM (wr (wr M5 49 N 2) 47 N (nI N3)) (p5 + 1)) n (p5 + 1) c5 N5 K5 (o + 1) o p N K c y par := Mid_step m5 (rdS_ad (rdS_wI (rdS_wM (rdS_wM m5.1.1 (by omega)) (by omega)) (by omega)) (by omega) (by omega)) (by omega) (by omega) (by have := m5.1.2.1; omega) hX6 s3 s4
  have t7 := pt_X t6 (st_ag (p := p5) (K0 := K) (K := K5) s3 s4) hX6 (by omega) (Nat.le_refl _) (Nat.le_refl _)
  have t8 := pt_X t5 (st_ag (p := p5) (K0 := K) (K := K5) s3 s4) hX6 (by omega) (Nat.le_refl _) (Nat.le_refl _)
  have a41 : (adM (wr (wr M5 49 N 2) 47 N (nI N3)) (p5 + 1)) 41 N = 9 := by
    rw [adM_ne _ _ 41 (by omega), wr_q _ _ _ _ _ _ (by omega), wr_q _ _ _ _ _ _ (by omega)]
    exact z41
  have a49 : (adM (wr (wr M5 49 N 2) 47 N (nI N3)) (p5 + 1)) 49 N = 2 := by
    rw [adM_ne _ _ 49 (by omega), wr_q _ _ _ _ _ _ (by omega), wr_s]
  have a46 : (adM (wr (wr M5 49 N 2) 47 N (nI N3)) (p5 + 1)) 46 N = nI (N + 1) := by
    rw [adM_ne _ _ 46 (by omega), wr_q _ _ _ _ _ _ (by omega), wr_q _ _ _ _ _ _ (by omega)]
    exact z46
  have a47 : (adM (wr (wr M5 49 N 2) 47 N (nI N3)) (p5 + 1)) 47 N = nI N3 := by
    rw [adM_ne _ _ 47 (by omega), wr_s]
  have a42 : (adM (wr (wr M5 49 N 2) 47 N (nI N3)) (p5 + 1)) 42 (N + 1) = nI (p + 1) := by
    rw [adM_ne _ _ 42 (by omega), wr_q _ _ _ _ _ _ (by omega), wr_q _ _ _ _ _ _ (by omega)]
    exact z42
  have a42b : (adM (wr (wr M5 49 N 2) 47 N (nI N3)) (p5 + 1)) 42 N3 = nI (p3 + 1) := by
    rw [adM_ne _ _ 42 (by omega), wr_q _ _ _ _ _ _ (by omega), wr_q _ _ _ _ _ _ (by omega)]
    exact z42b
  have a9 : (adI (wr I5 10 p (nI (p3 + 1))) (p5 + 1)) 9 p = nI (p + 1) := by
    rw [adI_ne _ _ 9 (by omega), wr_q _ _ _ _ _ _ (by omega)]
    exact z9
  have a10 : (adI (wr I5 10 p (nI (p3 + 1))) (p5 + 1)) 10 p = nI (p3 + 1) := by
    rw [adI_ne _ _ 10 (by omega), wr_s]
  have a7 : (adI (wr I5 10 p (nI (p3 + 1))) (p5 + 1)) 7 p = 9 := by
    rw [adI_ne _ _ 7 (by omega), wr_q _ _ _ _ _ _ (by omega)]
    exact z7
  have ch4 : ∀ (scr : Nat → Int32) (L F d : Nat) (I0 : am_I) (J : am_J) (n0 : Nat) (R : Option am_X), hO scr L F d I0 J n0 N5 (adM (wr (wr M5 49 N 2) 47 N (nI N3)) (p5 + 1)) R → hO scr L F d I0 J (n0 + 100 * (2 * (N5 - N) - 1)) N M R := by
    intro scr L F d I0 J n0 R key
    have k2 := g107_ch2 scr L F d I0 J M5 n p5 N (nI N3) m5.1.1.2.1 (by omega) z49 z41 sM5
    refine hO_le (N := (n0 + 100) + 100 * (2 * (N5 - N) - 2)) (by omega) ?_
    refine ch3 scr L F d I0 J _ _ ?_
    refine q_gn scr L F d I0 J M5 _ (N5 - 1) n0 N3 (by omega) R o N m5.1.2.2.2.1 (by omega) (m5.2.2.2.1 rfl) (by omega) k2 m6.1.2.2.2.1 9 2 a41 a49 (by decide) ?_
    rw [show N5 - 1 + 1 = N5 by omega]
    exact key
  obtain ⟨v10, v11, v12⟩ := Mid_w m6
  rcases ih _ _ n (p5 + 1) c5 N5 K5 (o + 1) (D + 1) (nI p) (nI N) m6.1 (by omega) (by omega) (.inr ⟨o, rfl, m6.2.2.2.1 rfl⟩) (.inr ⟨N, by omega, rfl, m6.2.2.2.2.1.symm⟩) with ⟨I7, M7, f1, f2, f3, f4, f5⟩ | ⟨I7, M7, p7, c7, N7, K7, g3, gA3, gB3⟩
  · refine .inl ⟨wr I7 11 p (-1), M7, wF_trans v10 (wF_trans f1 (wF_st (stI_wr (s := p) (by omega)))), wG_trans v11 f2, tyX_trans v12 (tyX_wI f3 (by omega)) (by omega), fun scr L F d J M0 => ?_, fun scr L F d I0 J => ?_⟩
    · have k2 := c68_f5 scr L F (d + 20 + 3 * e) (beI (adI I (p + 1)) p y) J M0 p D n (by omega) _ (ka scr L F d J M0) p3 r3 (by rw [i3]; exact s63) _ (kb2 scr L F d J M0) p5 r5 (by rw [i5]; exact s58) I7 (by rw [show d + 20 + 3 * e + 21 = d + 1 + 40 + 3 * e by omega]; exact f4 scr L F (d + 1) J M0)
      have k3 := c61_ch_f scr L F (d + 13 + 3 * e) I J M0 n p D y hE.1.1 hpn (by omega) 91 hx rfl _ (by rw [show d + 13 + 3 * e + 29 = d + 20 + 3 * e + 22 by omega]; exact k2)
      rw [show d + 40 + 3 * (e + 1) = d + 13 + 3 * e + 30 by omega]
      exact k3
    · refine hO_le (N := (400 * (101 - N5) + 400) + 100 * (2 * (N5 - N) - 1)) (by omega) ?_
      exact ch4 scr L F d I0 J _ _ (f5 scr L F d I0 J)
  have m7 := Mid_part m6 g3
  have t9 := pt_new (by omega) g3
  obtain ⟨l1, l2, l3, l4, l5, l6, l7⟩ := part_f g3
  have gp3 := g3.2.1
  have gN3 := g3.2.2.1
  have ag3 := eF_ag (s := p) (T := N) (K0 := K) (M := (adM (wr (wr M5 49 N 2) 47 N (nI N3)) (p5 + 1))) (I := (adI (wr I5 10 p (nI (p3 + 1))) (p5 + 1))) g3.2.2.2.2.2.2.1 g3.2.2.2.2.2.2.2.1
  have t10 := pt_X t7 ag3 g3.2.2.2.2.2.1 (by omega) g3.2.2.2.2.1 (Nat.le_of_lt gN3)
  have t11 := pt_X t8 ag3 g3.2.2.2.2.2.1 (by omega) g3.2.2.2.2.1 (Nat.le_of_lt gN3)
  have b41 := (l2 41 N (by omega) (by omega) (by omega)).trans a41
  have b49 := (l2 49 N (by omega) (by omega) (by omega)).trans a49
  have b46 := (l2 46 N (by omega) (by omega) (by omega)).trans a46
  have b47 := (l2 47 N (by omega) (by omega) (by omega)).trans a47
  have b42 := (l2 42 (N + 1) (by omega) (by omega) (by omega)).trans a42
  have b42b := (l2 42 N3 (by omega) (by omega) (by omega)).trans a42b
  have b42c : M7 42 N5 = nI (p5 + 1) := g3.2.2.2.2.2.2.2.2.2.1
  have b9 := (l1 9 p (by omega) (by omega) (by omega)).trans a9
  have b10 := (l1 10 p (by omega) (by omega) (by omega)).trans a10
  have b7 := (l1 7 p (by omega) (by omega) (by omega)).trans a7
  have hT7 : M7 37 = I7 19 := m7.1.1.2.2.1
  have ch5 : ∀ (scr : Nat → Int32) (L F d : Nat) (I0 : am_I) (J : am_J) (n0 : Nat) (R : Option am_X), hC scr L F d I0 J n0 (N7 - 1) N5 M7 R → hO scr L F d I0 J (n0 + 100 * (2 * (N7 - N) - 2)) N M R := by
    intro scr L F d I0 J n0 R key
    refine hO_le (N := (n0 + 100 * (2 * (N7 - N5) - 1)) + 100 * (2 * (N5 - N) - 1)) (by omega) ?_
    refine ch4 scr L F d I0 J _ _ ?_
    exact gB3 scr L F d I0 J _ _ key
  obtain ⟨v13, v14, v15⟩ := Mid_w m7
  by_cases s93 : tx (I7 19) n p7 = 93
  case neg =>
    refine .inl ⟨wr I7 11 p (nI (p5 + 1)), wr (wr M7 49 N 3) 48 N (nI N5), wF_trans v13 (wF_st (stI_wr (s := p) (by omega))), wG_trans v14 (wG_st (stM_trans (stM_wr (by omega)) (stM_wr (by omega)))), tyX_wI (tyX_wM (tyX_wM v15 (by omega)) (by omega)) (by omega), fun scr L F d J M0 => ?_, fun scr L F d I0 J => ?_⟩
    · have k2 := c68_f6 scr L F (d + 20 + 3 * e) (beI (adI I (p + 1)) p y) J M0 p D n (by omega) _ (ka scr L F d J M0) p3 r3 (by rw [i3]; exact s63) _ (kb2 scr L F d J M0) p5 r5 (by rw [i5]; exact s58) I7 (p5 + 1) (by omega) (by rw [show d + 20 + 3 * e + 21 = d + 1 + 40 + 3 * e by omega]; exact gA3 scr L F (d + 1) J M0) p7 m7.1.1.1 s93
      have k3 := c61_ch_f scr L F (d + 13 + 3 * e) I J M0 n p D y hE.1.1 hpn (by omega) 91 hx rfl _ (by rw [show d + 13 + 3 * e + 29 = d + 20 + 3 * e + 22 by omega]; exact k2)
      rw [show d + 40 + 3 * (e + 1) = d + 13 + 3 * e + 30 by omega]
      exact k3
    · have k2 := g107_ch3_f scr L F d I0 J M7 n p7 N (nI N5) m7.1.1.2.1 (by omega) b49 b41 (by rw [hT7]; exact s93)
      refine hO_le (N := 100 + 100 * (2 * (N7 - N) - 2)) (by omega) ?_
      refine ch5 scr L F d I0 J _ _ ?_
      exact q_gf scr L F d I0 J M7 _ (N7 - 1) 0 N5 (by omega) none o N m7.1.2.2.2.1 (by omega) (m7.2.2.2.1 rfl) (by omega) k2
  have hp7 := tx_lt s93 (by decide)
  have sM7 : tx (M7 37) n p7 = 93 := by
    rw [hT7]
    exact s93
  have s5 : stI I7 (adI (wr I7 11 p (nI (p5 + 1))) (p7 + 1)) p := stI_trans (stI_wr (by omega)) stI_ad
  have s6 : stM M7 (adM (wr (wr M7 49 N 3) 48 N (nI N5)) (p7 + 1)) N := stM_trans (stM_wr (by omega)) (stM_trans (stM_wr (by omega)) stM_ad)
  have hX8 : tyX I7 M7 (adI (wr I7 11 p (nI (p5 + 1))) (p7 + 1)) (adM (wr (wr M7 49 N 3) 48 N (nI N5)) (p7 + 1)) c7 := tyX_aI (tyX_wI (tyX_aM (tyX_wM (tyX_wM (tyX_refl _ _ _) (by omega)) (by omega))) (by omega))
  have m8 : Mid I M (adI (wr I7 11 p (nI (p5 + 1))) (p7 + 1)) (adM (wr (wr M7 49 N 3) 48 N (nI N5)) (p7 + 1)) n (p7 + 1) c7 N7 K7 (o + 1) o p N K c y par := Mid_step m7 (rdS_ad (rdS_wI (rdS_wM (rdS_wM m7.1.1 (by omega)) (by omega)) (by omega)) (by omega) (by omega)) (by omega) (by omega) (by have := m7.1.2.1; omega) hX8 s5 s6
  have ag8 : ag I7 M7 (adI (wr I7 11 p (nI (p5 + 1))) (p7 + 1)) (adM (wr (wr M7 49 N 3) 48 N (nI N5)) (p7 + 1)) N N7 p p7 K K7 := st_ag s5 s6
  have t12 := pt_X t10 ag8 hX8 (by omega) (Nat.le_refl _) (Nat.le_refl _)
  have t13 := pt_X t11 ag8 hX8 (by omega) (Nat.le_refl _) (Nat.le_refl _)
  have t14 := pt_X t9 ag8 hX8 (by omega) (Nat.le_refl _) (Nat.le_refl _)
  have eM : ∀ x m, ¬ x = 36 → ¬ (x = 49 ∧ m = N) → ¬ (x = 48 ∧ m = N) → (adM (wr (wr M7 49 N 3) 48 N (nI N5)) (p7 + 1)) x m = M7 x m := by
    intro x m w1 w2 w3
    rw [adM_ne _ _ x w1, wr_q _ _ _ _ _ _ (by omega), wr_q _ _ _ _ _ _ (by omega)]
  have e48 : (adM (wr (wr M7 49 N 3) 48 N (nI N5)) (p7 + 1)) 48 N = nI N5 := by
    rw [adM_ne _ _ 48 (by omega), wr_s]
  have e49 : (adM (wr (wr M7 49 N 3) 48 N (nI N5)) (p7 + 1)) 49 N = 3 := by
    rw [adM_ne _ _ 49 (by omega), wr_q _ _ _ _ _ _ (by omega), wr_s]
  have e41 := (eM 41 N (by omega) (by omega) (by omega)).trans b41
  have e46 := (eM 46 N (by omega) (by omega) (by omega)).trans b46
  have e47 := (eM 47 N (by omega) (by omega) (by omega)).trans b47
  have e42 := (eM 42 (N + 1) (by omega) (by omega) (by omega)).trans b42
  have e42b := (eM 42 N3 (by omega) (by omega) (by omega)).trans b42b
  have e42c := (eM 42 N5 (by omega) (by omega) (by omega)).trans b42c
  have eI : ∀ x q, ¬ x = 18 → ¬ (x = 11 ∧ q = p) → (adI (wr I7 11 p (nI (p5 + 1))) (p7 + 1)) x q = I7 x q := by
    intro x q w1 w2
    rw [adI_ne _ _ x w1, wr_q _ _ _ _ _ _ (by omega)]
  have d7 := (eI 7 p (by omega) (by omega)).trans b7
  have d9 := (eI 9 p (by omega) (by omega)).trans b9
  have d10 := (eI 10 p (by omega) (by omega)).trans b10
  have d11 : (adI (wr I7 11 p (nI (p5 + 1))) (p7 + 1)) 11 p = nI (p5 + 1) := by
    rw [adI_ne _ _ 11 (by omega), wr_s]
  have hnd : nd (adI (wr I7 11 p (nI (p5 + 1))) (p7 + 1)) (adM (wr (wr M7 49 N 3) 48 N (nI N5)) (p7 + 1)) N7 c7 N := nd_mk m8 hy 9 e41 d7 (by omega) (fun z => by omega) (fun z => by omega) (fun z => by omega) (fun z => by omega) (fun _ => ⟨N + 1, p + 1, by omega, t12.2.1, e46, e42, d9, t12.2.2.2.1⟩) (fun _ _ => ⟨N3, p3 + 1, by omega, t13.2.1, e47, e42b, d10, t13.2.2.2.1⟩) (fun _ => ⟨N5, p5 + 1, by omega, t14.2.1, e48, e42c, d11, t14.2.2.2.1⟩)
  have htw : tw (adI (wr I7 11 p (nI (p5 + 1))) (p7 + 1)) (adM (wr (wr M7 49 N 3) 48 N (nI N5)) (p7 + 1)) N7 c7 (e + 1) (p7 + 1 - p) N := ⟨by omega, by omega, 9, e41, by omega, fun z => by omega, fun z => by omega, fun _ _ => ⟨N + 1, N3, p3 - (p + 1), p5 - (p3 + 1), e46, by omega, t12.2.2.2.2, e47, by omega, t13.2.2.2.2, by omega⟩, fun _ => ⟨N + 1, N5, p3 - (p + 1), p7 - (p5 + 1), e46, by omega, t12.2.2.2.2, e48, by omega, t14.2.2.2.2, by omega⟩⟩
  refine .inr ⟨_, _, p7 + 1, c7, N7, K7 + 1, close_w m8 hnd htw (by omega) (dn_3 e46 e47 e48 (by omega) (by omega) (by omega)), fun scr L F d J M0 => ?_, fun scr L F d I0 J n0 R key => ?_⟩
  · have k2 := c68_g scr L F (d + 20 + 3 * e) (beI (adI I (p + 1)) p y) J M0 p D n (by omega) _ (ka scr L F d J M0) p3 r3 (by rw [i3]; exact s63) _ (kb2 scr L F d J M0) p5 r5 (by rw [i5]; exact s58) I7 (p5 + 1) (by omega) (by rw [show d + 20 + 3 * e + 21 = d + 1 + 40 + 3 * e by omega]; exact gA3 scr L F (d + 1) J M0) p7 m7.1.1.1 s93
    have k3 := c61_ch_g scr L F (d + 13 + 3 * e) I J M0 n p D y hE.1.1 hpn (by omega) 91 hx rfl _ K7 m8.1.2.2.2.2.2.1 (by have := m8.2.2.1; omega) (by rw [show d + 13 + 3 * e + 29 = d + 20 + 3 * e + 22 by omega]; exact k2)
    rw [show d + 40 + 3 * (e + 1) = d + 13 + 3 * e + 30 by omega]
    exact k3
  · have k2 := g107_ch3 scr L F d I0 J M7 n p7 N (nI N5) m7.1.1.2.1 (by omega) b49 b41 sM7
    refine hO_le (N := (n0 + 100) + 100 * (2 * (N7 - N) - 2)) (by omega) ?_
    refine ch5 scr L F d I0 J _ _ ?_
    exact q_gw scr L F d I0 J M7 _ (N7 - 1) n0 N5 (by omega) R o N m7.1.2.2.2.1 (by omega) (m7.2.2.2.1 rfl) (by omega) k2 m8.1.2.2.2.1 9 3 e41 e49 (by decide) K7 m8.1.2.2.2.2.2.2.1 (by have := m8.2.2.1; omega) key

theorem o105_any (M : am_I) (x : Int32) : ∃ v, ∀ (scr : Nat → Int32) (L F d : Nat) (I : am_I) (J : am_J), am_r scr L (F + 63000) (d + 29) 105 [.ref 37, .int x] (hp I J M) = some (some (.int v), hp I J M, 0, 0) := by
  have cv : ∀ v, (∀ (scr : Nat → Int32) (L F d : Nat) (I : am_I) (J : am_J), am_r scr L (F + 200) (d + 2) 105 [.ref 37, .int x] (hp I J M) = some (some (.int v), hp I J M, 0, 0)) → ∃ v, ∀ (scr : Nat → Int32) (L F d : Nat) (I : am_I) (J : am_J), am_r scr L (F + 63000) (d + 29) 105 [.ref 37, .int x] (hp I J M) = some (some (.int v), hp I J M, 0, 0) := by
    intro v h
    refine ⟨v, fun scr L F d I J => ?_⟩
    have := h scr L (F + 62800) (d + 27) I J
    rw [show F + 62800 + 200 = F + 63000 by omega, show d + 27 + 2 = d + 29 by omega] at this
    exact this
  by_cases h1 : isD x
  · exact cv 0 (fun scr L F d I J => o105_d scr L F d I J M x h1)
  by_cases h2 : isL x
  · exact cv 2 (fun scr L F d I J => o105_v scr L F d I J M x h1 h2)
  by_cases x84 : x = 84
  · subst x84
    exact cv 1 (fun scr L F d I J => o105_T scr L F d I J M)
  by_cases x70 : x = 70
  · subst x70
    exact cv 1 (fun scr L F d I J => o105_F scr L F d I J M)
  by_cases x40 : x = 40
  · subst x40
    exact cv 4 (fun scr L F d I J => o105_pair scr L F d I J M)
  by_cases x123 : x = 123
  · subst x123
    exact cv 6 (fun scr L F d I J => o105_op scr L F d I J M)
  by_cases x91 : x = 91
  · subst x91
    exact cv 9 (fun scr L F d I J => o105_ch scr L F d I J M)
  by_cases x64 : x = 64
  · subst x64
    exact cv 10 (fun scr L F d I J => o105_new scr L F d I J M)
  by_cases x33 : x = 33
  · subst x33
    exact cv 11 (fun scr L F d I J => o105_read scr L F d I J M)
  by_cases x36 : x = 36
  · subst x36
    exact cv 13 (fun scr L F d I J => o105_put scr L F d I J M)
  by_cases x60 : x = 60
  · subst x60
    exact cv 12 (fun scr L F d I J => o105_cast scr L F d I J M)
  by_cases x92 : x = 92
  · subst x92
    exact cv 3 (fun scr L F d I J => o105_fun scr L F d I J M)
  exact cv (-1) (fun scr L F d I J => o105_bad scr L F d I J M x h1 h2 x33 x36 x40 x60 x64 x91 x92 x123 x84 x70)
theorem ex_all : ∀ e, eAll e := by
  intro e
  induction e with
  | zero =>
    intro I M n p c N K o D y par hE hD hD0 hP hy
    have hc5 := hE.1.2.2.2.2.1.1
    have hpn := hE.1.2.2.2.1
    have hn := hE.1.1.2.2.1
    have hcN := hE.2.1
    refine .inl ⟨I, M, wF_refl I, wG_refl M, tyX_refl I M 5, fun scr L F d J M0 => ?_, fun scr L F d I0 J => ?_⟩
    · exact c61_deep scr L F (d + 39) I J M0 D y (by omega) (by omega)
    · obtain ⟨v, hv⟩ := o105_any M (tx (M 37) n p)
      have k1 := b106_deep scr L F d I0 J M n p N o _ hE.1.2.1 rfl hE.2.2.1 (by omega) hE.2.2.2.1 v (hv scr L F d I0 J) (by omega) (by omega)
      exact hO_le (N := 100) (by omega) (q_f scr L F d I0 J M M N 0 (by omega) none k1)
  | succ e ih =>
    intro I M n p c N K o D y par hE hD hD0 hP hy
    have hc5 := hE.1.2.2.2.2.1.1
    have hpn0 := hE.1.2.2.2.1
    have hn := hE.1.1.2.2.1
    have hcN := hE.2.1
    by_cases hpn : p < n
    case neg =>
      have hT : M 37 = I 19 := hE.1.2.2.1
      have h0 : tx (M 37) n p = 0 := by simp [tx, hpn]
      refine .inl ⟨I, M, wF_refl I, wG_refl M, tyX_refl I M 5, fun scr L F d J M0 => ?_, fun scr L F d I0 J => ?_⟩
      · have k := c61_end scr L F (d + 39 + 3 * (e + 1)) I J M0 n p D y hE.1.1 (by omega) (by omega)
        rw [show d + 39 + 3 * (e + 1) + 1 = d + 40 + 3 * (e + 1) by omega] at k
        exact k
      · have kv := o105_bad scr L (F + 62800) (d + 27) I0 J M 0 (by unfold isD; decide) (by unfold isL; decide) (by decide) (by decide) (by decide) (by decide) (by decide) (by decide) (by decide) (by decide) (by decide) (by decide)
        rw [show F + 62800 + 200 = F + 63000 by omega, show d + 27 + 2 = d + 29 by omega] at kv
        have k1 := b106_bad scr L F d I0 J M n p N o 0 hE.1.2.1 h0 hE.2.2.1 (by omega) hE.2.2.2.1 kv
        exact hO_le (N := 100) (by omega) (q_f scr L F d I0 J M M N 0 (by omega) none k1)
    by_cases x40 : I 19 p = 40
    · exact ex_pair ih hE hD hD0 hP hy hpn x40
    by_cases x123 : I 19 p = 123
    · exact ex_op ih hE hD hD0 hP hy hpn x123
    by_cases x91 : I 19 p = 91
    · exact ex_ch ih hE hD hD0 hP hy hpn x91
    by_cases x64 : I 19 p = 64
    · exact ex_new ih hE hD hD0 hP hy hpn x64
    by_cases x33 : I 19 p = 33
    · exact ex_read ih hE hD hD0 hP hy hpn x33
    by_cases x36 : I 19 p = 36
    · exact ex_put ih hE hD hD0 hP hy hpn x36
    by_cases x60 : I 19 p = 60
    · exact ex_cast ih hE hD hD0 hP hy hpn x60
    by_cases x92 : I 19 p = 92
    · exact ex_fun ih hE hD hD0 hP hy hpn x92
    by_cases x84 : I 19 p = 84
    · exact ex_T hE hD hD0 hP hy hpn x84
    by_cases x70 : I 19 p = 70
    · exact ex_F hE hD hD0 hP hy hpn x70
    by_cases h1 : isD (I 19 p)
    · have h2 : ¬ isL (I 19 p) := by
        unfold isD at h1
        unfold isL
        intro h2
        have := Int32.le_trans h2.1 h1.2
        exact absurd this (by decide)
      by_cases z1 : isD (tx (I 19) n (p + 1))
      · by_cases z2 : isD (tx (I 19) n (p + 1 + 1))
        · exact ex_d2 hE hD hD0 hP hy hpn _ rfl x33 x36 x40 x60 x64 x91 x92 x123 x84 x70 h2 h1 z1 z2
        · exact ex_d1 hE hD hD0 hP hy hpn _ rfl x33 x36 x40 x60 x64 x91 x92 x123 x84 x70 h2 h1 z1 z2
      · exact ex_d0 hE hD hD0 hP hy hpn _ rfl x33 x36 x40 x60 x64 x91 x92 x123 x84 x70 h2 h1 z1
    by_cases h2 : isL (I 19 p)
    · exact ex_v hE hD hD0 hP hy hpn _ rfl x33 x36 x40 x60 x64 x91 x92 x123 x84 x70 h1 h2
    · exact ex_bad hE hD hD0 hP hy hpn _ rfl x33 x36 x40 x60 x64 x91 x92 x123 x84 x70 h1 h2
