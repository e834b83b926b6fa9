/-! Reading an expression: functions. -/
theorem ex_fun {e : Nat} (ih : eAll e) {I M : am_I} {n p c N K o D : Nat} {y par : Int32} (hE : rdE I M n p c N K o) (hD : D + (e + 1) = 21) (hD0 : D = o + 1) (hP : isP M o par) (hy : yp M N y par) (hpn : p < n) (hx : I 19 p = 92) : eFail (e + 1) I M N D y ∨ ∃ (I' M' : am_I) (p' c' N' K' : Nat), eGood (e + 1) I M n p c N K o D y par I' M' p' c' N' K' := by
  have hT : M 37 = I 19 := hE.1.2.2.1
  have hn100 := hE.1.1.2.2.1
  have htx : tx (M 37) n p = 92 := by
    rw [hT]
    simp [tx, hpn, hx]
  have hcN := hE.2.1
  have hc5 := hE.1.2.2.2.2.1.1
  have m0 := Mid_begin (v := 3) (y := y) (par := par) (num := 92) hE hpn (by omega)
  have i19 : (beI (adI I (p + 1)) p y) 19 = I 19 := by simp [beI, adI, va_up]
  have r0 : rdI (beI (adI I (p + 1)) p y) n (p + 1) := m0.1.1.1
  have r1 : rdM (bgM M N p 3 par 92) n (p + 1) := m0.1.1.2.1
  have m37 : (bgM M N p 3 par 92) 37 = I 19 := by
    rw [← hT]
    simp [bgM, wr, va_up]
  obtain ⟨w1, w2, w3⟩ := Mid_w m0
  obtain ⟨x, hxx⟩ : ∃ x, tx (I 19) n (p + 1) = x := ⟨_, rfl⟩
  have hxI : tx ((beI (adI I (p + 1)) p y) 19) n (p + 1) = x := by
    rw [i19]
    exact hxx
  have hxM : tx ((bgM M N p 3 par 92) 37) n (p + 1) = x := by
    rw [m37]
    exact hxx
  by_cases hl : isL x
  · have hp1 : p + 1 < n := tx_lt hxx (fun z => absurd (z ▸ hl) (by unfold isL; decide))
    by_cases s58 : tx (I 19) n (p + 1 + 1) = 58
    · have hp2 := tx_lt s58 (by decide)
      have s1 : stI (beI (adI I (p + 1)) p y) (adI (wr (wr (adI (beI (adI I (p + 1)) p y) (p + 1 + 1)) 7 p 3) 12 p x) (p + 1 + 1 + 1)) p := stI_trans (stI_ad (q := p + 1 + 1)) (stI_trans (stI_wr (by omega)) (stI_trans (stI_wr (by omega)) stI_ad))
      have s2 : stM (bgM M N p 3 par 92) (wr (wr (bgM M N p 3 par 92) 43 N x) 36 20 (nI (p + 1 + 2))) N := stM_trans (stM_wr (by omega)) (stM_ad (q := p + 1 + 2))
      have hX : tyX (beI (adI I (p + 1)) p y) (bgM M N p 3 par 92) (adI (wr (wr (adI (beI (adI I (p + 1)) p y) (p + 1 + 1)) 7 p 3) 12 p x) (p + 1 + 1 + 1)) (wr (wr (bgM M N p 3 par 92) 43 N x) 36 20 (nI (p + 1 + 2))) c := tyX_aI (tyX_wI (tyX_wI (tyX_aI (tyX_aM (q := p + 1 + 2) (tyX_wM (tyX_refl _ _ _) (by omega)))) (by omega)) (by omega))
      have m1 : Mid I M (adI (wr (wr (adI (beI (adI I (p + 1)) p y) (p + 1 + 1)) 7 p 3) 12 p x) (p + 1 + 1 + 1)) (wr (wr (bgM M N p 3 par 92) 43 N x) 36 20 (nI (p + 1 + 2))) n (p + 1 + 2) c (N + 1) K o o p N K c y par := Mid_step m0 (by
        have a1 := rdS_wM (x := 43) (s := N) (v := x) m0.1.1 (by omega)
        have a2 := rdS_ad a1 (q := p + 1 + 1) (by omega) (by omega)
        have a3 := rdS_wI (x := 12) (s := p) (v := x) (rdS_wI (x := 7) (s := p) (v := 3) a2 (by omega)) (by omega)
        have a4 := rdS_ad a3 (q := p + 1 + 2) (by omega) (by omega)
        have e1 : adM (adM (wr (bgM M N p 3 par 92) 43 N x) (p + 1 + 1)) (p + 1 + 2) = (wr (wr (bgM M N p 3 par 92) 43 N x) 36 20 (nI (p + 1 + 2))) := by
          funext k
          by_cases hk : k = 36
          · subst hk
            funext z
            by_cases hz : z = 20
            · subst hz
              simp [adM, wr, va_up, upd]
            · simp [adM, wr, va_up, upd, hz]
          · simp [adM, wr, va_up, hk]
        rw [e1] at a4
        exact a4) (by omega) (Nat.le_refl _) (by omega) hX s1 s2
      obtain ⟨v1, v2, v3⟩ := Mid_w m1
      rcases rd_ty (adI (wr (wr (adI (beI (adI I (p + 1)) p y) (p + 1 + 1)) 7 p 3) 12 p x) (p + 1 + 1 + 1)) (wr (wr (bgM M N p 3 par 92) 43 N x) 36 20 (nI (p + 1 + 2))) n (p + 1 + 2) c (D + 1) m1.1.1 (by omega) with ⟨I5, M5, f1, f2, f3, f4, f5⟩ | ⟨I5, M5, p5, c5, t, yD, yS, yp5, yc, ycp, yt, yh, yl, yX, yI, yM, yA, yB⟩
      · refine .inl ⟨wr I5 13 p (-1), M5, wF_trans v1 (wF_st (stI_trans (stI_fr f1) (stI_wr (s := p) (by omega)))), wG_trans v2 (wG_st (stM_fr (T := N) f2)), tyX_trans v3 (tyX_wI f3 (by omega)) (by omega), fun scr L F d J M0 => ?_, fun scr L F d I0 J => ?_⟩
        · have k1 := c73_f scr L F (d + 20 + 3 * e) (adI (wr (wr (adI (beI (adI I (p + 1)) p y) (p + 1 + 1)) 7 p 3) 12 p x) (p + 1 + 1 + 1)) J M0 p D (by omega) I5 (by rw [show d + 20 + 3 * e + 20 = d + 15 + 3 * e + 25 by omega]; exact f4 scr L F (d + 15 + 3 * e) J M0)
          have k2 := c65_f3 scr L F (d + 20 + 3 * e) (beI (adI I (p + 1)) p y) J M0 p D n (by omega) (p + 1) r0 x hxI hl hp1 (by rw [i19]; exact s58) _ k1
          have k3 := c61_fun_f scr L F (d + 13 + 3 * e) I J M0 n p D y hE.1.1 hpn (by omega) 92 hx rfl _ (by rw [show d + 13 + 3 * e + 29 = d + 20 + 3 * e + 22 by omega]; exact k2)
          rw [show d + 40 + 3 * (e + 1) = d + 13 + 3 * e + 30 by omega]
          exact k3
        · have kv := o105_fun scr L (F + 62800) (d + 27) I0 J M
          rw [show F + 62800 + 200 = F + 63000 by omega, show d + 27 + 2 = d + 29 by omega] at kv
          have k1 : am_r scr L (F + 63000) (d + 30) 106 [.ref 37] (hp I0 J M) = some (some (.int 0), hp I0 J M5, 0, 0) := by
            refine b106_pre scr L F d I0 J M n p N o 92 hE.1.2.1 htx hE.2.2.1 (by omega) hE.2.2.2.1 (by omega) par hP 3 kv (by decide) (by decide) (by decide) _ ?_
            refine hB_le (show 300 ≤ 62900 by omega) ?_
            exact b106_fu3 scr L F d I0 J (bgM M N p 3 par 92) n (p + 1) N o 92 x r1 (by omega) hxM hl (by rw [m37]; exact s58) m0.1.2.2.2.1 M5 (by rw [show o + 2 = D + 1 by omega, show d + 29 = d + 25 + 4 by omega]; exact f5 scr L F (d + 25) I0 J)
          exact hO_le (N := 100) (by omega) (q_f scr L F d I0 J M _ N 0 (by omega) none k1)
      have tc := yS.2.2.2.2.1.2.1
      have tn := yS.2.2.2.1
      have tt := tm_lt yt (by have := yS.2.2.2.2.1.1; omega)
      have hT5 : M5 37 = I5 19 := yS.2.2.1
      have r5 : rdI (wr I5 13 p (nI (tm t))) n p5 := rdI_wr yS.1 (by omega)
      have i5 : wr I5 13 p (nI (tm t)) 19 = I5 19 := wr_ne _ _ _ _ _ (by omega)
      have kt2 : ∀ (scr : Nat → Int32) (L F d : Nat) (J : am_J) (M0 : am_I), am_r scr L (F + 63000) (d + 20 + 3 * e + 21) 73 [.ref 19, .int (nI p), .int (nI D)] (hp (adI (wr (wr (adI (beI (adI I (p + 1)) p y) (p + 1 + 1)) 7 p 3) 12 p x) (p + 1 + 1 + 1)) J M0) = some (some (.int 1), hp (wr I5 13 p (nI (tm t))) J M0, 0, 0) := fun scr L F d J M0 => c73_g scr L F (d + 20 + 3 * e) (adI (wr (wr (adI (beI (adI I (p + 1)) p y) (p + 1 + 1)) 7 p 3) 12 p x) (p + 1 + 1 + 1)) J M0 p D (tm t) (by omega) (by omega) I5 (by rw [show d + 20 + 3 * e + 20 = d + 15 + 3 * e + 25 by omega]; exact yA scr L F (d + 15 + 3 * e) J M0)
      by_cases s46 : tx (I5 19) n p5 = 46
      · have hp5 := tx_lt s46 (by decide)
        have cM : tx (M5 37) n p5 = 46 := by
          rw [hT5]
          exact s46
        have s3 : stI (adI (wr (wr (adI (beI (adI I (p + 1)) p y) (p + 1 + 1)) 7 p 3) 12 p x) (p + 1 + 1 + 1)) (adI (wr I5 13 p (nI (tm t))) (p5 + 1)) p := stI_trans (stI_fr yI) (stI_trans (stI_wr (by omega)) stI_ad)
        have s4 : stM (wr (wr (bgM M N p 3 par 92) 43 N x) 36 20 (nI (p + 1 + 2))) (wr (adM M5 (p5 + 1)) 44 N (nI t)) N := stM_trans (stM_fr yM) (stM_trans stM_ad (stM_wr (by omega)))
        have hX5 : tyX (adI (wr (wr (adI (beI (adI I (p + 1)) p y) (p + 1 + 1)) 7 p 3) 12 p x) (p + 1 + 1 + 1)) (wr (wr (bgM M N p 3 par 92) 43 N x) 36 20 (nI (p + 1 + 2))) (adI (wr I5 13 p (nI (tm t))) (p5 + 1)) (wr (adM M5 (p5 + 1)) 44 N (nI t)) c := tyX_aI (tyX_wI (tyX_wM (tyX_aM yX) (by omega)) (by omega))
        have m2a : Mid I M (adI (wr I5 13 p (nI (tm t))) (p5 + 1)) (wr (adM M5 (p5 + 1)) 44 N (nI t)) n (p5 + 1) c5 (N + 1) K o o p N K c y par := Mid_step m1 (rdS_wM (rdS_ad (rdS_wI yS (by omega)) (by omega) (by omega)) (by omega)) (by omega) yc (by omega) hX5 s3 s4
        have m2 := Mid_open m2a (by omega)
        have ho5 : M5 36 21 = nI o := by
          rw [yM.2 21 (by omega) (by omega) (by omega), wr_n2 _ _ _ _ _ (by omega), wr_ap _ _ _ _ _ _ (by omega)]
          exact m0.1.2.2.2.1
        have BG : ∀ (scr : Nat → Int32) (L F d : Nat) (I0 : am_I) (J : am_J), am_r scr L (F + 63000) (d + 30) 106 [.ref 37] (hp I0 J M) = some (some (.int 1), hp I0 J (wr (wr (wr (adM M5 (p5 + 1)) 44 N (nI t)) 51 o (nI N)) 36 21 (nI (o + 1))), 0, 0) := by
          intro scr L F d I0 J
          have kv := o105_fun scr L (F + 62800) (d + 27) I0 J M
          rw [show F + 62800 + 200 = F + 63000 by omega, show d + 27 + 2 = d + 29 by omega] at kv
          have k1 : am_r scr L (F + 63000) (d + 30) 106 [.ref 37] (hp I0 J M) = some (some (.int 1), hp I0 J (wr (wr (wr (adM M5 (p5 + 1)) 44 N (nI t)) 51 o (nI N)) 36 21 (nI (o + 1))), 0, 0) := by
            refine b106_pre scr L F d I0 J M n p N o 92 hE.1.2.1 htx hE.2.2.1 (by omega) hE.2.2.2.1 (by omega) par hP 3 kv (by decide) (by decide) (by decide) _ ?_
            refine hB_le (show 300 ≤ 62900 by omega) ?_
            exact b106_fu5 scr L F d I0 J (bgM M N p 3 par 92) n (p + 1) N o 92 x r1 (by omega) hxM hl (by rw [m37]; exact s58) m0.1.2.2.2.1 M5 t p5 (by omega) yS.2.1 (by rw [show o + 2 = D + 1 by omega, show d + 29 = d + 25 + 4 by omega]; exact yB scr L F (d + 25) I0 J) cM ho5 (by omega)
          exact k1
        have b41 : (bgM M N p 3 par 92) 41 N = 3 := by simp [bgM, wr, va_up, upd]
        have b49 : (bgM M N p 3 par 92) 49 N = 0 := by simp [bgM, wr, va_up, upd]
        have eM : ∀ x', ¬ x' = 36 → ¬ x' = 44 → ¬ x' = 38 → ¬ x' = 39 → ¬ x' = 40 → ¬ x' = 52 → ¬ x' = 51 → ∀ m, wr (wr (wr (adM M5 (p5 + 1)) 44 N (nI t)) 51 o (nI N)) 36 21 (nI (o + 1)) x' m = (wr (wr (bgM M N p 3 par 92) 43 N x) 36 20 (nI (p + 1 + 2))) x' m := by
          intro x' w1 w2 w3 w4 w5 w6 w7 m
          rw [wr_ap _ _ _ _ _ _ w1, wr_ap _ _ _ _ _ _ w7, wr_ap _ _ _ _ _ _ w2, adM_ne _ _ x' w1, yM.1 x' w1 w3 w4 w5 w6]
        have q41 : wr (wr (wr (adM M5 (p5 + 1)) 44 N (nI t)) 51 o (nI N)) 36 21 (nI (o + 1)) 41 N = 3 := by
          rw [eM 41 (by omega) (by omega) (by omega) (by omega) (by omega) (by omega) (by omega), wr_ap _ _ _ _ _ _ (by omega), wr_ap _ _ _ _ _ _ (by omega)]
          exact b41
        have q49 : wr (wr (wr (adM M5 (p5 + 1)) 44 N (nI t)) 51 o (nI N)) 36 21 (nI (o + 1)) 49 N = 0 := by
          rw [eM 49 (by omega) (by omega) (by omega) (by omega) (by omega) (by omega) (by omega), wr_ap _ _ _ _ _ _ (by omega), wr_ap _ _ _ _ _ _ (by omega)]
          exact b49
        have q43 : wr (wr (wr (adM M5 (p5 + 1)) 44 N (nI t)) 51 o (nI N)) 36 21 (nI (o + 1)) 43 N = x := by
          rw [eM 43 (by omega) (by omega) (by omega) (by omega) (by omega) (by omega) (by omega), wr_ap _ _ _ _ _ _ (by omega), wr_s]
        have q44 : wr (wr (wr (adM M5 (p5 + 1)) 44 N (nI t)) 51 o (nI N)) 36 21 (nI (o + 1)) 44 N = nI t := by
          rw [wr_ap _ _ _ _ _ _ (by omega), wr_ap _ _ _ _ _ _ (by omega), wr_s]
        have eI : ∀ x', ¬ x' = 18 → ¬ x' = 13 → ¬ x' = 2 → ¬ x' = 3 → ¬ x' = 4 → ¬ x' = 5 → ¬ x' = 6 → adI (wr I5 13 p (nI (tm t))) (p5 + 1) x' = (adI (wr (wr (adI (beI (adI I (p + 1)) p y) (p + 1 + 1)) 7 p 3) 12 p x) (p + 1 + 1 + 1)) x' := by
          intro x' w1 w2 w3 w4 w5 w6 w7
          rw [adI_ne _ _ x' w1, wr_ne _ _ _ _ _ w2, yI x' w3 w4 w5 w6 w7 w1]
        have q7 : adI (wr I5 13 p (nI (tm t))) (p5 + 1) 7 p = 3 := by
          rw [eI 7 (by omega) (by omega) (by omega) (by omega) (by omega) (by omega) (by omega), adI_ne _ _ 7 (by omega), wr_ap _ _ _ _ _ _ (by omega), wr_s]
        have q12 : adI (wr I5 13 p (nI (tm t))) (p5 + 1) 12 p = x := by
          rw [eI 12 (by omega) (by omega) (by omega) (by omega) (by omega) (by omega) (by omega), adI_ne _ _ 12 (by omega), wr_s]
        have q13 : adI (wr I5 13 p (nI (tm t))) (p5 + 1) 13 p = nI (tm t) := by
          rw [adI_ne _ _ 13 (by omega), wr_s]
        have q6 : adI (wr I5 13 p (nI (tm t))) (p5 + 1) 6 (tm t) = nI (p5 - (p + 1 + 2)) := by
          rw [adI_ne _ _ 6 (by omega), wr_ap _ _ _ _ _ _ (by omega)]
          exact yl
        have qh : hb (wr (wr (wr (adM M5 (p5 + 1)) 44 N (nI t)) 51 o (nI N)) 36 21 (nI (o + 1))) 19 t := hb_eq (M := M5) (by rw [wr_ne _ _ _ _ _ (by omega), wr_ne _ _ _ _ _ (by omega), wr_ne _ _ _ _ _ (by omega), adM_ne _ _ 38 (by omega)]) (by rw [wr_ne _ _ _ _ _ (by omega), wr_ne _ _ _ _ _ (by omega), wr_ne _ _ _ _ _ (by omega), adM_ne _ _ 39 (by omega)]) (by rw [wr_ne _ _ _ _ _ (by omega), wr_ne _ _ _ _ _ (by omega), wr_ne _ _ _ _ _ (by omega), adM_ne _ _ 40 (by omega)]) (hb_le (by omega) yh)
        obtain ⟨v4, v5, v6⟩ := Mid_w m2
        rcases ih _ _ n (p5 + 1) c5 (N + 1) K (o + 1) (D + 1) (nI p) (nI N) m2.1 (by omega) (by omega) (.inr ⟨o, rfl, m2.2.2.2.1 rfl⟩) (.inr ⟨N, by omega, rfl, m2.2.2.2.2.1.symm⟩) with ⟨I3, M3, f1, f2, f3, f4, f5⟩ | ⟨I3, M3, p3, c3, N3, K3, g, gA, gB⟩
        · refine .inl ⟨wr I3 9 p (-1), M3, wF_trans v4 (wF_trans f1 (wF_st (stI_wr (s := p) (by omega)))), wG_trans v5 f2, tyX_trans v6 (tyX_wI f3 (by omega)) (by omega), fun scr L F d J M0 => ?_, fun scr L F d I0 J => ?_⟩
          · have k1 := c71_f scr L F (d + 20 + 3 * e) (adI (wr I5 13 p (nI (tm t))) (p5 + 1)) J M0 p D (by omega) I3 (by rw [show d + 20 + 3 * e + 20 = d + 40 + 3 * e by omega]; exact f4 scr L F d J M0)
            have k2 := c65_f5 scr L F (d + 20 + 3 * e) (beI (adI I (p + 1)) p y) J M0 p D n (by omega) (p + 1) r0 x hxI hl hp1 (by rw [i19]; exact s58) _ (kt2 scr L F d J M0) p5 r5 (by rw [i5]; exact s46) _ k1
            have k3 := c61_fun_f scr L F (d + 13 + 3 * e) I J M0 n p D y hE.1.1 hpn (by omega) 92 hx rfl _ (by rw [show d + 13 + 3 * e + 29 = d + 20 + 3 * e + 22 by omega]; exact k2)
            rw [show d + 40 + 3 * (e + 1) = d + 13 + 3 * e + 30 by omega]
            exact k3
          · refine hO_le (N := 400 * (101 - (N + 1)) + 400 + 100) (by omega) ?_
            exact q_open scr L F d I0 J M _ N _ (by omega) _ (BG scr L F d I0 J) o hE.2.2.2.1 (wr_s _ _ _ _) (by omega) (f5 scr L F d I0 J)
        have m3 := Mid_part m2 g
        have t3 := pt_new (by omega) g
        obtain ⟨u1, u2, u3, u4, u5, u6, u7⟩ := part_f g
        have gp := g.2.1
        have gN := g.2.2.1
        have gc := g.2.2.2.2.1
        have gX := g.2.2.2.2.2.1
        have x41 := (u2 41 N (by omega) (by omega) (by omega)).trans q41
        have x43 := (u2 43 N (by omega) (by omega) (by omega)).trans q43
        have x44 := (u2 44 N (by omega) (by omega) (by omega)).trans q44
        have x49 := (u2 49 N (by omega) (by omega) (by omega)).trans q49
        have x7 := (u1 7 p (by omega) (by omega) (by omega)).trans q7
        have x12 := (u1 12 p (by omega) (by omega) (by omega)).trans q12
        have x13 := (u1 13 p (by omega) (by omega) (by omega)).trans q13
        have x6 := ((gX (tm t) (by omega)).2.2.2.2).trans q6
        have xh := hb_X (c := c5) (fun t ht => (gX t ht).1) yt qh
        have s5 : stI I3 (wr I3 9 p (nI (p5 + 1))) p := stI_wr (by omega)
        have s6 : stM M3 (wr (wr M3 49 N 1) 46 N (nI (N + 1))) N := stM_trans (stM_wr (by omega)) (stM_wr (by omega))
        have hX6 : tyX I3 M3 (wr I3 9 p (nI (p5 + 1))) (wr (wr M3 49 N 1) 46 N (nI (N + 1))) c3 := tyX_wI (tyX_wM (tyX_wM (tyX_refl _ _ _) (by omega)) (by omega)) (by omega)
        have m4 := Mid_step m3 (rdS_wI (x := 9) (s := p) (v := nI (p5 + 1)) (rdS_wM (x := 46) (s := N) (v := nI (N + 1)) (rdS_wM (x := 49) (s := N) (v := 1) m3.1.1 (by omega)) (by omega)) (by omega)) (by omega) (by omega) m3.1.2.1 hX6 s5 s6
        have t4 := pt_X t3 (st_ag (p := p3) (K0 := K) (K := K3) s5 s6) hX6 (by omega) (Nat.le_refl _) (Nat.le_refl _)
        have z41 : wr (wr M3 49 N 1) 46 N (nI (N + 1)) 41 N = 3 := by
          rw [wr_q _ _ _ _ _ _ (by omega), wr_q _ _ _ _ _ _ (by omega)]
          exact x41
        have z43 : wr (wr M3 49 N 1) 46 N (nI (N + 1)) 43 N = x := by
          rw [wr_q _ _ _ _ _ _ (by omega), wr_q _ _ _ _ _ _ (by omega)]
          exact x43
        have z44 : wr (wr M3 49 N 1) 46 N (nI (N + 1)) 44 N = nI t := by
          rw [wr_q _ _ _ _ _ _ (by omega), wr_q _ _ _ _ _ _ (by omega)]
          exact x44
        have z42 : wr (wr M3 49 N 1) 46 N (nI (N + 1)) 42 (N + 1) = nI (p5 + 1) := by
          rw [wr_q _ _ _ _ _ _ (by omega), wr_q _ _ _ _ _ _ (by omega)]
          exact g.2.2.2.2.2.2.2.2.2.1
        have z7 : wr I3 9 p (nI (p5 + 1)) 7 p = 3 := (wr_q _ _ _ _ _ _ (by omega)).trans x7
        have z12 : wr I3 9 p (nI (p5 + 1)) 12 p = x := (wr_q _ _ _ _ _ _ (by omega)).trans x12
        have z13 : wr I3 9 p (nI (p5 + 1)) 13 p = nI (tm t) := (wr_q _ _ _ _ _ _ (by omega)).trans x13
        have z6 : wr I3 9 p (nI (p5 + 1)) 6 (tm t) = nI (p5 - (p + 1 + 2)) := (wr_q _ _ _ _ _ _ (by omega)).trans x6
        have zh : hb (wr (wr M3 49 N 1) 46 N (nI (N + 1))) 19 t := hb_eq (M := M3) (by rw [wr_ne _ _ _ _ _ (by omega), wr_ne _ _ _ _ _ (by omega)]) (by rw [wr_ne _ _ _ _ _ (by omega), wr_ne _ _ _ _ _ (by omega)]) (by rw [wr_ne _ _ _ _ _ (by omega), wr_ne _ _ _ _ _ (by omega)]) xh
        have hnd : nd (wr I3 9 p (nI (p5 + 1))) (wr (wr M3 49 N 1) 46 N (nI (N + 1))) N3 c3 N := nd_mk m4 hy 3 z41 z7 (by omega) (fun _ => z12.trans z43.symm) (fun z => by omega) (fun _ => by rw [z43]; exact hl) (fun _ => ⟨t, p5 - (p + 1 + 2), by omega, z44, z13, zh, z6, by omega⟩) (fun _ => ⟨N + 1, p5 + 1, by omega, t4.2.1, wr_s _ _ _ _, z42, wr_s _ _ _ _, t4.2.2.2.1⟩) (fun z => by omega) (fun z => by omega)
        have htw : tw (wr I3 9 p (nI (p5 + 1))) (wr (wr M3 49 N 1) 46 N (nI (N + 1))) N3 c3 (e + 1) (p3 - p) N := ⟨by omega, by omega, 3, z41, by omega, fun _ => ⟨N + 1, t, p5 - (p + 1 + 2), p3 - (p5 + 1), wr_s _ _ _ _, by omega, t4.2.2.2.2, z44, by omega, z6, by omega, by omega⟩, fun z => by omega, fun z => by omega, fun z => by omega⟩
        refine .inr ⟨_, _, p3, c3, N3, K3 + 1, close_w m4 hnd htw (by omega) (dn_1 (o := 3) z41 (by omega) (by omega)), fun scr L F d J M0 => ?_, fun scr L F d I0 J n0 R key => ?_⟩
        · have k1 := c71_g scr L F (d + 20 + 3 * e) (adI (wr I5 13 p (nI (tm t))) (p5 + 1)) J M0 p D (p5 + 1) (by omega) (by omega) I3 (by rw [show d + 20 + 3 * e + 20 = d + 40 + 3 * e by omega]; exact gA scr L F d J M0)
          have k2 := c65_g scr L F (d + 20 + 3 * e) (beI (adI I (p + 1)) p y) J M0 p D n (by omega) (p + 1) r0 x hxI hl hp1 (by rw [i19]; exact s58) _ (kt2 scr L F d J M0) p5 r5 (by rw [i5]; exact s46) _ k1
          have k3 := c61_fun_g scr L F (d + 13 + 3 * e) I J M0 n p D y hE.1.1 hpn (by omega) 92 hx rfl _ K3 m4.1.2.2.2.2.2.1 (by have := m4.2.2.1; omega) (by rw [show d + 13 + 3 * e + 29 = d + 20 + 3 * e + 22 by omega]; exact k2)
          rw [show d + 40 + 3 * (e + 1) = d + 13 + 3 * e + 30 by omega]
          exact k3
        · refine hO_le (N := (n0 + 100) + 100 * (2 * (N3 - (N + 1)) - 1) + 100) (by omega) ?_
          refine q_open scr L F d I0 J M _ N _ (by omega) _ (BG scr L F d I0 J) o hE.2.2.2.1 (wr_s _ _ _ _) (by omega) ?_
          refine gB scr L F d I0 J _ _ ?_
          have k2 := g107_fun scr L F d I0 J M3 n p3 N (nI (N + 1)) m3.1.1.2.1 (by omega) x49 x41
          exact q_gw scr L F d I0 J M3 _ (N3 - 1) n0 (N + 1) (by omega) R o N m3.1.2.2.2.1 (by omega) (m3.2.2.2.1 rfl) (by omega) k2 m4.1.2.2.2.1 3 1 z41 (by rw [wr_q _ _ _ _ _ _ (by omega), wr_s]) (by decide) K3 m4.1.2.2.2.2.2.2.1 (by have := m4.2.2.1; omega) key
      · refine .inl ⟨wr I5 13 p (nI (tm t)), M5, wF_trans v1 (wF_st (stI_trans (stI_fr yI) (stI_wr (s := p) (by omega)))), wG_trans v2 (wG_st (stM_fr (T := N) yM)), tyX_trans v3 (tyX_wI (tyX_le yX hc5) (by omega)) (by omega), fun scr L F d J M0 => ?_, fun scr L F d I0 J => ?_⟩
        · have k2 := c65_f4 scr L F (d + 20 + 3 * e) (beI (adI I (p + 1)) p y) J M0 p D n (by omega) (p + 1) r0 x hxI hl hp1 (by rw [i19]; exact s58) _ (kt2 scr L F d J M0) p5 r5 (by rw [i5]; exact s46)
          have k3 := c61_fun_f scr L F (d + 13 + 3 * e) I J M0 n p D y hE.1.1 hpn (by omega) 92 hx rfl _ (by rw [show d + 13 + 3 * e + 29 = d + 20 + 3 * e + 22 by omega]; exact k2)
          rw [show d + 40 + 3 * (e + 1) = d + 13 + 3 * e + 30 by omega]
          exact k3
        · have kv := o105_fun scr L (F + 62800) (d + 27) I0 J M
          rw [show F + 62800 + 200 = F + 63000 by omega, show d + 27 + 2 = d + 29 by omega] at kv
          have k1 : am_r scr L (F + 63000) (d + 30) 106 [.ref 37] (hp I0 J M) = some (some (.int 0), hp I0 J M5, 0, 0) := by
            refine b106_pre scr L F d I0 J M n p N o 92 hE.1.2.1 htx hE.2.2.1 (by omega) hE.2.2.2.1 (by omega) par hP 3 kv (by decide) (by decide) (by decide) _ ?_
            refine hB_le (show 300 ≤ 62900 by omega) ?_
            exact b106_fu4 scr L F d I0 J (bgM M N p 3 par 92) n (p + 1) N o 92 x r1 (by omega) hxM hl (by rw [m37]; exact s58) m0.1.2.2.2.1 M5 t p5 (by omega) yS.2.1 (by rw [show o + 2 = D + 1 by omega, show d + 29 = d + 25 + 4 by omega]; exact yB scr L F (d + 25) I0 J) (by rw [hT5]; exact s46)
          exact hO_le (N := 100) (by omega) (q_f scr L F d I0 J M _ N 0 (by omega) none k1)
    · refine .inl ⟨wr (wr (adI (beI (adI I (p + 1)) p y) (p + 1 + 1)) 7 p 3) 12 p x, (wr (wr (bgM M N p 3 par 92) 43 N x) 36 20 (nI (p + 1 + 2))), wF_trans w1 (wF_st (stI_trans (stI_ad (q := p + 1 + 1)) (stI_trans (stI_wr (s := p) (by omega)) (stI_wr (by omega))))), wG_trans w2 (wG_st (stM_trans (stM_wr (T := N) (by omega)) (stM_ad (q := p + 1 + 2)))), tyX_wI (tyX_wI (tyX_aI (tyX_aM (q := p + 1 + 2) (tyX_wM w3 (by omega)))) (by omega)) (by omega), fun scr L F d J M0 => ?_, fun scr L F d I0 J => ?_⟩
      · have k2 := c65_f2 scr L F (d + 20 + 3 * e) (beI (adI I (p + 1)) p y) J M0 p D n (by omega) (p + 1) r0 x hxI hl hp1 (by rw [i19]; exact s58)
        have k3 := c61_fun_f scr L F (d + 13 + 3 * e) I J M0 n p D y hE.1.1 hpn (by omega) 92 hx rfl _ (by rw [show d + 13 + 3 * e + 29 = d + 20 + 3 * e + 22 by omega]; exact k2)
        rw [show d + 40 + 3 * (e + 1) = d + 13 + 3 * e + 30 by omega]
        exact k3
      · have kv := o105_fun scr L (F + 62800) (d + 27) I0 J M
        rw [show F + 62800 + 200 = F + 63000 by omega, show d + 27 + 2 = d + 29 by omega] at kv
        have k1 : am_r scr L (F + 63000) (d + 30) 106 [.ref 37] (hp I0 J M) = some (some (.int 0), hp I0 J (wr (wr (bgM M N p 3 par 92) 43 N x) 36 20 (nI (p + 1 + 2))), 0, 0) := by
          refine b106_pre scr L F d I0 J M n p N o 92 hE.1.2.1 htx hE.2.2.1 (by omega) hE.2.2.2.1 (by omega) par hP 3 kv (by decide) (by decide) (by decide) _ ?_
          refine hB_le (show 300 ≤ 62900 by omega) ?_
          exact b106_fu2 scr L F d I0 J (bgM M N p 3 par 92) n (p + 1) N o 92 x r1 (by omega) hxM hl (by rw [m37]; exact s58)
        exact hO_le (N := 100) (by omega) (q_f scr L F d I0 J M _ N 0 (by omega) none k1)
  · refine .inl ⟨(beI (adI I (p + 1)) p y), (wr (wr (bgM M N p 3 par 92) 43 N x) 36 20 (nI (p + 1 + 2))), w1, wG_trans w2 (wG_st (stM_trans (stM_wr (T := N) (by omega)) (stM_ad (q := p + 1 + 2)))), tyX_aM (q := p + 1 + 2) (tyX_wM w3 (by omega)), fun scr L F d J M0 => ?_, fun scr L F d I0 J => ?_⟩
    · have k2 := c65_f1 scr L F (d + 20 + 3 * e) (beI (adI I (p + 1)) p y) J M0 p D n (by omega) (p + 1) r0 x hxI hl
      have k3 := c61_fun_f scr L F (d + 13 + 3 * e) I J M0 n p D y hE.1.1 hpn (by omega) 92 hx rfl _ (by rw [show d + 13 + 3 * e + 29 = d + 20 + 3 * e + 22 by omega]; exact k2)
      rw [show d + 40 + 3 * (e + 1) = d + 13 + 3 * e + 30 by omega]
      exact k3
    · have kv := o105_fun scr L (F + 62800) (d + 27) I0 J M
      rw [show F + 62800 + 200 = F + 63000 by omega, show d + 27 + 2 = d + 29 by omega] at kv
      have k1 : am_r scr L (F + 63000) (d + 30) 106 [.ref 37] (hp I0 J M) = some (some (.int 0), hp I0 J (wr (wr (bgM M N p 3 par 92) 43 N x) 36 20 (nI (p + 1 + 2))), 0, 0) := by
        refine b106_pre scr L F d I0 J M n p N o 92 hE.1.2.1 htx hE.2.2.1 (by omega) hE.2.2.2.1 (by omega) par hP 3 kv (by decide) (by decide) (by decide) _ ?_
        refine hB_le (show 300 ≤ 62900 by omega) ?_
        exact b106_fu1 scr L F d I0 J (bgM M N p 3 par 92) n (p + 1) N o 92 x r1 (by omega) hxM hl
      exact hO_le (N := 100) (by omega) (q_f scr L F d I0 J M _ N 0 (by omega) none k1)

