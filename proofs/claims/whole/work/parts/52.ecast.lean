/-! Reading an expression: casts, choices, functions. -/
theorem hb_eq {M M' : am_I} {k t : Nat} (h1 : M' 38 = M 38) (h2 : M' 39 = M 39) (h3 : M' 40 = M 40) (h : hb M k t) : hb M' k t := hb_X (c := t + 1) (fun _ _ => by rw [h1, h2, h3]; exact ⟨rfl, rfl, rfl⟩) (by omega) h
theorem ex_cast {e : Nat} (ih : eAll e) {I M : am_I} {n p c N K o D : Nat} {y par : Int32} (hE : rdE I M n p c N K o) (hD : D + (e + 1) = 21) (hD0 : D = o + 1) (hP : isP M o par) (hy : yp M N y par) (hpn : p < n) (hx : I 19 p = 60) : eFail (e + 1) I M N D y ∨ ∃ (I' M' : am_I) (p' c' N' K' : Nat), eGood (e + 1) I M n p c N K o D y par I' M' p' c' N' K' := by
  have hT : M 37 = I 19 := hE.1.2.2.1
  have hn100 := hE.1.1.2.2.1
  have htx : tx (M 37) n p = 60 := by
    rw [hT]
    simp [tx, hpn, hx]
  have hcN := hE.2.1
  have hc5 := hE.1.2.2.2.2.1.1
  have m0 := Mid_begin (v := 12) (y := y) (par := par) (num := 60) hE hpn (by omega)
  have m1 := Mid_step m0 (rdS_wI (x := 7) (s := p) (v := 12) m0.1.1 (by omega)) (by omega) (by omega) m0.1.2.1 (tyX_wI (tyX_refl _ _ _) (by omega)) (stI_wr (by omega)) (stM_refl _ _)
  have m2 := Mid_open m1 (by omega)
  have q41 : wr (wr (bgM M N p 12 par 60) 51 o (nI N)) 36 21 (nI (o + 1)) 41 N = 12 := by simp [bgM, wr, va_up, upd]
  have q49 : wr (wr (bgM M N p 12 par 60) 51 o (nI N)) 36 21 (nI (o + 1)) 49 N = 0 := by simp [bgM, wr, va_up, upd]
  rcases ih _ _ n (p + 1) c (N + 1) K (o + 1) (D + 1) (nI p) (nI N) m2.1 (by omega) (by omega) (.inr ⟨o, rfl, m2.2.2.2.1 rfl⟩) (.inr ⟨N, by omega, rfl, m2.2.2.2.2.1.symm⟩) with ⟨I3, M3, f1, f2, f3, f4, f5⟩ | ⟨I3, M3, p3, c3, N3, K3, g, gA, gB⟩
  · obtain ⟨w1, w2, w3⟩ := Mid_w m2
    refine .inl ⟨wr I3 9 p (-1), M3, wF_trans w1 (wF_trans f1 (wF_st (stI_wr (s := p) (by omega)))), wG_trans w2 f2, tyX_trans w3 (tyX_wI f3 (by omega)) (by omega), fun scr L F d J M0 => ?_, fun scr L F d I0 J => ?_⟩
    · have k1 := c71_f scr L F (d + 20 + 3 * e) ((wr (beI (adI I (p + 1)) p y) 7 p 12)) J M0 p D (by omega) I3 (by rw [show d + 20 + 3 * e + 20 = d + 40 + 3 * e by omega]; exact f4 scr L F d J M0)
      have k2 := c69_f1 scr L F (d + 20 + 3 * e) (beI (adI I (p + 1)) p y) J M0 p D n (by omega) _ k1
      have k3 := c61_cast_f scr L F (d + 13 + 3 * e) I J M0 n p D y hE.1.1 hpn (by omega) 60 hx rfl _ (by rw [show d + 13 + 3 * e + 29 = d + 20 + 3 * e + 22 by omega]; exact k2)
      rw [show d + 40 + 3 * (e + 1) = d + 13 + 3 * e + 30 by omega]
      exact k3
    · have k1 := b106_cast scr L F d I0 J M n p N o 60 hE.1.2.1 htx hE.2.2.1 (by omega) hE.2.2.2.1 (by omega) par hP rfl
      refine hO_le (N := 400 * (101 - (N + 1)) + 400 + 100) (by omega) ?_
      exact q_open scr L F d I0 J M _ N _ (by omega) _ k1 o hE.2.2.2.1 (wr_s _ _ _ _) (by omega) (f5 scr L F d I0 J)
  have m3 := Mid_part m2 g
  have t3 := pt_new (by omega) g
  obtain ⟨u1, u2, u3, u4, u5, u6, u7⟩ := part_f g
  have gp := g.2.1
  have gN := g.2.2.1
  have x41 := (u2 41 N (by omega) (by omega) (by omega)).trans q41
  have x49 := (u2 49 N (by omega) (by omega) (by omega)).trans q49
  have x7 := (u1 7 p (by omega) (by omega) (by omega)).trans (wr_s _ _ _ _)
  have g42 : M3 42 (N + 1) = nI (p + 1) := g.2.2.2.2.2.2.2.2.2.1
  have hT3 : M3 37 = I3 19 := m3.1.1.2.2.1
  have r3 : rdI (wr I3 9 p (nI (p + 1))) n p3 := rdI_wr m3.1.1.1 (by omega)
  have i3 : wr I3 9 p (nI (p + 1)) 19 = I3 19 := wr_ne _ _ _ _ _ (by omega)
  have ka : ∀ (scr : Nat → Int32) (L F d : Nat) (J : am_J) (M0 : am_I), am_r scr L (F + 63000) (d + 20 + 3 * e + 21) 71 [.ref 19, .int (nI p), .int (nI D)] (hp (wr (beI (adI I (p + 1)) p y) 7 p 12) J M0) = some (some (.int 1), hp (wr I3 9 p (nI (p + 1))) J M0, 0, 0) := fun scr L F d J M0 => c71_g scr L F (d + 20 + 3 * e) (wr (beI (adI I (p + 1)) p y) 7 p 12) J M0 p D (p + 1) (by omega) (by omega) I3 (by rw [show d + 20 + 3 * e + 20 = d + 40 + 3 * e by omega]; exact gA scr L F d J M0)
  have ch1 : ∀ (scr : Nat → Int32) (L F d : Nat) (I0 : am_I) (J : am_J) (n0 : Nat) (R : Option am_X), hC scr L F d I0 J n0 (N3 - 1) (N + 1) M3 R → hO scr L F d I0 J (n0 + 100 * (2 * (N3 - (N + 1)) - 1) + 100) N M R := by
    intro scr L F d I0 J n0 R key
    have k1 := b106_cast scr L F d I0 J M n p N o 60 hE.1.2.1 htx hE.2.2.1 (by omega) hE.2.2.2.1 (by omega) par hP rfl
    refine q_open scr L F d I0 J M _ N _ (by omega) _ k1 o hE.2.2.2.1 (wr_s _ _ _ _) (by omega) ?_
    exact gB scr L F d I0 J _ _ key
  obtain ⟨v1, v2, v3⟩ := Mid_w m3
  by_cases s58 : tx (I3 19) n p3 = 58
  · have hp3 := tx_lt s58 (by decide)
    have sM : tx (M3 37) n p3 = 58 := by
      rw [hT3]
      exact s58
    have s1 : stI I3 (adI (wr I3 9 p (nI (p + 1))) (p3 + 1)) p := stI_trans (stI_wr (by omega)) stI_ad
    have s2 : stM M3 (adM (wr (wr M3 49 N 1) 46 N (nI (N + 1))) (p3 + 1)) N := stM_trans (stM_wr (by omega)) (stM_trans (stM_wr (by omega)) stM_ad)
    have hX : tyX I3 M3 (adI (wr I3 9 p (nI (p + 1))) (p3 + 1)) (adM (wr (wr M3 49 N 1) 46 N (nI (N + 1))) (p3 + 1)) c3 := tyX_aI (tyX_wI (tyX_aM (tyX_wM (tyX_wM (tyX_refl _ _ _) (by omega)) (by omega))) (by omega))
    have m4 : Mid I M (adI (wr I3 9 p (nI (p + 1))) (p3 + 1)) (adM (wr (wr M3 49 N 1) 46 N (nI (N + 1))) (p3 + 1)) n (p3 + 1) c3 N3 K3 (o + 1) o p N K c y par := Mid_step m3 (rdS_ad (rdS_wI (rdS_wM (rdS_wM m3.1.1 (by omega)) (by omega)) (by omega)) (by omega) (by omega)) (by omega) (by omega) (by have := m3.1.2.1; omega) hX s1 s2
    have t4 := pt_X t3 (st_ag (p := p3) (K0 := K) (K := K3) s1 s2) hX (by omega) (Nat.le_refl _) (Nat.le_refl _)
    obtain ⟨v4, v5, v6⟩ := Mid_w m4
    rcases rd_ty (adI (wr I3 9 p (nI (p + 1))) (p3 + 1)) (adM (wr (wr M3 49 N 1) 46 N (nI (N + 1))) (p3 + 1)) n (p3 + 1) c3 (D + 1) m4.1.1 (by omega) with ⟨I5, M5, f1, f2, f3, f4, f5⟩ | ⟨I5, M5, p5, c5, t, yD, yS, yp5, yc, ycp, yt, yh, yl, yX, yI, yM, yA, yB⟩
    · refine .inl ⟨wr I5 13 p (-1), wr M5 44 N (-1), wF_trans v4 (wF_st (stI_trans (stI_fr f1) (stI_wr (s := p) (by omega)))), wG_trans v5 (wG_st (stM_trans (stM_fr f2) (stM_wr (T := N) (by omega)))), tyX_trans v6 (tyX_wI (tyX_wM f3 (by omega)) (by omega)) (by omega), fun scr L F d J M0 => ?_, fun scr L F d I0 J => ?_⟩
      · have k1 := c73_f scr L F (d + 20 + 3 * e) (adI (wr I3 9 p (nI (p + 1))) (p3 + 1)) J M0 p D (by omega) I5 (by rw [show d + 20 + 3 * e + 20 = d + 15 + 3 * e + 25 by omega]; exact f4 scr L F (d + 15 + 3 * e) J M0)
        have k2 := c69_f3 scr L F (d + 20 + 3 * e) (beI (adI I (p + 1)) p y) J M0 p D n (by omega) _ (ka scr L F d J M0) p3 r3 (by rw [i3]; exact s58) _ k1
        have k3 := c61_cast_f scr L F (d + 13 + 3 * e) I J M0 n p D y hE.1.1 hpn (by omega) 60 hx rfl _ (by rw [show d + 13 + 3 * e + 29 = d + 20 + 3 * e + 22 by omega]; exact k2)
        rw [show d + 40 + 3 * (e + 1) = d + 13 + 3 * e + 30 by omega]
        exact k3
      · have k2 := g107_cast_f2 scr L F d I0 J M3 n p3 N (nI (N + 1)) m3.1.1.2.1 (by omega) x49 x41 sM (o + 1) m3.1.2.2.2.1 M5 (by rw [show o + 1 + 1 = D + 1 by omega, show d + 29 = d + 25 + 4 by omega]; exact f5 scr L F (d + 25) I0 J)
        refine hO_le (N := 100 + 100 * (2 * (N3 - (N + 1)) - 1) + 100) (by omega) ?_
        refine ch1 scr L F d I0 J _ _ ?_
        exact q_gf scr L F d I0 J M3 _ (N3 - 1) 0 (N + 1) (by omega) none o N m3.1.2.2.2.1 (by omega) (m3.2.2.2.1 rfl) (by omega) k2
    have hc3 := m3.1.2.1
    have tc := yS.2.2.2.2.1.2.1
    have tn := yS.2.2.2.1
    have tt := tm_lt yt (by have := yS.2.2.2.2.1.1; omega)
    have s3 : stI (adI (wr I3 9 p (nI (p + 1))) (p3 + 1)) (wr I5 13 p (nI (tm t))) p := stI_trans (stI_fr yI) (stI_wr (by omega))
    have s4 : stM (adM (wr (wr M3 49 N 1) 46 N (nI (N + 1))) (p3 + 1)) (wr M5 44 N (nI t)) N := stM_trans (stM_fr yM) (stM_wr (by omega))
    have hX5 : tyX (adI (wr I3 9 p (nI (p + 1))) (p3 + 1)) (adM (wr (wr M3 49 N 1) 46 N (nI (N + 1))) (p3 + 1)) (wr I5 13 p (nI (tm t))) (wr M5 44 N (nI t)) c3 := tyX_wI (tyX_wM yX (by omega)) (by omega)
    have m5 : Mid I M (wr I5 13 p (nI (tm t))) (wr M5 44 N (nI t)) n p5 c5 N3 K3 (o + 1) o p N K c y par := Mid_step m4 (rdS_wI (rdS_wM yS (by omega)) (by omega)) (by omega) yc (by omega) hX5 s3 s4
    have t5 := pt_X t4 (st_ag (p := p3 + 1) (K0 := K) (K := K3) s3 s4) hX5 (by omega) yc (Nat.le_refl _)
    obtain ⟨v7, v8, v9⟩ := Mid_w m5
    have hT5 : M5 37 = I5 19 := yS.2.2.1
    have r5 : rdI (wr I5 13 p (nI (tm t))) n p5 := rdI_wr yS.1 (by omega)
    have i5 : wr I5 13 p (nI (tm t)) 19 = I5 19 := wr_ne _ _ _ _ _ (by omega)
    have kt2 : ∀ (scr : Nat → Int32) (L F d : Nat) (J : am_J) (M0 : am_I), am_r scr L (F + 63000) (d + 20 + 3 * e + 21) 73 [.ref 19, .int (nI p), .int (nI D)] (hp (adI (wr I3 9 p (nI (p + 1))) (p3 + 1)) J M0) = some (some (.int 1), hp (wr I5 13 p (nI (tm t))) J M0, 0, 0) := fun scr L F d J M0 => c73_g scr L F (d + 20 + 3 * e) (adI (wr I3 9 p (nI (p + 1))) (p3 + 1)) J M0 p D (tm t) (by omega) (by omega) I5 (by rw [show d + 20 + 3 * e + 20 = d + 15 + 3 * e + 25 by omega]; exact yA scr L F (d + 15 + 3 * e) J M0)
    by_cases s62 : tx (I5 19) n p5 = 62
    · have hp5 := tx_lt s62 (by decide)
      have cM : tx (M5 37) n p5 = 62 := by
        rw [hT5]
        exact s62
      have s5 : stI (wr I5 13 p (nI (tm t))) (adI (wr I5 13 p (nI (tm t))) (p5 + 1)) p := stI_ad
      have s6 : stM (wr M5 44 N (nI t)) (adM (wr M5 44 N (nI t)) (p5 + 1)) N := stM_ad
      have hX6 : tyX (wr I5 13 p (nI (tm t))) (wr M5 44 N (nI t)) (adI (wr I5 13 p (nI (tm t))) (p5 + 1)) (adM (wr M5 44 N (nI t)) (p5 + 1)) c5 := tyX_aI (tyX_aM (tyX_refl _ _ _))
      have m6 : Mid I M (adI (wr I5 13 p (nI (tm t))) (p5 + 1)) (adM (wr M5 44 N (nI t)) (p5 + 1)) n (p5 + 1) c5 N3 K3 (o + 1) o p N K c y par := Mid_step m5 (rdS_ad m5.1.1 (by omega) (by omega)) (by omega) (Nat.le_refl _) (by omega) hX6 s5 s6
      have t6 := pt_X t5 (st_ag (p := p5) (K0 := K) (K := K3) s5 s6) hX6 (by omega) (Nat.le_refl _) (Nat.le_refl _)
      have eM : ∀ x, ¬ x = 36 → ¬ x = 44 → ¬ x = 38 → ¬ x = 39 → ¬ x = 40 → ¬ x = 52 → ¬ x = 49 → ¬ x = 46 → ∀ m, adM (wr M5 44 N (nI t)) (p5 + 1) x m = M3 x m := by
        intro x w1 w2 w3 w4 w5 w6 w7 w8 m
        rw [adM_ne _ _ x w1, wr_ap _ _ _ _ _ _ w2, yM.1 x w1 w3 w4 w5 w6, adM_ne _ _ x w1, wr_ap _ _ _ _ _ _ w8, wr_ap _ _ _ _ _ _ w7]
      have q41 : adM (wr M5 44 N (nI t)) (p5 + 1) 41 N = 12 := (eM 41 (by omega) (by omega) (by omega) (by omega) (by omega) (by omega) (by omega) (by omega) N).trans x41
      have q42 : adM (wr M5 44 N (nI t)) (p5 + 1) 42 (N + 1) = nI (p + 1) := (eM 42 (by omega) (by omega) (by omega) (by omega) (by omega) (by omega) (by omega) (by omega) (N + 1)).trans g42
      have q46 : adM (wr M5 44 N (nI t)) (p5 + 1) 46 N = nI (N + 1) := by
        rw [adM_ne _ _ 46 (by omega), wr_ap _ _ _ _ _ _ (by omega), yM.1 46 (by omega) (by omega) (by omega) (by omega) (by omega), adM_ne _ _ 46 (by omega), wr_s]
      have q49b : adM (wr M5 44 N (nI t)) (p5 + 1) 49 N = 1 := by
        rw [adM_ne _ _ 49 (by omega), wr_ap _ _ _ _ _ _ (by omega), yM.1 49 (by omega) (by omega) (by omega) (by omega) (by omega), adM_ne _ _ 49 (by omega), wr_q _ _ _ _ _ _ (by omega), wr_s]
      have q44 : adM (wr M5 44 N (nI t)) (p5 + 1) 44 N = nI t := by
        rw [adM_ne _ _ 44 (by omega), wr_s]
      have q7 : adI (wr I5 13 p (nI (tm t))) (p5 + 1) 7 p = 12 := by
        rw [adI_ne _ _ 7 (by omega), wr_ap _ _ _ _ _ _ (by omega), yI 7 (by omega) (by omega) (by omega) (by omega) (by omega) (by omega), adI_ne _ _ 7 (by omega), wr_ap _ _ _ _ _ _ (by omega)]
        exact x7
      have q9 : adI (wr I5 13 p (nI (tm t))) (p5 + 1) 9 p = nI (p + 1) := by
        rw [adI_ne _ _ 9 (by omega), wr_ap _ _ _ _ _ _ (by omega), yI 9 (by omega) (by omega) (by omega) (by omega) (by omega) (by omega), adI_ne _ _ 9 (by omega), wr_s]
      have q13 : adI (wr I5 13 p (nI (tm t))) (p5 + 1) 13 p = nI (tm t) := by
        rw [adI_ne _ _ 13 (by omega), wr_s]
      have q6 : adI (wr I5 13 p (nI (tm t))) (p5 + 1) 6 (tm t) = nI (p5 - (p3 + 1)) := by
        rw [adI_ne _ _ 6 (by omega), wr_ap _ _ _ _ _ _ (by omega)]
        exact yl
      have qh : hb (adM (wr M5 44 N (nI t)) (p5 + 1)) 19 t := hb_eq (M := M5) (by rw [adM_ne _ _ 38 (by omega), wr_ne _ _ _ _ _ (by omega)]) (by rw [adM_ne _ _ 39 (by omega), wr_ne _ _ _ _ _ (by omega)]) (by rw [adM_ne _ _ 40 (by omega), wr_ne _ _ _ _ _ (by omega)]) (hb_le (by omega) yh)
      have hnd : nd (adI (wr I5 13 p (nI (tm t))) (p5 + 1)) (adM (wr M5 44 N (nI t)) (p5 + 1)) N3 c5 N := nd_mk m6 hy 12 q41 q7 (by omega) (fun z => by omega) (fun z => by omega) (fun z => by omega) (fun _ => ⟨t, p5 - (p3 + 1), yt, q44, q13, qh, q6, by omega⟩) (fun _ => ⟨N + 1, p + 1, by omega, t6.2.1, q46, q42, q9, t6.2.2.2.1⟩) (fun _ z => by omega) (fun z => by omega)
      have htw : tw (adI (wr I5 13 p (nI (tm t))) (p5 + 1)) (adM (wr M5 44 N (nI t)) (p5 + 1)) N3 c5 (e + 1) (p5 + 1 - p) N := ⟨by omega, by omega, 12, q41, by omega, fun z => by omega, fun _ => ⟨N + 1, p3 - (p + 1), q46, by omega, t6.2.2.2.2, by omega, fun _ => by omega⟩, fun _ z => by omega, fun z => by omega⟩
      refine .inr ⟨_, _, p5 + 1, c5, N3, K3 + 1, close_w m6 hnd htw (by omega) (dn_1 (o := 12) q41 (by omega) (by omega)), fun scr L F d J M0 => ?_, fun scr L F d I0 J n0 R key => ?_⟩
      · have k2 := c69_g scr L F (d + 20 + 3 * e) (beI (adI I (p + 1)) p y) J M0 p D n (by omega) _ (ka scr L F d J M0) p3 r3 (by rw [i3]; exact s58) _ (kt2 scr L F d J M0) p5 r5 (by rw [i5]; exact s62)
        have k3 := c61_cast_g scr L F (d + 13 + 3 * e) I J M0 n p D y hE.1.1 hpn (by omega) 60 hx rfl _ K3 m6.1.2.2.2.2.2.1 (by have := m6.2.2.1; omega) (by rw [show d + 13 + 3 * e + 29 = d + 20 + 3 * e + 22 by omega]; exact k2)
        rw [show d + 40 + 3 * (e + 1) = d + 13 + 3 * e + 30 by omega]
        exact k3
      · have k2 := g107_cast scr L F d I0 J M3 n p3 N (nI (N + 1)) m3.1.1.2.1 (by omega) x49 x41 sM (o + 1) m3.1.2.2.2.1 M5 t p5 (by omega) yS.2.1 (by rw [show o + 1 + 1 = D + 1 by omega, show d + 29 = d + 25 + 4 by omega]; exact yB scr L F (d + 25) I0 J) cM
        refine hO_le (N := (n0 + 100) + 100 * (2 * (N3 - (N + 1)) - 1) + 100) (by omega) ?_
        refine ch1 scr L F d I0 J _ _ ?_
        exact q_gw scr L F d I0 J M3 _ (N3 - 1) n0 (N + 1) (by omega) R o N m3.1.2.2.2.1 (by omega) (m3.2.2.2.1 rfl) (by omega) k2 m6.1.2.2.2.1 12 1 q41 q49b (by decide) K3 m6.1.2.2.2.2.2.2.1 (by have := m6.2.2.1; omega) key
    · refine .inl ⟨_, _, v7, v8, v9, fun scr L F d J M0 => ?_, fun scr L F d I0 J => ?_⟩
      · have k2 := c69_f4 scr L F (d + 20 + 3 * e) (beI (adI I (p + 1)) p y) J M0 p D n (by omega) _ (ka scr L F d J M0) p3 r3 (by rw [i3]; exact s58) _ (kt2 scr L F d J M0) p5 r5 (by rw [i5]; exact s62)
        have k3 := c61_cast_f scr L F (d + 13 + 3 * e) I J M0 n p D y hE.1.1 hpn (by omega) 60 hx rfl _ (by rw [show d + 13 + 3 * e + 29 = d + 20 + 3 * e + 22 by omega]; exact k2)
        rw [show d + 40 + 3 * (e + 1) = d + 13 + 3 * e + 30 by omega]
        exact k3
      · have k2 := g107_cast_f3 scr L F d I0 J M3 n p3 N (nI (N + 1)) m3.1.1.2.1 (by omega) x49 x41 sM (o + 1) m3.1.2.2.2.1 M5 t p5 (by omega) yS.2.1 (by rw [show o + 1 + 1 = D + 1 by omega, show d + 29 = d + 25 + 4 by omega]; exact yB scr L F (d + 25) I0 J) (by rw [hT5]; exact s62)
        refine hO_le (N := 100 + 100 * (2 * (N3 - (N + 1)) - 1) + 100) (by omega) ?_
        refine ch1 scr L F d I0 J _ _ ?_
        exact q_gf scr L F d I0 J M3 _ (N3 - 1) 0 (N + 1) (by omega) none o N m3.1.2.2.2.1 (by omega) (m3.2.2.2.1 rfl) (by omega) k2
  · refine .inl ⟨wr I3 9 p (nI (p + 1)), wr (wr (wr M3 49 N 1) 46 N (nI (N + 1))) 44 N (-1), wF_trans v1 (wF_st (stI_wr (s := p) (by omega))), wG_trans v2 (wG_st (stM_trans (stM_wr (by omega)) (stM_trans (stM_wr (by omega)) (stM_wr (by omega))))), tyX_wI (tyX_wM (tyX_wM (tyX_wM v3 (by omega)) (by omega)) (by omega)) (by omega), fun scr L F d J M0 => ?_, fun scr L F d I0 J => ?_⟩
    · have k2 := c69_f2 scr L F (d + 20 + 3 * e) (beI (adI I (p + 1)) p y) J M0 p D n (by omega) _ (ka scr L F d J M0) p3 r3 (by rw [i3]; exact s58)
      have k3 := c61_cast_f scr L F (d + 13 + 3 * e) I J M0 n p D y hE.1.1 hpn (by omega) 60 hx rfl _ (by rw [show d + 13 + 3 * e + 29 = d + 20 + 3 * e + 22 by omega]; exact k2)
      rw [show d + 40 + 3 * (e + 1) = d + 13 + 3 * e + 30 by omega]
      exact k3
    · have k2 := g107_cast_f1 scr L F d I0 J M3 n p3 N (nI (N + 1)) m3.1.1.2.1 (by omega) x49 x41 (by rw [hT3]; exact s58)
      refine hO_le (N := 100 + 100 * (2 * (N3 - (N + 1)) - 1) + 100) (by omega) ?_
      refine ch1 scr L F d I0 J _ _ ?_
      exact q_gf scr L F d I0 J M3 _ (N3 - 1) 0 (N + 1) (by omega) none o N m3.1.2.2.2.1 (by omega) (m3.2.2.2.1 rfl) (by omega) k2

