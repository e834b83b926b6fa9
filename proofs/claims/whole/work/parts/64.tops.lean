/-! Checking: operations, choices, calls and writes. -/
theorem gw2 {I : am_I} {q qa qb : Nat} {x v u : Int32} : (∀ z, ¬ z = 15 → ¬ z = 16 → wr (wr (gv I q x) 16 qa v) 16 qb u z = I z) ∧ (∀ p, ¬ p = q → wr (wr (gv I q x) 16 qa v) 16 qb u 15 p = I 15 p) ∧ (∀ p, ¬ p = q → ¬ p = qa → ¬ p = qb → wr (wr (gv I q x) 16 qa v) 16 qb u 16 p = I 16 p) ∧ wr (wr (gv I q x) 16 qa v) 16 qb u 15 q = x ∧ (¬ qa = q → ¬ qb = q → wr (wr (gv I q x) 16 qa v) 16 qb u 16 q = x) ∧ (¬ qa = qb → wr (wr (gv I q x) 16 qa v) 16 qb u 16 qa = v) ∧ wr (wr (gv I q x) 16 qa v) 16 qb u 16 qb = u := by
  refine ⟨fun z h1 h2 => ?_, fun p h1 => ?_, fun p h1 h2 h3 => ?_, ?_, fun h g => ?_, fun h => ?_, wr_s _ _ _ _⟩
  · rw [wr_ne _ _ _ _ _ h2, wr_ne _ _ _ _ _ h2, gv_ne _ _ _ _ h1 h2]
  · rw [wr_q _ _ _ _ _ _ (by omega), wr_q _ _ _ _ _ _ (by omega), gv_z _ _ _ _ _ (by omega) (by omega)]
  · rw [wr_q _ _ _ _ _ _ (by omega), wr_q _ _ _ _ _ _ (by omega), gv_z _ _ _ _ _ (by omega) (by omega)]
  · rw [wr_q _ _ _ _ _ _ (by omega), wr_q _ _ _ _ _ _ (by omega), gv_15]
  · rw [wr_q _ _ _ _ _ _ (by omega), wr_q _ _ _ _ _ _ (by omega), gv_16]
  · rw [wr_q _ _ _ _ _ _ (by omega), wr_s]
theorem posne {I0 M0 : am_I} {N K c0 a b qa qb : Nat} (h : pg I0 M0 N K c0) (ha : a < N) (hb1 : b < N) (h1 : M0 42 a = nI qa) (h2 : M0 42 b = nI qb) (hne : ¬ a = b) : ¬ qa = qb := by
  intro z
  subst z
  exact hne (h.2.2.2.2.1 a b qa ha hb1 h1 h2)
theorem ck_plus {I0 M0 I M : am_I} {c0 N K c k y q : Nat} (h : SK I0 M0 c0 N K I M c k) (hk : k < K) (hy : M0 50 k = nI y) (hyN : y < N) (hn : nd I0 M0 N c0 y) (hq : M0 42 y = nI q) (hq2 : q < 100) (h41 : M0 41 y = nI 6) (h7 : I0 7 q = nI 6) (hdn : dn M0 y) : ckR I0 M0 c0 N K I M c k y q := by
  have hS := h
  obtain ⟨⟨p1, p2, p3, p4, p5, p6, p7⟩, ⟨e1, e2, e3, e4⟩, h3, h4, h5, h6, h7b, h8, v1, v2⟩ := h
  have x41 : M 41 y = 6 := by
    rw [e1.1, h41]
    decide +kernel
  have x7 : I 7 q = 6 := by
    rw [e3 7 (by omega) (by omega), h7]
    decide +kernel
  have hc5 := h3.1
  have hc6 := h3.2.1
  have hlt := nd_lt hn p2 hyN
  obtain ⟨qn, on, n1, n2, n3, n4, n5, n6, nx1, nx2, nx3, n10, n11, n12, n13⟩ := hn
  have eo := nI_inj (by omega) (by omega) (n3.symm.trans h41)
  subst eo
  have eqn := nI_inj (by omega) (by omega) (n1.symm.trans hq)
  subst eqn
  obtain ⟨a, qa, ta, pA, iA, tA15, tA16, paA, aN, aq, aqq, lenA, exA⟩ := prt hS hk hy hyN hq hq2 (x := 46) (z := 9) (.inl rfl) (by omega) (n11 (by omega)) (fun a ha => ⟨6, by omega, h41, .inl ⟨by omega, ha⟩⟩)
  obtain ⟨hbA, lnA⟩ := prt_hb lenA exA
  have lta := pA.2.2.2.2.2.2
  have tta := tm_lt lta (by omega)
  obtain ⟨b, qb, tb, pB, iB, tB15, tB16, paB, bN, bq, bqq, lenB, exB⟩ := prt hS hk hy hyN hq hq2 (x := 47) (z := 10) (.inr (.inl rfl)) (by omega) (n12 (by omega) (by omega)) (fun a ha => ⟨6, by omega, h41, .inr (.inl ⟨by omega, by omega, ha⟩)⟩)
  obtain ⟨hbB, lnB⟩ := prt_hb lenB exB
  have ltb := pB.2.2.2.2.2.2
  have ttb := tm_lt ltb (by omega)
  have decA : ∀ h w, tw I0 M0 N c0 h w y → ∃ h' w', h = h' + 1 ∧ tw I0 M0 N c0 h' w' a ∧ w' ≤ w := fun h w z => twA z h41 (by omega) (by omega) (by rw [← e1.2.2.2.2.2.1]; exact pA.1) pA.2.2.1 p2
  have decB : ∀ h w, tw I0 M0 N c0 h w y → ∃ h' w', h = h' + 1 ∧ tw I0 M0 N c0 h' w' b ∧ w' ≤ w := fun h w z => twB z h41 (by omega) (by omega) (by rw [← e1.2.2.2.2.2.2.1]; exact pB.1) pB.2.2.1 p2
  obtain ⟨r1, r2⟩ := k14 (I' := gv I qn (nI (tm 0))) (M' := M) h3 (fun z z1 z2 => gv_ne _ _ _ _ (by omega) (by omega)) (fun z _ => rfl)
  have g15 : gv I qn (nI (tm 0)) 15 qa = nI (tm ta) := (gv_z _ _ _ _ _ (by omega) (by omega)).trans tA15
  have ttu := tm_lt (show 0 < c by omega) (show 3 ≤ c by omega)
  have ttv := tm_lt (show 0 < c by omega) (show 3 ≤ c by omega)
  have hpc := PC_cn r1 lta (show 0 < c by omega)
  obtain ⟨g, hg⟩ := co_k h3 lta (show 0 < c by omega) hbA
  have m54 : kG M (va_up M 54 g) := kG_54
  rcases bt (cn M 40 ta 0) with ⟨b1, b2⟩ | ⟨b1, b2⟩
  · rw [b2] at hg
    rw [b1] at hpc
    obtain ⟨G1, G2, G3, G4, G5, G6⟩ := gvw (I := I) (q := qn) (qa := qa) (x := (nI (tm 0))) (v := nI (tm 0))
    obtain ⟨r3, r4⟩ := k14 (I' := wr (gv I qn (nI (tm 0))) 16 qa (nI (tm 0))) (M' := va_up M 54 g) h3 (fun z z1 z2 => G1 z (by omega) (by omega)) (fun z hz => w54 M g z (by omega))
    have kR : ∀ (scr : Nat → Int32) (L F d : Nat) (J : am_J) (Mx : am_I), am_r scr L (F + 63000) (d + 43) 23 [.ref 21, .int (nI qa), .int (nI (tm 0))] (hp (gv I qn (nI (tm 0))) J Mx) = some (some (.int (-1)), hp (wr (gv I qn (nI (tm 0))) 16 qa (nI (tm 0))) J Mx, 0, 0) := fun scr L F d J Mx => c23_g scr L F d (gv I qn (nI (tm 0))) J Mx qa (tm 0) (tm ta) c pA.2.2.2.2.1 g15 tta ttu hc6 (tyR_tbl r1) hpc
    have h15b : wr (gv I qn (nI (tm 0))) 16 qa (nI (tm 0)) 15 qb = nI (tm tb) := (G2 qb bqq).trans tB15
    have hpc2 := PC_cn r3 ltb (show 0 < c by omega)
    rw [cn_M (w54 M g 38 (by omega)) (w54 M g 39 (by omega)) (w54 M g 40 (by omega))] at hpc2
    obtain ⟨g2, hg2⟩ := co_k r3 ltb (show 0 < c by omega) (hb_eq (w54 M g 38 (by omega)) (w54 M g 39 (by omega)) (w54 M g 40 (by omega)) hbB)
    rw [cn_M (w54 M g 38 (by omega)) (w54 M g 39 (by omega)) (w54 M g 40 (by omega))] at hg2
    simp only [va_va] at hg2
    have m54b : kG M (va_up M 54 g2) := kG_54
    have nab : ¬ qa = qb := posne ⟨p1, p2, p3, p4, p5, p6, p7⟩ aN bN aq bq (hdn.1 6 h41 (by omega) (by omega) (by omega) a b (by rw [← e1.2.2.2.2.2.1]; exact pA.1) (by rw [← e1.2.2.2.2.2.2.1]; exact pB.1) pA.2.2.1 pB.2.2.1)
    rcases bt (cn M 40 tb 0) with ⟨b3, b4⟩ | ⟨b3, b4⟩
    · rw [b4] at hg2
      rw [b3] at hpc2
      obtain ⟨W1, W2, W3, W4, W5, W6, W7⟩ := gw2 (I := I) (q := qn) (qa := qa) (qb := qb) (x := (nI (tm 0))) (v := nI (tm 0)) (u := nI (tm 0))
      obtain ⟨r5, r6⟩ := k14 (I' := wr (wr (gv I qn (nI (tm 0))) 16 qa (nI (tm 0))) 16 qb (nI (tm 0))) (M' := va_up M 54 g2) h3 (fun z z1 z2 => W1 z (by omega) (by omega)) (fun z hz => w54 M g2 z (by omega))
      have fk : kF I (wr (wr (gv I qn (nI (tm 0))) 16 qa (nI (tm 0))) 16 qb (nI (tm 0))) := kF_trans kF_gv (kF_trans (kF_wr (by omega)) (kF_wr (by omega)))
      have kR2 : ∀ (scr : Nat → Int32) (L F d : Nat) (J : am_J) (Mx : am_I), am_r scr L (F + 63000) (d + 43) 23 [.ref 21, .int (nI qb), .int (nI (tm 0))] (hp (wr (gv I qn (nI (tm 0))) 16 qa (nI (tm 0))) J Mx) = some (some (.int (-1)), hp (wr (wr (gv I qn (nI (tm 0))) 16 qa (nI (tm 0))) 16 qb (nI (tm 0))) J Mx, 0, 0) := fun scr L F d J Mx => c23_g scr L F d (wr (gv I qn (nI (tm 0))) 16 qa (nI (tm 0))) J Mx qb (tm 0) (tm tb) c pB.2.2.2.2.1 h15b ttb ttv hc6 (tyR_tbl r3) hpc2
      refine .inr ⟨wr (wr (gv I qn (nI (tm 0))) 16 qa (nI (tm 0))) 16 qb (nI (tm 0)), va_up M 54 g2, c, 0, by omega, ⟨Nat.le_refl _, r6 c⟩, fk, m54b, fun scr L F d J Mx => ?_, fun scr L F d Ix J => ?_, ?_⟩
      · have k1 := kR scr L F d J Mx
        have k2 := kR2 scr L F d J Mx
        rw [nI_t0] at k1 k2
        have k3 := c27_g scr L F d I J Mx qn qa qb (nI (tm 0)) hq2 iA iB pA.2.2.2.2.1 _ k1 (by rw [wr_ne _ _ _ _ _ (by omega), gv_ne _ _ _ _ (by omega) (by omega)]; exact iB) _ _ k2
        rw [nI_t0] at k3
        exact c21_plus scr L F d I J Mx qn hq2 x7 _ _ k3
      · have k1 := hg scr L F d Ix J
        rw [nI_0] at k1
        have k2 := hg2 scr L F d Ix J
        rw [nI_0] at k2
        rw [nI_0]
        exact t_plus_g scr L F d Ix J M y (by omega) x41 a ta pA.2.2.1 pA.1 pA.2.2.2.2.2.1 (by omega) b tb pB.2.2.1 pB.1 pB.2.2.2.2.2.1 (by omega) _ k1 _ k2
      · refine fin_ok hS hk hy hyN hq hq2 h41 (by omega) hlt r5 (r6 c) (Nat.le_refl _) (by omega) (by omega) m54b (w54 M g2 71 (by omega)) fk (fun p hp => ⟨W2 p hp, by rw [W1 14 (by omega) (by omega)]⟩) (fun p hp hz => W3 p hp (fun z => hz a aN paA (by rw [z]; exact aq)) (fun z => hz b bN paB (by rw [z]; exact bq))) W4 (W5 aqq bqq) (fun h w z => ⟨?_, ?_⟩) ?_
        · refine hb_eq (w54 M g2 38 (by omega)) (w54 M g2 39 (by omega)) (w54 M g2 40 (by omega)) ?_
          exact hb_0 (by omega)
        · rw [tln_I (W1 6 (by omega) (by omega))]
          have l1 : tln I 0 = 1 := by
            unfold tln
            rw [(h3.2.2.2.2.2.2.1 (tm 0) (tm_lt (by omega) (by omega))).2.2.2.1]
            decide +kernel
          omega
        · have c38 := w54 M g2 38 (by omega)
          have c39 := w54 M g2 39 (by omega)
          have c40 := w54 M g2 40 (by omega)
          have c71 := w54 M g2 71 (by omega)
          exact rl_mk6 (by omega) ⟨a, qa, ta, b, qb, tb, pf_g pA (by omega) (Nat.le_refl _) m54b c71, pf_g pB (by omega) (Nat.le_refl _) m54b c71, ⟨40, by rw [cn_M c38 c39 c40]; exact b1⟩, ⟨40, by rw [cn_M c38 c39 c40]; exact b3⟩, by decide, by rw [W6 nab, nI_t0], by rw [W7, nI_t0]⟩
    · rw [b4] at hg2
      rw [b3] at hpc2
      obtain ⟨r5, r6⟩ := k14 (I' := wr (gv I qn (nI (tm 0))) 16 qa (nI (tm 0))) (M' := va_up M 54 g2) h3 (fun z z1 z2 => G1 z (by omega) (by omega)) (fun z hz => w54 M g2 z (by omega))
      have kR2 : ∀ (scr : Nat → Int32) (L F d : Nat) (J : am_J) (Mx : am_I), am_r scr L (F + 63000) (d + 43) 23 [.ref 21, .int (nI qb), .int (nI (tm 0))] (hp (wr (gv I qn (nI (tm 0))) 16 qa (nI (tm 0))) J Mx) = some (some (.int (nI qb)), hp (wr (gv I qn (nI (tm 0))) 16 qa (nI (tm 0))) J Mx, 0, 0) := fun scr L F d J Mx => c23_f scr L F d (wr (gv I qn (nI (tm 0))) 16 qa (nI (tm 0))) J Mx qb (tm 0) (tm tb) c pB.2.2.2.2.1 h15b ttb ttv hc6 (tyR_tbl r3) hpc2
      refine .inl ⟨wr (gv I qn (nI (tm 0))) 16 qa (nI (tm 0)), va_up M 54 g2, b, qb, pB.2.2.1, by rw [w54 M g2 42 (by omega)]; exact pB.2.2.2.1, pB.2.2.2.2.1, kF_trans kF_gv (kF_wr (by omega)), m54b, r6 c, fun scr L F d J Mx => ?_, fun scr L F d Ix J => ?_⟩
      · have k1 := kR scr L F d J Mx
        have k2 := kR2 scr L F d J Mx
        rw [nI_t0] at k1 k2
        have k3 := c27_g scr L F d I J Mx qn qa qb (nI (tm 0)) hq2 iA iB pA.2.2.2.2.1 _ k1 (by rw [wr_ne _ _ _ _ _ (by omega), gv_ne _ _ _ _ (by omega) (by omega)]; exact iB) _ _ k2
        rw [nI_t0] at k3
        exact c21_plus scr L F d I J Mx qn hq2 x7 _ _ k3
      · have k1 := hg scr L F d Ix J
        rw [nI_0] at k1
        have k2 := hg2 scr L F d Ix J
        rw [nI_0] at k2
        exact t_plus_f2 scr L F d Ix J M y (by omega) x41 a ta pA.2.2.1 pA.1 pA.2.2.2.2.2.1 (by omega) b tb pB.2.2.1 pB.1 pB.2.2.2.2.2.1 (by omega) _ k1 _ k2 (by rw [w54 M g2 47 (by omega)]; exact pB.1)
  · rw [b2] at hg
    rw [b1] at hpc
    obtain ⟨r3, r4⟩ := k14 (I' := gv I qn (nI (tm 0))) (M' := va_up M 54 g) h3 (fun z z1 z2 => gv_ne _ _ _ _ (by omega) (by omega)) (fun z hz => w54 M g z (by omega))
    have kR : ∀ (scr : Nat → Int32) (L F d : Nat) (J : am_J) (Mx : am_I), am_r scr L (F + 63000) (d + 43) 23 [.ref 21, .int (nI qa), .int (nI (tm 0))] (hp (gv I qn (nI (tm 0))) J Mx) = some (some (.int (nI qa)), hp (gv I qn (nI (tm 0))) J Mx, 0, 0) := fun scr L F d J Mx => c23_f scr L F d (gv I qn (nI (tm 0))) J Mx qa (tm 0) (tm ta) c pA.2.2.2.2.1 g15 tta ttu hc6 (tyR_tbl r1) hpc
    refine .inl ⟨gv I qn (nI (tm 0)), va_up M 54 g, a, qa, pA.2.2.1, by rw [w54 M g 42 (by omega)]; exact pA.2.2.2.1, pA.2.2.2.2.1, kF_gv, m54, r4 c, fun scr L F d J Mx => ?_, fun scr L F d Ix J => ?_⟩
    · have k1 := kR scr L F d J Mx
      rw [nI_t0] at k1
      have k3 := c27_f scr L F d I J Mx qn qa qb (nI (tm 0)) hq2 iA iB pA.2.2.2.2.1 _ k1
      rw [nI_t0] at k3
      exact c21_plus scr L F d I J Mx qn hq2 x7 _ _ k3
    · have k1 := hg scr L F d Ix J
      rw [nI_0] at k1
      exact t_plus_f1 scr L F d Ix J M y (by omega) x41 a ta pA.2.2.1 pA.1 pA.2.2.2.2.2.1 (by omega) b tb pB.2.2.1 pB.1 pB.2.2.2.2.2.1 (by omega) _ k1 (by rw [w54 M g 46 (by omega)]; exact pA.1)

theorem ck_minus {I0 M0 I M : am_I} {c0 N K c k y q : Nat} (h : SK I0 M0 c0 N K I M c k) (hk : k < K) (hy : M0 50 k = nI y) (hyN : y < N) (hn : nd I0 M0 N c0 y) (hq : M0 42 y = nI q) (hq2 : q < 100) (h41 : M0 41 y = nI 7) (h7 : I0 7 q = nI 7) (hdn : dn M0 y) : ckR I0 M0 c0 N K I M c k y q := by
  have hS := h
  obtain ⟨⟨p1, p2, p3, p4, p5, p6, p7⟩, ⟨e1, e2, e3, e4⟩, h3, h4, h5, h6, h7b, h8, v1, v2⟩ := h
  have x41 : M 41 y = 7 := by
    rw [e1.1, h41]
    decide +kernel
  have x7 : I 7 q = 7 := by
    rw [e3 7 (by omega) (by omega), h7]
    decide +kernel
  have hc5 := h3.1
  have hc6 := h3.2.1
  have hlt := nd_lt hn p2 hyN
  obtain ⟨qn, on, n1, n2, n3, n4, n5, n6, nx1, nx2, nx3, n10, n11, n12, n13⟩ := hn
  have eo := nI_inj (by omega) (by omega) (n3.symm.trans h41)
  subst eo
  have eqn := nI_inj (by omega) (by omega) (n1.symm.trans hq)
  subst eqn
  obtain ⟨a, qa, ta, pA, iA, tA15, tA16, paA, aN, aq, aqq, lenA, exA⟩ := prt hS hk hy hyN hq hq2 (x := 46) (z := 9) (.inl rfl) (by omega) (n11 (by omega)) (fun a ha => ⟨7, by omega, h41, .inl ⟨by omega, ha⟩⟩)
  obtain ⟨hbA, lnA⟩ := prt_hb lenA exA
  have lta := pA.2.2.2.2.2.2
  have tta := tm_lt lta (by omega)
  obtain ⟨b, qb, tb, pB, iB, tB15, tB16, paB, bN, bq, bqq, lenB, exB⟩ := prt hS hk hy hyN hq hq2 (x := 47) (z := 10) (.inr (.inl rfl)) (by omega) (n12 (by omega) (by omega)) (fun a ha => ⟨7, by omega, h41, .inr (.inl ⟨by omega, by omega, ha⟩)⟩)
  obtain ⟨hbB, lnB⟩ := prt_hb lenB exB
  have ltb := pB.2.2.2.2.2.2
  have ttb := tm_lt ltb (by omega)
  have decA : ∀ h w, tw I0 M0 N c0 h w y → ∃ h' w', h = h' + 1 ∧ tw I0 M0 N c0 h' w' a ∧ w' ≤ w := fun h w z => twA z h41 (by omega) (by omega) (by rw [← e1.2.2.2.2.2.1]; exact pA.1) pA.2.2.1 p2
  have decB : ∀ h w, tw I0 M0 N c0 h w y → ∃ h' w', h = h' + 1 ∧ tw I0 M0 N c0 h' w' b ∧ w' ≤ w := fun h w z => twB z h41 (by omega) (by omega) (by rw [← e1.2.2.2.2.2.2.1]; exact pB.1) pB.2.2.1 p2
  obtain ⟨r1, r2⟩ := k14 (I' := gv I qn (nI (tm 0))) (M' := M) h3 (fun z z1 z2 => gv_ne _ _ _ _ (by omega) (by omega)) (fun z _ => rfl)
  have g15 : gv I qn (nI (tm 0)) 15 qa = nI (tm ta) := (gv_z _ _ _ _ _ (by omega) (by omega)).trans tA15
  have ttu := tm_lt (show 0 < c by omega) (show 3 ≤ c by omega)
  have ttv := tm_lt (show 0 < c by omega) (show 3 ≤ c by omega)
  have hpc := PC_cn r1 lta (show 0 < c by omega)
  obtain ⟨g, hg⟩ := co_k h3 lta (show 0 < c by omega) hbA
  have m54 : kG M (va_up M 54 g) := kG_54
  rcases bt (cn M 40 ta 0) with ⟨b1, b2⟩ | ⟨b1, b2⟩
  · rw [b2] at hg
    rw [b1] at hpc
    obtain ⟨G1, G2, G3, G4, G5, G6⟩ := gvw (I := I) (q := qn) (qa := qa) (x := (nI (tm 0))) (v := nI (tm 0))
    obtain ⟨r3, r4⟩ := k14 (I' := wr (gv I qn (nI (tm 0))) 16 qa (nI (tm 0))) (M' := va_up M 54 g) h3 (fun z z1 z2 => G1 z (by omega) (by omega)) (fun z hz => w54 M g z (by omega))
    have kR : ∀ (scr : Nat → Int32) (L F d : Nat) (J : am_J) (Mx : am_I), am_r scr L (F + 63000) (d + 43) 23 [.ref 21, .int (nI qa), .int (nI (tm 0))] (hp (gv I qn (nI (tm 0))) J Mx) = some (some (.int (-1)), hp (wr (gv I qn (nI (tm 0))) 16 qa (nI (tm 0))) J Mx, 0, 0) := fun scr L F d J Mx => c23_g scr L F d (gv I qn (nI (tm 0))) J Mx qa (tm 0) (tm ta) c pA.2.2.2.2.1 g15 tta ttu hc6 (tyR_tbl r1) hpc
    have h15b : wr (gv I qn (nI (tm 0))) 16 qa (nI (tm 0)) 15 qb = nI (tm tb) := (G2 qb bqq).trans tB15
    have hpc2 := PC_cn r3 ltb (show 0 < c by omega)
    rw [cn_M (w54 M g 38 (by omega)) (w54 M g 39 (by omega)) (w54 M g 40 (by omega))] at hpc2
    obtain ⟨g2, hg2⟩ := co_k r3 ltb (show 0 < c by omega) (hb_eq (w54 M g 38 (by omega)) (w54 M g 39 (by omega)) (w54 M g 40 (by omega)) hbB)
    rw [cn_M (w54 M g 38 (by omega)) (w54 M g 39 (by omega)) (w54 M g 40 (by omega))] at hg2
    simp only [va_va] at hg2
    have m54b : kG M (va_up M 54 g2) := kG_54
    have nab : ¬ qa = qb := posne ⟨p1, p2, p3, p4, p5, p6, p7⟩ aN bN aq bq (hdn.1 7 h41 (by omega) (by omega) (by omega) a b (by rw [← e1.2.2.2.2.2.1]; exact pA.1) (by rw [← e1.2.2.2.2.2.2.1]; exact pB.1) pA.2.2.1 pB.2.2.1)
    rcases bt (cn M 40 tb 0) with ⟨b3, b4⟩ | ⟨b3, b4⟩
    · rw [b4] at hg2
      rw [b3] at hpc2
      obtain ⟨W1, W2, W3, W4, W5, W6, W7⟩ := gw2 (I := I) (q := qn) (qa := qa) (qb := qb) (x := (nI (tm 0))) (v := nI (tm 0)) (u := nI (tm 0))
      obtain ⟨r5, r6⟩ := k14 (I' := wr (wr (gv I qn (nI (tm 0))) 16 qa (nI (tm 0))) 16 qb (nI (tm 0))) (M' := va_up M 54 g2) h3 (fun z z1 z2 => W1 z (by omega) (by omega)) (fun z hz => w54 M g2 z (by omega))
      have fk : kF I (wr (wr (gv I qn (nI (tm 0))) 16 qa (nI (tm 0))) 16 qb (nI (tm 0))) := kF_trans kF_gv (kF_trans (kF_wr (by omega)) (kF_wr (by omega)))
      have kR2 : ∀ (scr : Nat → Int32) (L F d : Nat) (J : am_J) (Mx : am_I), am_r scr L (F + 63000) (d + 43) 23 [.ref 21, .int (nI qb), .int (nI (tm 0))] (hp (wr (gv I qn (nI (tm 0))) 16 qa (nI (tm 0))) J Mx) = some (some (.int (-1)), hp (wr (wr (gv I qn (nI (tm 0))) 16 qa (nI (tm 0))) 16 qb (nI (tm 0))) J Mx, 0, 0) := fun scr L F d J Mx => c23_g scr L F d (wr (gv I qn (nI (tm 0))) 16 qa (nI (tm 0))) J Mx qb (tm 0) (tm tb) c pB.2.2.2.2.1 h15b ttb ttv hc6 (tyR_tbl r3) hpc2
      refine .inr ⟨wr (wr (gv I qn (nI (tm 0))) 16 qa (nI (tm 0))) 16 qb (nI (tm 0)), va_up M 54 g2, c, 0, by omega, ⟨Nat.le_refl _, r6 c⟩, fk, m54b, fun scr L F d J Mx => ?_, fun scr L F d Ix J => ?_, ?_⟩
      · have k1 := kR scr L F d J Mx
        have k2 := kR2 scr L F d J Mx
        rw [nI_t0] at k1 k2
        have k3 := c27_g scr L F d I J Mx qn qa qb (nI (tm 0)) hq2 iA iB pA.2.2.2.2.1 _ k1 (by rw [wr_ne _ _ _ _ _ (by omega), gv_ne _ _ _ _ (by omega) (by omega)]; exact iB) _ _ k2
        rw [nI_t0] at k3
        exact c21_minus scr L F d I J Mx qn hq2 x7 _ _ k3
      · have k1 := hg scr L F d Ix J
        rw [nI_0] at k1
        have k2 := hg2 scr L F d Ix J
        rw [nI_0] at k2
        rw [nI_0]
        exact t_minus_g scr L F d Ix J M y (by omega) x41 a ta pA.2.2.1 pA.1 pA.2.2.2.2.2.1 (by omega) b tb pB.2.2.1 pB.1 pB.2.2.2.2.2.1 (by omega) _ k1 _ k2
      · refine fin_ok hS hk hy hyN hq hq2 h41 (by omega) hlt r5 (r6 c) (Nat.le_refl _) (by omega) (by omega) m54b (w54 M g2 71 (by omega)) fk (fun p hp => ⟨W2 p hp, by rw [W1 14 (by omega) (by omega)]⟩) (fun p hp hz => W3 p hp (fun z => hz a aN paA (by rw [z]; exact aq)) (fun z => hz b bN paB (by rw [z]; exact bq))) W4 (W5 aqq bqq) (fun h w z => ⟨?_, ?_⟩) ?_
        · refine hb_eq (w54 M g2 38 (by omega)) (w54 M g2 39 (by omega)) (w54 M g2 40 (by omega)) ?_
          exact hb_0 (by omega)
        · rw [tln_I (W1 6 (by omega) (by omega))]
          have l1 : tln I 0 = 1 := by
            unfold tln
            rw [(h3.2.2.2.2.2.2.1 (tm 0) (tm_lt (by omega) (by omega))).2.2.2.1]
            decide +kernel
          omega
        · have c38 := w54 M g2 38 (by omega)
          have c39 := w54 M g2 39 (by omega)
          have c40 := w54 M g2 40 (by omega)
          have c71 := w54 M g2 71 (by omega)
          exact rl_mk6 (by omega) ⟨a, qa, ta, b, qb, tb, pf_g pA (by omega) (Nat.le_refl _) m54b c71, pf_g pB (by omega) (Nat.le_refl _) m54b c71, ⟨40, by rw [cn_M c38 c39 c40]; exact b1⟩, ⟨40, by rw [cn_M c38 c39 c40]; exact b3⟩, by decide, by rw [W6 nab, nI_t0], by rw [W7, nI_t0]⟩
    · rw [b4] at hg2
      rw [b3] at hpc2
      obtain ⟨r5, r6⟩ := k14 (I' := wr (gv I qn (nI (tm 0))) 16 qa (nI (tm 0))) (M' := va_up M 54 g2) h3 (fun z z1 z2 => G1 z (by omega) (by omega)) (fun z hz => w54 M g2 z (by omega))
      have kR2 : ∀ (scr : Nat → Int32) (L F d : Nat) (J : am_J) (Mx : am_I), am_r scr L (F + 63000) (d + 43) 23 [.ref 21, .int (nI qb), .int (nI (tm 0))] (hp (wr (gv I qn (nI (tm 0))) 16 qa (nI (tm 0))) J Mx) = some (some (.int (nI qb)), hp (wr (gv I qn (nI (tm 0))) 16 qa (nI (tm 0))) J Mx, 0, 0) := fun scr L F d J Mx => c23_f scr L F d (wr (gv I qn (nI (tm 0))) 16 qa (nI (tm 0))) J Mx qb (tm 0) (tm tb) c pB.2.2.2.2.1 h15b ttb ttv hc6 (tyR_tbl r3) hpc2
      refine .inl ⟨wr (gv I qn (nI (tm 0))) 16 qa (nI (tm 0)), va_up M 54 g2, b, qb, pB.2.2.1, by rw [w54 M g2 42 (by omega)]; exact pB.2.2.2.1, pB.2.2.2.2.1, kF_trans kF_gv (kF_wr (by omega)), m54b, r6 c, fun scr L F d J Mx => ?_, fun scr L F d Ix J => ?_⟩
      · have k1 := kR scr L F d J Mx
        have k2 := kR2 scr L F d J Mx
        rw [nI_t0] at k1 k2
        have k3 := c27_g scr L F d I J Mx qn qa qb (nI (tm 0)) hq2 iA iB pA.2.2.2.2.1 _ k1 (by rw [wr_ne _ _ _ _ _ (by omega), gv_ne _ _ _ _ (by omega) (by omega)]; exact iB) _ _ k2
        rw [nI_t0] at k3
        exact c21_minus scr L F d I J Mx qn hq2 x7 _ _ k3
      · have k1 := hg scr L F d Ix J
        rw [nI_0] at k1
        have k2 := hg2 scr L F d Ix J
        rw [nI_0] at k2
        exact t_minus_f2 scr L F d Ix J M y (by omega) x41 a ta pA.2.2.1 pA.1 pA.2.2.2.2.2.1 (by omega) b tb pB.2.2.1 pB.1 pB.2.2.2.2.2.1 (by omega) _ k1 _ k2 (by rw [w54 M g2 47 (by omega)]; exact pB.1)
  · rw [b2] at hg
    rw [b1] at hpc
    obtain ⟨r3, r4⟩ := k14 (I' := gv I qn (nI (tm 0))) (M' := va_up M 54 g) h3 (fun z z1 z2 => gv_ne _ _ _ _ (by omega) (by omega)) (fun z hz => w54 M g z (by omega))
    have kR : ∀ (scr : Nat → Int32) (L F d : Nat) (J : am_J) (Mx : am_I), am_r scr L (F + 63000) (d + 43) 23 [.ref 21, .int (nI qa), .int (nI (tm 0))] (hp (gv I qn (nI (tm 0))) J Mx) = some (some (.int (nI qa)), hp (gv I qn (nI (tm 0))) J Mx, 0, 0) := fun scr L F d J Mx => c23_f scr L F d (gv I qn (nI (tm 0))) J Mx qa (tm 0) (tm ta) c pA.2.2.2.2.1 g15 tta ttu hc6 (tyR_tbl r1) hpc
    refine .inl ⟨gv I qn (nI (tm 0)), va_up M 54 g, a, qa, pA.2.2.1, by rw [w54 M g 42 (by omega)]; exact pA.2.2.2.1, pA.2.2.2.2.1, kF_gv, m54, r4 c, fun scr L F d J Mx => ?_, fun scr L F d Ix J => ?_⟩
    · have k1 := kR scr L F d J Mx
      rw [nI_t0] at k1
      have k3 := c27_f scr L F d I J Mx qn qa qb (nI (tm 0)) hq2 iA iB pA.2.2.2.2.1 _ k1
      rw [nI_t0] at k3
      exact c21_minus scr L F d I J Mx qn hq2 x7 _ _ k3
    · have k1 := hg scr L F d Ix J
      rw [nI_0] at k1
      exact t_minus_f1 scr L F d Ix J M y (by omega) x41 a ta pA.2.2.1 pA.1 pA.2.2.2.2.2.1 (by omega) b tb pB.2.2.1 pB.1 pB.2.2.2.2.2.1 (by omega) _ k1 (by rw [w54 M g 46 (by omega)]; exact pA.1)

theorem ck_less {I0 M0 I M : am_I} {c0 N K c k y q : Nat} (h : SK I0 M0 c0 N K I M c k) (hk : k < K) (hy : M0 50 k = nI y) (hyN : y < N) (hn : nd I0 M0 N c0 y) (hq : M0 42 y = nI q) (hq2 : q < 100) (h41 : M0 41 y = nI 8) (h7 : I0 7 q = nI 8) (hdn : dn M0 y) : ckR I0 M0 c0 N K I M c k y q := by
  have hS := h
  obtain ⟨⟨p1, p2, p3, p4, p5, p6, p7⟩, ⟨e1, e2, e3, e4⟩, h3, h4, h5, h6, h7b, h8, v1, v2⟩ := h
  have x41 : M 41 y = 8 := by
    rw [e1.1, h41]
    decide +kernel
  have x7 : I 7 q = 8 := by
    rw [e3 7 (by omega) (by omega), h7]
    decide +kernel
  have hc5 := h3.1
  have hc6 := h3.2.1
  have hlt := nd_lt hn p2 hyN
  obtain ⟨qn, on, n1, n2, n3, n4, n5, n6, nx1, nx2, nx3, n10, n11, n12, n13⟩ := hn
  have eo := nI_inj (by omega) (by omega) (n3.symm.trans h41)
  subst eo
  have eqn := nI_inj (by omega) (by omega) (n1.symm.trans hq)
  subst eqn
  obtain ⟨a, qa, ta, pA, iA, tA15, tA16, paA, aN, aq, aqq, lenA, exA⟩ := prt hS hk hy hyN hq hq2 (x := 46) (z := 9) (.inl rfl) (by omega) (n11 (by omega)) (fun a ha => ⟨8, by omega, h41, .inl ⟨by omega, ha⟩⟩)
  obtain ⟨hbA, lnA⟩ := prt_hb lenA exA
  have lta := pA.2.2.2.2.2.2
  have tta := tm_lt lta (by omega)
  obtain ⟨b, qb, tb, pB, iB, tB15, tB16, paB, bN, bq, bqq, lenB, exB⟩ := prt hS hk hy hyN hq hq2 (x := 47) (z := 10) (.inr (.inl rfl)) (by omega) (n12 (by omega) (by omega)) (fun a ha => ⟨8, by omega, h41, .inr (.inl ⟨by omega, by omega, ha⟩)⟩)
  obtain ⟨hbB, lnB⟩ := prt_hb lenB exB
  have ltb := pB.2.2.2.2.2.2
  have ttb := tm_lt ltb (by omega)
  have decA : ∀ h w, tw I0 M0 N c0 h w y → ∃ h' w', h = h' + 1 ∧ tw I0 M0 N c0 h' w' a ∧ w' ≤ w := fun h w z => twA z h41 (by omega) (by omega) (by rw [← e1.2.2.2.2.2.1]; exact pA.1) pA.2.2.1 p2
  have decB : ∀ h w, tw I0 M0 N c0 h w y → ∃ h' w', h = h' + 1 ∧ tw I0 M0 N c0 h' w' b ∧ w' ≤ w := fun h w z => twB z h41 (by omega) (by omega) (by rw [← e1.2.2.2.2.2.2.1]; exact pB.1) pB.2.2.1 p2
  obtain ⟨r1, r2⟩ := k14 (I' := gv I qn (nI (tm 1))) (M' := M) h3 (fun z z1 z2 => gv_ne _ _ _ _ (by omega) (by omega)) (fun z _ => rfl)
  have g15 : gv I qn (nI (tm 1)) 15 qa = nI (tm ta) := (gv_z _ _ _ _ _ (by omega) (by omega)).trans tA15
  have ttu := tm_lt (show 0 < c by omega) (show 3 ≤ c by omega)
  have ttv := tm_lt (show 0 < c by omega) (show 3 ≤ c by omega)
  have hpc := PC_cn r1 lta (show 0 < c by omega)
  obtain ⟨g, hg⟩ := co_k h3 lta (show 0 < c by omega) hbA
  have m54 : kG M (va_up M 54 g) := kG_54
  rcases bt (cn M 40 ta 0) with ⟨b1, b2⟩ | ⟨b1, b2⟩
  · rw [b2] at hg
    rw [b1] at hpc
    obtain ⟨G1, G2, G3, G4, G5, G6⟩ := gvw (I := I) (q := qn) (qa := qa) (x := (nI (tm 1))) (v := nI (tm 0))
    obtain ⟨r3, r4⟩ := k14 (I' := wr (gv I qn (nI (tm 1))) 16 qa (nI (tm 0))) (M' := va_up M 54 g) h3 (fun z z1 z2 => G1 z (by omega) (by omega)) (fun z hz => w54 M g z (by omega))
    have kR : ∀ (scr : Nat → Int32) (L F d : Nat) (J : am_J) (Mx : am_I), am_r scr L (F + 63000) (d + 43) 23 [.ref 21, .int (nI qa), .int (nI (tm 0))] (hp (gv I qn (nI (tm 1))) J Mx) = some (some (.int (-1)), hp (wr (gv I qn (nI (tm 1))) 16 qa (nI (tm 0))) J Mx, 0, 0) := fun scr L F d J Mx => c23_g scr L F d (gv I qn (nI (tm 1))) J Mx qa (tm 0) (tm ta) c pA.2.2.2.2.1 g15 tta ttu hc6 (tyR_tbl r1) hpc
    have h15b : wr (gv I qn (nI (tm 1))) 16 qa (nI (tm 0)) 15 qb = nI (tm tb) := (G2 qb bqq).trans tB15
    have hpc2 := PC_cn r3 ltb (show 0 < c by omega)
    rw [cn_M (w54 M g 38 (by omega)) (w54 M g 39 (by omega)) (w54 M g 40 (by omega))] at hpc2
    obtain ⟨g2, hg2⟩ := co_k r3 ltb (show 0 < c by omega) (hb_eq (w54 M g 38 (by omega)) (w54 M g 39 (by omega)) (w54 M g 40 (by omega)) hbB)
    rw [cn_M (w54 M g 38 (by omega)) (w54 M g 39 (by omega)) (w54 M g 40 (by omega))] at hg2
    simp only [va_va] at hg2
    have m54b : kG M (va_up M 54 g2) := kG_54
    have nab : ¬ qa = qb := posne ⟨p1, p2, p3, p4, p5, p6, p7⟩ aN bN aq bq (hdn.1 8 h41 (by omega) (by omega) (by omega) a b (by rw [← e1.2.2.2.2.2.1]; exact pA.1) (by rw [← e1.2.2.2.2.2.2.1]; exact pB.1) pA.2.2.1 pB.2.2.1)
    rcases bt (cn M 40 tb 0) with ⟨b3, b4⟩ | ⟨b3, b4⟩
    · rw [b4] at hg2
      rw [b3] at hpc2
      obtain ⟨W1, W2, W3, W4, W5, W6, W7⟩ := gw2 (I := I) (q := qn) (qa := qa) (qb := qb) (x := (nI (tm 1))) (v := nI (tm 0)) (u := nI (tm 0))
      obtain ⟨r5, r6⟩ := k14 (I' := wr (wr (gv I qn (nI (tm 1))) 16 qa (nI (tm 0))) 16 qb (nI (tm 0))) (M' := va_up M 54 g2) h3 (fun z z1 z2 => W1 z (by omega) (by omega)) (fun z hz => w54 M g2 z (by omega))
      have fk : kF I (wr (wr (gv I qn (nI (tm 1))) 16 qa (nI (tm 0))) 16 qb (nI (tm 0))) := kF_trans kF_gv (kF_trans (kF_wr (by omega)) (kF_wr (by omega)))
      have kR2 : ∀ (scr : Nat → Int32) (L F d : Nat) (J : am_J) (Mx : am_I), am_r scr L (F + 63000) (d + 43) 23 [.ref 21, .int (nI qb), .int (nI (tm 0))] (hp (wr (gv I qn (nI (tm 1))) 16 qa (nI (tm 0))) J Mx) = some (some (.int (-1)), hp (wr (wr (gv I qn (nI (tm 1))) 16 qa (nI (tm 0))) 16 qb (nI (tm 0))) J Mx, 0, 0) := fun scr L F d J Mx => c23_g scr L F d (wr (gv I qn (nI (tm 1))) 16 qa (nI (tm 0))) J Mx qb (tm 0) (tm tb) c pB.2.2.2.2.1 h15b ttb ttv hc6 (tyR_tbl r3) hpc2
      refine .inr ⟨wr (wr (gv I qn (nI (tm 1))) 16 qa (nI (tm 0))) 16 qb (nI (tm 0)), va_up M 54 g2, c, 1, by omega, ⟨Nat.le_refl _, r6 c⟩, fk, m54b, fun scr L F d J Mx => ?_, fun scr L F d Ix J => ?_, ?_⟩
      · have k1 := kR scr L F d J Mx
        have k2 := kR2 scr L F d J Mx
        rw [nI_t0] at k1 k2
        have k3 := c27_g scr L F d I J Mx qn qa qb (nI (tm 1)) hq2 iA iB pA.2.2.2.2.1 _ k1 (by rw [wr_ne _ _ _ _ _ (by omega), gv_ne _ _ _ _ (by omega) (by omega)]; exact iB) _ _ k2
        rw [nI_t1] at k3
        exact c21_less scr L F d I J Mx qn hq2 x7 _ _ k3
      · have k1 := hg scr L F d Ix J
        rw [nI_0] at k1
        have k2 := hg2 scr L F d Ix J
        rw [nI_0] at k2
        exact t_less_g scr L F d Ix J M y (by omega) x41 a ta pA.2.2.1 pA.1 pA.2.2.2.2.2.1 (by omega) b tb pB.2.2.1 pB.1 pB.2.2.2.2.2.1 (by omega) _ k1 _ k2
      · refine fin_ok hS hk hy hyN hq hq2 h41 (by omega) hlt r5 (r6 c) (Nat.le_refl _) (by omega) (by omega) m54b (w54 M g2 71 (by omega)) fk (fun p hp => ⟨W2 p hp, by rw [W1 14 (by omega) (by omega)]⟩) (fun p hp hz => W3 p hp (fun z => hz a aN paA (by rw [z]; exact aq)) (fun z => hz b bN paB (by rw [z]; exact bq))) W4 (W5 aqq bqq) (fun h w z => ⟨?_, ?_⟩) ?_
        · refine hb_eq (w54 M g2 38 (by omega)) (w54 M g2 39 (by omega)) (w54 M g2 40 (by omega)) ?_
          exact hb_0 (by omega)
        · rw [tln_I (W1 6 (by omega) (by omega))]
          have l1 : tln I 1 = 1 := by
            unfold tln
            rw [(h3.2.2.2.2.2.2.1 (tm 1) (tm_lt (by omega) (by omega))).2.2.2.1]
            decide +kernel
          omega
        · have c38 := w54 M g2 38 (by omega)
          have c39 := w54 M g2 39 (by omega)
          have c40 := w54 M g2 40 (by omega)
          have c71 := w54 M g2 71 (by omega)
          exact rl_mk6 (by omega) ⟨a, qa, ta, b, qb, tb, pf_g pA (by omega) (Nat.le_refl _) m54b c71, pf_g pB (by omega) (Nat.le_refl _) m54b c71, ⟨40, by rw [cn_M c38 c39 c40]; exact b1⟩, ⟨40, by rw [cn_M c38 c39 c40]; exact b3⟩, by decide, by rw [W6 nab, nI_t0], by rw [W7, nI_t0]⟩
    · rw [b4] at hg2
      rw [b3] at hpc2
      obtain ⟨r5, r6⟩ := k14 (I' := wr (gv I qn (nI (tm 1))) 16 qa (nI (tm 0))) (M' := va_up M 54 g2) h3 (fun z z1 z2 => G1 z (by omega) (by omega)) (fun z hz => w54 M g2 z (by omega))
      have kR2 : ∀ (scr : Nat → Int32) (L F d : Nat) (J : am_J) (Mx : am_I), am_r scr L (F + 63000) (d + 43) 23 [.ref 21, .int (nI qb), .int (nI (tm 0))] (hp (wr (gv I qn (nI (tm 1))) 16 qa (nI (tm 0))) J Mx) = some (some (.int (nI qb)), hp (wr (gv I qn (nI (tm 1))) 16 qa (nI (tm 0))) J Mx, 0, 0) := fun scr L F d J Mx => c23_f scr L F d (wr (gv I qn (nI (tm 1))) 16 qa (nI (tm 0))) J Mx qb (tm 0) (tm tb) c pB.2.2.2.2.1 h15b ttb ttv hc6 (tyR_tbl r3) hpc2
      refine .inl ⟨wr (gv I qn (nI (tm 1))) 16 qa (nI (tm 0)), va_up M 54 g2, b, qb, pB.2.2.1, by rw [w54 M g2 42 (by omega)]; exact pB.2.2.2.1, pB.2.2.2.2.1, kF_trans kF_gv (kF_wr (by omega)), m54b, r6 c, fun scr L F d J Mx => ?_, fun scr L F d Ix J => ?_⟩
      · have k1 := kR scr L F d J Mx
        have k2 := kR2 scr L F d J Mx
        rw [nI_t0] at k1 k2
        have k3 := c27_g scr L F d I J Mx qn qa qb (nI (tm 1)) hq2 iA iB pA.2.2.2.2.1 _ k1 (by rw [wr_ne _ _ _ _ _ (by omega), gv_ne _ _ _ _ (by omega) (by omega)]; exact iB) _ _ k2
        rw [nI_t1] at k3
        exact c21_less scr L F d I J Mx qn hq2 x7 _ _ k3
      · have k1 := hg scr L F d Ix J
        rw [nI_0] at k1
        have k2 := hg2 scr L F d Ix J
        rw [nI_0] at k2
        exact t_less_f2 scr L F d Ix J M y (by omega) x41 a ta pA.2.2.1 pA.1 pA.2.2.2.2.2.1 (by omega) b tb pB.2.2.1 pB.1 pB.2.2.2.2.2.1 (by omega) _ k1 _ k2 (by rw [w54 M g2 47 (by omega)]; exact pB.1)
  · rw [b2] at hg
    rw [b1] at hpc
    obtain ⟨r3, r4⟩ := k14 (I' := gv I qn (nI (tm 1))) (M' := va_up M 54 g) h3 (fun z z1 z2 => gv_ne _ _ _ _ (by omega) (by omega)) (fun z hz => w54 M g z (by omega))
    have kR : ∀ (scr : Nat → Int32) (L F d : Nat) (J : am_J) (Mx : am_I), am_r scr L (F + 63000) (d + 43) 23 [.ref 21, .int (nI qa), .int (nI (tm 0))] (hp (gv I qn (nI (tm 1))) J Mx) = some (some (.int (nI qa)), hp (gv I qn (nI (tm 1))) J Mx, 0, 0) := fun scr L F d J Mx => c23_f scr L F d (gv I qn (nI (tm 1))) J Mx qa (tm 0) (tm ta) c pA.2.2.2.2.1 g15 tta ttu hc6 (tyR_tbl r1) hpc
    refine .inl ⟨gv I qn (nI (tm 1)), va_up M 54 g, a, qa, pA.2.2.1, by rw [w54 M g 42 (by omega)]; exact pA.2.2.2.1, pA.2.2.2.2.1, kF_gv, m54, r4 c, fun scr L F d J Mx => ?_, fun scr L F d Ix J => ?_⟩
    · have k1 := kR scr L F d J Mx
      rw [nI_t0] at k1
      have k3 := c27_f scr L F d I J Mx qn qa qb (nI (tm 1)) hq2 iA iB pA.2.2.2.2.1 _ k1
      rw [nI_t1] at k3
      exact c21_less scr L F d I J Mx qn hq2 x7 _ _ k3
    · have k1 := hg scr L F d Ix J
      rw [nI_0] at k1
      exact t_less_f1 scr L F d Ix J M y (by omega) x41 a ta pA.2.2.1 pA.1 pA.2.2.2.2.2.1 (by omega) b tb pB.2.2.1 pB.1 pB.2.2.2.2.2.1 (by omega) _ k1 (by rw [w54 M g 46 (by omega)]; exact pA.1)

theorem ck_ch {I0 M0 I M : am_I} {c0 N K c k y q : Nat} (h : SK I0 M0 c0 N K I M c k) (hk : k < K) (hy : M0 50 k = nI y) (hyN : y < N) (hn : nd I0 M0 N c0 y) (hq : M0 42 y = nI q) (hq2 : q < 100) (h41 : M0 41 y = nI 9) (h7 : I0 7 q = nI 9) (hdn : dn M0 y) : ckR I0 M0 c0 N K I M c k y q := by
  have hS := h
  obtain ⟨⟨p1, p2, p3, p4, p5, p6, p7⟩, ⟨e1, e2, e3, e4⟩, h3, h4, h5, h6, h7b, h8, v1, v2⟩ := h
  have x41 : M 41 y = 9 := by
    rw [e1.1, h41]
    decide +kernel
  have x7 : I 7 q = 9 := by
    rw [e3 7 (by omega) (by omega), h7]
    decide +kernel
  have hc5 := h3.1
  have hc6 := h3.2.1
  have hlt := nd_lt hn p2 hyN
  obtain ⟨qn, on, n1, n2, n3, n4, n5, n6, nx1, nx2, nx3, n10, n11, n12, n13⟩ := hn
  have eo := nI_inj (by omega) (by omega) (n3.symm.trans h41)
  subst eo
  have eqn := nI_inj (by omega) (by omega) (n1.symm.trans hq)
  subst eqn
  obtain ⟨a, qa, ta, pA, iA, tA15, tA16, paA, aN, aq, aqq, lenA, exA⟩ := prt hS hk hy hyN hq hq2 (x := 46) (z := 9) (.inl rfl) (by omega) (n11 (by omega)) (fun a ha => ⟨9, by omega, h41, .inl ⟨by omega, ha⟩⟩)
  obtain ⟨hbA, lnA⟩ := prt_hb lenA exA
  have lta := pA.2.2.2.2.2.2
  have tta := tm_lt lta (by omega)
  obtain ⟨b, qb, tb, pB, iB, tB15, tB16, paB, bN, bq, bqq, lenB, exB⟩ := prt hS hk hy hyN hq hq2 (x := 47) (z := 10) (.inr (.inl rfl)) (by omega) (n12 (by omega) (by omega)) (fun a ha => ⟨9, by omega, h41, .inr (.inl ⟨by omega, by omega, ha⟩)⟩)
  obtain ⟨hbB, lnB⟩ := prt_hb lenB exB
  have ltb := pB.2.2.2.2.2.2
  have ttb := tm_lt ltb (by omega)
  obtain ⟨e, qe, te, pE, iE, tE15, tE16, paE, eN, eq, eqq, lenE, exE⟩ := prt hS hk hy hyN hq hq2 (x := 48) (z := 11) (.inr (.inr rfl)) (by omega) (n13 (by omega)) (fun a ha => ⟨9, by omega, h41, .inr (.inr ⟨by omega, ha⟩)⟩)
  obtain ⟨hbE, lnE⟩ := prt_hb lenE exE
  have lte := pE.2.2.2.2.2.2
  have tte := tm_lt lte (by omega)
  have decA : ∀ h w, tw I0 M0 N c0 h w y → ∃ h' w', h = h' + 1 ∧ tw I0 M0 N c0 h' w' a ∧ w' ≤ w := fun h w z => twA z h41 (by omega) (by omega) (by rw [← e1.2.2.2.2.2.1]; exact pA.1) pA.2.2.1 p2
  have decB : ∀ h w, tw I0 M0 N c0 h w y → ∃ h' w', h = h' + 1 ∧ tw I0 M0 N c0 h' w' b ∧ w' ≤ w := fun h w z => twB z h41 (by omega) (by omega) (by rw [← e1.2.2.2.2.2.2.1]; exact pB.1) pB.2.2.1 p2
  obtain ⟨r1, r2⟩ := k14 (I' := gv I qn (nI (tm tb))) (M' := M) h3 (fun z z1 z2 => gv_ne _ _ _ _ (by omega) (by omega)) (fun z _ => rfl)
  have g15 : gv I qn (nI (tm tb)) 15 qa = nI (tm ta) := (gv_z _ _ _ _ _ (by omega) (by omega)).trans tA15
  have ttu := tm_lt (show 1 < c by omega) (show 3 ≤ c by omega)
  have ttv := tm_lt (show tb < c by omega) (show 3 ≤ c by omega)
  have hpc := PC_cn r1 lta (show 1 < c by omega)
  obtain ⟨g, hg⟩ := co_k h3 lta (show 1 < c by omega) hbA
  have m54 : kG M (va_up M 54 g) := kG_54
  rcases bt (cn M 40 ta 1) with ⟨b1, b2⟩ | ⟨b1, b2⟩
  · rw [b2] at hg
    rw [b1] at hpc
    obtain ⟨G1, G2, G3, G4, G5, G6⟩ := gvw (I := I) (q := qn) (qa := qa) (x := (nI (tm tb))) (v := nI (tm 1))
    obtain ⟨r3, r4⟩ := k14 (I' := wr (gv I qn (nI (tm tb))) 16 qa (nI (tm 1))) (M' := va_up M 54 g) h3 (fun z z1 z2 => G1 z (by omega) (by omega)) (fun z hz => w54 M g z (by omega))
    have kR : ∀ (scr : Nat → Int32) (L F d : Nat) (J : am_J) (Mx : am_I), am_r scr L (F + 63000) (d + 43) 23 [.ref 21, .int (nI qa), .int (nI (tm 1))] (hp (gv I qn (nI (tm tb))) J Mx) = some (some (.int (-1)), hp (wr (gv I qn (nI (tm tb))) 16 qa (nI (tm 1))) J Mx, 0, 0) := fun scr L F d J Mx => c23_g scr L F d (gv I qn (nI (tm tb))) J Mx qa (tm 1) (tm ta) c pA.2.2.2.2.1 g15 tta ttu hc6 (tyR_tbl r1) hpc
    have h15b : wr (gv I qn (nI (tm tb))) 16 qa (nI (tm 1)) 15 qe = nI (tm te) := (G2 qe eqq).trans tE15
    have hpc2 := PC_cn r3 lte (show tb < c by omega)
    rw [cn_M (w54 M g 38 (by omega)) (w54 M g 39 (by omega)) (w54 M g 40 (by omega))] at hpc2
    obtain ⟨g2, hg2⟩ := co_k r3 lte (show tb < c by omega) (hb_eq (w54 M g 38 (by omega)) (w54 M g 39 (by omega)) (w54 M g 40 (by omega)) hbE)
    rw [cn_M (w54 M g 38 (by omega)) (w54 M g 39 (by omega)) (w54 M g 40 (by omega))] at hg2
    simp only [va_va] at hg2
    have m54b : kG M (va_up M 54 g2) := kG_54
    have nab : ¬ qa = qe := posne ⟨p1, p2, p3, p4, p5, p6, p7⟩ aN eN aq eq (hdn.2.1 h41 a e (by rw [← e1.2.2.2.2.2.1]; exact pA.1) (by rw [← e1.2.2.2.2.2.2.2]; exact pE.1) pA.2.2.1 pE.2.2.1)
    rcases bt (cn M 40 te tb) with ⟨b3, b4⟩ | ⟨b3, b4⟩
    · rw [b4] at hg2
      rw [b3] at hpc2
      obtain ⟨W1, W2, W3, W4, W5, W6, W7⟩ := gw2 (I := I) (q := qn) (qa := qa) (qb := qe) (x := (nI (tm tb))) (v := nI (tm 1)) (u := nI (tm tb))
      obtain ⟨r5, r6⟩ := k14 (I' := wr (wr (gv I qn (nI (tm tb))) 16 qa (nI (tm 1))) 16 qe (nI (tm tb))) (M' := va_up M 54 g2) h3 (fun z z1 z2 => W1 z (by omega) (by omega)) (fun z hz => w54 M g2 z (by omega))
      have fk : kF I (wr (wr (gv I qn (nI (tm tb))) 16 qa (nI (tm 1))) 16 qe (nI (tm tb))) := kF_trans kF_gv (kF_trans (kF_wr (by omega)) (kF_wr (by omega)))
      have kR2 : ∀ (scr : Nat → Int32) (L F d : Nat) (J : am_J) (Mx : am_I), am_r scr L (F + 63000) (d + 43) 23 [.ref 21, .int (nI qe), .int (nI (tm tb))] (hp (wr (gv I qn (nI (tm tb))) 16 qa (nI (tm 1))) J Mx) = some (some (.int (-1)), hp (wr (wr (gv I qn (nI (tm tb))) 16 qa (nI (tm 1))) 16 qe (nI (tm tb))) J Mx, 0, 0) := fun scr L F d J Mx => c23_g scr L F d (wr (gv I qn (nI (tm tb))) 16 qa (nI (tm 1))) J Mx qe (tm tb) (tm te) c pE.2.2.2.2.1 h15b tte ttv hc6 (tyR_tbl r3) hpc2
      refine .inr ⟨wr (wr (gv I qn (nI (tm tb))) 16 qa (nI (tm 1))) 16 qe (nI (tm tb)), va_up M 54 g2, c, tb, by omega, ⟨Nat.le_refl _, r6 c⟩, fk, m54b, fun scr L F d J Mx => ?_, fun scr L F d Ix J => ?_, ?_⟩
      · have k1 := kR scr L F d J Mx
        have k2 := kR2 scr L F d J Mx
        rw [nI_t1] at k1 k2
        have k3 := c28_g scr L F d I J Mx qn qa qb qe (nI (tm tb)) hq2 iA iB pA.2.2.2.2.1 pB.2.2.2.2.1 tB15 _ k1 (by rw [wr_ne _ _ _ _ _ (by omega), gv_ne _ _ _ _ (by omega) (by omega)]; exact iE) _ _ k2
        exact c21_ch scr L F d I J Mx qn hq2 x7 _ _ k3
      · exact t_ch_g scr L F d Ix J M y (by omega) x41 a ta pA.2.2.1 pA.1 pA.2.2.2.2.2.1 (by omega) b tb pB.2.2.1 pB.1 pB.2.2.2.2.2.1 (by omega) _ (hg scr L F d Ix J) e te pE.2.2.1 (by rw [w54 M g 48 (by omega)]; exact pE.1) (by rw [w54 M g 71 (by omega)]; exact pE.2.2.2.2.2.1) (by omega) _ (hg2 scr L F d Ix J)
      · refine fin_ok hS hk hy hyN hq hq2 h41 (by omega) hlt r5 (r6 c) (Nat.le_refl _) (by omega) (by omega) m54b (w54 M g2 71 (by omega)) fk (fun p hp => ⟨W2 p hp, by rw [W1 14 (by omega) (by omega)]⟩) (fun p hp hz => W3 p hp (fun z => hz a aN paA (by rw [z]; exact aq)) (fun z => hz e eN paE (by rw [z]; exact eq))) W4 (W5 aqq eqq) (fun h w z => ⟨?_, ?_⟩) ?_
        · refine hb_eq (w54 M g2 38 (by omega)) (w54 M g2 39 (by omega)) (w54 M g2 40 (by omega)) ?_
          obtain ⟨h', w', d1, d2, d3⟩ := decB h w z
          exact hb_le (by omega) (lenB h' w' d2).1
        · rw [tln_I (W1 6 (by omega) (by omega))]
          obtain ⟨h', w', d1, d2, d3⟩ := decB h w z
          have := (lenB h' w' d2).2
          omega
        · have c38 := w54 M g2 38 (by omega)
          have c39 := w54 M g2 39 (by omega)
          have c40 := w54 M g2 40 (by omega)
          have c71 := w54 M g2 71 (by omega)
          refine rl_mk9 ⟨a, qa, ta, b, qb, tb, e, qe, te, pf_g pA (by omega) (Nat.le_refl _) m54b c71, pf_g pB (by omega) (Nat.le_refl _) m54b c71, pf_g pE (by omega) (Nat.le_refl _) m54b c71, ⟨40, by rw [cn_M c38 c39 c40]; exact b1⟩, ⟨40, by rw [cn_M c38 c39 c40]; exact b3⟩, rfl, by rw [W6 nab, nI_t1], ?_, W7⟩
          rw [W3 qb bqq (posne ⟨p1, p2, p3, p4, p5, p6, p7⟩ bN aN bq aq (fun z => hdn.1 9 h41 (by omega) (by omega) (by omega) a b (by rw [← e1.2.2.2.2.2.1]; exact pA.1) (by rw [← e1.2.2.2.2.2.2.1]; exact pB.1) pA.2.2.1 pB.2.2.1 z.symm)) (posne ⟨p1, p2, p3, p4, p5, p6, p7⟩ bN eN bq eq (hdn.2.2 h41 b e (by rw [← e1.2.2.2.2.2.2.1]; exact pB.1) (by rw [← e1.2.2.2.2.2.2.2]; exact pE.1) pB.2.2.1 pE.2.2.1))]
          exact tB16
    · rw [b4] at hg2
      rw [b3] at hpc2
      obtain ⟨r5, r6⟩ := k14 (I' := wr (gv I qn (nI (tm tb))) 16 qa (nI (tm 1))) (M' := va_up M 54 g2) h3 (fun z z1 z2 => G1 z (by omega) (by omega)) (fun z hz => w54 M g2 z (by omega))
      have kR2 : ∀ (scr : Nat → Int32) (L F d : Nat) (J : am_J) (Mx : am_I), am_r scr L (F + 63000) (d + 43) 23 [.ref 21, .int (nI qe), .int (nI (tm tb))] (hp (wr (gv I qn (nI (tm tb))) 16 qa (nI (tm 1))) J Mx) = some (some (.int (nI qe)), hp (wr (gv I qn (nI (tm tb))) 16 qa (nI (tm 1))) J Mx, 0, 0) := fun scr L F d J Mx => c23_f scr L F d (wr (gv I qn (nI (tm tb))) 16 qa (nI (tm 1))) J Mx qe (tm tb) (tm te) c pE.2.2.2.2.1 h15b tte ttv hc6 (tyR_tbl r3) hpc2
      refine .inl ⟨wr (gv I qn (nI (tm tb))) 16 qa (nI (tm 1)), va_up M 54 g2, e, qe, pE.2.2.1, by rw [w54 M g2 42 (by omega)]; exact pE.2.2.2.1, pE.2.2.2.2.1, kF_trans kF_gv (kF_wr (by omega)), m54b, r6 c, fun scr L F d J Mx => ?_, fun scr L F d Ix J => ?_⟩
      · have k1 := kR scr L F d J Mx
        have k2 := kR2 scr L F d J Mx
        rw [nI_t1] at k1 k2
        have k3 := c28_g scr L F d I J Mx qn qa qb qe (nI (tm tb)) hq2 iA iB pA.2.2.2.2.1 pB.2.2.2.2.1 tB15 _ k1 (by rw [wr_ne _ _ _ _ _ (by omega), gv_ne _ _ _ _ (by omega) (by omega)]; exact iE) _ _ k2
        exact c21_ch scr L F d I J Mx qn hq2 x7 _ _ k3
      · exact t_ch_f2 scr L F d Ix J M y (by omega) x41 a ta pA.2.2.1 pA.1 pA.2.2.2.2.2.1 (by omega) b tb pB.2.2.1 pB.1 pB.2.2.2.2.2.1 (by omega) _ (hg scr L F d Ix J) e te pE.2.2.1 (by rw [w54 M g 48 (by omega)]; exact pE.1) (by rw [w54 M g 71 (by omega)]; exact pE.2.2.2.2.2.1) (by omega) _ (hg2 scr L F d Ix J) (by rw [w54 M g2 48 (by omega)]; exact pE.1)
  · rw [b2] at hg
    rw [b1] at hpc
    obtain ⟨r3, r4⟩ := k14 (I' := gv I qn (nI (tm tb))) (M' := va_up M 54 g) h3 (fun z z1 z2 => gv_ne _ _ _ _ (by omega) (by omega)) (fun z hz => w54 M g z (by omega))
    have kR : ∀ (scr : Nat → Int32) (L F d : Nat) (J : am_J) (Mx : am_I), am_r scr L (F + 63000) (d + 43) 23 [.ref 21, .int (nI qa), .int (nI (tm 1))] (hp (gv I qn (nI (tm tb))) J Mx) = some (some (.int (nI qa)), hp (gv I qn (nI (tm tb))) J Mx, 0, 0) := fun scr L F d J Mx => c23_f scr L F d (gv I qn (nI (tm tb))) J Mx qa (tm 1) (tm ta) c pA.2.2.2.2.1 g15 tta ttu hc6 (tyR_tbl r1) hpc
    refine .inl ⟨gv I qn (nI (tm tb)), va_up M 54 g, a, qa, pA.2.2.1, by rw [w54 M g 42 (by omega)]; exact pA.2.2.2.1, pA.2.2.2.2.1, kF_gv, m54, r4 c, fun scr L F d J Mx => ?_, fun scr L F d Ix J => ?_⟩
    · have k1 := kR scr L F d J Mx
      rw [nI_t1] at k1
      have k3 := c28_f scr L F d I J Mx qn qa qb qe (nI (tm tb)) hq2 iA iB pA.2.2.2.2.1 pB.2.2.2.2.1 tB15 _ k1
      exact c21_ch scr L F d I J Mx qn hq2 x7 _ _ k3
    · exact t_ch_f1 scr L F d Ix J M y (by omega) x41 a ta pA.2.2.1 pA.1 pA.2.2.2.2.2.1 (by omega) b tb pB.2.2.1 pB.1 pB.2.2.2.2.2.1 (by omega) _ (hg scr L F d Ix J) (by rw [w54 M g 46 (by omega)]; exact pA.1)

