/-! Checking: calls and writes; any node. -/
theorem ck_call {I0 M0 I M : am_I} {c0 N K c k y q : Nat} (h : SK I0 M0 c0 N K I M c k) (hk : k < K) (hy : M0 50 k = nI y) (hyN : y < N) (hn : nd I0 M0 N c0 y) (hq : M0 42 y = nI q) (hq2 : q < 100) (h41 : M0 41 y = nI 4) (h7 : I0 7 q = nI 4) (hdn : dn M0 y) : ckR I0 M0 c0 N K I M c k y q := by
  have hS := h
  obtain ⟨⟨p1, p2, p3, p4, p5, p6, p7⟩, ⟨e1, e2, e3, e4⟩, h3, h4, h5, h6, h7b, h8, v1, v2⟩ := h
  have x41 : M 41 y = 4 := by
    rw [e1.1, h41]
    decide +kernel
  have x7 : I 7 q = 4 := by
    rw [e3 7 (by omega) (by omega), h7]
    decide +kernel
  have hc5 := h3.1
  have hc6 := h3.2.1
  have hlt := nd_lt hn p2 hyN
  obtain ⟨qn, on, n1, n2, n3, n4, n5, n6, nx1, nx2, nx3, n10, n11, n12, n13⟩ := hn
  have eo := nI_inj (by omega) (by omega) (n3.symm.trans h41)
  subst eo
  have eqn := nI_inj (by omega) (by omega) (n1.symm.trans hq)
  subst eqn
  obtain ⟨a, qa, ta, pA, iA, tA15, tA16, paA, aN, aq, aqq, lenA, exA⟩ := prt hS hk hy hyN hq hq2 (x := 46) (z := 9) (.inl rfl) (by omega) (n11 (by omega)) (fun a ha => ⟨4, by omega, h41, .inl ⟨by omega, ha⟩⟩)
  obtain ⟨hbA, lnA⟩ := prt_hb lenA exA
  have lta := pA.2.2.2.2.2.2
  have tta := tm_lt lta (by omega)
  obtain ⟨b, qb, tb, pB, iB, tB15, tB16, paB, bN, bq, bqq, lenB, exB⟩ := prt hS hk hy hyN hq hq2 (x := 47) (z := 10) (.inr (.inl rfl)) (by omega) (n12 (by omega) (by omega)) (fun a ha => ⟨4, by omega, h41, .inr (.inl ⟨by omega, by omega, ha⟩)⟩)
  obtain ⟨hbB, lnB⟩ := prt_hb lenB exB
  have ltb := pB.2.2.2.2.2.2
  have ttb := tm_lt ltb (by omega)
  have decA : ∀ h w, tw I0 M0 N c0 h w y → ∃ h' w', h = h' + 1 ∧ tw I0 M0 N c0 h' w' a ∧ w' ≤ w := fun h w z => twA z h41 (by omega) (by omega) (by rw [← e1.2.2.2.2.2.1]; exact pA.1) pA.2.2.1 p2
  have decB : ∀ h w, tw I0 M0 N c0 h w y → ∃ h' w', h = h' + 1 ∧ tw I0 M0 N c0 h' w' b ∧ w' ≤ w := fun h w z => twB z h41 (by omega) (by omega) (by rw [← e1.2.2.2.2.2.2.1]; exact pB.1) pB.2.2.1 p2
  have nab : ¬ qa = qb := posne ⟨p1, p2, p3, p4, p5, p6, p7⟩ aN bN aq bq (hdn.1 4 h41 (by omega) (by omega) (by omega) a b (by rw [← e1.2.2.2.2.2.1]; exact pA.1) (by rw [← e1.2.2.2.2.2.2.1]; exact pB.1) pA.2.2.1 pB.2.2.1)
  have nw : (3 : Int32) = nI (4 - 1) := by decide +kernel
  by_cases z2 : ta = 2
  · have k2 : ¬ M 38 ta = 3 := by
      rw [z2, (h3.2.2.2.2.2.2.1 2 (by omega)).2.2.2.2]
      exact (n03 2 (by omega)).1
    have t0 : I 15 qa = 0 := by
      rw [tA15, z2, nI_t2]
    obtain ⟨r1, r2⟩ := k14 (I' := gv (wr (wr I 16 qa 3) 16 qb 0) qn 0) (M' := M) h3 (fun z z1 z2 => by rw [gv_ne _ _ _ _ (by omega) (by omega), wr_ne _ _ _ _ _ (by omega), wr_ne _ _ _ _ _ (by omega)]) (fun z _ => rfl)
    have fk : kF I (gv (wr (wr I 16 qa 3) 16 qb 0) qn 0) := kF_trans (kF_wr (by omega)) (kF_trans (kF_wr (by omega)) kF_gv)
    refine .inr ⟨gv (wr (wr I 16 qa 3) 16 qb 0) qn 0, M, c, 2, by omega, ⟨Nat.le_refl _, r2 c⟩, fk, kG_refl M, fun scr L F d J Mx => ?_, fun scr L F d Ix J => ?_, ?_⟩
    · have k1 := c25_o scr L F d I J Mx qn qa qb 3 hq2 pA.2.2.2.2.1 pB.2.2.2.2.1 iA iB t0
      exact c21_call scr L F d I J Mx qn hq2 x7 _ _ k1
    · exact t_call_o scr L F d Ix J M y (by omega) x41 a ta pA.2.2.1 pA.1 pA.2.2.2.2.2.1 (by omega) b tb pB.2.2.1 pB.1 pB.2.2.2.2.2.1 (by omega) k2 z2
    · refine fin_ok hS hk hy hyN hq hq2 h41 (by omega) hlt r1 (r2 c) (Nat.le_refl _) (by omega) (by omega) (kG_refl M) rfl fk (fun p hp => ⟨?_, ?_⟩) (fun p hp hz => ?_) (by rw [gv_15, nI_t2]) (by rw [gv_16, nI_t2]) (fun h w z => ⟨hb_0 (by omega), ?_⟩) ?_
      · rw [gv_z _ _ _ _ _ (by omega) (by omega), wr_q _ _ _ _ _ _ (by omega), wr_q _ _ _ _ _ _ (by omega)]
      · rw [gv_z _ _ _ _ _ (by omega) (by omega), wr_q _ _ _ _ _ _ (by omega), wr_q _ _ _ _ _ _ (by omega)]
      · rw [gv_z _ _ _ _ _ (by omega) (by omega), wr_q _ _ _ _ _ _ (fun z => hz b bN paB (by rw [z.2]; exact bq)), wr_q _ _ _ _ _ _ (fun z => hz a aN paA (by rw [z.2]; exact aq))]
      · rw [tln_I (I := I) (by rw [gv_ne _ _ _ _ (by omega) (by omega), wr_ne _ _ _ _ _ (by omega), wr_ne _ _ _ _ _ (by omega)])]
        unfold tln
        rw [(h3.2.2.2.2.2.2.1 (tm 2) (tm_lt (by omega) (by omega))).2.2.2.1]
        have : (1 : Int32).toNatClampNeg = 1 := by decide +kernel
        omega
      · refine rl_mk4 (by omega) ⟨a, qa, ta, b, qb, tb, pA, pB, .inl ⟨z2, rfl, ?_, ?_⟩⟩
        · rw [gv_z _ _ _ _ _ (by omega) (by omega), wr_q _ _ _ _ _ _ (by omega), wr_s]
          exact nw
        · rw [gv_z _ _ _ _ _ (by omega) (by omega), wr_s]
  · have a0 : 0 < tm ta := by
      have := (tm_ne0 (t := ta)).mp
      omega
    by_cases k4 : M 38 ta = 3
    · have t3 : 3 ≤ ta := by
        refine Decidable.byContradiction (fun z => ?_)
        rw [(h3.2.2.2.2.2.2.1 ta (by omega)).2.2.2.2] at k4
        exact (n03 ta (by omega)).1 k4
      obtain ⟨w1, w2, w3, w4⟩ := ty_5 h3 lta t3
      obtain ⟨tr, htr⟩ : ∃ tr, tr = tB M ta := ⟨_, rfl⟩
      rw [if_pos k4, ← htr] at w2
      have i3 : I 3 (tm ta) = 3 := by
        rcases ty_kind h3 lta with ⟨b1, _⟩ | ⟨_, b2, b3, _⟩ | ⟨_, b2, b3, _⟩
        · omega
        · exact b3
        · exact absurd (b2.symm.trans k4) n43
      have ltA := (tyR_A h3 ta t3 lta).2
      have ltr : tr < c := by
        rw [htr]
        exact ((tyR_A h3 ta t3 lta).1 k4).2
      have ttl := tm_lt ltA (show 3 ≤ c by omega)
      obtain ⟨r1, r2⟩ := k14 (I' := gv I qn (nI (tm tr))) (M' := M) h3 (fun z z1 z2 => gv_ne _ _ _ _ (by omega) (by omega)) (fun z _ => rfl)
      have g15 : gv I qn (nI (tm tr)) 15 qb = nI (tm tb) := (gv_z _ _ _ _ _ (by omega) (by omega)).trans tB15
      have hpc := PC_cn r1 ltb ltA
      obtain ⟨g, hg⟩ := co_k h3 ltb ltA hbB
      have m54 : kG M (va_up M 54 g) := kG_54
      rcases bt (cn M 40 tb (tA M ta)) with ⟨b1, b2⟩ | ⟨b1, b2⟩
      · rw [b2] at hg
        rw [b1] at hpc
        obtain ⟨G1, G2, G3, G4, G5, G6⟩ := gvw (I := I) (q := qn) (qa := qb) (x := (nI (tm tr))) (v := nI (tm (tA M ta)))
        obtain ⟨r3, r4⟩ := k14 (I' := wr (gv I qn (nI (tm tr))) 16 qb (nI (tm (tA M ta)))) (M' := va_up M 54 g) h3 (fun z z1 z2 => G1 z (by omega) (by omega)) (fun z hz => w54 M g z (by omega))
        have fk : kF I (wr (gv I qn (nI (tm tr))) 16 qb (nI (tm (tA M ta)))) := kF_trans kF_gv (kF_wr (by omega))
        refine .inr ⟨wr (gv I qn (nI (tm tr))) 16 qb (nI (tm (tA M ta))), va_up M 54 g, c, tr, by omega, ⟨Nat.le_refl _, r4 c⟩, fk, m54, fun scr L F d J Mx => ?_, fun scr L F d Ix J => ?_, ?_⟩
        · have k1 := c23_g scr L F d (gv I qn (nI (tm tr))) J Mx qb (tm (tA M ta)) (tm tb) c pB.2.2.2.2.1 g15 ttb ttl hc6 (tyR_tbl r1) hpc
          have k2 := c25_r scr L F d I J Mx qn qa qb 3 hq2 pA.2.2.2.2.1 pB.2.2.2.2.1 iA iB (tm ta) tA15 (by omega) a0 i3 _ w1 _ w2 _ _ k1
          exact c21_call scr L F d I J Mx qn hq2 x7 _ _ k2
        · exact t_call_g scr L F d Ix J M y (by omega) x41 a ta pA.2.2.1 pA.1 pA.2.2.2.2.2.1 (by omega) b tb pB.2.2.1 pB.1 pB.2.2.2.2.2.1 (by omega) k4 (tA M ta) w3 _ (hg scr L F d Ix J) _ (by rw [w54 M g 40 (by omega), htr]; exact w4 k4)
        · refine fin_ok hS hk hy hyN hq hq2 h41 (by omega) hlt r3 (r4 c) (Nat.le_refl _) (by omega) ltr m54 (w54 M g 71 (by omega)) fk (fun p hp => ⟨G2 p hp, by rw [G1 14 (by omega) (by omega)]⟩) (fun p hp hz => G3 p hp (fun z => hz b bN paB (by rw [z]; exact bq))) G4 (G5 bqq) (fun h w z => ⟨?_, ?_⟩) ?_
          · refine hb_eq (w54 M g 38 (by omega)) (w54 M g 39 (by omega)) (w54 M g 40 (by omega)) ?_
            obtain ⟨h', w', d1, d2, d3⟩ := decA h w z
            rw [htr]
            exact hb_le (by omega) ((hb_sub h3 lta (lenA h' w' d2).1 t3).2 k4)
          · obtain ⟨h', w', d1, d2, d3⟩ := decA h w z
            have y1 := (lenA h' w' d2).2
            have y2 := (ty_len h3 lta).2.2.2.1 k4
            rw [tln_I (G1 6 (by omega) (by omega)), htr]
            omega
          · have eA : tA (va_up M 54 g) ta = tA M ta := by
              unfold tA
              rw [w54 M g 39 (by omega)]
            have eB : tB (va_up M 54 g) ta = tB M ta := by
              unfold tB
              rw [w54 M g 40 (by omega)]
            refine rl_mk4 (by omega) ⟨a, qa, ta, b, qb, tb, pf_g pA (by omega) (Nat.le_refl _) m54 (w54 M g 71 (by omega)), pf_g pB (by omega) (Nat.le_refl _) m54 (w54 M g 71 (by omega)), .inr ⟨?_, ?_, ?_, ?_, ?_⟩⟩
            · rw [w54 M g 38 (by omega), k4]
              exact nw
            · rw [eA]
              exact ⟨40, by rw [cn_M (w54 M g 38 (by omega)) (w54 M g 39 (by omega)) (w54 M g 40 (by omega))]; exact b1⟩
            · rw [eA, eB, htr]
              rfl
            · rw [G3 qa aqq nab]
              exact tA16
            · rw [eA]
              exact G6
      · rw [b2] at hg
        rw [b1] at hpc
        obtain ⟨r3, r4⟩ := k14 (I' := gv I qn (nI (tm tr))) (M' := va_up M 54 g) h3 (fun z z1 z2 => gv_ne _ _ _ _ (by omega) (by omega)) (fun z hz => w54 M g z (by omega))
        refine .inl ⟨gv I qn (nI (tm tr)), va_up M 54 g, b, qb, pB.2.2.1, by rw [w54 M g 42 (by omega)]; exact pB.2.2.2.1, pB.2.2.2.2.1, kF_gv, m54, r4 c, fun scr L F d J Mx => ?_, fun scr L F d Ix J => ?_⟩
        · have k1 := c23_f scr L F d (gv I qn (nI (tm tr))) J Mx qb (tm (tA M ta)) (tm tb) c pB.2.2.2.2.1 g15 ttb ttl hc6 (tyR_tbl r1) hpc
          have k2 := c25_r scr L F d I J Mx qn qa qb 3 hq2 pA.2.2.2.2.1 pB.2.2.2.2.1 iA iB (tm ta) tA15 (by omega) a0 i3 _ w1 _ w2 _ _ k1
          exact c21_call scr L F d I J Mx qn hq2 x7 _ _ k2
        · exact t_call_f scr L F d Ix J M y (by omega) x41 a ta pA.2.2.1 pA.1 pA.2.2.2.2.2.1 (by omega) b tb pB.2.2.1 pB.1 pB.2.2.2.2.2.1 (by omega) k4 (tA M ta) w3 _ (hg scr L F d Ix J) (by rw [w54 M g 47 (by omega)]; exact pB.1)
    · have i3 : ¬ I 3 (tm ta) = 3 := by
        rcases ty_kind h3 lta with ⟨b1, _, b3⟩ | ⟨_, b2, b3, _⟩ | ⟨_, b2, b3, _⟩
        · rw [b3]
          exact (n03 (tm ta) (tm_lt b1 (by omega))).1
        · exact absurd b2 k4
        · rw [b3]; exact n43
      refine .inl ⟨I, M, a, qa, pA.2.2.1, pA.2.2.2.1, pA.2.2.2.2.1, kF_refl I, kG_refl M, tyX_refl I M c, fun scr L F d J Mx => ?_, fun scr L F d Ix J => ?_⟩
      · have k1 := c25_f scr L F d I J Mx qn qa qb 3 hq2 pA.2.2.2.2.1 pB.2.2.2.2.1 iA iB (tm ta) tA15 (by omega) a0 i3
        exact c21_call scr L F d I J Mx qn hq2 x7 _ _ k1
      · exact t_call_e scr L F d Ix J M y (by omega) x41 a ta pA.2.2.1 pA.1 pA.2.2.2.2.2.1 (by omega) b tb pB.2.2.1 pB.1 pB.2.2.2.2.2.1 (by omega) k4 z2

theorem ck_write {I0 M0 I M : am_I} {c0 N K c k y q : Nat} (h : SK I0 M0 c0 N K I M c k) (hk : k < K) (hy : M0 50 k = nI y) (hyN : y < N) (hn : nd I0 M0 N c0 y) (hq : M0 42 y = nI q) (hq2 : q < 100) (h41 : M0 41 y = nI 5) (h7 : I0 7 q = nI 5) (hdn : dn M0 y) : ckR I0 M0 c0 N K I M c k y q := by
  have hS := h
  obtain ⟨⟨p1, p2, p3, p4, p5, p6, p7⟩, ⟨e1, e2, e3, e4⟩, h3, h4, h5, h6, h7b, h8, v1, v2⟩ := h
  have x41 : M 41 y = 5 := by
    rw [e1.1, h41]
    decide +kernel
  have x7 : I 7 q = 5 := by
    rw [e3 7 (by omega) (by omega), h7]
    decide +kernel
  have hc5 := h3.1
  have hc6 := h3.2.1
  have hlt := nd_lt hn p2 hyN
  obtain ⟨qn, on, n1, n2, n3, n4, n5, n6, nx1, nx2, nx3, n10, n11, n12, n13⟩ := hn
  have eo := nI_inj (by omega) (by omega) (n3.symm.trans h41)
  subst eo
  have eqn := nI_inj (by omega) (by omega) (n1.symm.trans hq)
  subst eqn
  obtain ⟨a, qa, ta, pA, iA, tA15, tA16, paA, aN, aq, aqq, lenA, exA⟩ := prt hS hk hy hyN hq hq2 (x := 46) (z := 9) (.inl rfl) (by omega) (n11 (by omega)) (fun a ha => ⟨5, by omega, h41, .inl ⟨by omega, ha⟩⟩)
  obtain ⟨hbA, lnA⟩ := prt_hb lenA exA
  have lta := pA.2.2.2.2.2.2
  have tta := tm_lt lta (by omega)
  obtain ⟨b, qb, tb, pB, iB, tB15, tB16, paB, bN, bq, bqq, lenB, exB⟩ := prt hS hk hy hyN hq hq2 (x := 47) (z := 10) (.inr (.inl rfl)) (by omega) (n12 (by omega) (by omega)) (fun a ha => ⟨5, by omega, h41, .inr (.inl ⟨by omega, by omega, ha⟩)⟩)
  obtain ⟨hbB, lnB⟩ := prt_hb lenB exB
  have ltb := pB.2.2.2.2.2.2
  have ttb := tm_lt ltb (by omega)
  have decA : ∀ h w, tw I0 M0 N c0 h w y → ∃ h' w', h = h' + 1 ∧ tw I0 M0 N c0 h' w' a ∧ w' ≤ w := fun h w z => twA z h41 (by omega) (by omega) (by rw [← e1.2.2.2.2.2.1]; exact pA.1) pA.2.2.1 p2
  have decB : ∀ h w, tw I0 M0 N c0 h w y → ∃ h' w', h = h' + 1 ∧ tw I0 M0 N c0 h' w' b ∧ w' ≤ w := fun h w z => twB z h41 (by omega) (by omega) (by rw [← e1.2.2.2.2.2.2.1]; exact pB.1) pB.2.2.1 p2
  have nab : ¬ qa = qb := posne ⟨p1, p2, p3, p4, p5, p6, p7⟩ aN bN aq bq (hdn.1 5 h41 (by omega) (by omega) (by omega) a b (by rw [← e1.2.2.2.2.2.1]; exact pA.1) (by rw [← e1.2.2.2.2.2.2.1]; exact pB.1) pA.2.2.1 pB.2.2.1)
  have nw : (4 : Int32) = nI (5 - 1) := by decide +kernel
  by_cases z2 : ta = 2
  · have k2 : ¬ M 38 ta = 4 := by
      rw [z2, (h3.2.2.2.2.2.2.1 2 (by omega)).2.2.2.2]
      exact (n03 2 (by omega)).2.1
    have t0 : I 15 qa = 0 := by
      rw [tA15, z2, nI_t2]
    obtain ⟨r1, r2⟩ := k14 (I' := gv (wr (wr I 16 qa 4) 16 qb 0) qn 0) (M' := M) h3 (fun z z1 z2 => by rw [gv_ne _ _ _ _ (by omega) (by omega), wr_ne _ _ _ _ _ (by omega), wr_ne _ _ _ _ _ (by omega)]) (fun z _ => rfl)
    have fk : kF I (gv (wr (wr I 16 qa 4) 16 qb 0) qn 0) := kF_trans (kF_wr (by omega)) (kF_trans (kF_wr (by omega)) kF_gv)
    refine .inr ⟨gv (wr (wr I 16 qa 4) 16 qb 0) qn 0, M, c, 2, by omega, ⟨Nat.le_refl _, r2 c⟩, fk, kG_refl M, fun scr L F d J Mx => ?_, fun scr L F d Ix J => ?_, ?_⟩
    · have k1 := c25_o scr L F d I J Mx qn qa qb 4 hq2 pA.2.2.2.2.1 pB.2.2.2.2.1 iA iB t0
      exact c21_write scr L F d I J Mx qn hq2 x7 _ _ k1
    · exact t_write_o scr L F d Ix J M y (by omega) x41 a ta pA.2.2.1 pA.1 pA.2.2.2.2.2.1 (by omega) b tb pB.2.2.1 pB.1 pB.2.2.2.2.2.1 (by omega) k2 z2
    · refine fin_ok hS hk hy hyN hq hq2 h41 (by omega) hlt r1 (r2 c) (Nat.le_refl _) (by omega) (by omega) (kG_refl M) rfl fk (fun p hp => ⟨?_, ?_⟩) (fun p hp hz => ?_) (by rw [gv_15, nI_t2]) (by rw [gv_16, nI_t2]) (fun h w z => ⟨hb_0 (by omega), ?_⟩) ?_
      · rw [gv_z _ _ _ _ _ (by omega) (by omega), wr_q _ _ _ _ _ _ (by omega), wr_q _ _ _ _ _ _ (by omega)]
      · rw [gv_z _ _ _ _ _ (by omega) (by omega), wr_q _ _ _ _ _ _ (by omega), wr_q _ _ _ _ _ _ (by omega)]
      · rw [gv_z _ _ _ _ _ (by omega) (by omega), wr_q _ _ _ _ _ _ (fun z => hz b bN paB (by rw [z.2]; exact bq)), wr_q _ _ _ _ _ _ (fun z => hz a aN paA (by rw [z.2]; exact aq))]
      · rw [tln_I (I := I) (by rw [gv_ne _ _ _ _ (by omega) (by omega), wr_ne _ _ _ _ _ (by omega), wr_ne _ _ _ _ _ (by omega)])]
        unfold tln
        rw [(h3.2.2.2.2.2.2.1 (tm 2) (tm_lt (by omega) (by omega))).2.2.2.1]
        have : (1 : Int32).toNatClampNeg = 1 := by decide +kernel
        omega
      · refine rl_mk4 (by omega) ⟨a, qa, ta, b, qb, tb, pA, pB, .inl ⟨z2, rfl, ?_, ?_⟩⟩
        · rw [gv_z _ _ _ _ _ (by omega) (by omega), wr_q _ _ _ _ _ _ (by omega), wr_s]
          exact nw
        · rw [gv_z _ _ _ _ _ (by omega) (by omega), wr_s]
  · have a0 : 0 < tm ta := by
      have := (tm_ne0 (t := ta)).mp
      omega
    by_cases k4 : M 38 ta = 4
    · have t3 : 3 ≤ ta := by
        refine Decidable.byContradiction (fun z => ?_)
        rw [(h3.2.2.2.2.2.2.1 ta (by omega)).2.2.2.2] at k4
        exact (n03 ta (by omega)).2.1 k4
      obtain ⟨w1, w2, w3, w4⟩ := ty_5 h3 lta t3
      obtain ⟨tr, htr⟩ : ∃ tr, tr = tA M ta := ⟨_, rfl⟩
      rw [if_neg (by rw [k4]; exact n43), ← htr] at w2
      have i3 : I 3 (tm ta) = 4 := by
        rcases ty_kind h3 lta with ⟨b1, _⟩ | ⟨_, b2, b3, _⟩ | ⟨_, b2, b3, _⟩
        · omega
        · exact absurd (b2.symm.trans k4) n34
        · exact b3
      have ltA := (tyR_A h3 ta t3 lta).2
      have ltr : tr < c := by
        rw [htr]
        exact ltA
      have ttl := tm_lt ltA (show 3 ≤ c by omega)
      obtain ⟨r1, r2⟩ := k14 (I' := gv I qn (nI (tm tr))) (M' := M) h3 (fun z z1 z2 => gv_ne _ _ _ _ (by omega) (by omega)) (fun z _ => rfl)
      have g15 : gv I qn (nI (tm tr)) 15 qb = nI (tm tb) := (gv_z _ _ _ _ _ (by omega) (by omega)).trans tB15
      have hpc := PC_cn r1 ltb ltA
      obtain ⟨g, hg⟩ := co_k h3 ltb ltA hbB
      have m54 : kG M (va_up M 54 g) := kG_54
      rcases bt (cn M 40 tb (tA M ta)) with ⟨b1, b2⟩ | ⟨b1, b2⟩
      · rw [b2] at hg
        rw [b1] at hpc
        obtain ⟨G1, G2, G3, G4, G5, G6⟩ := gvw (I := I) (q := qn) (qa := qb) (x := (nI (tm tr))) (v := nI (tm (tA M ta)))
        obtain ⟨r3, r4⟩ := k14 (I' := wr (gv I qn (nI (tm tr))) 16 qb (nI (tm (tA M ta)))) (M' := va_up M 54 g) h3 (fun z z1 z2 => G1 z (by omega) (by omega)) (fun z hz => w54 M g z (by omega))
        have fk : kF I (wr (gv I qn (nI (tm tr))) 16 qb (nI (tm (tA M ta)))) := kF_trans kF_gv (kF_wr (by omega))
        refine .inr ⟨wr (gv I qn (nI (tm tr))) 16 qb (nI (tm (tA M ta))), va_up M 54 g, c, tr, by omega, ⟨Nat.le_refl _, r4 c⟩, fk, m54, fun scr L F d J Mx => ?_, fun scr L F d Ix J => ?_, ?_⟩
        · have k1 := c23_g scr L F d (gv I qn (nI (tm tr))) J Mx qb (tm (tA M ta)) (tm tb) c pB.2.2.2.2.1 g15 ttb ttl hc6 (tyR_tbl r1) hpc
          have k2 := c25_r scr L F d I J Mx qn qa qb 4 hq2 pA.2.2.2.2.1 pB.2.2.2.2.1 iA iB (tm ta) tA15 (by omega) a0 i3 _ w1 _ w2 _ _ k1
          exact c21_write scr L F d I J Mx qn hq2 x7 _ _ k2
        · exact t_write_g scr L F d Ix J M y (by omega) x41 a ta pA.2.2.1 pA.1 pA.2.2.2.2.2.1 (by omega) b tb pB.2.2.1 pB.1 pB.2.2.2.2.2.1 (by omega) k4 (tA M ta) w3 _ (hg scr L F d Ix J) _ (by rw [w54 M g 39 (by omega), htr]; exact w3)
        · refine fin_ok hS hk hy hyN hq hq2 h41 (by omega) hlt r3 (r4 c) (Nat.le_refl _) (by omega) ltr m54 (w54 M g 71 (by omega)) fk (fun p hp => ⟨G2 p hp, by rw [G1 14 (by omega) (by omega)]⟩) (fun p hp hz => G3 p hp (fun z => hz b bN paB (by rw [z]; exact bq))) G4 (G5 bqq) (fun h w z => ⟨?_, ?_⟩) ?_
          · refine hb_eq (w54 M g 38 (by omega)) (w54 M g 39 (by omega)) (w54 M g 40 (by omega)) ?_
            obtain ⟨h', w', d1, d2, d3⟩ := decA h w z
            rw [htr]
            exact hb_le (by omega) ((hb_sub h3 lta (lenA h' w' d2).1 t3).1)
          · obtain ⟨h', w', d1, d2, d3⟩ := decA h w z
            have y1 := (lenA h' w' d2).2
            have y2 := (ty_len h3 lta).2.2.2.2 k4
            rw [tln_I (G1 6 (by omega) (by omega)), htr]
            omega
          · have eA : tA (va_up M 54 g) ta = tA M ta := by
              unfold tA
              rw [w54 M g 39 (by omega)]
            have eB : tB (va_up M 54 g) ta = tB M ta := by
              unfold tB
              rw [w54 M g 40 (by omega)]
            refine rl_mk4 (by omega) ⟨a, qa, ta, b, qb, tb, pf_g pA (by omega) (Nat.le_refl _) m54 (w54 M g 71 (by omega)), pf_g pB (by omega) (Nat.le_refl _) m54 (w54 M g 71 (by omega)), .inr ⟨?_, ?_, ?_, ?_, ?_⟩⟩
            · rw [w54 M g 38 (by omega), k4]
              exact nw
            · rw [eA]
              exact ⟨40, by rw [cn_M (w54 M g 38 (by omega)) (w54 M g 39 (by omega)) (w54 M g 40 (by omega))]; exact b1⟩
            · rw [eA, eB, htr]
              rfl
            · rw [G3 qa aqq nab]
              exact tA16
            · rw [eA]
              exact G6
      · rw [b2] at hg
        rw [b1] at hpc
        obtain ⟨r3, r4⟩ := k14 (I' := gv I qn (nI (tm tr))) (M' := va_up M 54 g) h3 (fun z z1 z2 => gv_ne _ _ _ _ (by omega) (by omega)) (fun z hz => w54 M g z (by omega))
        refine .inl ⟨gv I qn (nI (tm tr)), va_up M 54 g, b, qb, pB.2.2.1, by rw [w54 M g 42 (by omega)]; exact pB.2.2.2.1, pB.2.2.2.2.1, kF_gv, m54, r4 c, fun scr L F d J Mx => ?_, fun scr L F d Ix J => ?_⟩
        · have k1 := c23_f scr L F d (gv I qn (nI (tm tr))) J Mx qb (tm (tA M ta)) (tm tb) c pB.2.2.2.2.1 g15 ttb ttl hc6 (tyR_tbl r1) hpc
          have k2 := c25_r scr L F d I J Mx qn qa qb 4 hq2 pA.2.2.2.2.1 pB.2.2.2.2.1 iA iB (tm ta) tA15 (by omega) a0 i3 _ w1 _ w2 _ _ k1
          exact c21_write scr L F d I J Mx qn hq2 x7 _ _ k2
        · exact t_write_f scr L F d Ix J M y (by omega) x41 a ta pA.2.2.1 pA.1 pA.2.2.2.2.2.1 (by omega) b tb pB.2.2.1 pB.1 pB.2.2.2.2.2.1 (by omega) k4 (tA M ta) w3 _ (hg scr L F d Ix J) (by rw [w54 M g 47 (by omega)]; exact pB.1)
    · have i3 : ¬ I 3 (tm ta) = 4 := by
        rcases ty_kind h3 lta with ⟨b1, _, b3⟩ | ⟨_, b2, b3, _⟩ | ⟨_, b2, b3, _⟩
        · rw [b3]
          exact (n03 (tm ta) (tm_lt b1 (by omega))).2.1
        · rw [b3]; exact n34
        · exact absurd b2 k4
      refine .inl ⟨I, M, a, qa, pA.2.2.1, pA.2.2.2.1, pA.2.2.2.2.1, kF_refl I, kG_refl M, tyX_refl I M c, fun scr L F d J Mx => ?_, fun scr L F d Ix J => ?_⟩
      · have k1 := c25_f scr L F d I J Mx qn qa qb 4 hq2 pA.2.2.2.2.1 pB.2.2.2.2.1 iA iB (tm ta) tA15 (by omega) a0 i3
        exact c21_write scr L F d I J Mx qn hq2 x7 _ _ k1
      · exact t_write_e scr L F d Ix J M y (by omega) x41 a ta pA.2.2.1 pA.1 pA.2.2.2.2.2.1 (by omega) b tb pB.2.2.1 pB.1 pB.2.2.2.2.2.1 (by omega) k4 z2

theorem ck_node {I0 M0 I M : am_I} {c0 N K c k y q : Nat} (h : SK I0 M0 c0 N K I M c k) (hk : k < K) (hy : M0 50 k = nI y) (hyN : y < N) (hq : M0 42 y = nI q) (hq2 : q < 100) (hdn : dn M0 y) : ckR I0 M0 c0 N K I M c k y q := by
  have hn := h.1.2.2.2.1 y hyN
  obtain ⟨qn, on, n1, n2, n3, n4, n5, n6, n7, _⟩ := h.1.2.2.2.1 y hyN
  have eqn := nI_inj (by omega) (by omega) (n1.symm.trans hq)
  subst eqn
  rcases (by omega : on ≤ 1 ∨ on = 2 ∨ on = 3 ∨ on = 4 ∨ on = 5 ∨ on = 6 ∨ on = 7 ∨ on = 8 ∨ on = 9 ∨ on = 10 ∨ on = 11 ∨ on = 12 ∨ on = 13) with z | z | z | z | z | z | z | z | z | z | z | z | z
  · exact ck_lit h hk hy hyN hn hq hq2 on z n3 n4
  · subst z
    exact ck_var h hk hy hyN hn hq hq2 n3 n4 (n7 (by omega))
  · subst z
    exact ck_fun h hk hy hyN hn hq hq2 n3 n4
  · subst z
    exact ck_call h hk hy hyN hn hq hq2 n3 n4 hdn
  · subst z
    exact ck_write h hk hy hyN hn hq hq2 n3 n4 hdn
  · subst z
    exact ck_plus h hk hy hyN hn hq hq2 n3 n4 hdn
  · subst z
    exact ck_minus h hk hy hyN hn hq hq2 n3 n4 hdn
  · subst z
    exact ck_less h hk hy hyN hn hq hq2 n3 n4 hdn
  · subst z
    exact ck_ch h hk hy hyN hn hq hq2 n3 n4 hdn
  · subst z
    exact ck_new h hk hy hyN hn hq hq2 n3 n4
  · subst z
    exact ck_read h hk hy hyN hn hq hq2 n3 n4
  · subst z
    exact ck_cast h hk hy hyN hn hq hq2 n3 n4
  · subst z
    exact ck_put h hk hy hyN hn hq hq2 n3 n4

