/-! Checking: casts, outputs, reads. -/
theorem co_k {I M : am_I} {c t u : Nat} (hR : tyR I M c) (ht : t < c) (hu : u < c) (hh : hb M 40 t) : ∃ g : Nat → Int32, ∀ (scr : Nat → Int32) (L F d : Nat) (Ix : am_I) (J : am_J), am_r scr L (F + 63000) (d + 19) 97 [.ref 37, .int (nI t), .int (nI u)] (hp Ix J M) = some (some (.int (bi (cn M 40 t u))), hp Ix J (va_up M 54 g), 0, 0) := by
  obtain ⟨g, hg⟩ := co_97 hR ht hu hh
  refine ⟨g, fun scr L F d Ix J => ?_⟩
  have := hg scr L (F + 42000) (d + 18) Ix J
  rw [show F + 42000 + 21000 = F + 63000 by omega, show d + 18 + 1 = d + 19 by omega] at this
  exact this
theorem nI_t0 : nI (tm 0) = 1 := by decide +kernel
theorem nI_t1 : nI (tm 1) = 2 := by decide +kernel
theorem nI_t2 : nI (tm 2) = 0 := by decide +kernel
theorem w54 (M : am_I) (g : Nat → Int32) (z : Nat) (h : ¬ z = 54) : va_up M 54 g z = M z := va_up_ne _ _ h
theorem ty_5 {I M : am_I} {c t : Nat} (h : tyR I M c) (ht : t < c) (h3 : 3 ≤ t) : I 4 (tm t) = nI (tm (tA M t)) ∧ I 5 (tm t) = nI (tm (if M 38 t = 3 then tB M t else tA M t)) ∧ M 39 t = nI (tA M t) ∧ (M 38 t = 3 → M 40 t = nI (tB M t)) := by
  have hc := h.1
  obtain ⟨a1, a2, a3, a4⟩ := tyR_tbl h (tm t) (tm_lt ht (by omega))
  rcases ty_kind h ht with ⟨b1, _⟩ | ⟨b1, b2, b3, b4, b5, b6, b7, b8, b9⟩ | ⟨b1, b2, b3, b4, b5, b6, b7⟩
  · omega
  · rw [b8] at a1
    rw [b9] at a3
    rw [if_pos b2]
    exact ⟨a1, a3, b6, fun _ => b7⟩
  · rw [b6] at a1
    rw [b7] at a3
    rw [if_neg (by rw [b2]; exact n43)]
    exact ⟨a1, a3, b5, fun z => absurd (b2.symm.trans z) n43⟩
theorem gvw {I : am_I} {q qa : Nat} {x v : Int32} : (∀ z, ¬ z = 15 → ¬ z = 16 → wr (gv I q x) 16 qa v z = I z) ∧ (∀ p, ¬ p = q → wr (gv I q x) 16 qa v 15 p = I 15 p) ∧ (∀ p, ¬ p = q → ¬ p = qa → wr (gv I q x) 16 qa v 16 p = I 16 p) ∧ wr (gv I q x) 16 qa v 15 q = x ∧ (¬ qa = q → wr (gv I q x) 16 qa v 16 q = x) ∧ wr (gv I q x) 16 qa v 16 qa = v := by
  refine ⟨fun z h1 h2 => ?_, fun p h1 => ?_, fun p h1 h2 => ?_, ?_, fun h => ?_, wr_s _ _ _ _⟩
  · rw [wr_ne _ _ _ _ _ h2, gv_ne _ _ _ _ h1 h2]
  · rw [wr_q _ _ _ _ _ _ (by omega), gv_z _ _ _ _ _ (by omega) (by omega)]
  · rw [wr_q _ _ _ _ _ _ (by omega), gv_z _ _ _ _ _ (by omega) (by omega)]
  · rw [wr_q _ _ _ _ _ _ (by omega), gv_15]
  · rw [wr_q _ _ _ _ _ _ (by omega), gv_16]
theorem ck_cast {I0 M0 I M : am_I} {c0 N K c k y q : Nat} (h : SK I0 M0 c0 N K I M c k) (hk : k < K) (hy : M0 50 k = nI y) (hyN : y < N) (hn : nd I0 M0 N c0 y) (hq : M0 42 y = nI q) (hq2 : q < 100) (h41 : M0 41 y = nI 12) (h7 : I0 7 q = nI 12) : ckR I0 M0 c0 N K I M c k y q := by
  have hS := h
  obtain ⟨⟨p1, p2, p3, p4, p5, p6, p7⟩, ⟨e1, e2, e3, e4⟩, h3, h4, h5, h6, h7b, h8, v1, v2⟩ := h
  have x41 : M 41 y = 12 := by
    rw [e1.1, h41]
    decide +kernel
  have x7 : I 7 q = 12 := by
    rw [e3 7 (by omega) (by omega), h7]
    decide +kernel
  have hc5 := h3.1
  have hc6 := h3.2.1
  have hlt := nd_lt hn p2 hyN
  obtain ⟨qn, on, n1, n2, n3, n4, n5, n6, nx1, nx2, nx3, n10, n11, n12, n13⟩ := hn
  have eo := nI_inj (by omega) (by omega) (n3.symm.trans h41)
  subst eo
  have eqn := nI_inj (by omega) (by omega) (n1.symm.trans hq)
  subst eqn
  obtain ⟨a, qa, ta, pA, iA, tA15, tA16, paA, aN, aq, aqq, lenA, exA⟩ := prt hS hk hy hyN hq hq2 (x := 46) (z := 9) (.inl rfl) (by omega) (n11 (by omega)) (fun a ha => ⟨12, by omega, h41, .inl ⟨by omega, ha⟩⟩)
  obtain ⟨hbA, lnA⟩ := prt_hb lenA exA
  have lta := pA.2.2.2.2.2.2
  have tta := tm_lt lta (by omega)
  obtain ⟨s, l, s1, s2, s3, s4, s5, s6⟩ := n10 (.inr rfl)
  have y44 : M 44 y = nI s := by
    rw [e1.2.2.2.1]
    exact s2
  have y13 : I 13 qn = nI (tm s) := by
    rw [e3 13 (by omega) (by omega)]
    exact s3
  have y6 : tln I s ≤ 100 := by
    unfold tln
    rw [(h7b (tm s) (tm_lt s1 (by omega))).2.2.2.2, s5, nI_clamp (by omega)]
    exact s6
  have hbS : hb M 19 s := hb_X (c := c0) (fun t ht => (h7b t ht).1) s1 s4
  have tts := tm_lt s1 (show 3 ≤ c0 by omega)
  obtain ⟨r1, r2⟩ := k14 (I' := gv I qn (nI (tm s))) (M' := M) h3 (fun z z1 z2 => gv_ne _ _ _ _ (by omega) (by omega)) (fun z _ => rfl)
  have g15 : gv I qn (nI (tm s)) 15 qa = nI (tm ta) := (gv_z _ _ _ _ _ (by omega) (by omega)).trans tA15
  have hpc := PC_cn r1 lta (show s < c by omega)
  obtain ⟨g, hg⟩ := co_k h3 lta (show s < c by omega) hbA
  have m54 : kG M (va_up M 54 g) := kG_54
  rcases bt (cn M 40 ta s) with ⟨b1, b2⟩ | ⟨b1, b2⟩
  · rw [b2] at hg
    rw [b1] at hpc
    obtain ⟨G1, G2, G3, G4, G5, G6⟩ := gvw (I := I) (q := qn) (qa := qa) (x := (nI (tm s))) (v := (nI (tm s)))
    obtain ⟨r3, r4⟩ := k14 (I' := wr (gv I qn (nI (tm s))) 16 qa (nI (tm s))) (M' := va_up M 54 g) h3 (fun z z1 z2 => G1 z (by omega) (by omega)) (fun z hz => w54 M g z (by omega))
    have fk : kF I (wr (gv I qn (nI (tm s))) 16 qa (nI (tm s))) := kF_trans kF_gv (kF_wr (by omega))
    have kR : ∀ (scr : Nat → Int32) (L F d : Nat) (J : am_J) (Mx : am_I), am_r scr L (F + 63000) (d + 44) 23 [.ref 21, .int (nI qa), .int (nI (tm s))] (hp (gv I qn (nI (tm s))) J Mx) = some (some (.int (-1)), hp (wr (gv I qn (nI (tm s))) 16 qa (nI (tm s))) J Mx, 0, 0) := fun scr L F d J Mx => c23_g scr L F (d + 1) (gv I qn (nI (tm s))) J Mx qa (tm s) (tm ta) c pA.2.2.2.2.1 g15 tta (by omega) hc6 (tyR_tbl r1) hpc
    refine .inr ⟨wr (gv I qn (nI (tm s))) 16 qa (nI (tm s)), va_up M 54 g, c, s, by omega, ⟨Nat.le_refl _, r4 c⟩, fk, m54, fun scr L F d J Mx => ?_, fun scr L F d Ix J => ?_, ?_⟩
    · exact c21_cast scr L F d I J Mx qn hq2 x7 qa iA _ y13 _ _ (kR scr L F d J Mx)
    · exact t_cast_g scr L F d Ix J M y (by omega) x41 a ta pA.2.2.1 pA.1 pA.2.2.2.2.2.1 (by omega) _ y44 _ (hg scr L F d Ix J)
    · refine fin_ok hS hk hy hyN hq hq2 h41 (by omega) hlt r3 (r4 c) (Nat.le_refl _) (by omega) (by omega) m54 (w54 M g 71 (by omega)) fk (fun p hp => ⟨G2 p hp, by rw [G1 14 (by omega) (by omega)]⟩) (fun p hp hz => G3 p hp (fun z => hz a aN paA (by rw [z]; exact aq))) G4 (G5 aqq) (fun h w z => ⟨?_, ?_⟩) ?_
      · exact hb_eq (w54 M g 38 (by omega)) (w54 M g 39 (by omega)) (w54 M g 40 (by omega)) (hb_le (by omega) hbS)
      · rw [tln_I (G1 6 (by omega) (by omega))]
        omega
      · exact rl_mk12 ⟨a, qa, ta, pf_g pA (by omega) (Nat.le_refl _) m54 (w54 M g 71 (by omega)), by rw [w54 M g 44 (by omega)]; exact y44, ⟨40, by rw [cn_M (w54 M g 38 (by omega)) (w54 M g 39 (by omega)) (w54 M g 40 (by omega))]; exact b1⟩, G6⟩
  · rw [b2] at hg
    rw [b1] at hpc
    obtain ⟨r3, r4⟩ := k14 (I' := gv I qn (nI (tm s))) (M' := va_up M 54 g) h3 (fun z z1 z2 => gv_ne _ _ _ _ (by omega) (by omega)) (fun z hz => w54 M g z (by omega))
    have kR : ∀ (scr : Nat → Int32) (L F d : Nat) (J : am_J) (Mx : am_I), am_r scr L (F + 63000) (d + 44) 23 [.ref 21, .int (nI qa), .int (nI (tm s))] (hp (gv I qn (nI (tm s))) J Mx) = some (some (.int (nI qa)), hp (gv I qn (nI (tm s))) J Mx, 0, 0) := fun scr L F d J Mx => c23_f scr L F (d + 1) (gv I qn (nI (tm s))) J Mx qa (tm s) (tm ta) c pA.2.2.2.2.1 g15 tta (by omega) hc6 (tyR_tbl r1) hpc
    refine .inl ⟨gv I qn (nI (tm s)), va_up M 54 g, a, qa, pA.2.2.1, by rw [w54 M g 42 (by omega)]; exact pA.2.2.2.1, pA.2.2.2.2.1, kF_gv, m54, r4 c, fun scr L F d J Mx => ?_, fun scr L F d Ix J => ?_⟩
    · exact c21_cast scr L F d I J Mx qn hq2 x7 qa iA _ y13 _ _ (kR scr L F d J Mx)
    · exact t_cast_f scr L F d Ix J M y (by omega) x41 a ta pA.2.2.1 pA.1 pA.2.2.2.2.2.1 (by omega) _ y44 _ (hg scr L F d Ix J) (by rw [w54 M g 46 (by omega)]; exact pA.1)

theorem ck_put {I0 M0 I M : am_I} {c0 N K c k y q : Nat} (h : SK I0 M0 c0 N K I M c k) (hk : k < K) (hy : M0 50 k = nI y) (hyN : y < N) (hn : nd I0 M0 N c0 y) (hq : M0 42 y = nI q) (hq2 : q < 100) (h41 : M0 41 y = nI 13) (h7 : I0 7 q = nI 13) : ckR I0 M0 c0 N K I M c k y q := by
  have hS := h
  obtain ⟨⟨p1, p2, p3, p4, p5, p6, p7⟩, ⟨e1, e2, e3, e4⟩, h3, h4, h5, h6, h7b, h8, v1, v2⟩ := h
  have x41 : M 41 y = 13 := by
    rw [e1.1, h41]
    decide +kernel
  have x7 : I 7 q = 13 := by
    rw [e3 7 (by omega) (by omega), h7]
    decide +kernel
  have hc5 := h3.1
  have hc6 := h3.2.1
  have hlt := nd_lt hn p2 hyN
  obtain ⟨qn, on, n1, n2, n3, n4, n5, n6, nx1, nx2, nx3, n10, n11, n12, n13⟩ := hn
  have eo := nI_inj (by omega) (by omega) (n3.symm.trans h41)
  subst eo
  have eqn := nI_inj (by omega) (by omega) (n1.symm.trans hq)
  subst eqn
  obtain ⟨a, qa, ta, pA, iA, tA15, tA16, paA, aN, aq, aqq, lenA, exA⟩ := prt hS hk hy hyN hq hq2 (x := 46) (z := 9) (.inl rfl) (by omega) (n11 (by omega)) (fun a ha => ⟨13, by omega, h41, .inl ⟨by omega, ha⟩⟩)
  obtain ⟨hbA, lnA⟩ := prt_hb lenA exA
  have lta := pA.2.2.2.2.2.2
  have tta := tm_lt lta (by omega)
  obtain ⟨s, hs0⟩ : ∃ s, s = 0 := ⟨0, rfl⟩
  have s1 : s < c0 := by omega
  have y6 : tln I s ≤ 100 := by
    subst hs0
    unfold tln
    rw [(h3.2.2.2.2.2.2.1 (tm 0) (tm_lt (by omega) (by omega))).2.2.2.1]
    decide +kernel
  have hbS : hb M 19 s := hb_0 (by omega)
  have tts := tm_lt s1 (show 3 ≤ c0 by omega)
  obtain ⟨r1, r2⟩ := k14 (I' := gv I qn (nI (tm s))) (M' := M) h3 (fun z z1 z2 => gv_ne _ _ _ _ (by omega) (by omega)) (fun z _ => rfl)
  have g15 : gv I qn (nI (tm s)) 15 qa = nI (tm ta) := (gv_z _ _ _ _ _ (by omega) (by omega)).trans tA15
  have hpc := PC_cn r1 lta (show s < c by omega)
  obtain ⟨g, hg⟩ := co_k h3 lta (show s < c by omega) hbA
  have m54 : kG M (va_up M 54 g) := kG_54
  rcases bt (cn M 40 ta s) with ⟨b1, b2⟩ | ⟨b1, b2⟩
  · rw [b2] at hg
    rw [b1] at hpc
    obtain ⟨G1, G2, G3, G4, G5, G6⟩ := gvw (I := I) (q := qn) (qa := qa) (x := (nI (tm s))) (v := (nI (tm s)))
    obtain ⟨r3, r4⟩ := k14 (I' := wr (gv I qn (nI (tm s))) 16 qa (nI (tm s))) (M' := va_up M 54 g) h3 (fun z z1 z2 => G1 z (by omega) (by omega)) (fun z hz => w54 M g z (by omega))
    have fk : kF I (wr (gv I qn (nI (tm s))) 16 qa (nI (tm s))) := kF_trans kF_gv (kF_wr (by omega))
    have kR : ∀ (scr : Nat → Int32) (L F d : Nat) (J : am_J) (Mx : am_I), am_r scr L (F + 63000) (d + 44) 23 [.ref 21, .int (nI qa), .int (nI (tm s))] (hp (gv I qn (nI (tm s))) J Mx) = some (some (.int (-1)), hp (wr (gv I qn (nI (tm s))) 16 qa (nI (tm s))) J Mx, 0, 0) := fun scr L F d J Mx => c23_g scr L F (d + 1) (gv I qn (nI (tm s))) J Mx qa (tm s) (tm ta) c pA.2.2.2.2.1 g15 tta (by omega) hc6 (tyR_tbl r1) hpc
    refine .inr ⟨wr (gv I qn (nI (tm s))) 16 qa (nI (tm s)), va_up M 54 g, c, s, by omega, ⟨Nat.le_refl _, r4 c⟩, fk, m54, fun scr L F d J Mx => ?_, fun scr L F d Ix J => ?_, ?_⟩
    · have k1 := kR scr L F d J Mx
      rw [hs0, nI_t0] at k1 ⊢
      exact c21_put scr L F d I J Mx qn hq2 x7 qa iA _ _ k1
    · have k1 := hg scr L F d Ix J
      rw [hs0, nI_0] at k1 ⊢
      exact t_put_g scr L F d Ix J M y (by omega) x41 a ta pA.2.2.1 pA.1 pA.2.2.2.2.2.1 (by omega) _ k1
    · refine fin_ok hS hk hy hyN hq hq2 h41 (by omega) hlt r3 (r4 c) (Nat.le_refl _) (by omega) (by omega) m54 (w54 M g 71 (by omega)) fk (fun p hp => ⟨G2 p hp, by rw [G1 14 (by omega) (by omega)]⟩) (fun p hp hz => G3 p hp (fun z => hz a aN paA (by rw [z]; exact aq))) G4 (G5 aqq) (fun h w z => ⟨?_, ?_⟩) ?_
      · exact hb_eq (w54 M g 38 (by omega)) (w54 M g 39 (by omega)) (w54 M g 40 (by omega)) (hb_le (by omega) hbS)
      · rw [tln_I (G1 6 (by omega) (by omega))]
        omega
      · exact rl_mk13 ⟨a, qa, ta, pf_g pA (by omega) (Nat.le_refl _) m54 (w54 M g 71 (by omega)), hs0, ⟨40, by rw [cn_M (w54 M g 38 (by omega)) (w54 M g 39 (by omega)) (w54 M g 40 (by omega)), ← hs0]; exact b1⟩, by rw [G6, hs0, nI_t0]⟩
  · rw [b2] at hg
    rw [b1] at hpc
    obtain ⟨r3, r4⟩ := k14 (I' := gv I qn (nI (tm s))) (M' := va_up M 54 g) h3 (fun z z1 z2 => gv_ne _ _ _ _ (by omega) (by omega)) (fun z hz => w54 M g z (by omega))
    have kR : ∀ (scr : Nat → Int32) (L F d : Nat) (J : am_J) (Mx : am_I), am_r scr L (F + 63000) (d + 44) 23 [.ref 21, .int (nI qa), .int (nI (tm s))] (hp (gv I qn (nI (tm s))) J Mx) = some (some (.int (nI qa)), hp (gv I qn (nI (tm s))) J Mx, 0, 0) := fun scr L F d J Mx => c23_f scr L F (d + 1) (gv I qn (nI (tm s))) J Mx qa (tm s) (tm ta) c pA.2.2.2.2.1 g15 tta (by omega) hc6 (tyR_tbl r1) hpc
    refine .inl ⟨gv I qn (nI (tm s)), va_up M 54 g, a, qa, pA.2.2.1, by rw [w54 M g 42 (by omega)]; exact pA.2.2.2.1, pA.2.2.2.2.1, kF_gv, m54, r4 c, fun scr L F d J Mx => ?_, fun scr L F d Ix J => ?_⟩
    · have k1 := kR scr L F d J Mx
      rw [hs0, nI_t0] at k1 ⊢
      exact c21_put scr L F d I J Mx qn hq2 x7 qa iA _ _ k1
    · have k1 := hg scr L F d Ix J
      rw [hs0, nI_0] at k1
      exact t_put_f scr L F d Ix J M y (by omega) x41 a ta pA.2.2.1 pA.1 pA.2.2.2.2.2.1 (by omega) _ k1 (by rw [w54 M g 46 (by omega)]; exact pA.1)

theorem ck_read {I0 M0 I M : am_I} {c0 N K c k y q : Nat} (h : SK I0 M0 c0 N K I M c k) (hk : k < K) (hy : M0 50 k = nI y) (hyN : y < N) (hn : nd I0 M0 N c0 y) (hq : M0 42 y = nI q) (hq2 : q < 100) (h41 : M0 41 y = nI 11) (h7 : I0 7 q = nI 11) : ckR I0 M0 c0 N K I M c k y q := by
  have hS := h
  obtain ⟨⟨p1, p2, p3, p4, p5, p6, p7⟩, ⟨e1, e2, e3, e4⟩, h3, h4, h5, h6, h7b, h8, v1, v2⟩ := h
  have x41 : M 41 y = 11 := by
    rw [e1.1, h41]
    decide +kernel
  have x7 : I 7 q = 11 := by
    rw [e3 7 (by omega) (by omega), h7]
    decide +kernel
  have hc5 := h3.1
  have hc6 := h3.2.1
  have hlt := nd_lt hn p2 hyN
  obtain ⟨qn, on, n1, n2, n3, n4, n5, n6, nx1, nx2, nx3, n10, n11, n12, n13⟩ := hn
  have eo := nI_inj (by omega) (by omega) (n3.symm.trans h41)
  subst eo
  have eqn := nI_inj (by omega) (by omega) (n1.symm.trans hq)
  subst eqn
  obtain ⟨a, qa, ta, pA, iA, tA15, tA16, paA, aN, aq, aqq, lenA, exA⟩ := prt hS hk hy hyN hq hq2 (x := 46) (z := 9) (.inl rfl) (by omega) (n11 (by omega)) (fun a ha => ⟨11, by omega, h41, .inl ⟨by omega, ha⟩⟩)
  obtain ⟨hbA, lnA⟩ := prt_hb lenA exA
  have lta := pA.2.2.2.2.2.2
  have tta := tm_lt lta (by omega)
  have decA : ∀ h w, tw I0 M0 N c0 h w y → ∃ h' w', h = h' + 1 ∧ tw I0 M0 N c0 h' w' a ∧ w' ≤ w := fun h w z => twA z h41 (by omega) (by omega) (by rw [← e1.2.2.2.2.2.1]; exact pA.1) pA.2.2.1 p2
  by_cases z2 : ta = 2
  · have k2 : ¬ M 38 ta = 4 := by
      rw [z2, (h3.2.2.2.2.2.2.1 2 (by omega)).2.2.2.2]
      exact (n03 2 (by omega)).2.1
    have t0 : I 15 qa = 0 := by
      rw [tA15, z2, nI_t2]
    obtain ⟨r1, r2⟩ := k14 (I' := gv (wr I 16 qa 4) qn 0) (M' := M) h3 (fun z z1 z2 => by rw [gv_ne _ _ _ _ (by omega) (by omega), wr_ne _ _ _ _ _ (by omega)]) (fun z _ => rfl)
    have fk : kF I (gv (wr I 16 qa 4) qn 0) := kF_trans (kF_wr (by omega)) kF_gv
    refine .inr ⟨gv (wr I 16 qa 4) qn 0, M, c, 2, by omega, ⟨Nat.le_refl _, r2 c⟩, fk, kG_refl M, fun scr L F d J Mx => ?_, fun scr L F d Ix J => ?_, ?_⟩
    · have k1 := c26_o scr L F d I J Mx qn qa hq2 pA.2.2.2.2.1 iA t0
      exact c21_read scr L F d I J Mx qn hq2 x7 _ _ k1
    · exact t_read_o scr L F d Ix J M y (by omega) x41 a ta pA.2.2.1 pA.1 pA.2.2.2.2.2.1 (by omega) k2 z2
    · refine fin_ok hS hk hy hyN hq hq2 h41 (by omega) hlt r1 (r2 c) (Nat.le_refl _) (by omega) (by omega) (kG_refl M) rfl fk (fun p hp => ⟨?_, ?_⟩) (fun p hp hz => ?_) (by rw [gv_15, nI_t2]) (by rw [gv_16, nI_t2]) (fun h w z => ⟨hb_0 (by omega), ?_⟩) ?_
      · rw [gv_z _ _ _ _ _ (by omega) (by omega), wr_q _ _ _ _ _ _ (by omega)]
      · rw [gv_z _ _ _ _ _ (by omega) (by omega), wr_q _ _ _ _ _ _ (by omega)]
      · rw [gv_z _ _ _ _ _ (by omega) (by omega), wr_q _ _ _ _ _ _ (fun z => hz a aN paA (by rw [z.2]; exact aq))]
      · rw [tln_I (I := I) (by rw [gv_ne _ _ _ _ (by omega) (by omega), wr_ne _ _ _ _ _ (by omega)])]
        unfold tln
        rw [(h3.2.2.2.2.2.2.1 (tm 2) (tm_lt (by omega) (by omega))).2.2.2.1]
        have : (1 : Int32).toNatClampNeg = 1 := by decide +kernel
        omega
      · refine rl_mk11 ⟨a, qa, ta, pA, .inl ⟨z2, rfl, ?_⟩⟩
        rw [gv_z _ _ _ _ _ (by omega) (by omega), wr_s]
  · have a0 : 0 < tm ta := by
      have := (tm_ne0 (t := ta)).mp
      omega
    by_cases k4 : M 38 ta = 4
    · have t3 : 3 ≤ ta := by
        refine Decidable.byContradiction (fun z => ?_)
        rw [(h3.2.2.2.2.2.2.1 ta (by omega)).2.2.2.2] at k4
        exact (n03 ta (by omega)).2.1 k4
      have k3 : ¬ M 38 ta = 3 := by
        rw [k4]
        exact n43
      obtain ⟨w1, w2, w3, w4⟩ := ty_5 h3 lta t3
      rw [if_neg k3] at w2
      have i3 : I 3 (tm ta) = 4 := by
        rcases ty_kind h3 lta with ⟨b1, _⟩ | ⟨_, b2, _⟩ | ⟨_, b2, b3, _⟩
        · omega
        · exact absurd b2 k3
        · exact b3
      have lt9 := (tyR_A h3 ta t3 lta).2
      obtain ⟨r1, r2⟩ := k14 (I' := gv I qn (nI (tm (tA M ta)))) (M' := M) h3 (fun z z1 z2 => gv_ne _ _ _ _ (by omega) (by omega)) (fun z _ => rfl)
      refine .inr ⟨gv I qn (nI (tm (tA M ta))), M, c, tA M ta, by omega, ⟨Nat.le_refl _, r2 c⟩, kF_gv, kG_refl M, fun scr L F d J Mx => ?_, fun scr L F d Ix J => ?_, ?_⟩
      · have k1 := c26_r scr L F d I J Mx qn qa hq2 pA.2.2.2.2.1 iA (tm ta) tA15 (by omega) a0 i3 _ w2
        exact c21_read scr L F d I J Mx qn hq2 x7 _ _ k1
      · exact t_read_g scr L F d Ix J M y (by omega) x41 a ta pA.2.2.1 pA.1 pA.2.2.2.2.2.1 (by omega) k4 _ w3
      · refine fin_ok hS hk hy hyN hq hq2 h41 (by omega) hlt r1 (r2 c) (Nat.le_refl _) (by omega) lt9 (kG_refl M) rfl kF_gv (fun p hp => ⟨gv_z _ _ _ _ _ (by omega) (by omega), gv_z _ _ _ _ _ (by omega) (by omega)⟩) (fun p hp _ => gv_z _ _ _ _ _ (by omega) (by omega)) (gv_15 _ _ _) (gv_16 _ _ _) (fun h w z => ⟨?_, ?_⟩) ?_
        · obtain ⟨h', w', b1, b2, b3⟩ := decA h w z
          exact hb_le (by omega) (hb_sub h3 lta (lenA h' w' b2).1 t3).1
        · obtain ⟨h', w', b1, b2, b3⟩ := decA h w z
          have y1 := (lenA h' w' b2).2
          have y2 := (ty_len h3 lta).2.2.2.2 k4
          rw [tln_I (gv_ne _ _ _ _ (by omega) (by omega))]
          omega
        · refine rl_mk11 ⟨a, qa, ta, pA, .inr ⟨k4, rfl, ?_⟩⟩
          rw [gv_z _ _ _ _ _ (by omega) (by omega)]
          exact tA16
    · have i3 : ¬ I 3 (tm ta) = 4 := by
        rcases ty_kind h3 lta with ⟨b1, _, b3⟩ | ⟨_, b2, b3, _⟩ | ⟨_, b2, b3, _⟩
        · rw [b3]
          exact (n03 (tm ta) (tm_lt b1 (by omega))).2.1
        · rw [b3]
          exact n34
        · exact absurd b2 k4
      refine .inl ⟨I, M, a, qa, pA.2.2.1, pA.2.2.2.1, pA.2.2.2.2.1, kF_refl I, kG_refl M, tyX_refl I M c, fun scr L F d J Mx => ?_, fun scr L F d Ix J => ?_⟩
      · have k1 := c26_f scr L F d I J Mx qn qa hq2 pA.2.2.2.2.1 iA (tm ta) tA15 (by omega) a0 i3
        exact c21_read scr L F d I J Mx qn hq2 x7 _ _ k1
      · exact t_read_e scr L F d Ix J M y (by omega) x41 a ta pA.2.2.1 pA.1 pA.2.2.2.2.2.1 (by omega) k4 z2

