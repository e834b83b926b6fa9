/-! Checking: the forms with parts. -/
theorem rl_mk3 {I M : am_I} {c m q t : Nat} (h : ∃ s a qa ta, pf M c m 46 a qa ta ∧ s < c ∧ M 44 m = nI s ∧ M 38 t = 3 ∧ M 39 t = nI s ∧ M 40 t = nI ta) : rl I M c m q 3 t := ⟨fun z => by omega, fun z => by omega, fun z => by omega, fun _ => h, fun z => by omega, fun z => by omega, fun z => by omega, fun z => by omega, fun z => by omega, fun z => by omega, fun z => by omega⟩
theorem rl_mk4 {I M : am_I} {c m q o t : Nat} (ho : o = 4 ∨ o = 5) (h : ∃ a qa ta b qb tb, pf M c m 46 a qa ta ∧ pf M c m 47 b qb tb ∧ ((ta = 2 ∧ t = 2 ∧ I 16 qa = nI (o - 1) ∧ I 16 qb = 0) ∨ (M 38 ta = nI (o - 1) ∧ CS M tb (tA M ta) ∧ t = (if o = 4 then tB M ta else tA M ta) ∧ I 16 qa = nI (tm ta) ∧ I 16 qb = nI (tm (tA M ta))))) : rl I M c m q o t := ⟨fun z => by omega, fun z => by omega, fun z => by omega, fun z => by omega, fun _ => h, fun z => by omega, fun z => by omega, fun z => by omega, fun z => by omega, fun z => by omega, fun z => by omega⟩
theorem rl_mk6 {I M : am_I} {c m q o t : Nat} (ho : 6 ≤ o ∧ o ≤ 8) (h : ∃ a qa ta b qb tb, pf M c m 46 a qa ta ∧ pf M c m 47 b qb tb ∧ CS M ta 0 ∧ CS M tb 0 ∧ t = (if o = 8 then 1 else 0) ∧ I 16 qa = 1 ∧ I 16 qb = 1) : rl I M c m q o t := ⟨fun z => by omega, fun z => by omega, fun z => by omega, fun z => by omega, fun z => by omega, fun _ _ => h, fun z => by omega, fun z => by omega, fun z => by omega, fun z => by omega, fun z => by omega⟩
theorem rl_mk9 {I M : am_I} {c m q t : Nat} (h : ∃ a qa ta b qb tb e qe te, pf M c m 46 a qa ta ∧ pf M c m 47 b qb tb ∧ pf M c m 48 e qe te ∧ CS M ta 1 ∧ CS M te tb ∧ t = tb ∧ I 16 qa = 2 ∧ I 16 qb = nI (tm tb) ∧ I 16 qe = nI (tm tb)) : rl I M c m q 9 t := ⟨fun z => by omega, fun z => by omega, fun z => by omega, fun z => by omega, fun z => by omega, fun z => by omega, fun _ => h, fun z => by omega, fun z => by omega, fun z => by omega, fun z => by omega⟩
theorem rl_mk10 {I M : am_I} {c m q t : Nat} (h : ∃ a qa ta, pf M c m 46 a qa ta ∧ M 38 t = 4 ∧ M 39 t = nI ta ∧ I 16 qa = nI (tm ta)) : rl I M c m q 10 t := ⟨fun z => by omega, fun z => by omega, fun z => by omega, fun z => by omega, fun z => by omega, fun z => by omega, fun z => by omega, fun _ => h, fun z => by omega, fun z => by omega, fun z => by omega⟩
theorem rl_mk11 {I M : am_I} {c m q t : Nat} (h : ∃ a qa ta, pf M c m 46 a qa ta ∧ ((ta = 2 ∧ t = 2 ∧ I 16 qa = 4) ∨ (M 38 ta = 4 ∧ t = tA M ta ∧ I 16 qa = nI (tm ta)))) : rl I M c m q 11 t := ⟨fun z => by omega, fun z => by omega, fun z => by omega, fun z => by omega, fun z => by omega, fun z => by omega, fun z => by omega, fun z => by omega, fun _ => h, fun z => by omega, fun z => by omega⟩
theorem rl_mk12 {I M : am_I} {c m q t : Nat} (h : ∃ a qa ta, pf M c m 46 a qa ta ∧ M 44 m = nI t ∧ CS M ta t ∧ I 16 qa = nI (tm t)) : rl I M c m q 12 t := ⟨fun z => by omega, fun z => by omega, fun z => by omega, fun z => by omega, fun z => by omega, fun z => by omega, fun z => by omega, fun z => by omega, fun z => by omega, fun _ => h, fun z => by omega⟩
theorem rl_mk13 {I M : am_I} {c m q t : Nat} (h : ∃ a qa ta, pf M c m 46 a qa ta ∧ t = 0 ∧ CS M ta 0 ∧ I 16 qa = 1) : rl I M c m q 13 t := ⟨fun z => by omega, fun z => by omega, fun z => by omega, fun z => by omega, fun z => by omega, fun z => by omega, fun z => by omega, fun z => by omega, fun z => by omega, fun z => by omega, fun _ => h⟩
theorem pf_g {M M' : am_I} {c c' m x a qa ta : Nat} (h : pf M c m x a qa ta) (hx : 41 ≤ x ∧ x ≤ 48) (hc : c ≤ c') (hg : kG M M') (h71 : M' 71 = M 71) : pf M' c' m x a qa ta := by
  have e : ∀ z, 41 ≤ z → z ≤ 50 → M' z = M z := fun z a b => funext fun m => hg.1 z m (by omega) (by omega) (by omega) (by omega)
  exact pf_X (e x (by omega) (by omega)) (e 42 (by omega) (by omega)) hc (by rw [h71]) h
theorem PC_cn {I M : am_I} {c t u : Nat} (hR : tyR I M c) (ht : t < c) (hu : u < c) : PC I (tm t) (tm u) = cn M 40 t u := pc_cn hR 40 t u ht hu
theorem bt (b : Bool) : (b = true ∧ bi b = 1) ∨ (b = false ∧ bi b = 0) := by cases b <;> simp [bi]
/-- the bounds of a part's type -/
theorem prt_hb {I0 M0 I M : am_I} {c0 N a ta : Nat} (h1 : ∀ h w, tw I0 M0 N c0 h w a → hb M (19 + h) ta ∧ tln I ta ≤ 100 + w) (h2 : ∃ h w, h ≤ 20 ∧ w ≤ 100 ∧ tw I0 M0 N c0 h w a) : hb M 40 ta ∧ tln I ta ≤ 200 := by
  obtain ⟨h, w, a1, a2, a3⟩ := h2
  obtain ⟨b1, b2⟩ := h1 h w a3
  exact ⟨hb_le (by omega) b1, by omega⟩
theorem ck_fun {I0 M0 I M : am_I} {c0 N K c k y q : Nat} (h : SK I0 M0 c0 N K I M c k) (hk : k < K) (hy : M0 50 k = nI y) (hyN : y < N) (hn : nd I0 M0 N c0 y) (hq : M0 42 y = nI q) (hq2 : q < 100) (h41 : M0 41 y = nI 3) (h7 : I0 7 q = nI 3) : ckR I0 M0 c0 N K I M c k y q := by
  have hS := h
  obtain ⟨⟨p1, p2, p3, p4, p5, p6, p7⟩, ⟨e1, e2, e3, e4⟩, h3, h4, h5, h6, h7b, h8, v1, v2⟩ := h
  have x41 : M 41 y = 3 := by
    rw [e1.1, h41]
    decide +kernel
  have x7 : I 7 q = 3 := by
    rw [e3 7 (by omega) (by omega), h7]
    decide +kernel
  have hc5 := h3.1
  have hc6 := h3.2.1
  have hlt := nd_lt hn p2 hyN
  obtain ⟨qn, on, n1, n2, n3, n4, n5, n6, nx1, nx2, nx3, n10, n11, n12, n13⟩ := hn
  have eo := nI_inj (by omega) (by omega) (n3.symm.trans h41)
  subst eo
  have eqn := nI_inj (by omega) (by omega) (n1.symm.trans hq)
  subst eqn
  obtain ⟨a, qa, ta, pA, iA, tA15, tA16, paA, aN, aq, aqq, lenA, exA⟩ := prt hS hk hy hyN hq hq2 (x := 46) (z := 9) (.inl rfl) (by omega) (n11 (by omega)) (fun a ha => ⟨3, by omega, h41, .inl ⟨by omega, ha⟩⟩)
  obtain ⟨hbA, lnA⟩ := prt_hb lenA exA
  have lta := pA.2.2.2.2.2.2
  have tta := tm_lt lta (by omega)
  obtain ⟨s, l, s1, s2, s3, s4, s5, s6⟩ := n10 (.inl rfl)
  have y44 : M 44 y = nI s := by
    rw [e1.2.2.2.1]
    exact s2
  have y13 : I 13 qn = nI (tm s) := by
    rw [e3 13 (by omega) (by omega)]
    exact s3
  have y6 : I 6 (tm s) = nI l := by
    rw [(h7b (tm s) (tm_lt s1 (by omega))).2.2.2.2]
    exact s5
  have hbS : hb M 19 s := hb_X (c := c0) (fun t ht => (h7b t ht).1) s1 s4
  have tts := tm_lt s1 (show 3 ≤ c0 by omega)
  have lA := (ty_len h3 lta).1
  have dec : ∀ h w, tw I0 M0 N c0 h w y → ∃ h' w', h = h' + 1 ∧ tw I0 M0 N c0 h' w' a ∧ w' + l + 3 ≤ w := by
    intro h w z
    cases h with
    | zero => exact absurd z (fun z => z)
    | succ h =>
      obtain ⟨t1, t2, o', t3, t4, t5, t6, t7, t8⟩ := z
      have eo := nI_inj (by omega) (by omega) (t3.symm.trans h41)
      subst eo
      obtain ⟨a', t', l', w1, k1, k2, k3, k4, k5, k6, k7, k8⟩ := t5 rfl
      have la : a' < N := by
        cases h with
        | zero => exact absurd k3 (fun z => z)
        | succ h => exact k3.1
      have ea := nI_inj (by omega) (by omega) (k1.symm.trans (show M0 46 y = nI a by rw [← e1.2.2.2.2.2.1]; exact pA.1))
      subst ea
      have et := nI_inj (by omega) (by omega) (k4.symm.trans s2)
      subst et
      have el := nI_inj (by omega) (by omega) (k6.symm.trans s5)
      subst el
      exact ⟨h, w1, rfl, k3, k8⟩
  have bound : l + tln I ta + 3 ≤ 200 := by
    obtain ⟨h, w, a1, a2, a3⟩ := p7 y hyN
    obtain ⟨h', w', b1, b2, b3⟩ := dec h w a3
    have := (lenA h' w' b2).2
    omega
  obtain ⟨t, c', I2, M2, kk, hz, hR2, ht3, ht2, hc1, hc2, hF, hX2, hI2, hM2⟩ := ty_fun h3 (a := s) (b := ta) (by omega) (by omega) lta y6 lA bound
  have g71 : M2 71 = M 71 := hM2.1 71 (by omega) (by omega) (by omega) (by omega)
  have gk := kG_gT hM2
  obtain ⟨r1, r2⟩ := k14 (I' := gv I2 qn (nI t)) (M' := M2) hR2 (fun z z1 z2 => gv_ne _ _ _ _ (by omega) (by omega)) (fun z _ => rfl)
  have fk : kF I (gv I2 qn (nI t)) := kF_trans (kF_fT hI2) kF_gv
  have i0 : ∀ z p, 14 ≤ z → z ≤ 16 → I2 z p = I z p := fun z p z1 z2 => congrFun (hI2 z (by omega) (by omega) (by omega) (by omega) (by omega)) p
  obtain ⟨f1, f2, f3, f4, f5, f6, f7, f8, f9, f10, f11, f12⟩ := hF
  refine .inr ⟨gv I2 qn (nI t), M2, c', t, by have := hR2.2.1; omega, ⟨hc1, tyX_trans hX2 (r2 c') hc1⟩, fk, gk, fun scr L F d J Mx => ?_, fun scr L F d Ix J => ?_, ?_⟩
  · exact c21_fun scr L F d I J Mx qn hq2 x7 qa (tm ta) (tm s) c iA pA.2.2.2.2.1 tA15 (by omega) h3.2.2.1 hc6 (by omega) y13 (by omega) _ _ kk
  · exact t_fun scr L F d Ix J M y (by omega) x41 a ta pA.2.2.1 pA.1 pA.2.2.2.2.2.1 (by omega) s c y44 h3.2.2.2.1 (by omega) (by omega) _ _ hz
  · refine fin_ok hS hk hy hyN hq hq2 h41 (by omega) hlt r1 (tyX_trans hX2 (r2 c') hc1) hc1 hc2 ht2 gk g71 fk (fun p hp => ⟨?_, ?_⟩) (fun p hp _ => ?_) (by rw [gv_15, tm_3 ht3]) (by rw [gv_16, tm_3 ht3]) (fun h w z => ⟨?_, ?_⟩) ?_
    · rw [gv_z _ _ _ _ _ (by omega) (by omega), i0 15 p (by omega) (by omega)]
    · rw [gv_z _ _ _ _ _ (by omega) (by omega), i0 14 p (by omega) (by omega)]
    · rw [gv_z _ _ _ _ _ (by omega) (by omega), i0 16 p (by omega) (by omega)]
    · obtain ⟨h', w', b1, b2, b3⟩ := dec h w z
      subst b1
      rw [show 19 + (h' + 1) = (19 + h') + 1 by omega]
      refine .inr ⟨s, f5, f1, hb_X (c := c) (fun t ht => (hX2 t ht).1) (by omega) (hb_le (by omega) hbS), fun _ => ⟨ta, f6, f2, hb_X (c := c) (fun t ht => (hX2 t ht).1) lta (lenA h' w' b2).1⟩⟩
    · obtain ⟨h', w', b1, b2, b3⟩ := dec h w z
      have := (lenA h' w' b2).2
      rw [tln_I (gv_ne _ _ _ _ (by omega) (by omega))]
      unfold tln at this ⊢
      rw [tm_3 ht3, f11, nI_clamp (by omega)]
      unfold tln at bound
      have e9 : tln I ta = (I 6 (tm ta)).toNatClampNeg := rfl
      omega
    · refine rl_mk3 ⟨s, a, qa, ta, pf_g pA (by omega) hc1 gk g71, by omega, ?_, f3, f5, f6⟩
      rw [(kG_kS gk).1.2.2.2.1]
      exact y44

theorem ck_new {I0 M0 I M : am_I} {c0 N K c k y q : Nat} (h : SK I0 M0 c0 N K I M c k) (hk : k < K) (hy : M0 50 k = nI y) (hyN : y < N) (hn : nd I0 M0 N c0 y) (hq : M0 42 y = nI q) (hq2 : q < 100) (h41 : M0 41 y = nI 10) (h7 : I0 7 q = nI 10) : ckR I0 M0 c0 N K I M c k y q := by
  have hS := h
  obtain ⟨⟨p1, p2, p3, p4, p5, p6, p7⟩, ⟨e1, e2, e3, e4⟩, h3, h4, h5, h6, h7b, h8, v1, v2⟩ := h
  have x41 : M 41 y = 10 := by
    rw [e1.1, h41]
    decide +kernel
  have x7 : I 7 q = 10 := by
    rw [e3 7 (by omega) (by omega), h7]
    decide +kernel
  have hc5 := h3.1
  have hc6 := h3.2.1
  have hlt := nd_lt hn p2 hyN
  obtain ⟨qn, on, n1, n2, n3, n4, n5, n6, nx1, nx2, nx3, n10, n11, n12, n13⟩ := hn
  have eo := nI_inj (by omega) (by omega) (n3.symm.trans h41)
  subst eo
  have eqn := nI_inj (by omega) (by omega) (n1.symm.trans hq)
  subst eqn
  obtain ⟨a, qa, ta, pA, iA, tA15, tA16, paA, aN, aq, aqq, lenA, exA⟩ := prt hS hk hy hyN hq hq2 (x := 46) (z := 9) (.inl rfl) (by omega) (n11 (by omega)) (fun a ha => ⟨10, by omega, h41, .inl ⟨by omega, ha⟩⟩)
  obtain ⟨hbA, lnA⟩ := prt_hb lenA exA
  have lta := pA.2.2.2.2.2.2
  have tta := tm_lt lta (by omega)
  have lA := (ty_len h3 lta).1
  have dec : ∀ h w, tw I0 M0 N c0 h w y → ∃ h' w', h = h' + 1 ∧ tw I0 M0 N c0 h' w' a ∧ w' + 1 ≤ w := by
    intro h w z
    cases h with
    | zero => exact absurd z (fun z => z)
    | succ h =>
      obtain ⟨t1, t2, o', t3, t4, t5, t6, t7, t8⟩ := z
      have eo := nI_inj (by omega) (by omega) (t3.symm.trans h41)
      subst eo
      obtain ⟨a', w1, k1, k2, k3, k8, _⟩ := t6 (by omega)
      have la : a' < N := by
        cases h with
        | zero => exact absurd k3 (fun z => z)
        | succ h => exact k3.1
      have ea := nI_inj (by omega) (by omega) (k1.symm.trans (show M0 46 y = nI a by rw [← e1.2.2.2.2.2.1]; exact pA.1))
      subst ea
      exact ⟨h, w1, rfl, k3, k8⟩
  have bound : tln I ta + 1 ≤ 200 := by
    obtain ⟨h, w, a1, a2, a3⟩ := p7 y hyN
    obtain ⟨h', w', b1, b2, b3⟩ := dec h w a3
    have := (lenA h' w' b2).2
    omega
  obtain ⟨t, c', I2, M2, kk, hz, hR2, ht3, ht2, hc1, hc2, hF, hX2, hI2, hM2⟩ := ty_cell h3 (a := ta) (by omega) lta lA bound
  have g71 : M2 71 = M 71 := hM2.1 71 (by omega) (by omega) (by omega) (by omega)
  have gk := kG_gT hM2
  obtain ⟨r1, r2⟩ := k14 (I' := gv I2 qn (nI t)) (M' := M2) hR2 (fun z z1 z2 => gv_ne _ _ _ _ (by omega) (by omega)) (fun z _ => rfl)
  have fk : kF I (gv I2 qn (nI t)) := kF_trans (kF_fT hI2) kF_gv
  have i0 : ∀ z p, 14 ≤ z → z ≤ 16 → I2 z p = I z p := fun z p z1 z2 => congrFun (hI2 z (by omega) (by omega) (by omega) (by omega) (by omega)) p
  obtain ⟨f1, f3, f4, f5, f6, f7, f8, f9, f11, f12⟩ := hF
  refine .inr ⟨gv I2 qn (nI t), M2, c', t, by have := hR2.2.1; omega, ⟨hc1, tyX_trans hX2 (r2 c') hc1⟩, fk, gk, fun scr L F d J Mx => ?_, fun scr L F d Ix J => ?_, ?_⟩
  · exact c21_new scr L F d I J Mx qn hq2 x7 qa (tm ta) c iA pA.2.2.2.2.1 tA15 (by omega) h3.2.2.1 hc6 (by omega) _ _ kk
  · exact t_new scr L F d Ix J M y (by omega) x41 a ta pA.2.2.1 pA.1 pA.2.2.2.2.2.1 (by omega) c h3.2.2.2.1 (by omega) (by omega) _ _ hz
  · refine fin_ok hS hk hy hyN hq hq2 h41 (by omega) hlt r1 (tyX_trans hX2 (r2 c') hc1) hc1 hc2 ht2 gk g71 fk (fun p hp => ⟨?_, ?_⟩) (fun p hp _ => ?_) (by rw [gv_15, tm_3 ht3]) (by rw [gv_16, tm_3 ht3]) (fun h w z => ⟨?_, ?_⟩) ?_
    · rw [gv_z _ _ _ _ _ (by omega) (by omega), i0 15 p (by omega) (by omega)]
    · rw [gv_z _ _ _ _ _ (by omega) (by omega), i0 14 p (by omega) (by omega)]
    · rw [gv_z _ _ _ _ _ (by omega) (by omega), i0 16 p (by omega) (by omega)]
    · obtain ⟨h', w', b1, b2, b3⟩ := dec h w z
      subst b1
      rw [show 19 + (h' + 1) = (19 + h') + 1 by omega]
      exact .inr ⟨ta, f5, f1, hb_X (c := c) (fun t ht => (hX2 t ht).1) lta (lenA h' w' b2).1, fun z => absurd (f3.symm.trans z) n43⟩
    · obtain ⟨h', w', b1, b2, b3⟩ := dec h w z
      have := (lenA h' w' b2).2
      rw [tln_I (gv_ne _ _ _ _ (by omega) (by omega))]
      have e9 : tln I2 t = tln I ta + 1 := by
        show (I2 6 (tm t)).toNatClampNeg = _
        rw [tm_3 ht3, f11, nI_clamp (by omega)]
      omega
    · refine rl_mk10 ⟨a, qa, ta, pf_g pA (by omega) hc1 gk g71, f3, f5, ?_⟩
      rw [gv_z _ _ _ _ _ (by omega) (by omega), i0 16 qa (by omega) (by omega)]
      exact tA16

