/-! Running: reading a cell. -/
theorem gvM_ne (M : am_I) (x : Int32) (y : Nat) (h : ¬ y = 58) (h1 : ¬ y = 60) : gvM M x 36 y = M 36 y := by
  simp [gvM, va_up, upd, h, h1]
theorem core_cell {I : am_I} {J : am_J} {M : am_I} {Sg fn : Nat → Nat} {N c V W K C f tf e te : Nat} {fx xe : Int64} (hR : tyR I M c) (hK : K ≤ 40) (hc : core J M Sg fn N c V W K C f fx tf e te xe) (h : M 38 tf = 4) : ∃ k, k < K ∧ M 56 e = nI k ∧ te = Sg k ∧ v_ca xe = nI k ∧ e < V := by
  obtain ⟨⟨h1, h2, h3⟩, h4, h5, h6, _⟩ := hc
  rw [h] at h5
  rcases h3 with ⟨z1, z2, z3⟩ | ⟨z1, z2, _⟩ | ⟨z1, z2, _⟩ | ⟨z1, z2, k, z3, z4, z5, z6⟩ | ⟨z1, _⟩
  · rw [z2, (hR.2.2.2.2.2.2.1 0 (by omega)).2.2.2.2] at h5
    exact absurd h5 (by decide)
  · rw [z2, (hR.2.2.2.2.2.2.1 1 (by omega)).2.2.2.2] at h5
    exact absurd h5 (by decide)
  · rw [z2] at h5
    exact absurd h5 (by decide)
  · exact ⟨k, z3, z4, z5, by rw [z6]; exact of_ca _ 3 (by omega), h1⟩
  · exact absurd z1 h4
theorem core_fun {I : am_I} {J : am_J} {M : am_I} {Sg fn : Nat → Nat} {N c V W K C f tf e te : Nat} {fx xe : Int64} (hR : tyR I M c) (hc : core J M Sg fn N c V W K C f fx tf e te xe) (h : M 38 tf = 3) : e < V ∧ ∃ n q s, n < N ∧ M 56 e = nI n ∧ M 57 e = nI s ∧ s ≤ C ∧ M 41 n = 3 ∧ M 42 n = nI q ∧ q < 100 ∧ M 71 n = nI te ∧ v_ca xe = nI (q * 41 + s) ∧ env M fn n s := by
  obtain ⟨⟨h1, h2, h3⟩, h4, h5, h6, _⟩ := hc
  rw [h] at h5
  rcases h3 with ⟨z1, z2, z3⟩ | ⟨z1, z2, _⟩ | ⟨z1, z2, n, q, s, a1, a2, a3, a4, a5, a6, a7, a8, a9, a10⟩ | ⟨z1, z2, k, z3, z4, z5, z6⟩ | ⟨z1, _⟩
  · rw [z2, (hR.2.2.2.2.2.2.1 0 (by omega)).2.2.2.2] at h5
    exact absurd h5 (by decide)
  · rw [z2, (hR.2.2.2.2.2.2.1 1 (by omega)).2.2.2.2] at h5
    exact absurd h5 (by decide)
  · exact ⟨h1, n, q, s, a1, a2, a3, a4, a5, a6, a7, a8, by rw [a9]; exact of_ca _ 2 (by omega), a10⟩
  · rw [z2] at h5
    exact absurd h5 (by decide)
  · exact absurd z1 h4
theorem VR_lt {M : am_I} {Sg fn : Nat → Nat} {N c V W K C v t : Nat} {x : Int64} (h : VR M Sg fn N c V W K C v x t) : v < V := by
  rcases h with ⟨_, z⟩ | ⟨_, z, _⟩
  · exact z.1
  · exact z
theorem VR_VB {M : am_I} {Sg fn : Nat → Nat} {N c V W K C v t : Nat} {x : Int64} (h : VR M Sg fn N c V W K C v x t) (ht : ¬ t = 2) : VB M Sg fn N c V W K C v x t := by
  rcases h with ⟨_, z⟩ | ⟨z, _⟩
  · exact z
  · exact absurd z ht
theorem k_n2 {I M : am_I} {c t : Nat} (hR : tyR I M c) (h : M 38 t = 3 ∨ M 38 t = 4) : ¬ t = 2 := by
  intro z
  rw [z, (hR.2.2.2.2.2.2.1 2 (by omega)).2.2.2.2] at h
  exact absurd h (by decide)
theorem open_4 {I M : am_I} {c : Nat} (hR : tyR I M c) : M 38 4 = 4 ∧ tA M 4 = 2 ∧ M 38 3 = 3 ∧ tA M 3 = 2 ∧ tB M 3 = 2 := by
  obtain ⟨x1, x2, x3, x4, x5⟩ := hR.2.2.2.2.2.2.2.2
  refine ⟨x4, ?_, x1, ?_, ?_⟩
  · unfold tA
    rw [x5]
    rfl
  · unfold tA
    rw [x2]
    rfl
  · unfold tB
    rw [x3]
    rfl
theorem rT_0 (M : am_I) (t : Nat) : rT M 0 t = tA M t := by
  unfold rT
  rw [if_neg (by decide)]
theorem rT_1 (M : am_I) (t : Nat) : rT M 1 t = tB M t := by
  unfold rT
  rw [if_pos rfl]
theorem ev_read {N c fu φ h : Nat} (ih : Ev N c fu φ h) {I : am_I} {J : am_J} {M : am_I} {Sg fn : Nat → Nat} {V W K C P : Nat} {S : List am_T} {st sr : Nat} (n q s fr g w t : Nat) (hD : DR I J M Sg fn N c V W K C fu P S) (hR : PR I M N c) (hL : LTs M N S) (hS : SI I) (hn : n < N) (htw : tw I M N c (h + 1) w n) (h42 : M 42 n = nI q) (hq : q < 100) (h71 : M 71 n = nI t) (ht : t < c) (i16 : I 21 16 = 0) (i14 : I 21 14 = nI q) (i15 : I 21 15 = nI s) (i6 : I 21 6 = nI fr) (m58 : M 36 58 = nI n) (m59 : M 36 59 = nI s) (m44 : M 36 44 = nI g) (henv : env M fn n s) (hs : s ≤ C) (hφ : fu - C ≤ φ) (hw : w ≤ 100) (hfr : fr + (h + 1) ≤ 20 * (C + 1)) (hg : g + (h + 1) ≤ 20 * (C + 1)) (hB : 4 * (S.length + 2 * (200 - W) + 2 * (40 - K) + 2 * (40 - C)) + 100 * (40 - C) + w ≤ 9160) (hst : st + 2000 * (40 - C) + 10 * w ≤ 99000) (hsr : sr + 2000 * (40 - C) + 10 * w ≤ 99000) (hP : P ≤ st) (h41 : M 41 n = nI 11) : rX I J M st sr ∨ rV N c fu fr g q s w I J M Sg fn V W K C P S st sr t := by
  obtain ⟨o', b1, b2, b3, b4, b5, b6, b7, b8, b9, b10, b11⟩ := node_F hR hn h42 hq h71 ht
  have eo : o' = 11 := nI_inj (by omega) (by omega) (b1.symm.trans h41)
  subst eo
  have hN := hR.1
  have hCT := hD.1.2.2.2.1
  have hc := hD.2.1.2.1
  have htw0 := htw
  obtain ⟨g1, g2, o, g3, g4, _, g6, _⟩ := htw0
  have eo2 : o = 11 := nI_inj (by omega) (by omega) (g3.symm.trans h41)
  subst eo2
  obtain ⟨a0, w1, k1, k2, k3, k4, k5⟩ := g6 (by omega)
  obtain ⟨a, qa, ta, f1, f2⟩ := b5.2.2.2.2.2.2.2.2.1 rfl
  obtain ⟨p1, p2, p3, p4, p5, p6, p7, p8, p9, p10, p11⟩ := part_F hR hn h42 f1 (b8 (by omega))
  have hw11 := tw_lt k3
  have ea : a0 = a := nI_inj (by omega) (by omega) (k1.symm.trans p3)
  subst ea
  rcases ev_a ih n q s fr g w t hD hR hL hS hn htw h42 hq h71 ht i16 i14 i15 i6 m58 m59 m44 henv hs hφ hw hfr hg hB hst hsr hP b1 b2 (by omega) (by omega) p1 p2 p3 p4 p5 p6 p7 p8 p9 k3 k4 with z | ⟨I1, J1, M1, Sg1, fn1, V1, W1, K1, C1, P1, S1, st1, sr1, x, v, q1, q2, q3, q4, q5, q6, ⟨r16, r14, r15, r6, r17⟩, ⟨r58, r60, r44⟩, q9, q10, ⟨r30, r31⟩, ⟨r65, r66, r67⟩, n1, n2, n3, n4⟩
  · exact .inl z
  have hCT1 := q1.1.2.2.2.1
  have hKT1 := q1.1.2.2.1
  have hTY := hD.2.1
  obtain ⟨u, hu, u38, ut, a16, ucs, ka⟩ : ∃ u, u < c ∧ M 38 u = 4 ∧ t = tA M u ∧ I 16 qa = nI (tm u) ∧ CS M ta u ∧ (∀ (scr : Nat → Int32) (L F d : Nat) (Ix : am_I) (Jx : am_J) (M0 : am_I), (∀ z, (37 ≤ z ∧ z ≤ 54) → M0 z = M z) → (∀ y, y < 31 → M0 36 y = M 36 y) → am_r scr L (F + 200000) (d + 1) 125 [.ref 37, .int (nI n), .int (nI ta)] (hp Ix Jx M0) = some (some (.int (nI u)), hp Ix Jx M0, 0, 0)) := by
    obtain ⟨o1, o2, o3, o4, o5⟩ := open_4 hTY
    rcases f2 with ⟨y1, y2, y3⟩ | ⟨y1, y2, y3⟩
    · refine ⟨4, by have := hTY.1; omega, o1, by rw [o2]; exact y2, y3, ⟨0, cn0 (.inr (.inl y1))⟩, fun scr L F d Ix Jx M0 h1 h2 => ?_⟩
      exact aA_read_o scr L F d Ix Jx M0 n ta (by omega) (by omega) (by rw [h1 41 (by omega)]; exact b1) (nI 4) (by rw [h2 7 (by omega)]; exact hTY.2.2.2.2.2.1) y1
    · refine ⟨ta, p7, y1, y2, y3, ⟨0, cn0 (.inl rfl)⟩, fun scr L F d Ix Jx M0 h1 h2 => ?_⟩
      exact aA_read scr L F d Ix Jx M0 n ta (by omega) (by omega) (by rw [h1 41 (by omega)]; exact b1) (k_n2 hTY (.inr y1))
  have u2 : ¬ u = 2 := k_n2 hTY (.inr u38)
  rcases first_c (o := 11) (u := u) q1 q5 q6 r16 r14 r6 r17 r58 r60 r44 q9 q10 r30 r65 r66 r67 (by omega) hq b1 h42 p3 (by omega) p5 p6 p7 p11 a16 p10 hu ucs ka (by omega) (fun z => absurd z u2) (by omega) (by omega) n4 (by omega) (by omega) with z | ⟨I2, J2, M2, V2, W2, S2, x2, v2, hD2, s2, ⟨t21, t30, t31, t17, t32⟩, s4, s5, s6, s7, s8, s9, s10, s11, s12⟩
  · exact .inl z
  have hE := q5.1
  have hE2 := s2.1
  have z38 : M2 38 u = 4 := by
    rw [hE2.2.1 38 (by omega) (by omega), hE.2.1 38 (by omega) (by omega)]
    exact u38
  have z39 : tA M2 u = t := by
    rw [ut]
    unfold tA
    rw [hE2.2.1 39 (by omega) (by omega), hE.2.1 39 (by omega) (by omega)]
  have hvb := VR_VB s5 u2
  obtain ⟨e, te, xe, hco⟩ := core_ex hD2 (by omega) hvb (.inr z38)
  obtain ⟨k, hk1, hk2, hk3, hk4, hk5⟩ := core_cell hD2.2.1 hKT1.2.2 hco z38
  obtain ⟨y1, y2, vc, y3, y4, y5⟩ := hD2.2.2.2.1 k hk1
  have hV9 := pigeon (row M2) V2 S2 hD2.2.2.2.2.2.1 hD2.2.2.2.2.2.2
  have hvc := VR_lt y4
  obtain ⟨x3, v3, I3, J3, M3, m1, m2, m3⟩ := out_ok (b0 := 0) hN hD2 hvb (.inr ⟨rfl, z38⟩) hco (by rw [rT_0, hk3]; exact y4) (by rw [rT_0, hk3]; exact y5) (by omega) (by omega)
  have k16 : ∀ (scr : Nat → Int32) (L F d : Nat) (Mx : am_I), am_r scr L (F + 200000) (d + 9) 16 [.ref 23, .long (J2 21 17)] (hp I2 J2 Mx) = some (some (.long xe), hp I2 J2 Mx, 0, 0) := by
    intro scr L F d Mx
    rw [t17]
    exact hco.2.2.2.2.1 I2 J2 (fun _ _ => rfl) scr L F (d + 7) Mx
  have k18 : ∀ (scr : Nat → Int32) (L F d : Nat) (Mx : am_I), am_r scr L (F + 200000) (d + 9) 18 [.ref 23, .long (J2 21 17), .long (J2 35 k)] (hp I2 J2 Mx) = some (some (.long x3), hp I3 J3 Mx, 0, 0) := by
    intro scr L F d Mx
    rw [t17]
    exact m2 scr L F (d + 2) Mx
  have hcf : cF I2 I3 J2 J3 M2 M3 := by
    rcases m1 with ⟨_, z⟩ | ⟨_, z, _⟩
    · exact z
    · exact z
  have v21 : I3 21 = I2 21 := hcf.1 21 (by omega) (by omega) (by omega) (by omega) (by omega)
  have v30 : I3 30 = I2 30 := hcf.1 30 (by omega) (by omega) (by omega) (by omega) (by omega)
  have k40 : ∀ (scr : Nat → Int32) (L F d : Nat) (Mx : am_I), am_r scr L (F + 200000) (d + 10) 40 [.ref 22] (hp I2 J2 Mx) = some (none, hp (fiI I3 fr) (wrJ J3 21 17 x3) Mx, 0, 0) := fun scr L F d Mx => c40_read scr L F (d + 2) I2 J2 Mx fr (by rw [t21]; exact r6) (by omega) q (by rw [t30]; exact r30) hq (by rw [s2.1.1 7 (by omega) (by omega), hE.1 7 (by omega) (by omega)]; exact b2) xe (k16 scr L F d Mx) k hk4 (by omega) x3 I3 J3 (k18 scr L F d Mx) (by rw [v21, t21]; exact r6)
  have k130 : ∀ (scr : Nat → Int32) (L F d : Nat) (Ix : am_I) (Jx : am_J), am_r scr L (F + 200000) (d + 12) 127 [.ref 37, .int (nI n), .int (nI s)] (hp Ix Jx (wr M1 36 44 (nI g))) = some (none, hp Ix Jx (gvM M3 (nI v3)), 0, 0) := by
    intro scr L F d Ix Jx
    exact f127_read scr L F (d + 1) Ix Jx (wr M1 36 44 (nI g)) s n a0 (by omega) (by rw [wr_ap _ _ _ _ _ _ (by omega), hE.2.1 46 (by omega) (by omega)]; exact p3) (by omega) ta u (by rw [wr_ap _ _ _ _ _ _ (by omega), hE.2.2.1]; exact p6) v (by rw [wr_n2 _ _ _ _ _ (by omega)]; exact r60) (by rw [wr_ap _ _ _ _ _ _ (by omega), hE.2.1 41 (by omega) (by omega)]; exact b1) (ka scr L F (d + 10) Ix Jx _ (fun z hz => by rw [wr_ne _ _ _ _ _ (by omega)]; exact hE.2.1 z (by omega) (by omega)) (fun y hy => by rw [wr_n2 _ _ _ _ _ (by omega)]; exact hE.2.2.2 y hy)) (2 * nI q) (by rw [wr_ap _ _ _ _ _ _ (by omega), hE.2.1 42 (by omega) (by omega), h42]) v2 M2 (s10 scr L F (d + 6) Ix Jx) hD2.1.2.2.2.2.1.2.1 e k vc (hco.2.2.2.2.2 M2 (fun _ _ => ⟨rfl, rfl⟩) (fun _ _ => rfl) scr L F (d + 10) Ix Jx) (by omega) hk2 (by omega) y3 (nI v3) M3 (m3 scr L F (d + 4) Ix Jx)
  rcases m1 with ⟨⟨V3, W3, S3, c1, c2, c3, c4, c5, c6, c7, c8⟩, _⟩ | ⟨c1, _, _⟩
  · right
    rw [rT_0, z39] at c2
    refine fin_v q5 q6 (rF_trans s2 (rF_c (fr := fr) (g := g) hcf c3 c5) (Nat.le_refl _) (Nat.le_refl _)) c1 (by rw [v21, t21]; exact r15) (by rw [v30, t30]; exact r30) (by rw [hcf.2.2.2.2 44 (by omega) (by omega) (by omega) (by omega)]; exact s4) c2 c7 (fun scr L F d Mx mo A R z => ?_) (fun scr L F d Ix Jx mo A R z => ?_) (by omega) (by omega) (by omega) (by omega)
    · refine x_first scr L F d I1 J1 Mx mo st1 (by omega) q1.1.2.2.2.2.1.2.2 r16 fr qa q r6 (by omega) r14 p5 r30 hq (by rw [hE.1 8 (by omega) (by omega)]; exact p10) I2 J2 (s9 scr L F d Mx) (by rw [t21]; exact r14) (by rw [t21]; exact r6) (by rw [t30]; exact r30) qa p5 (by rw [s2.1.1 9 (by omega) (by omega), hE.1 9 (by omega) (by omega)]; exact p8) _ _ rfl ?_ ?_ A R z
      · exact k40 scr L F d Mx
      · rw [fi_ne _ _ _ (by omega)]
        exact c1.1.2.2.2.2.1.1
    · skip
      refine y_come scr L F d Ix Jx M1 mo sr1 (by omega) q1.1.2.2.2.2.1.2.1 r58 _ ?_ A R z
      refine o130_first scr L F d Ix Jx M1 g r44 (by omega) n (by omega) (by rw [wr_ap _ _ _ _ _ _ (by omega)]; exact r65) _ (nI s) (by rw [wr_ap _ _ _ _ _ _ (by omega)]; exact r66) rfl (by rw [wr_ap _ _ _ _ _ _ (by omega)]; exact r67) _ ?_
      exact k130 scr L F d Ix Jx
  · left
    refine rX_go hE q5.2.2.2.1 q6 (by omega) (by omega) (rX_bad (I1 := I3) (I2 := fiI I3 fr) (J2 := wrJ J3 21 17 x3) (M1 := M3) (M2 := gvM M3 (nI v3)) q1 c1 (fi_ne _ _ _ (by omega)) (gvM_ne _ _ _ (by omega) (by omega)) (gvM_ne _ _ _ (by omega) (by omega)) (rkI_trans s11 (rkI_trans (rkI_c hcf) (rkI_f I3 fr))) (rkM_trans s12 (rkM_trans (rkM_c hcf) (rkM_g _ _))) n4 (by omega) (by omega) (fun scr L F d Mx mo e R e1 e2 z => ?_) (fun scr L F d Ix Jx mo R z => ?_))
    · refine x_first_s scr L F d I1 J1 Mx mo st1 (by omega) q1.1.2.2.2.2.1.2.2 r16 fr qa q r6 (by omega) r14 p5 r30 hq (by rw [hE.1 8 (by omega) (by omega)]; exact p10) I2 J2 (s9 scr L F d Mx) (by rw [t21]; exact r14) (by rw [t21]; exact r6) (by rw [t30]; exact r30) qa p5 (by rw [s2.1.1 9 (by omega) (by omega), hE.1 9 (by omega) (by omega)]; exact p8) _ _ rfl ?_ e e1 e2 80 R z
      exact k40 scr L F d Mx
    · skip
      refine y_come scr L F d Ix Jx M1 mo sr1 (by omega) q1.1.2.2.2.2.1.2.1 r58 _ ?_ 40 R z
      refine o130_first scr L F d Ix Jx M1 g r44 (by omega) n (by omega) (by rw [wr_ap _ _ _ _ _ _ (by omega)]; exact r65) _ (nI s) (by rw [wr_ap _ _ _ _ _ _ (by omega)]; exact r66) rfl (by rw [wr_ap _ _ _ _ _ _ (by omega)]; exact r67) _ ?_
      exact k130 scr L F d Ix Jx

