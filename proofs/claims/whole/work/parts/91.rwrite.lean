/-! Running: writing a cell. -/
theorem tyA {I M : am_I} {c u : Nat} (h : tyR I M c) (hu : u < c) (hk : M 38 u = 3 ∨ M 38 u = 4) : M 39 u = nI (tA M u) ∧ tA M u < c ∧ (M 38 u = 3 → tB M u < c ∧ M 40 u = nI (tB M u)) := by
  rcases ty_kind h hu with ⟨a1, a2, _⟩ | ⟨a1, a2, a3, a4, a5, a6, a7, _⟩ | ⟨a1, a2, a3, a4, a5, _⟩
  · rw [a2] at hk
    rcases hk with z | z
    · exact absurd z (n03 u a1).1
    · exact absurd z (n03 u a1).2.1
  · exact ⟨a6, by omega, fun _ => ⟨by omega, a7⟩⟩
  · exact ⟨a5, by omega, fun z => absurd (a2.symm.trans z) n43⟩
theorem CT_69 {I M : am_I} {V W K C fu P : Nat} (k : Nat) (y : Int32) (h : CT I M V W K C fu P) : CT I (wr M 69 k y) V W K C fu P := by
  unfold CT at h ⊢
  rw [wr_ap _ _ _ _ _ _ (by omega), wr_ap _ _ _ _ _ _ (by omega), wr_ap _ _ _ _ _ _ (by omega), wr_ap _ _ _ _ _ _ (by omega), wr_ap _ _ _ _ _ _ (by omega), wr_ap _ _ _ _ _ _ (by omega), wr_ap _ _ _ _ _ _ (by omega), wr_ap _ _ _ _ _ _ (by omega), wr_ne _ _ _ _ _ (by omega)]
  exact h
theorem rF_69 {fr g : Nat} {I : am_I} {J : am_J} {M : am_I} {Sg fn : Nat → Nat} {V W K C : Nat} {S : List am_T} (k : Nat) (y : Int32) (x : Int64) : rF fr g I I J (wrJ J 35 k x) M (wr M 69 k y) Sg Sg fn fn V V W W K K C C S S := by
  refine ⟨⟨fun _ _ _ => rfl, fun z a b => wr_ne _ _ _ _ _ (by omega), wr_ne _ _ _ _ _ (by omega), fun y b => wr_ap _ _ _ _ _ _ (by omega)⟩, ext_s (fun z hz => wr_ne _ _ _ _ _ (by omega)), fun _ z => z, fun z => z, fun j _ => ⟨rfl, rfl, by rw [wrJ_ne _ _ _ _ _ (by omega)]⟩, fun j _ => ⟨wr_ap _ _ _ _ _ _ (by omega), wr_ap _ _ _ _ _ _ (by omega), wr_ap _ _ _ _ _ _ (by omega), wr_ap _ _ _ _ _ _ (by omega)⟩⟩
theorem ev_write {N c fu φ h : Nat} (ih : Ev N c fu φ h) {I : am_I} {J : am_J} {M : am_I} {Sg fn : Nat → Nat} {V W K C P : Nat} {S : List am_T} {st sr : Nat} (n q s fr g w t : Nat) (hD : DR I J M Sg fn N c V W K C fu P S) (hR : PR I M N c) (hL : LTs M N S) (hS : SI I) (hn : n < N) (htw : tw I M N c (h + 1) w n) (h42 : M 42 n = nI q) (hq : q < 100) (h71 : M 71 n = nI t) (ht : t < c) (i16 : I 21 16 = 0) (i14 : I 21 14 = nI q) (i15 : I 21 15 = nI s) (i6 : I 21 6 = nI fr) (m58 : M 36 58 = nI n) (m59 : M 36 59 = nI s) (m44 : M 36 44 = nI g) (henv : env M fn n s) (hs : s ≤ C) (hφ : fu - C ≤ φ) (hw : w ≤ 100) (hfr : fr + (h + 1) ≤ 20 * (C + 1)) (hg : g + (h + 1) ≤ 20 * (C + 1)) (hB : 4 * (S.length + 2 * (200 - W) + 2 * (40 - K) + 2 * (40 - C)) + 100 * (40 - C) + w ≤ 9160) (hst : st + 2000 * (40 - C) + 10 * w ≤ 99000) (hsr : sr + 2000 * (40 - C) + 10 * w ≤ 99000) (hP : P ≤ st) (h41 : M 41 n = nI 5) : rX I J M st sr ∨ rV N c fu fr g q s w I J M Sg fn V W K C P S st sr t := by
  obtain ⟨o', b1, b2, b3, b4, b5, b6, b7, b8, b9, b10, b11⟩ := node_F hR hn h42 hq h71 ht
  have eo : o' = 5 := nI_inj (by omega) (by omega) (b1.symm.trans h41)
  subst eo
  have hN := hR.1
  have hCT := hD.1.2.2.2.1
  have hc := hD.2.1.2.1
  have hTY := hD.2.1
  have htw0 := htw
  obtain ⟨g1, g2, o, g3, g4, _, _, g7, _⟩ := htw0
  have eo2 : o = 5 := nI_inj (by omega) (by omega) (g3.symm.trans h41)
  subst eo2
  obtain ⟨a0, b0, w1, w2, k1, k2, k3, k4, k5, k6, k7⟩ := g7 (by omega) (by omega)
  obtain ⟨a, qa, ta, b, qb, tb, f1, f2, f3⟩ := b5.2.2.2.2.1 (by omega)
  have A := part_F hR hn h42 f1 (b8 (by omega))
  have B := part_F hR hn h42 f2 (b9 (by omega) (by omega))
  have hw11 := tw_lt k3
  have hw21 := tw_lt k6
  obtain ⟨p1, p2, p3, p4, p5, p6, p7, p8, p9, p10, p11⟩ := A
  obtain ⟨l1, l2, l3, l4, l5, l6, l7, l8, l9, l10, l11⟩ := B
  have ea : a0 = a := nI_inj (by omega) (by omega) (k1.symm.trans p3)
  have eb : b0 = b := nI_inj (by omega) (by omega) (k4.symm.trans l3)
  subst ea
  subst eb
  have qab : ¬ qb = qa := by
    intro z
    rw [z] at l4
    have e := hR.2.2.2.1 _ _ _ p1 l1 p4 l4
    exact (hR.2.2.2.2.2.2 n hn).1 5 b1 (by omega) (by omega) (by omega) _ _ p3 l3 (by omega) (by omega) e
  obtain ⟨u, hu, u38, ut, a16, ucs, b16, bcs, ka, kb⟩ : ∃ u, u < c ∧ M 38 u = 4 ∧ t = tA M u ∧ I 16 qa = nI (tm u) ∧ CS M ta u ∧ I 16 qb = nI (tm t) ∧ CS M tb t ∧ (∀ (scr : Nat → Int32) (L F d : Nat) (Ix : am_I) (Jx : am_J) (M0 : am_I), (∀ z, (37 ≤ z ∧ z ≤ 54) → M0 z = M z) → (∀ y, y < 31 → M0 36 y = M 36 y) → am_r scr L (F + 200000) (d + 1) 125 [.ref 37, .int (nI n), .int (nI ta)] (hp Ix Jx M0) = some (some (.int (nI u)), hp Ix Jx M0, 0, 0)) ∧ (∀ (scr : Nat → Int32) (L F d : Nat) (Ix : am_I) (Jx : am_J) (M0 : am_I), (∀ z, (37 ≤ z ∧ z ≤ 54) → M0 z = M z) → (∀ y, y < 31 → M0 36 y = M 36 y) → am_r scr L (F + 200000) (d + 1) 126 [.ref 37, .int (nI n), .int (nI ta)] (hp Ix Jx M0) = some (some (.int (nI t)), hp Ix Jx M0, 0, 0)) := by
    obtain ⟨o1, o2, o3, o4, o5⟩ := open_4 hTY
    rcases f3 with ⟨y1, y2, y3, y4⟩ | ⟨y1, y2, y3, y4, y5⟩
    · refine ⟨4, by have := hTY.1; omega, o1, by rw [o2]; exact y2, y3, ⟨0, cn0 (.inr (.inl y1))⟩, by rw [y2]; exact y4, ⟨0, cn0 (.inr (.inr y2))⟩, fun scr L F d Ix Jx M0 h1 h2 => ?_, fun scr L F d Ix Jx M0 h1 h2 => ?_⟩
      · exact aA_write_o scr L F d Ix Jx M0 n ta (by omega) (by omega) (by rw [h1 41 (by omega)]; exact b1) (nI 4) (by rw [h2 7 (by omega)]; exact hTY.2.2.2.2.2.1) y1
      · rw [y2]
        exact aB_write_o scr L F d Ix Jx M0 n ta (by omega) (by omega) (by rw [h1 41 (by omega)]; exact b1) y1
    · have y1' : M 38 ta = 4 := y1
      have y3' : t = tA M ta := y3
      have yA := tyA hTY p7 (.inr y1')
      refine ⟨ta, p7, y1', y3', y4, ⟨0, cn0 (.inl rfl)⟩, by rw [y3']; exact y5, by rw [y3']; exact y2, fun scr L F d Ix Jx M0 h1 h2 => ?_, fun scr L F d Ix Jx M0 h1 h2 => ?_⟩
      · exact aA_write scr L F d Ix Jx M0 n ta (by omega) (by omega) (by rw [h1 41 (by omega)]; exact b1) (k_n2 hTY (.inr y1'))
      · rw [y3']
        exact aB_write scr L F d Ix Jx M0 n ta (by omega) (by omega) (by rw [h1 41 (by omega)]; exact b1) (k_n2 hTY (.inr y1')) _ (by rw [h1 39 (by omega)]; exact yA.1)
  have u2 : ¬ u = 2 := k_n2 hTY (.inr u38)
  rcases ev_ab ih n q s fr g w t hD hR hL hS hn htw h42 hq h71 ht i16 i14 i15 i6 m58 m59 m44 henv hs hφ hw hfr hg hB hst hsr hP (u := u) b1 b2 (by omega) (by omega) ⟨p1, p2, p3, p4, p5, p6, p7, p8, p9, p10, p11⟩ ⟨l1, l2, l3, l4, l5, l6, l7, l8, l9, l10, l11⟩ k3 k6 k7 a16 hu u2 ucs ka with z | ⟨I4, J4, M4, Sg4, fn4, V4, W4, K4, C4, P4, S4, st4, sr4, x2, v2, x, v, q1, q2, q3, q4, q5, q6, ⟨r16, r14, r15, r6, r17⟩, ⟨r58, r60, r44⟩, q9, q10, q11, q12, ⟨r30, r31, r32⟩, ⟨r65, r66, r68⟩, n1, n2, n3, n4⟩
  · exact .inl z
  have hCT4 := q1.1.2.2.2.1
  have hKT4 := q1.1.2.2.1
  have q1' := DR_pay q1 ((6 : Int32), nI v, nI (gr M4 tb))
  have q5' : rF fr g I I4 J J4 M M4 Sg Sg4 fn fn4 V V4 W W4 K K4 C C4 S (((6 : Int32), nI v, nI (gr M4 tb)) :: S4) := rF_trans q5 (rF_S (fr := fr) (g := g) (fun τ z => List.mem_cons_of_mem _ z)) (Nat.le_refl _) (Nat.le_refl _)
  have hlen : (((6 : Int32), nI v, nI (gr M4 tb)) :: S4).length = S4.length + 1 := rfl
  rcases second_c (o := 5) (u := t) q1' q5' q6 r16 r14 r6 r17 r58 r60 r44 q9 q10 r30 r65 r66 r68 (by omega) hq b1 h42 p3 (by omega) p6 l3 (by omega) l5 l6 l7 l11 b16 l10 ht bcs kb (by omega) (fun _ => .inr List.mem_cons_self) (by omega) (by omega) n4 (by omega) (by omega) with z | ⟨I5, J5, M5, V5, W5, S5, x5, v5, hD5, s2, ⟨t21, t30, t31, t17, t32⟩, s4, s5, s6, s7, s8, s9, s10, s11, s12⟩
  · exact .inl z
  have hE := q5.1
  have hp5 := s8 (.inr List.mem_cons_self)
  have hE5 := s2.1
  have z38 : M5 38 u = 4 := by
    rw [hE5.2.1 38 (by omega) (by omega), hE.2.1 38 (by omega) (by omega)]
    exact u38
  have z39 : tA M5 u = t := by
    rw [ut]
    unfold tA
    rw [hE5.2.1 39 (by omega) (by omega), hE.2.1 39 (by omega) (by omega)]
  have hvb := VR_VB (VR_X s2.2.1 q11) u2
  obtain ⟨e, te, xe, x6, v6, I6, J6, M6, hco, m1, m2, m3⟩ := in_ok hD5 hvb (.inr z38) (by rw [z39]; exact s5) (by rw [z39]; exact hp5) s6 (by omega)
  obtain ⟨k, hk1, hk2, hk3, hk4, hk5⟩ := core_cell hD5.2.1 hKT4.2.2 hco z38
  obtain ⟨y1, y2, vc, y3, y4, y5⟩ := hD5.2.2.2.1 k hk1
  have hV9 := pigeon (row M5) V5 S5 hD5.2.2.2.2.2.1 hD5.2.2.2.2.2.2
  have hcf : cF I5 I6 J5 J6 M5 M6 := by
    rcases m1 with ⟨_, z⟩ | ⟨_, z, _⟩
    · exact z
    · exact z
  have hk58 : (∀ v, v < V5 → M6 55 v = M5 55 v ∧ M6 56 v = M5 56 v) ∧ (∀ w, w < W5 → M6 58 w = M5 58 w) := by
    rcases m1 with ⟨⟨V6, W6, S6, c1, c2, c3, _⟩, _⟩ | ⟨_, _, z1, z2⟩
    · exact ⟨fun v hv => ⟨(c3.2.1 v hv).1, (c3.2.1 v hv).2.1⟩, fun w hw => (c3.2.2.1 w hw).1⟩
    · exact ⟨z1, z2⟩
  have v21 : I6 21 = I5 21 := hcf.1 21 (by omega) (by omega) (by omega) (by omega) (by omega)
  have v30 : I6 30 = I5 30 := hcf.1 30 (by omega) (by omega) (by omega) (by omega) (by omega)
  have j21 : J6 21 17 = x5 := by rw [hcf.2.2.1 21 (by omega)]; exact t17
  have k17 : ∀ (scr : Nat → Int32) (L F d : Nat) (Mx : am_I), am_r scr L (F + 200000) (d + 8) 17 [.ref 23, .long (J5 32 fr), .long (J5 21 17)] (hp I5 J5 Mx) = some (some (.long x6), hp I6 J6 Mx, 0, 0) := by
    intro scr L F d Mx
    rw [t32, r32, t17]
    exact m2 scr L F (d + 1) Mx
  have k128 : ∀ (scr : Nat → Int32) (L F d : Nat) (Ix : am_I) (Jx : am_J), am_r scr L (F + 200000) (d + 12) 128 [.ref 37, .int (nI n), .int (nI v2)] (hp Ix Jx (wr M4 36 44 (nI g))) = some (none, hp Ix Jx (gvM (wr M6 69 k (nI v6)) (nI v5)), 0, 0) := by
    intro scr L F d Ix Jx
    exact s128_write scr L F d Ix Jx (wr M4 36 44 (nI g)) n a0 b0 (by omega) (by rw [wr_ap _ _ _ _ _ _ (by omega), hE.2.1 46 (by omega) (by omega)]; exact p3) (by omega) (by rw [wr_ap _ _ _ _ _ _ (by omega), hE.2.1 47 (by omega) (by omega)]; exact l3) (by omega) ta tb t (by rw [wr_ap _ _ _ _ _ _ (by omega), hE.2.2.1]; exact p6) (by rw [wr_ap _ _ _ _ _ _ (by omega), hE.2.2.1]; exact l6) v v2 (by rw [wr_n2 _ _ _ _ _ (by omega)]; exact r60) (by rw [wr_ap _ _ _ _ _ _ (by omega), hE.2.1 41 (by omega) (by omega)]; exact b1) (kb scr L F (d + 10) Ix Jx _ (fun z hz => by rw [wr_ne _ _ _ _ _ (by omega)]; exact hE.2.1 z (by omega) (by omega)) (fun y hy => by rw [wr_n2 _ _ _ _ _ (by omega)]; exact hE.2.2.2 y hy)) (2 * nI q) (by rw [wr_ap _ _ _ _ _ _ (by omega), hE.2.1 42 (by omega) (by omega), h42]) v5 M5 (s10 scr L F (d + 6) Ix Jx) hD5.1.2.2.2.2.1.2.1 (nI v6) M6 (m3 scr L F (d + 4) Ix Jx) e k (hco.2.2.2.2.2 M6 hk58.1 hk58.2 scr L F (d + 10) Ix Jx) (by omega) (by rw [(hk58.1 e hk5).2]; exact hk2) (by omega)
  rcases m1 with ⟨⟨V6, W6, S6, c1, c2, c3, c4, c5, c6, c7, c8⟩, _⟩ | ⟨c1, _, _⟩
  · right
    have eM : ∀ z, ¬ z = 69 → wr M6 69 k (nI v6) z = M6 z := fun z hz => wr_ne _ _ _ _ _ hz
    have he7 : ext M6 (wr M6 69 k (nI v6)) Sg4 Sg4 fn4 fn4 V6 V6 W6 W6 K4 K4 C4 C4 := ext_s (fun z hz => eM z (by omega))
    have hD7 : DR I6 (wrJ J6 35 k x6) (wr M6 69 k (nI v6)) Sg4 fn4 N c V6 W6 K4 C4 fu P4 S6 := by
      refine DR_N c1 (CT_69 k (nI v6) c1.1) he7 (fun _ _ => rfl) (wrJ_ne _ _ _ _ _ (by omega)) (fun y hy => wr_ap _ _ _ _ _ _ (by omega)) (fun k' hk' => ?_) (fun s s1 s2 => .inl ⟨s2, rfl, by rw [wrJ_ne _ _ _ _ _ (by omega)], by rw [eM 62 (by omega)], by rw [eM 63 (by omega)], by rw [eM 64 (by omega)]⟩)
      by_cases ek : k' = k
      · right
        subst ek
        obtain ⟨w1', w2', _⟩ := c1.2.2.2.1 k' hk1
        have tAe : tA (wr M6 69 k' (nI v6)) (Sg4 k') = tA M5 te := by
          rw [hk3]
          unfold tA
          rw [eM 39 (by omega), hcf.2.2.2.1 39 (by omega) (by omega)]
        refine ⟨by rw [eM 38 (by omega)]; exact w1', w2', v6, wr_s _ _ _ _, ?_, ?_⟩
        · rw [tAe, wrJ_s]
          exact VR_X he7 c2
        · rw [tAe]
          exact pd_X (eM 38 (by omega)) (fun _ z => z) c6
      · exact .inl ⟨hk', by rw [wr_n2 _ _ _ _ _ ek], wrJ_q _ _ _ _ _ _ (by omega)⟩
    refine fin_v q5' q6 (rF_trans s2 (rF_trans (rF_c (fr := fr) (g := g) hcf c3 c5) (rF_69 (fr := fr) (g := g) k (nI v6) x6) (Nat.le_refl _) (Nat.le_refl _)) (Nat.le_refl _) (Nat.le_refl _)) hD7 (by rw [v21, t21]; exact r15) (by rw [v30, t30]; exact r30) (by rw [wr_ap _ _ _ _ _ _ (by omega), hcf.2.2.2.2 44 (by omega) (by omega) (by omega) (by omega)]; exact s4) (VR_X he7 (VR_X c3 s5)) s6 (fun scr L F d Mx mo A R z => ?_) (fun scr L F d Ix Jx mo A R z => ?_) (by omega) (by omega) (by omega) (by omega)
    · refine x_last scr L F d I4 J4 Mx mo st4 (by omega) q1.1.2.2.2.2.1.2.2 r16 fr qb q r6 (by omega) r14 l5 r30 hq (by rw [hE.1 8 (by omega) (by omega)]; exact l10) I5 J5 (s9 scr L F d Mx) (by rw [t21]; exact r14) (by rw [t21]; exact r6) (by rw [t30]; exact r30) qa p5 (by rw [s2.1.1 9 (by omega) (by omega), hE.1 9 (by omega) (by omega)]; exact p8) _ _ qab ?_ ?_ A R z
      · have k45 := c45_g scr L F (d + 1) I5 J5 Mx (J5 32 fr) x6 I6 J6 (k17 scr L F d Mx) c1.1.2.2.2.2.1.1 xe (by rw [t32, r32]; exact hco.2.2.2.2.1 I6 J6 c8 scr L F (d + 6) Mx) k hk4 (by omega) fr (by rw [v21, t21]; exact r6) (by omega)
        rw [j21] at k45
        exact c41_write scr L F (d + 1) I5 J5 Mx fr (by rw [t21]; exact r6) (by omega) q (by rw [t30]; exact r30) hq (by rw [s2.1.1 7 (by omega) (by omega), hE.1 7 (by omega) (by omega)]; exact b2) _ _ k45
      · rw [fi_ne _ _ _ (by omega)]
        exact c1.1.2.2.2.2.1.1
    · skip
      refine y_come scr L F d Ix Jx M4 mo sr4 (by omega) q1.1.2.2.2.2.1.2.1 r58 _ ?_ A R z
      refine o130_second scr L F d Ix Jx M4 g r44 (by omega) n (by omega) (by rw [wr_ap _ _ _ _ _ _ (by omega)]; exact r65) (nI v2) (by rw [wr_ap _ _ _ _ _ _ (by omega)]; exact r66) (by rw [wr_ap _ _ _ _ _ _ (by omega)]; exact r68) _ ?_
      exact k128 scr L F d Ix Jx
  · left
    obtain ⟨e3, e4⟩ := bSt_n c1
    refine rX_go hE q5.2.2.2.1 q6 (by omega) (by omega) (rX_bad (I1 := I6) (I2 := I6) (J2 := J6) (M1 := M6) (M2 := gvM (wr M6 69 k (nI v6)) (nI v5)) q1 c1 rfl (by rw [gvM_ne _ _ _ (by omega) (by omega), wr_ap _ _ _ _ _ _ (by omega)]) (by rw [gvM_ne _ _ _ (by omega) (by omega), wr_ap _ _ _ _ _ _ (by omega)]) (rkI_trans s11 (rkI_c hcf)) (rkM_trans s12 (rkM_trans (rkM_c hcf) (rkM_trans (rkM_69 M6 k (nI v6)) (rkM_g _ _)))) n4 (by omega) (by omega) (fun scr L F d Mx mo e R e1 e2 z => ?_) (fun scr L F d Ix Jx mo R z => ?_))
    · refine x_last_s scr L F d I4 J4 Mx mo st4 (by omega) q1.1.2.2.2.2.1.2.2 r16 fr qb q r6 (by omega) r14 l5 r30 hq (by rw [hE.1 8 (by omega) (by omega)]; exact l10) I5 J5 (s9 scr L F d Mx) (by rw [t21]; exact r14) (by rw [t21]; exact r6) (by rw [t30]; exact r30) qa p5 (by rw [s2.1.1 9 (by omega) (by omega), hE.1 9 (by omega) (by omega)]; exact p8) _ _ qab ?_ e e1 e2 80 R z
      exact c41_write scr L F (d + 1) I5 J5 Mx fr (by rw [t21]; exact r6) (by omega) q (by rw [t30]; exact r30) hq (by rw [s2.1.1 7 (by omega) (by omega), hE.1 7 (by omega) (by omega)]; exact b2) _ _ (c45_f scr L F (d + 1) I5 J5 Mx (J5 32 fr) x6 I6 J6 (k17 scr L F d Mx) e3)
    · skip
      refine y_come scr L F d Ix Jx M4 mo sr4 (by omega) q1.1.2.2.2.2.1.2.1 r58 _ ?_ 40 R z
      refine o130_second scr L F d Ix Jx M4 g r44 (by omega) n (by omega) (by rw [wr_ap _ _ _ _ _ _ (by omega)]; exact r65) (nI v2) (by rw [wr_ap _ _ _ _ _ _ (by omega)]; exact r66) (by rw [wr_ap _ _ _ _ _ _ (by omega)]; exact r68) _ ?_
      exact k128 scr L F d Ix Jx

