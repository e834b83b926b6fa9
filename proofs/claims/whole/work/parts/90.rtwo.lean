/-! Running: what has two parts (II). -/
theorem ev_plus {N c fu φ h : Nat} (ih : Ev N c fu φ h) {I : am_I} {J : am_J} {M : am_I} {Sg fn : Nat → Nat} {V W K C P : Nat} {S : List am_T} {st sr : Nat} (n q s fr g w t : Nat) (hD : DR I J M Sg fn N c V W K C fu P S) (hR : PR I M N c) (hL : LTs M N S) (hS : SI I) (hn : n < N) (htw : tw I M N c (h + 1) w n) (h42 : M 42 n = nI q) (hq : q < 100) (h71 : M 71 n = nI t) (ht : t < c) (i16 : I 21 16 = 0) (i14 : I 21 14 = nI q) (i15 : I 21 15 = nI s) (i6 : I 21 6 = nI fr) (m58 : M 36 58 = nI n) (m59 : M 36 59 = nI s) (m44 : M 36 44 = nI g) (henv : env M fn n s) (hs : s ≤ C) (hφ : fu - C ≤ φ) (hw : w ≤ 100) (hfr : fr + (h + 1) ≤ 20 * (C + 1)) (hg : g + (h + 1) ≤ 20 * (C + 1)) (hB : 4 * (S.length + 2 * (200 - W) + 2 * (40 - K) + 2 * (40 - C)) + 100 * (40 - C) + w ≤ 9160) (hst : st + 2000 * (40 - C) + 10 * w ≤ 99000) (hsr : sr + 2000 * (40 - C) + 10 * w ≤ 99000) (hP : P ≤ st) (h41 : M 41 n = nI 6) : rX I J M st sr ∨ rV N c fu fr g q s w I J M Sg fn V W K C P S st sr t := by
  obtain ⟨o', b1, b2, b3, b4, b5, b6, b7, b8, b9, b10, b11⟩ := node_F hR hn h42 hq h71 ht
  have eo : o' = 6 := nI_inj (by omega) (by omega) (b1.symm.trans h41)
  subst eo
  have hN := hR.1
  have hCT := hD.1.2.2.2.1
  have hc := hD.2.1.2.1
  have hTY := hD.2.1
  have htw0 := htw
  obtain ⟨g1, g2, o, g3, g4, _, _, g7, _⟩ := htw0
  have eo2 : o = 6 := nI_inj (by omega) (by omega) (g3.symm.trans h41)
  subst eo2
  obtain ⟨a0, b0, w1, w2, k1, k2, k3, k4, k5, k6, k7⟩ := g7 (by omega) (by omega)
  obtain ⟨a, qa, ta, b, qb, tb, f1, f2, f3, f4, f5, f6, f7⟩ := b5.2.2.2.2.2.1 (by omega) (by omega)
  have A := part_F hR hn h42 f1 (b8 (by omega))
  have B := part_F hR hn h42 f2 (b9 (by omega) (by omega))
  have hw11 := tw_lt k3
  have hw21 := tw_lt k6
  obtain ⟨p1, p2, p3, p4, p5, p6, p7, p8, p9, p10, p11⟩ := A
  obtain ⟨l1, l2, l3, l4, l5, l6, l7, l8, l9, l10, l11⟩ := B
  have ea : a0 = a := nI_inj (by omega) (by omega) (k1.symm.trans p3)
  have eb : b0 = b := nI_inj (by omega) (by omega) (k4.symm.trans l3)
  subst ea
  subst eb
  have qab : ¬ qb = qa := by
    intro z
    rw [z] at l4
    have e := hR.2.2.2.1 _ _ _ p1 l1 p4 l4
    exact (hR.2.2.2.2.2.2 n hn).1 6 b1 (by omega) (by omega) (by omega) _ _ p3 l3 (by omega) (by omega) e
  have ka : ∀ (scr : Nat → Int32) (L F d : Nat) (Ix : am_I) (Jx : am_J) (M0 : am_I), (∀ z, (37 ≤ z ∧ z ≤ 54) → M0 z = M z) → (∀ y, y < 31 → M0 36 y = M 36 y) → am_r scr L (F + 200000) (d + 1) 125 [.ref 37, .int (nI n), .int (nI ta)] (hp Ix Jx M0) = some (some (.int (nI 0)), hp Ix Jx M0, 0, 0) := fun scr L F d Ix Jx M0 h1 h2 => aA_plus scr L F d Ix Jx M0 n ta (by omega) (by omega) (by rw [h1 41 (by omega)]; exact b1)
  have kb : ∀ (scr : Nat → Int32) (L F d : Nat) (Ix : am_I) (Jx : am_J) (M0 : am_I), (∀ z, (37 ≤ z ∧ z ≤ 54) → M0 z = M z) → (∀ y, y < 31 → M0 36 y = M 36 y) → am_r scr L (F + 200000) (d + 1) 126 [.ref 37, .int (nI n), .int (nI ta)] (hp Ix Jx M0) = some (some (.int (nI 0)), hp Ix Jx M0, 0, 0) := fun scr L F d Ix Jx M0 h1 h2 => aB_plus scr L F d Ix Jx M0 n ta (by omega) (by omega) (by rw [h1 41 (by omega)]; exact b1)
  rcases ev_ab ih n q s fr g w t hD hR hL hS hn htw h42 hq h71 ht i16 i14 i15 i6 m58 m59 m44 henv hs hφ hw hfr hg hB hst hsr hP (u := 0) b1 b2 (by omega) (by omega) ⟨p1, p2, p3, p4, p5, p6, p7, p8, p9, p10, p11⟩ ⟨l1, l2, l3, l4, l5, l6, l7, l8, l9, l10, l11⟩ k3 k6 k7 f6 (by omega) (by omega) f3 ka with z | ⟨I4, J4, M4, Sg4, fn4, V4, W4, K4, C4, P4, S4, st4, sr4, x2, v2, x, v, q1, q2, q3, q4, q5, q6, ⟨r16, r14, r15, r6, r17⟩, ⟨r58, r60, r44⟩, q9, q10, q11, q12, ⟨r30, r31, r32⟩, ⟨r65, r66, r68⟩, n1, n2, n3, n4⟩
  · exact .inl z
  have hCT4 := q1.1.2.2.2.1
  have hKT4 := q1.1.2.2.1
  rcases second_c (o := 6) (u := 0) q1 q5 q6 r16 r14 r6 r17 r58 r60 r44 q9 q10 r30 r65 r66 r68 (by omega) hq b1 h42 p3 (by omega) p6 l3 (by omega) l5 l6 l7 l11 f7 l10 (by omega) f4 kb (by omega) (fun z => absurd z (by omega)) (by omega) (by omega) n4 (by omega) (by omega) with z | ⟨I5, J5, M5, V5, W5, S5, x5, v5, hD5, s2, ⟨t21, t30, t31, t17, t32⟩, s4, s5, s6, s7, s8, s9, s10, s11, s12⟩
  · exact .inl z
  have hE := q5.1
  right
  rw [if_neg (by omega)] at f5
  subst f5
  have hF5 := rF_trans q5 s2 (Nat.le_refl _) (Nat.le_refl _)
  have q11' := VR_X s2.2.1 q11
  obtain ⟨u1, u2⟩ := VR_num hD5.2.1 s5
  obtain ⟨u3, u4⟩ := VR_num hD5.2.1 q11'
  obtain ⟨v6, V6, M6, S6, d1, d2, d3, d4, d5, d6, d7, d8, d9, d10⟩ := DR_v hD5 (by omega) 0 (M5 56 v2 + M5 56 v5) 0
  obtain ⟨y1, y2, y3⟩ := row_3 d6

  have hv6 : VR M6 Sg4 fn4 N c V6 W5 K4 C4 v6 (v_of (nI 0) (M5 56 v2 + M5 56 v5)) 0 := .inl ⟨by omega, d4, ht, .inl ⟨y1, rfl, by rw [y2]⟩⟩
  refine fin_v q5 q6 (rF_trans s2 (rF_c (fr := fr) (g := g) d3 d2 d9) (Nat.le_refl _) (Nat.le_refl _)) d1 (by rw [t21]; exact r15) (by rw [t30]; exact r30) (by rw [d3.2.2.2.2 44 (by omega) (by omega) (by omega) (by omega)]; exact s4) hv6 d5 (fun scr L F d Mx mo A R z => ?_) (fun scr L F d Ix Jx mo A R z => ?_) (by omega) (by omega) (by omega) (by omega)
  · refine x_last scr L F d I4 J4 Mx mo st4 (by omega) q1.1.2.2.2.2.1.2.2 r16 fr qb q r6 (by omega) r14 l5 r30 hq (by rw [hE.1 8 (by omega) (by omega)]; exact l10) I5 J5 (s9 scr L F d Mx) (by rw [t21]; exact r14) (by rw [t21]; exact r6) (by rw [t30]; exact r30) qa p5 (by rw [s2.1.1 9 (by omega) (by omega), hE.1 9 (by omega) (by omega)]; exact p8) _ _ qab ?_ ?_ A R z
    · have k := c41_plus scr L F (d + 2) I5 J5 Mx fr (by rw [t21]; exact r6) (by omega) q (by rw [t30]; exact r30) hq (by rw [s2.1.1 7 (by omega) (by omega), hE.1 7 (by omega) (by omega)]; exact b2)
      rw [t17, t32, r32, u2, u4] at k
      exact k
    · rw [fi_ne _ _ _ (by omega)]
      exact hD5.1.2.2.2.2.1.1
  · skip
    refine y_come scr L F d Ix Jx M4 mo sr4 (by omega) q1.1.2.2.2.2.1.2.1 r58 _ ?_ A R z
    refine o130_second scr L F d Ix Jx M4 g r44 (by omega) n (by omega) (by rw [wr_ap _ _ _ _ _ _ (by omega)]; exact r65) (nI v2) (by rw [wr_ap _ _ _ _ _ _ (by omega)]; exact r66) (by rw [wr_ap _ _ _ _ _ _ (by omega)]; exact r68) _ ?_
    exact s128_plus scr L F d Ix Jx (wr M4 36 44 (nI g)) n a0 b0 (by omega) (by rw [wr_ap _ _ _ _ _ _ (by omega), hE.2.1 46 (by omega) (by omega)]; exact p3) (by omega) (by rw [wr_ap _ _ _ _ _ _ (by omega), hE.2.1 47 (by omega) (by omega)]; exact l3) (by omega) ta tb 0 (by rw [wr_ap _ _ _ _ _ _ (by omega), hE.2.2.1]; exact p6) (by rw [wr_ap _ _ _ _ _ _ (by omega), hE.2.2.1]; exact l6) v v2 (by rw [wr_n2 _ _ _ _ _ (by omega)]; exact r60) (by rw [wr_ap _ _ _ _ _ _ (by omega), hE.2.1 41 (by omega) (by omega)]; exact b1) (kb scr L F (d + 10) Ix Jx _ (fun z hz => by rw [wr_ne _ _ _ _ _ (by omega)]; exact hE.2.1 z (by omega) (by omega)) (fun y hy => by rw [wr_n2 _ _ _ _ _ (by omega)]; exact hE.2.2.2 y hy)) (2 * nI q) (by rw [wr_ap _ _ _ _ _ _ (by omega), hE.2.1 42 (by omega) (by omega), h42]) v5 M5 (s10 scr L F (d + 6) Ix Jx) hD5.1.2.2.2.2.1.2.1 s6 q12 (nI v6) M6 (d10 scr L F (d + 10) Ix Jx)

theorem ev_minus {N c fu φ h : Nat} (ih : Ev N c fu φ h) {I : am_I} {J : am_J} {M : am_I} {Sg fn : Nat → Nat} {V W K C P : Nat} {S : List am_T} {st sr : Nat} (n q s fr g w t : Nat) (hD : DR I J M Sg fn N c V W K C fu P S) (hR : PR I M N c) (hL : LTs M N S) (hS : SI I) (hn : n < N) (htw : tw I M N c (h + 1) w n) (h42 : M 42 n = nI q) (hq : q < 100) (h71 : M 71 n = nI t) (ht : t < c) (i16 : I 21 16 = 0) (i14 : I 21 14 = nI q) (i15 : I 21 15 = nI s) (i6 : I 21 6 = nI fr) (m58 : M 36 58 = nI n) (m59 : M 36 59 = nI s) (m44 : M 36 44 = nI g) (henv : env M fn n s) (hs : s ≤ C) (hφ : fu - C ≤ φ) (hw : w ≤ 100) (hfr : fr + (h + 1) ≤ 20 * (C + 1)) (hg : g + (h + 1) ≤ 20 * (C + 1)) (hB : 4 * (S.length + 2 * (200 - W) + 2 * (40 - K) + 2 * (40 - C)) + 100 * (40 - C) + w ≤ 9160) (hst : st + 2000 * (40 - C) + 10 * w ≤ 99000) (hsr : sr + 2000 * (40 - C) + 10 * w ≤ 99000) (hP : P ≤ st) (h41 : M 41 n = nI 7) : rX I J M st sr ∨ rV N c fu fr g q s w I J M Sg fn V W K C P S st sr t := by
  obtain ⟨o', b1, b2, b3, b4, b5, b6, b7, b8, b9, b10, b11⟩ := node_F hR hn h42 hq h71 ht
  have eo : o' = 7 := nI_inj (by omega) (by omega) (b1.symm.trans h41)
  subst eo
  have hN := hR.1
  have hCT := hD.1.2.2.2.1
  have hc := hD.2.1.2.1
  have hTY := hD.2.1
  have htw0 := htw
  obtain ⟨g1, g2, o, g3, g4, _, _, g7, _⟩ := htw0
  have eo2 : o = 7 := nI_inj (by omega) (by omega) (g3.symm.trans h41)
  subst eo2
  obtain ⟨a0, b0, w1, w2, k1, k2, k3, k4, k5, k6, k7⟩ := g7 (by omega) (by omega)
  obtain ⟨a, qa, ta, b, qb, tb, f1, f2, f3, f4, f5, f6, f7⟩ := b5.2.2.2.2.2.1 (by omega) (by omega)
  have A := part_F hR hn h42 f1 (b8 (by omega))
  have B := part_F hR hn h42 f2 (b9 (by omega) (by omega))
  have hw11 := tw_lt k3
  have hw21 := tw_lt k6
  obtain ⟨p1, p2, p3, p4, p5, p6, p7, p8, p9, p10, p11⟩ := A
  obtain ⟨l1, l2, l3, l4, l5, l6, l7, l8, l9, l10, l11⟩ := B
  have ea : a0 = a := nI_inj (by omega) (by omega) (k1.symm.trans p3)
  have eb : b0 = b := nI_inj (by omega) (by omega) (k4.symm.trans l3)
  subst ea
  subst eb
  have qab : ¬ qb = qa := by
    intro z
    rw [z] at l4
    have e := hR.2.2.2.1 _ _ _ p1 l1 p4 l4
    exact (hR.2.2.2.2.2.2 n hn).1 7 b1 (by omega) (by omega) (by omega) _ _ p3 l3 (by omega) (by omega) e
  have ka : ∀ (scr : Nat → Int32) (L F d : Nat) (Ix : am_I) (Jx : am_J) (M0 : am_I), (∀ z, (37 ≤ z ∧ z ≤ 54) → M0 z = M z) → (∀ y, y < 31 → M0 36 y = M 36 y) → am_r scr L (F + 200000) (d + 1) 125 [.ref 37, .int (nI n), .int (nI ta)] (hp Ix Jx M0) = some (some (.int (nI 0)), hp Ix Jx M0, 0, 0) := fun scr L F d Ix Jx M0 h1 h2 => aA_minus scr L F d Ix Jx M0 n ta (by omega) (by omega) (by rw [h1 41 (by omega)]; exact b1)
  have kb : ∀ (scr : Nat → Int32) (L F d : Nat) (Ix : am_I) (Jx : am_J) (M0 : am_I), (∀ z, (37 ≤ z ∧ z ≤ 54) → M0 z = M z) → (∀ y, y < 31 → M0 36 y = M 36 y) → am_r scr L (F + 200000) (d + 1) 126 [.ref 37, .int (nI n), .int (nI ta)] (hp Ix Jx M0) = some (some (.int (nI 0)), hp Ix Jx M0, 0, 0) := fun scr L F d Ix Jx M0 h1 h2 => aB_minus scr L F d Ix Jx M0 n ta (by omega) (by omega) (by rw [h1 41 (by omega)]; exact b1)
  rcases ev_ab ih n q s fr g w t hD hR hL hS hn htw h42 hq h71 ht i16 i14 i15 i6 m58 m59 m44 henv hs hφ hw hfr hg hB hst hsr hP (u := 0) b1 b2 (by omega) (by omega) ⟨p1, p2, p3, p4, p5, p6, p7, p8, p9, p10, p11⟩ ⟨l1, l2, l3, l4, l5, l6, l7, l8, l9, l10, l11⟩ k3 k6 k7 f6 (by omega) (by omega) f3 ka with z | ⟨I4, J4, M4, Sg4, fn4, V4, W4, K4, C4, P4, S4, st4, sr4, x2, v2, x, v, q1, q2, q3, q4, q5, q6, ⟨r16, r14, r15, r6, r17⟩, ⟨r58, r60, r44⟩, q9, q10, q11, q12, ⟨r30, r31, r32⟩, ⟨r65, r66, r68⟩, n1, n2, n3, n4⟩
  · exact .inl z
  have hCT4 := q1.1.2.2.2.1
  have hKT4 := q1.1.2.2.1
  rcases second_c (o := 7) (u := 0) q1 q5 q6 r16 r14 r6 r17 r58 r60 r44 q9 q10 r30 r65 r66 r68 (by omega) hq b1 h42 p3 (by omega) p6 l3 (by omega) l5 l6 l7 l11 f7 l10 (by omega) f4 kb (by omega) (fun z => absurd z (by omega)) (by omega) (by omega) n4 (by omega) (by omega) with z | ⟨I5, J5, M5, V5, W5, S5, x5, v5, hD5, s2, ⟨t21, t30, t31, t17, t32⟩, s4, s5, s6, s7, s8, s9, s10, s11, s12⟩
  · exact .inl z
  have hE := q5.1
  right
  rw [if_neg (by omega)] at f5
  subst f5
  have hF5 := rF_trans q5 s2 (Nat.le_refl _) (Nat.le_refl _)
  have q11' := VR_X s2.2.1 q11
  obtain ⟨u1, u2⟩ := VR_num hD5.2.1 s5
  obtain ⟨u3, u4⟩ := VR_num hD5.2.1 q11'
  obtain ⟨v6, V6, M6, S6, d1, d2, d3, d4, d5, d6, d7, d8, d9, d10⟩ := DR_v hD5 (by omega) 0 (M5 56 v2 - M5 56 v5) 0
  obtain ⟨y1, y2, y3⟩ := row_3 d6

  have hv6 : VR M6 Sg4 fn4 N c V6 W5 K4 C4 v6 (v_of (nI 0) (M5 56 v2 - M5 56 v5)) 0 := .inl ⟨by omega, d4, ht, .inl ⟨y1, rfl, by rw [y2]⟩⟩
  refine fin_v q5 q6 (rF_trans s2 (rF_c (fr := fr) (g := g) d3 d2 d9) (Nat.le_refl _) (Nat.le_refl _)) d1 (by rw [t21]; exact r15) (by rw [t30]; exact r30) (by rw [d3.2.2.2.2 44 (by omega) (by omega) (by omega) (by omega)]; exact s4) hv6 d5 (fun scr L F d Mx mo A R z => ?_) (fun scr L F d Ix Jx mo A R z => ?_) (by omega) (by omega) (by omega) (by omega)
  · refine x_last scr L F d I4 J4 Mx mo st4 (by omega) q1.1.2.2.2.2.1.2.2 r16 fr qb q r6 (by omega) r14 l5 r30 hq (by rw [hE.1 8 (by omega) (by omega)]; exact l10) I5 J5 (s9 scr L F d Mx) (by rw [t21]; exact r14) (by rw [t21]; exact r6) (by rw [t30]; exact r30) qa p5 (by rw [s2.1.1 9 (by omega) (by omega), hE.1 9 (by omega) (by omega)]; exact p8) _ _ qab ?_ ?_ A R z
    · have k := c41_minus scr L F (d + 2) I5 J5 Mx fr (by rw [t21]; exact r6) (by omega) q (by rw [t30]; exact r30) hq (by rw [s2.1.1 7 (by omega) (by omega), hE.1 7 (by omega) (by omega)]; exact b2)
      rw [t17, t32, r32, u2, u4] at k
      exact k
    · rw [fi_ne _ _ _ (by omega)]
      exact hD5.1.2.2.2.2.1.1
  · skip
    refine y_come scr L F d Ix Jx M4 mo sr4 (by omega) q1.1.2.2.2.2.1.2.1 r58 _ ?_ A R z
    refine o130_second scr L F d Ix Jx M4 g r44 (by omega) n (by omega) (by rw [wr_ap _ _ _ _ _ _ (by omega)]; exact r65) (nI v2) (by rw [wr_ap _ _ _ _ _ _ (by omega)]; exact r66) (by rw [wr_ap _ _ _ _ _ _ (by omega)]; exact r68) _ ?_
    exact s128_minus scr L F d Ix Jx (wr M4 36 44 (nI g)) n a0 b0 (by omega) (by rw [wr_ap _ _ _ _ _ _ (by omega), hE.2.1 46 (by omega) (by omega)]; exact p3) (by omega) (by rw [wr_ap _ _ _ _ _ _ (by omega), hE.2.1 47 (by omega) (by omega)]; exact l3) (by omega) ta tb 0 (by rw [wr_ap _ _ _ _ _ _ (by omega), hE.2.2.1]; exact p6) (by rw [wr_ap _ _ _ _ _ _ (by omega), hE.2.2.1]; exact l6) v v2 (by rw [wr_n2 _ _ _ _ _ (by omega)]; exact r60) (by rw [wr_ap _ _ _ _ _ _ (by omega), hE.2.1 41 (by omega) (by omega)]; exact b1) (kb scr L F (d + 10) Ix Jx _ (fun z hz => by rw [wr_ne _ _ _ _ _ (by omega)]; exact hE.2.1 z (by omega) (by omega)) (fun y hy => by rw [wr_n2 _ _ _ _ _ (by omega)]; exact hE.2.2.2 y hy)) (2 * nI q) (by rw [wr_ap _ _ _ _ _ _ (by omega), hE.2.1 42 (by omega) (by omega), h42]) v5 M5 (s10 scr L F (d + 6) Ix Jx) hD5.1.2.2.2.2.1.2.1 s6 q12 (nI v6) M6 (d10 scr L F (d + 10) Ix Jx)

theorem ev_less {N c fu φ h : Nat} (ih : Ev N c fu φ h) {I : am_I} {J : am_J} {M : am_I} {Sg fn : Nat → Nat} {V W K C P : Nat} {S : List am_T} {st sr : Nat} (n q s fr g w t : Nat) (hD : DR I J M Sg fn N c V W K C fu P S) (hR : PR I M N c) (hL : LTs M N S) (hS : SI I) (hn : n < N) (htw : tw I M N c (h + 1) w n) (h42 : M 42 n = nI q) (hq : q < 100) (h71 : M 71 n = nI t) (ht : t < c) (i16 : I 21 16 = 0) (i14 : I 21 14 = nI q) (i15 : I 21 15 = nI s) (i6 : I 21 6 = nI fr) (m58 : M 36 58 = nI n) (m59 : M 36 59 = nI s) (m44 : M 36 44 = nI g) (henv : env M fn n s) (hs : s ≤ C) (hφ : fu - C ≤ φ) (hw : w ≤ 100) (hfr : fr + (h + 1) ≤ 20 * (C + 1)) (hg : g + (h + 1) ≤ 20 * (C + 1)) (hB : 4 * (S.length + 2 * (200 - W) + 2 * (40 - K) + 2 * (40 - C)) + 100 * (40 - C) + w ≤ 9160) (hst : st + 2000 * (40 - C) + 10 * w ≤ 99000) (hsr : sr + 2000 * (40 - C) + 10 * w ≤ 99000) (hP : P ≤ st) (h41 : M 41 n = nI 8) : rX I J M st sr ∨ rV N c fu fr g q s w I J M Sg fn V W K C P S st sr t := by
  obtain ⟨o', b1, b2, b3, b4, b5, b6, b7, b8, b9, b10, b11⟩ := node_F hR hn h42 hq h71 ht
  have eo : o' = 8 := nI_inj (by omega) (by omega) (b1.symm.trans h41)
  subst eo
  have hN := hR.1
  have hCT := hD.1.2.2.2.1
  have hc := hD.2.1.2.1
  have hTY := hD.2.1
  have htw0 := htw
  obtain ⟨g1, g2, o, g3, g4, _, _, g7, _⟩ := htw0
  have eo2 : o = 8 := nI_inj (by omega) (by omega) (g3.symm.trans h41)
  subst eo2
  obtain ⟨a0, b0, w1, w2, k1, k2, k3, k4, k5, k6, k7⟩ := g7 (by omega) (by omega)
  obtain ⟨a, qa, ta, b, qb, tb, f1, f2, f3, f4, f5, f6, f7⟩ := b5.2.2.2.2.2.1 (by omega) (by omega)
  have A := part_F hR hn h42 f1 (b8 (by omega))
  have B := part_F hR hn h42 f2 (b9 (by omega) (by omega))
  have hw11 := tw_lt k3
  have hw21 := tw_lt k6
  obtain ⟨p1, p2, p3, p4, p5, p6, p7, p8, p9, p10, p11⟩ := A
  obtain ⟨l1, l2, l3, l4, l5, l6, l7, l8, l9, l10, l11⟩ := B
  have ea : a0 = a := nI_inj (by omega) (by omega) (k1.symm.trans p3)
  have eb : b0 = b := nI_inj (by omega) (by omega) (k4.symm.trans l3)
  subst ea
  subst eb
  have qab : ¬ qb = qa := by
    intro z
    rw [z] at l4
    have e := hR.2.2.2.1 _ _ _ p1 l1 p4 l4
    exact (hR.2.2.2.2.2.2 n hn).1 8 b1 (by omega) (by omega) (by omega) _ _ p3 l3 (by omega) (by omega) e
  have ka : ∀ (scr : Nat → Int32) (L F d : Nat) (Ix : am_I) (Jx : am_J) (M0 : am_I), (∀ z, (37 ≤ z ∧ z ≤ 54) → M0 z = M z) → (∀ y, y < 31 → M0 36 y = M 36 y) → am_r scr L (F + 200000) (d + 1) 125 [.ref 37, .int (nI n), .int (nI ta)] (hp Ix Jx M0) = some (some (.int (nI 0)), hp Ix Jx M0, 0, 0) := fun scr L F d Ix Jx M0 h1 h2 => aA_less scr L F d Ix Jx M0 n ta (by omega) (by omega) (by rw [h1 41 (by omega)]; exact b1)
  have kb : ∀ (scr : Nat → Int32) (L F d : Nat) (Ix : am_I) (Jx : am_J) (M0 : am_I), (∀ z, (37 ≤ z ∧ z ≤ 54) → M0 z = M z) → (∀ y, y < 31 → M0 36 y = M 36 y) → am_r scr L (F + 200000) (d + 1) 126 [.ref 37, .int (nI n), .int (nI ta)] (hp Ix Jx M0) = some (some (.int (nI 0)), hp Ix Jx M0, 0, 0) := fun scr L F d Ix Jx M0 h1 h2 => aB_less scr L F d Ix Jx M0 n ta (by omega) (by omega) (by rw [h1 41 (by omega)]; exact b1)
  rcases ev_ab ih n q s fr g w t hD hR hL hS hn htw h42 hq h71 ht i16 i14 i15 i6 m58 m59 m44 henv hs hφ hw hfr hg hB hst hsr hP (u := 0) b1 b2 (by omega) (by omega) ⟨p1, p2, p3, p4, p5, p6, p7, p8, p9, p10, p11⟩ ⟨l1, l2, l3, l4, l5, l6, l7, l8, l9, l10, l11⟩ k3 k6 k7 f6 (by omega) (by omega) f3 ka with z | ⟨I4, J4, M4, Sg4, fn4, V4, W4, K4, C4, P4, S4, st4, sr4, x2, v2, x, v, q1, q2, q3, q4, q5, q6, ⟨r16, r14, r15, r6, r17⟩, ⟨r58, r60, r44⟩, q9, q10, q11, q12, ⟨r30, r31, r32⟩, ⟨r65, r66, r68⟩, n1, n2, n3, n4⟩
  · exact .inl z
  have hCT4 := q1.1.2.2.2.1
  have hKT4 := q1.1.2.2.1
  rcases second_c (o := 8) (u := 0) q1 q5 q6 r16 r14 r6 r17 r58 r60 r44 q9 q10 r30 r65 r66 r68 (by omega) hq b1 h42 p3 (by omega) p6 l3 (by omega) l5 l6 l7 l11 f7 l10 (by omega) f4 kb (by omega) (fun z => absurd z (by omega)) (by omega) (by omega) n4 (by omega) (by omega) with z | ⟨I5, J5, M5, V5, W5, S5, x5, v5, hD5, s2, ⟨t21, t30, t31, t17, t32⟩, s4, s5, s6, s7, s8, s9, s10, s11, s12⟩
  · exact .inl z
  have hE := q5.1
  right
  rw [if_pos rfl] at f5
  subst f5
  have hF5 := rF_trans q5 s2 (Nat.le_refl _) (Nat.le_refl _)
  have q11' := VR_X s2.2.1 q11
  obtain ⟨u1, u2⟩ := VR_num hD5.2.1 s5
  obtain ⟨u3, u4⟩ := VR_num hD5.2.1 q11'
  obtain ⟨v6, V6, M6, S6, d1, d2, d3, d4, d5, d6, d7, d8, d9, d10⟩ := DR_v hD5 (by omega) 1 (if M5 56 v2 < M5 56 v5 then 1 else 0) 0
  obtain ⟨y1, y2, y3⟩ := row_3 d6

  have hL5 := LTs_F hF5 hL
  have yy : (if M5 56 v2 < M5 56 v5 then 1 else 0 : Int32) = 0 ∨ (if M5 56 v2 < M5 56 v5 then 1 else 0 : Int32) = 1 := by
    by_cases z : M5 56 v2 < M5 56 v5
    · rw [if_pos z]
      exact .inr rfl
    · rw [if_neg z]
      exact .inl rfl
  have hS6 : S6 = S5 := by
    refine d8 ?_
    rcases yy with z | z
    · rw [z]
      exact hL5.2.1
    · rw [z]
      exact hL5.2.2
  subst hS6
  have hv6 : VR M6 Sg4 fn4 N c V6 W5 K4 C4 v6 (v_of (nI 1) (if M5 56 v2 < M5 56 v5 then 1 else 0)) 1 := .inl ⟨by omega, d4, ht, .inr (.inl ⟨y1, rfl, by rw [y2]; exact yy, by rw [y2]⟩)⟩
  refine fin_v q5 q6 (rF_trans s2 (rF_c (fr := fr) (g := g) d3 d2 d9) (Nat.le_refl _) (Nat.le_refl _)) d1 (by rw [t21]; exact r15) (by rw [t30]; exact r30) (by rw [d3.2.2.2.2 44 (by omega) (by omega) (by omega) (by omega)]; exact s4) hv6 d5 (fun scr L F d Mx mo A R z => ?_) (fun scr L F d Ix Jx mo A R z => ?_) (by omega) (by omega) (by omega) (by omega)
  · refine x_last scr L F d I4 J4 Mx mo st4 (by omega) q1.1.2.2.2.2.1.2.2 r16 fr qb q r6 (by omega) r14 l5 r30 hq (by rw [hE.1 8 (by omega) (by omega)]; exact l10) I5 J5 (s9 scr L F d Mx) (by rw [t21]; exact r14) (by rw [t21]; exact r6) (by rw [t30]; exact r30) qa p5 (by rw [s2.1.1 9 (by omega) (by omega), hE.1 9 (by omega) (by omega)]; exact p8) _ _ qab ?_ ?_ A R z
    · have k := c41_less scr L F (d + 2) I5 J5 Mx fr (by rw [t21]; exact r6) (by omega) q (by rw [t30]; exact r30) hq (by rw [s2.1.1 7 (by omega) (by omega), hE.1 7 (by omega) (by omega)]; exact b2) _ rfl
      rw [t17, t32, r32, u2, u4] at k
      exact k
    · rw [fi_ne _ _ _ (by omega)]
      exact hD5.1.2.2.2.2.1.1
  · have d11 := d10 scr L F (d + 10) Ix Jx
    by_cases zz : M5 56 v2 < M5 56 v5
    · rw [if_pos zz] at d11
      refine y_come scr L F d Ix Jx M4 mo sr4 (by omega) q1.1.2.2.2.2.1.2.1 r58 _ ?_ A R z
      refine o130_second scr L F d Ix Jx M4 g r44 (by omega) n (by omega) (by rw [wr_ap _ _ _ _ _ _ (by omega)]; exact r65) (nI v2) (by rw [wr_ap _ _ _ _ _ _ (by omega)]; exact r66) (by rw [wr_ap _ _ _ _ _ _ (by omega)]; exact r68) _ ?_
      exact s128_less_t scr L F d Ix Jx (wr M4 36 44 (nI g)) n a0 b0 (by omega) (by rw [wr_ap _ _ _ _ _ _ (by omega), hE.2.1 46 (by omega) (by omega)]; exact p3) (by omega) (by rw [wr_ap _ _ _ _ _ _ (by omega), hE.2.1 47 (by omega) (by omega)]; exact l3) (by omega) ta tb 0 (by rw [wr_ap _ _ _ _ _ _ (by omega), hE.2.2.1]; exact p6) (by rw [wr_ap _ _ _ _ _ _ (by omega), hE.2.2.1]; exact l6) v v2 (by rw [wr_n2 _ _ _ _ _ (by omega)]; exact r60) (by rw [wr_ap _ _ _ _ _ _ (by omega), hE.2.1 41 (by omega) (by omega)]; exact b1) (kb scr L F (d + 10) Ix Jx _ (fun z hz => by rw [wr_ne _ _ _ _ _ (by omega)]; exact hE.2.1 z (by omega) (by omega)) (fun y hy => by rw [wr_n2 _ _ _ _ _ (by omega)]; exact hE.2.2.2 y hy)) (2 * nI q) (by rw [wr_ap _ _ _ _ _ _ (by omega), hE.2.1 42 (by omega) (by omega), h42]) v5 M5 (s10 scr L F (d + 6) Ix Jx) hD5.1.2.2.2.2.1.2.1 s6 q12 zz (nI v6) M6 d11
    · rw [if_neg zz] at d11
      refine y_come scr L F d Ix Jx M4 mo sr4 (by omega) q1.1.2.2.2.2.1.2.1 r58 _ ?_ A R z
      refine o130_second scr L F d Ix Jx M4 g r44 (by omega) n (by omega) (by rw [wr_ap _ _ _ _ _ _ (by omega)]; exact r65) (nI v2) (by rw [wr_ap _ _ _ _ _ _ (by omega)]; exact r66) (by rw [wr_ap _ _ _ _ _ _ (by omega)]; exact r68) _ ?_
      exact s128_less_f scr L F d Ix Jx (wr M4 36 44 (nI g)) n a0 b0 (by omega) (by rw [wr_ap _ _ _ _ _ _ (by omega), hE.2.1 46 (by omega) (by omega)]; exact p3) (by omega) (by rw [wr_ap _ _ _ _ _ _ (by omega), hE.2.1 47 (by omega) (by omega)]; exact l3) (by omega) ta tb 0 (by rw [wr_ap _ _ _ _ _ _ (by omega), hE.2.2.1]; exact p6) (by rw [wr_ap _ _ _ _ _ _ (by omega), hE.2.2.1]; exact l6) v v2 (by rw [wr_n2 _ _ _ _ _ (by omega)]; exact r60) (by rw [wr_ap _ _ _ _ _ _ (by omega), hE.2.1 41 (by omega) (by omega)]; exact b1) (kb scr L F (d + 10) Ix Jx _ (fun z hz => by rw [wr_ne _ _ _ _ _ (by omega)]; exact hE.2.1 z (by omega) (by omega)) (fun y hy => by rw [wr_n2 _ _ _ _ _ (by omega)]; exact hE.2.2.2 y hy)) (2 * nI q) (by rw [wr_ap _ _ _ _ _ _ (by omega), hE.2.1 42 (by omega) (by omega), h42]) v5 M5 (s10 scr L F (d + 6) Ix Jx) hD5.1.2.2.2.2.1.2.1 s6 q12 zz (nI v6) M6 d11

