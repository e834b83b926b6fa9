/-! Running: choices; then every form. -/
theorem np1 {C C1 fu φ fr g h w w1 w2 ls W K l1 W1 K1 l2 W2 st sr st1 sr1 P1 : Nat} (hφ : fu - C ≤ φ) (hf1 : C1 ≤ fu) (hf4 : fu ≤ 40) (hCC : C ≤ C1) (hw : w ≤ 100) (hfr : fr + (h + 1) ≤ 20 * (C + 1)) (hg : g + (h + 1) ≤ 20 * (C + 1)) (k7 : w1 + w2 + 3 ≤ w) (hB : 4 * (ls + 2 * (200 - W) + 2 * (40 - K) + 2 * (40 - C)) + 100 * (40 - C) + w ≤ 9160) (hst : st + 2000 * (40 - C) + 10 * w ≤ 99000) (hsr : sr + 2000 * (40 - C) + 10 * w ≤ 99000) (n1 : 4 * (l1 + 2 * (200 - W1) + 2 * (40 - K1) + 2 * (40 - C1)) + 100 * (40 - C1) + 1 ≤ 4 * (ls + 2 * (200 - W) + 2 * (40 - K) + 2 * (40 - C)) + 100 * (40 - C) + w1) (n2 : st1 + 2000 * (40 - C1) ≤ st + 1 + 2000 * (40 - C) + 10 * w1) (n3 : sr1 + 2000 * (40 - C1) ≤ sr + 1 + 2000 * (40 - C) + 10 * w1) (n4 : P1 ≤ st1) (s7 : l2 + 2 * (200 - W2) ≤ l1 + 2 * (200 - W1)) : fu - C1 ≤ φ ∧ w2 ≤ 100 ∧ fr + 1 + h ≤ 20 * (C1 + 1) ∧ g + 1 + h ≤ 20 * (C1 + 1) ∧ g + h ≤ 20 * (C1 + 1) ∧ 4 * (l2 + 2 * (200 - W2) + 2 * (40 - K1) + 2 * (40 - C1)) + 100 * (40 - C1) + w2 ≤ 9160 ∧ st1 + 1 + 2000 * (40 - C1) + 10 * w2 ≤ 99000 ∧ sr1 + 1 + 2000 * (40 - C1) + 10 * w2 ≤ 99000 ∧ P1 ≤ st1 + 1 ∧ st1 + 1 ≤ 100000 ∧ sr1 + 1 ≤ 100000 ∧ fr < 820 ∧ g < 1300 := by
  refine ⟨by omega, by omega, by omega, by omega, by omega, by omega, by omega, by omega, by omega, by omega, by omega, by omega, by omega⟩
theorem np2 {C C1 fu w w1 w2 ls W K l1 W1 K1 l2 W2 st sr st1 sr1 l4 W4 K4 C4 st4 sr4 P4 : Nat} (hf1 : C1 ≤ fu) (hf4 : fu ≤ 40) (hC4 : C4 ≤ fu) (k7 : w1 + w2 + 3 ≤ w) (hB : 4 * (ls + 2 * (200 - W) + 2 * (40 - K) + 2 * (40 - C)) + 100 * (40 - C) + w ≤ 9160) (hst : st + 2000 * (40 - C) + 10 * w ≤ 99000) (hsr : sr + 2000 * (40 - C) + 10 * w ≤ 99000) (n1 : 4 * (l1 + 2 * (200 - W1) + 2 * (40 - K1) + 2 * (40 - C1)) + 100 * (40 - C1) + 1 ≤ 4 * (ls + 2 * (200 - W) + 2 * (40 - K) + 2 * (40 - C)) + 100 * (40 - C) + w1) (n2 : st1 + 2000 * (40 - C1) ≤ st + 1 + 2000 * (40 - C) + 10 * w1) (n3 : sr1 + 2000 * (40 - C1) ≤ sr + 1 + 2000 * (40 - C) + 10 * w1) (s7 : l2 + 2 * (200 - W2) ≤ l1 + 2 * (200 - W1)) (f8 : 4 * (l4 + 2 * (200 - W4) + 2 * (40 - K4) + 2 * (40 - C4)) + 100 * (40 - C4) + 1 ≤ 4 * (l2 + 2 * (200 - W2) + 2 * (40 - K1) + 2 * (40 - C1)) + 100 * (40 - C1) + w2) (f9 : st4 + 2000 * (40 - C4) ≤ st1 + 1 + 2000 * (40 - C1) + 10 * w2) (f10 : sr4 + 2000 * (40 - C4) ≤ sr1 + 1 + 2000 * (40 - C1) + 10 * w2) (f11 : P4 ≤ st4) : (∀ l9 W9, l9 + 2 * (200 - W9) ≤ l4 + 1 + 2 * (200 - W4) → 4 * (l9 + 2 * (200 - W9) + 2 * (40 - K4) + 2 * (40 - C4)) + 100 * (40 - C4) + 1 ≤ 4 * (ls + 2 * (200 - W) + 2 * (40 - K) + 2 * (40 - C)) + 100 * (40 - C) + w) ∧ st4 + 1 + 2000 * (40 - C4) ≤ st + 2000 * (40 - C) + 10 * w ∧ sr4 + 1 + 2000 * (40 - C4) ≤ sr + 2000 * (40 - C) + 10 * w ∧ sr4 + 2000 * (40 - C4) ≤ sr + 2000 * (40 - C) + 10 * w ∧ P4 ≤ st4 + 1 ∧ st4 ≤ 99000 ∧ sr4 ≤ 99000 ∧ st4 < 1000000 ∧ sr4 < 100000 ∧ st4 ≤ 100000 ∧ sr4 ≤ 100000 ∧ l4 + 1 + 2 * (200 - W4) ≤ 2290 := by
  refine ⟨fun l9 W9 h9 => ?_, ?_, ?_, ?_, ?_, ?_, ?_, ?_, ?_, ?_, ?_, ?_⟩ <;> omega

theorem VR_bool {I M : am_I} {Sg fn : Nat → Nat} {N c V W K C v : Nat} {x : Int64} (hR : tyR I M c) (h : VR M Sg fn N c V W K C v x 1) : M 55 v = 1 ∧ (M 56 v = 0 ∨ M 56 v = 1) ∧ v_ca x = M 56 v := by
  have k0 : M 38 1 = nI 1 := (hR.2.2.2.2.2.2.1 1 (by omega)).2.2.2.2
  rcases h with ⟨_, _, _, h3⟩ | ⟨h1, _⟩
  · rcases h3 with ⟨z1, z2, z3⟩ | ⟨z1, z2, z3, z4⟩ | ⟨z1, z2, _⟩ | ⟨z1, z2, _⟩ | ⟨z1, w, a1, a2, a3, ⟨a4, a5⟩ | ⟨a4, a5⟩⟩
    · omega
    · exact ⟨z1, z3, by rw [z4]; exact of_ca _ 1 (by omega)⟩
    · rw [k0] at z2
      exact absurd z2 (by decide)
    · rw [k0] at z2
      exact absurd z2 (by decide)
    · rw [k0] at a4
      exact absurd a4 (by decide)
    · rw [k0] at a4
      exact absurd a4 (by decide)
  · omega
theorem mF_ch (I : am_I) (J : am_J) (M : am_I) (y b s : Int32) : mF I (woI I y) J J M (wr (wr M 36 58 b) 36 59 s) := by
  refine ⟨fun z a _ _ => ?_, fun y a => ?_, fun _ _ _ => rfl, fun z a _ => by rw [wr_ne _ _ _ _ _ a, wr_ne _ _ _ _ _ a], fun y a b d e => by rw [wr_n2 _ _ _ _ _ d, wr_n2 _ _ _ _ _ b]⟩
  · unfold woI
    rw [va_up_ne _ _ a]
  · rcases a with a | a | a | a <;> subst a <;> simp [woI, va_up, upd]
set_option maxRecDepth 100000 in
set_option maxHeartbeats 8000000 in
theorem ev_ch {N c fu φ h : Nat} (ih : Ev N c fu φ h) {I : am_I} {J : am_J} {M : am_I} {Sg fn : Nat → Nat} {V W K C P : Nat} {S : List am_T} {st sr : Nat} (n q s fr g w t : Nat) (hD : DR I J M Sg fn N c V W K C fu P S) (hR : PR I M N c) (hL : LTs M N S) (hS : SI I) (hn : n < N) (htw : tw I M N c (h + 1) w n) (h42 : M 42 n = nI q) (hq : q < 100) (h71 : M 71 n = nI t) (ht : t < c) (i16 : I 21 16 = 0) (i14 : I 21 14 = nI q) (i15 : I 21 15 = nI s) (i6 : I 21 6 = nI fr) (m58 : M 36 58 = nI n) (m59 : M 36 59 = nI s) (m44 : M 36 44 = nI g) (henv : env M fn n s) (hs : s ≤ C) (hφ : fu - C ≤ φ) (hw : w ≤ 100) (hfr : fr + (h + 1) ≤ 20 * (C + 1)) (hg : g + (h + 1) ≤ 20 * (C + 1)) (hB : 4 * (S.length + 2 * (200 - W) + 2 * (40 - K) + 2 * (40 - C)) + 100 * (40 - C) + w ≤ 9160) (hst : st + 2000 * (40 - C) + 10 * w ≤ 99000) (hsr : sr + 2000 * (40 - C) + 10 * w ≤ 99000) (hP : P ≤ st) (h41 : M 41 n = nI 9) : rX I J M st sr ∨ rV N c fu fr g q s w I J M Sg fn V W K C P S st sr t := by
  obtain ⟨o', b1, b2, b3, b4, b5, b6, b7, b8, b9, b10, b11⟩ := node_F hR hn h42 hq h71 ht
  have eo : o' = 9 := nI_inj (by first | decide | omega) (by first | decide | omega) (b1.symm.trans h41)
  subst eo
  have hN := hR.1
  have hCT := hD.1.2.2.2.1
  have hc := hD.2.1.2.1
  have hTY := hD.2.1
  have hc5 := hTY.1
  have htw0 := htw
  obtain ⟨g1, g2, o, g3, g4, _, _, g7, g8⟩ := htw0
  have eo2 : o = 9 := nI_inj (by first | decide | omega) (by first | decide | omega) (g3.symm.trans h41)
  subst eo2
  obtain ⟨a0, b0, w1', w2, k1, k2, k3', k4, k5, k6, k7'⟩ := g7 (by first | decide | omega) (by first | decide | omega)
  obtain ⟨a1, e0, w1'', w3, k1', k2', k3'', k4', k5', k6', k7''⟩ := g8 rfl
  obtain ⟨a, qa, ta, b, qb, tb, e, qe, te, f1, f2, f2', f3, f4, f5, f6, f7, f8⟩ := b5.2.2.2.2.2.2.1 rfl
  obtain ⟨p1, p2, p3, p4, p5, p6, p7, p8, p9, p10, p11⟩ := part_F hR hn h42 f1 (b8 (by first | decide | omega))
  obtain ⟨l1, l2, l3, l4, l5, l6, l7, l8, l9, l10, l11⟩ := part_F hR hn h42 f2 (b9 (by first | decide | omega) (by first | decide | omega))
  obtain ⟨m1, m2, m3, m4, m5, m6, m7, m8, m9, m10, m11⟩ := part_F hR hn h42 f2' (b10 rfl)
  have hw11 := tw_lt k3'
  have hw12 := tw_lt k3''
  have hw21 := tw_lt k6
  have hw31 := tw_lt k6'
  have ea : a0 = a := nI_inj (by first | decide | omega) (by first | decide | omega) (k1.symm.trans p3)
  have ea1 : a1 = a := nI_inj (by first | decide | omega) (by first | decide | omega) (k1'.symm.trans p3)
  have eb : b0 = b := nI_inj (by first | decide | omega) (by first | decide | omega) (k4.symm.trans l3)
  have ee : e0 = e := nI_inj (by first | decide | omega) (by first | decide | omega) (k4'.symm.trans m3)
  subst ea
  subst ea1
  subst eb
  subst ee
  have qab : ¬ qb = qa := by
    intro z
    rw [z] at l4
    have e := hR.2.2.2.1 _ _ _ p1 l1 p4 l4
    exact (hR.2.2.2.2.2.2 n hn).1 9 b1 (by first | decide | omega) (by first | decide | omega) (by first | decide | omega) _ _ p3 l3 (by first | decide | omega) (by first | decide | omega) e
  have qae : ¬ qe = qa := by
    intro z
    rw [z] at m4
    have e := hR.2.2.2.1 _ _ _ p1 m1 p4 m4
    exact (hR.2.2.2.2.2.2 n hn).2.1 b1 _ _ p3 m3 (by first | decide | omega) (by first | decide | omega) e
  subst f5
  obtain ⟨w1, k3, k7, k8⟩ : ∃ w1, tw I M N c h w1 a1 ∧ w1 + w2 + 3 ≤ w ∧ w1 + w3 + 3 ≤ w := by
    by_cases z : w1' ≤ w1''
    · exact ⟨w1', k3', k7', by omega⟩
    · exact ⟨w1'', k3'', by omega, k7''⟩
  have hw13 := tw_lt k3
  have ka : ∀ (scr : Nat → Int32) (L F d : Nat) (Ix : am_I) (Jx : am_J) (M0 : am_I), (∀ z, (37 ≤ z ∧ z ≤ 54) → M0 z = M z) → (∀ y, y < 31 → M0 36 y = M 36 y) → am_r scr L (F + 200000) (d + 1) 125 [.ref 37, .int (nI n), .int (nI ta)] (hp Ix Jx M0) = some (some (.int (nI 1)), hp Ix Jx M0, 0, 0) := fun scr L F d Ix Jx M0 h1 h2 => aA_ch scr L F d Ix Jx M0 n ta (by first | decide | omega) (by first | decide | omega) (by rw [h1 41 (by first | decide | omega)]; exact b1)
  rcases ev_a ih n q s fr g w t hD hR hL hS hn htw h42 hq h71 ht i16 i14 i15 i6 m58 m59 m44 henv hs hφ hw hfr hg hB hst hsr hP b1 b2 (by first | decide | omega) (by first | decide | omega) p1 p2 p3 p4 p5 p6 p7 p8 p9 k3 (by first | decide | omega) with z | ⟨I1, J1, M1, Sg1, fn1, V1, W1, K1, C1, P1, S1, st1, sr1, x, v, q1, q2, q3, q4, q5, q6, ⟨r16, r14, r15, r6, r17⟩, ⟨r58, r60, r44⟩, q9, q10, ⟨r30, r31⟩, ⟨r65, r66, r67⟩, n1, n2, n3, n4⟩
  · exact .inl z
  have hCT1 := q1.1.2.2.2.1
  rcases first_c (o := 9) (u := 1) q1 q5 q6 r16 r14 r6 r17 r58 r60 r44 q9 q10 r30 r65 r66 r67 (by first | decide | omega) hq b1 h42 p3 (by first | decide | omega) p5 p6 p7 p11 f6 p10 (by first | decide | omega) f3 ka (by first | decide | omega) (fun z => absurd z (by first | decide | omega)) (by first | decide | omega) (by first | decide | omega) n4 (by first | decide | omega) (by first | decide | omega) with z | ⟨I2, J2, M2, V2, W2, S2, x2, v2, hD2, s2, ⟨t21, t30, t31, t17, t32⟩, s4, s5, s6, s7, s8, s9, s10, s11, s12⟩
  · exact .inl z
  have hE := q5.1
  have hs1 : C ≤ C1 := q5.2.1.1.2.2.2
  have o3 : ¬ M 41 n = 3 := by
    intro z
    rw [b1, ← nI_3] at z
    have := nI_inj (by first | decide | omega) (by first | decide | omega) z
    omega
  obtain ⟨u1, u2, u3⟩ := VR_bool hD2.2.1 s5
  have hs7 : I2 7 q = nI 9 := by rw [s2.1.1 7 (by first | decide | omega) (by first | decide | omega), hE.1 7 (by first | decide | omega) (by first | decide | omega)]; exact b2
  rcases u2 with u2 | u2
  rotate_left
  · -- the second part
    have hm := mF_ch I2 J2 M2 (nI qb) (nI b0) (nI s)
    obtain ⟨y1, y2, y3, y4, y5⟩ := wo_rows I2 (nI qb)
    have hD3 := DR_m hm hD2
    have zps : ∀ z, ¬ z = 36 → wr (wr M2 36 58 (nI b0)) 36 59 (nI s) z = M2 z := fun z hz => by rw [wr_ne _ _ _ _ _ hz, wr_ne _ _ _ _ _ hz]
    have hF23 := rF_m (fr := fr) (g := g) (Sg := Sg1) (fn := fn1) (V := V2) (W := W2) (K := K1) (C := C1) (S := S2) hm (fun j hj => ⟨by rw [y5 30 (by first | decide | omega)], by rw [y5 31 (by first | decide | omega)], rfl⟩) (fun j _ => by rw [zps 65 (by first | decide | omega), zps 66 (by first | decide | omega), zps 67 (by first | decide | omega), zps 68 (by first | decide | omega)]; exact ⟨rfl, rfl, rfl, rfl⟩)
    have hF3 := rF_trans q5 (rF_trans s2 hF23 (Nat.le_refl _) (Nat.le_refl _)) (Nat.le_refl _) (Nat.le_refl _)
    have hN3 : rN I1 (woI I2 (nI qb)) J1 J2 M1 (wr (wr M2 36 58 (nI b0)) 36 59 (nI s)) st1 (st1 + 1) sr1 (sr1 + 1) := by
      refine rN_1 (fun scr L F d Mx mo A R z => ?_) (fun scr L F d Ix Jx mo A R z => ?_)
      · refine x_first scr L F d I1 J1 Mx mo st1 (by first | decide | omega) q1.1.2.2.2.2.1.2.2 r16 fr qa q r6 (by first | decide | omega) r14 p5 r30 hq (by rw [hE.1 8 (by first | decide | omega) (by first | decide | omega)]; exact p10) I2 J2 (s9 scr L F d Mx) (by rw [t21]; exact r14) (by rw [t21]; exact r6) (by rw [t30]; exact r30) qa p5 (by rw [s2.1.1 9 (by first | decide | omega) (by first | decide | omega), hE.1 9 (by first | decide | omega) (by first | decide | omega)]; exact p8) _ _ rfl ?_ ?_ A R z
        · exact c40_ch_t scr L F (d + 2) I2 J2 Mx fr (by rw [t21]; exact r6) (by first | decide | omega) q (by rw [t30]; exact r30) hq hs7 (by rw [t17, u3, u2]; decide) (nI qb) (by rw [s2.1.1 10 (by first | decide | omega) (by first | decide | omega), hE.1 10 (by first | decide | omega) (by first | decide | omega)]; exact l8)
        · rw [y5 22 (by first | decide | omega)]
          exact hD2.1.2.2.2.2.1.1
      · skip
        refine y_come scr L F d Ix Jx M1 mo sr1 (by first | decide | omega) q1.1.2.2.2.2.1.2.1 r58 _ ?_ A R z
        refine o130_first scr L F d Ix Jx M1 g r44 (by first | decide | omega) n (by first | decide | omega) (by rw [wr_ap _ _ _ _ _ _ (by first | decide | omega)]; exact r65) _ (nI s) (by rw [wr_ap _ _ _ _ _ _ (by first | decide | omega)]; exact r66) rfl (by rw [wr_ap _ _ _ _ _ _ (by first | decide | omega)]; exact r67) _ ?_
        exact f127_ch_t scr L F (d + 1) Ix Jx (wr M1 36 44 (nI g)) s n a1 (by first | decide | omega) (by rw [wr_ap _ _ _ _ _ _ (by first | decide | omega), hE.2.1 46 (by first | decide | omega) (by first | decide | omega)]; exact p3) (by first | decide | omega) ta 1 (by rw [wr_ap _ _ _ _ _ _ (by first | decide | omega), hE.2.2.1]; exact p6) v (by rw [wr_n2 _ _ _ _ _ (by first | decide | omega)]; exact r60) (by rw [wr_ap _ _ _ _ _ _ (by first | decide | omega), hE.2.1 41 (by first | decide | omega) (by first | decide | omega)]; exact b1) (ka scr L F (d + 10) Ix Jx _ (fun z hz => by rw [wr_ne _ _ _ _ _ (by first | decide | omega)]; exact hE.2.1 z (by first | decide | omega) (by first | decide | omega)) (fun y hy => by rw [wr_n2 _ _ _ _ _ (by first | decide | omega)]; exact hE.2.2.2 y hy)) (2 * nI q) (by rw [wr_ap _ _ _ _ _ _ (by first | decide | omega), hE.2.1 42 (by first | decide | omega) (by first | decide | omega), h42]) v2 M2 (s10 scr L F (d + 6) Ix Jx) hD2.1.2.2.2.2.1.2.1 s6 u2 (nI b0) (by rw [s2.1.2.1 47 (by first | decide | omega) (by first | decide | omega), hE.2.1 47 (by first | decide | omega) (by first | decide | omega)]; exact l3)
    have hE3 := hF3.1
    have tw0 := tw_F (hE3.1 6 (by first | decide | omega) (by first | decide | omega)) (fun z y1 y2 => hE3.2.1 z (by first | decide | omega) (by first | decide | omega)) h w2 b0 k6
    have en0 : env (wr (wr M2 36 58 (nI b0)) 36 59 (nI s)) fn1 b0 s := env_X (C := C) (hE3.2.1 41 (by first | decide | omega) (by first | decide | omega)) (hE3.2.1 45 (by first | decide | omega) (by first | decide | omega)) q5.2.1.2.2.2.2.1 hs (env_part henv l9 l2 o3)
    obtain ⟨a1', a2', a3', a4', a5', a6', a7', a8', a9', a10', a11', a12', a13'⟩ := np1 hφ hCT1.2.2.2.1 hCT1.2.2.2.2.1 hs1 hw hfr hg k7 hB hst hsr n1 n2 n3 n4 s7
    rcases ih _ _ _ Sg1 fn1 V2 W2 K1 C1 P1 S2 (st1 + 1) (sr1 + 1) b0 qb s (fr + 1) g w2 t hD3 (PR_F hE3 hR) (LTs_F hF3 hL) (hF3.2.2.2.1 hS) l1 tw0 (by rw [hE3.2.1 42 (by first | decide | omega) (by first | decide | omega)]; exact l4) l5 (by rw [hE3.2.2.1]; exact l6) l7 y1 y2 (by rw [y3, t21]; exact r15) (by rw [y4, t21]; exact r6) (by rw [wr_n2 _ _ _ _ _ (by first | decide | omega)]; exact wr_s _ _ _ _) (wr_s _ _ _ _) (by rw [wr_n2 _ _ _ _ _ (by first | decide | omega), wr_n2 _ _ _ _ _ (by first | decide | omega)]; exact s4) en0 (Nat.le_trans hs hs1) a1' a2' a3' a5' a6' a7' a8' a9' with z | z
    · exact .inl (rX_go hE3 hF3.2.2.2.1 (rN_trans q6 hN3) a10' a11' z)
    · right
      obtain ⟨I4, J4, M4, Sg4, fn4, V4, W4, K4, C4, P4, S4, st4, sr4, x4, v4, f1', f2'', f3', ⟨e16, e14, e15, e6, e17⟩, ⟨e58, e60, e44⟩, f6', f7', f8', f9', f10', f11'⟩ := z
      obtain ⟨d1', d2', d3', d4', d5', d6', d7', d8', d9', d10', d11', d12'⟩ := np2 hCT1.2.2.2.1 hCT1.2.2.2.2.1 f1'.1.2.2.2.1.2.2.2.1 k7 hB hst hsr n1 n2 n3 s7 f8' f9' f10' f11'
      have hF := rF_trans hF3 f2'' (Nat.le_succ _) (Nat.le_refl _)
      obtain ⟨c1, c2, c3⟩ := f2''.2.2.2.2.1 fr (Nat.lt_succ_self _)
      have i30 : I4 30 fr = nI q := by
        rw [c1, y5 30 (by first | decide | omega), t30]
        exact r30
      have hE4 := hF.1
      have hCT4 := f1'.1.2.2.2.1
      have hj := mF_j I4 J4 M4 x4
      have tt := tm_lt ht (show 3 ≤ c by omega)
      have k39 : ∀ (scr : Nat → Int32) (L F d : Nat) (Mx : am_I), am_r scr L (F + 200000) (d + 10) 39 [.ref 22] (hp I4 J4 Mx) = some (some (.int 1), hp I4 (wrJ J4 21 17 x4) Mx, 0, 0) := by
        intro scr L F d Mx
        refine c39_g scr L F (d + 2) I4 J4 Mx qb e14 l5 fr e6 a12' (nI (tm t)) (nI (tm t)) _ (by rw [hE4.1 15 (by first | decide | omega) (by first | decide | omega)]; exact l11) (by rw [hE4.1 16 (by first | decide | omega) (by first | decide | omega)]; exact f7) rfl x4 I4 J4 ?_ f1'.1.2.2.2.2.1.1
        have := m_14 scr L (F + 199500) (d + 6) I4 J4 Mx W4 (tm t) (tm t) (J4 21 17) (2 * I4 30 fr) f1'.1.2.1.1 f1'.1.2.1.2.2 (by first | decide | omega) (by first | decide | omega)
        rw [show F + 199500 + 500 = F + 200000 by omega, show d + 6 + 3 = d + 9 by omega] at this
        have hct : ct I4 J4 W4 (J4 21 17) (tm t) (tm t) (2 * I4 30 fr) = (x4, I4, J4) := by
          unfold ct
          rw [if_pos rfl, e17]
        rw [hct] at this
        exact this
      refine fin_0 hF (rN_trans (rN_trans q6 hN3) f3') (rF_m (fr := fr) (g := g) hj (fun j _ => ⟨rfl, rfl, by rw [wrJ_ne _ _ _ _ _ (by first | decide | omega)]⟩) (fun _ _ => ⟨rfl, rfl, rfl, rfl⟩)) (DR_m hj f1') e15 i30 e58 e60 e44 f6' f7' (fun scr L F d Mx mo A R z => ?_) (d1' _ _ (by rw [Nat.add_right_comm]; exact Nat.le_succ _)) d2' d4' d5'
      refine x_last scr L F d I4 J4 Mx mo st4 d8' f1'.1.2.2.2.2.1.2.2 e16 fr qb q e6 a12' e14 l5 i30 hq (by rw [hE4.1 8 (by first | decide | omega) (by first | decide | omega)]; exact l10) I4 _ (k39 scr L F d Mx) e14 e6 i30 qa p5 (by rw [hE4.1 9 (by first | decide | omega) (by first | decide | omega)]; exact p8) _ _ qab ?_ ?_ A R z
      · have k := c41_ch scr L F (d + 2) I4 (wrJ J4 21 17 x4) Mx fr e6 a12' q i30 hq (by rw [hE4.1 7 (by first | decide | omega) (by first | decide | omega)]; exact b2)
        rw [wrJ_s] at k
        exact k
      · rw [fi_ne _ _ _ (by first | decide | omega)]
        exact f1'.1.2.2.2.2.1.1
  · -- the third part
    have hm0 := mF_wo I2 J2 M2 g fr x2 (nI qe) (nI n) 3 (nI s) 0 (nI e0)
    have hm : mF I2 (woI I2 (nI qe)) J2 J2 M2 (wr (wr (psM M2 g (nI n) 3 (nI s) 0) 36 58 (nI e0)) 36 59 (nI s)) := ⟨hm0.1, hm0.2.1, fun _ _ _ => rfl, hm0.2.2.2.1, hm0.2.2.2.2⟩
    obtain ⟨y1, y2, y3, y4, y5⟩ := wo_rows I2 (nI qe)
    obtain ⟨z1, z2, z3, z4, z5, z6, z7⟩ := ps_rows M2 g (nI n) 3 (nI s) 0 (nI e0) (nI s)
    have hD3 := DR_m hm hD2
    have hF23 := rF_m (fr := fr) (g := g) (Sg := Sg1) (fn := fn1) (V := V2) (W := W2) (K := K1) (C := C1) (S := S2) hm (fun j hj => ⟨by rw [y5 30 (by first | decide | omega)], by rw [y5 31 (by first | decide | omega)], rfl⟩) z7
    have hF3 := rF_trans q5 (rF_trans s2 hF23 (Nat.le_refl _) (Nat.le_refl _)) (Nat.le_refl _) (Nat.le_refl _)
    have hN3 : rN I1 (woI I2 (nI qe)) J1 J2 M1 (wr (wr (psM M2 g (nI n) 3 (nI s) 0) 36 58 (nI e0)) 36 59 (nI s)) st1 (st1 + 1) sr1 (sr1 + 1) := by
      refine rN_1 (fun scr L F d Mx mo A R z => ?_) (fun scr L F d Ix Jx mo A R z => ?_)
      · refine x_first scr L F d I1 J1 Mx mo st1 (by first | decide | omega) q1.1.2.2.2.2.1.2.2 r16 fr qa q r6 (by first | decide | omega) r14 p5 r30 hq (by rw [hE.1 8 (by first | decide | omega) (by first | decide | omega)]; exact p10) I2 J2 (s9 scr L F d Mx) (by rw [t21]; exact r14) (by rw [t21]; exact r6) (by rw [t30]; exact r30) qa p5 (by rw [s2.1.1 9 (by first | decide | omega) (by first | decide | omega), hE.1 9 (by first | decide | omega) (by first | decide | omega)]; exact p8) _ _ rfl ?_ ?_ A R z
        · exact c40_ch_e scr L F (d + 2) I2 J2 Mx fr (by rw [t21]; exact r6) (by first | decide | omega) q (by rw [t30]; exact r30) hq hs7 (by rw [t17, u3, u2]) (nI qe) (by rw [s2.1.1 11 (by first | decide | omega) (by first | decide | omega), hE.1 11 (by first | decide | omega) (by first | decide | omega)]; exact m8)
        · rw [y5 22 (by first | decide | omega)]
          exact hD2.1.2.2.2.2.1.1
      · skip
        refine y_come scr L F d Ix Jx M1 mo sr1 (by first | decide | omega) q1.1.2.2.2.2.1.2.1 r58 _ ?_ A R z
        refine o130_first scr L F d Ix Jx M1 g r44 (by first | decide | omega) n (by first | decide | omega) (by rw [wr_ap _ _ _ _ _ _ (by first | decide | omega)]; exact r65) _ (nI s) (by rw [wr_ap _ _ _ _ _ _ (by first | decide | omega)]; exact r66) rfl (by rw [wr_ap _ _ _ _ _ _ (by first | decide | omega)]; exact r67) _ ?_
        exact f127_ch_e scr L F (d + 1) Ix Jx (wr M1 36 44 (nI g)) s n a1 (by first | decide | omega) (by rw [wr_ap _ _ _ _ _ _ (by first | decide | omega), hE.2.1 46 (by first | decide | omega) (by first | decide | omega)]; exact p3) (by first | decide | omega) ta 1 (by rw [wr_ap _ _ _ _ _ _ (by first | decide | omega), hE.2.2.1]; exact p6) v (by rw [wr_n2 _ _ _ _ _ (by first | decide | omega)]; exact r60) (by rw [wr_ap _ _ _ _ _ _ (by first | decide | omega), hE.2.1 41 (by first | decide | omega) (by first | decide | omega)]; exact b1) (ka scr L F (d + 10) Ix Jx _ (fun z hz => by rw [wr_ne _ _ _ _ _ (by first | decide | omega)]; exact hE.2.1 z (by first | decide | omega) (by first | decide | omega)) (fun y hy => by rw [wr_n2 _ _ _ _ _ (by first | decide | omega)]; exact hE.2.2.2 y hy)) (2 * nI q) (by rw [wr_ap _ _ _ _ _ _ (by first | decide | omega), hE.2.1 42 (by first | decide | omega) (by first | decide | omega), h42]) v2 M2 (s10 scr L F (d + 6) Ix Jx) hD2.1.2.2.2.2.1.2.1 g s4 (by first | decide | omega) s6 (by rw [u2]; decide) (nI e0) (by rw [s2.1.2.1 48 (by first | decide | omega) (by first | decide | omega), hE.2.1 48 (by first | decide | omega) (by first | decide | omega)]; exact m3)
    have hE3 := hF3.1
    have tw0 := tw_F (hE3.1 6 (by first | decide | omega) (by first | decide | omega)) (fun z y1 y2 => hE3.2.1 z (by first | decide | omega) (by first | decide | omega)) h w3 e0 k6'
    have en0 : env (wr (wr (psM M2 g (nI n) 3 (nI s) 0) 36 58 (nI e0)) 36 59 (nI s)) fn1 e0 s := env_X (C := C) (hE3.2.1 41 (by first | decide | omega) (by first | decide | omega)) (hE3.2.1 45 (by first | decide | omega) (by first | decide | omega)) q5.2.1.2.2.2.2.1 hs (env_part henv m9 m2 o3)
    obtain ⟨a1', a2', a3', a4', a5', a6', a7', a8', a9', a10', a11', a12', a13'⟩ := np1 hφ hCT1.2.2.2.1 hCT1.2.2.2.2.1 hs1 hw hfr hg k8 hB hst hsr n1 n2 n3 n4 s7
    rcases ih _ _ _ Sg1 fn1 V2 W2 K1 C1 P1 S2 (st1 + 1) (sr1 + 1) e0 qe s (fr + 1) (g + 1) w3 te hD3 (PR_F hE3 hR) (LTs_F hF3 hL) (hF3.2.2.2.1 hS) m1 tw0 (by rw [hE3.2.1 42 (by first | decide | omega) (by first | decide | omega)]; exact m4) m5 (by rw [hE3.2.2.1]; exact m6) m7 y1 y2 (by rw [y3, t21]; exact r15) (by rw [y4, t21]; exact r6) z1 z2 z3 en0 (Nat.le_trans hs hs1) a1' a2' a3' a4' a6' a7' a8' a9' with z | z
    · exact .inl (rX_go hE3 hF3.2.2.2.1 (rN_trans q6 hN3) a10' a11' z)
    obtain ⟨I4, J4, M4, Sg4, fn4, V4, W4, K4, C4, P4, S4, st4, sr4, x4, v4, f1', f2'', f3', ⟨e16, e14, e15, e6, e17⟩, ⟨e58, e60, e44⟩, f6', f7', f8', f9', f10', f11'⟩ := z
    obtain ⟨d1', d2', d3', d4', d5', d6', d7', d8', d9', d10', d11', d12'⟩ := np2 hCT1.2.2.2.1 hCT1.2.2.2.2.1 f1'.1.2.2.2.1.2.2.2.1 k8 hB hst hsr n1 n2 n3 s7 f8' f9' f10' f11'
    have hF := rF_trans hF3 f2'' (Nat.le_succ _) (Nat.le_succ _)
    obtain ⟨c1, c2, c3⟩ := f2''.2.2.2.2.1 fr (Nat.lt_succ_self _)
    obtain ⟨d1, d2, d3, d4⟩ := f2''.2.2.2.2.2 g (Nat.lt_succ_self _)
    have m65 : M4 65 g = nI n := d1.trans z4
    have m66 : M4 66 g = 3 := d2.trans z5
    have i30 : I4 30 fr = nI q := by
      rw [c1, y5 30 (by first | decide | omega), t30]
      exact r30
    have hE4 := hF.1
    have hN4 := rN_trans (rN_trans q6 hN3) f3'
    have hCT4 := f1'.1.2.2.2.1
    have hmp := mF_pop I4 J4 M4 (nI g)
    have hDp := DR_m hmp (DR_pay f1' ((6 : Int32), nI v4, nI (gr M4 te)))
    have hlen : (((6 : Int32), nI v4, nI (gr M4 te)) :: S4).length = S4.length + 1 := rfl
    have P38 : wr M4 36 44 (nI g) 38 = M 38 := by rw [wr_ne _ _ _ _ _ (by first | decide | omega), hE4.2.1 38 (by first | decide | omega) (by first | decide | omega)]
    have P39 : wr M4 36 44 (nI g) 39 = M 39 := by rw [wr_ne _ _ _ _ _ (by first | decide | omega), hE4.2.1 39 (by first | decide | omega) (by first | decide | omega)]
    have P40 : wr M4 36 44 (nI g) 40 = M 40 := by rw [wr_ne _ _ _ _ _ (by first | decide | omega), hE4.2.1 40 (by first | decide | omega) (by first | decide | omega)]
    have k130 : ∀ (M5 : am_I) (v5 : Nat), (∀ (scr : Nat → Int32) (L F d : Nat) (Ix : am_I) (Jx : am_J), am_r scr L (F + 200000) (d + 5) 114 [.ref 37, .int (nI v4), .int (nI te), .int (nI t), .int (2 * nI q)] (hp Ix Jx (wr M4 36 44 (nI g))) = some (some (.int (nI v5)), hp Ix Jx M5, 0, 0)) → ∀ (scr : Nat → Int32) (L F d : Nat) (Ix : am_I) (Jx : am_J), am_r scr L (F + 200000) (d + 13) 130 [.ref 37] (hp Ix Jx M4) = some (none, hp Ix Jx (gvM M5 (nI v5)), 0, 0) := fun M5 v5 k114 scr L F d Ix Jx => o130_third scr L F d Ix Jx M4 g e44 a13' n (by first | decide | omega) (by rw [wr_ap _ _ _ _ _ _ (by first | decide | omega)]; exact m65) _ (by rw [wr_ap _ _ _ _ _ _ (by first | decide | omega)]; exact m66) rfl b0 e0 t te v4 (by rw [wr_ap _ _ _ _ _ _ (by first | decide | omega), hE4.2.1 47 (by first | decide | omega) (by first | decide | omega)]; exact l3) (by rw [wr_ap _ _ _ _ _ _ (by first | decide | omega), hE4.2.1 48 (by first | decide | omega) (by first | decide | omega)]; exact m3) (by first | decide | omega) (by first | decide | omega) (by rw [wr_ap _ _ _ _ _ _ (by first | decide | omega), hE4.2.2.1]; exact l6) (by rw [wr_ap _ _ _ _ _ _ (by first | decide | omega), hE4.2.2.1]; exact m6) (by rw [wr_n2 _ _ _ _ _ (by first | decide | omega)]; exact e60) (2 * nI q) (by rw [wr_ap _ _ _ _ _ _ (by first | decide | omega), hE4.2.1 42 (by first | decide | omega) (by first | decide | omega), h42]) (nI v5) M5 (k114 scr L F (d + 7) Ix Jx)
    have h88 : I4 8 qe = nI q := by rw [hE4.1 8 (by first | decide | omega) (by first | decide | omega)]; exact m10
    rcases cast_a (q := q) hDp e14 m5 e6 a12' i30 e17 (by rw [hE4.1 15 (by first | decide | omega) (by first | decide | omega)]; exact m11) (by rw [hE4.1 16 (by first | decide | omega) (by first | decide | omega)]; exact f8) m7 ht (CS_M P38 P39 P40 f4) (VR_X (ext_m hmp) f6') f7' d12' (fun _ => pd_X (wr_ne _ _ _ _ _ (by first | decide | omega)) (fun _ y => y) (.inr List.mem_cons_self)) with ⟨x5, v5, V5, W5, I5, J5, M5, S5, j1, j2, j3, j4, j5, j6, j7, j8, j9, j10⟩ | ⟨x5, I5, M5, j1, j2, j3, j4⟩
    · right
      have hj := mF_j I5 J5 M5 x5
      have i521 : I5 21 = I4 21 := j4.1 21 (by first | decide | omega) (by first | decide | omega) (by first | decide | omega) (by first | decide | omega) (by first | decide | omega)
      have i530 : I5 30 = I4 30 := j4.1 30 (by first | decide | omega) (by first | decide | omega) (by first | decide | omega) (by first | decide | omega) (by first | decide | omega)
      refine fin_v (S1 := ((6 : Int32), nI v4, nI (gr M4 te)) :: S4) (J2 := wrJ J5 21 17 x5) (rF_trans hF (rF_S (fr := fr) (g := g) (fun τ z => List.mem_cons_of_mem _ z)) (Nat.le_refl _) (Nat.le_refl _)) hN4 (rF_trans (rF_trans (rF_pop (nI g)) (rF_c (fr := fr) (g := g) j4 j3 j7) (Nat.le_refl _) (Nat.le_refl _)) (rF_m (fr := fr) (g := g) hj (fun j _ => ⟨rfl, rfl, by rw [wrJ_ne _ _ _ _ _ (by first | decide | omega)]⟩) (fun _ _ => ⟨rfl, rfl, rfl, rfl⟩)) (Nat.le_refl _) (Nat.le_refl _)) (DR_m hj j1) (by rw [i521]; exact e15) (by rw [i530]; exact i30) (by rw [j4.2.2.2.2 44 (by first | decide | omega) (by first | decide | omega) (by first | decide | omega) (by first | decide | omega)]; exact wr_s _ _ _ _) j2 j5 (fun scr L F d Mx mo A R z => ?_) (fun scr L F d Ix Jx mo A R z => ?_) (d1' _ _ j6) d2' d3' d5'
      · refine x_last scr L F d I4 J4 Mx mo st4 d8' f1'.1.2.2.2.2.1.2.2 e16 fr qe q e6 a12' e14 m5 i30 hq h88 I5 _ (j9 scr L F d Mx) (by rw [i521]; exact e14) (by rw [i521]; exact e6) (by rw [i530]; exact i30) qa p5 (by rw [j4.1 9 (by first | decide | omega) (by first | decide | omega) (by first | decide | omega) (by first | decide | omega) (by first | decide | omega), hE4.1 9 (by first | decide | omega) (by first | decide | omega)]; exact p8) _ _ qae ?_ ?_ A R z
        · have k := c41_ch scr L F (d + 2) I5 (wrJ J5 21 17 x5) Mx fr (by rw [i521]; exact e6) a12' q (by rw [i530]; exact i30) hq (by rw [j4.1 7 (by first | decide | omega) (by first | decide | omega) (by first | decide | omega) (by first | decide | omega) (by first | decide | omega), hE4.1 7 (by first | decide | omega) (by first | decide | omega)]; exact b2)
          rw [wrJ_s] at k
          exact k
        · rw [fi_ne _ _ _ (by first | decide | omega)]
          exact j1.1.2.2.2.2.1.1
      · exact y_come scr L F d Ix Jx M4 mo sr4 d9' f1'.1.2.2.2.2.1.2.1 e58 _ (k130 M5 v5 j10 scr L F d Ix Jx) A R z
    · left
      refine rX_go hE4 hF.2.2.2.1 hN4 d10' d11' (rX_bad (I1 := I5) (I2 := I5) (J2 := wrJ J4 21 17 x5) (M1 := M5) (M2 := gvM M5 (nI v4)) f1' j1 rfl (gvM_ne _ _ _ (by first | decide | omega) (by first | decide | omega)) (gvM_ne _ _ _ (by first | decide | omega) (by first | decide | omega)) (rkI_c j2) (rkM_trans (rkM_m hmp) (rkM_trans (rkM_c j2) (rkM_g _ _))) f11' d6' d7' (fun scr L F d Mx mo e R e1 e2 z => ?_) (fun scr L F d Ix Jx mo R z => ?_))
      · exact x_cast_s scr L F d I4 J4 Mx mo st4 d8' f1'.1.2.2.2.2.1.2.2 e16 fr qe q e6 a12' e14 m5 i30 hq h88 I5 _ (j3 scr L F d Mx) e e1 e2 80 R z
      · exact y_come scr L F d Ix Jx M4 mo sr4 d9' f1'.1.2.2.2.2.1.2.1 e58 _ (k130 M5 v4 j4 scr L F d Ix Jx) 40 R z
/-- every form -/
theorem ev_all (N c fu : Nat) : ∀ (φ h : Nat), h ≤ 20 → Ev N c fu φ h := by
  intro φ
  induction φ using Nat.strongRecOn with
  | _ φ ihφ =>
    intro h
    induction h with
    | zero =>
      intro _
      intro I J M Sg fn V W K C P S st sr n q s fr g w t hD hR hL hS hn htw
      exact absurd htw (by unfold tw; exact id)
    | succ h ih =>
      intro hh
      intro I J M Sg fn V W K C P S st sr n q s fr g w t hD hR hL hS hn htw h42 hq h71 ht i16 i14 i15 i6 m58 m59 m44 henv hs hφ hw hfr hg hB hst hsr hP
      have ih := ih (by omega)
      obtain ⟨o, b1, b2, b3, _⟩ := node_F hR hn h42 hq h71 ht
      rcases (show o ≤ 1 ∨ o = 2 ∨ o = 3 ∨ o = 4 ∨ o = 5 ∨ o = 6 ∨ o = 7 ∨ o = 8 ∨ o = 9 ∨ o = 10 ∨ o = 11 ∨ o = 12 ∨ o = 13 by omega) with z | z | z | z | z | z | z | z | z | z | z | z | z
      · exact ev_lit n q s fr g w t hD hR hL hS hn htw h42 hq h71 ht i16 i14 i15 i6 m58 m59 m44 henv hs hφ hw hfr hg hB hst hsr hP o b1 z
      · subst z
        exact ev_var n q s fr g w t hD hR hL hS hn htw h42 hq h71 ht i16 i14 i15 i6 m58 m59 m44 henv hs hφ hw hfr hg hB hst hsr hP b1
      · subst z
        exact ev_fun n q s fr g w t hD hR hL hS hn htw h42 hq h71 ht i16 i14 i15 i6 m58 m59 m44 henv hs hφ hw hfr hg hB hst hsr hP b1
      · subst z
        exact ev_call ih (fun φ' h' a b => ihφ φ' a h' b) n q s fr g w t hD hR hL hS hn htw h42 hq h71 ht i16 i14 i15 i6 m58 m59 m44 henv hs hφ hw hfr hg hB hst hsr hP b1
      · subst z
        exact ev_write ih n q s fr g w t hD hR hL hS hn htw h42 hq h71 ht i16 i14 i15 i6 m58 m59 m44 henv hs hφ hw hfr hg hB hst hsr hP b1
      · subst z
        exact ev_plus ih n q s fr g w t hD hR hL hS hn htw h42 hq h71 ht i16 i14 i15 i6 m58 m59 m44 henv hs hφ hw hfr hg hB hst hsr hP b1
      · subst z
        exact ev_minus ih n q s fr g w t hD hR hL hS hn htw h42 hq h71 ht i16 i14 i15 i6 m58 m59 m44 henv hs hφ hw hfr hg hB hst hsr hP b1
      · subst z
        exact ev_less ih n q s fr g w t hD hR hL hS hn htw h42 hq h71 ht i16 i14 i15 i6 m58 m59 m44 henv hs hφ hw hfr hg hB hst hsr hP b1
      · subst z
        exact ev_ch ih n q s fr g w t hD hR hL hS hn htw h42 hq h71 ht i16 i14 i15 i6 m58 m59 m44 henv hs hφ hw hfr hg hB hst hsr hP b1
      · subst z
        exact ev_new ih n q s fr g w t hD hR hL hS hn htw h42 hq h71 ht i16 i14 i15 i6 m58 m59 m44 henv hs hφ hw hfr hg hB hst hsr hP b1
      · subst z
        exact ev_read ih n q s fr g w t hD hR hL hS hn htw h42 hq h71 ht i16 i14 i15 i6 m58 m59 m44 henv hs hφ hw hfr hg hB hst hsr hP b1
      · subst z
        exact ev_cast ih n q s fr g w t hD hR hL hS hn htw h42 hq h71 ht i16 i14 i15 i6 m58 m59 m44 henv hs hφ hw hfr hg hB hst hsr hP b1
      · subst z
        exact ev_put ih n q s fr g w t hD hR hL hS hn htw h42 hq h71 ht i16 i14 i15 i6 m58 m59 m44 henv hs hφ hw hfr hg hB hst hsr hP b1

