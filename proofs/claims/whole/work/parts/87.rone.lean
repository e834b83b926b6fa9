/-! Running: what has one part (II). -/
theorem fi_ne (I : am_I) (fr z : Nat) (h : ¬ z = 21) : fiI I fr z = I z := by
  unfold fiI
  rw [va_up_ne _ _ h]
theorem ext_s {M M' : am_I} {Sg fn : Nat → Nat} {V W K C : Nat} (h : ∀ z, (38 ≤ z ∧ z ≤ 48) ∨ z = 71 ∨ (55 ≤ z ∧ z ≤ 61) → M' z = M z) : ext M M' Sg Sg fn fn V V W W K K C C := by
  refine ⟨⟨Nat.le_refl _, Nat.le_refl _, Nat.le_refl _, Nat.le_refl _⟩, fun v _ => ?_, fun w _ => ?_, fun _ _ => rfl, fun _ _ _ => rfl, fun z hz => h z (by omega)⟩
  · rw [h 55 (by omega), h 56 (by omega), h 57 (by omega)]
    exact ⟨rfl, rfl, rfl⟩
  · rw [h 58 (by omega), h 59 (by omega), h 60 (by omega), h 61 (by omega)]
    exact ⟨rfl, rfl, rfl, rfl⟩
theorem CT_put {I M : am_I} {V W K C fu P : Nat} (a : Nat) (y : Int32) (h : CT I M V W K C fu P) : CT (wr (wr I 29 a y) 28 1 (nI (P + 1))) (wr (wr M 70 a y) 36 56 (nI (P + 1))) V W K C fu (P + 1) := by
  obtain ⟨a1, ⟨a2, a3, a4⟩, ⟨a5, a6, a7⟩, ⟨a8, a9, a10, a11, a12, a13, a14⟩, ⟨a15, a16, a17⟩, ⟨a18, a19, a20⟩⟩ := h
  have i : ∀ z, ¬ z = 28 → ¬ z = 29 → wr (wr I 29 a y) 28 1 (nI (P + 1)) z = I z := fun z h1 h2 => by rw [wr_ne _ _ _ _ _ h1, wr_ne _ _ _ _ _ h2]
  have m : ∀ z, ¬ z = 56 → wr (wr M 70 a y) 36 56 (nI (P + 1)) 36 z = M 36 z := fun z h1 => by rw [wr_n2 _ _ _ _ _ h1, wr_ap _ _ _ _ _ _ (by omega)]
  unfold CT
  rw [i 22 (by omega) (by omega), i 21 (by omega) (by omega), m 31 (by omega), m 35 (by omega), m 49 (by omega), m 53 (by omega), m 40 (by omega), m 52 (by omega), m 51 (by omega)]
  refine ⟨a1, ⟨a2, a3, a4⟩, ⟨a5, a6, a7⟩, ⟨a8, a9, a10, a11, a12, a13, a14⟩, ⟨a15, a16, a17⟩, ⟨wr_s _ _ _ _, wr_s _ _ _ _, ?_⟩⟩
  rw [wr_ne (wr M 70 a y) 36 56 70 _ (by omega), wr_ne (wr I 29 a y) 28 1 29 _ (by omega)]
  funext k
  by_cases z : k = a
  · subst z
    rw [wr_s, wr_s]
  · rw [wr_n2 _ _ _ _ _ z, wr_n2 _ _ _ _ _ z, a20]
theorem CT_new {I M : am_I} {V W K C fu P : Nat} (y : Int32) (hK : K < 40) (h : CT I M V W K C fu P) : CT (wr I 21 10 (nI (K + 1))) (wr (wr M 69 K y) 36 49 (nI (K + 1))) V W (K + 1) C fu P := by
  obtain ⟨a1, ⟨a2, a3, a4⟩, ⟨a5, a6, a7⟩, ⟨a8, a9, a10, a11, a12, a13, a14⟩, ⟨a15, a16, a17⟩, ⟨a18, a19, a20⟩⟩ := h
  have i : ∀ z, ¬ z = 21 → wr I 21 10 (nI (K + 1)) z = I z := fun z h1 => by rw [wr_ne _ _ _ _ _ h1]
  have i2 : ∀ z, ¬ z = 10 → wr I 21 10 (nI (K + 1)) 21 z = I 21 z := fun z h1 => by rw [wr_n2 _ _ _ _ _ h1]
  have m : ∀ z, ¬ z = 49 → wr (wr M 69 K y) 36 49 (nI (K + 1)) 36 z = M 36 z := fun z h1 => by rw [wr_n2 _ _ _ _ _ h1, wr_ap _ _ _ _ _ _ (by omega)]
  unfold CT
  rw [i 22 (by omega), i 28 (by omega), i 29 (by omega), i2 11 (by omega), i2 12 (by omega), i2 13 (by omega), m 31 (by omega), m 35 (by omega), m 53 (by omega), m 40 (by omega), m 52 (by omega), m 51 (by omega), m 56 (by omega)]
  refine ⟨a1, ⟨a2, a3, a4⟩, ⟨wr_s _ _ _ _, wr_s _ _ _ _, by omega⟩, ⟨a8, a9, a10, a11, a12, a13, a14⟩, ⟨a15, a16, a17⟩, ⟨a18, a19, ?_⟩⟩
  rw [wr_ne _ _ _ _ _ (by omega), wr_ne _ _ _ _ _ (by omega)]
  exact a20
theorem ev_cast {N c fu φ h : Nat} (ih : Ev N c fu φ h) {I : am_I} {J : am_J} {M : am_I} {Sg fn : Nat → Nat} {V W K C P : Nat} {S : List am_T} {st sr : Nat} (n q s fr g w t : Nat) (hD : DR I J M Sg fn N c V W K C fu P S) (hR : PR I M N c) (hL : LTs M N S) (hS : SI I) (hn : n < N) (htw : tw I M N c (h + 1) w n) (h42 : M 42 n = nI q) (hq : q < 100) (h71 : M 71 n = nI t) (ht : t < c) (i16 : I 21 16 = 0) (i14 : I 21 14 = nI q) (i15 : I 21 15 = nI s) (i6 : I 21 6 = nI fr) (m58 : M 36 58 = nI n) (m59 : M 36 59 = nI s) (m44 : M 36 44 = nI g) (henv : env M fn n s) (hs : s ≤ C) (hφ : fu - C ≤ φ) (hw : w ≤ 100) (hfr : fr + (h + 1) ≤ 20 * (C + 1)) (hg : g + (h + 1) ≤ 20 * (C + 1)) (hB : 4 * (S.length + 2 * (200 - W) + 2 * (40 - K) + 2 * (40 - C)) + 100 * (40 - C) + w ≤ 9160) (hst : st + 2000 * (40 - C) + 10 * w ≤ 99000) (hsr : sr + 2000 * (40 - C) + 10 * w ≤ 99000) (hP : P ≤ st) (h41 : M 41 n = nI 12) : rX I J M st sr ∨ rV N c fu fr g q s w I J M Sg fn V W K C P S st sr t := by
  obtain ⟨o', b1, b2, b3, b4, b5, b6, b7, b8, b9, b10, b11⟩ := node_F hR hn h42 hq h71 ht
  have eo : o' = 12 := nI_inj (by omega) (by omega) (b1.symm.trans h41)
  subst eo
  have hN := hR.1
  have hCT := hD.1.2.2.2.1
  have hc := hD.2.1.2.1
  have htw0 := htw
  obtain ⟨g1, g2, o, g3, g4, _, g6, _⟩ := htw0
  have eo2 : o = 12 := nI_inj (by omega) (by omega) (g3.symm.trans h41)
  subst eo2
  obtain ⟨a0, w1, k1, k2, k3, k4, k5⟩ := g6 (by omega)
  obtain ⟨a, qa, ta, f1, f2, f3, f4⟩ := b5.2.2.2.2.2.2.2.2.2.1 rfl
  obtain ⟨p1, p2, p3, p4, p5, p6, p7, p8, p9, p10, p11⟩ := part_F hR hn h42 f1 (b8 (by omega))
  have hw11 := tw_lt k3
  have ea : a0 = a := nI_inj (by omega) (by omega) (k1.symm.trans p3)
  subst ea
  rcases ev_a ih n q s fr g w t hD hR hL hS hn htw h42 hq h71 ht i16 i14 i15 i6 m58 m59 m44 henv hs hφ hw hfr hg hB hst hsr hP b1 b2 (by omega) (by omega) p1 p2 p3 p4 p5 p6 p7 p8 p9 k3 k4 with z | ⟨I1, J1, M1, Sg1, fn1, V1, W1, K1, C1, P1, S1, st1, sr1, x, v, q1, q2, q3, q4, q5, q6, ⟨r16, r14, r15, r6, r17⟩, ⟨r58, r60, r44⟩, q9, q10, ⟨r30, r31⟩, ⟨r65, r66, r67⟩, n1, n2, n3, n4⟩
  · exact .inl z
  have hCT1 := q1.1.2.2.2.1
  have hKT1 := q1.1.2.2.1
  have k6 := k5 rfl
  -- the tag is paid for
  have q1' := DR_pay q1 ((6 : Int32), nI v, nI (gr M1 ta))
  have q5' : rF fr g I I1 J J1 M M1 Sg Sg1 fn fn1 V V1 W W1 K K1 C C1 S  (((6 : Int32), nI v, nI (gr M1 ta)) :: S1) := rF_trans q5 (rF_S (fr := fr) (g := g) (fun τ z => List.mem_cons_of_mem _ z)) (Nat.le_refl _) (Nat.le_refl _)
  have ka : ∀ (scr : Nat → Int32) (L F d : Nat) (Ix : am_I) (Jx : am_J) (M0 : am_I), (∀ z, (37 ≤ z ∧ z ≤ 54) → M0 z = M z) → (∀ y, y < 31 → M0 36 y = M 36 y) → am_r scr L (F + 200000) (d + 1) 125 [.ref 37, .int (nI n), .int (nI ta)] (hp Ix Jx M0) = some (some (.int (nI t)), hp Ix Jx M0, 0, 0) := fun scr L F d Ix Jx M0 h1 h2 => aA_cast scr L F d Ix Jx M0 n ta (by omega) (by omega) (by rw [h1 41 (by omega)]; exact b1) (nI t) (by rw [h1 44 (by omega)]; exact f2)
  have hlen : (((6 : Int32), nI v, nI (gr M1 ta)) :: S1).length = S1.length + 1 := rfl
  rcases first_c (o := 12) (u := t) q1' q5' q6 r16 r14 r6 r17 r58 r60 r44 q9 q10 r30 r65 r66 r67 (by omega) hq b1 h42 p3 (by omega) p5 p6 p7 p11 f4 p10 ht f3 ka (by omega) (fun _ => .inr List.mem_cons_self) (by omega) (by omega) n4 (by omega) (by omega) with z | ⟨I2, J2, M2, V2, W2, S2, x2, v2, hD2, s2, ⟨t21, t30, t31, t17, t32⟩, s4, s5, s6, s7, s8, s9, s10, s11, s12⟩
  · exact .inl z
  right
  have hE := q5.1
  refine fin_v q5' q6 s2 hD2 (by rw [t21]; exact r15) (by rw [t30]; exact r30) s4 s5 s6 (fun scr L F d Mx mo A R z => ?_) (fun scr L F d Ix Jx mo A R z => ?_) (by omega) (by omega) (by omega) (by omega)
  · refine x_first scr L F d I1 J1 Mx mo st1 (by omega) q1.1.2.2.2.2.1.2.2 r16 fr qa q r6 (by omega) r14 p5 r30 hq (by rw [hE.1 8 (by omega) (by omega)]; exact p10) I2 J2 (s9 scr L F d Mx) (by rw [t21]; exact r14) (by rw [t21]; exact r6) (by rw [t30]; exact r30) qa p5 (by rw [s2.1.1 9 (by omega) (by omega), hE.1 9 (by omega) (by omega)]; exact p8) _ _ rfl ?_ ?_ A R z
    · have k := c40_cast scr L F (d + 2) I2 J2 Mx fr (by rw [t21]; exact r6) (by omega) q (by rw [t30]; exact r30) hq (by rw [s2.1.1 7 (by omega) (by omega), hE.1 7 (by omega) (by omega)]; exact b2)
      rw [t17] at k
      exact k
    · rw [fi_ne _ _ _ (by omega)]
      exact hD2.1.2.2.2.2.1.1
  · skip
    refine y_come scr L F d Ix Jx M1 mo sr1 (by omega) q1.1.2.2.2.2.1.2.1 r58 _ ?_ A R z
    refine o130_first scr L F d Ix Jx M1 g r44 (by omega) n (by omega) (by rw [wr_ap _ _ _ _ _ _ (by omega)]; exact r65) _ (nI s) (by rw [wr_ap _ _ _ _ _ _ (by omega)]; exact r66) rfl (by rw [wr_ap _ _ _ _ _ _ (by omega)]; exact r67) _ ?_
    exact f127_cast scr L F (d + 1) Ix Jx (wr M1 36 44 (nI g)) s n a0 (by omega) (by rw [wr_ap _ _ _ _ _ _ (by omega), hE.2.1 46 (by omega) (by omega)]; exact p3) (by omega) ta t (by rw [wr_ap _ _ _ _ _ _ (by omega), hE.2.2.1]; exact p6) v (by rw [wr_n2 _ _ _ _ _ (by omega)]; exact r60) (by rw [wr_ap _ _ _ _ _ _ (by omega), hE.2.1 41 (by omega) (by omega)]; exact b1) (ka scr L F (d + 10) Ix Jx _ (fun z hz => by rw [wr_ne _ _ _ _ _ (by omega)]; exact hE.2.1 z (by omega) (by omega)) (fun y hy => by rw [wr_n2 _ _ _ _ _ (by omega)]; exact hE.2.2.2 y hy)) (2 * nI q) (by rw [wr_ap _ _ _ _ _ _ (by omega), hE.2.1 42 (by omega) (by omega), h42]) v2 M2 (s10 scr L F (d + 6) Ix Jx) hD2.1.2.2.2.2.1.2.1

theorem rF_put {fr g : Nat} {I : am_I} {J : am_J} {M : am_I} {Sg fn : Nat → Nat} {V W K C : Nat} {S : List am_T} (a : Nat) (y r r2 : Int32) : rF fr g I (wr (wr I 29 a y) 28 1 r) J J M (wr (wr M 70 a y) 36 56 r2) Sg Sg fn fn V V W W K K C C S S := by
  refine ⟨⟨fun z _ b => by rw [wr_ne _ _ _ _ _ (by omega), wr_ne _ _ _ _ _ (by omega)], fun z a b => by rw [wr_ne _ _ _ _ _ (by omega), wr_ne _ _ _ _ _ (by omega)], by rw [wr_ne _ _ _ _ _ (by omega), wr_ne _ _ _ _ _ (by omega)], fun y b => by rw [wr_n2 _ _ _ _ _ (by omega), wr_ap _ _ _ _ _ _ (by omega)]⟩, ext_s (fun z hz => by rw [wr_ne _ _ _ _ _ (by omega), wr_ne _ _ _ _ _ (by omega)]), fun _ z => z, fun z s hs => by rw [wr_ne _ _ _ _ _ (by omega), wr_ne _ _ _ _ _ (by omega)]; exact z s hs, fun j _ => ⟨by rw [wr_ne _ _ _ _ _ (by omega), wr_ne _ _ _ _ _ (by omega)], by rw [wr_ne _ _ _ _ _ (by omega), wr_ne _ _ _ _ _ (by omega)], rfl⟩, fun j _ => ⟨by rw [wr_ne _ _ _ _ _ (by omega), wr_ne _ _ _ _ _ (by omega)], by rw [wr_ne _ _ _ _ _ (by omega), wr_ne _ _ _ _ _ (by omega)], by rw [wr_ne _ _ _ _ _ (by omega), wr_ne _ _ _ _ _ (by omega)], by rw [wr_ne _ _ _ _ _ (by omega), wr_ne _ _ _ _ _ (by omega)]⟩⟩
theorem DR_put {N c fu : Nat} {I : am_I} {J : am_J} {M : am_I} {Sg fn : Nat → Nat} {V W K C P : Nat} {S : List am_T} (hD : DR I J M Sg fn N c V W K C fu P S) (a : Nat) (y : Int32) : DR (wr (wr I 29 a y) 28 1 (nI (P + 1))) J (wr (wr M 70 a y) 36 56 (nI (P + 1))) Sg fn N c V W K C fu (P + 1) S := by
  refine DR_N hD (CT_put a y hD.1) (ext_s (fun z hz => by rw [wr_ne _ _ _ _ _ (by omega), wr_ne _ _ _ _ _ (by omega)])) (fun z hz => by rw [wr_ne _ _ _ _ _ (by omega), wr_ne _ _ _ _ _ (by omega)]) rfl (fun y hy => by rw [wr_n2 _ _ _ _ _ (by omega), wr_ap _ _ _ _ _ _ (by omega)]) (fun k hk => .inl ⟨hk, by rw [wr_ap _ _ _ _ _ _ (by omega), wr_ap _ _ _ _ _ _ (by omega)], rfl⟩) (fun s s1 s2 => .inl ⟨s2, by rw [wr_ap _ _ _ _ _ _ (by omega), wr_ap _ _ _ _ _ _ (by omega)], rfl, by rw [wr_ap _ _ _ _ _ _ (by omega), wr_ap _ _ _ _ _ _ (by omega)], by rw [wr_ap _ _ _ _ _ _ (by omega), wr_ap _ _ _ _ _ _ (by omega)], by rw [wr_ap _ _ _ _ _ _ (by omega), wr_ap _ _ _ _ _ _ (by omega)]⟩)
/-- the number that a value carries -/
theorem VR_num {I M : am_I} {Sg fn : Nat → Nat} {N c V W K C v : Nat} {x : Int64} (hR : tyR I M c) (h : VR M Sg fn N c V W K C v x 0) : M 55 v = 0 ∧ v_ca x = M 56 v := by
  have k0 : M 38 0 = nI 0 := (hR.2.2.2.2.2.2.1 0 (by omega)).2.2.2.2
  rcases h with ⟨_, _, _, h3⟩ | ⟨h1, _⟩
  · rcases h3 with ⟨z1, z2, z3⟩ | ⟨z1, z2, _⟩ | ⟨z1, z2, _⟩ | ⟨z1, z2, _⟩ | ⟨z1, w, a1, a2, a3, ⟨a4, a5⟩ | ⟨a4, a5⟩⟩
    · exact ⟨z1, by rw [z3]; exact of_ca _ 0 (by omega)⟩
    · omega
    · rw [k0] at z2
      exact absurd z2 (by decide)
    · rw [k0] at z2
      exact absurd z2 (by decide)
    · rw [k0] at a4
      exact absurd a4 (by decide)
    · rw [k0] at a4
      exact absurd a4 (by decide)
  · omega
theorem ev_put {N c fu φ h : Nat} (ih : Ev N c fu φ h) {I : am_I} {J : am_J} {M : am_I} {Sg fn : Nat → Nat} {V W K C P : Nat} {S : List am_T} {st sr : Nat} (n q s fr g w t : Nat) (hD : DR I J M Sg fn N c V W K C fu P S) (hR : PR I M N c) (hL : LTs M N S) (hS : SI I) (hn : n < N) (htw : tw I M N c (h + 1) w n) (h42 : M 42 n = nI q) (hq : q < 100) (h71 : M 71 n = nI t) (ht : t < c) (i16 : I 21 16 = 0) (i14 : I 21 14 = nI q) (i15 : I 21 15 = nI s) (i6 : I 21 6 = nI fr) (m58 : M 36 58 = nI n) (m59 : M 36 59 = nI s) (m44 : M 36 44 = nI g) (henv : env M fn n s) (hs : s ≤ C) (hφ : fu - C ≤ φ) (hw : w ≤ 100) (hfr : fr + (h + 1) ≤ 20 * (C + 1)) (hg : g + (h + 1) ≤ 20 * (C + 1)) (hB : 4 * (S.length + 2 * (200 - W) + 2 * (40 - K) + 2 * (40 - C)) + 100 * (40 - C) + w ≤ 9160) (hst : st + 2000 * (40 - C) + 10 * w ≤ 99000) (hsr : sr + 2000 * (40 - C) + 10 * w ≤ 99000) (hP : P ≤ st) (h41 : M 41 n = nI 13) : rX I J M st sr ∨ rV N c fu fr g q s w I J M Sg fn V W K C P S st sr t := by
  obtain ⟨o', b1, b2, b3, b4, b5, b6, b7, b8, b9, b10, b11⟩ := node_F hR hn h42 hq h71 ht
  have eo : o' = 13 := nI_inj (by omega) (by omega) (b1.symm.trans h41)
  subst eo
  have hN := hR.1
  have hCT := hD.1.2.2.2.1
  have hc := hD.2.1.2.1
  have htw0 := htw
  obtain ⟨g1, g2, o, g3, g4, _, g6, _⟩ := htw0
  have eo2 : o = 13 := nI_inj (by omega) (by omega) (g3.symm.trans h41)
  subst eo2
  obtain ⟨a0, w1, k1, k2, k3, k4, k5⟩ := g6 (by omega)
  obtain ⟨a, qa, ta, f1, f2, f3, f4⟩ := b5.2.2.2.2.2.2.2.2.2.2 rfl
  obtain ⟨p1, p2, p3, p4, p5, p6, p7, p8, p9, p10, p11⟩ := part_F hR hn h42 f1 (b8 (by omega))
  have hw11 := tw_lt k3
  have ea : a0 = a := nI_inj (by omega) (by omega) (k1.symm.trans p3)
  subst ea
  rcases ev_a ih n q s fr g w t hD hR hL hS hn htw h42 hq h71 ht i16 i14 i15 i6 m58 m59 m44 henv hs hφ hw hfr hg hB hst hsr hP b1 b2 (by omega) (by omega) p1 p2 p3 p4 p5 p6 p7 p8 p9 k3 k4 with z | ⟨I1, J1, M1, Sg1, fn1, V1, W1, K1, C1, P1, S1, st1, sr1, x, v, q1, q2, q3, q4, q5, q6, ⟨r16, r14, r15, r6, r17⟩, ⟨r58, r60, r44⟩, q9, q10, ⟨r30, r31⟩, ⟨r65, r66, r67⟩, n1, n2, n3, n4⟩
  · exact .inl z
  have hCT1 := q1.1.2.2.2.1
  have hKT1 := q1.1.2.2.1
  have ka : ∀ (scr : Nat → Int32) (L F d : Nat) (Ix : am_I) (Jx : am_J) (M0 : am_I), (∀ z, (37 ≤ z ∧ z ≤ 54) → M0 z = M z) → (∀ y, y < 31 → M0 36 y = M 36 y) → am_r scr L (F + 200000) (d + 1) 125 [.ref 37, .int (nI n), .int (nI ta)] (hp Ix Jx M0) = some (some (.int (nI 0)), hp Ix Jx M0, 0, 0) := fun scr L F d Ix Jx M0 h1 h2 => aA_put scr L F d Ix Jx M0 n ta (by omega) (by omega) (by rw [h1 41 (by omega)]; exact b1)
  rcases first_c (o := 13) (u := 0) q1 q5 q6 r16 r14 r6 r17 r58 r60 r44 q9 q10 r30 r65 r66 r67 (by omega) hq b1 h42 p3 (by omega) p5 p6 p7 p11 f4 p10 (by omega) f3 ka (by omega) (fun z => absurd z (by omega)) (by omega) (by omega) n4 (by omega) (by omega) with z | ⟨I2, J2, M2, V2, W2, S2, x2, v2, hD2, s2, ⟨t21, t30, t31, t17, t32⟩, s4, s5, s6, s7, s8, s9, s10, s11, s12⟩
  · exact .inl z
  right
  have hE := q5.1
  subst f2
  obtain ⟨u1, u2⟩ := VR_num hD2.2.1 s5
  have hD3 := DR_put hD2 (P1 % 16) (M2 56 v2)
  have e70 : ∀ z, ¬ z = 36 → ¬ z = 70 → wr (wr M2 70 (P1 % 16) (M2 56 v2)) 36 56 (nI (P1 + 1)) z = M2 z := fun z z1 z2 => by rw [wr_ne _ _ _ _ _ z1, wr_ne _ _ _ _ _ z2]
  refine fin_v q5 q6 (rF_trans s2 (rF_put (fr := fr) (g := g) (P1 % 16) (M2 56 v2) (nI (P1 + 1)) (nI (P1 + 1))) (Nat.le_refl _) (Nat.le_refl _)) hD3 (by rw [wr_ap _ _ _ _ _ _ (by omega), wr_ap _ _ _ _ _ _ (by omega), t21]; exact r15) (by rw [wr_ap _ _ _ _ _ _ (by omega), wr_ap _ _ _ _ _ _ (by omega), t30]; exact r30) (by rw [wr_n2 _ _ _ _ _ (by omega), wr_ap _ _ _ _ _ _ (by omega)]; exact s4) (VR_X (ext_s (fun z hz => e70 z (by omega) (by omega))) s5) s6 (fun scr L F d Mx mo A R z => ?_) (fun scr L F d Ix Jx mo A R z => ?_) (by omega) (by omega) (by omega) (by omega)
  · refine x_first scr L F d I1 J1 Mx mo st1 (by omega) q1.1.2.2.2.2.1.2.2 r16 fr qa q r6 (by omega) r14 p5 r30 hq (by rw [hE.1 8 (by omega) (by omega)]; exact p10) I2 J2 (s9 scr L F d Mx) (by rw [t21]; exact r14) (by rw [t21]; exact r6) (by rw [t30]; exact r30) qa p5 (by rw [s2.1.1 9 (by omega) (by omega), hE.1 9 (by omega) (by omega)]; exact p8) _ _ rfl ?_ ?_ A R z
    · have k := c40_put scr L F (d + 2) I2 J2 Mx fr (by rw [t21]; exact r6) (by omega) q (by rw [t30]; exact r30) hq (by rw [s2.1.1 7 (by omega) (by omega), hE.1 7 (by omega) (by omega)]; exact b2) P1 hD2.1.2.2.2.2.2.1 (by omega)
      rw [t17, u2] at k
      exact k
    · rw [fi_ne _ _ _ (by omega), wr_ap _ _ _ _ _ _ (by omega), wr_ap _ _ _ _ _ _ (by omega)]
      exact hD2.1.2.2.2.2.1.1
  · skip
    refine y_come scr L F d Ix Jx M1 mo sr1 (by omega) q1.1.2.2.2.2.1.2.1 r58 _ ?_ A R z
    refine o130_first scr L F d Ix Jx M1 g r44 (by omega) n (by omega) (by rw [wr_ap _ _ _ _ _ _ (by omega)]; exact r65) _ (nI s) (by rw [wr_ap _ _ _ _ _ _ (by omega)]; exact r66) rfl (by rw [wr_ap _ _ _ _ _ _ (by omega)]; exact r67) _ ?_
    exact f127_put scr L F (d + 1) Ix Jx (wr M1 36 44 (nI g)) s n a0 (by omega) (by rw [wr_ap _ _ _ _ _ _ (by omega), hE.2.1 46 (by omega) (by omega)]; exact p3) (by omega) ta 0 (by rw [wr_ap _ _ _ _ _ _ (by omega), hE.2.2.1]; exact p6) v (by rw [wr_n2 _ _ _ _ _ (by omega)]; exact r60) (by rw [wr_ap _ _ _ _ _ _ (by omega), hE.2.1 41 (by omega) (by omega)]; exact b1) (ka scr L F (d + 10) Ix Jx _ (fun z hz => by rw [wr_ne _ _ _ _ _ (by omega)]; exact hE.2.1 z (by omega) (by omega)) (fun y hy => by rw [wr_n2 _ _ _ _ _ (by omega)]; exact hE.2.2.2 y hy)) (2 * nI q) (by rw [wr_ap _ _ _ _ _ _ (by omega), hE.2.1 42 (by omega) (by omega), h42]) v2 M2 (s10 scr L F (d + 6) Ix Jx) hD2.1.2.2.2.2.1.2.1 P1 hD2.1.2.2.2.2.2.2.1 (by omega) s6

theorem ev_new {N c fu φ h : Nat} (ih : Ev N c fu φ h) {I : am_I} {J : am_J} {M : am_I} {Sg fn : Nat → Nat} {V W K C P : Nat} {S : List am_T} {st sr : Nat} (n q s fr g w t : Nat) (hD : DR I J M Sg fn N c V W K C fu P S) (hR : PR I M N c) (hL : LTs M N S) (hS : SI I) (hn : n < N) (htw : tw I M N c (h + 1) w n) (h42 : M 42 n = nI q) (hq : q < 100) (h71 : M 71 n = nI t) (ht : t < c) (i16 : I 21 16 = 0) (i14 : I 21 14 = nI q) (i15 : I 21 15 = nI s) (i6 : I 21 6 = nI fr) (m58 : M 36 58 = nI n) (m59 : M 36 59 = nI s) (m44 : M 36 44 = nI g) (henv : env M fn n s) (hs : s ≤ C) (hφ : fu - C ≤ φ) (hw : w ≤ 100) (hfr : fr + (h + 1) ≤ 20 * (C + 1)) (hg : g + (h + 1) ≤ 20 * (C + 1)) (hB : 4 * (S.length + 2 * (200 - W) + 2 * (40 - K) + 2 * (40 - C)) + 100 * (40 - C) + w ≤ 9160) (hst : st + 2000 * (40 - C) + 10 * w ≤ 99000) (hsr : sr + 2000 * (40 - C) + 10 * w ≤ 99000) (hP : P ≤ st) (h41 : M 41 n = nI 10) : rX I J M st sr ∨ rV N c fu fr g q s w I J M Sg fn V W K C P S st sr t := by
  obtain ⟨o', b1, b2, b3, b4, b5, b6, b7, b8, b9, b10, b11⟩ := node_F hR hn h42 hq h71 ht
  have eo : o' = 10 := nI_inj (by omega) (by omega) (b1.symm.trans h41)
  subst eo
  have hN := hR.1
  have hCT := hD.1.2.2.2.1
  have hc := hD.2.1.2.1
  have htw0 := htw
  obtain ⟨g1, g2, o, g3, g4, _, g6, _⟩ := htw0
  have eo2 : o = 10 := nI_inj (by omega) (by omega) (g3.symm.trans h41)
  subst eo2
  obtain ⟨a0, w1, k1, k2, k3, k4, k5⟩ := g6 (by omega)
  obtain ⟨a, qa, ta, f1, f2, f3, f4⟩ := b5.2.2.2.2.2.2.2.1 rfl
  obtain ⟨p1, p2, p3, p4, p5, p6, p7, p8, p9, p10, p11⟩ := part_F hR hn h42 f1 (b8 (by omega))
  have hw11 := tw_lt k3
  have ea : a0 = a := nI_inj (by omega) (by omega) (k1.symm.trans p3)
  subst ea
  rcases ev_a ih n q s fr g w t hD hR hL hS hn htw h42 hq h71 ht i16 i14 i15 i6 m58 m59 m44 henv hs hφ hw hfr hg hB hst hsr hP b1 b2 (by omega) (by omega) p1 p2 p3 p4 p5 p6 p7 p8 p9 k3 k4 with z | ⟨I1, J1, M1, Sg1, fn1, V1, W1, K1, C1, P1, S1, st1, sr1, x, v, q1, q2, q3, q4, q5, q6, ⟨r16, r14, r15, r6, r17⟩, ⟨r58, r60, r44⟩, q9, q10, ⟨r30, r31⟩, ⟨r65, r66, r67⟩, n1, n2, n3, n4⟩
  · exact .inl z
  have hCT1 := q1.1.2.2.2.1
  have hKT1 := q1.1.2.2.1
  have ka : ∀ (scr : Nat → Int32) (L F d : Nat) (Ix : am_I) (Jx : am_J) (M0 : am_I), (∀ z, (37 ≤ z ∧ z ≤ 54) → M0 z = M z) → (∀ y, y < 31 → M0 36 y = M 36 y) → am_r scr L (F + 200000) (d + 1) 125 [.ref 37, .int (nI n), .int (nI ta)] (hp Ix Jx M0) = some (some (.int (nI ta)), hp Ix Jx M0, 0, 0) := fun scr L F d Ix Jx M0 h1 h2 => aA_new scr L F d Ix Jx M0 n ta (by omega) (by omega) (by rw [h1 41 (by omega)]; exact b1)
  rcases first_c (o := 10) (u := ta) q1 q5 q6 r16 r14 r6 r17 r58 r60 r44 q9 q10 r30 r65 r66 r67 (by omega) hq b1 h42 p3 (by omega) p5 p6 p7 p11 f4 p10 p7 ⟨0, cn0 (.inl rfl)⟩ ka (by omega) (fun z => .inl z) (by omega) (by omega) n4 (by omega) (by omega) with z | ⟨I2, J2, M2, V2, W2, S2, x2, v2, hD2, s2, ⟨t21, t30, t31, t17, t32⟩, s4, s5, s6, s7, s8, s9, s10, s11, s12⟩
  · exact .inl z
  have hE := q5.1
  have c12 := q1.1.2.2.2.2.1.2.2
  have hE2 := s2.1
  have t38 : M2 38 t = 4 := by
    rw [hE2.2.1 38 (by omega) (by omega), hE.2.1 38 (by omega) (by omega)]
    exact f2
  have t39 : tA M2 t = ta := by
    unfold tA
    rw [hE2.2.1 39 (by omega) (by omega), hE.2.1 39 (by omega) (by omega), f3]
    exact nI_clamp (by omega)
  have t2 : ¬ t = 2 := by
    intro z
    have := (hD.2.1.2.2.2.2.2.2.1 2 (by omega)).2.2.2.2
    rw [z, this] at f2
    exact absurd f2 (by decide)
  by_cases hK : K1 < 40
  · right
    have hD3 := DR_pay hD2 ((6 : Int32), nI v2, nI (gr M2 ta))
    have eM : ∀ z, ¬ z = 36 → ¬ z = 69 → wr (wr M2 69 K1 (nI v2)) 36 49 (nI (K1 + 1)) z = M2 z := fun z z1 z2 => by rw [wr_ne _ _ _ _ _ z1, wr_ne _ _ _ _ _ z2]
    have he : ext M2 (wr (wr M2 69 K1 (nI v2)) 36 49 (nI (K1 + 1))) Sg1 (fun k => if k = K1 then t else Sg1 k) fn1 fn1 V2 V2 W2 W2 K1 (K1 + 1) C1 C1 := by
      refine ⟨⟨Nat.le_refl _, Nat.le_refl _, by omega, Nat.le_refl _⟩, fun v _ => ?_, fun w _ => ?_, fun k hk => if_neg (by omega), fun _ _ _ => rfl, fun z hz => eM z (by omega) (by omega)⟩
      · rw [eM 55 (by omega) (by omega), eM 56 (by omega) (by omega), eM 57 (by omega) (by omega)]
        exact ⟨rfl, rfl, rfl⟩
      · rw [eM 58 (by omega) (by omega), eM 59 (by omega) (by omega), eM 60 (by omega) (by omega), eM 61 (by omega) (by omega)]
        exact ⟨rfl, rfl, rfl, rfl⟩
    have hD4 : DR (wr I2 21 10 (nI (K1 + 1))) (wrJ J2 35 K1 x2) (wr (wr M2 69 K1 (nI v2)) 36 49 (nI (K1 + 1))) (fun k => if k = K1 then t else Sg1 k) fn1 N c V2 W2 (K1 + 1) C1 fu P1 (((6 : Int32), nI v2, nI (gr M2 ta)) :: S2) := by
      refine DR_N hD3 (CT_new (nI v2) hK hD2.1) he (fun z hz => by rw [wr_ne _ _ _ _ _ (by omega)]) (by rw [wrJ_ne _ _ _ _ _ (by omega)]) (fun y hy => by rw [wr_n2 _ _ _ _ _ (by omega), wr_ap _ _ _ _ _ _ (by omega)]) (fun k hk => ?_) (fun s s1 s2 => .inl ⟨s2, by rw [wr_ap _ _ _ _ _ _ (by omega)], by rw [wrJ_ne _ _ _ _ _ (by omega)], by rw [eM 62 (by omega) (by omega)], by rw [eM 63 (by omega) (by omega)], by rw [eM 64 (by omega) (by omega)]⟩)
      by_cases e : k = K1
      · right
        subst e
        have tAe : tA (wr (wr M2 69 k (nI v2)) 36 49 (nI (k + 1))) t = ta := by
          unfold tA at t39 ⊢
          rw [eM 39 (by omega) (by omega)]
          exact t39
        have sk : (fun k_1 => if k_1 = k then t else Sg1 k_1) k = t := if_pos rfl
        unfold CEk
        rw [sk]
        refine ⟨by rw [eM 38 (by omega) (by omega)]; exact t38, ht, v2, by rw [wr_ap _ _ _ _ _ _ (by omega), wr_s], ?_, ?_⟩
        · rw [tAe, wrJ_s]
          exact VR_X he s5
        · rw [tAe]
          exact pd_X (eM 38 (by omega) (by omega)) (fun _ z => z) (.inr List.mem_cons_self)
      · left
        exact ⟨by omega, by rw [wr_ap _ _ _ _ _ _ (by omega), wr_n2 _ _ _ _ _ e], wrJ_q _ _ _ _ _ _ (by omega)⟩
    have hlen : (((6 : Int32), nI v2, nI (gr M2 ta)) :: S2).length = S2.length + 1 := rfl
    obtain ⟨v5, V5, M5, S5, d1, d2, d3, d4, d5, d6, d7, d8, d9, d10⟩ := DR_v hD4 (by omega) 3 (nI K1) 0
    obtain ⟨y1, y2, y3⟩ := row_3 d6
    have hv5 : VR M5 (fun k => if k = K1 then t else Sg1 k) fn1 N c V5 W2 (K1 + 1) C1 v5 (v_of (nI 3) (nI K1)) t := .inl ⟨t2, d4, ht, .inr (.inr (.inr (.inl ⟨y1, by rw [d2.2.2.2.2.2 38 (by omega), eM 38 (by omega) (by omega)]; exact t38, K1, by omega, y2, (if_pos rfl).symm, rfl⟩)))⟩
    have hF4 : rF fr g I1 (wr I2 21 10 (nI (K1 + 1))) J1 (wrJ J2 35 K1 x2) M1 M5 Sg1 (fun k => if k = K1 then t else Sg1 k) fn1 fn1 V1 V5 W1 W2 K1 (K1 + 1) C1 C1 S1 S5 := by
      refine rF_trans (rF_trans s2 (?_ : rF fr g I2 (wr I2 21 10 (nI (K1 + 1))) J2 (wrJ J2 35 K1 x2) M2 (wr (wr M2 69 K1 (nI v2)) 36 49 (nI (K1 + 1))) Sg1 (fun k => if k = K1 then t else Sg1 k) fn1 fn1 V2 V2 W2 W2 K1 (K1 + 1) C1 C1 S2 (((6 : Int32), nI v2, nI (gr M2 ta)) :: S2)) (Nat.le_refl _) (Nat.le_refl _)) (rF_c (fr := fr) (g := g) d3 d2 d9) (Nat.le_refl _) (Nat.le_refl _)
      exact ⟨⟨fun z _ b => wr_ne _ _ _ _ _ (by omega), fun z a b => eM z (by omega) (by omega), eM 71 (by omega) (by omega), fun y b => by rw [wr_n2 _ _ _ _ _ (by omega), wr_ap _ _ _ _ _ _ (by omega)]⟩, he, fun τ z => List.mem_cons_of_mem _ z, fun z s hs => by rw [wr_ne _ _ _ _ _ (by omega)]; exact z s hs, fun j _ => ⟨by rw [wr_ne _ _ _ _ _ (by omega)], by rw [wr_ne _ _ _ _ _ (by omega)], by rw [wrJ_ne _ _ _ _ _ (by omega)]⟩, fun j _ => ⟨by rw [eM 65 (by omega) (by omega)], by rw [eM 66 (by omega) (by omega)], by rw [eM 67 (by omega) (by omega)], by rw [eM 68 (by omega) (by omega)]⟩⟩
    refine fin_v q5 q6 hF4 d1 (by rw [wr_n2 _ _ _ _ _ (by omega), t21]; exact r15) (by rw [wr_ap _ _ _ _ _ _ (by omega), t30]; exact r30) (by rw [d3.2.2.2.2 44 (by omega) (by omega) (by omega) (by omega), wr_n2 _ _ _ _ _ (by omega), wr_ap _ _ _ _ _ _ (by omega)]; exact s4) hv5 d5 (fun scr L F d Mx mo A R z => ?_) (fun scr L F d Ix Jx mo A R z => ?_) (by omega) (by omega) (by omega) (by omega)
    · refine x_first scr L F d I1 J1 Mx mo st1 (by omega) q1.1.2.2.2.2.1.2.2 r16 fr qa q r6 (by omega) r14 p5 r30 hq (by rw [hE.1 8 (by omega) (by omega)]; exact p10) I2 J2 (s9 scr L F d Mx) (by rw [t21]; exact r14) (by rw [t21]; exact r6) (by rw [t30]; exact r30) qa p5 (by rw [s2.1.1 9 (by omega) (by omega), hE.1 9 (by omega) (by omega)]; exact p8) _ _ rfl ?_ ?_ A R z
      · have k := c44 scr L F (d + 2) I2 J2 Mx fr (by rw [t21]; exact r6) (by omega) K1 hD2.1.2.2.1.1 hK
        rw [t17] at k
        exact c40_new scr L F (d + 2) I2 J2 Mx fr (by rw [t21]; exact r6) (by omega) q (by rw [t30]; exact r30) hq (by rw [s2.1.1 7 (by omega) (by omega), hE.1 7 (by omega) (by omega)]; exact b2) _ _ k
      · rw [fi_ne _ _ _ (by omega), wr_ap _ _ _ _ _ _ (by omega)]
        exact hD2.1.2.2.2.2.1.1
    · skip
      refine y_come scr L F d Ix Jx M1 mo sr1 (by omega) q1.1.2.2.2.2.1.2.1 r58 _ ?_ A R z
      refine o130_first scr L F d Ix Jx M1 g r44 (by omega) n (by omega) (by rw [wr_ap _ _ _ _ _ _ (by omega)]; exact r65) _ (nI s) (by rw [wr_ap _ _ _ _ _ _ (by omega)]; exact r66) rfl (by rw [wr_ap _ _ _ _ _ _ (by omega)]; exact r67) _ ?_
      exact f127_new scr L F (d + 1) Ix Jx (wr M1 36 44 (nI g)) s n a0 (by omega) (by rw [wr_ap _ _ _ _ _ _ (by omega), hE.2.1 46 (by omega) (by omega)]; exact p3) (by omega) ta ta (by rw [wr_ap _ _ _ _ _ _ (by omega), hE.2.2.1]; exact p6) v (by rw [wr_n2 _ _ _ _ _ (by omega)]; exact r60) (by rw [wr_ap _ _ _ _ _ _ (by omega), hE.2.1 41 (by omega) (by omega)]; exact b1) (ka scr L F (d + 10) Ix Jx _ (fun z hz => by rw [wr_ne _ _ _ _ _ (by omega)]; exact hE.2.1 z (by omega) (by omega)) (fun y hy => by rw [wr_n2 _ _ _ _ _ (by omega)]; exact hE.2.2.2 y hy)) (2 * nI q) (by rw [wr_ap _ _ _ _ _ _ (by omega), hE.2.1 42 (by omega) (by omega), h42]) v2 M2 (s10 scr L F (d + 6) Ix Jx) hD2.1.2.2.2.2.1.2.1 K1 hD2.1.2.2.1.2.1 hK (nI v5) M5 (d10 scr L F (d + 10) Ix Jx)
  · left
    have eK : K1 = 40 := by omega
    subst eK
    have n44 : ¬ (4 : Int32) = 6 := by decide
    have n40 : ¬ (4 : Int32) = 0 := by decide
    refine rX_go hE q5.2.2.2.1 q6 (by omega) (by omega) ⟨wr I2 21 12 4, J2, wr M2 36 51 4, 4, P1, rE_of q1 (rkI_trans ?_ (rkI_w I2 12 4 (by omega) (by omega))) (rkM_trans ?_ (rkM_w M2 51 4 (by omega))) (by omega) (.inr (.inr rfl)) (wr_s _ _ _ _) (wr_s _ _ _ _) (fun z => absurd z (by decide)), fun scr L F d Mx mo => ?_, fun scr L F d Ix Jx mo => ?_⟩
    · exact s11
    · exact s12
    · refine h31_le (N := 80 + 80) (by omega) ?_
      have z := x_end scr L F d (wr I2 21 12 4) J2 Mx mo (st1 + 1) (by omega) 4 (wr_s _ _ _ _) n44
      refine x_first scr L F d I1 J1 Mx mo st1 (by omega) q1.1.2.2.2.2.1.2.2 r16 fr qa q r6 (by omega) r14 p5 r30 hq (by rw [hE.1 8 (by omega) (by omega)]; exact p10) I2 J2 (s9 scr L F d Mx) (by rw [t21]; exact r14) (by rw [t21]; exact r6) (by rw [t30]; exact r30) qa p5 (by rw [s2.1.1 9 (by omega) (by omega), hE.1 9 (by omega) (by omega)]; exact p8) _ _ rfl ?_ ?_ 80 _ z
      · have k := c44_full scr L F (d + 2) I2 J2 Mx hD2.1.2.2.1.1
        exact c40_new scr L F (d + 2) I2 J2 Mx fr (by rw [t21]; exact r6) (by omega) q (by rw [t30]; exact r30) hq (by rw [s2.1.1 7 (by omega) (by omega), hE.1 7 (by omega) (by omega)]; exact b2) _ _ k
      · rw [wr_ap _ _ _ _ _ _ (by omega)]
        exact hD2.1.2.2.2.2.1.1
    · refine hr1_le (N := 40 + 40) (by omega) ?_
      have z := y_end scr L F d Ix Jx (wr M2 36 51 4) mo (sr1 + 1) (by omega) 4 (wr_s _ _ _ _) n40
      refine y_come scr L F d Ix Jx M1 mo sr1 (by omega) q1.1.2.2.2.2.1.2.1 r58 _ ?_ 40 _ z
      refine o130_first scr L F d Ix Jx M1 g r44 (by omega) n (by omega) (by rw [wr_ap _ _ _ _ _ _ (by omega)]; exact r65) _ (nI s) (by rw [wr_ap _ _ _ _ _ _ (by omega)]; exact r66) rfl (by rw [wr_ap _ _ _ _ _ _ (by omega)]; exact r67) _ ?_
      exact f127_new_f scr L F (d + 1) Ix Jx (wr M1 36 44 (nI g)) s n a0 (by omega) (by rw [wr_ap _ _ _ _ _ _ (by omega), hE.2.1 46 (by omega) (by omega)]; exact p3) (by omega) ta ta (by rw [wr_ap _ _ _ _ _ _ (by omega), hE.2.2.1]; exact p6) v (by rw [wr_n2 _ _ _ _ _ (by omega)]; exact r60) (by rw [wr_ap _ _ _ _ _ _ (by omega), hE.2.1 41 (by omega) (by omega)]; exact b1) (ka scr L F (d + 10) Ix Jx _ (fun z hz => by rw [wr_ne _ _ _ _ _ (by omega)]; exact hE.2.1 z (by omega) (by omega)) (fun y hy => by rw [wr_n2 _ _ _ _ _ (by omega)]; exact hE.2.2.2 y hy)) (2 * nI q) (by rw [wr_ap _ _ _ _ _ _ (by omega), hE.2.1 42 (by omega) (by omega), h42]) v2 M2 (s10 scr L F (d + 6) Ix Jx) hD2.1.2.2.2.2.1.2.1 hD2.1.2.2.1.2.1

