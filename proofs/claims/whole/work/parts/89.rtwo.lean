/-! Running: what has two parts (I). -/
theorem mF_wo (I : am_I) (J : am_J) (M : am_I) (g fr : Nat) (x : Int64) (y n2 st s v b : Int32) : mF I (woI I y) J (wrJ J 32 fr x) M (wr (wr (psM M g n2 st s v) 36 58 b) 36 59 s) := by
  refine ⟨fun z a _ _ => ?_, fun y a => ?_, fun z a b => wrJ_ne J 32 fr z x b, fun z a b => ?_, fun y a b d e => ?_⟩
  · unfold woI
    rw [va_up_ne _ _ a]
  · rcases a with a | a | a | a <;> subst a <;> simp [woI, va_up, upd]
  · rw [wr_ne _ _ _ _ _ a, wr_ne _ _ _ _ _ a]
    unfold psM
    rw [va_up_ne _ _ a, va_up_ne _ _ (by omega), va_up_ne _ _ (by omega), va_up_ne _ _ (by omega), va_up_ne _ _ (by omega)]
  · rw [wr_n2 _ _ _ _ _ d, wr_n2 _ _ _ _ _ b]
    simp [psM, va_up, upd, a]
theorem ps_rows (M : am_I) (g : Nat) (n2 st s v b s2 : Int32) : (wr (wr (psM M g n2 st s v) 36 58 b) 36 59 s2) 36 58 = b ∧ (wr (wr (psM M g n2 st s v) 36 58 b) 36 59 s2) 36 59 = s2 ∧ (wr (wr (psM M g n2 st s v) 36 58 b) 36 59 s2) 36 44 = nI (g + 1) ∧ (wr (wr (psM M g n2 st s v) 36 58 b) 36 59 s2) 65 g = n2 ∧ (wr (wr (psM M g n2 st s v) 36 58 b) 36 59 s2) 66 g = st ∧ (wr (wr (psM M g n2 st s v) 36 58 b) 36 59 s2) 68 g = v ∧ ∀ j, j < g → (wr (wr (psM M g n2 st s v) 36 58 b) 36 59 s2) 65 j = M 65 j ∧ (wr (wr (psM M g n2 st s v) 36 58 b) 36 59 s2) 66 j = M 66 j ∧ (wr (wr (psM M g n2 st s v) 36 58 b) 36 59 s2) 67 j = M 67 j ∧ (wr (wr (psM M g n2 st s v) 36 58 b) 36 59 s2) 68 j = M 68 j := by
  refine ⟨by rw [wr_n2 _ _ _ _ _ (by omega), wr_s], wr_s _ _ _ _, ?_, ?_, ?_, ?_, fun j hj => ?_⟩
  · rw [wr_n2 _ _ _ _ _ (by omega), wr_n2 _ _ _ _ _ (by omega)]
    simp [psM, va_up, upd]
  · rw [wr_ap _ _ _ _ _ _ (by omega), wr_ap _ _ _ _ _ _ (by omega)]
    simp [psM, va_up, upd]
  · rw [wr_ap _ _ _ _ _ _ (by omega), wr_ap _ _ _ _ _ _ (by omega)]
    simp [psM, va_up, upd]
  · rw [wr_ap _ _ _ _ _ _ (by omega), wr_ap _ _ _ _ _ _ (by omega)]
    simp [psM, va_up, upd]
  · have hj2 : ¬ j = g := by omega
    simp [wr, psM, va_up, upd, hj2]
theorem wo_rows (I : am_I) (y : Int32) : woI I y 21 16 = 0 ∧ woI I y 21 14 = y ∧ woI I y 21 15 = I 21 15 ∧ woI I y 21 6 = I 21 6 ∧ ∀ z, ¬ z = 21 → woI I y z = I z := by
  refine ⟨?_, ?_, ?_, ?_, fun z hz => ?_⟩
  · simp [woI, va_up, upd]
  · simp [woI, va_up, upd]
  · simp [woI, va_up, upd]
  · simp [woI, va_up, upd]
  · unfold woI
    rw [va_up_ne _ _ hz]
/-- both parts' values -/
theorem ev_ab {N c fu φ h : Nat} (ih : Ev N c fu φ h) {I : am_I} {J : am_J} {M : am_I} {Sg fn : Nat → Nat} {V W K C P : Nat} {S : List am_T} {st sr : Nat} (n q s fr g w t : Nat) (hD : DR I J M Sg fn N c V W K C fu P S) (hR : PR I M N c) (hL : LTs M N S) (hS : SI I) (hn : n < N) (htw : tw I M N c (h + 1) w n) (h42 : M 42 n = nI q) (hq : q < 100) (h71 : M 71 n = nI t) (ht : t < c) (i16 : I 21 16 = 0) (i14 : I 21 14 = nI q) (i15 : I 21 15 = nI s) (i6 : I 21 6 = nI fr) (m58 : M 36 58 = nI n) (m59 : M 36 59 = nI s) (m44 : M 36 44 = nI g) (henv : env M fn n s) (hs : s ≤ C) (hφ : fu - C ≤ φ) (hw : w ≤ 100) (hfr : fr + (h + 1) ≤ 20 * (C + 1)) (hg : g + (h + 1) ≤ 20 * (C + 1)) (hB : 4 * (S.length + 2 * (200 - W) + 2 * (40 - K) + 2 * (40 - C)) + 100 * (40 - C) + w ≤ 9160) (hst : st + 2000 * (40 - C) + 10 * w ≤ 99000) (hsr : sr + 2000 * (40 - C) + 10 * w ≤ 99000) (hP : P ≤ st) {o a qa ta w1 b qb tb w2 u : Nat} (b1 : M 41 n = nI o) (b2 : I 7 q = nI o) (ho : 4 ≤ o) (ho2 : o ≤ 8) (A : a < N ∧ n < a ∧ M 46 n = nI a ∧ M 42 a = nI qa ∧ qa < 100 ∧ M 71 a = nI ta ∧ ta < c ∧ I 9 q = nI qa ∧ M 45 a = nI n ∧ I 8 qa = nI q ∧ I 15 qa = nI (tm ta)) (B : b < N ∧ n < b ∧ M 47 n = nI b ∧ M 42 b = nI qb ∧ qb < 100 ∧ M 71 b = nI tb ∧ tb < c ∧ I 10 q = nI qb ∧ M 45 b = nI n ∧ I 8 qb = nI q ∧ I 15 qb = nI (tm tb)) (k3 : tw I M N c h w1 a) (k6 : tw I M N c h w2 b) (hww : w1 + w2 + 3 ≤ w) (a16 : I 16 qa = nI (tm u)) (hu : u < c) (u2 : ¬ u = 2) (hcs : CS M ta u) (ka : ∀ (scr : Nat → Int32) (L F d : Nat) (Ix : am_I) (Jx : am_J) (M0 : am_I), (∀ z, (37 ≤ z ∧ z ≤ 54) → M0 z = M z) → (∀ y, y < 31 → M0 36 y = M 36 y) → am_r scr L (F + 200000) (d + 1) 125 [.ref 37, .int (nI n), .int (nI ta)] (hp Ix Jx M0) = some (some (.int (nI u)), hp Ix Jx M0, 0, 0)) :
    rX I J M st sr ∨ ∃ (I4 : am_I) (J4 : am_J) (M4 : am_I) (Sg4 fn4 : Nat → Nat) (V4 W4 K4 C4 P4 : Nat) (S4 : List am_T) (st4 sr4 : Nat) (x2 : Int64) (v2 : Nat) (x : Int64) (v : Nat), DR I4 J4 M4 Sg4 fn4 N c V4 W4 K4 C4 fu P4 S4 ∧ PR I4 M4 N c ∧ LTs M4 N S4 ∧ SI I4 ∧ rF fr g I I4 J J4 M M4 Sg Sg4 fn fn4 V V4 W W4 K K4 C C4 S S4 ∧ rN I I4 J J4 M M4 st st4 sr sr4 ∧ (I4 21 16 = 1 ∧ I4 21 14 = nI qb ∧ I4 21 15 = nI s ∧ I4 21 6 = nI (fr + 1) ∧ J4 21 17 = x) ∧ (M4 36 58 = -1 ∧ M4 36 60 = nI v ∧ M4 36 44 = nI (g + 1)) ∧ VR M4 Sg4 fn4 N c V4 W4 K4 C4 v x tb ∧ v < 2300 ∧ VR M4 Sg4 fn4 N c V4 W4 K4 C4 v2 x2 u ∧ v2 < 2300 ∧ (I4 30 fr = nI q ∧ I4 31 fr = nI s ∧ J4 32 fr = x2) ∧ (M4 65 g = nI n ∧ M4 66 g = 2 ∧ M4 68 g = nI v2) ∧ (4 * (S4.length + 2 * (200 - W4) + 2 * (40 - K4) + 2 * (40 - C4)) + 100 * (40 - C4) + 2 ≤ 4 * (S.length + 2 * (200 - W) + 2 * (40 - K) + 2 * (40 - C)) + 100 * (40 - C) + w1 + w2 ∧ st4 + 2000 * (40 - C4) ≤ st + 2 + 2000 * (40 - C) + 10 * w1 + 10 * w2 ∧ sr4 + 2000 * (40 - C4) ≤ sr + 2 + 2000 * (40 - C) + 10 * w1 + 10 * w2 ∧ P4 ≤ st4) := by
  obtain ⟨p1, p2, p3, p4, p5, p6, p7, p8, p9, p10, p11⟩ := A
  obtain ⟨l1, l2, l3, l4, l5, l6, l7, l8, l9, l10, l11⟩ := B
  have hN := hR.1
  have hCT := hD.1.2.2.2.1
  have hc := hD.2.1.2.1
  have w21 := (tw_lt k6).2
  rcases ev_a ih n q s fr g w t hD hR hL hS hn htw h42 hq h71 ht i16 i14 i15 i6 m58 m59 m44 henv hs hφ hw hfr hg hB hst hsr hP b1 b2 (by omega) (by omega) p1 p2 p3 p4 p5 p6 p7 p8 p9 k3 (by omega) with z | ⟨I1, J1, M1, Sg1, fn1, V1, W1, K1, C1, P1, S1, st1, sr1, x, v, q1, q2, q3, q4, q5, q6, ⟨r16, r14, r15, r6, r17⟩, ⟨r58, r60, r44⟩, q9, q10, ⟨r30, r31⟩, ⟨r65, r66, r67⟩, n1, n2, n3, n4⟩
  · exact .inl z
  have hCT1 := q1.1.2.2.2.1
  rcases first_c (o := o) (u := u) q1 q5 q6 r16 r14 r6 r17 r58 r60 r44 q9 q10 r30 r65 r66 r67 (by omega) hq b1 h42 p3 (by omega) p5 p6 p7 p11 a16 p10 hu hcs ka (by omega) (fun z => absurd z u2) (by omega) (by omega) n4 (by omega) (by omega) with z | ⟨I2, J2, M2, V2, W2, S2, x2, v2, hD2, s2, ⟨t21, t30, t31, t17, t32⟩, s4, s5, s6, s7, s8, s9, s10, s11, s12⟩
  · exact .inl z
  have hE := q5.1
  have hm := mF_wo I2 J2 M2 g fr x2 (nI qb) (nI n) 2 (nI s) (nI v2) (nI b)
  obtain ⟨y1, y2, y3, y4, y5⟩ := wo_rows I2 (nI qb)
  obtain ⟨z1, z2, z3, z4, z5, z6, z7⟩ := ps_rows M2 g (nI n) 2 (nI s) (nI v2) (nI b) (nI s)
  have hD3 := DR_m hm hD2
  have hF23 := rF_m (fr := fr) (g := g) (Sg := Sg1) (fn := fn1) (V := V2) (W := W2) (K := K1) (C := C1) (S := S2) hm (fun j hj => ⟨by rw [y5 30 (by omega)], by rw [y5 31 (by omega)], wrJ_q _ _ _ _ _ _ (by omega)⟩) z7
  have hF3 := rF_trans q5 (rF_trans s2 hF23 (Nat.le_refl _) (Nat.le_refl _)) (Nat.le_refl _) (Nat.le_refl _)
  have hN3 : rN I1 (woI I2 (nI qb)) J1 (wrJ J2 32 fr x2) M1 (wr (wr (psM M2 g (nI n) 2 (nI s) (nI v2)) 36 58 (nI b)) 36 59 (nI s)) st1 (st1 + 1) sr1 (sr1 + 1) := by
    refine rN_1 (fun scr L F d Mx mo A R z => ?_) (fun scr L F d Ix Jx mo A R z => ?_)
    · refine x_first scr L F d I1 J1 Mx mo st1 (by omega) q1.1.2.2.2.2.1.2.2 r16 fr qa q r6 (by omega) r14 p5 r30 hq (by rw [hE.1 8 (by omega) (by omega)]; exact p10) I2 J2 (s9 scr L F d Mx) (by rw [t21]; exact r14) (by rw [t21]; exact r6) (by rw [t30]; exact r30) qa p5 (by rw [s2.1.1 9 (by omega) (by omega), hE.1 9 (by omega) (by omega)]; exact p8) _ _ rfl ?_ ?_ A R z
      · have k := c40_two scr L F (d + 2) I2 J2 Mx fr (by rw [t21]; exact r6) (by omega) q (by rw [t30]; exact r30) hq o ho ho2 (by rw [s2.1.1 7 (by omega) (by omega), hE.1 7 (by omega) (by omega)]; exact b2) (nI qb) (by rw [s2.1.1 10 (by omega) (by omega), hE.1 10 (by omega) (by omega)]; exact l8)
        rw [t17] at k
        exact k
      · rw [y5 22 (by omega)]
        exact hD2.1.2.2.2.2.1.1
    · skip
      refine y_come scr L F d Ix Jx M1 mo sr1 (by omega) q1.1.2.2.2.2.1.2.1 r58 _ ?_ A R z
      refine o130_first scr L F d Ix Jx M1 g r44 (by omega) n (by omega) (by rw [wr_ap _ _ _ _ _ _ (by omega)]; exact r65) _ (nI s) (by rw [wr_ap _ _ _ _ _ _ (by omega)]; exact r66) rfl (by rw [wr_ap _ _ _ _ _ _ (by omega)]; exact r67) _ ?_
      exact f127_two scr L F (d + 1) Ix Jx (wr M1 36 44 (nI g)) s n a (by omega) (by rw [wr_ap _ _ _ _ _ _ (by omega), hE.2.1 46 (by omega) (by omega)]; exact p3) (by omega) ta u (by rw [wr_ap _ _ _ _ _ _ (by omega), hE.2.2.1]; exact p6) v (by rw [wr_n2 _ _ _ _ _ (by omega)]; exact r60) o ho ho2 (by rw [wr_ap _ _ _ _ _ _ (by omega), hE.2.1 41 (by omega) (by omega)]; exact b1) (ka scr L F (d + 10) Ix Jx _ (fun z hz => by rw [wr_ne _ _ _ _ _ (by omega)]; exact hE.2.1 z (by omega) (by omega)) (fun y hy => by rw [wr_n2 _ _ _ _ _ (by omega)]; exact hE.2.2.2 y hy)) (2 * nI q) (by rw [wr_ap _ _ _ _ _ _ (by omega), hE.2.1 42 (by omega) (by omega), h42]) v2 M2 (s10 scr L F (d + 6) Ix Jx) hD2.1.2.2.2.2.1.2.1 g s4 (by omega) (nI b) (by rw [s2.1.2.1 47 (by omega) (by omega), hE.2.1 47 (by omega) (by omega)]; exact l3)
  have hE3 := hF3.1
  have o3 : ¬ M 41 n = 3 := by
    intro z
    rw [b1, ← nI_3] at z
    have := nI_inj (by omega) (by omega) z
    omega
  have hs1 : C ≤ C1 := q5.2.1.1.2.2.2
  have tw0 := tw_F (hE3.1 6 (by omega) (by omega)) (fun z y1 y2 => hE3.2.1 z (by omega) (by omega)) h w2 b k6
  have en0 : env (wr (wr (psM M2 g (nI n) 2 (nI s) (nI v2)) 36 58 (nI b)) 36 59 (nI s)) fn1 b s := env_X (C := C) (hE3.2.1 41 (by omega) (by omega)) (hE3.2.1 45 (by omega) (by omega)) q5.2.1.2.2.2.2.1 hs (env_part henv l9 l2 o3)
  rcases ih _ _ _ Sg1 fn1 V2 W2 K1 C1 P1 S2 (st1 + 1) (sr1 + 1) b qb s (fr + 1) (g + 1) w2 tb hD3 (PR_F hE3 hR) (LTs_F hF3 hL) (hF3.2.2.2.1 hS) l1 tw0 (by rw [hE3.2.1 42 (by omega) (by omega)]; exact l4) l5 (by rw [hE3.2.2.1]; exact l6) l7 y1 y2 (by rw [y3, t21]; exact r15) (by rw [y4, t21]; exact r6) z1 z2 z3 en0 (by omega) (by omega) (by omega) (by omega) (by omega) (by omega) (by omega) (by omega) (by omega) with z | z
  · exact .inl (rX_go hE3 hF3.2.2.2.1 (rN_trans q6 hN3) (by omega) (by omega) z)
  · right
    obtain ⟨I4, J4, M4, Sg4, fn4, V4, W4, K4, C4, P4, S4, st4, sr4, x4, v4, f1, f2, f3, f4, f5, f6, f7, f8, f9, f10, f11⟩ := z
    have hF := rF_trans hF3 f2 (Nat.le_succ _) (Nat.le_succ _)
    obtain ⟨a1, a2, a3⟩ := f2.2.2.2.2.1 fr (by omega)
    obtain ⟨c1, c2, c3, c4⟩ := f2.2.2.2.2.2 g (by omega)
    refine ⟨I4, J4, M4, Sg4, fn4, V4, W4, K4, C4, P4, S4, st4, sr4, x2, v2, x4, v4, f1, PR_F hF.1 hR, LTs_F hF hL, hF.2.2.2.1 hS, hF, rN_trans (rN_trans q6 hN3) f3, f4, f5, f6, f7, VR_X f2.2.1 (VR_X (ext_m hm) s5), s6, ⟨?_, ?_, ?_⟩, ⟨c1.trans z4, c2.trans z5, c4.trans z6⟩, by omega, by omega, by omega, f11⟩
    · rw [a1, y5 30 (by omega), t30]
      exact r30
    · rw [a2, y5 31 (by omega), t31]
      exact r31
    · rw [a3, wrJ_s]

