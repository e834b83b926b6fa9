/-! Running: what has one part (I). -/
theorem DR_N {N c fu : Nat} {I : am_I} {J : am_J} {M : am_I} {Sg fn : Nat → Nat} {V W K C P : Nat} {S : List am_T} {I' : am_I} {J' : am_J} {M' : am_I} {Sg' fn' : Nat → Nat} {K' C' P' : Nat} (h : DR I J M Sg fn N c V W K C fu P S) (hC : CT I' M' V W K' C' fu P') (he : ext M M' Sg Sg' fn fn' V V W W K K' C C') (hI : ∀ z, z ≤ 6 ∨ (24 ≤ z ∧ z ≤ 26) → I' z = I z) (hJ : J' 23 = J 23) (h36 : ∀ y, y = 2 ∨ y = 6 ∨ y = 7 → M' 36 y = M 36 y) (hk : ∀ k, k < K' → (k < K ∧ M' 69 k = M 69 k ∧ J' 35 k = J 35 k) ∨ CEk J' M' Sg' fn' N c V W K' C' S k) (hs : ∀ s, 1 ≤ s → s ≤ C' → (s ≤ C ∧ I' 33 s = I 33 s ∧ J' 34 s = J 34 s ∧ M' 62 s = M 62 s ∧ M' 63 s = M 63 s ∧ M' 64 s = M 64 s) ∨ SCk I' J' M' Sg' fn' N c V W K' C' s) : DR I' J' M' Sg' fn' N c V W K' C' fu P' S := by
  obtain ⟨a1, hR, hw, hkk, hss, hTB⟩ := h
  have e9 := he.2.2.2.2.2
  have m38 : M' 38 = M 38 := e9 38 (by omega)
  have m39 : M' 39 = M 39 := e9 39 (by omega)
  have m40 : M' 40 = M 40 := e9 40 (by omega)
  have hR' : tyR I' M' c := tyR_congr (hI 2 (by omega)) (hI 3 (by omega)) (hI 4 (by omega)) (hI 5 (by omega)) (hI 6 (by omega)) (h36 2 (by omega)) (h36 6 (by omega)) (h36 7 (by omega)) m38 m39 m40 hR
  have tAe : ∀ t, tA M' t = tA M t := by
    intro t
    unfold tA
    rw [m39]
  refine ⟨hC, hR', fun w hw1 => ?_, fun k hk1 => ?_, fun s s1 s2 => ?_, ⟨fun v hv => ?_, fun v v' h1 h2 h3 => ?_⟩⟩
  · obtain ⟨a, b, v, b1, b2, b3, b4, b5, b6, b7, b8, b9, b10, b11, b12, b13⟩ := hw w hw1
    obtain ⟨e1, e2, e3, e4⟩ := he.2.2.1 w hw1
    obtain ⟨r1, r2, r3⟩ := he.2.1 v b10.1
    refine ⟨a, b, v, e2.trans b1, e3.trans b2, b3, b4, b5, by rw [hI 24 (by omega)]; exact b6, by rw [hI 25 (by omega)]; exact b7, by rw [hI 26 (by omega), e4]; exact b8, e1.trans b9, by rw [hJ]; exact VB_X he b10, ?_, by rw [m38]; exact b12, by rw [r1, r2]; exact b13⟩
    obtain ⟨k, hk⟩ := b11
    exact ⟨k, by rw [cn_M m38 m39 m40]; exact hk⟩
  · rcases hk k hk1 with ⟨z1, z2, z3⟩ | z
    · obtain ⟨b1, b2, v, b3, b4, b5⟩ := hkk k z1
      have es := he.2.2.2.1 k z1
      refine ⟨by rw [m38, es]; exact b1, by rw [es]; exact b2, v, z2.trans b3, ?_, ?_⟩
      · rw [tAe, z3, es]
        exact VR_X he b4
      · rw [tAe, es]
        exact pd_X m38 (fun _ y => y) b5
    · exact z
  · rcases hs s s1 s2 with ⟨z1, z2, z3, z4, z5, z6⟩ | z
    · obtain ⟨b1, b2, b3, ⟨t, v, b4, b5, b6, b7⟩, s', b8, b9, b10, b11⟩ := hss s s1 z1
      have ef := he.2.2.2.2.1 s s1 z1
      unfold SCk
      rw [ef, e9 41 (by omega), e9 43 (by omega), e9 44 (by omega)]
      exact ⟨b1, b2, z4.trans b3, ⟨t, v, b4, b5, z5.trans b6, by rw [z3]; exact VR_X he b7⟩, s', z6.trans b8, z2.trans b9, b10, env_X (C := C) (e9 41 (by omega)) (e9 45 (by omega)) he.2.2.2.2.1 (by omega) b11⟩
    · exact z
  · obtain ⟨r1, r2, r3⟩ := he.2.1 v hv
    have : row M' v = row M v := by
      unfold row
      rw [r1, r2, r3]
    rw [this]
    exact hTB.1 v hv
  · obtain ⟨r1, r2, r3⟩ := he.2.1 v h1
    obtain ⟨r4, r5, r6⟩ := he.2.1 v' h2
    refine hTB.2 v v' h1 h2 ?_
    unfold row at h3 ⊢
    rw [r1, r2, r3, r4, r5, r6] at h3
    exact h3
theorem CS_M {M M' : am_I} {t u : Nat} (m38 : M' 38 = M 38) (m39 : M' 39 = M 39) (m40 : M' 40 = M 40) (h : CS M t u) : CS M' t u := by
  obtain ⟨k, hk⟩ := h
  exact ⟨k, by rw [cn_M m38 m39 m40]; exact hk⟩
theorem mF_j (I : am_I) (J : am_J) (M : am_I) (x : Int64) : mF I I J (wrJ J 21 17 x) M M := ⟨fun _ _ _ _ => rfl, fun _ _ => rfl, fun z a _ => wrJ_ne J 21 17 z x a, fun _ _ _ => rfl, fun _ _ _ _ _ => rfl⟩
/-- the first part's value is cast -/
theorem first_c {N c fu : Nat} {I : am_I} {J : am_J} {M : am_I} {Sg fn : Nat → Nat} {V W K C : Nat} {S : List am_T} {st sr : Nat} {I1 : am_I} {J1 : am_J} {M1 : am_I} {Sg1 fn1 : Nat → Nat} {V1 W1 K1 C1 P1 : Nat} {S1 : List am_T} {st1 sr1 : Nat} {n q s fr g o a qa ta u v : Nat} {x : Int64} (hD1 : DR I1 J1 M1 Sg1 fn1 N c V1 W1 K1 C1 fu P1 S1) (hF1 : rF fr g I I1 J J1 M M1 Sg Sg1 fn fn1 V V1 W W1 K K1 C C1 S S1) (hN1 : rN I I1 J J1 M M1 st st1 sr sr1) (i16 : I1 21 16 = 1) (i14 : I1 21 14 = nI qa) (i6 : I1 21 6 = nI (fr + 1)) (j17 : J1 21 17 = x) (m58 : M1 36 58 = -1) (m60 : M1 36 60 = nI v) (m44 : M1 36 44 = nI (g + 1)) (hv : VR M1 Sg1 fn1 N c V1 W1 K1 C1 v x ta) (hv2 : v < 2300) (i30 : I1 30 fr = nI q) (m65 : M1 65 g = nI n) (m66 : M1 66 g = 1) (m67 : M1 67 g = nI s) (hn : n < 101) (hq : q < 100) (h41 : M 41 n = nI o) (h42 : M 42 n = nI q) (h46 : M 46 n = nI a) (ha : a < 101) (hqa : qa < 100) (a71 : M 71 a = nI ta) (hta : ta < c) (a15 : I 15 qa = nI (tm ta)) (a16 : I 16 qa = nI (tm u)) (a8 : I 8 qa = nI q) (hu : u < c) (hcs : CS M ta u) (ka : ∀ (scr : Nat → Int32) (L F d : Nat) (Ix : am_I) (Jx : am_J) (M0 : am_I), (∀ z, (37 ≤ z ∧ z ≤ 54) → M0 z = M z) → (∀ y, y < 31 → M0 36 y = M 36 y) → am_r scr L (F + 200000) (d + 1) 125 [.ref 37, .int (nI n), .int (nI ta)] (hp Ix Jx M0) = some (some (.int (nI u)), hp Ix Jx M0, 0, 0)) (hB : S1.length + 2 * (200 - W1) ≤ 2290) (hpd : u = 2 → pd M1 S1 v ta) (hst : st1 ≤ 99000) (hsr : sr1 ≤ 99000) (hP : P1 ≤ st1) (hfr : fr < 820) (hg : g < 1300) :
    rX I J M st sr ∨ ∃ (I2 : am_I) (J2 : am_J) (M2 : am_I) (V2 W2 : Nat) (S2 : List am_T) (x' : Int64) (v' : Nat), DR I2 J2 M2 Sg1 fn1 N c V2 W2 K1 C1 fu P1 S2 ∧ rF fr g I1 I2 J1 J2 M1 M2 Sg1 Sg1 fn1 fn1 V1 V2 W1 W2 K1 K1 C1 C1 S1 S2 ∧ (I2 21 = I1 21 ∧ I2 30 = I1 30 ∧ I2 31 = I1 31 ∧ J2 21 17 = x' ∧ J2 32 = J1 32) ∧ M2 36 44 = nI g ∧ VR M2 Sg1 fn1 N c V2 W2 K1 C1 v' x' u ∧ v' < 2300 ∧ S2.length + 2 * (200 - W2) ≤ S1.length + 2 * (200 - W1) ∧ (pd M1 S1 v ta → pd M2 S2 v' u) ∧ (∀ (scr : Nat → Int32) (L F d : Nat) (Mx : am_I), am_r scr L (F + 200000) (d + 10) 39 [.ref 22] (hp I1 J1 Mx) = some (some (.int 1), hp I2 J2 Mx, 0, 0)) ∧ (∀ (scr : Nat → Int32) (L F d : Nat) (Ix : am_I) (Jx : am_J), am_r scr L (F + 200000) (d + 5) 114 [.ref 37, .int (nI v), .int (nI ta), .int (nI u), .int (2 * nI q)] (hp Ix Jx (wr M1 36 44 (nI g))) = some (some (.int (nI v')), hp Ix Jx M2, 0, 0)) ∧ rkI I1 I2 ∧ rkM M1 M2 := by
  have hE := hF1.1
  have hm := mF_pop I1 J1 M1 (nI g)
  have hDp := DR_m hm hD1
  have z38 := hE.2.1 38 (by omega) (by omega)
  have z39 := hE.2.1 39 (by omega) (by omega)
  have z40 := hE.2.1 40 (by omega) (by omega)
  have p38 : wr M1 36 44 (nI g) 38 = M1 38 := wr_ne _ _ _ _ _ (by omega)
  have p39 : wr M1 36 44 (nI g) 39 = M1 39 := wr_ne _ _ _ _ _ (by omega)
  have p40 : wr M1 36 44 (nI g) 40 = M1 40 := wr_ne _ _ _ _ _ (by omega)
  have c12 := hD1.1.2.2.2.2.1.2.2
  have c51 := hD1.1.2.2.2.2.1.2.1
  rcases cast_a (q := q) hDp i14 hqa i6 hfr i30 j17 (by rw [hE.1 15 (by omega) (by omega)]; exact a15) (by rw [hE.1 16 (by omega) (by omega)]; exact a16) hta hu (CS_M p38 p39 p40 (CS_M z38 z39 z40 hcs)) (VR_X (ext_m hm) hv) hv2 hB (fun z => pd_X p38 (fun _ y => y) (hpd z)) with ⟨x', v', V2, W2, I2, J2, M2, S2, b1, b2, b3, b4, b5, b6, b7, b8, b9, b10⟩ | ⟨x', I2, M2, b1, b2, b3, b4⟩
  · right
    have hj := mF_j I2 J2 M2 x'
    have z21 : I2 21 = I1 21 := b4.1 21 (by omega) (by omega) (by omega) (by omega) (by omega)
    refine ⟨I2, wrJ J2 21 17 x', M2, V2, W2, S2, x', v', DR_m hj b1, rF_trans (rF_trans (rF_pop (nI g)) (rF_c b4 b3 b7) (Nat.le_refl _) (Nat.le_refl _)) (rF_m (fr := fr) (g := g) hj (fun j _ => ⟨rfl, rfl, by rw [wrJ_ne _ _ _ _ _ (by omega)]⟩) (fun j _ => ⟨rfl, rfl, rfl, rfl⟩)) (Nat.le_refl _) (Nat.le_refl _), ⟨z21, b4.1 30 (by omega) (by omega) (by omega) (by omega) (by omega), b4.1 31 (by omega) (by omega) (by omega) (by omega) (by omega), wrJ_s _ _ _ _, by rw [wrJ_ne _ _ _ _ _ (by omega)]; exact b4.2.2.1 32 (by omega)⟩, ?_, b2, b5, b6, fun z => b8 (pd_X p38 (fun _ y => y) z), b9, b10, rkI_c b4, rkM_trans (rkM_m hm) (rkM_c b4)⟩
    rw [b4.2.2.2.2 44 (by omega) (by omega) (by omega) (by omega), wr_s]
  · left
    have kk := bSt_n b1
    refine rX_go hE hF1.2.2.2.1 hN1 (by omega) (by omega) (rX_bad (J2 := wrJ J1 21 17 x') hD1 b1 rfl rfl rfl (rkI_c b2) (rkM_trans (rkM_m hm) (rkM_c b2)) hP hst hsr (fun scr L F d Mx mo e R e1 e2 z => ?_) (fun scr L F d Ix Jx mo R z => ?_))
    · exact x_cast_s scr L F d I1 J1 Mx mo st1 (by omega) c12 i16 fr qa q i6 hfr i14 hqa i30 hq (by rw [hE.1 8 (by omega) (by omega)]; exact a8) I2 _ (b3 scr L F d Mx) e e1 e2 80 R z
    · refine y_come scr L F d Ix Jx M1 mo sr1 (by omega) c51 m58 _ ?_ 40 R z
      refine o130_first scr L F d Ix Jx M1 g m44 hg n hn (by rw [wr_ap _ _ _ _ _ _ (by omega)]; exact m65) _ (nI s) (by rw [wr_ap _ _ _ _ _ _ (by omega)]; exact m66) rfl (by rw [wr_ap _ _ _ _ _ _ (by omega)]; exact m67) M2 ?_
      refine f127_stop scr L F (d + 1) Ix Jx (wr M1 36 44 (nI g)) s n a hn (by rw [wr_ap _ _ _ _ _ _ (by omega), hE.2.1 46 (by omega) (by omega)]; exact h46) ha ta u (by rw [wr_ap _ _ _ _ _ _ (by omega), hE.2.2.1]; exact a71) v (by rw [wr_n2 _ _ _ _ _ (by omega)]; exact m60) (nI o) (by rw [wr_ap _ _ _ _ _ _ (by omega), hE.2.1 41 (by omega) (by omega)]; exact h41) (ka scr L F (d + 10) Ix Jx _ (fun z hz => by rw [wr_ne _ _ _ _ _ (by omega)]; exact hE.2.1 z (by omega) (by omega)) (fun y hy => by rw [wr_n2 _ _ _ _ _ (by omega)]; exact hE.2.2.2 y hy)) (2 * nI q) (by rw [wr_ap _ _ _ _ _ _ (by omega), hE.2.1 42 (by omega) (by omega), h42]) v M2 (b4 scr L F (d + 6) Ix Jx) kk.2
/-- the last part's value is cast -/
theorem second_c {N c fu : Nat} {I : am_I} {J : am_J} {M : am_I} {Sg fn : Nat → Nat} {V W K C : Nat} {S : List am_T} {st sr : Nat} {I1 : am_I} {J1 : am_J} {M1 : am_I} {Sg1 fn1 : Nat → Nat} {V1 W1 K1 C1 P1 : Nat} {S1 : List am_T} {st1 sr1 : Nat} {n q fr g o a b qa ta tb u v hd : Nat} {x : Int64} (hD1 : DR I1 J1 M1 Sg1 fn1 N c V1 W1 K1 C1 fu P1 S1) (hF1 : rF fr g I I1 J J1 M M1 Sg Sg1 fn fn1 V V1 W W1 K K1 C C1 S S1) (hN1 : rN I I1 J J1 M M1 st st1 sr sr1) (i16 : I1 21 16 = 1) (i14 : I1 21 14 = nI qa) (i6 : I1 21 6 = nI (fr + 1)) (j17 : J1 21 17 = x) (m58 : M1 36 58 = -1) (m60 : M1 36 60 = nI v) (m44 : M1 36 44 = nI (g + 1)) (hv : VR M1 Sg1 fn1 N c V1 W1 K1 C1 v x tb) (hv2 : v < 2300) (i30 : I1 30 fr = nI q) (m65 : M1 65 g = nI n) (m66 : M1 66 g = 2) (m68 : M1 68 g = nI hd) (hn : n < 101) (hq : q < 100) (h41 : M 41 n = nI o) (h42 : M 42 n = nI q) (h46 : M 46 n = nI a) (ha : a < 101) (a71 : M 71 a = nI ta) (h47 : M 47 n = nI b) (hb : b < 101) (hqa : qa < 100) (b71 : M 71 b = nI tb) (hta : tb < c) (a15 : I 15 qa = nI (tm tb)) (a16 : I 16 qa = nI (tm u)) (a8 : I 8 qa = nI q) (hu : u < c) (hcs : CS M tb u) (ka : ∀ (scr : Nat → Int32) (L F d : Nat) (Ix : am_I) (Jx : am_J) (M0 : am_I), (∀ z, (37 ≤ z ∧ z ≤ 54) → M0 z = M z) → (∀ y, y < 31 → M0 36 y = M 36 y) → am_r scr L (F + 200000) (d + 1) 126 [.ref 37, .int (nI n), .int (nI ta)] (hp Ix Jx M0) = some (some (.int (nI u)), hp Ix Jx M0, 0, 0)) (hB : S1.length + 2 * (200 - W1) ≤ 2290) (hpd : u = 2 → pd M1 S1 v tb) (hst : st1 ≤ 99000) (hsr : sr1 ≤ 99000) (hP : P1 ≤ st1) (hfr : fr < 820) (hg : g < 1300) :
    rX I J M st sr ∨ ∃ (I2 : am_I) (J2 : am_J) (M2 : am_I) (V2 W2 : Nat) (S2 : List am_T) (x' : Int64) (v' : Nat), DR I2 J2 M2 Sg1 fn1 N c V2 W2 K1 C1 fu P1 S2 ∧ rF fr g I1 I2 J1 J2 M1 M2 Sg1 Sg1 fn1 fn1 V1 V2 W1 W2 K1 K1 C1 C1 S1 S2 ∧ (I2 21 = I1 21 ∧ I2 30 = I1 30 ∧ I2 31 = I1 31 ∧ J2 21 17 = x' ∧ J2 32 = J1 32) ∧ M2 36 44 = nI g ∧ VR M2 Sg1 fn1 N c V2 W2 K1 C1 v' x' u ∧ v' < 2300 ∧ S2.length + 2 * (200 - W2) ≤ S1.length + 2 * (200 - W1) ∧ (pd M1 S1 v tb → pd M2 S2 v' u) ∧ (∀ (scr : Nat → Int32) (L F d : Nat) (Mx : am_I), am_r scr L (F + 200000) (d + 10) 39 [.ref 22] (hp I1 J1 Mx) = some (some (.int 1), hp I2 J2 Mx, 0, 0)) ∧ (∀ (scr : Nat → Int32) (L F d : Nat) (Ix : am_I) (Jx : am_J), am_r scr L (F + 200000) (d + 5) 114 [.ref 37, .int (nI v), .int (nI tb), .int (nI u), .int (2 * nI q)] (hp Ix Jx (wr M1 36 44 (nI g))) = some (some (.int (nI v')), hp Ix Jx M2, 0, 0)) ∧ rkI I1 I2 ∧ rkM M1 M2 := by
  have hE := hF1.1
  have hm := mF_pop I1 J1 M1 (nI g)
  have hDp := DR_m hm hD1
  have z38 := hE.2.1 38 (by omega) (by omega)
  have z39 := hE.2.1 39 (by omega) (by omega)
  have z40 := hE.2.1 40 (by omega) (by omega)
  have p38 : wr M1 36 44 (nI g) 38 = M1 38 := wr_ne _ _ _ _ _ (by omega)
  have p39 : wr M1 36 44 (nI g) 39 = M1 39 := wr_ne _ _ _ _ _ (by omega)
  have p40 : wr M1 36 44 (nI g) 40 = M1 40 := wr_ne _ _ _ _ _ (by omega)
  have c12 := hD1.1.2.2.2.2.1.2.2
  have c51 := hD1.1.2.2.2.2.1.2.1
  rcases cast_a (q := q) hDp i14 hqa i6 hfr i30 j17 (by rw [hE.1 15 (by omega) (by omega)]; exact a15) (by rw [hE.1 16 (by omega) (by omega)]; exact a16) hta hu (CS_M p38 p39 p40 (CS_M z38 z39 z40 hcs)) (VR_X (ext_m hm) hv) hv2 hB (fun z => pd_X p38 (fun _ y => y) (hpd z)) with ⟨x', v', V2, W2, I2, J2, M2, S2, b1, b2, b3, b4, b5, b6, b7, b8, b9, b10⟩ | ⟨x', I2, M2, b1, b2, b3, b4⟩
  · right
    have hj := mF_j I2 J2 M2 x'
    have z21 : I2 21 = I1 21 := b4.1 21 (by omega) (by omega) (by omega) (by omega) (by omega)
    refine ⟨I2, wrJ J2 21 17 x', M2, V2, W2, S2, x', v', DR_m hj b1, rF_trans (rF_trans (rF_pop (nI g)) (rF_c b4 b3 b7) (Nat.le_refl _) (Nat.le_refl _)) (rF_m (fr := fr) (g := g) hj (fun j _ => ⟨rfl, rfl, by rw [wrJ_ne _ _ _ _ _ (by omega)]⟩) (fun j _ => ⟨rfl, rfl, rfl, rfl⟩)) (Nat.le_refl _) (Nat.le_refl _), ⟨z21, b4.1 30 (by omega) (by omega) (by omega) (by omega) (by omega), b4.1 31 (by omega) (by omega) (by omega) (by omega) (by omega), wrJ_s _ _ _ _, by rw [wrJ_ne _ _ _ _ _ (by omega)]; exact b4.2.2.1 32 (by omega)⟩, ?_, b2, b5, b6, fun z => b8 (pd_X p38 (fun _ y => y) z), b9, b10, rkI_c b4, rkM_trans (rkM_m hm) (rkM_c b4)⟩
    rw [b4.2.2.2.2 44 (by omega) (by omega) (by omega) (by omega), wr_s]
  · left
    have kk := bSt_n b1
    refine rX_go hE hF1.2.2.2.1 hN1 (by omega) (by omega) (rX_bad (J2 := wrJ J1 21 17 x') hD1 b1 rfl rfl rfl (rkI_c b2) (rkM_trans (rkM_m hm) (rkM_c b2)) hP hst hsr (fun scr L F d Mx mo e R e1 e2 z => ?_) (fun scr L F d Ix Jx mo R z => ?_))
    · exact x_cast_s scr L F d I1 J1 Mx mo st1 (by omega) c12 i16 fr qa q i6 hfr i14 hqa i30 hq (by rw [hE.1 8 (by omega) (by omega)]; exact a8) I2 _ (b3 scr L F d Mx) e e1 e2 80 R z
    · refine y_come scr L F d Ix Jx M1 mo sr1 (by omega) c51 m58 _ ?_ 40 R z
      refine o130_second scr L F d Ix Jx M1 g m44 hg n hn (by rw [wr_ap _ _ _ _ _ _ (by omega)]; exact m65) (nI hd) (by rw [wr_ap _ _ _ _ _ _ (by omega)]; exact m66) (by rw [wr_ap _ _ _ _ _ _ (by omega)]; exact m68) M2 ?_
      exact s128_stop scr L F d Ix Jx (wr M1 36 44 (nI g)) n a b hn (by rw [wr_ap _ _ _ _ _ _ (by omega), hE.2.1 46 (by omega) (by omega)]; exact h46) ha (by rw [wr_ap _ _ _ _ _ _ (by omega), hE.2.1 47 (by omega) (by omega)]; exact h47) hb ta tb u (by rw [wr_ap _ _ _ _ _ _ (by omega), hE.2.2.1]; exact a71) (by rw [wr_ap _ _ _ _ _ _ (by omega), hE.2.2.1]; exact b71) v hd (by rw [wr_n2 _ _ _ _ _ (by omega)]; exact m60) (nI o) (by rw [wr_ap _ _ _ _ _ _ (by omega), hE.2.1 41 (by omega) (by omega)]; exact h41) (ka scr L F (d + 10) Ix Jx _ (fun z hz => by rw [wr_ne _ _ _ _ _ (by omega)]; exact hE.2.1 z (by omega) (by omega)) (fun y hy => by rw [wr_n2 _ _ _ _ _ (by omega)]; exact hE.2.2.2 y hy)) (2 * nI q) (by rw [wr_ap _ _ _ _ _ _ (by omega), hE.2.1 42 (by omega) (by omega), h42]) v M2 (b4 scr L F (d + 6) Ix Jx) kk.2
/-- the end of a value's way: the core -/
theorem core_ex {N c fu : Nat} {I : am_I} {J : am_J} {M : am_I} {Sg fn : Nat → Nat} {V W K C P : Nat} {S : List am_T} {f tf : Nat} {fx : Int64} (hD : DR I J M Sg fn N c V W K C fu P S) (hB : S.length ≤ 2290) (hf : VB M Sg fn N c V W K C f fx tf) (hk : M 38 tf = 3 ∨ M 38 tf = 4) : ∃ (e te : Nat) (xe : Int64), core J M Sg fn N c V W K C f fx tf e te xe := by
  have hTB := hD.2.2.2.2.2
  have hV9 := pigeon (row M) V S hTB.1 hTB.2
  obtain ⟨ws, ts, e, te, xe, c1, c2, c3, c4, c5, c6, c7, c8, c9⟩ := chain_ex hD (by omega) 200 f fx tf hf hk (fun _ _ _ z => z)
  exact ⟨e, te, xe, core_of hD (by omega) hf.1 c5 c1 c2 c3 c4 c8 c9 c7⟩

