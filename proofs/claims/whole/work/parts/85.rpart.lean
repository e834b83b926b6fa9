/-! Running: a part is entered, and gives its value; the cast of it. -/
theorem enter_w {N c fu : Nat} {I : am_I} {J : am_J} {M : am_I} {Sg fn : Nat → Nat} {V W K C P : Nat} {S : List am_T} {st sr : Nat} {n q s fr g o qa a : Nat} (hD : DR I J M Sg fn N c V W K C fu P S) (hn : n < 101) (hq : q < 100) (h41 : M 41 n = nI o) (h7 : I 7 q = nI o) (ho : 4 ≤ o) (ho2 : o ≤ 13) (h46 : M 46 n = nI a) (h9 : I 9 q = nI qa) (i16 : I 21 16 = 0) (i14 : I 21 14 = nI q) (i15 : I 21 15 = nI s) (i6 : I 21 6 = nI fr) (m58 : M 36 58 = nI n) (m59 : M 36 59 = nI s) (m44 : M 36 44 = nI g) (hfr : fr < 820) (hg : g < 1300) (hst : st ≤ 99000) (hsr : sr ≤ 99000) : ∃ (I1 M1 : am_I), DR I1 J M1 Sg fn N c V W K C fu P S ∧ rF fr g I I1 J J M M1 Sg Sg fn fn V V W W K K C C S S ∧ rN I I1 J J M M1 st (st + 1) sr (sr + 1) ∧ (I1 21 16 = 0 ∧ I1 21 14 = nI qa ∧ I1 21 15 = nI s ∧ I1 21 6 = nI (fr + 1)) ∧ (M1 36 58 = nI a ∧ M1 36 59 = nI s ∧ M1 36 44 = nI (g + 1)) ∧ (I1 30 fr = nI q ∧ I1 31 fr = nI s) ∧ (M1 65 g = nI n ∧ M1 66 g = 1 ∧ M1 67 g = nI s) := by
  have c12 := hD.1.2.2.2.2.1.2.2
  have c7 := hD.1.2.2.2.2.1.1
  have c51 := hD.1.2.2.2.2.1.2.1
  have hm : mF I (wr (wr (wr (wr I 30 fr (nI q)) 31 fr (nI s)) 21 6 (nI (fr + 1))) 21 14 (nI qa)) J J M (wr (psM M g (nI n) 1 (nI s) 0) 36 58 (nI a)) := by
    refine ⟨fun z a b d => ?_, fun y a => ?_, fun _ _ _ => rfl, fun z a b => ?_, fun y a b d e => ?_⟩
    · rw [wr_ne _ _ _ _ _ a, wr_ne _ _ _ _ _ a, wr_ne _ _ _ _ _ d, wr_ne _ _ _ _ _ b]
    · rw [wr_n2 _ _ _ _ _ (by omega), wr_n2 _ _ _ _ _ (by omega), wr_ap _ _ _ _ _ _ (by omega), wr_ap _ _ _ _ _ _ (by omega)]
    · rw [wr_ne _ _ _ _ _ a]
      unfold psM
      rw [va_up_ne _ _ a, va_up_ne _ _ (by omega), va_up_ne _ _ (by omega), va_up_ne _ _ (by omega), va_up_ne _ _ (by omega)]
    · rw [wr_n2 _ _ _ _ _ b]
      simp [psM, va_up, upd, a]
  refine ⟨_, _, DR_m hm hD, rF_m hm (fun j hj => ?_) (fun j hj => ?_), rN_1 (fun scr L F d Mx mo A R z => ?_) (fun scr L F d Ix Jx mo A R z => ?_), ⟨?_, wr_s _ _ _ _, ?_, ?_⟩, ⟨wr_s _ _ _ _, ?_, ?_⟩, ⟨?_, ?_⟩, ⟨?_, ?_, ?_⟩⟩
  · have hj2 : ¬ j = fr := by omega
    refine ⟨?_, ?_, rfl⟩
    · rw [wr_ap _ _ _ _ _ _ (by omega), wr_ap _ _ _ _ _ _ (by omega), wr_ap _ _ _ _ _ _ (by omega), wr_n2 _ _ _ _ _ hj2]
    · rw [wr_ap _ _ _ _ _ _ (by omega), wr_ap _ _ _ _ _ _ (by omega), wr_n2 _ _ _ _ _ hj2, wr_ap _ _ _ _ _ _ (by omega)]
  · have hj2 : ¬ j = g := by omega
    rw [wr_ap _ _ _ _ _ _ (by omega), wr_ap _ _ _ _ _ _ (by omega), wr_ap _ _ _ _ _ _ (by omega), wr_ap _ _ _ _ _ _ (by omega)]
    simp [psM, va_up, upd, hj2]
  · exact x_enter scr L F d I J Mx mo st (by omega) c12 i16 _ _ (c34_wait scr L F (d + 2) I J Mx q i14 hq o ho ho2 h7 fr i6 hfr (nI s) i15 (nI qa) h9) (by rw [wr_ap _ _ _ _ _ _ (by omega), wr_ap _ _ _ _ _ _ (by omega), wr_ap _ _ _ _ _ _ (by omega), wr_ap _ _ _ _ _ _ (by omega)]; exact c7) A R z
  · exact y_enter scr L F d Ix Jx M mo sr (by omega) c51 n hn m58 _ (e123_wait scr L F (d + 4) Ix Jx M n m58 hn o ho ho2 h41 (nI s) m59 g m44 hg (nI a) h46) A R z
  · rw [wr_n2 _ _ _ _ _ (by omega), wr_n2 _ _ _ _ _ (by omega), wr_ap _ _ _ _ _ _ (by omega), wr_ap _ _ _ _ _ _ (by omega)]
    exact i16
  · rw [wr_n2 _ _ _ _ _ (by omega), wr_n2 _ _ _ _ _ (by omega), wr_ap _ _ _ _ _ _ (by omega), wr_ap _ _ _ _ _ _ (by omega)]
    exact i15
  · rw [wr_n2 _ _ _ _ _ (by omega), wr_s]
  · rw [wr_n2 _ _ _ _ _ (by omega)]
    simp [psM, va_up, upd, m59]
  · rw [wr_n2 _ _ _ _ _ (by omega)]
    simp [psM, va_up, upd]
  · rw [wr_ap _ _ _ _ _ _ (by omega), wr_ap _ _ _ _ _ _ (by omega), wr_ap _ _ _ _ _ _ (by omega), wr_s]
  · rw [wr_ap _ _ _ _ _ _ (by omega), wr_ap _ _ _ _ _ _ (by omega), wr_s]
  · rw [wr_ap _ _ _ _ _ _ (by omega)]
    simp [psM, va_up, upd]
  · rw [wr_ap _ _ _ _ _ _ (by omega)]
    simp [psM, va_up, upd]
  · rw [wr_ap _ _ _ _ _ _ (by omega)]
    simp [psM, va_up, upd]
/-- the first part's value -/
theorem ev_a {N c fu φ h : Nat} (ih : Ev N c fu φ h) {I : am_I} {J : am_J} {M : am_I} {Sg fn : Nat → Nat} {V W K C P : Nat} {S : List am_T} {st sr : Nat} (n q s fr g w t : Nat) (hD : DR I J M Sg fn N c V W K C fu P S) (hR : PR I M N c) (hL : LTs M N S) (hS : SI I) (hn : n < N) (htw : tw I M N c (h + 1) w n) (h42 : M 42 n = nI q) (hq : q < 100) (h71 : M 71 n = nI t) (ht : t < c) (i16 : I 21 16 = 0) (i14 : I 21 14 = nI q) (i15 : I 21 15 = nI s) (i6 : I 21 6 = nI fr) (m58 : M 36 58 = nI n) (m59 : M 36 59 = nI s) (m44 : M 36 44 = nI g) (henv : env M fn n s) (hs : s ≤ C) (hφ : fu - C ≤ φ) (hw : w ≤ 100) (hfr : fr + (h + 1) ≤ 20 * (C + 1)) (hg : g + (h + 1) ≤ 20 * (C + 1)) (hB : 4 * (S.length + 2 * (200 - W) + 2 * (40 - K) + 2 * (40 - C)) + 100 * (40 - C) + w ≤ 9160) (hst : st + 2000 * (40 - C) + 10 * w ≤ 99000) (hsr : sr + 2000 * (40 - C) + 10 * w ≤ 99000) (hP : P ≤ st) {o a qa ta w1 : Nat} (h41 : M 41 n = nI o) (h7 : I 7 q = nI o) (ho : 4 ≤ o) (ho2 : o ≤ 13) (ha : a < N) (na : n < a) (h46 : M 46 n = nI a) (a42 : M 42 a = nI qa) (hqa : qa < 100) (a71 : M 71 a = nI ta) (hta : ta < c) (h9 : I 9 q = nI qa) (a45 : M 45 a = nI n) (atw : tw I M N c h w1 a) (hw1 : w1 + 1 ≤ w) : rX I J M st sr ∨ ∃ (I1 : am_I) (J1 : am_J) (M1 : am_I) (Sg1 fn1 : Nat → Nat) (V1 W1 K1 C1 P1 : Nat) (S1 : List am_T) (st1 sr1 : Nat) (x : Int64) (v : Nat), DR I1 J1 M1 Sg1 fn1 N c V1 W1 K1 C1 fu P1 S1 ∧ PR I1 M1 N c ∧ LTs M1 N S1 ∧ SI I1 ∧ rF fr g I I1 J J1 M M1 Sg Sg1 fn fn1 V V1 W W1 K K1 C C1 S S1 ∧ rN I I1 J J1 M M1 st st1 sr sr1 ∧ (I1 21 16 = 1 ∧ I1 21 14 = nI qa ∧ I1 21 15 = nI s ∧ I1 21 6 = nI (fr + 1) ∧ J1 21 17 = x) ∧ (M1 36 58 = -1 ∧ M1 36 60 = nI v ∧ M1 36 44 = nI (g + 1)) ∧ VR M1 Sg1 fn1 N c V1 W1 K1 C1 v x ta ∧ v < 2300 ∧ (I1 30 fr = nI q ∧ I1 31 fr = nI s) ∧ (M1 65 g = nI n ∧ M1 66 g = 1 ∧ M1 67 g = nI s) ∧ (4 * (S1.length + 2 * (200 - W1) + 2 * (40 - K1) + 2 * (40 - C1)) + 100 * (40 - C1) + 1 ≤ 4 * (S.length + 2 * (200 - W) + 2 * (40 - K) + 2 * (40 - C)) + 100 * (40 - C) + w1 ∧ st1 + 2000 * (40 - C1) ≤ st + 1 + 2000 * (40 - C) + 10 * w1 ∧ sr1 + 2000 * (40 - C1) ≤ sr + 1 + 2000 * (40 - C) + 10 * w1 ∧ P1 ≤ st1) := by
  have hN := hR.1
  have hC := hD.1.2.2.2.1
  obtain ⟨I0, M0, d1, d2, d3, ⟨e1, e2, e3, e4⟩, ⟨e5, e6, e7⟩, ⟨e8, e9⟩, e10, e11, e12⟩ := enter_w (st := st) (sr := sr) hD (by omega) hq h41 h7 ho ho2 h46 h9 i16 i14 i15 i6 m58 m59 m44 (by omega) (by omega) (by omega) (by omega)
  have hE0 := d2.1
  have hR0 := PR_F hE0 hR
  have o3 : ¬ M 41 n = 3 := by
    intro z
    rw [h41, ← nI_3] at z
    have := nI_inj (by omega) (by omega) z
    omega
  have z42 := hE0.2.1 42 (by omega) (by omega)
  have z41 := hE0.2.1 41 (by omega) (by omega)
  have z45 := hE0.2.1 45 (by omega) (by omega)
  have tw0 := tw_F (hE0.1 6 (by omega) (by omega)) (fun z y1 y2 => hE0.2.1 z (by omega) (by omega)) h w1 a atw
  have en0 : env M0 fn a s := env_X (C := C) z41 z45 (fun _ _ _ => rfl) hs (env_part henv a45 na o3)
  rcases ih I0 J M0 Sg fn V W K C P S (st + 1) (sr + 1) a qa s (fr + 1) (g + 1) w1 ta d1 hR0 (LTs_F d2 hL) (d2.2.2.2.1 hS) ha tw0 (by rw [z42]; exact a42) hqa (by rw [hE0.2.2.1]; exact a71) hta e1 e2 e3 e4 e5 e6 e7 en0 hs hφ (by omega) (by omega) (by omega) (by omega) (by omega) (by omega) (by omega) with z | z
  · exact .inl (rX_go hE0 d2.2.2.2.1 d3 (by omega) (by omega) z)
  · right
    obtain ⟨I1, J1, M1, Sg1, fn1, V1, W1, K1, C1, P1, S1, st1, sr1, x, v, f1, f2, f3, f4, f5, f6, f7, f8⟩ := z
    have hF := rF_trans d2 f2 (Nat.le_succ _) (Nat.le_succ _)
    obtain ⟨y1, y2, y3⟩ := f2.2.2.2.2.1 fr (by omega)
    obtain ⟨x1, x2, x3, x4⟩ := f2.2.2.2.2.2 g (by omega)
    exact ⟨I1, J1, M1, Sg1, fn1, V1, W1, K1, C1, P1, S1, st1, sr1, x, v, f1, PR_F hF.1 hR, LTs_F hF hL, hF.2.2.2.1 hS, hF, rN_trans d3 f3, f4, f5, f6, f7, ⟨y1.trans e8, y2.trans e9⟩, ⟨x1.trans e10, x2.trans e11, x3.trans e12⟩, f8⟩
/-- the cast of a part's value -/
theorem cast_a {N c fu : Nat} {I : am_I} {J : am_J} {M : am_I} {Sg fn : Nat → Nat} {V W K C P : Nat} {S : List am_T} {q qa fr ta u v : Nat} {x : Int64} (hD : DR I J M Sg fn N c V W K C fu P S) (i14 : I 21 14 = nI qa) (hqa : qa < 100) (i6 : I 21 6 = nI (fr + 1)) (hfr : fr < 820) (i30 : I 30 fr = nI q) (j17 : J 21 17 = x) (i15 : I 15 qa = nI (tm ta)) (i16 : I 16 qa = nI (tm u)) (ht : ta < c) (hu : u < c) (hcs : CS M ta u) (hv : VR M Sg fn N c V W K C v x ta) (hv2 : v < 2300) (hB : S.length + 2 * (200 - W) ≤ 2290) (hpd : u = 2 → pd M S v ta) :
    (∃ (x' : Int64) (v' V' W' : Nat) (I' : am_I) (J' : am_J) (M' : am_I) (S' : List am_T), DR I' J' M' Sg fn N c V' W' K C fu P S' ∧ VR M' Sg fn N c V' W' K C v' x' u ∧ ext M M' Sg Sg fn fn V V' W W' K K C C ∧ cF I I' J J' M M' ∧ v' < 2300 ∧ S'.length + 2 * (200 - W') ≤ S.length + 2 * (200 - W) ∧ (∀ τ, τ ∈ S → τ ∈ S') ∧ (pd M S v ta → pd M' S' v' u) ∧ (∀ (scr : Nat → Int32) (L F d : Nat) (Mx : am_I), am_r scr L (F + 200000) (d + 10) 39 [.ref 22] (hp I J Mx) = some (some (.int 1), hp I' (wrJ J' 21 17 x') Mx, 0, 0)) ∧ (∀ (scr : Nat → Int32) (L F d : Nat) (Ix : am_I) (Jx : am_J), am_r scr L (F + 200000) (d + 5) 114 [.ref 37, .int (nI v), .int (nI ta), .int (nI u), .int (2 * nI q)] (hp Ix Jx M) = some (some (.int (nI v')), hp Ix Jx M', 0, 0)))
    ∨ (∃ (x' : Int64) (I' M' : am_I), bSt I' M' ∧ cF I I' J J M M' ∧ (∀ (scr : Nat → Int32) (L F d : Nat) (Mx : am_I), am_r scr L (F + 200000) (d + 10) 39 [.ref 22] (hp I J Mx) = some (some (.int 0), hp I' (wrJ J 21 17 x') Mx, 0, 0)) ∧ (∀ (scr : Nat → Int32) (L F d : Nat) (Ix : am_I) (Jx : am_J), am_r scr L (F + 200000) (d + 5) 114 [.ref 37, .int (nI v), .int (nI ta), .int (nI u), .int (2 * nI q)] (hp Ix Jx M) = some (some (.int (nI v)), hp Ix Jx M', 0, 0))) := by
  have hCT := hD.1
  have hc := hD.2.1.2.1
  have hc5 := hD.2.1.1
  have t1 := tm_lt ht (show 3 ≤ c by omega)
  have t2 := tm_lt hu (show 3 ≤ c by omega)
  have m14 : ∀ (scr : Nat → Int32) (L F d : Nat) (Mx : am_I), am_r scr L (F + 200000) (d + 9) 14 [.ref 23, .long (J 21 17), .int (nI (tm ta)), .int (nI (tm u)), .int (2 * nI q)] (hp I J Mx) = some (some (.long (ct I J W x (tm ta) (tm u) (2 * nI q)).1), hp (ct I J W x (tm ta) (tm u) (2 * nI q)).2.1 (ct I J W x (tm ta) (tm u) (2 * nI q)).2.2 Mx, 0, 0) := by
    intro scr L F d Mx
    have := m_14 scr L (F + 199500) (d + 6) I J Mx W (tm ta) (tm u) x (2 * nI q) hCT.2.1.1 hCT.2.1.2.2 (by omega) (by omega)
    rw [show F + 199500 + 500 = F + 200000 by omega, show d + 6 + 3 = d + 9 by omega] at this
    rw [j17]
    exact this
  rcases cast_ok (2 * nI q) hD hv ht hu hcs hB hpd hv2 with ⟨x1, v1, V1, W1, I1, J1, M1, S1, c1, c2, c3, c4, c5, c6, c7, c8, c9, c10, c11⟩ | ⟨x1, I1, M1, c1, c2, c3⟩
  · refine .inl ⟨x1, v1, V1, W1, I1, J1, M1, S1, c3, c4, c5, c6, c7, c8, c9, c10, fun scr L F d Mx => ?_, c2⟩
    have k := m14 scr L F d Mx
    rw [c1] at k
    exact c39_g scr L F (d + 2) I J Mx qa i14 hqa fr i6 hfr _ _ _ i15 i16 (by rw [i30]) x1 I1 J1 k c3.1.2.2.2.2.1.1
  · obtain ⟨e1, e2⟩ := cBad_st (J := J) c2
    obtain ⟨e3, e4⟩ := bSt_n e1
    refine .inr ⟨x1, I1, M1, e1, e2, fun scr L F d Mx => ?_, c3⟩
    have k := m14 scr L F d Mx
    rw [c1] at k
    exact c39_f scr L F (d + 2) I J Mx qa i14 hqa fr i6 hfr _ _ _ i15 i16 (by rw [i30]) x1 I1 J k e3
theorem mF_pop (I : am_I) (J : am_J) (M : am_I) (r : Int32) : mF I I J J M (wr M 36 44 r) := ⟨fun _ _ _ _ => rfl, fun _ _ => rfl, fun _ _ _ => rfl, fun z a _ => wr_ne M 36 44 z r a, fun y a _ _ _ => wr_n2 M 36 44 y r a⟩
theorem rF_pop {fr g : Nat} {I : am_I} {J : am_J} {M : am_I} {Sg fn : Nat → Nat} {V W K C : Nat} {S : List am_T} (r : Int32) : rF fr g I I J J M (wr M 36 44 r) Sg Sg fn fn V V W W K K C C S S := rF_m (mF_pop I J M r) (fun _ _ => ⟨rfl, rfl, rfl⟩) (fun _ _ => by rw [wr_ap _ _ _ _ _ _ (by omega), wr_ap _ _ _ _ _ _ (by omega), wr_ap _ _ _ _ _ _ (by omega), wr_ap _ _ _ _ _ _ (by omega)]; exact ⟨rfl, rfl, rfl, rfl⟩)
theorem mF_fin (I : am_I) (J : am_J) (M : am_I) (fr : Nat) (x : Int64) (r : Int32) : mF I (fiI I fr) J (wrJ J 21 17 x) M (gvM M r) := by
  refine ⟨fun z a b d => ?_, fun y a => ?_, fun z a b => wrJ_ne J 21 17 z x a, fun z a b => ?_, fun y a b d e => ?_⟩
  · unfold fiI
    rw [va_up_ne _ _ a]
  · rcases a with a | a | a | a <;> subst a <;> simp [fiI, va_up, upd]
  · unfold gvM
    rw [va_up_ne _ _ a]
  · simp [gvM, va_up, upd, b, e]
theorem rF_fin {fr g : Nat} {I : am_I} {J : am_J} {M : am_I} {Sg fn : Nat → Nat} {V W K C : Nat} {S : List am_T} (f : Nat) (x : Int64) (r : Int32) : rF fr g I (fiI I f) J (wrJ J 21 17 x) M (gvM M r) Sg Sg fn fn V V W W K K C C S S := rF_m (mF_fin I J M f x r) (fun _ _ => ⟨rfl, rfl, by rw [wrJ_ne _ _ _ _ _ (by omega)]⟩) (fun _ _ => ⟨rfl, rfl, rfl, rfl⟩)
/-- a node that waited has its value: the last step -/
theorem fin_v {N c fu fr g q s w t : Nat} {I : am_I} {J : am_J} {M : am_I} {Sg fn : Nat → Nat} {V W K C P : Nat} {S : List am_T} {st sr : Nat} {I1 : am_I} {J1 : am_J} {M1 : am_I} {Sg1 fn1 : Nat → Nat} {V1 W1 K1 C1 : Nat} {S1 : List am_T} {st1 sr1 : Nat} {I2 : am_I} {J2 : am_J} {M2 : am_I} {Sg2 fn2 : Nat → Nat} {V2 W2 K2 C2 P2 : Nat} {S2 : List am_T} {x : Int64} {v : Nat} (hF1 : rF fr g I I1 J J1 M M1 Sg Sg1 fn fn1 V V1 W W1 K K1 C C1 S S1) (hN1 : rN I I1 J J1 M M1 st st1 sr sr1) (hF2 : rF fr g I1 I2 J1 J2 M1 M2 Sg1 Sg2 fn1 fn2 V1 V2 W1 W2 K1 K2 C1 C2 S1 S2) (hD2 : DR I2 J2 M2 Sg2 fn2 N c V2 W2 K2 C2 fu P2 S2) (i15 : I2 21 15 = nI s) (i30 : I2 30 fr = nI q) (m44 : M2 36 44 = nI g) (hv : VR M2 Sg2 fn2 N c V2 W2 K2 C2 v x t) (hv2 : v < 2300) (kI : ∀ (scr : Nat → Int32) (L F d : Nat) (Mx : am_I) (mo : Int32) (A : Nat) (R : Option am_X), h31 scr L F d (fiI I2 fr) (wrJ J2 21 17 x) Mx mo (st1 + 1) A R → h31 scr L F d I1 J1 Mx mo st1 (A + 80) R) (kM : ∀ (scr : Nat → Int32) (L F d : Nat) (Ix : am_I) (Jx : am_J) (mo : Int32) (A : Nat) (R : Option am_X), hr1 scr L F d Ix Jx (gvM M2 (nI v)) mo (sr1 + 1) A R → hr1 scr L F d Ix Jx M1 mo sr1 (A + 40) R) (hB : 4 * (S2.length + 2 * (200 - W2) + 2 * (40 - K2) + 2 * (40 - C2)) + 100 * (40 - C2) + 1 ≤ 4 * (S.length + 2 * (200 - W) + 2 * (40 - K) + 2 * (40 - C)) + 100 * (40 - C) + w) (hst : st1 + 1 + 2000 * (40 - C2) ≤ st + 2000 * (40 - C) + 10 * w) (hsr : sr1 + 1 + 2000 * (40 - C2) ≤ sr + 2000 * (40 - C) + 10 * w) (hP : P2 ≤ st1 + 1) : rV N c fu fr g q s w I J M Sg fn V W K C P S st sr t := by
  have hm := mF_fin I2 J2 M2 fr x (nI v)
  refine ⟨fiI I2 fr, wrJ J2 21 17 x, gvM M2 (nI v), Sg2, fn2, V2, W2, K2, C2, P2, S2, st1 + 1, sr1 + 1, x, v, DR_m hm hD2, rF_trans (rF_trans hF1 hF2 (Nat.le_refl _) (Nat.le_refl _)) (rF_fin (fr := fr) (g := g) fr x (nI v)) (Nat.le_refl _) (Nat.le_refl _), rN_trans hN1 (rN_1 kI kM), ⟨?_, ?_, ?_, ?_, wrJ_s _ _ _ _⟩, ⟨?_, ?_, ?_⟩, VR_X (ext_m hm) hv, hv2, hB, hst, hsr, hP⟩
  · simp [fiI, va_up, upd]
  · simp [fiI, va_up, upd, i30]
  · simp [fiI, va_up, upd, i15]
  · simp [fiI, va_up, upd]
  · simp [gvM, va_up, upd]
  · simp [gvM, va_up, upd]
  · simp [gvM, va_up, upd, m44]

