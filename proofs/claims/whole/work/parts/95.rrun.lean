/-! Running: from the start to the end. -/
/-- a value as result tells it -/
def VE (J : am_J) (M : am_I) : Prop := ∃ (v u e : Nat) (ws : List Nat), M 36 55 = nI v ∧ v < 2300 ∧ u < 2300 ∧ ((M 55 v = 6 ∧ M 56 v = nI u ∧ ¬ J 21 17 &&& 8 = 0) ∨ (¬ M 55 v = 6 ∧ u = v ∧ J 21 17 &&& 8 = 0)) ∧ mch (M 55) (M 56) (M 58) ws u e ∧ ws.length ≤ 200 ∧ e < 2300 ∧ ((M 55 e = 0 ∧ v_kd (J 21 17) = 0 ∧ v_ca (J 21 17) = M 56 e) ∨ (M 55 e = 1 ∧ v_kd (J 21 17) = 1 ∧ v_ca (J 21 17) = M 56 e) ∨ (M 55 e = 2 ∧ v_kd (J 21 17) = 2) ∨ (M 55 e = 3 ∧ v_kd (J 21 17) = 3))
theorem VE_B {N c fu : Nat} {I : am_I} {J : am_J} {M : am_I} {Sg fn : Nat → Nat} {V W K C P : Nat} {S : List am_T} {v t : Nat} {x : Int64} (hD : DR I J M Sg fn N c V W K C fu P S) (hV : V ≤ 2300) (h : VB M Sg fn N c V W K C v x t) : x &&& 8 = 0 ∧ ¬ M 55 v = 6 ∧ ∃ (e : Nat) (ws : List Nat), mch (M 55) (M 56) (M 58) ws v e ∧ ws.length ≤ 200 ∧ e < 2300 ∧ ((M 55 e = 0 ∧ v_kd x = 0 ∧ v_ca x = M 56 e) ∨ (M 55 e = 1 ∧ v_kd x = 1 ∧ v_ca x = M 56 e) ∨ (M 55 e = 2 ∧ v_kd x = 2) ∨ (M 55 e = 3 ∧ v_kd x = 3)) := by
  have hb := h
  have h8 := (vb_facts hD.2.1 h).2.2
  obtain ⟨h1, h2, h3⟩ := h
  refine ⟨h8, ?_⟩
  rcases h3 with ⟨z1, z2, z3⟩ | ⟨z1, z2, z3, z4⟩ | ⟨z1, z2, n, q, s, a1, a2, a3, a4, a5, a6, a7, a8, a9, a10⟩ | ⟨z1, z2, k, a1, a2, a3, a4⟩ | ⟨z1, w, a1, a2, a3, a4⟩
  · refine ⟨by rw [z1]; decide, v, [], ⟨rfl, by omega, by rw [z1]; decide⟩, by simp, by omega, .inl ⟨z1, ?_, ?_⟩⟩
    · rw [z3]
      exact of_kd _ 0 (by omega)
    · rw [z3]
      exact of_ca _ 0 (by omega)
  · refine ⟨by rw [z1]; decide, v, [], ⟨rfl, by omega, by rw [z1]; decide⟩, by simp, by omega, .inr (.inl ⟨z1, ?_, ?_⟩)⟩
    · rw [z4]
      exact of_kd _ 1 (by omega)
    · rw [z4]
      exact of_ca _ 1 (by omega)
  · refine ⟨by rw [z1]; decide, v, [], ⟨rfl, by omega, by rw [z1]; decide⟩, by simp, by omega, .inr (.inr (.inl ⟨z1, ?_⟩))⟩
    rw [a9]
    exact of_kd _ 2 (by omega)
  · refine ⟨by rw [z1]; decide, v, [], ⟨rfl, by omega, by rw [z1]; decide⟩, by simp, by omega, .inr (.inr (.inr ⟨z1, ?_⟩))⟩
    rw [a4]
    exact of_kd _ 3 (by omega)
  · refine ⟨by rw [z1]; decide, ?_⟩
    have hk : M 38 t = 3 ∨ M 38 t = 4 := by
      rcases a4 with ⟨y, _⟩ | ⟨y, _⟩
      · exact .inl y
      · exact .inr y
    obtain ⟨ws, ts, e, te, xe, c1, c2, c3, c4, c5, c6, c7, c8, c9⟩ := chain_ex hD hV 200 v x t hb hk (fun _ _ _ z => z)
    have hte : M 38 te = M 38 t := by
      rw [← c7]
      exact (c9 _ (Nat.le_refl _)).2
    have hco := core_of hD hV h1 c5 c1 c2 c3 c4 c8 c9 c7
    refine ⟨e, ws, c2, c5, by have := c3.1; omega, ?_⟩
    obtain ⟨d1, d2, d3⟩ := c3
    have n0 : ∀ z : Nat, z < 3 → M 38 z = nI z := fun z hz => (hD.2.1.2.2.2.2.2.2.1 z hz).2.2.2.2
    rcases a4 with ⟨y1, y2⟩ | ⟨y1, y2⟩
    · rw [y1] at hte
      rcases d3 with ⟨z1, z2, z3⟩ | ⟨z1, z2, z3, z4⟩ | ⟨z1, z2, _⟩ | ⟨z1, z2, _⟩ | ⟨z1, _⟩
      · rw [z2, n0 0 (by omega)] at hte
        exact absurd hte (by decide)
      · rw [z2, n0 1 (by omega)] at hte
        exact absurd hte (by decide)
      · exact .inr (.inr (.inl ⟨z1, by rw [y2]; exact oc_kd _ 2 (by omega)⟩))
      · rw [z2] at hte
        exact absurd hte (by decide)
      · exact absurd z1 c4
    · rw [y1] at hte
      rcases d3 with ⟨z1, z2, z3⟩ | ⟨z1, z2, z3, z4⟩ | ⟨z1, z2, _⟩ | ⟨z1, z2, _⟩ | ⟨z1, _⟩
      · rw [z2, n0 0 (by omega)] at hte
        exact absurd hte (by decide)
      · rw [z2, n0 1 (by omega)] at hte
        exact absurd hte (by decide)
      · rw [z2] at hte
        exact absurd hte (by decide)
      · exact .inr (.inr (.inr ⟨z1, by rw [y2]; exact oc_kd _ 3 (by omega)⟩))
      · exact absurd z1 c4
theorem VE_of {N c fu : Nat} {I : am_I} {J : am_J} {M : am_I} {Sg fn : Nat → Nat} {V W K C P : Nat} {S : List am_T} {v t : Nat} {x : Int64} (hD : DR I J M Sg fn N c V W K C fu P S) (hV : V ≤ 2300) (hv2 : v < 2300) (h : VR M Sg fn N c V W K C v x t) (J' : am_J) (M' : am_I) (hj : J' 21 17 = x) (h55 : M' 55 = M 55) (h56 : M' 56 = M 56) (h58 : M' 58 = M 58) (hm : M' 36 55 = nI v) : VE J' M' := by
  unfold VE
  rw [hj, h55, h56, h58]
  rcases h with ⟨h1, h2⟩ | ⟨h1, h2, h3, v', g, x', h4, h5, h6, h7, h8⟩
  · obtain ⟨a1, a2, e, ws, a3, a4, a5, a6⟩ := VE_B hD hV h2
    exact ⟨v, v, e, ws, hm, hv2, hv2, .inr ⟨a2, rfl, a1⟩, a3, a4, a5, a6⟩
  · obtain ⟨a1, a2, e, ws, a3, a4, a5, a6⟩ := VE_B hD hV h7
    have := h7.1
    refine ⟨v, v', e, ws, hm, hv2, by omega, .inl ⟨h3, h4, by rw [h8]; exact tag_8 x'⟩, a3, a4, a5, ?_⟩
    rw [h8, or_kd _ _ (.inr rfl), or_ca _ _ (.inr rfl)]
    exact a6
/-- a run, on both sides -/
def rO (I I' : am_I) (J' : am_J) (M M' : am_I) (e : Int32) : Prop := sE I I' M M' ∧ SI I' ∧ (e = 1 ∨ e = 2 ∨ e = 3 ∨ e = 4) ∧ I' 21 12 = e ∧ M' 36 51 = e ∧ I' 21 10 = M' 36 49 ∧ I' 21 11 = M' 36 53 ∧ (∃ P : Nat, P < 2 ^ 30 ∧ I' 28 1 = nI P ∧ M' 36 56 = nI P ∧ M' 70 = I' 29) ∧ (e = 2 → I' 22 8 = M' 36 54) ∧ (e = 1 → VE J' M')
theorem st_rows (I M : am_I) (x : Int32) (r : Int32) : (∀ z, ¬ z = 21 → ¬ z = 22 → ¬ z = 28 → stI0 I x z = I z) ∧ (stI0 I x 28 1 = 0 ∧ stI0 I x 22 6 = 0 ∧ stI0 I x 22 7 = 6 ∧ stI0 I x 21 10 = 0 ∧ stI0 I x 21 11 = 0 ∧ stI0 I x 21 12 = 6 ∧ stI0 I x 21 13 = x ∧ stI0 I x 21 6 = 0 ∧ stI0 I x 21 14 = 0 ∧ stI0 I x 21 15 = 0 ∧ stI0 I x 21 16 = 0) ∧ (∀ z, ¬ z = 36 → stM0 M x r z = M z) ∧ (∀ y, y < 31 → stM0 M x r 36 y = M 36 y) ∧ (stM0 M x r 36 31 = 0 ∧ stM0 M x r 36 35 = 0 ∧ stM0 M x r 36 49 = 0 ∧ stM0 M x r 36 53 = 0 ∧ stM0 M x r 36 40 = 0 ∧ stM0 M x r 36 52 = x ∧ stM0 M x r 36 51 = 0 ∧ stM0 M x r 36 56 = 0 ∧ stM0 M x r 36 44 = 0 ∧ stM0 M x r 36 58 = r ∧ stM0 M x r 36 59 = 0) := by
  refine ⟨fun z h1 h2 h3 => ?_, ⟨?_, ?_, ?_, ?_, ?_, ?_, ?_, ?_, ?_, ?_, ?_⟩, fun z h1 => ?_, fun y hy => ?_, ⟨?_, ?_, ?_, ?_, ?_, ?_, ?_, ?_, ?_, ?_, ?_⟩⟩
  · simp [stI0, va_up, h1, h2, h3]
  · simp [stI0, va_up, upd]
  · simp [stI0, va_up, upd]
  · simp [stI0, va_up, upd]
  · simp [stI0, va_up, upd]
  · simp [stI0, va_up, upd]
  · simp [stI0, va_up, upd]
  · simp [stI0, va_up, upd]
  · simp [stI0, va_up, upd]
  · simp [stI0, va_up, upd]
  · simp [stI0, va_up, upd]
  · simp [stI0, va_up, upd]
  · unfold stM0 fgM
    rw [wr_ne _ _ _ _ _ h1, wr_ne _ _ _ _ _ h1, wr_ne _ _ _ _ _ h1, va_up_ne _ _ h1]
  · have q1 : ¬ y = 59 := by omega
    have q2 : ¬ y = 58 := by omega
    have q3 : ¬ y = 52 := by omega
    have q4 : ¬ y = 51 := by omega
    have q5 : ¬ y = 53 := by omega
    have q6 : ¬ y = 49 := by omega
    have q7 : ¬ y = 56 := by omega
    have q8 : ¬ y = 31 := by omega
    have q9 : ¬ y = 35 := by omega
    have q10 : ¬ y = 40 := by omega
    have q11 : ¬ y = 44 := by omega
    simp [stM0, fgM, wr, va_up, upd, q1, q2, q3, q4, q5, q6, q7, q8, q9, q10, q11]
  · simp [stM0, fgM, wr, va_up, upd]
  · simp [stM0, fgM, wr, va_up, upd]
  · simp [stM0, fgM, wr, va_up, upd]
  · simp [stM0, fgM, wr, va_up, upd]
  · simp [stM0, fgM, wr, va_up, upd]
  · simp [stM0, fgM, wr, va_up, upd]
  · simp [stM0, fgM, wr, va_up, upd]
  · simp [stM0, fgM, wr, va_up, upd]
  · simp [stM0, fgM, wr, va_up, upd]
  · simp [stM0, fgM, wr, va_up, upd]
  · simp [stM0, fgM, wr, va_up, upd]
theorem run_ok {I : am_I} {J : am_J} {M : am_I} {N c x : Nat} (hR : PR I M N c) (hN0 : 0 < N) (h42 : M 42 0 = nI 0) (h45 : M 45 0 = -1) (h26 : M 36 26 = nI 0) (h25 : M 36 25 = 1) (hS : SI I) (h70 : M 70 = I 29) (hx : x ≤ 40) : ∃ (I' : am_I) (J' : am_J) (M' : am_I) (e : Int32), rO I I' J' M M' e ∧ (∀ (scr : Nat → Int32) (L F d : Nat) (Mx : am_I), am_r scr L (F + 9000000) (d + 11) 31 [.ref 22, .int (nI x)] (hp I J Mx) = some (some (.int e), hp I' J' Mx, 0, 0)) ∧ (∀ (scr : Nat → Int32) (L F d : Nat) (Ix : am_I) (Jx : am_J), am_r scr L (F + 9000000) (d + 14) 131 [.ref 37, .int (nI x)] (hp Ix Jx M) = some (some (.int e), hp Ix Jx M', 0, 0)) := by
  obtain ⟨i1, ⟨i2, i3, i4, i5, i6, i7, i8, i9, i10, i11, i12⟩, m1, m2, ⟨m3, m4, m5, m6, m7, m8, m9, m10, m11, m12, m13⟩⟩ := st_rows I M (nI x) (nI 0)
  have hE : sE I (stI0 I (nI x)) M (stM0 M (nI x) (nI 0)) := ⟨fun z _ b => i1 z (by omega) (by omega) (by omega), fun z a b => m1 z (by omega), m1 71 (by omega), m2⟩
  have hR0 := PR_F hE hR
  have z0 : nI 0 = (0 : Int32) := nI_0
  obtain ⟨S, hSl, hSm⟩ : ∃ S : List am_T, S.length = N + 2 ∧ LTs M N S := by
    refine ⟨((1 : Int32), (0 : Int32), (0 : Int32)) :: ((1 : Int32), (1 : Int32), (0 : Int32)) :: (List.range N).map (fun m => ((0 : Int32), M 43 m, (0 : Int32))), by simp, fun m hm _ => ?_, by simp, by simp⟩
    refine List.mem_cons_of_mem _ (List.mem_cons_of_mem _ ?_)
    exact List.mem_map.mpr ⟨m, List.mem_range.mpr hm, rfl⟩
  have hD : DR (stI0 I (nI x)) J (stM0 M (nI x) (nI 0)) (fun _ => 0) (fun _ => 0) N c 0 0 0 0 x 0 S := by
    refine ⟨⟨by rw [m3, z0], ⟨by rw [i3, z0], by rw [m4, z0], by omega⟩, ⟨by rw [i5, z0], by rw [m5, z0], by omega⟩, ⟨by rw [i6, z0], by rw [m6, z0], by rw [m7, z0], by omega, hx, i8, m8⟩, ⟨i4, m9, i7⟩, ⟨by rw [i2, z0], by rw [m10, z0], ?_⟩⟩, hR0.2.1, fun w hw => by omega, fun k hk => by omega, fun s h1 h2 => by omega, ⟨fun v hv => by omega, fun v v' h1 => by omega⟩⟩
    rw [m1 70 (by omega), i1 29 (by omega) (by omega) (by omega)]
    exact h70
  have hL : LTs (stM0 M (nI x) (nI 0)) N S := by
    refine ⟨fun m hm z => ?_, hSm.2⟩
    rw [m1 41 (by omega)] at z
    rw [m1 43 (by omega)]
    exact hSm.1 m hm z
  have hS0 : SI (stI0 I (nI x)) := by
    intro s hs
    rw [i1 33 (by omega) (by omega) (by omega)]
    exact hS s hs
  obtain ⟨h, w, hh, hw, htw⟩ := hR0.2.2.2.2.2.1 0 hN0
  have hN := hR.1
  obtain ⟨q, o, t, g1, g2, g3, g4, g5, g6, g7⟩ := hR.2.2.2.2.1 0 hN0
  have hen : env (stM0 M (nI x) (nI 0)) (fun _ => 0) 0 0 := .inl ⟨rfl, 1, .inl (by rw [m1 45 (by omega)]; exact h45)⟩
  have key := ev_all N c x x h hh (stI0 I (nI x)) J (stM0 M (nI x) (nI 0)) (fun _ => 0) (fun _ => 0) 0 0 0 0 0 S 0 0 0 0 0 0 0 w t hD hR0 hL hS0 hN0 htw (by rw [m1 42 (by omega)]; exact h42) (by omega) (by rw [m1 71 (by omega)]; exact g5) g6 i12 (by rw [i10, z0]) (by rw [i11, z0]) (by rw [i9, z0]) m12 (by rw [m13, z0]) (by rw [m11, z0]) hen (by omega) (by omega) hw (by omega) (by omega) (by omega) (by omega) (by omega) (by omega)
  have kI : ∀ (e : Int32) (I' : am_I) (J' : am_J), (∀ (scr : Nat → Int32) (L F d : Nat) (Mx : am_I) (mo : Int32), h31 scr L F d (stI0 I (nI x)) J Mx mo 0 8000900 (some (some (.int e), hp I' J' Mx, 0, 0))) → ∀ (scr : Nat → Int32) (L F d : Nat) (Mx : am_I), am_r scr L (F + 9000000) (d + 11) 31 [.ref 22, .int (nI x)] (hp I J Mx) = some (some (.int e), hp I' J' Mx, 0, 0) := by
    intro e I' J' k scr L F d Mx
    have := c31_go scr L (F + 8800000) d I J Mx (nI x) 8000900 _ (by omega) (k scr L (F + 8800000) d Mx (nI x))
    rw [show F + 8800000 + 200000 = F + 9000000 by omega] at this
    exact this
  have kM : ∀ (e : Int32) (M' : am_I), (∀ (scr : Nat → Int32) (L F d : Nat) (Ix : am_I) (Jx : am_J) (mo : Int32), hr1 scr L F d Ix Jx (stM0 M (nI x) (nI 0)) mo 0 8000900 (some (some (.int e), hp Ix Jx M', 0, 0))) → ∀ (scr : Nat → Int32) (L F d : Nat) (Ix : am_I) (Jx : am_J), am_r scr L (F + 9000000) (d + 14) 131 [.ref 37, .int (nI x)] (hp Ix Jx M) = some (some (.int e), hp Ix Jx M', 0, 0) := by
    intro e M' k scr L F d Ix Jx
    have := r131_go scr L (F + 8800000) d Ix Jx M x hx h25 (nI 0) h26 8000900 _ (by omega) (k scr L (F + 8800000) d Ix Jx (nI x))
    rw [show F + 8800000 + 200000 = F + 9000000 by omega] at this
    exact this
  rcases key with ⟨I', J', M', e, P, ⟨a1, a2, a3, a4, a5, a6, a7, a8, a9, a10, a11, a12⟩, b1, b2⟩ | ⟨I', J', M', Sg', fn', V', W', K', C', P', S', st', sr', xv, v, f1, f2, f3, ⟨e16, e14, e15, e6, e17⟩, ⟨e58, e60, e44⟩, f6, f7, f8, f9, f10, f11⟩
  · refine ⟨I', J', M', e, ⟨sE_trans hE a1, a2 hS0, .inr a3, a4, a5, a6, a7, ⟨P, a10, a8, a9, a11⟩, a12, fun z => ?_⟩, kI e I' J' (fun scr L F d Mx mo => h31_le (by omega) (b1 scr L F d Mx mo)), kM e M' (fun scr L F d Ix Jx mo => hr1_le (by omega) (b2 scr L F d Ix Jx mo))⟩
    rcases a3 with y | y | y <;> rw [y] at z <;> exact absurd z (by decide)
  · have hCT := f1.1
    have n16 : ¬ (1 : Int32) = 6 := by decide
    have n10 : ¬ (1 : Int32) = 0 := by decide
    have hC' := hCT.2.2.2.1
    have hm : rkI I' (wr I' 21 12 1) := rkI_w I' 12 1 (by omega) (by omega)
    have hm2 : rkM M' (wr (wr M' 36 55 (nI v)) 36 51 1) := rkM_trans (rkM_w M' 55 (nI v) (by omega)) (rkM_w _ 51 1 (by omega))
    have hpg := pigeon (row M') V' S' f1.2.2.2.2.2.1 f1.2.2.2.2.2.2
    refine ⟨wr I' 21 12 1, J', wr (wr M' 36 55 (nI v)) 36 51 1, 1, ⟨sE_trans hE (sE_trans f2.1 (sE_k hm hm2)), SI_k hm (f2.2.2.2.1 hS0), .inl rfl, wr_s _ _ _ _, wr_s _ _ _ _, ?_, ?_, ⟨P', by omega, ?_, ?_, ?_⟩, fun z => absurd z (by decide), fun _ => ?_⟩, kI 1 _ J' (fun scr L F d Mx mo => ?_), kM 1 _ (fun scr L F d Ix Jx mo => ?_)⟩
    · rw [hm.2 10 (by omega), hm2.2 49 (by omega), hCT.2.2.1.1, hCT.2.2.1.2.1]
    · rw [hm.2 11 (by omega), hm2.2 53 (by omega), hC'.1, hC'.2.1]
    · rw [hm.1 28 (by omega)]
      exact hCT.2.2.2.2.2.1
    · rw [hm2.2 56 (by omega)]
      exact hCT.2.2.2.2.2.2.1
    · rw [hm2.1 70 (by omega), hm.1 29 (by omega)]
      exact hCT.2.2.2.2.2.2.2
    · refine VE_of f1 (by omega) f7 f6 J' _ e17 ?_ ?_ ?_ ?_
      · rw [wr_ne _ _ _ _ _ (by omega), wr_ne _ _ _ _ _ (by omega)]
      · rw [wr_ne _ _ _ _ _ (by omega), wr_ne _ _ _ _ _ (by omega)]
      · rw [wr_ne _ _ _ _ _ (by omega), wr_ne _ _ _ _ _ (by omega)]
      · rw [wr_n2 _ _ _ _ _ (by omega), wr_s]
    · have k1 := x_end scr L F d (wr I' 21 12 1) J' Mx mo (st' + 1) (by omega) 1 (wr_s _ _ _ _) n16
      have k2 := x_val scr L F d I' J' Mx mo st' (by omega) hCT.2.2.2.2.1.2.2 e16 (by rw [e6, z0]) hCT.2.2.2.2.1.1 _ _ k1
      exact h31_le (by omega) (f3.2.1 scr L F d Mx mo _ _ k2)
    · have k1 := y_end scr L F d Ix Jx (wr (wr M' 36 55 (nI v)) 36 51 1) mo (sr' + 1) (by omega) 1 (wr_s _ _ _ _) n10
      have k2 := y_come scr L F d Ix Jx M' mo sr' (by omega) hCT.2.2.2.2.1.2.1 e58 _ (o130_end scr L F d Ix Jx M' (by rw [e44, z0]) (nI v) e60) _ _ k1
      exact hr1_le (by omega) (f3.2.2 scr L F d Ix Jx mo _ _ k2)

