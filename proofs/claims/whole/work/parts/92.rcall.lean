/-! Running: calls (I). -/
theorem call_M {M5 M6 : am_I} {v2 v5 v6 e nf sf bd C fu g : Nat} (ki : ∀ (scr : Nat → Int32) (L F d : Nat) (Ix : am_I) (Jx : am_J), am_r scr L (F + 200000) (d + 7) 118 [.ref 37, .int (nI v2), .int (nI v5)] (hp Ix Jx M5) = some (some (.int (nI v6)), hp Ix Jx M6, 0, 0)) (ho : M6 36 51 = 0) (h53 : M6 36 53 = nI C) (h52 : M6 36 52 = nI fu) (hcf : C < fu) (hfu : fu ≤ 40) (hv2 : v2 < 2300) (h44 : M6 36 44 = nI g) (hg : g < 1300) (kb : ∀ M' : am_I, M' 55 = M6 55 → M' 56 = M6 56 → M' 58 = M6 58 → ∀ (scr : Nat → Int32) (L F d : Nat) (Ix : am_I) (Jx : am_J), am_r scr L (F + 200000) (d + 1) 115 [.ref 37, .int (nI v2)] (hp Ix Jx M') = some (some (.int (nI e)), hp Ix Jx M', 0, 0)) (he : e < 2300) (h40 : M6 36 40 = nI C) (h56 : M6 56 e = nI nf) (hnf : nf < 101) (h57 : M6 57 e = nI sf) (h46 : M6 46 nf = nI bd) : ∃ (M7 : am_I) (g7 : Nat), (∀ (scr : Nat → Int32) (L F d : Nat) (Ix : am_I) (Jx : am_J), am_r scr L (F + 200000) (d + 11) 129 [.ref 37, .int (nI v2), .int (nI v5)] (hp Ix Jx M5) = some (none, hp Ix Jx M7, 0, 0)) ∧ (∀ z, ¬ z = 36 → ¬ (62 ≤ z ∧ z ≤ 68) → M7 z = M6 z) ∧ (∀ y, ¬ y = 40 → ¬ y = 44 → ¬ y = 53 → ¬ y = 58 → ¬ y = 59 → M7 36 y = M6 36 y) ∧ (M7 36 53 = nI (C + 1) ∧ M7 36 40 = nI (C + 1) ∧ M7 36 58 = nI bd ∧ M7 36 59 = nI (C + 1) ∧ M7 36 44 = nI g7) ∧ (M7 62 (C + 1) = M6 43 nf ∧ M7 63 (C + 1) = nI v6 ∧ M7 64 (C + 1) = nI sf) ∧ (∀ s, ¬ s = C + 1 → M7 62 s = M6 62 s ∧ M7 63 s = M6 63 s ∧ M7 64 s = M6 64 s) ∧ (∀ j, j < g → M7 65 j = M6 65 j ∧ M7 66 j = M6 66 j ∧ M7 67 j = M6 67 j ∧ M7 68 j = M6 68 j) ∧ ((g7 = g ∧ ¬ M6 55 v2 = 4) ∨ (g7 = g + 1 ∧ M6 55 v2 = 4 ∧ M7 65 g = -1 ∧ M7 68 g = nI v2)) := by
  by_cases z : M6 55 v2 = 4
  · refine ⟨_, g + 1, fun scr L F d Ix Jx => k129_wrap scr L F d Ix Jx M5 v2 v5 (nI v6) M6 (ki scr L F (d + 3) Ix Jx) ho C fu h53 h52 hcf hfu hv2 (by rw [wr_ap _ _ _ _ _ _ (by omega)]; exact z) g (by rw [wr_n2 _ _ _ _ _ (by omega)]; exact h44) hg e nf (kb _ ?_ ?_ ?_ scr L F (d + 9) Ix Jx) he ?_ ?_ hnf (M6 43 nf) (nI sf) (nI bd) ?_ ?_ ?_, fun z z1 z2 => ?_, fun y y1 y2 y3 y4 y5 => ?_, ⟨?_, ?_, ?_, ?_, ?_⟩, ⟨?_, ?_, ?_⟩, fun s hs => ⟨?_, ?_, ?_⟩, fun j hj => ⟨?_, ?_, ?_, ?_⟩, .inr ⟨rfl, z, ?_, ?_⟩⟩
    all_goals first
      | (have hj2 : ¬ j = g := by omega
         simp [wr, psM, va_up, upd, hj2])
      | (have q1 : ¬ z = 62 := by omega
         have q2 : ¬ z = 63 := by omega
         have q3 : ¬ z = 64 := by omega
         have q4 : ¬ z = 65 := by omega
         have q5 : ¬ z = 66 := by omega
         have q6 : ¬ z = 67 := by omega
         have q7 : ¬ z = 68 := by omega
         simp [wr, psM, va_up, upd, z1, q1, q2, q3, q4, q5, q6, q7])
      | simp [wr, psM, va_up, upd, y1, y2, y3, y4, y5]
      | simp [wr, psM, va_up, upd, hs]
      | simp [wr, psM, va_up, upd, h40, h56, h57, h46]
  · refine ⟨_, g, fun scr L F d Ix Jx => k129_plain scr L F d Ix Jx M5 v2 v5 (nI v6) M6 (ki scr L F (d + 3) Ix Jx) ho C fu h53 h52 hcf hfu hv2 (by rw [wr_ap _ _ _ _ _ _ (by omega)]; exact z) e nf (kb _ ?_ ?_ ?_ scr L F (d + 9) Ix Jx) he ?_ ?_ hnf (M6 43 nf) (nI sf) (nI bd) ?_ ?_ ?_, fun z z1 z2 => ?_, fun y y1 y2 y3 y4 y5 => ?_, ⟨?_, ?_, ?_, ?_, ?_⟩, ⟨?_, ?_, ?_⟩, fun s hs => ⟨?_, ?_, ?_⟩, fun j hj => ⟨?_, ?_, ?_, ?_⟩, .inl ⟨rfl, z⟩⟩
    all_goals first
      | (have q1 : ¬ z = 62 := by omega
         have q2 : ¬ z = 63 := by omega
         have q3 : ¬ z = 64 := by omega
         simp [wr, va_up, upd, z1, q1, q2, q3])
      | simp [wr, va_up, upd, y1, y2, y3, y4, y5]
      | simp [wr, va_up, upd, hs]
      | simp [wr, va_up, upd, h40, h56, h57, h46, h44]
theorem VB_4 {M : am_I} {Sg fn : Nat → Nat} {N c V W K C v t : Nat} {x : Int64} (h : VB M Sg fn N c V W K C v x t) (h4 : ¬ M 55 v = 4) : x &&& 4 = 0 := by
  obtain ⟨h1, h2, h3⟩ := h
  rcases h3 with ⟨z1, z2, z3⟩ | ⟨z1, z2, z3, z4⟩ | ⟨z1, z2, n, q, s, a1, a2, a3, a4, a5, a6, a7, a8, a9, a10⟩ | ⟨z1, z2, k, a1, a2, a3, a4⟩ | ⟨z1, _⟩
  · rw [z3]
    exact of_4 _ 0 (by omega)
  · rw [z4]
    exact of_4 _ 1 (by omega)
  · rw [a9]
    exact of_4 _ 2 (by omega)
  · rw [a4]
    exact of_4 _ 3 (by omega)
  · exact absurd z1 h4
/-- outward of what no cast is around -/
theorem out_0 {M : am_I} {Sg fn : Nat → Nat} {N c V W K C v t : Nat} {fx : Int64} (h : VB M Sg fn N c V W K C v fx t) (h4 : ¬ M 55 v = 4) (I : am_I) (J : am_J) (x : Int64) (scr : Nat → Int32) (L F d : Nat) (Mx : am_I) : am_r scr L (F + 200000) (d + 7) 18 [.ref 23, .long fx, .long x] (hp I J Mx) = some (some (.long x), hp I J Mx, 0, 0) := c18_go scr L F d I J Mx fx x _ _ (by omega) (h18_end scr L F d I J Mx fx x fx 0 (by omega) (VB_4 h h4) _ _ (h18b_end scr L F d I J Mx fx x fx 0 x _ m0_1))
theorem core_1 {I : am_I} {J : am_J} {M M' : am_I} {Sg fn : Nat → Nat} {N c V W K C f tf e te : Nat} {fx xe : Int64} (hc : core J M Sg fn N c V W K C f fx tf e te xe) (hV : V ≤ 2300) (h5 : ∀ v, v < V → M' 55 v = M 55 v ∧ M' 56 v = M 56 v) (h8 : ∀ w, w < W → M' 58 w = M 58 w) {e' : Nat} (he : e' < 2300) (h : am_r (fun _ => 0) 0 (0 + 200000) (0 + 1) 115 [.ref 37, .int (nI f)] (hp I J M') = some (some (.int (nI e')), hp I J M', 0, 0)) : e' = e := by
  have a2 := hc.2.2.2.2.2 M' h5 h8 (fun _ => 0) 0 0 0 I J
  rw [h] at a2
  have a3 := congrArg (fun q => q.map (fun w => w.1)) a2
  simp only [Option.map] at a3
  have a4 : nI e' = nI e := by simpa using a3
  have b1 := hc.1.1
  exact nI_inj (by omega) (by omega) a4
/-- a value that no cast is around is its own core -/
theorem core_p {I : am_I} {J : am_J} {M : am_I} {Sg fn : Nat → Nat} {N c V W K C f tf e te : Nat} {fx xe : Int64} (hR : tyR I M c) (hN : N ≤ 100) (hK : K ≤ 40) (hW : W ≤ 200) (hf : VB M Sg fn N c V W K C f fx tf) (hc : core J M Sg fn N c V W K C f fx tf e te xe) (hV : V ≤ 2300) (h4 : ¬ M 55 f = 4) : te = tf := by
  have hfV := hf.1
  have e1 : f = e := by
    refine core_1 (I := I) hc hV (fun _ _ => ⟨rfl, rfl⟩) (fun _ _ => rfl) (by omega) ?_
    have := m_115 (fun _ => 0) 0 191000 0 I J M f f [] ⟨rfl, by omega, h4⟩ (by simp)
    exact this
  subst e1
  exact VB_t hR hN hK hW hc.1 hf
/-- a node that waited has its value, and the other side has it already -/
theorem fin_0 {N c fu fr g q s w t : Nat} {I : am_I} {J : am_J} {M : am_I} {Sg fn : Nat → Nat} {V W K C P : Nat} {S : List am_T} {st sr : Nat} {I1 : am_I} {J1 : am_J} {M1 : am_I} {Sg1 fn1 : Nat → Nat} {V1 W1 K1 C1 : Nat} {S1 : List am_T} {st1 sr1 : Nat} {I2 : am_I} {J2 : am_J} {V2 W2 P2 : Nat} {S2 : List am_T} {x : Int64} {v : Nat} (hF1 : rF fr g I I1 J J1 M M1 Sg Sg1 fn fn1 V V1 W W1 K K1 C C1 S S1) (hN1 : rN I I1 J J1 M M1 st st1 sr sr1) (hF2 : rF fr g I1 I2 J1 J2 M1 M1 Sg1 Sg1 fn1 fn1 V1 V2 W1 W2 K1 K1 C1 C1 S1 S2) (hD2 : DR I2 J2 M1 Sg1 fn1 N c V2 W2 K1 C1 fu P2 S2) (i15 : I2 21 15 = nI s) (i30 : I2 30 fr = nI q) (m58 : M1 36 58 = -1) (m60 : M1 36 60 = nI v) (m44 : M1 36 44 = nI g) (hv : VR M1 Sg1 fn1 N c V2 W2 K1 C1 v x t) (hv2 : v < 2300) (kI : ∀ (scr : Nat → Int32) (L F d : Nat) (Mx : am_I) (mo : Int32) (A : Nat) (R : Option am_X), h31 scr L F d (fiI I2 fr) (wrJ J2 21 17 x) Mx mo (st1 + 1) A R → h31 scr L F d I1 J1 Mx mo st1 (A + 80) R) (hB : 4 * (S2.length + 2 * (200 - W2) + 2 * (40 - K1) + 2 * (40 - C1)) + 100 * (40 - C1) + 1 ≤ 4 * (S.length + 2 * (200 - W) + 2 * (40 - K) + 2 * (40 - C)) + 100 * (40 - C) + w) (hst : st1 + 1 + 2000 * (40 - C1) ≤ st + 2000 * (40 - C) + 10 * w) (hsr : sr1 + 2000 * (40 - C1) ≤ sr + 2000 * (40 - C) + 10 * w) (hP : P2 ≤ st1 + 1) : rV N c fu fr g q s w I J M Sg fn V W K C P S st sr t := by
  have hm : mF I2 (fiI I2 fr) J2 (wrJ J2 21 17 x) M1 M1 := by
    have k := mF_fin I2 J2 M1 fr x 0
    exact ⟨k.1, k.2.1, k.2.2.1, fun _ _ _ => rfl, fun _ _ _ _ _ => rfl⟩
  refine ⟨fiI I2 fr, wrJ J2 21 17 x, M1, Sg1, fn1, V2, W2, K1, C1, P2, S2, st1 + 1, sr1, x, v, DR_m hm hD2, rF_trans (rF_trans hF1 hF2 (Nat.le_refl _) (Nat.le_refl _)) (rF_m (fr := fr) (g := g) hm (fun j _ => ⟨by rw [fi_ne _ _ _ (by omega)], by rw [fi_ne _ _ _ (by omega)], by rw [wrJ_ne _ _ _ _ _ (by omega)]⟩) (fun _ _ => ⟨rfl, rfl, rfl, rfl⟩)) (Nat.le_refl _) (Nat.le_refl _), rN_trans hN1 ⟨⟨by omega, by omega⟩, fun scr L F d Mx mo A R z => ?_, fun scr L F d Ix Jx mo A R z => ?_⟩, ⟨?_, ?_, ?_, ?_, wrJ_s _ _ _ _⟩, ⟨m58, m60, m44⟩, hv, hv2, hB, hst, hsr, hP⟩
  · rw [show A + 80 * (st1 + 1 - st1) = A + 80 by omega]
    exact kI scr L F d Mx mo A R z
  · rw [show A + 40 * (sr1 - sr1) = A by omega]
    exact z
  · simp [fiI, va_up, upd]
  · simp [fiI, va_up, upd, i30]
  · simp [fiI, va_up, upd, i15]
  · simp [fiI, va_up, upd]

