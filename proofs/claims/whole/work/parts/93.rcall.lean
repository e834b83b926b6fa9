/-! Running: calls (II). -/
theorem call_I (I6 : am_I) (C4 sf qbd : Nat) : (∀ z, ¬ z = 21 → ¬ z = 33 → (woI (wr (wr (wr I6 21 11 (nI (C4 + 1))) 33 (C4 + 1) (nI sf)) 21 15 (nI (C4 + 1))) (nI qbd)) z = I6 z) ∧ (∀ s, ¬ s = C4 + 1 → (woI (wr (wr (wr I6 21 11 (nI (C4 + 1))) 33 (C4 + 1) (nI sf)) 21 15 (nI (C4 + 1))) (nI qbd)) 33 s = I6 33 s) ∧ (woI (wr (wr (wr I6 21 11 (nI (C4 + 1))) 33 (C4 + 1) (nI sf)) 21 15 (nI (C4 + 1))) (nI qbd)) 33 (C4 + 1) = nI sf ∧ (∀ y, ¬ y = 11 → ¬ y = 14 → ¬ y = 15 → ¬ y = 16 → (woI (wr (wr (wr I6 21 11 (nI (C4 + 1))) 33 (C4 + 1) (nI sf)) 21 15 (nI (C4 + 1))) (nI qbd)) 21 y = I6 21 y) ∧ (woI (wr (wr (wr I6 21 11 (nI (C4 + 1))) 33 (C4 + 1) (nI sf)) 21 15 (nI (C4 + 1))) (nI qbd)) 21 11 = nI (C4 + 1) ∧ (woI (wr (wr (wr I6 21 11 (nI (C4 + 1))) 33 (C4 + 1) (nI sf)) 21 15 (nI (C4 + 1))) (nI qbd)) 21 14 = nI qbd ∧ (woI (wr (wr (wr I6 21 11 (nI (C4 + 1))) 33 (C4 + 1) (nI sf)) 21 15 (nI (C4 + 1))) (nI qbd)) 21 15 = nI (C4 + 1) ∧ (woI (wr (wr (wr I6 21 11 (nI (C4 + 1))) 33 (C4 + 1) (nI sf)) 21 15 (nI (C4 + 1))) (nI qbd)) 21 16 = 0 := by
  refine ⟨fun z h1 h2 => ?_, fun s hs => ?_, ?_, fun y h1 h2 h3 h4 => ?_, ?_, ?_, ?_, ?_⟩
  · simp [woI, wr, va_up, upd, h1, h2]
  · simp [woI, wr, va_up, upd, hs]
  · simp [woI, wr, va_up, upd]
  · simp [woI, wr, va_up, upd, h1, h2, h3, h4]
  · simp [woI, wr, va_up, upd]
  · simp [woI, wr, va_up, upd]
  · simp [woI, wr, va_up, upd]
  · simp [woI, wr, va_up, upd]
theorem nc1 {C C4 fu φ fr g g7 h h' w w1 w2 w' ls W K l4 W4 K4 l5 W5 l6 W6 st sr st4 sr4 P4 : Nat} (hφ : fu - C ≤ φ) (hfu : C4 < fu) (hf4 : fu ≤ 40) (hCC : C ≤ C4) (hfr : fr + (h + 1) ≤ 20 * (C + 1)) (hg : g + (h + 1) ≤ 20 * (C + 1)) (hg7 : g7 ≤ g + 1) (hh : h' ≤ 20) (hw' : w' ≤ 100) (k7 : w1 + w2 + 3 ≤ w) (hB : 4 * (ls + 2 * (200 - W) + 2 * (40 - K) + 2 * (40 - C)) + 100 * (40 - C) + w ≤ 9160) (hst : st + 2000 * (40 - C) + 10 * w ≤ 99000) (hsr : sr + 2000 * (40 - C) + 10 * w ≤ 99000) (n1 : 4 * (l4 + 2 * (200 - W4) + 2 * (40 - K4) + 2 * (40 - C4)) + 100 * (40 - C4) + 2 ≤ 4 * (ls + 2 * (200 - W) + 2 * (40 - K) + 2 * (40 - C)) + 100 * (40 - C) + w1 + w2) (n2 : st4 + 2000 * (40 - C4) ≤ st + 2 + 2000 * (40 - C) + 10 * w1 + 10 * w2) (n3 : sr4 + 2000 * (40 - C4) ≤ sr + 2 + 2000 * (40 - C) + 10 * w1 + 10 * w2) (n4 : P4 ≤ st4) (s7 : l5 + 2 * (200 - W5) ≤ l4 + 1 + 2 * (200 - W4)) (c4 : l6 + 2 * (200 - W6) ≤ l5 + 2 * (200 - W5)) : φ - 1 < φ ∧ fu - (C4 + 1) ≤ φ - 1 ∧ fr + 1 + h' ≤ 20 * (C4 + 1 + 1) ∧ g7 + h' ≤ 20 * (C4 + 1 + 1) ∧ 4 * (l6 + 2 * (200 - W6) + 2 * (40 - K4) + 2 * (40 - (C4 + 1))) + 100 * (40 - (C4 + 1)) + w' ≤ 9160 ∧ st4 + 1 + 2000 * (40 - (C4 + 1)) + 10 * w' ≤ 99000 ∧ sr4 + 1 + 2000 * (40 - (C4 + 1)) + 10 * w' ≤ 99000 ∧ P4 ≤ st4 + 1 ∧ fr < 820 ∧ g < 1300 ∧ st4 ≤ 99000 ∧ sr4 ≤ 99000 ∧ st4 + 1 ≤ 100000 ∧ sr4 + 1 ≤ 100000 := by
  refine ⟨by omega, by omega, by omega, by omega, by omega, by omega, by omega, by omega, by omega, by omega, by omega, by omega, by omega, by omega⟩
theorem nc2 {C C4 fu w w1 w2 w' ls W K l4 W4 K4 l5 W5 l6 W6 st sr st4 sr4 l8 W8 K8 C8 st8 sr8 P8 : Nat} (hfu : C4 < fu) (hf4 : fu ≤ 40) (hC8 : C8 ≤ fu) (hw' : w' ≤ 100) (k7 : w1 + w2 + 3 ≤ w) (hB : 4 * (ls + 2 * (200 - W) + 2 * (40 - K) + 2 * (40 - C)) + 100 * (40 - C) + w ≤ 9160) (hst : st + 2000 * (40 - C) + 10 * w ≤ 99000) (hsr : sr + 2000 * (40 - C) + 10 * w ≤ 99000) (n1 : 4 * (l4 + 2 * (200 - W4) + 2 * (40 - K4) + 2 * (40 - C4)) + 100 * (40 - C4) + 2 ≤ 4 * (ls + 2 * (200 - W) + 2 * (40 - K) + 2 * (40 - C)) + 100 * (40 - C) + w1 + w2) (n2 : st4 + 2000 * (40 - C4) ≤ st + 2 + 2000 * (40 - C) + 10 * w1 + 10 * w2) (n3 : sr4 + 2000 * (40 - C4) ≤ sr + 2 + 2000 * (40 - C) + 10 * w1 + 10 * w2) (s7 : l5 + 2 * (200 - W5) ≤ l4 + 1 + 2 * (200 - W4)) (c4 : l6 + 2 * (200 - W6) ≤ l5 + 2 * (200 - W5)) (f8 : 4 * (l8 + 2 * (200 - W8) + 2 * (40 - K8) + 2 * (40 - C8)) + 100 * (40 - C8) + 1 ≤ 4 * (l6 + 2 * (200 - W6) + 2 * (40 - K4) + 2 * (40 - (C4 + 1))) + 100 * (40 - (C4 + 1)) + w') (f9 : st8 + 2000 * (40 - C8) ≤ st4 + 1 + 2000 * (40 - (C4 + 1)) + 10 * w') (f10 : sr8 + 2000 * (40 - C8) ≤ sr4 + 1 + 2000 * (40 - (C4 + 1)) + 10 * w') (f11 : P8 ≤ st8) : (∀ l9 W9, l9 + 2 * (200 - W9) ≤ l8 + 1 + 2 * (200 - W8) → 4 * (l9 + 2 * (200 - W9) + 2 * (40 - K8) + 2 * (40 - C8)) + 100 * (40 - C8) + 1 ≤ 4 * (ls + 2 * (200 - W) + 2 * (40 - K) + 2 * (40 - C)) + 100 * (40 - C) + w) ∧ st8 + 1 + 2000 * (40 - C8) ≤ st + 2000 * (40 - C) + 10 * w ∧ sr8 + 1 + 2000 * (40 - C8) ≤ sr + 2000 * (40 - C) + 10 * w ∧ sr8 + 2000 * (40 - C8) ≤ sr + 2000 * (40 - C) + 10 * w ∧ P8 ≤ st8 + 1 ∧ st8 ≤ 99000 ∧ sr8 ≤ 99000 ∧ st8 < 1000000 ∧ sr8 < 100000 ∧ st8 ≤ 100000 ∧ sr8 ≤ 100000 ∧ l8 + 1 + 2 * (200 - W8) ≤ 2290 ∧ l8 + 1 ≤ 2290 ∧ l8 ≤ 2290 := by
  refine ⟨fun l9 W9 h9 => ?_, ?_, ?_, ?_, ?_, ?_, ?_, ?_, ?_, ?_, ?_, ?_, ?_, ?_⟩ <;> omega
set_option maxRecDepth 100000 in
set_option maxHeartbeats 8000000 in
theorem ev_call {N c fu φ h : Nat} (ih : Ev N c fu φ h) (ihφ : ∀ φ' h', φ' < φ → h' ≤ 20 → Ev N c fu φ' h') {I : am_I} {J : am_J} {M : am_I} {Sg fn : Nat → Nat} {V W K C P : Nat} {S : List am_T} {st sr : Nat} (n q s fr g w t : Nat) (hD : DR I J M Sg fn N c V W K C fu P S) (hR : PR I M N c) (hL : LTs M N S) (hS : SI I) (hn : n < N) (htw : tw I M N c (h + 1) w n) (h42 : M 42 n = nI q) (hq : q < 100) (h71 : M 71 n = nI t) (ht : t < c) (i16 : I 21 16 = 0) (i14 : I 21 14 = nI q) (i15 : I 21 15 = nI s) (i6 : I 21 6 = nI fr) (m58 : M 36 58 = nI n) (m59 : M 36 59 = nI s) (m44 : M 36 44 = nI g) (henv : env M fn n s) (hs : s ≤ C) (hφ : fu - C ≤ φ) (hw : w ≤ 100) (hfr : fr + (h + 1) ≤ 20 * (C + 1)) (hg : g + (h + 1) ≤ 20 * (C + 1)) (hB : 4 * (S.length + 2 * (200 - W) + 2 * (40 - K) + 2 * (40 - C)) + 100 * (40 - C) + w ≤ 9160) (hst : st + 2000 * (40 - C) + 10 * w ≤ 99000) (hsr : sr + 2000 * (40 - C) + 10 * w ≤ 99000) (hP : P ≤ st) (h41 : M 41 n = nI 4) : rX I J M st sr ∨ rV N c fu fr g q s w I J M Sg fn V W K C P S st sr t := by
  obtain ⟨o', b1, b2, b3, b4, b5, b6, b7, b8, b9, b10, b11⟩ := node_F hR hn h42 hq h71 ht
  have eo : o' = 4 := nI_inj (by omega) (by omega) (b1.symm.trans h41)
  subst eo
  have hN := hR.1
  have hCT := hD.1.2.2.2.1
  have hc := hD.2.1.2.1
  have hTY := hD.2.1
  have htw0 := htw
  obtain ⟨g1, g2, o, g3, g4, _, _, g7, _⟩ := htw0
  have eo2 : o = 4 := nI_inj (by omega) (by omega) (g3.symm.trans h41)
  subst eo2
  obtain ⟨a0, b0, w1, w2, k1, k2, k3, k4, k5, k6, k7⟩ := g7 (by omega) (by omega)
  obtain ⟨a, qa, ta, b, qb, tb, f1, f2, f3⟩ := b5.2.2.2.2.1 (by first | decide | omega)
  have A := part_F hR hn h42 f1 (b8 (by omega))
  have B := part_F hR hn h42 f2 (b9 (by omega) (by omega))
  have hw11 := tw_lt k3
  have hw21 := tw_lt k6
  obtain ⟨p1, p2, p3, p4, p5, p6, p7, p8, p9, p10, p11⟩ := A
  obtain ⟨l1, l2, l3, l4, l5, l6, l7, l8, l9, l10, l11⟩ := B
  have ea : a0 = a := nI_inj (by omega) (by omega) (k1.symm.trans p3)
  have eb : b0 = b := nI_inj (by omega) (by omega) (k4.symm.trans l3)
  subst ea
  subst eb
  have qab : ¬ qb = qa := by
    intro z
    rw [z] at l4
    have e := hR.2.2.2.1 _ _ _ p1 l1 p4 l4
    exact (hR.2.2.2.2.2.2 n hn).1 4 b1 (by omega) (by omega) (by omega) _ _ p3 l3 (by omega) (by omega) e
  obtain ⟨u, hu, u38, ut, hub, a16, ucs, b16, bcs, ka, kb⟩ : ∃ u, u < c ∧ M 38 u = 3 ∧ t = tB M u ∧ tA M u < c ∧ I 16 qa = nI (tm u) ∧ CS M ta u ∧ I 16 qb = nI (tm (tA M u)) ∧ CS M tb (tA M u) ∧ (∀ (scr : Nat → Int32) (L F d : Nat) (Ix : am_I) (Jx : am_J) (M0 : am_I), (∀ z, (37 ≤ z ∧ z ≤ 54) → M0 z = M z) → (∀ y, y < 31 → M0 36 y = M 36 y) → am_r scr L (F + 200000) (d + 1) 125 [.ref 37, .int (nI n), .int (nI ta)] (hp Ix Jx M0) = some (some (.int (nI u)), hp Ix Jx M0, 0, 0)) ∧ (∀ (scr : Nat → Int32) (L F d : Nat) (Ix : am_I) (Jx : am_J) (M0 : am_I), (∀ z, (37 ≤ z ∧ z ≤ 54) → M0 z = M z) → (∀ y, y < 31 → M0 36 y = M 36 y) → am_r scr L (F + 200000) (d + 1) 126 [.ref 37, .int (nI n), .int (nI ta)] (hp Ix Jx M0) = some (some (.int (nI (tA M u))), hp Ix Jx M0, 0, 0)) := by
    obtain ⟨o1, o2, o3, o4, o5⟩ := open_4 hTY
    rcases f3 with ⟨y1, y2, y3, y4⟩ | ⟨y1, y2, y3, y4, y5⟩
    · refine ⟨3, by have := hTY.1; omega, o3, by rw [o5]; exact y2, by rw [o4]; omega, y3, ⟨0, cn0 (.inr (.inl y1))⟩, by rw [o4]; exact y4, by rw [o4]; exact ⟨0, cn0 (.inr (.inr rfl))⟩, fun scr L F d Ix Jx M0 h1 h2 => ?_, fun scr L F d Ix Jx M0 h1 h2 => ?_⟩
      · exact aA_call_o scr L F d Ix Jx M0 n ta (by first | decide | omega) (by first | decide | omega) (by rw [h1 41 (by first | decide | omega)]; exact b1) (nI 3) (by rw [h2 6 (by first | decide | omega)]; exact hTY.2.2.2.2.1) y1
      · rw [o4]
        exact aB_call_o scr L F d Ix Jx M0 n ta (by first | decide | omega) (by first | decide | omega) (by rw [h1 41 (by first | decide | omega)]; exact b1) y1
    · have y1' : M 38 ta = 3 := y1
      have y3' : t = tB M ta := y3
      have yA := tyA hTY p7 (.inl y1')
      refine ⟨ta, p7, y1', y3', yA.2.1, y4, ⟨0, cn0 (.inl rfl)⟩, y5, y2, fun scr L F d Ix Jx M0 h1 h2 => ?_, fun scr L F d Ix Jx M0 h1 h2 => ?_⟩
      · exact aA_call scr L F d Ix Jx M0 n ta (by first | decide | omega) (by first | decide | omega) (by rw [h1 41 (by first | decide | omega)]; exact b1) (k_n2 hTY (.inl y1'))
      · exact aB_call scr L F d Ix Jx M0 n ta (by first | decide | omega) (by first | decide | omega) (by rw [h1 41 (by first | decide | omega)]; exact b1) (k_n2 hTY (.inl y1')) _ (by rw [h1 39 (by first | decide | omega)]; exact yA.1)
  have u2 : ¬ u = 2 := k_n2 hTY (.inl u38)
  rcases ev_ab ih n q s fr g w t hD hR hL hS hn htw h42 hq h71 ht i16 i14 i15 i6 m58 m59 m44 henv hs hφ hw hfr hg hB hst hsr hP (u := u) b1 b2 (by omega) (by omega) ⟨p1, p2, p3, p4, p5, p6, p7, p8, p9, p10, p11⟩ ⟨l1, l2, l3, l4, l5, l6, l7, l8, l9, l10, l11⟩ k3 k6 k7 a16 hu u2 ucs ka with z | ⟨I4, J4, M4, Sg4, fn4, V4, W4, K4, C4, P4, S4, st4, sr4, x2, v2, x, v, q1, q2, q3, q4, q5, q6, ⟨r16, r14, r15, r6, r17⟩, ⟨r58, r60, r44⟩, q9, q10, q11, q12, ⟨r30, r31, r32⟩, ⟨r65, r66, r68⟩, n1, n2, n3, n4⟩
  · exact .inl z
  have hCT4 := q1.1.2.2.2.1
  have hKT4 := q1.1.2.2.1
  have q1' := DR_pay q1 ((6 : Int32), nI v, nI (gr M4 tb))
  have q5' : rF fr g I I4 J J4 M M4 Sg Sg4 fn fn4 V V4 W W4 K K4 C C4 S (((6 : Int32), nI v, nI (gr M4 tb)) :: S4) := rF_trans q5 (rF_S (fr := fr) (g := g) (fun τ z => List.mem_cons_of_mem _ z)) (Nat.le_refl _) (Nat.le_refl _)
  have hlen : (((6 : Int32), nI v, nI (gr M4 tb)) :: S4).length = S4.length + 1 := rfl
  rcases second_c (o := 4) (u := (tA M u)) q1' q5' q6 r16 r14 r6 r17 r58 r60 r44 q9 q10 r30 r65 r66 r68 (by omega) hq b1 h42 p3 (by omega) p6 l3 (by omega) l5 l6 l7 l11 b16 l10 hub bcs kb (by omega) (fun _ => .inr List.mem_cons_self) (by omega) (by omega) n4 (by omega) (by omega) with z | ⟨I5, J5, M5, V5, W5, S5, x5, v5, hD5, s2, ⟨t21, t30, t31, t17, t32⟩, s4, s5, s6, s7, s8, s9, s10, s11, s12⟩
  · exact .inl z
  have hE := q5.1
  have hp5 := s8 (.inr List.mem_cons_self)
  have hE5 := s2.1
  have z38 : M5 38 u = 3 := by
    rw [hE5.2.1 38 (by first | decide | omega) (by first | decide | omega), hE.2.1 38 (by first | decide | omega) (by first | decide | omega)]
    exact u38
  have z39 : tA M5 u = tA M u := by
    unfold tA
    rw [hE5.2.1 39 (by first | decide | omega) (by first | decide | omega), hE.2.1 39 (by first | decide | omega) (by first | decide | omega)]
  have hvb := VR_VB (VR_X s2.2.1 q11) u2
  obtain ⟨e, te, xe, x6, v6, I6, J6, M6, hco, m1, m2, m3⟩ := in_ok hD5 hvb (.inl z38) (by rw [z39]; exact s5) (by rw [z39]; exact hp5) s6 (by first | decide | omega)
  obtain ⟨hk5, nf, qf, sf, hk1, hk2, hk3, hk4, hk6, hk7, hk8, hk9, hk10, hk11⟩ := core_fun hD5.2.1 hco z38
  have hte : te < c := hco.2.2.2.1
  have hV9 := pigeon (row M5) V5 S5 hD5.2.2.2.2.2.1 hD5.2.2.2.2.2.2
  have hcf : cF I5 I6 J5 J6 M5 M6 := by
    rcases m1 with ⟨_, z⟩ | ⟨_, z, _⟩
    · exact z
    · exact z
  have hk58 : (∀ v, v < V5 → M6 55 v = M5 55 v ∧ M6 56 v = M5 56 v) ∧ (∀ w, w < W5 → M6 58 w = M5 58 w) := by
    rcases m1 with ⟨⟨V6, W6, S6, c1, c2, c3, _⟩, _⟩ | ⟨_, _, z1, z2⟩
    · exact ⟨fun v hv => ⟨(c3.2.1 v hv).1, (c3.2.1 v hv).2.1⟩, fun w hw => (c3.2.2.1 w hw).1⟩
    · exact ⟨z1, z2⟩
  have v21 : I6 21 = I5 21 := hcf.1 21 (by first | decide | omega) (by first | decide | omega) (by first | decide | omega) (by first | decide | omega) (by first | decide | omega)
  have v30 : I6 30 = I5 30 := hcf.1 30 (by first | decide | omega) (by first | decide | omega) (by first | decide | omega) (by first | decide | omega) (by first | decide | omega)
  have v31 : I6 31 = I5 31 := hcf.1 31 (by first | decide | omega) (by first | decide | omega) (by first | decide | omega) (by first | decide | omega) (by first | decide | omega)
  have v32 : J6 32 = J5 32 := hcf.2.2.1 32 (by first | decide | omega)
  have k17 : ∀ (scr : Nat → Int32) (L F d : Nat) (Mx : am_I), am_r scr L (F + 200000) (d + 8) 17 [.ref 23, .long (J5 32 fr), .long (J5 21 17)] (hp I5 J5 Mx) = some (some (.long x6), hp I6 J6 Mx, 0, 0) := by
    intro scr L F d Mx
    rw [t32, r32, t17]
    exact m2 scr L F (d + 1) Mx
  rcases m1 with ⟨⟨V6, W6, S6, c1, c2, c3, c4, c5, c6, c7, c8⟩, _⟩ | ⟨c1, _, _⟩
  rotate_left
  · left
    obtain ⟨e3, e4⟩ := bSt_n c1
    refine rX_go hE q5.2.2.2.1 q6 (by first | decide | omega) (by first | decide | omega) (rX_bad (I1 := I6) (I2 := I6) (J2 := J6) (M1 := M6) (M2 := M6) q1 c1 rfl rfl rfl (rkI_trans s11 (rkI_c hcf)) (rkM_trans s12 (rkM_c hcf)) n4 (by first | decide | omega) (by first | decide | omega) (fun scr L F d Mx mo e R e1 e2 z => ?_) (fun scr L F d Ix Jx mo R z => ?_))
    · refine x_last_s scr L F d I4 J4 Mx mo st4 (by omega) q1.1.2.2.2.2.1.2.2 r16 fr qb q r6 (by omega) r14 l5 r30 hq (by rw [hE.1 8 (by omega) (by omega)]; exact l10) I5 J5 (s9 scr L F d Mx) (by rw [t21]; exact r14) (by rw [t21]; exact r6) (by rw [t30]; exact r30) qa p5 (by rw [s2.1.1 9 (by omega) (by omega), hE.1 9 (by omega) (by omega)]; exact p8) _ _ qab ?_ e e1 e2 80 R z
      exact c41_call scr L F (d + 1) I5 J5 Mx fr (by rw [t21]; exact r6) (by first | decide | omega) q (by rw [t30]; exact r30) hq (by rw [s2.1.1 7 (by omega) (by omega), hE.1 7 (by omega) (by omega)]; exact b2) _ _ (c46_f scr L F (d + 1) I5 J5 Mx (J5 32 fr) x6 I6 J6 (k17 scr L F d Mx) e3)
    · skip
      refine y_come scr L F d Ix Jx M4 mo sr4 (by omega) q1.1.2.2.2.2.1.2.1 r58 _ ?_ 40 R z
      refine o130_second scr L F d Ix Jx M4 g r44 (by omega) n (by omega) (by rw [wr_ap _ _ _ _ _ _ (by omega)]; exact r65) (nI v2) (by rw [wr_ap _ _ _ _ _ _ (by omega)]; exact r66) (by rw [wr_ap _ _ _ _ _ _ (by omega)]; exact r68) _ ?_
      exact s128_call scr L F d Ix Jx (wr M4 36 44 (nI g)) n a0 b0 (by omega) (by rw [wr_ap _ _ _ _ _ _ (by omega), hE.2.1 46 (by omega) (by omega)]; exact p3) (by omega) (by rw [wr_ap _ _ _ _ _ _ (by omega), hE.2.1 47 (by omega) (by omega)]; exact l3) (by omega) ta tb (tA M u) (by rw [wr_ap _ _ _ _ _ _ (by omega), hE.2.2.1]; exact p6) (by rw [wr_ap _ _ _ _ _ _ (by omega), hE.2.2.1]; exact l6) v v2 (by rw [wr_n2 _ _ _ _ _ (by omega)]; exact r60) (by rw [wr_ap _ _ _ _ _ _ (by omega), hE.2.1 41 (by omega) (by omega)]; exact b1) (kb scr L F (d + 10) Ix Jx _ (fun z hz => by rw [wr_ne _ _ _ _ _ (by omega)]; exact hE.2.1 z (by omega) (by omega)) (fun y hy => by rw [wr_n2 _ _ _ _ _ (by omega)]; exact hE.2.2.2 y hy)) (2 * nI q) (by rw [wr_ap _ _ _ _ _ _ (by omega), hE.2.1 42 (by omega) (by omega), h42]) v5 M5 (s10 scr L F (d + 6) Ix Jx) hD5.1.2.2.2.2.1.2.1 M6 (k129_stop scr L F d Ix Jx M5 v2 v5 (nI v6) M6 (m3 scr L F (d + 3) Ix Jx) e4)

  have hCT6 := c1.1.2.2.2.1
  by_cases hfu : C4 < fu
  rotate_left
  · left
    have efu : fu = C4 := by omega
    have n36 : ¬ (3 : Int32) = 6 := by decide
    have n30 : ¬ (3 : Int32) = 0 := by decide
    refine rX_go hE q5.2.2.2.1 q6 (by first | decide | omega) (by first | decide | omega) ⟨wr I6 21 12 3, J6, wr M6 36 51 3, 3, P4, rE_of q1 (rkI_trans (rkI_trans s11 (rkI_c hcf)) (rkI_w I6 12 3 (by first | decide | omega) (by first | decide | omega))) (rkM_trans (rkM_trans s12 (rkM_c hcf)) (rkM_w M6 51 3 (by first | decide | omega))) (by first | decide | omega) (.inr (.inl rfl)) (wr_s _ _ _ _) (wr_s _ _ _ _) (fun z => absurd z (by decide)), fun scr L F d Mx mo => ?_, fun scr L F d Ix Jx mo => ?_⟩
    · refine h31_le (N := 80 + 80) (by first | decide | omega) ?_
      have z := x_end scr L F d (wr I6 21 12 3) J6 Mx mo (st4 + 1) (by first | decide | omega) 3 (wr_s _ _ _ _) n36
      refine x_last scr L F d I4 J4 Mx mo st4 (by omega) q1.1.2.2.2.2.1.2.2 r16 fr qb q r6 (by omega) r14 l5 r30 hq (by rw [hE.1 8 (by omega) (by omega)]; exact l10) I5 J5 (s9 scr L F d Mx) (by rw [t21]; exact r14) (by rw [t21]; exact r6) (by rw [t30]; exact r30) qa p5 (by rw [s2.1.1 9 (by omega) (by omega), hE.1 9 (by omega) (by omega)]; exact p8) _ _ qab ?_ ?_ 80 _ z
      · exact c41_call scr L F (d + 1) I5 J5 Mx fr (by rw [t21]; exact r6) (by first | decide | omega) q (by rw [t30]; exact r30) hq (by rw [s2.1.1 7 (by omega) (by omega), hE.1 7 (by omega) (by omega)]; exact b2) _ _ (c46_fuel scr L F (d + 1) I5 J5 Mx (J5 32 fr) x6 I6 J6 (k17 scr L F d Mx) c1.1.2.2.2.2.1.1 C4 fu hCT6.1 hCT6.2.2.2.2.2.1 (by first | decide | omega) (by first | decide | omega))
      · rw [wr_ap _ _ _ _ _ _ (by first | decide | omega)]
        exact c1.1.2.2.2.2.1.1
    · refine hr1_le (N := 40 + 40) (by first | decide | omega) ?_
      have z := y_end scr L F d Ix Jx (wr M6 36 51 3) mo (sr4 + 1) (by first | decide | omega) 3 (wr_s _ _ _ _) n30
      refine y_come scr L F d Ix Jx M4 mo sr4 (by omega) q1.1.2.2.2.2.1.2.1 r58 _ ?_ 40 _ z
      refine o130_second scr L F d Ix Jx M4 g r44 (by omega) n (by omega) (by rw [wr_ap _ _ _ _ _ _ (by omega)]; exact r65) (nI v2) (by rw [wr_ap _ _ _ _ _ _ (by omega)]; exact r66) (by rw [wr_ap _ _ _ _ _ _ (by omega)]; exact r68) _ ?_
      exact s128_call scr L F d Ix Jx (wr M4 36 44 (nI g)) n a0 b0 (by omega) (by rw [wr_ap _ _ _ _ _ _ (by omega), hE.2.1 46 (by omega) (by omega)]; exact p3) (by omega) (by rw [wr_ap _ _ _ _ _ _ (by omega), hE.2.1 47 (by omega) (by omega)]; exact l3) (by omega) ta tb (tA M u) (by rw [wr_ap _ _ _ _ _ _ (by omega), hE.2.2.1]; exact p6) (by rw [wr_ap _ _ _ _ _ _ (by omega), hE.2.2.1]; exact l6) v v2 (by rw [wr_n2 _ _ _ _ _ (by omega)]; exact r60) (by rw [wr_ap _ _ _ _ _ _ (by omega), hE.2.1 41 (by omega) (by omega)]; exact b1) (kb scr L F (d + 10) Ix Jx _ (fun z hz => by rw [wr_ne _ _ _ _ _ (by omega)]; exact hE.2.1 z (by omega) (by omega)) (fun y hy => by rw [wr_n2 _ _ _ _ _ (by omega)]; exact hE.2.2.2 y hy)) (2 * nI q) (by rw [wr_ap _ _ _ _ _ _ (by omega), hE.2.1 42 (by omega) (by omega), h42]) v5 M5 (s10 scr L F (d + 6) Ix Jx) hD5.1.2.2.2.2.1.2.1 _ (k129_fuel scr L F d Ix Jx M5 v2 v5 (nI v6) M6 (m3 scr L F (d + 3) Ix Jx) c1.1.2.2.2.2.1.2.1 (nI C4) hCT6.2.1 (by rw [← efu]; exact hCT6.2.2.2.2.2.2))

  -- the called function
  have zM : ∀ z, 37 ≤ z → z ≤ 54 → M6 z = M z := fun z a b => by rw [hcf.2.2.2.1 z (by first | decide | omega) (by first | decide | omega), hE5.2.1 z a b, hE.2.1 z a b]
  have zM5 : ∀ z, 37 ≤ z → z ≤ 54 → M5 z = M z := fun z a b => by rw [hE5.2.1 z a b, hE.2.1 z a b]
  have z71 : M5 71 = M 71 := by rw [hE5.2.2.1, hE.2.2.1]
  have z671 : M6 71 = M 71 := by rw [hcf.2.2.2.1 71 (by first | decide | omega) (by first | decide | omega), z71]
  rw [zM5 41 (by first | decide | omega) (by first | decide | omega)] at hk6
  rw [zM5 42 (by first | decide | omega) (by first | decide | omega)] at hk7
  rw [z71] at hk9
  obtain ⟨of', cb1, cb2, cb3, cb4, cb5, cb6, cb7, cb8, cb9, cb10, cb11⟩ := node_F hR hk1 hk7 hk8 hk9 hte
  have eof : of' = 3 := nI_inj (by first | decide | omega) (by first | decide | omega) (cb1.symm.trans (hk6.trans nI_3.symm))
  subst eof
  obtain ⟨ts, bd, qbd, tbd, cf1, cf2, cf3, cf4, cf5, cf6⟩ := cb5.2.2.2.1 rfl
  obtain ⟨bp1, bp2, bp3, bp4, bp5, bp6, bp7, bp8, bp9, bp10, bp11⟩ := part_F hR hk1 hk7 cf1 (cb8 (by first | decide | omega))
  obtain ⟨h', w', hh', hw', htw'⟩ := hR.2.2.2.2.2.1 bd bp1
  have htt : tA M5 te = ts := by
    unfold tA
    rw [zM5 39 (by first | decide | omega) (by first | decide | omega), cf5]
    exact nI_clamp (by first | decide | omega)
  rw [htt] at c2 c6
  obtain ⟨M7, g7, k129, k71, k72, ⟨k73, k74, k75, k76, k77⟩, ⟨k78, k79, k80⟩, k81, k82, k83⟩ := call_M (bd := bd) m3 c1.1.2.2.2.2.1.2.1 hCT6.2.1 hCT6.2.2.2.2.2.2 hfu (by first | decide | omega) q12 (g := g) (by rw [hcf.2.2.2.2 44 (by first | decide | omega) (by first | decide | omega) (by first | decide | omega) (by first | decide | omega)]; exact s4) (by first | decide | omega) (fun M' e55 e56 e58 => hco.2.2.2.2.2 M' (fun v hv => by rw [e55, e56]; exact hk58.1 v hv) (fun w hw => by rw [e58]; exact hk58.2 w hw)) (by first | decide | omega) hCT6.2.2.1 (by rw [(hk58.1 e hk5).2]; exact hk2) (by first | decide | omega) (by rw [(c3.2.1 e hk5).2.2]; exact hk3) (by rw [zM 46 (by first | decide | omega) (by first | decide | omega)]; exact bp3)
  obtain ⟨j1, j2, j3, j4, j5, j6, j7, j8⟩ := call_I I6 C4 sf qbd
  have ext67 : ext M6 M7 Sg4 Sg4 fn4 (fun s => if s = C4 + 1 then nf else fn4 s) V6 V6 W6 W6 K4 K4 C4 (C4 + 1) := by
    refine ⟨⟨Nat.le_refl _, Nat.le_refl _, Nat.le_refl _, by omega⟩, fun v _ => ?_, fun w _ => ?_, fun _ _ => rfl, fun s h1 h2 => if_neg (by first | decide | omega), fun z hz => k71 z (by first | decide | omega) (by first | decide | omega)⟩
    · rw [k71 55 (by first | decide | omega) (by first | decide | omega), k71 56 (by first | decide | omega) (by first | decide | omega), k71 57 (by first | decide | omega) (by first | decide | omega)]
      exact ⟨rfl, rfl, rfl⟩
    · rw [k71 58 (by first | decide | omega) (by first | decide | omega), k71 59 (by first | decide | omega) (by first | decide | omega), k71 60 (by first | decide | omega) (by first | decide | omega), k71 61 (by first | decide | omega) (by first | decide | omega)]
      exact ⟨rfl, rfl, rfl, rfl⟩
  have hCT7 : CT (woI (wr (wr (wr I6 21 11 (nI (C4 + 1))) 33 (C4 + 1) (nI sf)) 21 15 (nI (C4 + 1))) (nI qbd)) M7 V6 W6 K4 (C4 + 1) fu P4 := by
    obtain ⟨a1, ⟨a2, a3, a4⟩, ⟨a5, a6, a7⟩, ⟨a8, a9, a10, a11, a12, a13, a14⟩, ⟨a15, a16, a17⟩, ⟨a18, a19, a20⟩⟩ := c1.1
    unfold CT
    rw [j1 22 (by first | decide | omega) (by first | decide | omega), j1 28 (by first | decide | omega) (by first | decide | omega), j1 29 (by first | decide | omega) (by first | decide | omega), j4 10 (by first | decide | omega) (by first | decide | omega) (by first | decide | omega) (by first | decide | omega), j4 12 (by first | decide | omega) (by first | decide | omega) (by first | decide | omega) (by first | decide | omega), j4 13 (by first | decide | omega) (by first | decide | omega) (by first | decide | omega) (by first | decide | omega), k72 31 (by first | decide | omega) (by first | decide | omega) (by first | decide | omega) (by first | decide | omega) (by first | decide | omega), k72 35 (by first | decide | omega) (by first | decide | omega) (by first | decide | omega) (by first | decide | omega) (by first | decide | omega), k72 49 (by first | decide | omega) (by first | decide | omega) (by first | decide | omega) (by first | decide | omega) (by first | decide | omega), k72 51 (by first | decide | omega) (by first | decide | omega) (by first | decide | omega) (by first | decide | omega) (by first | decide | omega), k72 52 (by first | decide | omega) (by first | decide | omega) (by first | decide | omega) (by first | decide | omega) (by first | decide | omega), k72 56 (by first | decide | omega) (by first | decide | omega) (by first | decide | omega) (by first | decide | omega) (by first | decide | omega), k71 70 (by first | decide | omega) (by first | decide | omega)]
    exact ⟨a1, ⟨a2, a3, a4⟩, ⟨a5, a6, a7⟩, ⟨j5, k73, k74, by omega, a12, a13, a14⟩, ⟨a15, a16, a17⟩, ⟨a18, a19, a20⟩⟩
  have fn7 : (fun s => if s = C4 + 1 then nf else fn4 s) (C4 + 1) = nf := if_pos rfl
  have henv7 : env M7 (fun s => if s = C4 + 1 then nf else fn4 s) nf sf := by
    refine env_X (C := C4) (M := M5) (fn := fn4) ?_ ?_ (fun s h1 h2 => if_neg (by first | decide | omega)) hk4 hk11
    · rw [k71 41 (by first | decide | omega) (by first | decide | omega), zM 41 (by first | decide | omega) (by first | decide | omega), zM5 41 (by first | decide | omega) (by first | decide | omega)]
    · rw [k71 45 (by first | decide | omega) (by first | decide | omega), zM 45 (by first | decide | omega) (by first | decide | omega), zM5 45 (by first | decide | omega) (by first | decide | omega)]
  have hD7 : DR (woI (wr (wr (wr I6 21 11 (nI (C4 + 1))) 33 (C4 + 1) (nI sf)) 21 15 (nI (C4 + 1))) (nI qbd)) (wrJ J6 34 (C4 + 1) x6) M7 Sg4 (fun s => if s = C4 + 1 then nf else fn4 s) N c V6 W6 K4 (C4 + 1) fu P4 S6 := by
    refine DR_N c1 hCT7 ext67 (fun z hz => j1 z (by first | decide | omega) (by first | decide | omega)) (wrJ_ne _ _ _ _ _ (by first | decide | omega)) (fun y hy => k72 y (by first | decide | omega) (by first | decide | omega) (by first | decide | omega) (by first | decide | omega) (by first | decide | omega)) (fun k hk => .inl ⟨hk, by rw [k71 69 (by first | decide | omega) (by first | decide | omega)], by rw [wrJ_ne _ _ _ _ _ (by first | decide | omega)]⟩) (fun s s1 s2 => ?_)
    by_cases es : s = C4 + 1
    · right
      subst es
      unfold SCk
      rw [fn7, wrJ_s]
      exact ⟨hk1, by rw [k71 41 (by first | decide | omega) (by first | decide | omega), zM 41 (by first | decide | omega) (by first | decide | omega)]; exact hk6, by rw [k78, k71 43 (by first | decide | omega) (by first | decide | omega)], ⟨ts, v6, cf2, by rw [k71 44 (by first | decide | omega) (by first | decide | omega), zM 44 (by first | decide | omega) (by first | decide | omega)]; exact cf3, k79, VR_X ext67 c2⟩, sf, k80, j3, by omega, henv7⟩
    · obtain ⟨x1, x2, x3⟩ := k81 s es
      exact .inl ⟨by omega, j2 s es, wrJ_q _ _ _ _ _ _ (by first | decide | omega), x1, x2, x3⟩
  have hF67 : rF fr g I6 (woI (wr (wr (wr I6 21 11 (nI (C4 + 1))) 33 (C4 + 1) (nI sf)) 21 15 (nI (C4 + 1))) (nI qbd)) J6 (wrJ J6 34 (C4 + 1) x6) M6 M7 Sg4 Sg4 fn4 (fun s => if s = C4 + 1 then nf else fn4 s) V6 V6 W6 W6 K4 K4 C4 (C4 + 1) S6 S6 := by
    refine ⟨⟨fun z _ b => j1 z (by first | decide | omega) (by first | decide | omega), fun z a b => k71 z (by first | decide | omega) (by first | decide | omega), k71 71 (by first | decide | omega) (by first | decide | omega), fun y b => k72 y (by first | decide | omega) (by first | decide | omega) (by first | decide | omega) (by first | decide | omega) (by first | decide | omega)⟩, ext67, fun _ z => z, fun z s hs => ?_, fun j _ => ⟨by rw [j1 30 (by first | decide | omega) (by first | decide | omega)], by rw [j1 31 (by first | decide | omega) (by first | decide | omega)], by rw [wrJ_ne _ _ _ _ _ (by first | decide | omega)]⟩, k82⟩
    by_cases es : s = C4 + 1
    · exact ⟨sf, by omega, by rw [es]; exact j3⟩
    · rw [j2 s es]
      exact z s hs
  have hF47 := rF_trans s2 (rF_trans (rF_c (fr := fr) (g := g) hcf c3 c5) hF67 (Nat.le_refl _) (Nat.le_refl _)) (Nat.le_refl _) (Nat.le_refl _)
  have hF7 := rF_trans q5' hF47 (Nat.le_refl _) (Nat.le_refl _)
  have hN47 : rN I4 (woI (wr (wr (wr I6 21 11 (nI (C4 + 1))) 33 (C4 + 1) (nI sf)) 21 15 (nI (C4 + 1))) (nI qbd)) J4 (wrJ J6 34 (C4 + 1) x6) M4 M7 st4 (st4 + 1) sr4 (sr4 + 1) := by
    refine rN_1 (fun scr L F d Mx mo A R z => ?_) (fun scr L F d Ix Jx mo A R z => ?_)
    · refine x_last scr L F d I4 J4 Mx mo st4 (by omega) q1.1.2.2.2.2.1.2.2 r16 fr qb q r6 (by omega) r14 l5 r30 hq (by rw [hE.1 8 (by omega) (by omega)]; exact l10) I5 J5 (s9 scr L F d Mx) (by rw [t21]; exact r14) (by rw [t21]; exact r6) (by rw [t30]; exact r30) qa p5 (by rw [s2.1.1 9 (by omega) (by omega), hE.1 9 (by omega) (by omega)]; exact p8) _ _ qab ?_ ?_ A R z
      · have k46 := c46_g scr L F (d + 1) I5 J5 Mx (J5 32 fr) x6 I6 J6 (k17 scr L F d Mx) c1.1.2.2.2.2.1.1 C4 fu hCT6.1 hCT6.2.2.2.2.2.1 hfu (by first | decide | omega) xe (by rw [t32, r32]; exact hco.2.2.2.2.1 I6 J6 c8 scr L F (d + 6) Mx) qf sf hk10 hk8 (by first | decide | omega) (nI qbd) (by rw [hcf.1 9 (by first | decide | omega) (by first | decide | omega) (by first | decide | omega) (by first | decide | omega) (by first | decide | omega), hE5.1 9 (by first | decide | omega) (by first | decide | omega), hE.1 9 (by first | decide | omega) (by first | decide | omega)]; exact bp8)
        exact c41_call scr L F (d + 1) I5 J5 Mx fr (by rw [t21]; exact r6) (by first | decide | omega) q (by rw [t30]; exact r30) hq (by rw [s2.1.1 7 (by omega) (by omega), hE.1 7 (by omega) (by omega)]; exact b2) _ _ k46
      · rw [j1 22 (by first | decide | omega) (by first | decide | omega)]
        exact c1.1.2.2.2.2.1.1
    · skip
      refine y_come scr L F d Ix Jx M4 mo sr4 (by omega) q1.1.2.2.2.2.1.2.1 r58 _ ?_ A R z
      refine o130_second scr L F d Ix Jx M4 g r44 (by omega) n (by omega) (by rw [wr_ap _ _ _ _ _ _ (by omega)]; exact r65) (nI v2) (by rw [wr_ap _ _ _ _ _ _ (by omega)]; exact r66) (by rw [wr_ap _ _ _ _ _ _ (by omega)]; exact r68) _ ?_
      exact s128_call scr L F d Ix Jx (wr M4 36 44 (nI g)) n a0 b0 (by omega) (by rw [wr_ap _ _ _ _ _ _ (by omega), hE.2.1 46 (by omega) (by omega)]; exact p3) (by omega) (by rw [wr_ap _ _ _ _ _ _ (by omega), hE.2.1 47 (by omega) (by omega)]; exact l3) (by omega) ta tb (tA M u) (by rw [wr_ap _ _ _ _ _ _ (by omega), hE.2.2.1]; exact p6) (by rw [wr_ap _ _ _ _ _ _ (by omega), hE.2.2.1]; exact l6) v v2 (by rw [wr_n2 _ _ _ _ _ (by omega)]; exact r60) (by rw [wr_ap _ _ _ _ _ _ (by omega), hE.2.1 41 (by omega) (by omega)]; exact b1) (kb scr L F (d + 10) Ix Jx _ (fun z hz => by rw [wr_ne _ _ _ _ _ (by omega)]; exact hE.2.1 z (by omega) (by omega)) (fun y hy => by rw [wr_n2 _ _ _ _ _ (by omega)]; exact hE.2.2.2 y hy)) (2 * nI q) (by rw [wr_ap _ _ _ _ _ _ (by omega), hE.2.1 42 (by omega) (by omega), h42]) v5 M5 (s10 scr L F (d + 6) Ix Jx) hD5.1.2.2.2.2.1.2.1 M7 (k129 scr L F d Ix Jx)

  have hN7 := rN_trans q6 hN47
  have hE7 := hF7.1
  have hg7 : g7 ≤ g + 1 := by
    rcases k83 with ⟨z, _⟩ | ⟨z, _⟩ <;> omega
  have hCC : C ≤ C4 := q5.2.1.1.2.2.2
  have tw7 := tw_F (hE7.1 6 (by first | decide | omega) (by first | decide | omega)) (fun z y1 y2 => hE7.2.1 z (by first | decide | omega) (by first | decide | omega)) h' w' bd htw'
  have en7 : env M7 (fun s => if s = C4 + 1 then nf else fn4 s) bd (C4 + 1) := env_body (by rw [hE7.2.1 45 (by first | decide | omega) (by first | decide | omega)]; exact bp9) bp2 (by rw [hE7.2.1 41 (by first | decide | omega) (by first | decide | omega)]; exact hk6) fn7 (by first | decide | omega)
  have w41 : W4 ≤ 200 := q1.1.2.1.2.2
  have w61 : W6 ≤ 200 := c1.1.2.1.2.2
  obtain ⟨a1', a2', a3', a4', a5', a6', a7', a8', a9', a10', a11', a12', a13', a14'⟩ := nc1 hφ hfu hCT6.2.2.2.2.1 hCC hfr hg hg7 hh' hw' k7 hB hst hsr n1 n2 n3 n4 (hlen ▸ s7) c4
  rcases ihφ (φ - 1) h' a1' hh' _ _ M7 Sg4 _ V6 W6 K4 (C4 + 1) P4 S6 (st4 + 1) (sr4 + 1) bd qbd (C4 + 1) (fr + 1) g7 w' tbd hD7 (PR_F hE7 hR) (LTs_F hF7 hL) (hF7.2.2.2.1 hS) bp1 tw7 (by rw [hE7.2.1 42 (by first | decide | omega) (by first | decide | omega)]; exact bp4) bp5 (by rw [hE7.2.2.1]; exact bp6) bp7 j8 j6 j7 (by rw [j4 6 (by first | decide | omega) (by first | decide | omega) (by first | decide | omega) (by first | decide | omega), v21, t21]; exact r6) k75 k76 k77 en7 (Nat.le_refl _) a2' hw' a3' a4' a5' a6' a7' a8' with z | z
  · exact .inl (rX_go hE7 hF7.2.2.2.1 hN7 a13' a14' z)
  obtain ⟨I8, J8, M8, Sg8, fn8, V8, W8, K8, C8, P8, S8, st8, sr8, x8, v8, f1', f2', f3', ⟨e16, e14, e15, e6, e17⟩, ⟨e58, e60, e44⟩, f6', f7', f8', f9', f10', f11'⟩ := z
  obtain ⟨d1', d2', d3', d4', d5', d6', d7', d8', d9', d10', d11', d12', d13', d14'⟩ := nc2 hfu hCT6.2.2.2.2.1 f1'.1.2.2.2.1.2.2.2.1 hw' k7 hB hst hsr n1 n2 n3 (hlen ▸ s7) c4 f8' f9' f10' f11'
  obtain ⟨a1, a2, a3⟩ := f2'.2.2.2.2.1 fr (Nat.lt_succ_self _)
  have i30 : I8 30 fr = nI q := by
    rw [a1, j1 30 (by first | decide | omega) (by first | decide | omega), v30, t30]
    exact r30
  have i31 : I8 31 fr = nI s := by
    rw [a2, j1 31 (by first | decide | omega) (by first | decide | omega), v31, t31]
    exact r31
  have j32 : J8 32 fr = x2 := by
    rw [a3, wrJ_ne _ _ _ _ _ (by first | decide | omega), v32, t32]
    exact r32
  have hF8 := rF_trans hF7 (rF_trans (fr := fr) (g := g) ⟨sE_refl _ _, ext_refl _ _ _ _ _ _ _, fun _ z => z, fun z => z, fun _ _ => ⟨rfl, rfl, rfl⟩, fun _ _ => ⟨rfl, rfl, rfl, rfl⟩⟩ f2' (Nat.le_succ _) (by rcases k83 with ⟨z, _⟩ | ⟨z, _⟩ <;> rw [z] <;> first | exact Nat.le_refl _ | exact Nat.le_succ _)) (Nat.le_refl _) (Nat.le_refl _)
  have hN8 := rN_trans hN7 f3'
  have hE8 := hF8.1
  have ext58 := ext_trans c3 (ext_trans ext67 f2'.2.1)
  have hvb8 := VB_X ext58 hvb
  have hCT8 := f1'.1.2.2.2.1
  have nq : ¬ nI qf = nI q := by
    intro z
    have e1 : qf = q := nI_inj (by first | decide | omega) (by first | decide | omega) z
    rw [e1, b2] at cb2
    have := nI_inj (by first | decide | omega) (by first | decide | omega) cb2
    omega
  have h88 : I8 8 qbd = nI qf := by
    rw [hE8.1 8 (by first | decide | omega) (by first | decide | omega)]
    exact bp10
  have hmI : mF I8 (wr I8 21 15 (nI s)) J8 J8 M8 M8 := ⟨fun z a _ _ => wr_ne _ _ _ _ _ a, fun y a => wr_n2 _ _ _ _ _ (by first | decide | omega), fun _ _ _ => rfl, fun _ _ _ => rfl, fun _ _ _ _ _ => rfl⟩
  have w81 : W8 ≤ 200 := f1'.1.2.1.2.2
  have hub8 : tbd = tB M8 te := by
    unfold tB
    rw [hE8.2.1 40 (by first | decide | omega) (by first | decide | omega), cf6]
    exact (nI_clamp (by first | decide | omega)).symm
  have hut8 : t = tB M8 u := by
    rw [ut]
    unfold tB
    rw [hE8.2.1 40 (by first | decide | omega) (by first | decide | omega)]
  have hV5 : v2 < V6 := by
    have := hvb.1
    have := c3.1.1
    omega
  have h558 : M8 55 v2 = M6 55 v2 := by
    have := (ext_trans ext67 f2'.2.1).2.1 v2 hV5
    exact this.1
  rcases k83 with ⟨eg, h4⟩ | ⟨eg, h4, k65, k68⟩
  · right
    subst eg
    have h48 : ¬ M8 55 v2 = 4 := by
      rw [h558]
      exact h4
    have h45 : ¬ M5 55 v2 = 4 := by
      rw [← (hk58.1 v2 hvb.1).1]
      exact h4
    have eu := core_p hD5.2.1 hN hKT4.2.2 hD5.1.2.1.2.2 hvb hco (by first | decide | omega) h45
    subst eu
    have ett : tbd = t := hub8.trans hut8.symm
    subst ett
    refine fin_0 hF8 hN8 (rF_m (fr := fr) (g := g7) hmI (fun j _ => ⟨by rw [wr_ap _ _ _ _ _ _ (by first | decide | omega)], by rw [wr_ap _ _ _ _ _ _ (by first | decide | omega)], rfl⟩) (fun _ _ => ⟨rfl, rfl, rfl, rfl⟩)) (DR_m hmI f1') (wr_s _ _ _ _) (by rw [wr_ap _ _ _ _ _ _ (by first | decide | omega)]; exact i30) e58 e60 e44 f6' f7' (fun scr L F d Mx mo A R z => ?_) (d1' _ _ (by rw [Nat.add_right_comm]; exact Nat.le_succ _)) d2' d4' d5'
    refine x_leave scr L F d I8 J8 Mx mo st8 d8' f1'.1.2.2.2.2.1.2.2 e16 fr qbd q e6 a9' e14 bp5 i30 hq (nI qf) h88 nq _ _ (c38 scr L F (d + 2) I8 J8 Mx fr e6 a9' (nI s) i31 x8 (wr I8 21 15 (nI s)) J8 ?_ ?_) ?_ A R z
    · rw [j32, e17]
      exact out_0 hvb8 h48 _ J8 x8 scr L F (d + 2) Mx
    · rw [wr_n2 _ _ _ _ _ (by first | decide | omega)]
      exact e6
    · rw [fi_ne _ _ _ (by first | decide | omega), wr_ap _ _ _ _ _ _ (by first | decide | omega)]
      exact f1'.1.2.2.2.2.1.1
  · subst eg
    obtain ⟨y1, y2, y3, y4⟩ := f2'.2.2.2.2.2 g (Nat.lt_succ_self _)
    have m65 : M8 65 g = -1 := y1.trans k65
    have m68 : M8 68 g = nI v2 := y4.trans k68
    have hm8 : mF I8 (wr I8 21 15 (nI s)) J8 J8 M8 (wr M8 36 44 (nI g)) := ⟨hmI.1, hmI.2.1, fun _ _ _ => rfl, fun z a _ => wr_ne _ _ _ _ _ a, fun y a _ _ _ => wr_n2 _ _ _ _ _ a⟩
    have hD9 := DR_m hm8 (DR_pay f1' ((6 : Int32), nI v8, nI (gr M8 tbd)))
    have hlen9 : (((6 : Int32), nI v8, nI (gr M8 tbd)) :: S8).length = S8.length + 1 := rfl
    have ext8 := ext_m (Sg := Sg8) (fn := fn8) (V := V8) (W := W8) (K := K8) (C := C8) hm8
    have hvb9 := VB_X ext8 hvb8
    have z389 : wr M8 36 44 (nI g) 38 u = 3 := by
      rw [wr_ap _ _ _ _ _ _ (by first | decide | omega), hE8.2.1 38 (by first | decide | omega) (by first | decide | omega)]
      exact u38
    obtain ⟨e', te', xe', hco9⟩ := core_ex hD9 d13' hvb9 (.inl z389)
    have hV99 := pigeon (row M8) V8 S8 f1'.2.2.2.2.2.1 f1'.2.2.2.2.2.2
    have ext59 := ext_trans ext58 ext8
    have he9 := hco9.1.1
    have ee : e' = e := core_1 (I := I8) hco (by first | decide | omega) (fun v hv => ⟨(ext59.2.1 v hv).1, (ext59.2.1 v hv).2.1⟩) (fun w hw => (ext59.2.2.1 w hw).1) (by first | decide | omega) (hco9.2.2.2.2.2 _ (fun _ _ => ⟨rfl, rfl⟩) (fun _ _ => rfl) (fun _ => 0) 0 0 0 I8 J5)
    subst ee
    have et : te' = te := VB_t hD9.2.1 hN hD9.1.2.2.1.2.2 hD9.1.2.1.2.2 hco9.1 (VB_X ext59 hco.1)
    subst et
    have hub9 : rT (wr M8 36 44 (nI g)) 1 te' = tbd := by
      rw [rT_1, hub8]
      unfold tB
      rw [wr_ap _ _ _ _ _ _ (by first | decide | omega)]
    have hut9 : rT (wr M8 36 44 (nI g)) 1 u = t := by
      rw [rT_1, hut8]
      unfold tB
      rw [wr_ap _ _ _ _ _ _ (by first | decide | omega)]
    obtain ⟨x9, v9, I9, J9, M9, w1', w2', w3'⟩ := out_ok (b0 := 1) hN hD9 hvb9 (.inl ⟨rfl, z389⟩) hco9 (by rw [hub9]; exact VR_X ext8 f6') (by rw [hub9]; exact pd_X (wr_ne _ _ _ _ _ (by first | decide | omega)) (fun _ y => y) (.inr List.mem_cons_self)) f7' d12'
    have hcf9 : cF (wr I8 21 15 (nI s)) I9 J8 J9 (wr M8 36 44 (nI g)) M9 := by
      rcases w1' with ⟨_, z⟩ | ⟨_, z, _⟩
      · exact z
      · exact z
    have i921 : I9 21 = wr I8 21 15 (nI s) 21 := hcf9.1 21 (by first | decide | omega) (by first | decide | omega) (by first | decide | omega) (by first | decide | omega) (by first | decide | omega)
    have k38 : ∀ (scr : Nat → Int32) (L F d : Nat) (Mx : am_I), am_r scr L (F + 200000) (d + 10) 38 [.ref 22] (hp I8 J8 Mx) = some (none, hp (fiI I9 fr) (wrJ J9 21 17 x9) Mx, 0, 0) := by
      intro scr L F d Mx
      refine c38 scr L F (d + 2) I8 J8 Mx fr e6 a9' (nI s) i31 x9 I9 J9 ?_ ?_
      · rw [j32, e17]
        exact w2' scr L F (d + 2) Mx
      · rw [i921, wr_n2 _ _ _ _ _ (by first | decide | omega)]
        exact e6
    have k130 : ∀ (scr : Nat → Int32) (L F d : Nat) (Ix : am_I) (Jx : am_J), am_r scr L (F + 200000) (d + 13) 130 [.ref 37] (hp Ix Jx M8) = some (none, hp Ix Jx (gvM M9 (nI v9)), 0, 0) := fun scr L F d Ix Jx => o130_out scr L F d Ix Jx M8 g e44 a10' (by rw [wr_ap _ _ _ _ _ _ (by first | decide | omega)]; exact m65) v2 v8 _ rfl (by rw [wr_ap _ _ _ _ _ _ (by first | decide | omega)]; exact m68) (by rw [wr_n2 _ _ _ _ _ (by first | decide | omega)]; exact e60) (nI v9) M9 (w3' scr L F (d + 5) Ix Jx)
    rcases w1' with ⟨⟨V9, W9, S9, c1', c2', c3', c4', c5', c6', c7', c8'⟩, _⟩ | ⟨c1', _, _⟩
    · right
      rw [hut9] at c2'
      refine fin_v (S1 := ((6 : Int32), nI v8, nI (gr M8 tbd)) :: S8) (rF_trans hF8 (rF_S (fr := fr) (g := g) (fun τ z => List.mem_cons_of_mem _ z)) (Nat.le_refl _) (Nat.le_refl _)) hN8 (rF_trans (rF_m (fr := fr) (g := g) hm8 (fun j _ => ⟨by rw [wr_ap _ _ _ _ _ _ (by first | decide | omega)], by rw [wr_ap _ _ _ _ _ _ (by first | decide | omega)], rfl⟩) (fun _ _ => ⟨wr_ap _ _ _ _ _ _ (by first | decide | omega), wr_ap _ _ _ _ _ _ (by first | decide | omega), wr_ap _ _ _ _ _ _ (by first | decide | omega), wr_ap _ _ _ _ _ _ (by first | decide | omega)⟩)) (rF_c (fr := fr) (g := g) hcf9 c3' c5') (Nat.le_refl _) (Nat.le_refl _)) c1' (by rw [i921]; exact wr_s _ _ _ _) (by rw [hcf9.1 30 (by first | decide | omega) (by first | decide | omega) (by first | decide | omega) (by first | decide | omega) (by first | decide | omega), wr_ap _ _ _ _ _ _ (by first | decide | omega)]; exact i30) (by rw [hcf9.2.2.2.2 44 (by first | decide | omega) (by first | decide | omega) (by first | decide | omega) (by first | decide | omega)]; exact wr_s _ _ _ _) c2' c7' (fun scr L F d Mx mo A R z => ?_) (fun scr L F d Ix Jx mo A R z => ?_) (d1' _ _ c4') d2' d3' d5'
      · refine x_leave scr L F d I8 J8 Mx mo st8 d8' f1'.1.2.2.2.2.1.2.2 e16 fr qbd q e6 a9' e14 bp5 i30 hq (nI qf) h88 nq _ _ (k38 scr L F d Mx) ?_ A R z
        rw [fi_ne _ _ _ (by first | decide | omega)]
        exact c1'.1.2.2.2.2.1.1
      · exact y_come scr L F d Ix Jx M8 mo sr8 d9' f1'.1.2.2.2.2.1.2.1 e58 _ (k130 scr L F d Ix Jx) A R z
    · left
      refine rX_go hE8 hF8.2.2.2.1 hN8 d10' d11' (rX_bad (I1 := I9) (I2 := fiI I9 fr) (J2 := wrJ J9 21 17 x9) (M1 := M9) (M2 := gvM M9 (nI v9)) f1' c1' (fi_ne _ _ _ (by first | decide | omega)) (gvM_ne _ _ _ (by first | decide | omega) (by first | decide | omega)) (gvM_ne _ _ _ (by first | decide | omega) (by first | decide | omega)) (rkI_trans (rkI_m hm8) (rkI_trans (rkI_c hcf9) (rkI_f I9 fr))) (rkM_trans (rkM_m hm8) (rkM_trans (rkM_c hcf9) (rkM_g _ _))) f11' d6' d7' (fun scr L F d Mx mo e R e1 e2 z => ?_) (fun scr L F d Ix Jx mo R z => ?_))
      · exact x_leave_s scr L F d I8 J8 Mx mo st8 d8' f1'.1.2.2.2.2.1.2.2 e16 fr qbd q e6 a9' e14 bp5 i30 hq (nI qf) h88 nq _ _ (k38 scr L F d Mx) e e1 e2 80 R z
      · exact y_come scr L F d Ix Jx M8 mo sr8 d9' f1'.1.2.2.2.2.1.2.1 e58 _ (k130 scr L F d Ix Jx) 40 R z

