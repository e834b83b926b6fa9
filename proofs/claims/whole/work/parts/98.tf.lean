/-! check: the call; run: the call. -/
theorem ck_gone {I : am_I} {J : am_J} {M I1 M1 I2 M2 I3 M3 I4 M4 : am_I} {c : Nat} (hR : Rel0 I J M) (hF : wF (clI (ckI I)) I1) (hG : wG (Mb M) M1) (hX : tyX (clI (ckI I)) (Mb M) I1 M1 5) (e1 : I2 = wr I1 18 2 0) (e2 : M2 = wr (wr M1 36 26 (nI 0)) 36 0 0) (k1 : kF I2 I3) (k2 : kG M2 M3) (k3 : tyX I2 M2 I3 M3 c) (hc : 5 ≤ c) (f1 : ∀ z, ¬ z = 0 → I4 z = I3 z) (f2 : ∀ z, ¬ z = 36 → ¬ z = 53 → ¬ z = 54 → M4 z = M3 z) (f3 : ∀ y, ¬ y = 25 → ¬ y = 27 → ¬ y = 28 → M4 36 y = M3 36 y) (a7 : I4 0 5 = M4 36 27) (a9 : (I4 0 4 = 0 ∧ M4 36 25 = 0 ∧ M4 36 28 = 0) ∨ (I4 0 4 = 1 ∧ M4 36 25 = 1 ∧ RD I4 M4)) : Rel0 I4 J M4 := by
  obtain ⟨_, hm⟩ := id hR
  have hs := Rst_m.mp hm
  obtain ⟨j1, j2, j3, j4, j5⟩ := clI_r (ckI I)
  obtain ⟨m1, m2, m3, m4, m5, m6⟩ := Mb_r M
  obtain ⟨_, _, _, n0⟩ := n5s
  have hI2 : ∀ z, ¬ z = 18 → I2 z = I1 z := fun z hz => by
    rw [e1, wr_ne _ _ _ _ _ hz]
  have hM2 : ∀ z, ¬ z = 36 → M2 z = M1 z := fun z hz => by
    rw [e2, wr_ne _ _ _ _ _ hz, wr_ne _ _ _ _ _ hz]
  have h36 : ∀ y, ¬ y = 26 → ¬ y = 0 → M2 36 y = M1 36 y := fun y a b => by
    rw [e2, wr_n2 _ _ _ _ _ b, wr_n2 _ _ _ _ _ a]
  have q1 : ∀ x, 18 < x → I4 x = ckI I x := fun x hx => by
    rw [f1 x (by omega), funext (fun q => k1 x q (by omega)), hI2 x (by omega)]
    exact (funext (fun q => hF x q (by omega))).trans (j5 x (by omega) (by omega) (by omega))
  have q2 : ∀ x, x = 37 ∨ (54 < x ∧ ¬ x = 71) → M4 x = cp M x := fun x hx => by
    rw [f2 x (by omega) (by omega) (by omega), funext (fun q => k2.1 x q (by omega) (by omega) (by omega) (by omega)), hM2 x (by omega)]
    exact (funext (fun q => hG.1 x q (by omega))).trans (m5 x (by omega))
  have q3 : ∀ y, 28 < y → M4 36 y = cp M 36 y := fun y hy => by
    rw [f3 y (by omega) (by omega) (by omega), k2.2 y (by omega), h36 y (by omega) (by omega)]
    exact (hG.2 y (by omega) (by omega) (by omega) (by omega) (by omega) (by omega)).trans (m6 y (by omega) (by omega) (by omega) (by omega))
  refine ck_fin hR ?_ ?_ q1 (q2 37 (by omega)) (q2 70 (by omega)) q3 a7 ?_ a9
  · rw [f1 18 (by omega), k1 18 2 (by omega), e1]
    exact wr_s _ _ _ _
  · rw [f3 0 (by omega) (by omega) (by omega), k2.2 0 (by omega), e2]
    exact wr_s _ _ _ _
  · have hb1 := bs_X hX (ty5 hs.1).2
    have hb2 : bs I2 M2 := by
      unfold bs at hb1 ⊢
      rw [hI2 3 (by omega), hI2 4 (by omega), hI2 5 (by omega), hI2 6 (by omega), hM2 38 (by omega)]
      exact hb1
    have hb3 := bs_X (fun t ht => k3 t (by omega)) hb2
    unfold bs at hb3 ⊢
    rw [f1 3 (by omega), f1 4 (by omega), f1 5 (by omega), f1 6 (by omega), f2 38 (by omega) (by omega) (by omega)]
    exact hb3
theorem ok_check (F d : Nat) : CallOk Rel0 (F + 63000) (d + 123) 3 111 [] := by
  intro scr L I J M hR
  obtain ⟨⟨n, n1, n2, n3, n4, n5⟩, hm⟩ := id hR
  have hs := Rst_m.mp hm
  obtain ⟨i1, i2, _⟩ := ckI_r I
  obtain ⟨j1, j2, j3, j4, j5⟩ := clI_r (ckI I)
  obtain ⟨_, ⟨c1, c2, c3, _⟩, _, _, _⟩ := cp_r M
  obtain ⟨m1, m2, m3, m4, m5, m6⟩ := Mb_r M
  obtain ⟨w5, w1, w2, w0⟩ := n5s
  have hE := rd0 hs.1 n1 n2 n3 n4 n5
  have dA : d + 21 + 40 + 3 * 20 = d + 1 + 120 := by omega
  rcases ex_all 20 (clI (ckI I)) (Mb M) n 0 5 0 0 0 1 (-1) (-1) hE rfl rfl (.inl ⟨rfl, rfl⟩) (.inl ⟨rfl, rfl⟩) with ⟨I1, M1, f1, f2, f3, kc, kr⟩ | ⟨I1, M1, p, c, N, K, ⟨g1, g2, g3, g4, g5, g6, g7, g8, g9, g10, g11, g12, g13⟩, kc, kr⟩
  · have A1 := kc scr L F (d + 21) J M
    rw [dA, w1] at A1
    have A2 := c58_f scr L F (d + 1) (ckI I) J M I1 A1
    have A3 := c3_1 scr L F d I J M I1 A2
    have B1 := r109_go scr L F (d + 91) (wr I1 18 2 0) J (cp M) _ _ (by omega) (kr scr L F (d + 91) (wr I1 18 2 0) J)
    have B2 := r111_f scr L F (d + 77) (wr I1 18 2 0) J M M1 B1
    exact ⟨1, wr I1 18 2 0, J, wr M1 36 0 0, A3, B2, ck_no hR f1 f2 f3 (fun _ _ => rfl) (fun _ _ => rfl)⟩
  · have A1 := kc scr L F (d + 21) J M
    rw [dA, w1, w0] at A1
    have hp100 := g1.1.1.2.2.1
    have A2 := c58_g scr L F (d + 1) (ckI I) J M I1 n p g1.1.1 A1
    have hN : N ≤ 100 := by
      have := g1.2.1
      have := g1.1.2.2.2.1
      have := g1.1.2.2.2.2.1.1
      omega
    have B0 := fun (Ix : am_I) => kr scr L F (d + 91) Ix J 100 _ (q_root scr L F (d + 91) Ix J M1 M1 (N - 1) 0 0 (by omega) none n p (g1.2.2.2.1.trans w0) g1.1.2.1)
    have B1 := fun (Ix : am_I) => r109_go scr L F (d + 91) Ix J (cp M) _ _ (by omega) (B0 Ix)
    by_cases hpn : p = n
    · rw [if_pos hpn] at A2 B1
      obtain ⟨hK0, hdn, h12, h18, hK⟩ := sk0 (I2 := wr I1 18 2 0) (M2 := wr (wr M1 36 26 (nI 0)) 36 0 0) g1 g3 g9 (fun z hz => wr_ne _ _ _ _ _ hz) (fun z hz => by rw [wr_ne _ _ _ _ _ hz, wr_ne _ _ _ _ _ hz]) (fun y a b => by rw [wr_n2 _ _ _ _ _ b, wr_n2 _ _ _ _ _ a])
      have hc5 : 5 ≤ c := g5
      rcases ck_loop hdn K 0 c _ _ (Nat.zero_add K) hK0 h12 h18 with ⟨I3, M3, qa, q1, q2, q3, q4, k20, k11⟩ | ⟨I3, M3, c', q1, q2, q3, q4, k20, k11⟩
      · have A3 := c20_go scr L F (d + 76) (wr I1 18 2 0) J M _ _ (by omega) (k20 scr L F (d + 76) J M)
        have A4 := c3_2 scr L F d I J M I1 I3 A2 qa q1 A3
        have B2 := r111_g scr L F (d + 77) (wr I3 0 5 (nI qa)) J M _ (B1 (wr I3 0 5 (nI qa))) _ _ (by omega) (k11 scr L F (d + 77) (wr I3 0 5 (nI qa)) J)
        refine ⟨2, _, J, _, A4, B2, ck_gone hR (wF_00 g7) (wG_00 g8) g6 rfl rfl q2 q3 q4 hc5 (fun z hz => wr_ne _ _ _ _ _ hz) (fun z a _ _ => wr_ne _ _ _ _ _ a) (fun y _ a _ => wr_n2 _ _ _ _ _ a) ((wr_s _ _ _ _).trans (wr_s _ _ _ _).symm) (.inl ⟨?_, ?_, ?_⟩)⟩
        · rw [wr_n2 _ _ _ _ _ (by omega), q2 0 4 (by omega), wr_ap _ _ _ _ _ _ (by omega)]
          exact (wF_00 g7 0 4 (by omega)).trans ((congrFun (j5 0 (by omega) (by omega) (by omega)) 4).trans i1)
        · rw [wr_n2 _ _ _ _ _ (by omega), q3.2 25 (by omega), wr_n2 _ _ _ _ _ (by omega), wr_n2 _ _ _ _ _ (by omega)]
          exact ((wG_00 g8).2 25 (by omega) (by omega) (by omega) (by omega) (by omega) (by omega)).trans ((m6 25 (by omega) (by omega) (by omega) (by omega)).trans c1)
        · rw [wr_n2 _ _ _ _ _ (by omega), q3.2 28 (by omega), wr_n2 _ _ _ _ _ (by omega), wr_n2 _ _ _ _ _ (by omega)]
          exact ((wG_00 g8).2 28 (by omega) (by omega) (by omega) (by omega) (by omega) (by omega)).trans ((m6 28 (by omega) (by omega) (by omega) (by omega)).trans c3)
      · have A3 := c20_go scr L F (d + 76) (wr I1 18 2 0) J M _ _ (by omega) (k20 scr L F (d + 76) J M)
        have A4 := c3_0 scr L F d I J M I1 I3 A2 A3
        obtain ⟨hPR, hN0, hTN⟩ := PR_of hdn q1
        obtain ⟨q, o, t, t1, t2, t3, t4, t5, t6, t7, t8, t9⟩ := hTN 0 hN0
        obtain ⟨h, w, u1, u2, u3⟩ := q1.1.2.2.2.2.2.2 0 hN0
        have hhb := (t8 h w u3).1
        obtain ⟨M4, v1, v2, v3, v4⟩ := r98_go (I1 := I3) hPR.2.1 t6 hhb
        have e26 : M3 36 26 = nI 0 := by
          rw [q3.2 26 (by omega), wr_n2 _ _ _ _ _ (by omega)]
          exact wr_s _ _ _ _
        have e18 : M3 36 18 = nI K := (q3.2 18 (by omega)).trans h18
        have e42 : M3 42 0 = nI 0 := by
          rw [q3.1 42 0 (by omega) (by omega) (by omega) (by omega), wr_ap _ _ _ _ _ _ (by omega), wr_ap _ _ _ _ _ _ (by omega)]
          exact g10
        have e45 : M3 45 0 = -1 := by
          rw [q3.1 45 0 (by omega) (by omega) (by omega) (by omega), wr_ap _ _ _ _ _ _ (by omega), wr_ap _ _ _ _ _ _ (by omega)]
          exact g12
        have hq0 : q = 0 := nI_inj (by omega) (by omega) (t1.symm.trans e42)
        have B2 := r111_g scr L F (d + 77) (wr (wr I3 0 5 (-1)) 0 4 1) J M _ (B1 (wr (wr I3 0 5 (-1)) 0 4 1)) _ _ (by omega) (k11 scr L F (d + 77) (wr (wr I3 0 5 (-1)) 0 4 1) J 60 _ (h11_end scr L F (d + 77) (wr (wr I3 0 5 (-1)) 0 4 1) J M3 K K e18 hK rfl 0 t e26 (by omega) t5 M4 (v4 scr L F (d + 77) (wr (wr I3 0 5 (-1)) 0 4 1) J)))
        have hI4 : ∀ z, ¬ z = 0 → wr (wr I3 0 5 (-1)) 0 4 1 z = I3 z := fun z hz => by
          rw [wr_ne _ _ _ _ _ hz, wr_ne _ _ _ _ _ hz]
        have hM4 : ∀ z, ¬ z = 36 → ¬ z = 53 → ¬ z = 54 → wr M4 36 25 1 z = M3 z := fun z a b c => by
          rw [wr_ne _ _ _ _ _ a]
          exact puF_r v1 b c a
        have h36 : ∀ y, ¬ y = 25 → ¬ y = 28 → wr M4 36 25 1 36 y = M3 36 y := fun y a b => by
          rw [wr_n2 _ _ _ _ _ a]
          exact v1 36 y (by omega) (by omega) (fun z => b z.2)
        have hsP : sP I3 (wr (wr I3 0 5 (-1)) 0 4 1) M3 (wr M4 36 25 1) := ⟨fun z a b => hI4 z (by omega), fun z a b => hM4 z (by omega) (by omega) (by omega), hM4 71 (by omega) (by omega) (by omega), h36 2 (by omega) (by omega), h36 6 (by omega) (by omega), h36 7 (by omega) (by omega)⟩
        have x38 := hM4 38 (by omega) (by omega) (by omega)
        have x39 := hM4 39 (by omega) (by omega) (by omega)
        have x40 := hM4 40 (by omega) (by omega) (by omega)
        have x6 := tln_I (hI4 6 (by omega)) t
        refine ⟨0, _, J, _, A4, B2, ck_gone hR (wF_00 g7) (wG_00 g8) g6 rfl rfl q2 q3 q4 hc5 hI4 hM4 (fun y a _ b => h36 y a b) ?_ (.inr ⟨wr_s _ _ _ _, wr_s _ _ _ _, ⟨c', 19 + h, t, tyR_P hsP hPR.2.1, t6, hb_eq x38 x39 x40 hhb, by omega, ?_, ?_, fun j hj => ?_⟩, N, c', PR_P hsP hPR, hN0, ?_, ?_, ?_⟩)⟩
        · rw [wr_n2 _ _ _ _ _ (by omega), wr_s, h36 27 (by omega) (by omega), q3.2 27 (by omega), wr_n2 _ _ _ _ _ (by omega), wr_n2 _ _ _ _ _ (by omega)]
          exact (((wG_00 g8).2 27 (by omega) (by omega) (by omega) (by omega) (by omega) (by omega)).trans ((m6 27 (by omega) (by omega) (by omega) (by omega)).trans c2)).symm
        · rw [hI4 15 (by omega), ← hq0]
          exact t7
        · rw [x6, wr_n2 _ _ _ _ _ (by omega)]
          exact v2
        · rw [wr_ap _ _ _ _ _ _ (by omega), wt_M x38 x39 x40]
          exact v3 j (by rw [← x6]; exact hj)
        · rw [hM4 42 (by omega) (by omega) (by omega)]
          exact e42
        · rw [hM4 45 (by omega) (by omega) (by omega)]
          exact e45
        · rw [h36 26 (by omega) (by omega)]
          exact e26
    · rw [if_neg hpn] at A2 B1
      have A3 := c3_1 scr L F d I J M I1 A2
      have B2 := r111_f scr L F (d + 77) (wr I1 18 2 0) J M _ (B1 (wr I1 18 2 0))
      exact ⟨1, wr I1 18 2 0, J, _, A3, B2, ck_no hR (wF_00 g7) (wG_00 g8) g6 (fun z hz => wr_ne _ _ _ _ _ hz) (fun y hy => wr_n2 _ _ _ _ _ hy)⟩
theorem ok_run (F d : Nat) (k : Int32) : CallOk Rel0 (F + 9000000) (d + 14) 6 131 [.int k] := by
  intro scr L I J M hR
  obtain ⟨hrt, hm⟩ := id hR
  have hs := Rst_m.mp hm
  obtain ⟨h1, h2, h3, h4, h5, ⟨P, p1, p2, p3, p4⟩, h7, h8, h9, h10, h11⟩ := id hs
  have no : (I 0 4 = 0 ∧ M 36 25 = 0) ∨ k < 0 ∨ 40 < k → ∃ (v : Int32) (I1 : am_I) (J1 : am_J) (M1 : am_I), am_r scr L (F + 9000000) (d + 14) 6 (.ref 1 :: [.int k]) (hp I J M) = some (some (.int v), hp I1 J1 M, 0, 0) ∧ am_r scr L (F + 9000000) (d + 14) 131 (.ref 37 :: [.int k]) (hp I1 J1 M) = some (some (.int v), hp I1 J1 M1, 0, 0) ∧ Rel0 I1 J1 M1 := by
    intro z
    have A := c6_no scr L (F + 8999800) (d + 13) I J M k (z.imp_left (fun y => y.1))
    have B := r131_no scr L (F + 8999800) (d + 13) I J M k (z.imp_left (fun y => y.2))
    rw [show F + 8999800 + 200 = F + 9000000 by omega] at A B
    exact ⟨-1, I, J, M, A, B, hR⟩
  by_cases z1 : k < 0
  · exact no (.inr (.inl z1))
  by_cases z2 : 40 < k
  · exact no (.inr (.inr z2))
  rcases h11 with ⟨a, b, _⟩ | ⟨a, b, hRD⟩
  · exact no (.inl ⟨a, b⟩)
  obtain ⟨x, x1, rfl⟩ := nI_of z1
  have hx : x ≤ 40 := by
    refine Nat.le_of_not_lt (fun y => z2 ?_)
    exact nI_lt (a := 40) y x1
  obtain ⟨r1, N, c, r2, r3, r4, r5, r6⟩ := hRD
  obtain ⟨I', J', M', e, ⟨o1, o2, o3, o4, o5, o6, o7, o8, o9, o10⟩, ka, kb⟩ := run_ok (J := J) r2 r3 r4 r5 r6 b h2 p4 hx
  have A := c6_go scr L F (d + 2) I J M x hx a e I' J' (ka scr L F (d + 2) M)
  have B := kb scr L F d I' J'
  refine ⟨e, I', J', M', A, B, Rel_mk ?_ ⟨?_, o2, ?_, o6, o7, o8, ?_, ?_, ?_, ?_, ?_⟩⟩
  · obtain ⟨n, n1, n2, n3, n4, n5⟩ := hrt
    refine ⟨n, n1, ?_, ?_, ?_, ?_⟩
    · rw [o1.1 18 (by omega) (by omega)]
      exact n2
    · rw [o1.2.2.2 0 (by omega)]
      exact n3
    · rw [o1.2.1 37 (by omega) (by omega), o1.1 19 (by omega) (by omega)]
      exact n4
    · rw [o1.1 19 (by omega) (by omega)]
      exact n5
  · unfold bs at h1 ⊢
    rw [o1.1 3 (by omega) (by omega), o1.1 4 (by omega) (by omega), o1.1 5 (by omega) (by omega), o1.1 6 (by omega) (by omega), o1.2.1 38 (by omega) (by omega)]
    exact h1
  · rw [o1.1 0 (by omega) (by omega), o1.2.2.2 27 (by omega)]
    exact h3
  · rw [o4, o5]
  · rw [o4, o5]
  · rw [o4]
    exact o9
  · rw [o4]
    exact o10
  · right
    rw [o1.1 0 (by omega) (by omega), o1.2.2.2 25 (by omega)]
    refine ⟨a, b, RD_P ⟨fun z a b => o1.1 z (by omega) (by omega), fun z a b => o1.2.1 z (by omega) (by omega), o1.2.2.1, o1.2.2.2 2 (by omega), o1.2.2.2 6 (by omega), o1.2.2.2 7 (by omega)⟩ (o1.2.2.2 28 (by omega)) (o1.2.2.2 26 (by omega)) (o1.2.1 53 (by omega) (by omega)) ⟨r1, N, c, r2, r3, r4, r5, r6⟩⟩
theorem ok_le {Rel : am_I → am_J → am_I → Prop} {F d F' d' a b : Nat} {as : List Value} (h : CallOk Rel F d a b as) (hF : F = F') (hd : d = d') : CallOk Rel F' d' a b as := by
  subst hF
  subst hd
  exact h
theorem pure_all {L : Nat} (hL : L ≤ 1536) (xs : Nat → Int32) : ∃ (F d k n : Nat) (h' : am_H), d ≤ 1300 ∧ k ≤ 600000 ∧ n ≤ 7302250 ∧ am_f d xs L (am_r xs L F d) 0 F 0 [(0, .ref 0)] [] [] = some (some (.int 1), h', k, n) :=
  pure_of Rel0 9100000 1000 (by omega) (by omega) Rel_0
    (fun w => ok_le (ok_write Rst 9100000 1004 w) (by omega) (by omega))
    (ok_le (ok_check 9038000 883) (by omega) (by omega))
    (ok_le (ok_pos Rel0 (fun I J M h => (Rst_m.mp h.2).2.2.1) 9100900 1005) (by omega) (by omega))
    (fun k => ok_le (ok_type Rel0 (fun I J M h => by
      obtain ⟨_, _, _, _, _, _, _, _, _, _, h11⟩ := Rst_m.mp h.2
      rcases h11 with ⟨a, _, b⟩ | ⟨a, _, b⟩
      · exact .inl ⟨a, b⟩
      · exact .inr ⟨a, b.1⟩) 9095000 1000 k) (by omega) (by omega))
    (fun k => ok_le (ok_run 101000 992 k) (by omega) (by omega))
    (fun k => ok_le (ok_result Rel0 (fun I J M h => by
      obtain ⟨_, _, _, _, _, _, h7, _, _, h10, _⟩ := Rst_m.mp h.2
      exact ⟨h7, h10⟩) 9081000 1003 k) (by omega) (by omega))
    (ok_le (ok_blamed Rel0 (fun I J M h => by
      obtain ⟨_, _, _, _, _, _, _, h8, h9, _, _⟩ := Rst_m.mp h.2
      exact ⟨h8, h9⟩) 9100900 1005) (by omega) (by omega))
    (fun k => ok_le (ok_output Rel0 (fun I J M h => (Rst_m.mp h.2).2.2.2.2.2.1) 9100800 1004 k) (by omega) (by omega))
    (ok_le (ok_calls Rel0 (fun I J M h => (Rst_m.mp h.2).2.2.2.2.1) 9100900 1005) (by omega) (by omega))
    (ok_le (ok_stored Rel0 (fun I J M h => (Rst_m.mp h.2).2.2.2.1) 9100900 1005) (by omega) (by omega))
    hL xs
