/-! check, alike on both sides. -/
def Mb (M : am_I) : am_I := wr (wr (wr (wr (cp M) 36 20 0) 36 8 0) 36 21 0) 36 18 0
theorem Mb_r (M : am_I) : Mb M 36 20 = 0 ∧ Mb M 36 8 = 0 ∧ Mb M 36 21 = 0 ∧ Mb M 36 18 = 0 ∧ (∀ z, ¬ z = 36 → Mb M z = cp M z) ∧ ∀ y, ¬ y = 20 → ¬ y = 8 → ¬ y = 21 → ¬ y = 18 → Mb M 36 y = cp M 36 y := by
  refine ⟨?_, ?_, ?_, ?_, fun z a => ?_, fun y a b c d => ?_⟩
  · simp [Mb, wr, va_up, upd]
  · simp [Mb, wr, va_up, upd]
  · simp [Mb, wr, va_up, upd]
  · simp [Mb, wr, va_up, upd]
  · simp [Mb, wr, va_up, a]
  · simp [Mb, wr, va_up, upd, a, b, c, d]
theorem n5s : nI 5 = 5 ∧ nI 1 = 1 ∧ nI 2 = 2 ∧ nI 0 = 0 := by decide +kernel
theorem ty5 {I M : am_I} (h : bs I M) : tyR (clI (ckI I)) (Mb M) 5 ∧ bs (clI (ckI I)) (Mb M) := by
  obtain ⟨_, _, _, _, _, _, i1⟩ := ckI_r I
  obtain ⟨j1, _, _, _, j2⟩ := clI_r (ckI I)
  obtain ⟨⟨c1, c2, c3⟩, _, ⟨c4, c5, c6, c7, c8, c9, c10, c11, c12⟩, _, _⟩ := cp_r M
  obtain ⟨_, _, _, _, m1, m2⟩ := Mb_r M
  have e3 : clI (ckI I) 3 = I 3 := (j2 3 (by omega) (by omega) (by omega)).trans (i1 3 (by omega) (by omega) (by omega))
  have e4 : clI (ckI I) 4 = I 4 := (j2 4 (by omega) (by omega) (by omega)).trans (i1 4 (by omega) (by omega) (by omega))
  have e5 : clI (ckI I) 5 = I 5 := (j2 5 (by omega) (by omega) (by omega)).trans (i1 5 (by omega) (by omega) (by omega))
  have e6 : clI (ckI I) 6 = I 6 := (j2 6 (by omega) (by omega) (by omega)).trans (i1 6 (by omega) (by omega) (by omega))
  have f38 := m1 38 (by omega)
  have f39 := m1 39 (by omega)
  have f40 := m1 40 (by omega)
  obtain ⟨n5, n1, n2, n0⟩ := n5s
  have hB : bs (clI (ckI I)) (Mb M) := by
    unfold bs
    rw [e3, e4, e5, e6, f38, c4]
    exact h
  refine ⟨⟨by omega, by omega, j1.trans n5.symm, (m2 2 (by omega) (by omega) (by omega) (by omega)).trans c1, (m2 6 (by omega) (by omega) (by omega) (by omega)).trans c2, (m2 7 (by omega) (by omega) (by omega) (by omega)).trans c3, fun t ht => ?_, fun t h3 h5 => ?_, ?_⟩, hB⟩
  · obtain ⟨a1, a2, a3, a4⟩ := hB.2 t (by omega)
    rw [if_neg (by omega), if_neg (by omega)] at a4
    refine ⟨a1, a2, a3, a4, ?_⟩
    rcases (show t = 0 ∨ t = 1 ∨ t = 2 by omega) with rfl | rfl | rfl
    · exact hB.1.trans n0.symm
    · rw [f38, n1]
      exact c5
    · rw [f38, n2]
      exact c6
  · have q0 := hB.2 0 (by omega)
    have q3 := hB.2 3 (by omega)
    have q4 := hB.2 4 (by omega)
    rw [if_neg (by omega), if_neg (by omega)] at q0
    rw [if_pos rfl] at q3
    rw [if_neg (by omega), if_pos rfl] at q4
    have t0 : tm 2 = 0 := rfl
    rcases (show t = 3 ∨ t = 4 by omega) with rfl | rfl
    · left
      refine ⟨2, 2, 1, 1, by omega, by omega, by rw [f38]; exact c7, q3.1.trans nI_3, by rw [f39, n2]; exact c8, by rw [f40, n2]; exact c9, ?_, ?_, ?_, ?_, ?_, by omega⟩
      · rw [t0, n0]
        exact q3.2.1
      · rw [t0, n0]
        exact q3.2.2.1
      · rw [t0, n1]
        exact q0.2.2.2
      · rw [t0, n1]
        exact q0.2.2.2
      · rw [show 1 + 1 + 3 = 5 from rfl, n5]
        exact q3.2.2.2
    · right
      refine ⟨2, 1, by omega, by rw [f38]; exact c10, q4.1.trans nI_4, by rw [f39, n2]; exact c11, by rw [f40]; exact c12, ?_, ?_, ?_, ?_, by omega⟩
      · rw [t0, n0]
        exact q4.2.1
      · rw [t0, n0]
        exact q4.2.2.1
      · rw [t0, n1]
        exact q0.2.2.2
      · rw [show 1 + 1 = 2 from rfl, n2]
        exact q4.2.2.2
  · rw [f38, f39, f40]
    exact ⟨c7, c8, c9, c10, c11⟩
theorem rd0 {I M : am_I} {n : Nat} (h : bs I M) (n1 : n ≤ 100) (n2 : I 18 2 = nI n) (n3 : M 36 0 = nI n) (n4 : M 37 = I 19) (n5 : tok (I 19) n) : rdE (clI (ckI I)) (Mb M) n 0 5 0 0 0 := by
  obtain ⟨_, _, _, _, _, _, i1⟩ := ckI_r I
  obtain ⟨j1, j2, j3, j4, j5⟩ := clI_r (ckI I)
  obtain ⟨_, _, _, c1, c2⟩ := cp_r M
  obtain ⟨m1, m2, m3, m4, m5, m6⟩ := Mb_r M
  obtain ⟨_, _, _, n0⟩ := n5s
  have e19 : clI (ckI I) 19 = I 19 := (j5 19 (by omega) (by omega) (by omega)).trans (i1 19 (by omega) (by omega) (by omega))
  have e37 : Mb M 37 = I 19 := (m5 37 (by omega)).trans ((c2 37 (by omega) (by omega) (by omega) (by omega)).trans n4)
  refine ⟨⟨⟨?_, j3.trans n0.symm, n1, by omega, by rw [e19]; exact n5⟩, ⟨?_, m1.trans n0.symm, n1, by omega, by rw [e37]; exact n5⟩, e37.trans e19.symm, by omega, (ty5 h).1, by omega⟩, by omega, m2.trans n0.symm, m3.trans n0.symm, by omega, j2.trans n0.symm, m4.trans n0.symm, by omega, fun m hm => absurd hm (Nat.not_lt_zero m), fun m hm => absurd hm (Nat.not_lt_zero m)⟩
  · rw [j4, i1 18 (by omega) (by omega) (by omega)]
    exact n2
  · rw [m6 0 (by omega) (by omega) (by omega) (by omega), c1]
    exact n3
theorem ck_fin {I : am_I} {J : am_J} {M I' M' : am_I} (hR : Rel0 I J M) (a1 : I' 18 2 = 0) (a2 : M' 36 0 = 0) (a3 : ∀ x, 18 < x → I' x = ckI I x) (a4 : M' 37 = cp M 37) (a5 : M' 70 = cp M 70) (a6 : ∀ y, 28 < y → M' 36 y = cp M 36 y) (a7 : I' 0 5 = M' 36 27) (a8 : bs I' M') (a9 : (I' 0 4 = 0 ∧ M' 36 25 = 0 ∧ M' 36 28 = 0) ∨ (I' 0 4 = 1 ∧ M' 36 25 = 1 ∧ RD I' M')) : Rel0 I' J M' := by
  obtain ⟨⟨n, n1, n2, n3, n4, n5⟩, hm⟩ := hR
  have hs := Rst_m.mp hm
  obtain ⟨h1, h2, h3, h4, h5, ⟨P, p1, p2, p3, p4⟩, h7⟩ := hs
  obtain ⟨i1, i2, i3, i4, i5, i6, i7⟩ := ckI_r I
  obtain ⟨_, ⟨c1, c2, c3, c4, c5, c6, c7⟩, _, _, c8⟩ := cp_r M
  obtain ⟨_, _, _, n0⟩ := n5s
  have e51 : M' 36 51 = 0 := (a6 51 (by omega)).trans c5
  have e12 : I' 21 12 = 5 := by
    rw [a3 21 (by omega)]
    exact i5
  refine Rel_mk ⟨0, by omega, a1.trans n0.symm, a2.trans n0.symm, ?_, fun k hk => absurd hk (Nat.not_lt_zero k)⟩ ⟨a8, ?_, a7, ?_, ?_, ⟨0, by decide, ?_, ?_, ?_⟩, ?_, ?_, ?_, ?_, a9⟩
  · rw [a4, c8 37 (by omega) (by omega) (by omega) (by omega), n4, a3 19 (by omega), i7 19 (by omega) (by omega) (by omega)]
  · unfold SI
    rw [a3 33 (by omega), i7 33 (by omega) (by omega) (by omega)]
    exact h2
  · rw [a3 21 (by omega), i3, a6 49 (by omega), c4]
  · rw [a3 21 (by omega), i4, a6 53 (by omega), c6]
  · rw [a3 28 (by omega), i6, n0]
  · rw [a6 56 (by omega), c7, n0]
  · rw [a5, c8 70 (by omega) (by omega) (by omega) (by omega), a3 29 (by omega), i7 29 (by omega) (by omega) (by omega)]
    exact p4
  · rw [e12, e51]
    exact ⟨fun z => absurd z (by decide), fun z => absurd z (by decide)⟩
  · rw [e12, e51]
    exact ⟨fun z => absurd z (by decide), fun z => absurd z (by decide)⟩
  · rw [e12]
    exact fun z => absurd z (by decide)
  · rw [e12]
    exact fun z => absurd z (by decide)
theorem wF_00 {I I' : am_I} (h : eFI I I' 0 0) : wF I I' := fun x q hx => h x q (by omega) (by omega) (by omega) (by omega)
theorem wG_00 {M M' : am_I} (h : eFM M M' 0 0 0) : wG M M' := ⟨fun x m hx => h.1 x m (by omega) (by omega) (by omega) (by omega), h.2⟩
/-- a check that ends without a program: the answer 1 -/
theorem ck_no {I : am_I} {J : am_J} {M I1 M1 M2 : am_I} (hR : Rel0 I J M) (hF : wF (clI (ckI I)) I1) (hG : wG (Mb M) M1) (hX : tyX (clI (ckI I)) (Mb M) I1 M1 5) (h2 : ∀ z, ¬ z = 36 → M2 z = M1 z) (h3 : ∀ y, ¬ y = 26 → M2 36 y = M1 36 y) : Rel0 (wr I1 18 2 0) J (wr M2 36 0 0) := by
  obtain ⟨_, hm⟩ := id hR
  have hs := Rst_m.mp hm
  obtain ⟨i1, i2, i3, i4, i5, i6, i7⟩ := ckI_r I
  obtain ⟨j1, j2, j3, j4, j5⟩ := clI_r (ckI I)
  obtain ⟨_, ⟨c1, c2, c3, c4, c5, c6, c7⟩, _, _, c8⟩ := cp_r M
  obtain ⟨m1, m2, m3, m4, m5, m6⟩ := Mb_r M
  have hI : ∀ x, x = 0 ∨ 18 < x → wr I1 18 2 0 x = ckI I x := fun x hx => by
    rw [wr_ne _ _ _ _ _ (by omega)]
    exact (funext (fun q => hF x q (by omega))).trans (j5 x (by omega) (by omega) (by omega))
  have hM : ∀ x, x = 37 ∨ 52 < x → wr M2 36 0 0 x = cp M x := fun x hx => by
    rw [wr_ne _ _ _ _ _ (by omega), h2 x (by omega)]
    exact (funext (fun q => hG.1 x q hx)).trans (m5 x (by omega))
  have h36 : ∀ y, y = 25 ∨ 26 < y → wr M2 36 0 0 36 y = cp M 36 y := fun y hy => by
    rw [wr_n2 _ _ _ _ _ (by omega), h3 y (by omega)]
    exact (hG.2 y (by omega) (by omega) (by omega) (by omega) (by omega) (by omega)).trans (m6 y (by omega) (by omega) (by omega) (by omega))
  refine ck_fin hR (wr_s _ _ _ _) (wr_s _ _ _ _) (fun x hx => hI x (by omega)) (hM 37 (by omega)) (hM 70 (by omega)) (fun y hy => h36 y (by omega)) ?_ ?_ (.inl ⟨?_, ?_, ?_⟩)
  · rw [hI 0 (by omega), i2, h36 27 (by omega), c2]
  · have hb1 := bs_X hX (ty5 hs.1).2
    unfold bs at hb1 ⊢
    rw [wr_ne _ _ _ _ _ (by omega), wr_ne _ _ _ _ _ (by omega), wr_ne _ _ _ _ _ (by omega), wr_ne _ _ _ _ _ (by omega), wr_ne _ _ _ _ _ (by omega), h2 38 (by omega)]
    exact hb1
  · rw [hI 0 (by omega), i1]
  · rw [h36 25 (by omega), c1]
  · rw [h36 28 (by omega), c3]
theorem sk0 {I1 M1 I2 M2 : am_I} {n p c N K : Nat} (hE : rdE I1 M1 n p c N K 0) (hN : 0 < N) (hS : sg I1 M1 c 0 N 0 p 0 K) (h1 : ∀ z, ¬ z = 18 → I2 z = I1 z) (h2 : ∀ z, ¬ z = 36 → M2 z = M1 z) (h3 : ∀ y, ¬ y = 26 → ¬ y = 0 → M2 36 y = M1 36 y) : SK I2 M2 c N K I2 M2 c 0 ∧ (∀ y, y < N → dn M2 y) ∧ I2 1 12 = nI K ∧ M2 36 18 = nI K ∧ K ≤ 100 := by
  obtain ⟨⟨⟨_, _, r3, _, _⟩, _, _, r4, r5, r6⟩, e2, e3, e4, e5, e6, e7, e8, _, _⟩ := hE
  obtain ⟨s1, s2, s3, s4, s5⟩ := hS
  have hM : ∀ z, 38 ≤ z → z ≤ 48 → M2 z = M1 z := fun z a b => h2 z (by omega)
  have hR : tyR I2 M2 c := tyR_congr (h1 2 (by omega)) (h1 3 (by omega)) (h1 4 (by omega)) (h1 5 (by omega)) (h1 6 (by omega)) (h3 2 (by omega) (by omega)) (h3 6 (by omega) (by omega)) (h3 7 (by omega) (by omega)) (h2 38 (by omega)) (h2 39 (by omega)) (h2 40 (by omega)) r5
  have hc := r5.1
  have hpos : ∀ m m' q, m < N → m' < N → m < m' → M2 42 m = nI q → M2 42 m' = nI q → False := by
    intro m m' q a b l x y
    rw [h2 42 (by omega)] at x y
    obtain ⟨q1, _, b1, b2⟩ := s2 m (by omega) a
    obtain ⟨q2, _, b3, b4⟩ := s2 m' (by omega) b
    have := s3 m m' q1 q2 (by omega) l b b2 b4 (by omega) (by omega)
    have : q1 = q2 := nI_inj (by omega) (by omega) (b2.symm.trans (x.trans (y.symm.trans b4)))
    omega
  refine ⟨⟨⟨by omega, by omega, by omega, fun m hm => nd_F (fun z a b => h1 z (by omega)) hM (s1 m (by omega) hm), fun m m' q a b x y => ?_, ?_, fun m hm => ?_⟩, ⟨⟨rfl, rfl, rfl, rfl, rfl, rfl, rfl, rfl⟩, rfl, fun _ _ _ => rfl, rfl⟩, hR, by omega, by omega, by omega, tyX_refl _ _ _, hc, fun j hj => absurd hj (Nat.not_lt_zero j), fun j x q hj => absurd hj (Nat.not_lt_zero j)⟩, fun y hy => dn_X (fun x a b => by rw [h2 x (by omega)]) (s5 y (by omega) hy).1, by rw [h1 1 (by omega)]; exact e6, by rw [h3 18 (by omega) (by omega)]; exact e7, by omega⟩
  · rcases Nat.lt_trichotomy m m' with l | l | l
    · exact absurd (hpos m m' q a b l x y) id
    · exact l
    · exact absurd (hpos m' m q b a l y x) id
  · unfold od ip at s4 ⊢
    rw [h2 50 (by omega), h2 42 (by omega), h2 41 (by omega), h2 46 (by omega), h2 47 (by omega), h2 48 (by omega), h1 17 (by omega)]
    exact s4
  · obtain ⟨_, h, w, a1, a2, a3⟩ := s5 m (by omega) hm
    exact ⟨h, w, a1, a2, tw_F (h1 6 (by omega)) hM h w m a3⟩
