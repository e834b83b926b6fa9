/-! Checking: the state, its parts, one node more. -/
def pg (I M : am_I) (N K c : Nat) : Prop := 1 ≤ N ∧ N ≤ 100 ∧ K ≤ N ∧ (∀ m, m < N → nd I M N c m) ∧ (∀ m m' q, m < N → m' < N → M 42 m = nI q → M 42 m' = nI q → m = m') ∧ od I M 0 N 0 K ∧ (∀ m, m < N → ∃ h w, h ≤ 20 ∧ w ≤ 100 ∧ tw I M N c h w m)
def kE (I0 M0 I M : am_I) : Prop := kS M0 M ∧ M 50 = M0 50 ∧ (∀ z, 7 ≤ z → z ≤ 13 → I z = I0 z) ∧ I 17 = I0 17
def IV (I0 M0 : am_I) (c0 : Nat) (I M : am_I) (N c k : Nat) : Prop := (∀ j, j < k → ∃ x, M0 50 j = nI x ∧ x < N ∧ TN I0 M0 c0 I M N c x) ∧ (∀ j x q, j < k → M0 50 j = nI x → x < N → M0 42 x = nI q → q < 100 → (∀ i P, i < k → P < N → M0 50 i = nI P → ¬ M0 45 x = nI P) → I 16 q = I 15 q)
def SK (I0 M0 : am_I) (c0 N K : Nat) (I M : am_I) (c k : Nat) : Prop := pg I0 M0 N K c0 ∧ kE I0 M0 I M ∧ tyR I M c ∧ c0 ≤ c ∧ c ≤ c0 + k ∧ c0 + N ≤ 105 ∧ tyX I0 M0 I M c0 ∧ 5 ≤ c0 ∧ IV I0 M0 c0 I M N c k
def sF (I M I' M' M0 : am_I) (N y q : Nat) : Prop := kS M M' ∧ M' 50 = M 50 ∧ (∀ z, 7 ≤ z → z ≤ 13 → I' z = I z) ∧ I' 17 = I 17 ∧ (∀ m, ¬ m = y → M' 71 m = M 71 m) ∧ (∀ p, ¬ p = q → I' 15 p = I 15 p ∧ I' 14 p = I 14 p) ∧ (∀ p, ¬ p = q → (∀ z, z < N → M0 45 z = nI y → ¬ M0 42 z = nI p) → I' 16 p = I 16 p)
theorem kS_trans {A B C : am_I} (h1 : kS A B) (h2 : kS B C) : kS A C := by
  obtain ⟨a1, a2, a3, a4, a5, a6, a7, a8⟩ := h1
  obtain ⟨b1, b2, b3, b4, b5, b6, b7, b8⟩ := h2
  exact ⟨b1.trans a1, b2.trans a2, b3.trans a3, b4.trans a4, b5.trans a5, b6.trans a6, b7.trans a7, b8.trans a8⟩
/-- the node whose turn it is -/
theorem turn {I0 M0 I M : am_I} {c0 N K c k : Nat} (h : SK I0 M0 c0 N K I M c k) (hk : k < K) : ∃ y q o, M 50 k = nI y ∧ y < N ∧ I 17 k = nI q ∧ q < 100 ∧ M 42 y = nI q ∧ M 41 y = nI o ∧ I 7 q = nI o ∧ o ≤ 13 ∧ M0 50 k = nI y ∧ nd I0 M0 N c0 y := by
  obtain ⟨⟨p1, p2, p3, p4, p5, p6, p7⟩, ⟨e1, e2, e3, e4⟩, _⟩ := h
  obtain ⟨x, x1, x2, x3, x4, x5⟩ := p6.1 k (by omega) hk
  have hn := p4 x x2
  obtain ⟨q, o, a1, a2, a3, a4, a5, _⟩ := p4 x x2
  refine ⟨x, q, o, by rw [e2]; exact x3, x2, by rw [e4, x4]; exact a1, a2, by rw [e1.2.1]; exact a1, by rw [e1.1]; exact a3, by rw [e3 7 (by omega) (by omega)]; exact a4, a5, x3, hn⟩
theorem done {I0 M0 I M : am_I} {c0 N K c k y a : Nat} (h : SK I0 M0 c0 N K I M c k) (hk : k < K) (hy : M0 50 k = nI y) (hyN : y < N) (ha : a < 101) (hip : ip M0 y a) (hpar : M0 45 a = nI y) : TN I0 M0 c0 I M N c a ∧ (∀ qa, M0 42 a = nI qa → qa < 100 → I 16 qa = I 15 qa) := by
  obtain ⟨⟨p1, p2, p3, p4, p5, p6, p7⟩, ⟨e1, e2, e3, e4⟩, h3, h4, h5, h6, h7, h8, v1, v2⟩ := h
  obtain ⟨x, x1, x2, x3, x4, x5⟩ := p6.1 k (by omega) hk
  have ex := nI_inj (by omega) (by omega) (x3.symm.trans hy)
  subst ex
  obtain ⟨j, j1, j2, j3⟩ := x5 a ha hip
  obtain ⟨z, z1, z2, z3⟩ := v1 j (by omega)
  have ez := nI_inj (by omega) (by omega) (z1.symm.trans j3)
  subst ez
  refine ⟨z3, fun qa q1 q2 => ?_⟩
  refine v2 j z qa (by omega) j3 z2 q1 q2 (fun i P i1 i2 i3 i4 => ?_)
  have eP := nI_inj (by omega) (by omega) (i4.symm.trans hpar)
  subst eP
  exact p6.2.2 i k (by omega) i1 hk (i3.trans x3.symm)
/-- a part of the node whose turn it is -/
theorem prt {I0 M0 I M : am_I} {c0 N K c k y q z x : Nat} (h : SK I0 M0 c0 N K I M c k) (hk : k < K) (hy : M0 50 k = nI y) (hyN : y < N) (hq : M0 42 y = nI q) (hq2 : q < 100) (hx : x = 46 ∨ x = 47 ∨ x = 48) (hz : 9 ≤ z ∧ z ≤ 11) (hpa : pa I0 M0 y q N x z) (hip : ∀ a, M0 x y = nI a → ip M0 y a) : ∃ a qa ta, pf M c y x a qa ta ∧ I z q = nI qa ∧ I 15 qa = nI (tm ta) ∧ I 16 qa = nI (tm ta) ∧ M0 45 a = nI y ∧ a < N ∧ M0 42 a = nI qa ∧ ¬ qa = q ∧ (∀ h w, tw I0 M0 N c0 h w a → hb M (19 + h) ta ∧ tln I ta ≤ 100 + w) ∧ (∃ h w, h ≤ 20 ∧ w ≤ 100 ∧ tw I0 M0 N c0 h w a) := by
  obtain ⟨a, q', a1, a2, a3, a4, a5, a6⟩ := hpa
  have hS := h
  obtain ⟨⟨p1, p2, p3, p4, p5, p6, p7⟩, ⟨e1, e2, e3, e4⟩, h3, h4, h5, h6, h7, h8, v1, v2⟩ := h
  obtain ⟨d1, d2⟩ := done hS hk hy hyN (by omega) (hip a a3) a6
  obtain ⟨qa, o, ta, t1, t2, t3, t4, t5, t6, t7, t8, t9⟩ := d1
  obtain ⟨qn, on, n1, n2, _⟩ := p4 a a2
  rw [e1.2.1] at t1
  have eq1 := nI_inj (by omega) (by omega) (n1.symm.trans t1)
  subst eq1
  have ex : M x y = nI a := by
    rcases hx with hx | hx | hx <;> subst hx
    · rw [e1.2.2.2.2.2.1]
      exact a3
    · rw [e1.2.2.2.2.2.2.1]
      exact a3
    · rw [e1.2.2.2.2.2.2.2]
      exact a3
  refine ⟨a, qn, ta, ⟨ex, a1, by omega, by rw [e1.2.1]; exact n1, n2, t5, t6⟩, ?_, t7, (d2 qn n1 n2).trans t7, a6, a2, n1, ?_, t8, p7 a a2⟩
  · rw [e3 z (by omega) (by omega), a5]
    have := a4.symm.trans n1
    rw [this]
  · intro z2
    subst z2
    have := p5 a y qn a2 hyN n1 hq
    omega
theorem ck_ok {I0 M0 I M I' M' : am_I} {c0 N K c c' k y q : Nat} (h : SK I0 M0 c0 N K I M c k) (hk : k < K) (hy : M0 50 k = nI y) (hyN : y < N) (hq : M0 42 y = nI q) (hq2 : q < 100) (hF : sF I M I' M' M0 N y q) (hR : tyR I' M' c') (hX : tyX I M I' M' c) (hc : c ≤ c') (hc2 : c' ≤ c + 1) (hT : TN I0 M0 c0 I' M' N c' y) (h16 : I' 16 q = I' 15 q) : SK I0 M0 c0 N K I' M' c' (k + 1) := by
  have hS := h
  obtain ⟨hpg, ⟨e1, e2, e3, e4⟩, h3, h4, h5, h6, h7, h8, v1, v2⟩ := h
  obtain ⟨p1, p2, p3, p4, p5, p6, p7⟩ := hpg
  obtain ⟨f1, f2, f3, f4, f5, f6, f7⟩ := hF
  have ne : ∀ j x, j < k → M0 50 j = nI x → x < N → ¬ x = y := by
    intro j x j1 j2 j3 j4
    subst j4
    exact p6.2.2 j k (by omega) j1 hk (j2.trans hy.symm)
  have nq : ∀ x qx, x < N → ¬ x = y → M0 42 x = nI qx → ¬ qx = q := by
    intro x qx x1 x2 x3 x4
    subst x4
    exact x2 (p5 x y qx x1 hyN x3 hq)
  refine ⟨⟨p1, p2, p3, p4, p5, p6, p7⟩, ⟨kS_trans e1 f1, f2.trans e2, fun z z1 z2 => (f3 z z1 z2).trans (e3 z z1 z2), f4.trans e4⟩, hR, by omega, by omega, h6, tyX_trans h7 hX h4, h8, fun j hj => ?_, fun j x qx hj j2 j3 j4 j5 j6 => ?_⟩
  · by_cases ej : j = k
    · subst ej
      exact ⟨y, hy, hyN, hT⟩
    · obtain ⟨x, x1, x2, x3⟩ := v1 j (by omega)
      have xy := ne j x (by omega) x1 x2
      refine ⟨x, x1, x2, TN_X h3 hX hc f1 (f5 x xy) (fun qx w => ?_) (fun a a1 a2 => ?_) x3⟩
      · rw [e1.2.1] at w
        refine f6 qx ?_
        intro z
        subst z
        exact xy (p5 x y qx x2 hyN w hq)
      · have a3 : ip M0 x a := ip_X (fun z z1 z2 => by
          obtain ⟨s1, s2, s3, s4, s5, s6, s7, s8⟩ := e1
          rcases (by omega : z = 41 ∨ z = 42 ∨ z = 43 ∨ z = 44 ∨ z = 45 ∨ z = 46 ∨ z = 47 ∨ z = 48) with w | w | w | w | w | w | w | w <;> subst w
          · rw [s1]
          · rw [s2]
          · rw [s3]
          · rw [s4]
          · rw [s5]
          · rw [s6]
          · rw [s7]
          · rw [s8]) a2
        obtain ⟨x', b1, b2, b3, b4, b5⟩ := p6.1 j (by omega) (by omega)
        have ex := nI_inj (by omega) (by omega) (b3.symm.trans x1)
        subst ex
        obtain ⟨i, i1, i2, i3⟩ := b5 a a1 a3
        obtain ⟨a', c1, c2, c3, _⟩ := p6.1 i (by omega) (by omega)
        have aN : a < N := by
          have := nI_inj (by omega) (by omega) (c3.symm.trans i3)
          omega
        have ay := ne i a (by omega) i3 aN
        refine ⟨f5 a ay, fun qa w => ?_⟩
        rw [e1.2.1] at w
        have hpa : M0 45 a = nI x' := by
          obtain ⟨qn, on, n1, n2, n3, n4, n5, _, _, _, _, _, n11, n12, n13⟩ := p4 x' x2
          obtain ⟨o', m1, m2, m3⟩ := a3
          have eo := nI_inj (by omega) (by omega) (n3.symm.trans m2)
          subst eo
          rcases m3 with ⟨u1, u2⟩ | ⟨u1, u2, u3⟩ | ⟨u1, u2⟩
          · obtain ⟨a9, q9, w1, w2, w3, w4, w5, w6⟩ := n11 u1
            have := nI_inj (by omega) (by omega) (w3.symm.trans u2)
            subst this
            exact w6
          · obtain ⟨a9, q9, w1, w2, w3, w4, w5, w6⟩ := n12 u1 u2
            have := nI_inj (by omega) (by omega) (w3.symm.trans u3)
            subst this
            exact w6
          · obtain ⟨a9, q9, w1, w2, w3, w4, w5, w6⟩ := n13 u1
            have := nI_inj (by omega) (by omega) (w3.symm.trans u2)
            subst this
            exact w6
        have qa100 : qa < 100 ∨ True := .inr trivial
        refine f7 qa (nq a qa aN ay w) (fun z z1 z2 z3 => ?_)
        have := p5 z a qa z1 aN z3 w
        subst this
        have := nI_inj (by omega) (by omega) (z2.symm.trans hpa)
        exact xy this.symm
  · by_cases ej : j = k
    · subst ej
      have ex := nI_inj (by omega) (by omega) (j2.symm.trans hy)
      subst ex
      have eq := nI_inj (by omega) (by omega) (j4.symm.trans hq)
      subst eq
      exact h16
    · have xy := ne j x (by omega) j2 j3
      have qq := nq x qx j3 xy j4
      rw [(f6 qx qq).1, f7 qx qq (fun z z1 z2 z3 => ?_)]
      · exact v2 j x qx (by omega) j2 j3 j4 j5 (fun i P i1 i2 i3 => j6 i P (by omega) i2 i3)
      · have := p5 z x qx z1 j3 z3 j4
        subst this
        exact j6 k y (by omega) hyN hy z2
