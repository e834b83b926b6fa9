/-! Checking: what both sides know of nodes that are checked. -/
def CS (M : am_I) (t u : Nat) : Prop := ∃ k, cn M k t u = true
/-- the function that has a variable: j, with b functions between -/
def up (M : am_I) (nm : Int32) : Nat → Nat → Nat → Nat → Prop
  | 0, _, _, _ => False
  | k + 1, m, j, b => ∃ p, M 45 m = nI p ∧ p < m ∧ ((M 41 p = 3 ∧ M 43 p = nm ∧ j = p ∧ b = 0) ∨ (M 41 p = 3 ∧ ¬ M 43 p = nm ∧ ∃ b', b = b' + 1 ∧ up M nm k p j b') ∨ (¬ M 41 p = 3 ∧ up M nm k p j b))
def pf (M : am_I) (c m x a qa ta : Nat) : Prop := M x m = nI a ∧ m < a ∧ a < 101 ∧ M 42 a = nI qa ∧ qa < 100 ∧ M 71 a = nI ta ∧ ta < c
def rl (I M : am_I) (c m q o t : Nat) : Prop :=
  (o = 0 → t = 0) ∧ (o = 1 → t = 1) ∧ (o = 2 → ∃ k j b, up M (M 43 m) k m j b ∧ j < 101 ∧ b < 101 ∧ M 44 j = nI t ∧ I 14 q = nI b)
  ∧ (o = 3 → ∃ s a qa ta, pf M c m 46 a qa ta ∧ s < c ∧ M 44 m = nI s ∧ M 38 t = 3 ∧ M 39 t = nI s ∧ M 40 t = nI ta)
  ∧ (o = 4 ∨ o = 5 → ∃ a qa ta b qb tb, pf M c m 46 a qa ta ∧ pf M c m 47 b qb tb ∧ ((ta = 2 ∧ t = 2 ∧ I 16 qa = nI (o - 1) ∧ I 16 qb = 0) ∨ (M 38 ta = nI (o - 1) ∧ CS M tb (tA M ta) ∧ t = (if o = 4 then tB M ta else tA M ta) ∧ I 16 qa = nI (tm ta) ∧ I 16 qb = nI (tm (tA M ta)))))
  ∧ (6 ≤ o → o ≤ 8 → ∃ a qa ta b qb tb, pf M c m 46 a qa ta ∧ pf M c m 47 b qb tb ∧ CS M ta 0 ∧ CS M tb 0 ∧ t = (if o = 8 then 1 else 0) ∧ I 16 qa = 1 ∧ I 16 qb = 1)
  ∧ (o = 9 → ∃ a qa ta b qb tb e qe te, pf M c m 46 a qa ta ∧ pf M c m 47 b qb tb ∧ pf M c m 48 e qe te ∧ CS M ta 1 ∧ CS M te tb ∧ t = tb ∧ I 16 qa = 2 ∧ I 16 qb = nI (tm tb) ∧ I 16 qe = nI (tm tb))
  ∧ (o = 10 → ∃ a qa ta, pf M c m 46 a qa ta ∧ M 38 t = 4 ∧ M 39 t = nI ta ∧ I 16 qa = nI (tm ta))
  ∧ (o = 11 → ∃ a qa ta, pf M c m 46 a qa ta ∧ ((ta = 2 ∧ t = 2 ∧ I 16 qa = 4) ∨ (M 38 ta = 4 ∧ t = tA M ta ∧ I 16 qa = nI (tm ta))))
  ∧ (o = 12 → ∃ a qa ta, pf M c m 46 a qa ta ∧ M 44 m = nI t ∧ CS M ta t ∧ I 16 qa = nI (tm t))
  ∧ (o = 13 → ∃ a qa ta, pf M c m 46 a qa ta ∧ t = 0 ∧ CS M ta 0 ∧ I 16 qa = 1)
/-- node m is checked -/
def TN (I0 M0 : am_I) (c0 : Nat) (I M : am_I) (N c m : Nat) : Prop := ∃ q o t, M 42 m = nI q ∧ q < 100 ∧ M 41 m = nI o ∧ o ≤ 13 ∧ M 71 m = nI t ∧ t < c ∧ I 15 q = nI (tm t) ∧ (∀ h w, tw I0 M0 N c0 h w m → hb M (19 + h) t ∧ tln I t ≤ 100 + w) ∧ rl I M c m q o t
theorem cn_X {M M' : am_I} {c : Nat} (hX : ∀ t, t < c → M' 38 t = M 38 t ∧ M' 39 t = M 39 t ∧ M' 40 t = M 40 t) (hA : ∀ t, 3 ≤ t → t < c → (M 38 t = 3 → tA M t < c ∧ tB M t < c) ∧ tA M t < c) (h3 : ∀ t, t < 3 → M 38 t < 3) : ∀ (k t u : Nat), t < c → u < c → cn M' k t u = cn M k t u
  | 0, t, u, _, _ => rfl
  | k + 1, t, u, ht, hu => by
    obtain ⟨a1, a2, a3⟩ := hX t ht
    obtain ⟨b1, b2, b3⟩ := hX u hu
    unfold cn
    have eA : tA M' t = tA M t := by
      unfold tA
      rw [a2]
    have eB : tB M' t = tB M t := by
      unfold tB
      rw [a3]
    have fA : tA M' u = tA M u := by
      unfold tA
      rw [b2]
    have fB : tB M' u = tB M u := by
      unfold tB
      rw [b3]
    rw [a1, b1, eA, eB, fA, fB]
    by_cases q : t = u ∨ t = 2 ∨ u = 2
    · rw [if_pos q, if_pos q]
    · rw [if_neg q, if_neg q]
      by_cases w : ¬ M 38 t = M 38 u ∨ M 38 t < 3
      · rw [if_pos w, if_pos w]
      · rw [if_neg w, if_neg w]
        have t3 : 3 ≤ t := Decidable.byContradiction (fun z => w (.inr (h3 t (by omega))))
        have e1 : M 38 t = M 38 u := Decidable.byContradiction (fun z => w (.inl z))
        have u3 : 3 ≤ u := Decidable.byContradiction (fun z => w (.inr (e1 ▸ h3 u (by omega))))
        obtain ⟨p1, p2⟩ := hA t t3 ht
        obtain ⟨r1, r2⟩ := hA u u3 hu
        rw [cn_X hX hA h3 k _ _ p2 r2]
        by_cases k3 : M 38 t = 3
        · rw [if_pos k3, if_pos k3, cn_X hX hA h3 k _ _ (p1 k3).2 (r1 (e1 ▸ k3)).2]
        · rw [if_neg k3, if_neg k3]
theorem tyR_A {I M : am_I} {c : Nat} (h : tyR I M c) : ∀ t, 3 ≤ t → t < c → (M 38 t = 3 → tA M t < c ∧ tB M t < c) ∧ tA M t < c := by
  intro t h1 h2
  rcases ty_kind h h2 with ⟨a1, _⟩ | ⟨a1, a2, a3, a4, a5, _⟩ | ⟨a1, a2, a3, a4, _⟩
  · omega
  · exact ⟨fun _ => ⟨by omega, by omega⟩, by omega⟩
  · exact ⟨fun z => absurd (a2.symm.trans z) n43, by omega⟩
theorem tyR_3 {I M : am_I} {c : Nat} (h : tyR I M c) : ∀ t, t < 3 → M 38 t < 3 := by
  intro t h1
  rw [(h.2.2.2.2.2.2.1 t h1).2.2.2.2]
  exact (n03 t h1).2.2
theorem CS_X {I M I' M' : am_I} {c t u : Nat} (hR : tyR I M c) (hX : tyX I M I' M' c) (ht : t < c) (hu : u < c) (h : CS M t u) : CS M' t u := by
  obtain ⟨k, h⟩ := h
  exact ⟨k, (cn_X (fun t ht => (hX t ht).1) (tyR_A hR) (tyR_3 hR) k t u ht hu).trans h⟩
theorem tAX {I M I' M' : am_I} {c t : Nat} (hX : tyX I M I' M' c) (ht : t < c) : tA M' t = tA M t ∧ tB M' t = tB M t := by
  obtain ⟨⟨a1, a2, a3⟩, _⟩ := hX t ht
  unfold tA tB
  rw [a2, a3]
  exact ⟨rfl, rfl⟩
theorem up_M {M M' : am_I} {nm : Int32} (h1 : M' 41 = M 41) (h2 : M' 43 = M 43) (h3 : M' 45 = M 45) : ∀ (k m j b : Nat), up M nm k m j b → up M' nm k m j b
  | 0, _, _, _, h => h
  | k + 1, m, j, b, h => by
    obtain ⟨p, a1, a2, a3⟩ := h
    refine ⟨p, by rw [h3]; exact a1, a2, ?_⟩
    rw [h1, h2]
    rcases a3 with z | ⟨z1, z2, b', z3, z4⟩ | ⟨z1, z2⟩
    · exact .inl z
    · exact .inr (.inl ⟨z1, z2, b', z3, up_M h1 h2 h3 k p j b' z4⟩)
    · exact .inr (.inr ⟨z1, up_M h1 h2 h3 k p j b z2⟩)
theorem pf_X {M M' : am_I} {c c' m x a qa ta : Nat} (e1 : M' x = M x) (e2 : M' 42 = M 42) (hc : c ≤ c') (h71 : M' 71 a = M 71 a) (h : pf M c m x a qa ta) : pf M' c' m x a qa ta := by
  obtain ⟨a1, a2, a3, a4, a5, a6, a7⟩ := h
  exact ⟨by rw [e1]; exact a1, a2, a3, by rw [e2]; exact a4, a5, h71.trans a6, by omega⟩
/-- the cells that checking leaves alone -/
def kS (M M' : am_I) : Prop := M' 41 = M 41 ∧ M' 42 = M 42 ∧ M' 43 = M 43 ∧ M' 44 = M 44 ∧ M' 45 = M 45 ∧ M' 46 = M 46 ∧ M' 47 = M 47 ∧ M' 48 = M 48
theorem rl_X {I M I' M' : am_I} {c c' m q o t : Nat} (ho : o ≤ 13) (h41 : M 41 m = nI o) (hR : tyR I M c) (hX : tyX I M I' M' c) (hc : c ≤ c') (hS : kS M M') (ht : t < c) (h14 : I' 14 q = I 14 q) (hp1 : ∀ a, a < 101 → ip M m a → M' 71 a = M 71 a ∧ ∀ qa, M 42 a = nI qa → I' 16 qa = I 16 qa) (h : rl I M c m q o t) : rl I' M' c' m q o t := by
  obtain ⟨s1, s2, s3, s4, s5, s6, s7, s8⟩ := hS
  have hc5 := hR.1
  obtain ⟨r0, r1, r2, r3, r4, r6, r9, r10, r11, r12, r13⟩ := h
  have k38 : ∀ x, x < c → M' 38 x = M 38 x := fun x hx => (hX x hx).1.1
  have pA : ∀ {a qa ta}, 3 ≤ o → pf M c m 46 a qa ta → pf M' c' m 46 a qa ta ∧ I' 16 qa = I 16 qa ∧ ta < c := by
    intro a qa ta z g
    obtain ⟨z1, z2⟩ := hp1 a g.2.2.1 ⟨o, ho, h41, .inl ⟨z, g.1⟩⟩
    exact ⟨pf_X s6 s2 hc z1 g, z2 qa g.2.2.2.1, g.2.2.2.2.2.2⟩
  have pB : ∀ {a qa ta}, 4 ≤ o → o ≤ 9 → pf M c m 47 a qa ta → pf M' c' m 47 a qa ta ∧ I' 16 qa = I 16 qa ∧ ta < c := by
    intro a qa ta z y g
    obtain ⟨z1, z2⟩ := hp1 a g.2.2.1 ⟨o, ho, h41, .inr (.inl ⟨z, y, g.1⟩)⟩
    exact ⟨pf_X s7 s2 hc z1 g, z2 qa g.2.2.2.1, g.2.2.2.2.2.2⟩
  have pC : ∀ {a qa ta}, o = 9 → pf M c m 48 a qa ta → pf M' c' m 48 a qa ta ∧ I' 16 qa = I 16 qa ∧ ta < c := by
    intro a qa ta z g
    obtain ⟨z1, z2⟩ := hp1 a g.2.2.1 ⟨o, ho, h41, .inr (.inr ⟨z, g.1⟩)⟩
    exact ⟨pf_X s8 s2 hc z1 g, z2 qa g.2.2.2.1, g.2.2.2.2.2.2⟩
  refine ⟨r0, r1, fun z => ?_, fun z => ?_, fun z => ?_, fun z y => ?_, fun z => ?_, fun z => ?_, fun z => ?_, fun z => ?_, fun z => ?_⟩
  · obtain ⟨k, j, b, g1, g2, g3, g4, g5⟩ := r2 z
    exact ⟨k, j, b, by rw [s3]; exact up_M s1 s3 s5 k m j b g1, g2, g3, by rw [s4]; exact g4, h14.trans g5⟩
  · obtain ⟨s, a, qa, ta, g1, g2, g3, g4, g5, g6⟩ := r3 z
    obtain ⟨y1, y2, y3⟩ := pA (by omega) g1
    obtain ⟨⟨x1, x2, x3⟩, _⟩ := hX t ht
    exact ⟨s, a, qa, ta, y1, by omega, by rw [s4]; exact g3, x1.trans g4, x2.trans g5, x3.trans g6⟩
  · obtain ⟨a, qa, ta, b, qb, tb, g1, g2, g3⟩ := r4 z
    obtain ⟨y1, y2, y3⟩ := pA (by omega) g1
    obtain ⟨w1, w2, w3⟩ := pB (by omega) (by omega) g2
    refine ⟨a, qa, ta, b, qb, tb, y1, w1, ?_⟩
    rcases g3 with ⟨e1, e2, e3, e4⟩ | ⟨e1, e2, e3, e4, e5⟩
    · exact .inl ⟨e1, e2, y2.trans e3, w2.trans e4⟩
    · right
      obtain ⟨f1, f2⟩ := tAX hX y3
      have t3 : 3 ≤ ta := by
        refine Decidable.byContradiction (fun y => ?_)
        have e9 := (hR.2.2.2.2.2.2.1 ta (by omega)).2.2.2.2
        rw [e9] at e1
        have := nI_inj (by omega) (by omega) e1
        omega
      have hAc := (tyR_A hR ta t3 y3).2
      rw [f1, f2, k38 ta y3]
      exact ⟨e1, CS_X hR hX w3 hAc e2, e3, y2.trans e4, w2.trans e5⟩
  · obtain ⟨a, qa, ta, b, qb, tb, g1, g2, g3, g4, g5, g6, g7⟩ := r6 z y
    obtain ⟨y1, y2, y3⟩ := pA (by omega) g1
    obtain ⟨w1, w2, w3⟩ := pB (by omega) (by omega) g2
    exact ⟨a, qa, ta, b, qb, tb, y1, w1, CS_X hR hX y3 (by omega) g3, CS_X hR hX w3 (by omega) g4, g5, y2.trans g6, w2.trans g7⟩
  · obtain ⟨a, qa, ta, b, qb, tb, e, qe, te, g1, g2, g3, g4, g5, g6, g7, g8, g9⟩ := r9 z
    obtain ⟨y1, y2, y3⟩ := pA (by omega) g1
    obtain ⟨w1, w2, w3⟩ := pB (by omega) (by omega) g2
    obtain ⟨v1, v2, v3⟩ := pC (by omega) g3
    exact ⟨a, qa, ta, b, qb, tb, e, qe, te, y1, w1, v1, CS_X hR hX y3 (by omega) g4, CS_X hR hX v3 w3 g5, g6, y2.trans g7, w2.trans g8, v2.trans g9⟩
  · obtain ⟨a, qa, ta, g1, g2, g3, g4⟩ := r10 z
    obtain ⟨y1, y2, y3⟩ := pA (by omega) g1
    obtain ⟨⟨x1, x2, x3⟩, _⟩ := hX t ht
    exact ⟨a, qa, ta, y1, x1.trans g2, x2.trans g3, y2.trans g4⟩
  · obtain ⟨a, qa, ta, g1, g2⟩ := r11 z
    obtain ⟨y1, y2, y3⟩ := pA (by omega) g1
    refine ⟨a, qa, ta, y1, ?_⟩
    rcases g2 with ⟨e1, e2, e3⟩ | ⟨e1, e2, e3⟩
    · exact .inl ⟨e1, e2, y2.trans e3⟩
    · exact .inr ⟨(k38 ta y3).trans e1, by rw [(tAX hX y3).1]; exact e2, y2.trans e3⟩
  · obtain ⟨a, qa, ta, g1, g2, g3, g4⟩ := r12 z
    obtain ⟨y1, y2, y3⟩ := pA (by omega) g1
    exact ⟨a, qa, ta, y1, by rw [s4]; exact g2, CS_X hR hX y3 ht g3, y2.trans g4⟩
  · obtain ⟨a, qa, ta, g1, g2, g3, g4⟩ := r13 z
    obtain ⟨y1, y2, y3⟩ := pA (by omega) g1
    exact ⟨a, qa, ta, y1, g2, CS_X hR hX y3 (by omega) g3, y2.trans g4⟩
theorem TN_X {I0 M0 I M I' M' : am_I} {c0 N c c' m : Nat} (hR : tyR I M c) (hX : tyX I M I' M' c) (hc : c ≤ c') (hS : kS M M') (h71 : M' 71 m = M 71 m) (h15 : ∀ q, M 42 m = nI q → I' 15 q = I 15 q ∧ I' 14 q = I 14 q) (hp1 : ∀ a, a < 101 → ip M m a → M' 71 a = M 71 a ∧ ∀ qa, M 42 a = nI qa → I' 16 qa = I 16 qa) (h : TN I0 M0 c0 I M N c m) : TN I0 M0 c0 I' M' N c' m := by
  obtain ⟨q, o, t, g1, g2, g3, g4, g5, g6, g7, g8, g9⟩ := h
  obtain ⟨w1, w2⟩ := h15 q g1
  have hc5 := hR.1
  refine ⟨q, o, t, by rw [hS.2.1]; exact g1, g2, by rw [hS.1]; exact g3, g4, h71.trans g5, by omega, w1.trans g7, fun h w z => ?_, rl_X g4 g3 hR hX hc hS g6 w2 hp1 g9⟩
  obtain ⟨y1, y2⟩ := g8 h w z
  refine ⟨hb_X (c := c) (fun t ht => (hX t ht).1) g6 y1, ?_⟩
  unfold tln at y2 ⊢
  rw [(hX (tm t) (tm_lt g6 (by omega))).2.2.2.2]
  exact y2
