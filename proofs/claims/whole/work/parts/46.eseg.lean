/-! Reading an expression: what both sides hold of a part of the text. -/
def pr (I M : am_I) (m q : Nat) : Prop := (M 45 m = -1 ∧ I 8 q = -1) ∨ ∃ m', m' < m ∧ M 45 m = nI m' ∧ I 8 q = M 42 m'
def pa (I M : am_I) (m q B x y : Nat) : Prop := ∃ a q', m < a ∧ a < B ∧ M x m = nI a ∧ M 42 a = nI q' ∧ I y q = nI q' ∧ M 45 a = nI m
def sa (I M : am_I) (m q c : Nat) : Prop := ∃ t l, t < c ∧ M 44 m = nI t ∧ I 13 q = nI (tm t) ∧ hb M 19 t ∧ I 6 (tm t) = nI l ∧ l ≤ 100
/-- node m is, at its position, an expression of the class; its parts stand behind it, below B -/
def nd (I M : am_I) (B c m : Nat) : Prop := ∃ q o, M 42 m = nI q ∧ q < 100 ∧ M 41 m = nI o ∧ I 7 q = nI o ∧ o ≤ 13 ∧ pr I M m q ∧ (o ≤ 3 → I 12 q = M 43 m) ∧ (o = 1 → M 43 m = 0 ∨ M 43 m = 1) ∧ (o = 2 ∨ o = 3 → isL (M 43 m)) ∧ (o = 3 ∨ o = 12 → sa I M m q c) ∧ (3 ≤ o → pa I M m q B 46 9) ∧ (4 ≤ o → o ≤ 9 → pa I M m q B 47 10) ∧ (o = 9 → pa I M m q B 48 11)
/-- height and weight -/
def tw (I M : am_I) (B c : Nat) : Nat → Nat → Nat → Prop
  | 0, _, _ => False
  | h + 1, w, m => m < B ∧ 1 ≤ w ∧ ∃ o, M 41 m = nI o ∧ o ≤ 13 ∧ (o = 3 → ∃ a t l w1, M 46 m = nI a ∧ m < a ∧ tw I M B c h w1 a ∧ M 44 m = nI t ∧ t < c ∧ I 6 (tm t) = nI l ∧ l ≤ 100 ∧ w1 + l + 3 ≤ w) ∧ (10 ≤ o → ∃ a w1, M 46 m = nI a ∧ m < a ∧ tw I M B c h w1 a ∧ w1 + 1 ≤ w ∧ (o = 12 → w1 + 4 ≤ w)) ∧ (4 ≤ o → o ≤ 9 → ∃ a b w1 w2, M 46 m = nI a ∧ m < a ∧ tw I M B c h w1 a ∧ M 47 m = nI b ∧ m < b ∧ tw I M B c h w2 b ∧ w1 + w2 + 3 ≤ w) ∧ (o = 9 → ∃ a b w1 w2, M 46 m = nI a ∧ m < a ∧ tw I M B c h w1 a ∧ M 48 m = nI b ∧ m < b ∧ tw I M B c h w2 b ∧ w1 + w2 + 3 ≤ w)
/-- the parts of a node are different ones -/
def dn (M : am_I) (y : Nat) : Prop := (∀ o, M 41 y = nI o → o ≤ 13 → 4 ≤ o → o ≤ 9 → ∀ a b, M 46 y = nI a → M 47 y = nI b → a < 101 → b < 101 → ¬ a = b) ∧ (M 41 y = nI 9 → ∀ a b, M 46 y = nI a → M 48 y = nI b → a < 101 → b < 101 → ¬ a = b) ∧ (M 41 y = nI 9 → ∀ a b, M 47 y = nI a → M 48 y = nI b → a < 101 → b < 101 → ¬ a = b)
theorem dn_X {M M' : am_I} {m : Nat} (h : ∀ x, 41 ≤ x → x ≤ 48 → M' x m = M x m) (d : dn M m) : dn M' m := by
  unfold dn at d ⊢
  rw [h 41 (by omega) (by omega), h 46 (by omega) (by omega), h 47 (by omega) (by omega), h 48 (by omega) (by omega)]
  exact d
theorem dn_1 {M : am_I} {m o : Nat} (h : M 41 m = nI o) (h1 : o < 4 ∨ 9 < o) (h2 : o ≤ 13) : dn M m := by
  refine ⟨fun o' a b c d => ?_, fun a => ?_, fun a => ?_⟩
  · have := nI_inj (by omega) (by omega) (h.symm.trans a)
    omega
  · have := nI_inj (by omega) (by omega) (h.symm.trans a)
    omega
  · have := nI_inj (by omega) (by omega) (h.symm.trans a)
    omega
theorem dn_2 {M : am_I} {m o a b : Nat} (h : M 41 m = nI o) (h1 : o ≤ 8) (h2 : M 46 m = nI a) (h3 : M 47 m = nI b) (h4 : a < b) (h5 : b < 101) : dn M m := by
  refine ⟨fun o' _ _ _ _ a' b' e1 e2 l1 l2 => ?_, fun a => ?_, fun a => ?_⟩
  · have := nI_inj (by omega) (by omega) (h2.symm.trans e1)
    have := nI_inj (by omega) (by omega) (h3.symm.trans e2)
    omega
  · have := nI_inj (by omega) (by omega) (h.symm.trans a)
    omega
  · have := nI_inj (by omega) (by omega) (h.symm.trans a)
    omega
theorem dn_3 {M : am_I} {m a b e : Nat} (h2 : M 46 m = nI a) (h3 : M 47 m = nI b) (h6 : M 48 m = nI e) (h4 : a < b) (h7 : b < e) (h5 : e < 101) : dn M m := by
  refine ⟨fun o' _ _ _ _ a' b' e1 e2 l1 l2 => ?_, fun _ a' b' e1 e2 l1 l2 => ?_, fun _ a' b' e1 e2 l1 l2 => ?_⟩
  · have := nI_inj (by omega) (by omega) (h2.symm.trans e1)
    have := nI_inj (by omega) (by omega) (h3.symm.trans e2)
    omega
  · have := nI_inj (by omega) (by omega) (h2.symm.trans e1)
    have := nI_inj (by omega) (by omega) (h6.symm.trans e2)
    omega
  · have := nI_inj (by omega) (by omega) (h3.symm.trans e1)
    have := nI_inj (by omega) (by omega) (h6.symm.trans e2)
    omega
def ip (M : am_I) (x a : Nat) : Prop := ∃ o, o ≤ 13 ∧ M 41 x = nI o ∧ ((3 ≤ o ∧ M 46 x = nI a) ∨ (4 ≤ o ∧ o ≤ 9 ∧ M 47 x = nI a) ∨ (o = 9 ∧ M 48 x = nI a))
/-- the order of the ends -/
def od (I M : am_I) (A B K0 K : Nat) : Prop := (∀ k, K0 ≤ k → k < K → ∃ x, A ≤ x ∧ x < B ∧ M 50 k = nI x ∧ I 17 k = M 42 x ∧ ∀ a, a < 101 → ip M x a → ∃ j, K0 ≤ j ∧ j < k ∧ M 50 j = nI a) ∧ (∀ x, A ≤ x → x < B → ∃ k, K0 ≤ k ∧ k < K ∧ M 50 k = nI x) ∧ (∀ j k, K0 ≤ j → j < k → k < K → ¬ M 50 j = M 50 k)
def sg (I M : am_I) (c A B s p K0 K : Nat) : Prop := (∀ m, A ≤ m → m < B → nd I M B c m) ∧ (∀ m, A ≤ m → m < B → ∃ q, s ≤ q ∧ q < p ∧ M 42 m = nI q) ∧ (∀ m m' q q', A ≤ m → m < m' → m' < B → M 42 m = nI q → M 42 m' = nI q' → q < 1000 → q' < 1000 → q < q') ∧ od I M A B K0 K ∧ (∀ m, A ≤ m → m < B → dn M m ∧ ∃ h w, h ≤ 20 ∧ w ≤ 100 ∧ tw I M B c h w m)
/-- what stands between is as it was -/
def ag (I M I' M' : am_I) (T N s p K0 K : Nat) : Prop := (∀ x m, 41 ≤ x → x ≤ 48 → T < m → m < N → M' x m = M x m) ∧ (∀ x q, 7 ≤ x → x ≤ 13 → s < q → q < p → I' x q = I x q) ∧ (∀ k, K0 ≤ k → k < K → M' 50 k = M 50 k ∧ I' 17 k = I 17 k) ∧ (∀ m, m < N → M' 42 m = M 42 m)
theorem nd_le {I M : am_I} {B B' c c' m : Nat} (h : nd I M B c m) (hB : B ≤ B') (hc : c ≤ c') : nd I M B' c' m := by
  obtain ⟨q, o, h1, h2, h3, h4, h5, h6, h7, h8, h9, h10, h11, h12, h13⟩ := h
  have z : ∀ {x y}, pa I M m q B x y → pa I M m q B' x y := by
    rintro x y ⟨a, q', g1, g2, g3⟩
    exact ⟨a, q', g1, by omega, g3⟩
  refine ⟨q, o, h1, h2, h3, h4, h5, h6, h7, h8, h9, fun w => ?_, fun w => z (h11 w), fun w1 w2 => z (h12 w1 w2), fun w => z (h13 w)⟩
  obtain ⟨t, l, g1, g2⟩ := h10 w
  exact ⟨t, l, by omega, g2⟩
theorem nd_X {I M I' M' : am_I} {B c m T s p : Nat} (h : nd I M B c m) (hT : T < m) (hm : m < B) (hX : tyX I M I' M' c) (hc : 5 ≤ c) (a1 : ∀ x m, 41 ≤ x → x ≤ 48 → T < m → m < B → M' x m = M x m) (a2 : ∀ x q, 7 ≤ x → x ≤ 13 → s < q → q < p → I' x q = I x q) (a3 : ∀ m, m < B → M' 42 m = M 42 m) (hq : ∃ q, s < q ∧ q < p ∧ M 42 m = nI q) (hp2 : p ≤ 1000) : nd I' M' B c m := by
  obtain ⟨q, o, h1, h2, h3, h4, h5, h6, h7, h8, h9, h10, h11, h12, h13⟩ := h
  obtain ⟨q2, b1, b2, b3⟩ := hq
  have e := nI_inj (by omega) (by omega) (h1.symm.trans b3)
  subst e
  have z : ∀ {x y}, 46 ≤ x → x ≤ 48 → 9 ≤ y → y ≤ 11 → pa I M m q B x y → pa I' M' m q B x y := by
    rintro x y x1 x2 y1 y2 ⟨a, q', g1, g2, g3, g4, g5, g6⟩
    refine ⟨a, q', g1, g2, ?_, ?_, ?_, ?_⟩
    · rw [a1 x m (by omega) (by omega) hT hm]
      exact g3
    · rw [a3 a g2]
      exact g4
    · rw [a2 y q (by omega) (by omega) b1 b2]
      exact g5
    · rw [a1 45 a (by omega) (by omega) (by omega) g2]
      exact g6
  refine ⟨q, o, ?_, h2, ?_, ?_, h5, ?_, fun w => ?_, fun w => ?_, fun w => ?_, fun w => ?_, fun w => z (by omega) (by omega) (by omega) (by omega) (h11 w), fun w1 w2 => z (by omega) (by omega) (by omega) (by omega) (h12 w1 w2), fun w => z (by omega) (by omega) (by omega) (by omega) (h13 w)⟩
  · rw [a3 m hm]
    exact h1
  · rw [a1 41 m (by omega) (by omega) hT hm]
    exact h3
  · rw [a2 7 q (by omega) (by omega) b1 b2]
    exact h4
  · rcases h6 with ⟨g1, g2⟩ | ⟨m', g1, g2, g3⟩
    · left
      rw [a1 45 m (by omega) (by omega) hT hm, a2 8 q (by omega) (by omega) b1 b2]
      exact ⟨g1, g2⟩
    · right
      refine ⟨m', g1, ?_, ?_⟩
      · rw [a1 45 m (by omega) (by omega) hT hm]
        exact g2
      · rw [a2 8 q (by omega) (by omega) b1 b2, a3 m' (by omega)]
        exact g3
  · rw [a2 12 q (by omega) (by omega) b1 b2, a1 43 m (by omega) (by omega) hT hm]
    exact h7 w
  · rw [a1 43 m (by omega) (by omega) hT hm]
    exact h8 w
  · rw [a1 43 m (by omega) (by omega) hT hm]
    exact h9 w
  · obtain ⟨t, l, g1, g2, g3, g4, g5, g6⟩ := h10 w
    refine ⟨t, l, g1, ?_, ?_, hb_X (c := c) (fun t ht => (hX t ht).1) g1 g4, ?_, g6⟩
    · rw [a1 44 m (by omega) (by omega) hT hm]
      exact g2
    · rw [a2 13 q (by omega) (by omega) b1 b2]
      exact g3
    · rw [(hX (tm t) (tm_lt g1 (by omega))).2.2.2.2]
      exact g5
theorem tw_X {I M I' M' : am_I} {B c T : Nat} (hX : tyX I M I' M' c) (hc : 5 ≤ c) (a1 : ∀ x m, 41 ≤ x → x ≤ 48 → T < m → m < B → M' x m = M x m) : ∀ (h w m : Nat), T < m → tw I M B c h w m → tw I' M' B c h w m
  | 0, _, _, _, g => g
  | h + 1, w, m, hm, g => by
    obtain ⟨g1, g2, o, g3, g4, g5, g6, g7, g8⟩ := g
    refine ⟨g1, g2, o, (a1 41 m (by omega) (by omega) hm g1).trans g3, g4, fun z => ?_, fun z => ?_, fun z z2 => ?_, fun z => ?_⟩
    · obtain ⟨a, t, l, w1, k1, k2, k3, k4, k5, k6, k7⟩ := g5 z
      exact ⟨a, t, l, w1, (a1 46 m (by omega) (by omega) hm g1).trans k1, k2, tw_X hX hc a1 h w1 a (by omega) k3, (a1 44 m (by omega) (by omega) hm g1).trans k4, k5, ((hX (tm t) (tm_lt k5 (by omega))).2.2.2.2).trans k6, k7⟩
    · obtain ⟨a, w1, k1, k2, k3, k4⟩ := g6 z
      exact ⟨a, w1, (a1 46 m (by omega) (by omega) hm g1).trans k1, k2, tw_X hX hc a1 h w1 a (by omega) k3, k4⟩
    · obtain ⟨a, b, w1, w2, k1, k2, k3, k4, k5, k6, k7⟩ := g7 z z2
      exact ⟨a, b, w1, w2, (a1 46 m (by omega) (by omega) hm g1).trans k1, k2, tw_X hX hc a1 h w1 a (by omega) k3, (a1 47 m (by omega) (by omega) hm g1).trans k4, k5, tw_X hX hc a1 h w2 b (by omega) k6, k7⟩
    · obtain ⟨a, b, w1, w2, k1, k2, k3, k4, k5, k6, k7⟩ := g8 z
      exact ⟨a, b, w1, w2, (a1 46 m (by omega) (by omega) hm g1).trans k1, k2, tw_X hX hc a1 h w1 a (by omega) k3, (a1 48 m (by omega) (by omega) hm g1).trans k4, k5, tw_X hX hc a1 h w2 b (by omega) k6, k7⟩
theorem tw_le {I M : am_I} {B B' c c' : Nat} (hB : B ≤ B') (hc : c ≤ c') : ∀ (h w m : Nat), tw I M B c h w m → tw I M B' c' h w m
  | 0, _, _, g => g
  | h + 1, w, m, g => by
    obtain ⟨g1, g2, o, g3, g4, g5, g6, g7, g8⟩ := g
    refine ⟨by omega, g2, o, g3, g4, fun z => ?_, fun z => ?_, fun z z2 => ?_, fun z => ?_⟩
    · obtain ⟨a, t, l, w1, k1, k2, k3, k4, k5, k6⟩ := g5 z
      exact ⟨a, t, l, w1, k1, k2, tw_le hB hc h w1 a k3, k4, by omega, k6⟩
    · obtain ⟨a, w1, k1, k2, k3, k4⟩ := g6 z
      exact ⟨a, w1, k1, k2, tw_le hB hc h w1 a k3, k4⟩
    · obtain ⟨a, b, w1, w2, k1, k2, k3, k4, k5, k6, k7⟩ := g7 z z2
      exact ⟨a, b, w1, w2, k1, k2, tw_le hB hc h w1 a k3, k4, k5, tw_le hB hc h w2 b k6, k7⟩
    · obtain ⟨a, b, w1, w2, k1, k2, k3, k4, k5, k6, k7⟩ := g8 z
      exact ⟨a, b, w1, w2, k1, k2, tw_le hB hc h w1 a k3, k4, k5, tw_le hB hc h w2 b k6, k7⟩
theorem ip_X {M M' : am_I} {x a : Nat} (a1 : ∀ y, 41 ≤ y → y ≤ 48 → M' y x = M y x) (h : ip M' x a) : ip M x a := by
  obtain ⟨o, h1, h2, h3⟩ := h
  rw [a1 41 (by omega) (by omega)] at h2
  rw [a1 46 (by omega) (by omega), a1 47 (by omega) (by omega), a1 48 (by omega) (by omega)] at h3
  exact ⟨o, h1, h2, h3⟩
theorem sg_X {I M I' M' : am_I} {c c' T N s p K0 K : Nat} (h : sg I M c (T + 1) N (s + 1) p K0 K) (hg : ag I M I' M' T N s p K0 K) (hX : tyX I M I' M' c) (hc : 5 ≤ c) (hc' : c ≤ c') (hp2 : p ≤ 1000) : sg I' M' c' (T + 1) N (s + 1) p K0 K := by
  obtain ⟨h1, h2, h3, ⟨h4, h5, h6⟩, h7⟩ := h
  obtain ⟨g1, g2, g3, g4⟩ := hg
  refine ⟨fun m m1 m2 => ?_, fun m m1 m2 => ?_, fun m m' q q' m1 m2 m3 q1 q2 => ?_, ⟨fun k k1 k2 => ?_, fun x x1 x2 => ?_, fun j k k1 k2 k3 => ?_⟩, fun m m1 m2 => ?_⟩
  · refine nd_le (c := c) (nd_X (T := T) (s := s) (p := p) (h1 m m1 m2) (by omega) m2 hX hc g1 g2 g4 ?_ hp2) (by omega) hc'
    obtain ⟨q, q1, q2, q3⟩ := h2 m m1 m2
    exact ⟨q, by omega, q2, q3⟩
  · obtain ⟨q, q1, q2, q3⟩ := h2 m m1 m2
    exact ⟨q, q1, q2, (g4 m m2).trans q3⟩
  · rw [g4 m (by omega)] at q1
    rw [g4 m' (by omega)] at q2
    exact h3 m m' q q' m1 m2 m3 q1 q2
  · obtain ⟨x, x1, x2, x3, x4, x5⟩ := h4 k k1 k2
    obtain ⟨e1, e2⟩ := g3 k k1 k2
    refine ⟨x, x1, x2, e1.trans x3, ?_, fun a a1 a2 => ?_⟩
    · rw [e2, g4 x x2]
      exact x4
    · obtain ⟨j, j1, j2, j3⟩ := x5 a a1 (ip_X (fun y y1 y2 => g1 y x y1 y2 (by omega) x2) a2)
      exact ⟨j, j1, j2, ((g3 j j1 (by omega)).1).trans j3⟩
  · obtain ⟨k, k1, k2, k3⟩ := h5 x x1 x2
    exact ⟨k, k1, k2, ((g3 k k1 k2).1).trans k3⟩
  · rw [(g3 j k1 (by omega)).1, (g3 k (by omega) k3).1]
    exact h6 j k k1 k2 k3
  · obtain ⟨dd, h, w, a1, a2, a3⟩ := h7 m m1 m2
    exact ⟨dn_X (fun x x1 x2 => g1 x m x1 x2 (by omega) m2) dd, h, w, a1, a2, tw_le (Nat.le_refl _) hc' _ _ _ (tw_X (T := T) hX hc g1 h w m (by omega) a3)⟩
theorem sg_app {I M : am_I} {c A B C s p p' K0 K K' : Nat} (h : sg I M c A B s p K0 K) (g : sg I M c B C p p' K K') (hs : s ≤ p) (hp2 : p ≤ p') (hAB : A ≤ B) (hBC : B ≤ C) (hC : C ≤ 101) (hK : K0 ≤ K) (hK' : K ≤ K') (hp3 : p' ≤ 1000) : sg I M c A C s p' K0 K' := by
  obtain ⟨h1, h2, h3, ⟨h4, h5, h6⟩, h7⟩ := h
  obtain ⟨g1, g2, g3, ⟨g4, g5, g6⟩, g7⟩ := g
  refine ⟨fun m m1 m2 => ?_, fun m m1 m2 => ?_, fun m m' q q' m1 m2 m3 q1 q2 q3 q4 => ?_, ⟨fun k k1 k2 => ?_, fun x x1 x2 => ?_, fun j k k1 k2 k3 => ?_⟩, fun m m1 m2 => ?_⟩
  · by_cases z : m < B
    · exact nd_le (h1 m m1 z) hBC (by omega)
    · exact g1 m (by omega) m2
  · by_cases z : m < B
    · obtain ⟨q, q1, q2, q3⟩ := h2 m m1 z
      exact ⟨q, q1, by omega, q3⟩
    · obtain ⟨q, q1, q2, q3⟩ := g2 m (by omega) m2
      exact ⟨q, by omega, q2, q3⟩
  · by_cases z : m' < B
    · exact h3 m m' q q' m1 m2 z q1 q2 q3 q4
    · by_cases z2 : m < B
      · obtain ⟨w, w1, w2, w3⟩ := h2 m m1 z2
        obtain ⟨v, v1, v2, v3⟩ := g2 m' (by omega) m3
        have e1 := nI_inj (by omega) (by omega) (q1.symm.trans w3)
        have e2 := nI_inj (by omega) (by omega) (q2.symm.trans v3)
        omega
      · exact g3 m m' q q' (by omega) m2 m3 q1 q2 q3 q4
  · by_cases z : k < K
    · obtain ⟨x, x1, x2, x3, x4, x5⟩ := h4 k k1 z
      exact ⟨x, x1, by omega, x3, x4, x5⟩
    · obtain ⟨x, x1, x2, x3, x4, x5⟩ := g4 k (by omega) k2
      refine ⟨x, by omega, x2, x3, x4, fun a a1 a2 => ?_⟩
      obtain ⟨j, j1, j2, j3⟩ := x5 a a1 a2
      exact ⟨j, by omega, j2, j3⟩
  · by_cases z : x < B
    · obtain ⟨k, k1, k2, k3⟩ := h5 x x1 z
      exact ⟨k, k1, by omega, k3⟩
    · obtain ⟨k, k1, k2, k3⟩ := g5 x (by omega) x2
      exact ⟨k, by omega, k2, k3⟩
  · by_cases z : k < K
    · exact h6 j k k1 k2 z
    · by_cases z2 : j < K
      · obtain ⟨x, x1, x2, x3, _⟩ := h4 j k1 z2
        obtain ⟨y, y1, y2, y3, _⟩ := g4 k (by omega) k3
        intro e
        rw [x3, y3] at e
        have e1 := nI_inj (by omega) (by omega) e
        omega
      · exact g6 j k (by omega) k2 k3
  · by_cases z : m < B
    · obtain ⟨dd, h, w, a1, a2, a3⟩ := h7 m m1 z
      exact ⟨dd, h, w, a1, a2, tw_le hBC (Nat.le_refl _) _ _ _ a3⟩
    · exact g7 m (by omega) m2
theorem sg_nil {I M : am_I} {c A s p K : Nat} : sg I M c A A s p K K := by
  refine ⟨fun m m1 m2 => by omega, fun m m1 m2 => by omega, fun m m' q q' m1 m2 m3 => by omega, ⟨fun k k1 k2 => by omega, fun x x1 x2 => by omega, fun j k k1 k2 k3 => by omega⟩, fun m m1 m2 => by omega⟩
theorem sg_top {I M : am_I} {c T N s p K0 K : Nat} (h : sg I M c (T + 1) N (s + 1) p K0 K) (hn : nd I M N c T) (hT : T < N) (hN : N ≤ 101) (hs : s < p) (hp3 : p ≤ 1000) (ha : M 42 T = nI s) (hk : M 50 K = nI T) (hk2 : I 17 K = nI s) (hK : K0 ≤ K) (htw : dn M T ∧ ∃ h w, h ≤ 20 ∧ w ≤ 100 ∧ tw I M N c h w T) : sg I M c T N s p K0 (K + 1) := by
  obtain ⟨h1, h2, h3, ⟨h4, h5, h6⟩, h7⟩ := h
  refine ⟨fun m m1 m2 => ?_, fun m m1 m2 => ?_, fun m m' q q' m1 m2 m3 q1 q2 q3 q4 => ?_, ⟨fun k k1 k2 => ?_, fun x x1 x2 => ?_, fun j k k1 k2 k3 => ?_⟩, fun m m1 m2 => ?_⟩
  · by_cases z : m = T
    · rw [z]
      exact hn
    · exact h1 m (by omega) m2
  · by_cases z : m = T
    · rw [z]
      exact ⟨s, by omega, hs, ha⟩
    · obtain ⟨q, q1, q2, q3⟩ := h2 m (by omega) m2
      exact ⟨q, by omega, q2, q3⟩
  · by_cases z : m = T
    · subst z
      obtain ⟨v, v1, v2, v3⟩ := h2 m' (by omega) m3
      have e1 := nI_inj (by omega) (by omega) (q1.symm.trans ha)
      have e2 := nI_inj (by omega) (by omega) (q2.symm.trans v3)
      omega
    · exact h3 m m' q q' (by omega) m2 m3 q1 q2 q3 q4
  · by_cases z : k = K
    · subst z
      refine ⟨T, by omega, hT, hk, hk2.trans ha.symm, fun a a1 a2 => ?_⟩
      have hlt : T < a ∧ a < N := by
        obtain ⟨q, o, _, _, e3, _, e5, _, _, _, _, _, e11, e12, e13⟩ := hn
        obtain ⟨o', b1, b2, b3⟩ := a2
        have e := nI_inj (by omega) (by omega) (e3.symm.trans b2)
        subst e
        rcases b3 with ⟨c1, c2⟩ | ⟨c1, c2, c3⟩ | ⟨c1, c2⟩
        · obtain ⟨a', q', d1, d2, d3, _⟩ := e11 c1
          have := nI_inj (by omega) (by omega) (c2.symm.trans d3)
          omega
        · obtain ⟨a', q', d1, d2, d3, _⟩ := e12 c1 c2
          have := nI_inj (by omega) (by omega) (c3.symm.trans d3)
          omega
        · obtain ⟨a', q', d1, d2, d3, _⟩ := e13 c1
          have := nI_inj (by omega) (by omega) (c2.symm.trans d3)
          omega
      obtain ⟨j, j1, j2, j3⟩ := h5 a (by omega) hlt.2
      exact ⟨j, j1, j2, j3⟩
    · obtain ⟨x, x1, x2, x3, x4, x5⟩ := h4 k k1 (by omega)
      exact ⟨x, by omega, x2, x3, x4, x5⟩
  · by_cases z : x = T
    · rw [z]
      exact ⟨K, hK, by omega, hk⟩
    · obtain ⟨k, k1, k2, k3⟩ := h5 x (by omega) x2
      exact ⟨k, k1, by omega, k3⟩
  · by_cases z : k = K
    · subst z
      obtain ⟨x, x1, x2, x3, _⟩ := h4 j k1 k2
      intro e
      rw [x3, hk] at e
      have e1 := nI_inj (by omega) (by omega) e
      omega
    · exact h6 j k k1 k2 (by omega)
  · by_cases z : m = T
    · rw [z]
      exact htw
    · exact h7 m (by omega) m2
