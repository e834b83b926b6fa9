/-! Reading an expression: the state within one, and at its end. -/
def rdE (I M : am_I) (n p c N K o : Nat) : Prop := rdS I M n p c ∧ c + N ≤ 5 + p ∧ M 36 8 = nI N ∧ M 36 21 = nI o ∧ o ≤ 20 ∧ I 1 12 = nI K ∧ M 36 18 = nI K ∧ K + o ≤ N ∧ (∀ m, m < N → ∃ q, q < p ∧ M 42 m = nI q) ∧ (∀ j, j < o → ∃ m, m < N ∧ M 51 j = nI m)
def eFI (I I' : am_I) (p K : Nat) : Prop := ∀ x q, ¬ x = 1 → ¬ (2 ≤ x ∧ x ≤ 6) → ¬ x = 18 → (x < 7 ∨ (14 ≤ x ∧ ¬ x = 17) ∨ (x ≤ 13 ∧ q < p) ∨ (x = 17 ∧ q < K)) → I' x q = I x q
def eFM (M M' : am_I) (N K o : Nat) : Prop := (∀ x m, ¬ x = 36 → ¬ (38 ≤ x ∧ x ≤ 40) → ¬ x = 52 → (x < 41 ∨ 52 < x ∨ (x ≤ 49 ∧ m < N) ∨ (x = 50 ∧ m < K) ∨ (x = 51 ∧ m < o)) → M' x m = M x m) ∧ (∀ y, ¬ y = 2 → ¬ y = 8 → ¬ y = 18 → ¬ y = 20 → ¬ y = 21 → ¬ y = 23 → M' 36 y = M 36 y)
def stI (I I' : am_I) (s : Nat) : Prop := ∀ x q, ¬ (2 ≤ x ∧ x ≤ 6) → ¬ x = 18 → (¬ q = s ∨ x < 7 ∨ x = 8 ∨ 13 < x) → I' x q = I x q
def stM (M M' : am_I) (T : Nat) : Prop := (∀ x m, ¬ x = 36 → ¬ (38 ≤ x ∧ x ≤ 40) → ¬ x = 52 → (¬ m = T ∨ x < 41 ∨ x = 42 ∨ x = 45 ∨ 49 < x) → M' x m = M x m) ∧ (∀ y, ¬ y = 2 → ¬ y = 20 → ¬ y = 23 → M' 36 y = M 36 y)
/-- the pure half of what reading an expression does -/
def ePure (e : Nat) (I M : am_I) (n p c N K o : Nat) (y par : Int32) (I' M' : am_I) (p' c' N' K' : Nat) : Prop := rdE I' M' n p' c' N' K' o ∧ p < p' ∧ N < N' ∧ K < K' ∧ c ≤ c' ∧ tyX I M I' M' c ∧ eFI I I' p K ∧ eFM M M' N K o ∧ sg I' M' c' N N' p p' K K' ∧ M' 42 N = nI p ∧ I' 8 p = y ∧ M' 45 N = par ∧ tw I' M' N' c' e (p' - p) N
def Mid (I0 M0 I M : am_I) (n p c N K O o s T K0 c0 : Nat) (y par : Int32) : Prop := rdE I M n p c N K O ∧ (O = o ∨ O = o + 1) ∧ K + o + 1 ≤ N ∧ (O = o + 1 → M 51 o = nI T) ∧ M 42 T = nI s ∧ s < p ∧ T < N ∧ K0 ≤ K ∧ eFI I0 I s K0 ∧ eFM M0 M T K0 o ∧ tyX I0 M0 I M c0 ∧ 5 ≤ c0 ∧ c0 ≤ c ∧ sg I M c (T + 1) N (s + 1) p K0 K ∧ I 8 s = y ∧ M 45 T = par
theorem st_ag {I M I' M' : am_I} {T N s p K0 K : Nat} (h1 : stI I I' s) (h2 : stM M M' T) : ag I M I' M' T N s p K0 K := by
  refine ⟨fun x m a b c d => ?_, fun x q a b c d => ?_, fun k a b => ⟨?_, ?_⟩, fun m a => ?_⟩
  · exact h2.1 x m (by omega) (by omega) (by omega) (by omega)
  · exact h1 x q (by omega) (by omega) (by omega)
  · exact h2.1 50 k (by omega) (by omega) (by omega) (by omega)
  · exact h1 17 k (by omega) (by omega) (by omega)
  · exact h2.1 42 m (by omega) (by omega) (by omega) (by omega)
theorem eF_ag {I M I' M' : am_I} {T N s p K0 K o : Nat} (h1 : eFI I I' p K) (h2 : eFM M M' N K o) : ag I M I' M' T N s p K0 K := by
  refine ⟨fun x m a b c d => ?_, fun x q a b c d => ?_, fun k a b => ⟨?_, ?_⟩, fun m a => ?_⟩
  · exact h2.1 x m (by omega) (by omega) (by omega) (by omega)
  · exact h1 x q (by omega) (by omega) (by omega) (by omega)
  · exact h2.1 50 k (by omega) (by omega) (by omega) (by omega)
  · exact h1 17 k (by omega) (by omega) (by omega) (by omega)
  · exact h2.1 42 m (by omega) (by omega) (by omega) (by omega)
theorem rdE_step {I M I' M' : am_I} {n p c p' c' N K O s T : Nat} (h : rdE I M n p c N K O) (hS : rdS I' M' n p' c') (hp1 : p ≤ p') (hc : c' + N ≤ 5 + p') (h1 : stI I I' s) (h2 : stM M M' T) : rdE I' M' n p' c' N K O := by
  obtain ⟨a1, a2, a3, a4, a5, a6, a7, a8, a9, a10⟩ := h
  refine ⟨hS, hc, (h2.2 8 (by omega) (by omega) (by omega)).trans a3, (h2.2 21 (by omega) (by omega) (by omega)).trans a4, a5, (h1 1 12 (by omega) (by omega) (by omega)).trans a6, (h2.2 18 (by omega) (by omega) (by omega)).trans a7, a8, fun m hm => ?_, fun j hj => ?_⟩
  · obtain ⟨q, q1, q2⟩ := a9 m hm
    exact ⟨q, by omega, (h2.1 42 m (by omega) (by omega) (by omega) (by omega)).trans q2⟩
  · obtain ⟨m, m1, m2⟩ := a10 j hj
    exact ⟨m, m1, (h2.1 51 j (by omega) (by omega) (by omega) (by omega)).trans m2⟩
theorem sg_p {I M : am_I} {c A B s p p' K0 K : Nat} (h : sg I M c A B s p K0 K) (hp1 : p ≤ p') : sg I M c A B s p' K0 K := by
  obtain ⟨h1, h2, h3, h4⟩ := h
  refine ⟨h1, fun m m1 m2 => ?_, h3, h4⟩
  obtain ⟨q, q1, q2, q3⟩ := h2 m m1 m2
  exact ⟨q, q1, by omega, q3⟩
theorem Mid_step {I0 M0 I M I' M' : am_I} {n p c p' c' N K O o s T K0 c0 : Nat} {y par : Int32} (h : Mid I0 M0 I M n p c N K O o s T K0 c0 y par) (hS : rdS I' M' n p' c') (hp1 : p ≤ p') (hc1 : c ≤ c') (hc : c' + N ≤ 5 + p') (hX : tyX I M I' M' c) (h1 : stI I I' s) (h2 : stM M M' T) : Mid I0 M0 I' M' n p' c' N K O o s T K0 c0 y par := by
  obtain ⟨b1, b2, b3, b4, b5, b6, b7, b8, b9, b10, b11, b12, b13, b14, b15, b16⟩ := h
  have hp100 : p ≤ 100 := by
    have := b1.1.2.2.2.1
    have := b1.1.1.2.2.1
    omega
  refine ⟨rdE_step b1 hS hp1 hc h1 h2, b2, b3, fun w => ?_, ?_, by omega, b7, b8, ?_, ⟨?_, ?_⟩, tyX_trans b11 hX b13, b12, by omega, ?_, ?_, ?_⟩
  · exact (h2.1 51 o (by omega) (by omega) (by omega) (by omega)).trans (b4 w)
  · exact (h2.1 42 T (by omega) (by omega) (by omega) (by omega)).trans b5
  · intro x q w1 w2 w3 w4
    exact (h1 x q w2 w3 (by omega)).trans (b9 x q w1 w2 w3 w4)
  · intro x m w1 w2 w3 w4
    exact (h2.1 x m w1 w2 w3 (by omega)).trans (b10.1 x m w1 w2 w3 w4)
  · intro z w1 w2 w3 w4 w5 w6
    exact (h2.2 z w1 w4 w6).trans (b10.2 z w1 w2 w3 w4 w5 w6)
  · exact sg_p (sg_X b14 (st_ag h1 h2) hX (by omega) hc1 (by omega)) hp1
  · exact (h1 8 s (by omega) (by omega) (by omega)).trans b15
  · exact (h2.1 45 T (by omega) (by omega) (by omega) (by omega)).trans b16
theorem Mid_part {I0 M0 I M I' M' : am_I} {e n p c p' c' N K N' K' o s T K0 c0 : Nat} {y par y2 par2 : Int32} (h : Mid I0 M0 I M n p c N K (o + 1) o s T K0 c0 y par) (g : ePure e I M n p c N K (o + 1) y2 par2 I' M' p' c' N' K') : Mid I0 M0 I' M' n p' c' N' K' (o + 1) o s T K0 c0 y par := by
  obtain ⟨b1, b2, b3, b4, b5, b6, b7, b8, b9, b10, b11, b12, b13, b14, b15, b16⟩ := h
  obtain ⟨g1, g2, g3, g4, g5, g6, g7, g8, g9, g10, g11, g12, g13⟩ := g
  have hp100 : p' ≤ 100 := by
    have := g1.1.2.2.2.1
    have := g1.1.1.2.2.1
    omega
  have hN100 : N' ≤ 100 := by
    have := g1.2.1
    have := g1.1.2.2.2.2.1.1
    omega
  have hKO := g1.2.2.2.2.2.2.2.1
  refine ⟨g1, .inr rfl, by omega, fun w => ?_, ?_, by omega, by omega, by omega, ?_, ⟨?_, ?_⟩, tyX_trans b11 g6 b13, b12, by omega, ?_, ?_, ?_⟩
  · exact (g8.1 51 o (by omega) (by omega) (by omega) (by omega)).trans (b4 w)
  · exact (g8.1 42 T (by omega) (by omega) (by omega) (by omega)).trans b5
  · intro x q w1 w2 w3 w4
    exact (g7 x q w1 w2 w3 (by omega)).trans (b9 x q w1 w2 w3 w4)
  · intro x m w1 w2 w3 w4
    exact (g8.1 x m w1 w2 w3 (by omega)).trans (b10.1 x m w1 w2 w3 w4)
  · intro z w1 w2 w3 w4 w5 w6
    exact (g8.2 z w1 w2 w3 w4 w5 w6).trans (b10.2 z w1 w2 w3 w4 w5 w6)
  · refine sg_app (sg_X b14 (eF_ag g7 g8) g6 (by omega) g5 (by omega)) g9 (by omega) (by omega) (by omega) (by omega) (by omega) (by omega) (by omega) (by omega)
  · exact (g7 8 s (by omega) (by omega) (by omega) (by omega)).trans b15
  · exact (g8.1 45 T (by omega) (by omega) (by omega) (by omega)).trans b16
/-- a part that has been read -/
def pt (I M : am_I) (T N c e w a : Nat) : Prop := T < a ∧ a < N ∧ (∃ q, M 42 a = nI q ∧ q < 100) ∧ M 45 a = nI T ∧ tw I M N c e w a
theorem pt_X {I M I' M' : am_I} {T N N' s p K0 K c c' e w a : Nat} (h : pt I M T N c e w a) (hg : ag I M I' M' T N s p K0 K) (hX : tyX I M I' M' c) (hc : 5 ≤ c) (hc' : c ≤ c') (hN : N ≤ N') : pt I' M' T N' c' e w a := by
  obtain ⟨h1, h2, ⟨q, h3, h4⟩, h5, h6⟩ := h
  refine ⟨h1, by omega, ⟨q, (hg.2.2.2 a h2).trans h3, h4⟩, (hg.1 45 a (by omega) (by omega) h1 h2).trans h5, tw_le hN hc' _ _ _ (tw_X (T := T) hX hc hg.1 e w a h1 h6)⟩
theorem pt_new {I M I' M' : am_I} {e n p c p' c' N K N' K' o T : Nat} {y : Int32} (hT : T < N) (g : ePure e I M n p c N K o y (nI T) I' M' p' c' N' K') : pt I' M' T N' c' e (p' - p) N := by
  obtain ⟨g1, g2, g3, g4, g5, g6, g7, g8, g9, g10, g11, g12, g13⟩ := g
  have hp100 : p' ≤ 100 := by
    have := g1.1.2.2.2.1
    have := g1.1.1.2.2.1
    omega
  exact ⟨hT, g3, ⟨p, g10, by omega⟩, g12, g13⟩
theorem Mid_close {I0 M0 I M I' M' : am_I} {n p c N K O o s T K0 c0 e : Nat} {y par : Int32} (h : Mid I0 M0 I M n p c N K O o s T K0 c0 y par) (hn : nd I M N c T) (ht : tw I M N c e (p - s) T) (he : e ≤ 20) (hdn : dn M T) (hI : I' = enI I K (nI s)) (m1 : ∀ x m, ¬ x = 36 → ¬ (x = 50 ∧ m = K) → M' x m = M x m) (m2 : M' 50 K = nI T) (m3 : ∀ z, ¬ z = 18 → ¬ z = 21 → M' 36 z = M 36 z) (m4 : M' 36 18 = nI (K + 1)) (m5 : M' 36 21 = nI o) : ePure e I0 M0 n s c0 T K0 o y par I' M' p c N (K + 1) := by
  obtain ⟨b1, b2, b3, b4, b5, b6, b7, b8, b9, b10, b11, b12, b13, b14, b15, b16⟩ := h
  obtain ⟨a1, a2, a3, a4, a5, a6, a7, a8, a9, a10⟩ := b1
  have hp100 : p ≤ 100 := by
    have := a1.2.2.2.1
    have := a1.1.2.2.1
    omega
  have hN100 : N ≤ 100 := by
    have := a1.2.2.2.2.1.1
    omega
  have i1 : ∀ x, ¬ x = 1 → ¬ x = 17 → I' x = I x := by
    intro x w1 w2
    rw [hI]
    simp [enI, va_up, w1, w2]
  have i2 : ∀ q, ¬ q = K → I' 17 q = I 17 q := by
    intro q w
    rw [hI]
    simp [enI, va_up, upd, w]
  have i3 : I' 17 K = nI s := by
    rw [hI]
    simp [enI, va_up, upd]
  have i4 : I' 1 12 = nI (K + 1) := by
    rw [hI]
    simp [enI, va_up, upd]
  have hX : ∀ c, tyX I M I' M' c := by
    intro c t _
    rw [i1 3 (by omega) (by omega), i1 4 (by omega) (by omega), i1 5 (by omega) (by omega), i1 6 (by omega) (by omega)]
    exact ⟨⟨m1 38 t (by omega) (by omega), m1 39 t (by omega) (by omega), m1 40 t (by omega) (by omega)⟩, rfl, rfl, rfl, rfl⟩
  have hg : ag I M I' M' T N s p K0 K := by
    refine ⟨fun x m a b c d => m1 x m (by omega) (by omega), fun x q a b c d => ?_, fun k a b => ⟨m1 50 k (by omega) (by omega), i2 k (by omega)⟩, fun m _ => m1 42 m (by omega) (by omega)⟩
    rw [i1 x (by omega) (by omega)]
  have a41 : ∀ x m, ¬ x = 36 → ¬ x = 50 → M' x m = M x m := fun x m w1 w2 => m1 x m w1 (by omega)
  have h37 : M' 37 = M 37 := funext fun k => a41 37 k (by omega) (by omega)
  have hS : rdS I' M' n p c := by
    obtain ⟨c1, c2, c3, c4, c5, c6⟩ := a1
    refine ⟨?_, ⟨(m3 0 (by omega) (by omega)).trans c2.1, (m3 20 (by omega) (by omega)).trans c2.2.1, c2.2.2.1, c2.2.2.2.1, by rw [h37]; exact c2.2.2.2.2⟩, ?_, c4, ?_, c6⟩
    · unfold rdI
      rw [i1 18 (by omega) (by omega), i1 19 (by omega) (by omega)]
      exact c1
    · rw [h37, i1 19 (by omega) (by omega)]
      exact c3
    · exact tyR_congr (i1 2 (by omega) (by omega)) (i1 3 (by omega) (by omega)) (i1 4 (by omega) (by omega)) (i1 5 (by omega) (by omega)) (i1 6 (by omega) (by omega)) (m3 2 (by omega) (by omega)) (m3 6 (by omega) (by omega)) (m3 7 (by omega) (by omega)) (funext fun k => a41 38 k (by omega) (by omega)) (funext fun k => a41 39 k (by omega) (by omega)) (funext fun k => a41 40 k (by omega) (by omega)) c5
  have ht' : tw I' M' N c e (p - s) T := by
    cases e with
    | zero => exact ht
    | succ e =>
      obtain ⟨t1, t2, o2, t3, t4, t5, t6, t7, t8⟩ := ht
      have tX : ∀ (h w m : Nat), T < m → tw I M N c h w m → tw I' M' N c h w m := tw_X (T := T) (hX c) (by omega) hg.1
      refine ⟨t1, t2, o2, (a41 41 T (by omega) (by omega)).trans t3, t4, fun z => ?_, fun z => ?_, fun z z2 => ?_, fun z => ?_⟩
      · obtain ⟨a, t, l, w1, k1, k2, k3, k4, k5, k6, k7⟩ := t5 z
        exact ⟨a, t, l, w1, (a41 46 T (by omega) (by omega)).trans k1, k2, tX e w1 a k2 k3, (a41 44 T (by omega) (by omega)).trans k4, k5, by rw [i1 6 (by omega) (by omega)]; exact k6, k7⟩
      · obtain ⟨a, w1, k1, k2, k3, k4⟩ := t6 z
        exact ⟨a, w1, (a41 46 T (by omega) (by omega)).trans k1, k2, tX e w1 a k2 k3, k4⟩
      · obtain ⟨a, b, w1, w2, k1, k2, k3, k4, k5, k6, k7⟩ := t7 z z2
        exact ⟨a, b, w1, w2, (a41 46 T (by omega) (by omega)).trans k1, k2, tX e w1 a k2 k3, (a41 47 T (by omega) (by omega)).trans k4, k5, tX e w2 b k5 k6, k7⟩
      · obtain ⟨a, b, w1, w2, k1, k2, k3, k4, k5, k6, k7⟩ := t8 z
        exact ⟨a, b, w1, w2, (a41 46 T (by omega) (by omega)).trans k1, k2, tX e w1 a k2 k3, (a41 48 T (by omega) (by omega)).trans k4, k5, tX e w2 b k5 k6, k7⟩
  refine ⟨⟨hS, a2, (m3 8 (by omega) (by omega)).trans a3, m5, by omega, i4, m4, by omega, fun m hm => ?_, fun j hj => ?_⟩, b6, b7, by omega, b13, tyX_trans b11 (hX c) b13, ?_, ⟨?_, ?_⟩, ?_, (a41 42 T (by omega) (by omega)).trans b5, ?_, (a41 45 T (by omega) (by omega)).trans b16, ?_⟩
  · obtain ⟨q, q1, q2⟩ := a9 m hm
    exact ⟨q, q1, (a41 42 m (by omega) (by omega)).trans q2⟩
  · obtain ⟨m, w1, w2⟩ := a10 j (by omega)
    exact ⟨m, w1, (a41 51 j (by omega) (by omega)).trans w2⟩
  · intro x q w1 w2 w3 w4
    by_cases z : x = 17
    · subst z
      rw [i2 q (by omega)]
      exact b9 17 q (by omega) (by omega) (by omega) (by omega)
    · rw [i1 x w1 z]
      exact b9 x q w1 w2 w3 w4
  · intro x m w1 w2 w3 w4
    exact (m1 x m w1 (by omega)).trans (b10.1 x m w1 w2 w3 w4)
  · intro z w1 w2 w3 w4 w5 w6
    exact (m3 z w3 w5).trans (b10.2 z w1 w2 w3 w4 w5 w6)
  · refine sg_top (sg_X b14 hg (hX c) (by omega) (by omega) (by omega)) ?_ b7 (by omega) b6 (by omega) ((a41 42 T (by omega) (by omega)).trans b5) m2 i3 b8 ⟨dn_X (fun x x1 x2 => a41 x T (by omega) (by omega)) hdn, e, p - s, he, by omega, ht'⟩
    obtain ⟨q, o2, d1, d2, d3, d4, d5, d6, d7, d8, d9, d10, d11, d12, d13⟩ := hn
    have z : ∀ {x y}, ¬ x = 36 → ¬ x = 50 → ¬ y = 1 → ¬ y = 17 → pa I M T q N x y → pa I' M' T q N x y := by
      rintro x y x1 x2 y1 y2 ⟨a, q', e1, e2, e3, e4, e5, e6⟩
      exact ⟨a, q', e1, e2, (a41 x T x1 x2).trans e3, (a41 42 a (by omega) (by omega)).trans e4, by rw [i1 y y1 y2]; exact e5, (a41 45 a (by omega) (by omega)).trans e6⟩
    refine ⟨q, o2, (a41 42 T (by omega) (by omega)).trans d1, d2, (a41 41 T (by omega) (by omega)).trans d3, by rw [i1 7 (by omega) (by omega)]; exact d4, d5, ?_, fun w => ?_, fun w => ?_, fun w => ?_, fun w => ?_, fun w => z (by omega) (by omega) (by omega) (by omega) (d11 w), fun w1 w2 => z (by omega) (by omega) (by omega) (by omega) (d12 w1 w2), fun w => z (by omega) (by omega) (by omega) (by omega) (d13 w)⟩
    · unfold pr
      rw [a41 45 T (by omega) (by omega), i1 8 (by omega) (by omega)]
      rcases d6 with w | ⟨m', w1, w2, w3⟩
      · exact .inl w
      · exact .inr ⟨m', w1, w2, w3.trans (a41 42 m' (by omega) (by omega)).symm⟩
    · rw [i1 12 (by omega) (by omega), a41 43 T (by omega) (by omega)]
      exact d7 w
    · rw [a41 43 T (by omega) (by omega)]
      exact d8 w
    · rw [a41 43 T (by omega) (by omega)]
      exact d9 w
    · obtain ⟨t, l, e1, e2, e3, e4, e5, e6⟩ := d10 w
      refine ⟨t, l, e1, (a41 44 T (by omega) (by omega)).trans e2, by rw [i1 13 (by omega) (by omega)]; exact e3, hb_X (c := c) (fun t ht => (hX c t ht).1) e1 e4, by rw [i1 6 (by omega) (by omega)]; exact e5, e6⟩
  · rw [i1 8 (by omega) (by omega)]
    exact b15
  · exact ht'
