/-! Reading a type: both sides read the same. -/
def rdS (I M : am_I) (n p c : Nat) : Prop := rdI I n p ∧ rdM M n p ∧ M 37 = I 19 ∧ p ≤ n ∧ tyR I M c ∧ c ≤ 5 + p
def frI (I I' : am_I) : Prop := ∀ x, ¬ x = 2 → ¬ x = 3 → ¬ x = 4 → ¬ x = 5 → ¬ x = 6 → ¬ x = 18 → I' x = I x
def frM (M M' : am_I) : Prop := (∀ x, ¬ x = 36 → ¬ x = 38 → ¬ x = 39 → ¬ x = 40 → ¬ x = 52 → M' x = M x) ∧ ∀ y, ¬ y = 2 → ¬ y = 20 → ¬ y = 23 → M' 36 y = M 36 y
theorem frI_refl (I : am_I) : frI I I := fun _ _ _ _ _ _ _ => rfl
theorem frI_trans {I I1 I2 : am_I} (h1 : frI I I1) (h2 : frI I1 I2) : frI I I2 := fun x a b c d e f => (h2 x a b c d e f).trans (h1 x a b c d e f)
theorem frI_ad (I : am_I) (q : Nat) : frI I (adI I q) := fun x _ _ _ _ _ f => adI_ne I q x f
theorem frI_T {I I' : am_I} (h : fT I I') : frI I I' := fun x a b c d e _ => h x a b c d e
theorem frM_refl (M : am_I) : frM M M := ⟨fun _ _ _ _ _ _ => rfl, fun _ _ _ _ => rfl⟩
theorem frM_trans {M M1 M2 : am_I} (h1 : frM M M1) (h2 : frM M1 M2) : frM M M2 := ⟨fun x a b c d e => (h2.1 x a b c d e).trans (h1.1 x a b c d e), fun y a b c => (h2.2 y a b c).trans (h1.2 y a b c)⟩
theorem frM_ad (M : am_I) (q : Nat) : frM M (adM M q) := ⟨fun x a _ _ _ _ => adM_ne M q x a, fun y _ b _ => adM_36 M q y b⟩
theorem frM_T {M M' : am_I} (h : gT M M') : frM M M' := ⟨fun x a b c d _ => h.1 x a b c d, fun y a _ _ => h.2 y a⟩
theorem frM_op (M : am_I) (k : Nat) (x : Int32) (q : Nat) : frM M (opM M k x q) := by
  refine ⟨fun z a b c d e => ?_, fun y a b c => ?_⟩
  · simp [opM, va_up, a, e]
  · simp [opM, va_up, upd, b, c]
theorem frM_se (M : am_I) (k : Nat) (x : Int32) : frM M (seM M k x) := by
  refine ⟨fun z a b c d e => ?_, fun y a b c => ?_⟩
  · simp [seM, va_up, e]
  · simp [seM, va_up]
theorem frM_cl (M : am_I) (k : Nat) : frM M (clM M k) := by
  refine ⟨fun z a b c d e => ?_, fun y a b c => ?_⟩
  · simp [clM, va_up, a]
  · simp [clM, va_up, upd, c]
theorem tyX_le {I M I' M' : am_I} {c c1 : Nat} (h : tyX I M I' M' c) (hc : c1 ≤ c) : tyX I M I' M' c1 := fun t ht => h t (by omega)
theorem tx_lt {t : Nat → Int32} {n p : Nat} {x : Int32} (h : tx t n p = x) (hx : ¬ x = 0) : p < n := by
  unfold tx at h
  by_cases g : p < n
  · exact g
  · rw [if_neg g] at h
    exact absurd h.symm hx
theorem tyR_congr {I M I' M' : am_I} {c : Nat} (e2 : I' 2 = I 2) (e3 : I' 3 = I 3) (e4 : I' 4 = I 4) (e5 : I' 5 = I 5) (e6 : I' 6 = I 6) (m2 : M' 36 2 = M 36 2) (m6 : M' 36 6 = M 36 6) (m7 : M' 36 7 = M 36 7) (m38 : M' 38 = M 38) (m39 : M' 39 = M 39) (m40 : M' 40 = M 40) (h : tyR I M c) : tyR I' M' c := by
  simp only [tyR, tyW, tyF, tyC, e2, e3, e4, e5, e6, m2, m6, m7, m38, m39, m40] at h ⊢
  exact h
theorem rdS_mv {I M M1 : am_I} {n p c q : Nat} (h : rdS I M n p c) (hq : p ≤ q) (hq2 : q ≤ n) (h0 : M1 36 0 = M 36 0) (h20 : M1 36 20 = nI q) (m2 : M1 36 2 = M 36 2) (m6 : M1 36 6 = M 36 6) (m7 : M1 36 7 = M 36 7) (m37 : M1 37 = M 37) (m38 : M1 38 = M 38) (m39 : M1 39 = M 39) (m40 : M1 40 = M 40) : rdS (adI I q) M1 n q c := by
  obtain ⟨h1, h2, h3, h4, h5, h6⟩ := h
  have g := h1.2.2.1
  refine ⟨rdI_ad h1 (by omega), ⟨h0.trans h2.1, h20, g, by omega, by rw [m37]; exact h2.2.2.2.2⟩, ?_, hq2, ?_, by omega⟩
  · rw [m37, h3, adI_ne I q 19 (by omega)]
  · exact tyR_congr (adI_ne I q 2 (by omega)) (adI_ne I q 3 (by omega)) (adI_ne I q 4 (by omega)) (adI_ne I q 5 (by omega)) (adI_ne I q 6 (by omega)) m2 m6 m7 m38 m39 m40 h5
theorem h4_le {scr : Nat → Int32} {L F d D : Nat} {I : am_I} {J : am_J} {n n' : Nat} {got : Int32} {r : Nat} {M : am_I} {R : Option am_X} (h : n ≤ n') (k : h4 scr L F d D I J n got r M R) : h4 scr L F d D I J n' got r M R := fun f tl hf ht => k f tl (by omega) ht
def tFail (e : Nat) (I M : am_I) (D D0 r : Nat) : Prop := ∃ I' M', frI I I' ∧ frM M M' ∧ tyX I M I' M' 5 ∧ (∀ (scr : Nat → Int32) (L F d : Nat) (J : am_J) (M0 : am_I), am_r scr L (F + 13000) (d + 4 + e) 74 [.ref 19, .int (nI D)] (hp I J M0) = some (some (.int (-1)), hp I' J M0, 0, 0)) ∧ (∀ (scr : Nat → Int32) (L F d : Nat) (I0 : am_I) (J : am_J), h4 scr L F d D0 I0 J (150 * (401 - r)) (-1) r M (some (some (.int (-1)), hp I0 J M', 0, 0)))
def tGood (e : Nat) (I M : am_I) (n p c D D0 k r : Nat) (I' M' : am_I) (p' c' t r' : Nat) : Prop := 1 ≤ e ∧ rdS I' M' n p' c' ∧ p < p' ∧ c ≤ c' ∧ c' + p ≤ c + p' ∧ t < c' ∧ hb M' (e - 1) t ∧ I' 6 (tm t) = nI (p' - p) ∧ tyX I M I' M' c ∧ frI I I' ∧ frM M M' ∧ M' 36 23 = nI k ∧ (∀ j, j < k → M' 52 j = M 52 j) ∧ r ≤ r' ∧ r' ≤ r + 2 * (p' - p) ∧ (∀ (scr : Nat → Int32) (L F d : Nat) (J : am_J) (M0 : am_I), am_r scr L (F + 13000) (d + 4 + e) 74 [.ref 19, .int (nI D)] (hp I J M0) = some (some (.int (nI (tm t))), hp I' J M0, 0, 0)) ∧ (∀ (scr : Nat → Int32) (L F d : Nat) (I0 : am_I) (J : am_J) (N : Nat) (R : Option am_X), h4 scr L F d D0 I0 J N (nI t) r' M' R → h4 scr L F d D0 I0 J (N + 150 * (r' - r)) (-1) r M R)
theorem rd_leaf {e : Nat} {I M : am_I} {n p c D D0 k r : Nat} (he : 1 ≤ e) (t : Nat) (ht : t < 3) (x : Int32) (hx0 : ¬ x = 0) (h : rdS I M n p c) (hx : tx (I 19) n p = x) (hk : M 36 23 = nI k)
    (q1 : ∀ (scr : Nat → Int32) (L F d : Nat) (J : am_J) (M0 : am_I), am_r scr L (F + 13000) (d + 4) 74 [.ref 19, .int (nI D)] (hp I J M0) = some (some (.int (nI (tm t))), hp (adI I (p + 1)) J M0, 0, 0))
    (q2 : ∀ (scr : Nat → Int32) (L F d : Nat) (I0 : am_I) (J : am_J) (N : Nat) (R : Option am_X), h4 scr L F d D0 I0 J N (nI t) (r + 1) (adM M (p + 1)) R → h4 scr L F d D0 I0 J (N + 150) (-1) r M R) :
    tGood e I M n p c D D0 k r (adI I (p + 1)) (adM M (p + 1)) (p + 1) c t (r + 1) := by
  have hpn := tx_lt hx hx0
  have hS : rdS (adI I (p + 1)) (adM M (p + 1)) n (p + 1) c := rdS_mv h (by omega) (by omega) (adM_36 M _ 0 (by omega)) (adM_p M _) (adM_36 M _ 2 (by omega)) (adM_36 M _ 6 (by omega)) (adM_36 M _ 7 (by omega)) (adM_ne M _ 37 (by omega)) (adM_ne M _ 38 (by omega)) (adM_ne M _ 39 (by omega)) (adM_ne M _ 40 (by omega))
  have h5 := h.2.2.2.2.1
  have hc := h5.1
  have hl : I 6 (tm t) = 1 := by
    have : tm t < 3 := tm_lt ht (by omega)
    exact (h5.2.2.2.2.2.2.1 (tm t) this).2.2.2.1
  refine ⟨he, hS, by omega, by omega, by omega, by omega, hb_0 ht, ?_, ?_, frI_ad I _, frM_ad M _, (adM_36 M _ 23 (by omega)).trans hk, fun j _ => by rw [adM_ne M _ 52 (by omega)], by omega, by omega, ?_, ?_⟩
  · rw [adI_ne I _ 6 (by omega), hl, show p + 1 - p = 1 by omega]
    decide +kernel
  · intro j _
    rw [adI_ne I _ 3 (by omega), adI_ne I _ 4 (by omega), adI_ne I _ 5 (by omega), adI_ne I _ 6 (by omega), adM_ne M _ 38 (by omega), adM_ne M _ 39 (by omega), adM_ne M _ 40 (by omega)]
    exact ⟨⟨rfl, rfl, rfl⟩, rfl, rfl, rfl, rfl⟩
  · intro scr L F d J M0
    rw [show d + 4 + e = (d + e) + 4 by omega]
    exact q1 scr L F (d + e) J M0
  · intro scr L F d I0 J N R key
    rw [show 150 * (r + 1 - r) = 150 by omega]
    exact q2 scr L F d I0 J N R key
theorem rd_type : ∀ (e : Nat) (I M : am_I) (n p c D D0 k r : Nat), rdS I M n p c → D + e = 21 → D = D0 + k → M 36 23 = nI k → r ≤ 100 + 2 * p → tFail e I M D D0 r ∨ ∃ (I' M' : am_I) (p' c' t r' : Nat), tGood e I M n p c D D0 k r I' M' p' c' t r' := by
  intro e
  induction e with
  | zero =>
    intro I M n p c D D0 k r h hD hD0 hk hr
    have hn := h.1.2.2.1
    have hpn := h.2.2.2.1
    refine .inl ⟨I, M, frI_refl I, frM_refl M, tyX_refl I M 5, fun scr L F d J M0 => ?_, fun scr L F d I0 J => ?_⟩
    · exact c74_deep scr L F (d + 3) I J M0 D (by omega) (by omega)
    · exact h4_le (by omega) (h104_deep scr L F d D0 I0 J M n p 0 r k none h.2.1 (by omega) hk (by omega) (by omega))
  | succ e ih =>
    intro I M n p c D D0 k r h hD hD0 hk hr
    have hn := h.1.2.2.1
    have hpn := h.2.2.2.1
    have hT : M 37 = I 19 := h.2.2.1
    by_cases x1 : tx (I 19) n p = 105
    · refine .inr ⟨_, _, _, _, 0, _, rd_leaf (by omega) 0 (by omega) 105 (by decide) h x1 hk (fun scr L F d J M0 => ?_) (fun scr L F d I0 J N R key => ?_)⟩
      · exact c74_i scr L F d I J M0 n p D h.1 (by omega) x1
      · exact h104_i scr L F d D0 I0 J M n p N r k R h.2.1 (by omega) hk (by omega) (by rw [hT]; exact x1) (by rw [nI_0] at key; exact key)
    by_cases x2 : tx (I 19) n p = 98
    · refine .inr ⟨_, _, _, _, 1, _, rd_leaf (by omega) 1 (by omega) 98 (by decide) h x2 hk (fun scr L F d J M0 => ?_) (fun scr L F d I0 J N R key => ?_)⟩
      · exact c74_b scr L F d I J M0 n p D h.1 (by omega) x2
      · exact h104_b scr L F d D0 I0 J M n p N r k R h.2.1 (by omega) hk (by omega) (by rw [hT]; exact x2) key
    by_cases x3 : tx (I 19) n p = 63
    · refine .inr ⟨_, _, _, _, 2, _, rd_leaf (by omega) 2 (by omega) 63 (by decide) h x3 hk (fun scr L F d J M0 => ?_) (fun scr L F d I0 J N R key => ?_)⟩
      · exact c74_q scr L F d I J M0 n p D h.1 (by omega) x3
      · exact h104_q scr L F d D0 I0 J M n p N r k R h.2.1 (by omega) hk (by omega) (by rw [hT]; exact x3) key
    by_cases x4 : tx (I 19) n p = 38
    · have hlt := tx_lt x4 (by decide)
      have hS : rdS (adI I (p + 1)) (opM M k (-2) (p + 1)) n (p + 1) c := by
        refine rdS_mv h (by omega) (by omega) ?_ ?_ ?_ ?_ ?_ ?_ ?_ ?_ ?_ <;> simp [opM, va_up, upd]
      have hk1 : opM M k (-2) (p + 1) 36 23 = nI (k + 1) := by simp [opM, va_up, upd]
      rcases ih (adI I (p + 1)) (opM M k (-2) (p + 1)) n (p + 1) c (D + 1) D0 (k + 1) (r + 1) hS (by omega) (by omega) hk1 (by omega) with ⟨I1, M1, g1, g3, g5, g2, g4⟩ | ⟨I1, M1, p1, c1, t1, r1, ge, gS, gp, gc, gcp, gt, gh, gl, gX, gI, gM, gk, gj, gr, gr2, gA, gB⟩
      · refine .inl ⟨I1, M1, frI_trans (frI_ad I _) g1, frM_trans (frM_op M k _ _) g3, (tyX_trans (c1 := 5) (I1 := adI I (p + 1)) (M1 := opM M k _ (p + 1)) (fun j _ => by simp [opM, va_up, adI]) g5 (by omega)), fun scr L F d J M0 => ?_, fun scr L F d I0 J => ?_⟩
        · have := g2 scr L F d J M0
          rw [show d + 4 + (e + 1) = (d + e + 1) + 4 by omega]
          exact c74_ref_f scr L F (d + e + 1) I J M0 n p D h.1 (by omega) x4 I1 (by rw [show d + e + 1 + 3 = d + 4 + e by omega]; exact this)
        · refine h4_le (n := 150 * (401 - (r + 1)) + 150) (by omega) ?_
          exact h104_r scr L F d D0 I0 J M n p _ r k _ h.2.1 (by omega) hk (by omega) (by rw [hT]; exact x4) (g4 scr L F d I0 J)
      · have gR := gS.2.2.2.2.1
        have gn := gS.2.2.2.1
        have hc5 := h.2.2.2.2.2
        have r5 := gR.1
        obtain ⟨t2, c2, I2, M2, kk, hz, hR2, ht3, ht2, hc2, hc3, hC, hX2, hI2, hM2⟩ := ty_cell gR (by omega) gt gl (by omega)
        have hm : M2 36 23 = nI (k + 1) := (hM2.2 23 (by omega)).trans gk
        have htop : M1 52 k = -2 := by
          rw [gj k (by omega)]
          simp [opM, va_up, upd]
        refine .inr ⟨I2, clM M2 k, p1, c2, t2, r1 + 1, by omega, ?_, by omega, by omega, by omega, ht2, ?_, ?_, ?_, ?_, ?_, ?_, ?_, by omega, by omega, ?_, ?_⟩
        · obtain ⟨s1, s2, s3, s4, s5, s6⟩ := gS
          have e18 : I2 18 = I1 18 := hI2 18 (by omega) (by omega) (by omega) (by omega) (by omega)
          have e19 : I2 19 = I1 19 := hI2 19 (by omega) (by omega) (by omega) (by omega) (by omega)
          have e37 : clM M2 k 37 = M1 37 := by
            rw [show clM M2 k 37 = M2 37 from by simp [clM, va_up]]
            exact hM2.1 37 (by omega) (by omega) (by omega) (by omega)
          refine ⟨⟨by rw [e18]; exact s1.1, by rw [e18]; exact s1.2.1, s1.2.2.1, s1.2.2.2.1, by rw [e19]; exact s1.2.2.2.2⟩, ⟨?_, ?_, s2.2.2.1, s2.2.2.2.1, by rw [e37]; exact s2.2.2.2.2⟩, by rw [e37, e19]; exact s3, s4, ?_, by omega⟩
          · rw [show clM M2 k 36 0 = M2 36 0 from by simp [clM, va_up, upd], hM2.2 0 (by omega)]
            exact s2.1
          · rw [show clM M2 k 36 20 = M2 36 20 from by simp [clM, va_up, upd], hM2.2 20 (by omega)]
            exact s2.2.1
          · refine tyR_congr rfl rfl rfl rfl rfl ?_ ?_ ?_ ?_ ?_ ?_ hR2 <;> simp [clM, va_up, upd]
        · refine hb_X (M := M2) (c := c2) (fun t _ => ?_) ht2 ?_
          · simp [clM, va_up]
          · rw [show e + 1 - 1 = (e - 1) + 1 by omega]
            obtain ⟨q1, q2, q3, q4, q5, q6⟩ := hC
            refine .inr ⟨t1, q4, by omega, hb_X (M := M1) (c := c1) (fun t ht => (hX2 t ht).1) gt gh, fun z => absurd (q2.symm.trans z) n43⟩
        · rw [tm_3 ht3, hC.2.2.2.2.2.2.2.2.1]
          congr 1
          omega
        · refine tyX_trans (I1 := I1) (M1 := M1) (c1 := c1) ?_ ?_ gc
          · refine tyX_trans (I1 := adI I (p + 1)) (M1 := opM M k (-2) (p + 1)) (c1 := c) ?_ gX (by omega)
            intro j _
            simp [opM, va_up, adI]
          · refine tyX_trans hX2 (M2 := clM M2 k) (I2 := I2) (c1 := c1) ?_ (by omega)
            intro j _
            simp [clM, va_up]
        · exact frI_trans (frI_ad I _) (frI_trans gI (frI_T hI2))
        · exact frM_trans (frM_op M k _ _) (frM_trans gM (frM_trans (frM_T hM2) (frM_cl M2 k)))
        · simp [clM, va_up, upd]
        · intro j hj
          rw [show clM M2 k 52 = M2 52 from by simp [clM, va_up], hM2.1 52 (by omega) (by omega) (by omega) (by omega), gj j (by omega)]
          simp [opM, va_up, upd, show ¬ j = k by omega]
        · intro scr L F d J M0
          have := gA scr L F d J M0
          rw [show d + 4 + (e + 1) = (d + e + 1) + 4 by omega, tm_3 ht3]
          have ht105 := tm_lt gt (by omega)
          exact c74_ref_g scr L F (d + e + 1) I J M0 n p D h.1 (by omega) x4 I1 (tm t1) c1 (by rw [show d + e + 1 + 3 = d + 4 + e by omega]; exact this) (by omega) gR.2.2.1 (by omega) (by omega) _ _ kk
        · intro scr L F d I0 J N R key
          refine h4_le (n := ((N + 150) + 150 * (r1 - (r + 1))) + 150) (by omega) ?_
          refine h104_r scr L F d D0 I0 J M n p _ r k _ h.2.1 (by omega) hk (by omega) (by rw [hT]; exact x4) ?_
          refine gB scr L F d I0 J (N + 150) R ?_
          exact h104_ref scr L F d D0 I0 J M1 n p1 N r1 k t1 c1 R gS.2.1 (by omega) gk (by omega) (by omega) htop gR.2.2.2.1 (by omega) (by omega) t2 M2 hz hm key
    by_cases x5 : tx (I 19) n p = 40
    · have hlt := tx_lt x5 (by decide)
      have hS : rdS (adI I (p + 1)) (opM M k (-1) (p + 1)) n (p + 1) c := by
        refine rdS_mv h (by omega) (by omega) ?_ ?_ ?_ ?_ ?_ ?_ ?_ ?_ ?_ <;> simp [opM, va_up, upd]
      have hk1 : opM M k (-1) (p + 1) 36 23 = nI (k + 1) := by simp [opM, va_up, upd]
      rcases ih (adI I (p + 1)) (opM M k (-1) (p + 1)) n (p + 1) c (D + 1) D0 (k + 1) (r + 1) hS (by omega) (by omega) hk1 (by omega) with ⟨I1, M1, g1, g3, g5, g2, g4⟩ | ⟨I1, M1, p1, c1, t1, r1, ge, gS, gp, gc, gcp, gt, gh, gl, gX, gI, gM, gk, gj, gr, gr2, gA, gB⟩
      · refine .inl ⟨I1, M1, frI_trans (frI_ad I _) g1, frM_trans (frM_op M k _ _) g3, (tyX_trans (c1 := 5) (I1 := adI I (p + 1)) (M1 := opM M k _ (p + 1)) (fun j _ => by simp [opM, va_up, adI]) g5 (by omega)), fun scr L F d J M0 => ?_, fun scr L F d I0 J => ?_⟩
        · have := g2 scr L F d J M0
          rw [show d + 4 + (e + 1) = (d + e + 1) + 4 by omega]
          exact c74_fun_f1 scr L F (d + e + 1) I J M0 n p D h.1 (by omega) x5 I1 (by rw [show d + e + 1 + 3 = d + 4 + e by omega]; exact this)
        · refine h4_le (n := 150 * (401 - (r + 1)) + 150) (by omega) ?_
          exact h104_f scr L F d D0 I0 J M n p _ r k _ h.2.1 (by omega) hk (by omega) (by rw [hT]; exact x5) (g4 scr L F d I0 J)
      have gR := gS.2.2.2.2.1
      have gn := gS.2.2.2.1
      have gT1 : M1 37 = I1 19 := gS.2.2.1
      have hc5 := h.2.2.2.2.2
      have r5 := gR.1
      have gt1 := tm_lt gt (by omega)
      have r6 := gR.2.1
      have htop : M1 52 k = -1 := by
        rw [gj k (by omega)]
        simp [opM, va_up, upd]
      have kA : ∀ (scr : Nat → Int32) (L F d : Nat) (J : am_J) (M0 : am_I), am_r scr L (F + 13000) (d + e + 1 + 3) 74 [Value.ref 19, Value.int (nI (D + 1))] (hp (adI I (p + 1)) J M0) = some (some (Value.int (nI (tm t1))), hp I1 J M0, 0, 0) := by
        intro scr L F d J M0
        rw [show d + e + 1 + 3 = d + 4 + e by omega]
        exact gA scr L F d J M0
      by_cases y1 : tx (I1 19) n p1 = 62
      · have hlt1 := tx_lt y1 (by decide)
        have hS1 : rdS (adI I1 (p1 + 1)) (seM (adM M1 (p1 + 1)) k (nI t1)) n (p1 + 1) c1 := by
          refine rdS_mv gS (by omega) (by omega) ?_ ?_ ?_ ?_ ?_ ?_ ?_ ?_ ?_ <;> simp [seM, adM, va_up, upd]
        have hk2 : seM (adM M1 (p1 + 1)) k (nI t1) 36 23 = nI (k + 1) := by
          rw [← gk]
          simp [seM, adM, va_up, upd]
        rcases ih (adI I1 (p1 + 1)) (seM (adM M1 (p1 + 1)) k (nI t1)) n (p1 + 1) c1 (D + 1) D0 (k + 1) (r1 + 1) hS1 (by omega) (by omega) hk2 (by omega) with ⟨I2, M2, w1, w3, w5, w2, w4⟩ | ⟨I2, M2, p2, c2, t2, r2, _, wS, wp, wc, wcp, wt, wh, wl, wX, wI, wM, wk, wj, wr, wr2, wA, wB⟩
        · refine .inl ⟨I2, M2, frI_trans (frI_ad I _) (frI_trans gI (frI_trans (frI_ad I1 _) w1)), frM_trans (frM_op M k _ _) (frM_trans gM (frM_trans (frM_ad M1 _) (frM_trans (frM_se _ k _) w3))), tyX_trans (c1 := 5) (tyX_trans (c1 := 5) (I1 := adI I (p + 1)) (M1 := opM M k _ (p + 1)) (fun j _ => by simp [opM, va_up, adI]) (tyX_le gX (by have := h.2.2.2.2.1.1; omega)) (by omega)) (tyX_trans (c1 := 5) (I1 := adI I1 (p1 + 1)) (M1 := seM (adM M1 (p1 + 1)) k (nI t1)) (fun j _ => by simp [seM, adM, va_up, adI]) w5 (by omega)) (by omega), fun scr L F d J M0 => ?_, fun scr L F d I0 J => ?_⟩
          · have := w2 scr L F d J M0
            rw [show d + 4 + (e + 1) = (d + e + 1) + 4 by omega]
            exact c74_fun_f3 scr L F (d + e + 1) I J M0 n p D h.1 (by omega) x5 I1 (tm t1) p1 (kA scr L F d J M0) (by omega) gS.1 y1 I2 (by rw [show d + e + 1 + 3 = d + 4 + e by omega]; exact this)
          · refine h4_le (n := ((150 * (401 - (r1 + 1)) + 150) + 150 * (r1 - (r + 1))) + 150) (by omega) ?_
            refine h104_f scr L F d D0 I0 J M n p _ r k _ h.2.1 (by omega) hk (by omega) (by rw [hT]; exact x5) ?_
            refine gB scr L F d I0 J _ _ ?_
            exact h104_mid scr L F d D0 I0 J M1 n p1 _ r1 k t1 c1 _ gS.2.1 (by omega) gk (by omega) (by omega) htop (by rw [gT1]; exact y1) (w4 scr L F d I0 J)
        have wR := wS.2.2.2.2.1
        have wn := wS.2.2.2.1
        have wT : M2 37 = I2 19 := wS.2.2.1
        have wt2 := tm_lt wt (by omega)
        have wr6 := wR.2.1
        have htop2 : M2 52 k = nI t1 := by
          rw [wj k (by omega)]
          simp [seM, va_up, upd]
        have kB : ∀ (scr : Nat → Int32) (L F d : Nat) (J : am_J) (M0 : am_I), am_r scr L (F + 13000) (d + e + 1 + 3) 74 [Value.ref 19, Value.int (nI (D + 1))] (hp (adI I1 (p1 + 1)) J M0) = some (some (Value.int (nI (tm t2))), hp I2 J M0, 0, 0) := by
          intro scr L F d J M0
          rw [show d + e + 1 + 3 = d + 4 + e by omega]
          exact wA scr L F d J M0
        have hX0 : tyX I M I1 M1 c := by
          refine tyX_trans (I1 := adI I (p + 1)) (M1 := opM M k (-1) (p + 1)) (c1 := c) ?_ gX (by omega)
          intro j _
          simp [opM, va_up, adI]
        have hX1 : tyX I1 M1 I2 M2 c1 := by
          refine tyX_trans (I1 := adI I1 (p1 + 1)) (M1 := seM (adM M1 (p1 + 1)) k (nI t1)) (c1 := c1) ?_ wX (by omega)
          intro j _
          simp [seM, adM, va_up, adI]
        have fI2 : frI I I2 := frI_trans (frI_ad I _) (frI_trans gI (frI_trans (frI_ad I1 _) wI))
        have fM2 : frM M M2 := frM_trans (frM_op M k _ _) (frM_trans gM (frM_trans (frM_ad M1 _) (frM_trans (frM_se _ k _) wM)))
        have chain : ∀ (scr : Nat → Int32) (L F d : Nat) (I0 : am_I) (J : am_J) (N : Nat) (R : Option am_X), h4 scr L F d D0 I0 J N (nI t2) r2 M2 R → h4 scr L F d D0 I0 J (N + 150 * (r2 - r)) (-1) r M R := by
          intro scr L F d I0 J N R key
          refine h4_le (n := (((N + 150 * (r2 - (r1 + 1))) + 150) + 150 * (r1 - (r + 1))) + 150) (by omega) ?_
          refine h104_f scr L F d D0 I0 J M n p _ r k _ h.2.1 (by omega) hk (by omega) (by rw [hT]; exact x5) ?_
          refine gB scr L F d I0 J _ _ ?_
          refine h104_mid scr L F d D0 I0 J M1 n p1 _ r1 k t1 c1 _ gS.2.1 (by omega) gk (by omega) (by omega) htop (by rw [gT1]; exact y1) ?_
          exact wB scr L F d I0 J N R key
        by_cases z1 : tx (I2 19) n p2 = 41
        · have hlt2 := tx_lt z1 (by decide)
          have hS2 : rdS (adI I2 (p2 + 1)) (adM M2 (p2 + 1)) n (p2 + 1) c2 := rdS_mv wS (by omega) (by omega) (adM_36 M2 _ 0 (by omega)) (adM_p M2 _) (adM_36 M2 _ 2 (by omega)) (adM_36 M2 _ 6 (by omega)) (adM_36 M2 _ 7 (by omega)) (adM_ne M2 _ 37 (by omega)) (adM_ne M2 _ 38 (by omega)) (adM_ne M2 _ 39 (by omega)) (adM_ne M2 _ 40 (by omega))
          have l1 : adI I2 (p2 + 1) 6 (tm t1) = nI (p1 - (p + 1)) := by
            rw [adI_ne I2 _ 6 (by omega), (hX1 (tm t1) (by omega)).2.2.2.2]
            exact gl
          have l2 : adI I2 (p2 + 1) 6 (tm t2) = nI (p2 - (p1 + 1)) := by
            rw [adI_ne I2 _ 6 (by omega)]
            exact wl
          obtain ⟨t3, c3, I3, M3, kk, hz, hR3, ht3, ht4, hc3, hc4, hF, hX3, hI3, hM3⟩ := ty_fun hS2.2.2.2.2.1 (a := t1) (b := t2) (by omega) (by omega) wt l1 l2 (by omega)
          have hm : M3 36 23 = nI (k + 1) := (hM3.2 23 (by omega)).trans ((adM_36 M2 _ 23 (by omega)).trans wk)
          have hX4 : tyX I2 M2 (adI I2 (p2 + 1)) (adM M2 (p2 + 1)) c2 := by
            intro j _
            simp [adM, va_up, adI]
          refine .inr ⟨I3, clM M3 k, p2 + 1, c3, t3, r2 + 1, by omega, ?_, by omega, by omega, by omega, ht4, ?_, ?_, ?_, ?_, ?_, ?_, ?_, by omega, by omega, ?_, ?_⟩
          · obtain ⟨s1, s2, s3, s4, s5, s6⟩ := hS2
            have e18 : I3 18 = adI I2 (p2 + 1) 18 := hI3 18 (by omega) (by omega) (by omega) (by omega) (by omega)
            have e19 : I3 19 = adI I2 (p2 + 1) 19 := hI3 19 (by omega) (by omega) (by omega) (by omega) (by omega)
            have e37 : clM M3 k 37 = adM M2 (p2 + 1) 37 := by
              rw [show clM M3 k 37 = M3 37 from by simp [clM, va_up]]
              exact hM3.1 37 (by omega) (by omega) (by omega) (by omega)
            refine ⟨⟨by rw [e18]; exact s1.1, by rw [e18]; exact s1.2.1, s1.2.2.1, s1.2.2.2.1, by rw [e19]; exact s1.2.2.2.2⟩, ⟨?_, ?_, s2.2.2.1, s2.2.2.2.1, by rw [e37]; exact s2.2.2.2.2⟩, by rw [e37, e19]; exact s3, s4, ?_, by omega⟩
            · rw [show clM M3 k 36 0 = M3 36 0 from by simp [clM, va_up, upd], hM3.2 0 (by omega)]
              exact s2.1
            · rw [show clM M3 k 36 20 = M3 36 20 from by simp [clM, va_up, upd], hM3.2 20 (by omega)]
              exact s2.2.1
            · refine tyR_congr rfl rfl rfl rfl rfl ?_ ?_ ?_ ?_ ?_ ?_ hR3 <;> simp [clM, va_up, upd]
          · refine hb_X (M := M3) (c := c3) (fun t _ => ?_) ht4 ?_
            · simp [clM, va_up]
            · rw [show e + 1 - 1 = (e - 1) + 1 by omega]
              obtain ⟨q1, q2, q3, q4, q5, q6, q7⟩ := hF
              have hX5 := tyX_trans hX4 hX3 (by omega)
              refine .inr ⟨t1, q5, by omega, ?_, fun _ => ⟨t2, q6, by omega, hb_X (M := M2) (c := c2) (fun t ht => (hX5 t ht).1) wt wh⟩⟩
              exact hb_X (M := M1) (c := c1) (fun t ht => (tyX_trans hX1 hX5 (by omega) t ht).1) gt gh
          · rw [tm_3 ht3, hF.2.2.2.2.2.2.2.2.2.2.1]
            congr 1
            omega
          · refine tyX_trans hX0 (c1 := c1) ?_ gc
            refine tyX_trans hX1 (c1 := c2) ?_ wc
            refine tyX_trans hX4 (c1 := c2) ?_ (by omega)
            refine tyX_trans hX3 (c1 := c2) ?_ (by omega)
            intro j _
            simp [clM, va_up]
          · exact frI_trans fI2 (frI_trans (frI_ad I2 _) (frI_T hI3))
          · exact frM_trans fM2 (frM_trans (frM_ad M2 _) (frM_trans (frM_T hM3) (frM_cl M3 k)))
          · simp [clM, va_up, upd]
          · intro j hj
            rw [show clM M3 k 52 = M3 52 from by simp [clM, va_up], hM3.1 52 (by omega) (by omega) (by omega) (by omega), adM_ne M2 _ 52 (by omega), wj j (by omega)]
            have : seM (adM M1 (p1 + 1)) k (nI t1) 52 j = M1 52 j := by simp [seM, adM, va_up, upd, show ¬ j = k by omega]
            rw [this, gj j (by omega)]
            simp [opM, va_up, upd, show ¬ j = k by omega]
          · intro scr L F d J M0
            rw [show d + 4 + (e + 1) = (d + e + 1) + 4 by omega, tm_3 ht3]
            exact c74_fun_g scr L F (d + e + 1) I J M0 n p D h.1 (by omega) x5 I1 (tm t1) p1 (kA scr L F d J M0) (by omega) gS.1 y1 I2 (tm t2) p2 (kB scr L F d J M0) (by omega) wS.1 z1 c2 wR.2.2.1 (by omega) (by omega) _ _ (by rw [adI_ne I2 _ 6 (by omega)] at kk; exact kk)
          · intro scr L F d I0 J N R key
            refine h4_le (n := (N + 150) + 150 * (r2 - r)) (by omega) ?_
            refine chain scr L F d I0 J _ _ ?_
            exact h104_fun scr L F d D0 I0 J M2 n p2 N r2 k t2 c2 R wS.2.1 (by omega) wk (by omega) (by omega) t1 (by omega) htop2 (by rw [wT]; exact z1) wR.2.2.2.1 (by omega) (by omega) t3 M3 hz hm key
        · refine .inl ⟨I2, M2, fI2, fM2, tyX_le (tyX_trans hX0 hX1 gc) (by have := h.2.2.2.2.1.1; omega), fun scr L F d J M0 => ?_, fun scr L F d I0 J => ?_⟩
          · rw [show d + 4 + (e + 1) = (d + e + 1) + 4 by omega]
            exact c74_fun_f4 scr L F (d + e + 1) I J M0 n p D h.1 (by omega) x5 I1 (tm t1) p1 (kA scr L F d J M0) (by omega) gS.1 y1 I2 (tm t2) p2 (kB scr L F d J M0) (by omega) wS.1 z1
          · refine h4_le (n := 150 + 150 * (r2 - r)) (by omega) ?_
            refine chain scr L F d I0 J _ _ ?_
            exact h104_fun_f scr L F d D0 I0 J M2 n p2 0 r2 k t2 c2 none wS.2.1 (by omega) wk (by omega) (by omega) t1 (by omega) htop2 (by rw [wT]; exact z1)
      · refine .inl ⟨I1, M1, frI_trans (frI_ad I _) gI, frM_trans (frM_op M k _ _) gM, (tyX_trans (c1 := 5) (I1 := adI I (p + 1)) (M1 := opM M k _ (p + 1)) (fun j _ => by simp [opM, va_up, adI]) (tyX_le gX (by have := h.2.2.2.2.1.1; omega)) (by omega)), fun scr L F d J M0 => ?_, fun scr L F d I0 J => ?_⟩
        · rw [show d + 4 + (e + 1) = (d + e + 1) + 4 by omega]
          exact c74_fun_f2 scr L F (d + e + 1) I J M0 n p D h.1 (by omega) x5 I1 (tm t1) p1 (kA scr L F d J M0) (by omega) gS.1 y1
        · refine h4_le (n := (150 + 150 * (r1 - (r + 1))) + 150) (by omega) ?_
          refine h104_f scr L F d D0 I0 J M n p _ r k _ h.2.1 (by omega) hk (by omega) (by rw [hT]; exact x5) ?_
          refine gB scr L F d I0 J _ _ ?_
          exact h104_mid_f scr L F d D0 I0 J M1 n p1 0 r1 k t1 c1 none gS.2.1 (by omega) gk (by omega) (by omega) htop (by rw [gT1]; exact y1)
    · refine .inl ⟨I, M, frI_refl I, frM_refl M, tyX_refl I M 5, fun scr L F d J M0 => ?_, fun scr L F d I0 J => ?_⟩
      · rw [show d + 4 + (e + 1) = (d + e + 1) + 4 by omega]
        exact c74_bad scr L F (d + e + 1) I J M0 n p D h.1 (by omega) x3 x1 x2 x4 x5
      · exact h4_le (by omega) (h104_bad scr L F d D0 I0 J M n p 0 r k none h.2.1 (by omega) hk (by omega) (by rw [hT]; exact x3) (by rw [hT]; exact x1) (by rw [hT]; exact x2) (by rw [hT]; exact x4) (by rw [hT]; exact x5))
/-- readType on both sides -/
theorem rd_ty (I M : am_I) (n p c D : Nat) (h : rdS I M n p c) (hD : D ≤ 21) :
    (∃ I' M', frI I I' ∧ frM M M' ∧ tyX I M I' M' 5 ∧ (∀ (scr : Nat → Int32) (L F d : Nat) (J : am_J) (M0 : am_I), am_r scr L (F + 63000) (d + 25) 74 [.ref 19, .int (nI D)] (hp I J M0) = some (some (.int (-1)), hp I' J M0, 0, 0)) ∧ (∀ (scr : Nat → Int32) (L F d : Nat) (I0 : am_I) (J : am_J), am_r scr L (F + 63000) (d + 4) 104 [.ref 37, .int (nI D)] (hp I0 J M) = some (some (.int (-1)), hp I0 J M', 0, 0)))
    ∨ ∃ (I' M' : am_I) (p' c' t : Nat), D ≤ 20 ∧ rdS I' M' n p' c' ∧ p < p' ∧ c ≤ c' ∧ c' + p ≤ c + p' ∧ t < c' ∧ hb M' (20 - D) t ∧ I' 6 (tm t) = nI (p' - p) ∧ tyX I M I' M' c ∧ frI I I' ∧ frM M M' ∧ (∀ (scr : Nat → Int32) (L F d : Nat) (J : am_J) (M0 : am_I), am_r scr L (F + 63000) (d + 25) 74 [.ref 19, .int (nI D)] (hp I J M0) = some (some (.int (nI (tm t))), hp I' J M0, 0, 0)) ∧ (∀ (scr : Nat → Int32) (L F d : Nat) (I0 : am_I) (J : am_J), am_r scr L (F + 63000) (d + 4) 104 [.ref 37, .int (nI D)] (hp I0 J M) = some (some (.int (nI t)), hp I0 J M', 0, 0)) := by
  have hk : va_up M 36 (upd (M 36) 23 0) 36 23 = nI 0 := by
    rw [nI_0]
    simp [va_up, upd]
  have hS : rdS I (va_up M 36 (upd (M 36) 23 0)) n p c := by
    obtain ⟨h1, h2, h3, h4, h5, h6⟩ := h
    refine ⟨h1, ⟨?_, ?_, h2.2.2.1, h2.2.2.2.1, ?_⟩, ?_, h4, ?_, h6⟩
    · simp [va_up, upd, h2.1]
    · simp [va_up, upd, h2.2.1]
    · have e : va_up M 36 (upd (M 36) 23 0) 37 = M 37 := by simp [va_up]
      rw [e]
      exact h2.2.2.2.2
    · have e : va_up M 36 (upd (M 36) 23 0) 37 = M 37 := by simp [va_up]
      rw [e]
      exact h3
    · refine tyR_congr rfl rfl rfl rfl rfl ?_ ?_ ?_ ?_ ?_ ?_ h5 <;> simp [va_up, upd]
  have f0 : frM M (va_up M 36 (upd (M 36) 23 0)) := by
    refine ⟨fun z a b c d e => ?_, fun y a b c => ?_⟩
    · simp [va_up, a]
    · simp [va_up, upd, c]
  have x0 : ∀ c, tyX I M I (va_up M 36 (upd (M 36) 23 0)) c := by
    intro c j _
    simp [va_up]
  rcases rd_type (21 - D) I _ n p c D D 0 0 hS (by omega) (by omega) hk (by omega) with ⟨I', M', g1, g2, g3, g4, g5⟩ | ⟨I', M', p', c', t, r', ge, gS, gp, gc, gcp, gt, gh, gl, gX, gI, gM, gk, gj, gr, gr2, gA, gB⟩
  · refine .inl ⟨I', M', g1, frM_trans f0 g2, tyX_trans (x0 5) g3 (by omega), fun scr L F d J M0 => ?_, fun scr L F d I0 J => ?_⟩
    · have := g4 scr L (F + 50000) (d + D) J M0
      rw [show d + D + 4 + (21 - D) = d + 25 by omega, show F + 50000 + 13000 = F + 63000 by omega] at this
      exact this
    · have := h104_go scr L (F + 50000) d I0 J M D (150 * (401 - 0)) _ (g5 scr L (F + 50000) d I0 J) (by omega)
      rw [show F + 50000 + 13000 = F + 63000 by omega] at this
      exact this
  · have g5 := gS.2.2.2.1
    have g6 := gS.1.2.2.1
    have gR := gS.2.2.2.2.1.2.1
    refine .inr ⟨I', M', p', c', t, by omega, gS, gp, gc, gcp, gt, ?_, gl, tyX_trans (x0 c) gX (by omega), gI, frM_trans f0 gM, fun scr L F d J M0 => ?_, fun scr L F d I0 J => ?_⟩
    · rw [show 20 - D = 21 - D - 1 by omega]
      exact gh
    · have := gA scr L (F + 50000) (d + D) J M0
      rw [show d + D + 4 + (21 - D) = d + 25 by omega, show F + 50000 + 13000 = F + 63000 by omega] at this
      exact this
    · have := h104_go scr L (F + 50000) d I0 J M D (150 + 150 * (r' - 0)) _ (gB scr L (F + 50000) d I0 J 150 _ (h104_end scr L (F + 50000) d D I0 J M' r' t (by omega) (by rw [gk, nI_0]) (by omega))) (by omega)
      rw [show F + 50000 + 13000 = F + 63000 by omega] at this
      exact this
