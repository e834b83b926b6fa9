/-! The relation of the two sides between two calls. -/
theorem nd_K {I M I' M' : am_I} {B c m : Nat} (hc : 5 ≤ c) (hI : ∀ z, 7 ≤ z → z ≤ 13 → I' z = I z) (hS : kS M M') (hX : tyX I M I' M' c) (h : nd I M B c m) : nd I' M' B c m := by
  obtain ⟨q, o, h1, h2, h3, h4, h5, h6, h7, h8, h9, h10, h11, h12, h13⟩ := h
  obtain ⟨e41, e42, e43, e44, e45, e46, e47, e48⟩ := hS
  have z : ∀ {x y}, M' x = M x → 9 ≤ y → y ≤ 11 → pa I M m q B x y → pa I' M' m q B x y := by
    rintro x y ex y1 y2 ⟨a, q', g1, g2, g3, g4, g5, g6⟩
    exact ⟨a, q', g1, g2, by rw [ex]; exact g3, by rw [e42]; exact g4, by rw [hI y (by omega) (by omega)]; exact g5, by rw [e45]; exact g6⟩
  refine ⟨q, o, by rw [e42]; exact h1, h2, by rw [e41]; exact h3, by rw [hI 7 (by omega) (by omega)]; exact h4, h5, ?_, fun w => ?_, fun w => ?_, fun w => ?_, fun w => ?_, fun w => z e46 (by omega) (by omega) (h11 w), fun w1 w2 => z e47 (by omega) (by omega) (h12 w1 w2), fun w => z e48 (by omega) (by omega) (h13 w)⟩
  · unfold pr at h6 ⊢
    rw [e45, e42, hI 8 (by omega) (by omega)]
    exact h6
  · rw [hI 12 (by omega) (by omega), e43]
    exact h7 w
  · rw [e43]
    exact h8 w
  · rw [e43]
    exact h9 w
  · obtain ⟨t, l, g1, g2, g3, g4, g5, g6⟩ := h10 w
    exact ⟨t, l, g1, by rw [e44]; exact g2, by rw [hI 13 (by omega) (by omega)]; exact g3, hb_X (fun t ht => (hX t ht).1) g1 g4, by rw [(hX (tm t) (tm_lt g1 (by omega))).2.2.2.2]; exact g5, g6⟩
theorem tw_K {I M I' M' : am_I} {B c : Nat} (hc : 5 ≤ c) (hS : kS M M') (hX : tyX I M I' M' c) : ∀ (h w m : Nat), tw I M B c h w m → tw I' M' B c h w m
  | 0, _, _, g => g
  | h + 1, w, m, g => by
    obtain ⟨g1, g2, o, g3, g4, g5, g6, g7, g8⟩ := g
    obtain ⟨e41, e42, e43, e44, e45, e46, e47, e48⟩ := id hS
    refine ⟨g1, g2, o, by rw [e41]; exact g3, g4, fun z => ?_, fun z => ?_, fun z z2 => ?_, fun z => ?_⟩
    · obtain ⟨a, t, l, w1, k1, k2, k3, k4, k5, k6, k7⟩ := g5 z
      exact ⟨a, t, l, w1, by rw [e46]; exact k1, k2, tw_K hc hS hX h w1 a k3, by rw [e44]; exact k4, k5, by rw [(hX (tm t) (tm_lt k5 (by omega))).2.2.2.2]; exact k6, k7⟩
    · obtain ⟨a, w1, k1, k2, k3, k4⟩ := g6 z
      exact ⟨a, w1, by rw [e46]; exact k1, k2, tw_K hc hS hX h w1 a k3, k4⟩
    · obtain ⟨a, b, w1, w2, k1, k2, k3, k4, k5, k6, k7⟩ := g7 z z2
      exact ⟨a, b, w1, w2, by rw [e46]; exact k1, k2, tw_K hc hS hX h w1 a k3, by rw [e47]; exact k4, k5, tw_K hc hS hX h w2 b k6, k7⟩
    · obtain ⟨a, b, w1, w2, k1, k2, k3, k4, k5, k6, k7⟩ := g8 z
      exact ⟨a, b, w1, w2, by rw [e46]; exact k1, k2, tw_K hc hS hX h w1 a k3, by rw [e48]; exact k4, k5, tw_K hc hS hX h w2 b k6, k7⟩
theorem PR_of {I0 M0 I M : am_I} {c0 N K c : Nat} (hd : ∀ y, y < N → dn M0 y) (h : SK I0 M0 c0 N K I M c K) : PR I M N c ∧ 0 < N ∧ ∀ m, m < N → TN I0 M0 c0 I M N c m := by
  obtain ⟨⟨p1, p2, p3, p4, p5, p6, p7⟩, ⟨k1, k2, k3, k4⟩, s3, s4, s5, s6, s7, s8, i1, i2⟩ := h
  have hT : ∀ m, m < N → TN I0 M0 c0 I M N c m := by
    intro m hm
    obtain ⟨k, _, a2, a3⟩ := p6.2.1 m (by omega) hm
    obtain ⟨x, b1, b2, b3⟩ := i1 k a2
    have : x = m := nI_inj (by omega) (by omega) (b1.symm.trans a3)
    rw [← this]
    exact b3
  refine ⟨⟨p2, s3, fun m hm => nd_le (nd_K s8 k3 k1 s7 (p4 m hm)) (Nat.le_refl _) s4, fun m m' q a b e f => p5 m m' q a b (by rw [← k1.2.1]; exact e) (by rw [← k1.2.1]; exact f), fun m hm => ?_, fun m hm => ?_, fun m hm => ?_⟩, p1, hT⟩
  · obtain ⟨q, o, t, g1, g2, g3, g4, g5, g6, g7, g8, g9⟩ := hT m hm
    exact ⟨q, o, t, g1, g2, g3, g4, g5, g6, g7, g9⟩
  · obtain ⟨h, w, a1, a2, a3⟩ := p7 m hm
    exact ⟨h, w, a1, a2, tw_le (Nat.le_refl _) s4 h w m (tw_K s8 k1 s7 h w m a3)⟩
  · obtain ⟨e41, e42, e43, e44, e45, e46, e47, e48⟩ := k1
    refine dn_X (fun x a b => ?_) (hd m hm)
    rcases (show x = 41 ∨ x = 42 ∨ x = 43 ∨ x = 44 ∨ x = 45 ∨ x = 46 ∨ x = 47 ∨ x = 48 by omega) with rfl | rfl | rfl | rfl | rfl | rfl | rfl | rfl
    · rw [e41]
    · rw [e42]
    · rw [e43]
    · rw [e44]
    · rw [e45]
    · rw [e46]
    · rw [e47]
    · rw [e48]
def sP (I I' M M' : am_I) : Prop := (∀ z, 2 ≤ z → z ≤ 16 → I' z = I z) ∧ (∀ z, 38 ≤ z → z ≤ 48 → M' z = M z) ∧ M' 71 = M 71 ∧ M' 36 2 = M 36 2 ∧ M' 36 6 = M 36 6 ∧ M' 36 7 = M 36 7
theorem tyR_P {I I' M M' : am_I} {c : Nat} (hE : sP I I' M M') (h : tyR I M c) : tyR I' M' c := by
  obtain ⟨hI, hM, h71, h2, h6, h7⟩ := hE
  exact tyR_congr (hI 2 (by omega) (by omega)) (hI 3 (by omega) (by omega)) (hI 4 (by omega) (by omega)) (hI 5 (by omega) (by omega)) (hI 6 (by omega) (by omega)) h2 h6 h7 (hM 38 (by omega) (by omega)) (hM 39 (by omega) (by omega)) (hM 40 (by omega) (by omega)) h
theorem PR_P {I I' M M' : am_I} {N c : Nat} (hE : sP I I' M M') (h : PR I M N c) : PR I' M' N c := by
  have hR := tyR_P hE h.2.1
  obtain ⟨hI, hM, h71, _⟩ := hE
  obtain ⟨p1, p2, p3, p4, p5, p6, p7⟩ := h
  have hX : tyX I M I' M' c := by
    intro t _
    rw [hI 3 (by omega) (by omega), hI 4 (by omega) (by omega), hI 5 (by omega) (by omega), hI 6 (by omega) (by omega), hM 38 (by omega) (by omega), hM 39 (by omega) (by omega), hM 40 (by omega) (by omega)]
    exact ⟨⟨rfl, rfl, rfl⟩, rfl, rfl, rfl, rfl⟩
  have hS : kS M M' := ⟨hM 41 (by omega) (by omega), hM 42 (by omega) (by omega), hM 43 (by omega) (by omega), hM 44 (by omega) (by omega), hM 45 (by omega) (by omega), hM 46 (by omega) (by omega), hM 47 (by omega) (by omega), hM 48 (by omega) (by omega)⟩
  refine ⟨p1, hR, fun m hm => nd_F (fun z a b => hI z (by omega) (by omega)) (fun z a b => hM z (by omega) (by omega)) (p3 m hm), fun m m' q a b d e => p4 m m' q a b (by rw [← hM 42 (by omega) (by omega)]; exact d) (by rw [← hM 42 (by omega) (by omega)]; exact e), fun m hm => ?_, fun m hm => ?_, fun m hm => dn_X (fun x a b => by rw [hM x (by omega) (by omega)]) (p7 m hm)⟩
  · obtain ⟨q, o, t, g1, g2, g3, g4, g5, g6, g7, g8⟩ := p5 m hm
    refine ⟨q, o, t, by rw [hM 42 (by omega) (by omega)]; exact g1, g2, by rw [hM 41 (by omega) (by omega)]; exact g3, g4, by rw [h71]; exact g5, g6, by rw [hI 15 (by omega) (by omega)]; exact g7, ?_⟩
    exact rl_X g4 g3 p2 hX (Nat.le_refl _) hS g6 (by rw [hI 14 (by omega) (by omega)]) (fun a _ _ => ⟨by rw [h71], fun qa _ => by rw [hI 16 (by omega) (by omega)]⟩) g8
  · obtain ⟨h, w, a1, a2, a3⟩ := p6 m hm
    exact ⟨h, w, a1, a2, tw_F (hI 6 (by omega) (by omega)) (fun z a b => hM z (by omega) (by omega)) h w m a3⟩
theorem shT_P {I I' M M' : am_I} (hE : sP I I' M M') (h28 : M' 36 28 = M 36 28) (h53 : M' 53 = M 53) (h : shT I M) : shT I' M' := by
  obtain ⟨c, hh, t, a1, a2, a3, a4, a5, a6, a7⟩ := h
  have hR := tyR_P hE a1
  obtain ⟨hI, hM, h71, _⟩ := hE
  have e38 := hM 38 (by omega) (by omega)
  have e39 := hM 39 (by omega) (by omega)
  have e40 := hM 40 (by omega) (by omega)
  have e6 := tln_I (hI 6 (by omega) (by omega)) t
  refine ⟨c, hh, t, hR, a2, hb_eq e38 e39 e40 a3, a4, by rw [hI 15 (by omega) (by omega)]; exact a5, by rw [h28, e6]; exact a6, fun j hj => ?_⟩
  rw [h53, wt_M e38 e39 e40]
  exact a7 j (by rw [← e6]; exact hj)
/-- the types that are always there -/
def bs (I M : am_I) : Prop := M 38 0 = 0 ∧ ∀ t, t < 5 → I 3 t = nI t ∧ I 4 t = 0 ∧ I 5 t = 0 ∧ I 6 t = (if t = 3 then 5 else if t = 4 then 2 else 1)
theorem bs_X {I M I' M' : am_I} (hX : tyX I M I' M' 5) (h : bs I M) : bs I' M' := by
  refine ⟨(hX 0 (by omega)).1.1.trans h.1, fun t ht => ?_⟩
  obtain ⟨_, e3, e4, e5, e6⟩ := hX t ht
  rw [e3, e4, e5, e6]
  exact h.2 t ht
/-- a program is there -/
def RD (I M : am_I) : Prop := shT I M ∧ ∃ N c, PR I M N c ∧ 0 < N ∧ M 42 0 = nI 0 ∧ M 45 0 = -1 ∧ M 36 26 = nI 0
def Rst (I : am_I) (J : am_J) (M : am_I) : Prop := bs I M ∧ SI I ∧ I 0 5 = M 36 27 ∧ I 21 10 = M 36 49 ∧ I 21 11 = M 36 53 ∧ (∃ P : Nat, P < 2 ^ 30 ∧ I 28 1 = nI P ∧ M 36 56 = nI P ∧ M 70 = I 29) ∧ (I 21 12 = 1 ↔ M 36 51 = 1) ∧ (I 21 12 = 2 ↔ M 36 51 = 2) ∧ (I 21 12 = 2 → I 22 8 = M 36 54) ∧ (I 21 12 = 1 → VE J M) ∧ ((I 0 4 = 0 ∧ M 36 25 = 0 ∧ M 36 28 = 0) ∨ (I 0 4 = 1 ∧ M 36 25 = 1 ∧ RD I M))
theorem RD_P {I I' M M' : am_I} (hE : sP I I' M M') (h28 : M' 36 28 = M 36 28) (h26 : M' 36 26 = M 36 26) (h53 : M' 53 = M 53) (h : RD I M) : RD I' M' := by
  obtain ⟨h1, N, c, h2, h3, h4, h5, h6⟩ := h
  refine ⟨shT_P hE h28 h53 h1, N, c, PR_P hE h2, h3, ?_, ?_, h26.trans h6⟩
  · rw [hE.2.1 42 (by omega) (by omega)]
    exact h4
  · rw [hE.2.1 45 (by omega) (by omega)]
    exact h5
theorem VE_M {J : am_J} {M M' : am_I} (e : M' 36 55 = M 36 55) (h : ∀ z, z = 55 ∨ z = 56 ∨ z = 58 → M' z = M z) (g : VE J M) : VE J M' := by
  unfold VE at g ⊢
  rw [e, h 55 (by omega), h 56 (by omega), h 58 (by omega)]
  exact g
theorem Rst_c {I I' : am_I} {J : am_J} {M M' : am_I} (hI : ∀ z, ¬ z = 18 → ¬ z = 19 → I' z = I z) (hM : ∀ z, ¬ z = 36 → ¬ z = 37 → M' z = M z) (h36 : ∀ y, ¬ y = 0 → M' 36 y = M 36 y) (h : Rst I J M) : Rst I' J M' := by
  have hE : sP I I' M M' := ⟨fun z a b => hI z (by omega) (by omega), fun z a b => hM z (by omega) (by omega), hM 71 (by omega) (by omega), h36 2 (by omega), h36 6 (by omega), h36 7 (by omega)⟩
  obtain ⟨h1, h2, h3, h4, h5, h6, h7, h8, h9, h10, h11⟩ := h
  unfold Rst bs SI
  rw [hI 3 (by omega) (by omega), hI 4 (by omega) (by omega), hI 5 (by omega) (by omega), hI 6 (by omega) (by omega), hM 38 (by omega) (by omega), hI 33 (by omega) (by omega), hI 0 (by omega) (by omega), hI 21 (by omega) (by omega), hI 22 (by omega) (by omega), hI 28 (by omega) (by omega), hI 29 (by omega) (by omega), hM 70 (by omega) (by omega), h36 27 (by omega), h36 49 (by omega), h36 53 (by omega), h36 56 (by omega), h36 51 (by omega), h36 54 (by omega), h36 25 (by omega), h36 28 (by omega)]
  refine ⟨h1, h2, h3, h4, h5, h6, h7, h8, h9, fun z => VE_M (h36 55 (by omega)) (fun z hz => hM z (by omega) (by omega)) (h10 z), ?_⟩
  rcases h11 with h11 | ⟨a, b, c⟩
  · exact .inl h11
  · exact .inr ⟨a, b, RD_P hE (h36 28 (by omega)) (h36 26 (by omega)) (hM 53 (by omega) (by omega)) c⟩
theorem Rst_m {I : am_I} {J : am_J} {M : am_I} : Rst (mkI I) J (mkM M) ↔ Rst I J M := by
  have hI : ∀ z, ¬ z = 18 → ¬ z = 19 → mkI I z = I z := fun z a b => by
    unfold mkI
    rw [if_neg (by omega)]
  have hM : ∀ z, ¬ z = 36 → ¬ z = 37 → mkM M z = M z := fun z a b => by
    unfold mkM
    rw [if_neg b, if_neg a]
  have h36 : ∀ y, ¬ y = 0 → mkM M 36 y = M 36 y := fun y a => by
    unfold mkM
    rw [if_neg (by omega), if_pos rfl]
    exact pk_un a
  exact ⟨fun h => Rst_c (fun z a b => (hI z a b).symm) (fun z a b => (hM z a b).symm) (fun y a => (h36 y a).symm) h, fun h => Rst_c hI hM h36 h⟩
/-- the relation of the law -/
def Rel0 (I : am_I) (J : am_J) (M : am_I) : Prop := rtx I M ∧ Rst (mkI I) J (mkM M)
theorem Rel_mk {I : am_I} {J : am_J} {M : am_I} (h1 : rtx I M) (h2 : Rst I J M) : Rel0 I J M := ⟨h1, Rst_m.mpr h2⟩
theorem Rel_0 : Rel0 i0 j0 m0 := by
  refine Rel_mk ⟨0, by omega, rfl, rfl, rfl, fun k hk => absurd hk (Nat.not_lt_zero k)⟩ ?_
  refine ⟨⟨rfl, fun t ht => ?_⟩, fun s hs => ⟨0, by omega, rfl⟩, rfl, rfl, rfl, ⟨0, by decide, rfl, rfl, rfl⟩, ?_, ?_, ?_, ?_, .inl ⟨rfl, rfl, rfl⟩⟩
  · rcases (show t = 0 ∨ t = 1 ∨ t = 2 ∨ t = 3 ∨ t = 4 by omega) with rfl | rfl | rfl | rfl | rfl <;> decide +kernel
  · exact ⟨fun z => absurd z (by decide), fun z => absurd z (by decide)⟩
  · exact ⟨fun z => absurd z (by decide), fun z => absurd z (by decide)⟩
  · exact fun z => absurd z (by decide)
  · exact fun z => absurd z (by decide)
theorem ckI_r (I : am_I) : ckI I 0 4 = 0 ∧ ckI I 0 5 = -1 ∧ ckI I 21 10 = 0 ∧ ckI I 21 11 = 0 ∧ ckI I 21 12 = 5 ∧ ckI I 28 1 = 0 ∧ ∀ z, ¬ z = 0 → ¬ z = 21 → ¬ z = 28 → ckI I z = I z := by
  refine ⟨?_, ?_, ?_, ?_, ?_, ?_, fun z a b c => ?_⟩
  · simp [ckI, wr, va_up, upd]
  · simp [ckI, wr, va_up, upd]
  · simp [ckI, wr, va_up, upd]
  · simp [ckI, wr, va_up, upd]
  · simp [ckI, wr, va_up, upd]
  · simp [ckI, wr, va_up, upd]
  · simp [ckI, wr, va_up, a, b, c]
theorem clI_r (I : am_I) : clI I 2 4 = 5 ∧ clI I 1 12 = 0 ∧ clI I 18 3 = 0 ∧ clI I 18 2 = I 18 2 ∧ ∀ z, ¬ z = 1 → ¬ z = 2 → ¬ z = 18 → clI I z = I z := by
  refine ⟨?_, ?_, ?_, ?_, fun z a b c => ?_⟩
  · simp [clI, wr, va_up, upd]
  · simp [clI, wr, va_up, upd]
  · simp [clI, wr, va_up, upd]
  · simp [clI, wr, va_up, upd]
  · simp [clI, wr, va_up, a, b, c]
theorem cp_r (M : am_I) : (cp M 36 2 = nI 5 ∧ cp M 36 6 = 3 ∧ cp M 36 7 = 4) ∧ (cp M 36 25 = 0 ∧ cp M 36 27 = -1 ∧ cp M 36 28 = 0 ∧ cp M 36 49 = 0 ∧ cp M 36 51 = 0 ∧ cp M 36 53 = 0 ∧ cp M 36 56 = 0) ∧ (cp M 38 0 = M 38 0 ∧ cp M 38 1 = 1 ∧ cp M 38 2 = 2 ∧ cp M 38 3 = 3 ∧ cp M 39 3 = 2 ∧ cp M 40 3 = 2 ∧ cp M 38 4 = 4 ∧ cp M 39 4 = 2 ∧ cp M 40 4 = 0) ∧ cp M 36 0 = M 36 0 ∧ ∀ z, ¬ z = 36 → ¬ z = 38 → ¬ z = 39 → ¬ z = 40 → cp M z = M z := by
  refine ⟨⟨?_, ?_, ?_⟩, ⟨?_, ?_, ?_, ?_, ?_, ?_, ?_⟩, ⟨?_, ?_, ?_, ?_, ?_, ?_, ?_, ?_, ?_⟩, ?_, fun z a b c d => ?_⟩
  all_goals first | (simp [cp, cp1, cp2, cp3, fgM, wr, ty_M, va_up, upd]; done) | simp [cp, cp1, cp2, cp3, fgM, wr, ty_M, va_up, a, b, c, d]
