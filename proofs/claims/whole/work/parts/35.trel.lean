/-! The types of both sides: the relation, and a type added. -/
def tm (t : Nat) : Nat := if t = 0 then 1 else if t = 1 then 2 else if t = 2 then 0 else t
theorem tm_3 {t : Nat} (h : 3 ≤ t) : tm t = t := by
  unfold tm
  rw [if_neg (by omega), if_neg (by omega), if_neg (by omega)]
theorem tm_inj {a b : Nat} (h : tm a = tm b) : a = b := by
  unfold tm at h
  split at h <;> split at h <;> (try split at h) <;> (try split at h) <;> (try split at h) <;> (try split at h) <;> omega
theorem tm_lt {t c : Nat} (h : t < c) (hc : 3 ≤ c) : tm t < c := by
  unfold tm
  split
  · omega
  · split
    · omega
    · split <;> omega
theorem tm_ne0 {t : Nat} : tm t = 0 ↔ t = 2 := by
  unfold tm
  constructor
  · intro h
    split at h
    · omega
    · split at h
      · omega
      · split at h <;> omega
  · intro h
    subst h
    rfl
def tyF (I M : am_I) (t a b la lb : Nat) : Prop := a < t ∧ b < t ∧ M 38 t = 3 ∧ I 3 t = 3 ∧ M 39 t = nI a ∧ M 40 t = nI b ∧ I 4 t = nI (tm a) ∧ I 5 t = nI (tm b) ∧ I 6 (tm a) = nI la ∧ I 6 (tm b) = nI lb ∧ I 6 t = nI (la + lb + 3) ∧ la + lb + 3 ≤ 200
def tyC (I M : am_I) (t a la : Nat) : Prop := a < t ∧ M 38 t = 4 ∧ I 3 t = 4 ∧ M 39 t = nI a ∧ M 40 t = 0 ∧ I 4 t = nI (tm a) ∧ I 5 t = nI (tm a) ∧ I 6 (tm a) = nI la ∧ I 6 t = nI (la + 1) ∧ la + 1 ≤ 200
def tyW (I M : am_I) (t : Nat) : Prop := (∃ a b la lb, tyF I M t a b la lb) ∨ (∃ a la, tyC I M t a la)
/-- both sides have the same c types -/
def tyR (I M : am_I) (c : Nat) : Prop := 5 ≤ c ∧ c ≤ 105 ∧ I 2 4 = nI c ∧ M 36 2 = nI c ∧ M 36 6 = 3 ∧ M 36 7 = 4 ∧ (∀ t, t < 3 → I 3 t = nI t ∧ I 4 t = 0 ∧ I 5 t = 0 ∧ I 6 t = 1 ∧ M 38 t = nI t) ∧ (∀ t, 3 ≤ t → t < c → tyW I M t) ∧ (M 38 3 = 3 ∧ M 39 3 = 2 ∧ M 40 3 = 2 ∧ M 38 4 = 4 ∧ M 39 4 = 2)
/-- the types below c are as they were -/
def tyX (I M I' M' : am_I) (c : Nat) : Prop := ∀ t, t < c → (M' 38 t = M 38 t ∧ M' 39 t = M 39 t ∧ M' 40 t = M 40 t) ∧ I' 3 t = I 3 t ∧ I' 4 t = I 4 t ∧ I' 5 t = I 5 t ∧ I' 6 t = I 6 t
def fT (I I' : am_I) : Prop := ∀ x, ¬ x = 2 → ¬ x = 3 → ¬ x = 4 → ¬ x = 5 → ¬ x = 6 → I' x = I x
def gT (M M' : am_I) : Prop := (∀ x, ¬ x = 36 → ¬ x = 38 → ¬ x = 39 → ¬ x = 40 → M' x = M x) ∧ ∀ y, ¬ y = 2 → M' 36 y = M 36 y
theorem tyX_refl (I M : am_I) (c : Nat) : tyX I M I M c := fun _ _ => ⟨⟨rfl, rfl, rfl⟩, rfl, rfl, rfl, rfl⟩
theorem tyX_trans {I M I1 M1 I2 M2 : am_I} {c c1 : Nat} (h1 : tyX I M I1 M1 c) (h2 : tyX I1 M1 I2 M2 c1) (hc : c ≤ c1) : tyX I M I2 M2 c := by
  intro t ht
  obtain ⟨⟨a1, a2, a3⟩, a4, a5, a6, a7⟩ := h1 t ht
  obtain ⟨⟨b1, b2, b3⟩, b4, b5, b6, b7⟩ := h2 t (by omega)
  exact ⟨⟨b1.trans a1, b2.trans a2, b3.trans a3⟩, b4.trans a4, b5.trans a5, b6.trans a6, b7.trans a7⟩
theorem tyF_X {I M I' M' : am_I} {c t a b la lb : Nat} (hc : 5 ≤ c) (ht : t < c) (hX : tyX I M I' M' c) (h : tyF I M t a b la lb) : tyF I' M' t a b la lb := by
  obtain ⟨h1, h2, h3, h4, h5, h6, h7, h8, h9, h10, h11, h12⟩ := h
  obtain ⟨⟨a1, a2, a3⟩, a4, a5, a6, a7⟩ := hX t ht
  obtain ⟨_, _, _, _, b7⟩ := hX (tm a) (tm_lt (by omega) (by omega))
  obtain ⟨_, _, _, _, c7⟩ := hX (tm b) (tm_lt (by omega) (by omega))
  exact ⟨h1, h2, a1.trans h3, a4.trans h4, a2.trans h5, a3.trans h6, a5.trans h7, a6.trans h8, b7.trans h9, c7.trans h10, a7.trans h11, h12⟩
theorem tyC_X {I M I' M' : am_I} {c t a la : Nat} (hc : 5 ≤ c) (ht : t < c) (hX : tyX I M I' M' c) (h : tyC I M t a la) : tyC I' M' t a la := by
  obtain ⟨h1, h3, h4, h5, h6, h7, h8, h9, h11, h12⟩ := h
  obtain ⟨⟨a1, a2, a3⟩, a4, a5, a6, a7⟩ := hX t ht
  obtain ⟨_, _, _, _, b7⟩ := hX (tm a) (tm_lt (by omega) (by omega))
  exact ⟨h1, a1.trans h3, a4.trans h4, a2.trans h5, a3.trans h6, a5.trans h7, a6.trans h8, b7.trans h9, a7.trans h11, h12⟩
theorem tyW_X {I M I' M' : am_I} {c t : Nat} (hc : 5 ≤ c) (ht : t < c) (hX : tyX I M I' M' c) (h : tyW I M t) : tyW I' M' t := by
  rcases h with ⟨a, b, la, lb, h⟩ | ⟨a, la, h⟩
  · exact .inl ⟨a, b, la, lb, tyF_X hc ht hX h⟩
  · exact .inr ⟨a, la, tyC_X hc ht hX h⟩
theorem kf_lt {sh le ri : Nat → Int32} {s a b : Int32} : ∀ (k t t' : Nat), kf sh le ri s a b k t = some t' → t ≤ t' ∧ t' < t + k ∧ sh t' = s ∧ le t' = a ∧ ri t' = b
  | 0, t, t', h => by simp [kf] at h
  | k + 1, t, t', h => by
    unfold kf at h
    split at h
    · rename_i g
      cases h
      exact ⟨by omega, by omega, g⟩
    · obtain ⟨h1, h2, h3⟩ := kf_lt k (t + 1) t' h
      exact ⟨by omega, by omega, h3⟩
theorem kf_congr {sh le ri sh' le' ri' : Nat → Int32} {s a b s' a' b' : Int32} : ∀ (k t : Nat), (∀ j, t ≤ j → j < t + k → ((sh j = s ∧ le j = a ∧ ri j = b) ↔ (sh' j = s' ∧ le' j = a' ∧ ri' j = b'))) → kf sh le ri s a b k t = kf sh' le' ri' s' a' b' k t
  | 0, t, h => rfl
  | k + 1, t, h => by
    unfold kf
    have h1 := h t (by omega) (by omega)
    by_cases g : sh t = s ∧ le t = a ∧ ri t = b
    · rw [if_pos g, if_pos (h1.mp g)]
    · rw [if_neg g, if_neg (fun z => g (h1.mpr z))]
      exact kf_congr k (t + 1) (fun j h2 h3 => h j (by omega) (by omega))
theorem n34 : ¬ (3 : Int32) = 4 := by decide
theorem n43 : ¬ (4 : Int32) = 3 := by decide
theorem nI_3 : nI 3 = 3 := by decide +kernel
theorem nI_4 : nI 4 = 4 := by decide +kernel
theorem nI_inj {a b : Nat} (ha : a < 2 ^ 31) (hb : b < 2 ^ 31) (h : nI a = nI b) : a = b := (nI_eq ha hb).mp h
theorem tyX_add {I M : am_I} {c : Nat} {s a b s' a' b' w : Int32} : tyX I M (ty_I I c s a b w) (ty_M M c s' a' b') c := by
  intro t ht
  have g : ¬ t = c := by omega
  refine ⟨⟨?_, ?_, ?_⟩, ?_, ?_, ?_, ?_⟩ <;> simp [ty_I, ty_M, va_up, upd, g]
theorem fT_add {I : am_I} {c : Nat} {s a b w : Int32} : fT I (ty_I I c s a b w) := by
  intro x h2 h3 h4 h5 h6
  simp [ty_I, va_up, h2, h3, h4, h5, h6]
theorem gT_add {M : am_I} {c : Nat} {s a b : Int32} : gT M (ty_M M c s a b) := by
  refine ⟨?_, ?_⟩
  · intro x h2 h3 h4 h5
    simp [ty_M, va_up, h2, h3, h4, h5]
  · intro y hy
    simp [ty_M, va_up, upd, hy]
theorem tyR_add {I M : am_I} {c : Nat} {s a b s' a' b' w : Int32} (h : tyR I M c) (hc : c < 105) (hw : tyW (ty_I I c s a b w) (ty_M M c s' a' b') c) : tyR (ty_I I c s a b w) (ty_M M c s' a' b') (c + 1) := by
  obtain ⟨h1, h2, h3, h4, h5, h6, h7, h8, h9⟩ := h
  have hX := tyX_add (I := I) (M := M) (c := c) (s := s) (a := a) (b := b) (s' := s') (a' := a') (b' := b') (w := w)
  refine ⟨by omega, by omega, ?_, ?_, ?_, ?_, ?_, ?_, ?_⟩
  · simp [ty_I, va_up, upd]
  · simp [ty_M, va_up, upd]
  · rw [gT_add.2 6 (by omega)]
    exact h5
  · rw [gT_add.2 7 (by omega)]
    exact h6
  · intro t ht
    obtain ⟨a1, a2, a3, a4, a5⟩ := h7 t ht
    obtain ⟨⟨b1, b2, b3⟩, b4, b5, b6, b7⟩ := hX t (by omega)
    exact ⟨b4.trans a1, b5.trans a2, b6.trans a3, b7.trans a4, b1.trans a5⟩
  · intro t ht1 ht2
    by_cases g : t = c
    · subst g
      exact hw
    · exact tyW_X (by omega) (by omega) hX (h8 t ht1 (by omega))
  · obtain ⟨a1, a2, a3, a4, a5⟩ := h9
    obtain ⟨⟨b1, b2, b3⟩, _⟩ := hX 3 (by omega)
    obtain ⟨⟨c1, c2, c3⟩, _⟩ := hX 4 (by omega)
    exact ⟨b1.trans a1, b2.trans a2, b3.trans a3, c1.trans a4, c2.trans a5⟩
theorem ty_fun {I M : am_I} {c a b la lb : Nat} (h : tyR I M c) (hc : c < 105) (ha : a < c) (hb : b < c) (h1 : I 6 (tm a) = nI la) (h2 : I 6 (tm b) = nI lb) (hl : la + lb + 3 ≤ 200) : ∃ (t c' : Nat) (I' M' : am_I), ky I c 3 (nI (tm a)) (nI (tm b)) (I 6 (tm a) + I 6 (tm b) + 3) = (nI t, I') ∧ kz M c 3 (nI a) (nI b) = (nI t, M') ∧ tyR I' M' c' ∧ 3 ≤ t ∧ t < c' ∧ c ≤ c' ∧ c' ≤ c + 1 ∧ tyF I' M' t a b la lb ∧ tyX I M I' M' c ∧ fT I I' ∧ gT M M' := by
  have ek : kf (I 3) (I 4) (I 5) 3 (nI (tm a)) (nI (tm b)) (c - 3) 3 = kf (M 38) (M 39) (M 40) 3 (nI a) (nI b) (c - 3) 3 := by
    refine kf_congr _ _ (fun j h3 h4 => ?_)
    have qa := tm_lt ha (by have := h.1; omega)
    have qb := tm_lt hb (by have := h.1; omega)
    have hc1 := h.2.1
    rcases h.2.2.2.2.2.2.2.1 j h3 (by omega) with ⟨a', b', la', lb', k1, k2, k3, k4, k5, k6, k7, k8, _⟩ | ⟨a', la', k1, k3, k4, k5, k6, k7, k8, _⟩
    · have qa' := tm_lt (t := a') (c := c) (by omega) (by omega)
      have qb' := tm_lt (t := b') (c := c) (by omega) (by omega)
      rw [k3, k4, k5, k6, k7, k8]
      constructor
      · rintro ⟨_, e1, e2⟩
        have e3 := tm_inj (nI_inj (by omega) (by omega) e1)
        have e4 := tm_inj (nI_inj (by omega) (by omega) e2)
        exact ⟨rfl, by rw [e3], by rw [e4]⟩
      · rintro ⟨_, e1, e2⟩
        have e3 := nI_inj (by omega) (by omega) e1
        have e4 := nI_inj (by omega) (by omega) e2
        exact ⟨rfl, by rw [e3], by rw [e4]⟩
    · rw [k3, k4]
      exact ⟨fun z => absurd z.1 n43, fun z => absurd z.1 n43⟩
  have hc1 := h.2.1
  cases ef : kf (M 38) (M 39) (M 40) 3 (nI a) (nI b) (c - 3) 3 with
  | some t =>
    rw [ef] at ek
    obtain ⟨g1, g2, g3, g4, g5⟩ := kf_lt _ _ _ ef
    have hlen := h.1
    refine ⟨t, c, I, M, by simp [ky, ek], by simp [kz, ef], h, g1, by omega, by omega, by omega, ?_, tyX_refl I M c, fun _ _ _ _ _ _ => rfl, ⟨fun _ _ _ _ _ => rfl, fun _ _ => rfl⟩⟩
    rcases h.2.2.2.2.2.2.2.1 t g1 (by omega) with ⟨a', b', la', lb', k1, k2, k3, k4, k5, k6, k7, k8, k9, k10, k11, k12⟩ | ⟨a', la', k1, k3, k4, k5, k6, k7, k8, _⟩
    · have e3 := nI_inj (by omega) (by omega) (k5.symm.trans g4)
      have e4 := nI_inj (by omega) (by omega) (k6.symm.trans g5)
      subst e3 e4
      have e5 := nI_inj (by omega) (by omega) (k9.symm.trans h1)
      have e6 := nI_inj (by omega) (by omega) (k10.symm.trans h2)
      subst e5 e6
      exact ⟨k1, k2, k3, k4, k5, k6, k7, k8, k9, k10, k11, k12⟩
    · exact absurd (k3.symm.trans g3) n43
  | none =>
    rw [ef] at ek
    have hF : tyF (ty_I I c 3 (nI (tm a)) (nI (tm b)) (I 6 (tm a) + I 6 (tm b) + 3)) (ty_M M c 3 (nI a) (nI b)) c a b la lb := by
      have qa : ¬ tm a = c := by have := tm_lt ha (by have := h.1; omega); omega
      have qb : ¬ tm b = c := by have := tm_lt hb (by have := h.1; omega); omega
      have e3 : (3 : Int32) = nI 3 := by decide +kernel
      refine ⟨ha, hb, ?_, ?_, ?_, ?_, ?_, ?_, ?_, ?_, ?_, hl⟩
      · simp [ty_M, va_up, upd]
      · simp [ty_I, va_up, upd]
      · simp [ty_M, va_up, upd]
      · simp [ty_M, va_up, upd]
      · simp [ty_I, va_up, upd]
      · simp [ty_I, va_up, upd]
      · simp [ty_I, va_up, upd, qa, h1]
      · simp [ty_I, va_up, upd, qb, h2]
      · simp only [ty_I, va_up, upd, h1, h2, nI_add]
        rw [e3, nI_add]
        simp [upd]
    exact ⟨c, c + 1, _, _, by simp [ky, ek, show ¬ 105 ≤ c by omega], by simp [kz, ef], tyR_add h hc (.inl ⟨a, b, la, lb, hF⟩), by have := h.1; omega, by omega, by omega, by omega, hF, tyX_add, fT_add, gT_add⟩
theorem ty_cell {I M : am_I} {c a la : Nat} (h : tyR I M c) (hc : c < 105) (ha : a < c) (h1 : I 6 (tm a) = nI la) (hl : la + 1 ≤ 200) : ∃ (t c' : Nat) (I' M' : am_I), ky I c 4 (nI (tm a)) (nI (tm a)) (I 6 (tm a) + 1) = (nI t, I') ∧ kz M c 4 (nI a) 0 = (nI t, M') ∧ tyR I' M' c' ∧ 3 ≤ t ∧ t < c' ∧ c ≤ c' ∧ c' ≤ c + 1 ∧ tyC I' M' t a la ∧ tyX I M I' M' c ∧ fT I I' ∧ gT M M' := by
  have ek : kf (I 3) (I 4) (I 5) 4 (nI (tm a)) (nI (tm a)) (c - 3) 3 = kf (M 38) (M 39) (M 40) 4 (nI a) 0 (c - 3) 3 := by
    refine kf_congr _ _ (fun j h3 h4 => ?_)
    have qa := tm_lt ha (by have := h.1; omega)
    have hc1 := h.2.1
    rcases h.2.2.2.2.2.2.2.1 j h3 (by omega) with ⟨a', b', la', lb', k1, k2, k3, k4, k5, k6, k7, k8, _⟩ | ⟨a', la', k1, k3, k4, k5, k6, k7, k8, _⟩
    · rw [k3, k4]
      exact ⟨fun z => absurd z.1 n34, fun z => absurd z.1 n34⟩
    · have qa' := tm_lt (t := a') (c := c) (by omega) (by omega)
      rw [k3, k4, k5, k6, k7, k8]
      constructor
      · rintro ⟨_, e1, e2⟩
        have e3 := tm_inj (nI_inj (by omega) (by omega) e1)
        exact ⟨rfl, by rw [e3], rfl⟩
      · rintro ⟨_, e1, e2⟩
        have e3 := nI_inj (by omega) (by omega) e1
        exact ⟨rfl, by rw [e3], by rw [e3]⟩
  have hc1 := h.2.1
  cases ef : kf (M 38) (M 39) (M 40) 4 (nI a) 0 (c - 3) 3 with
  | some t =>
    rw [ef] at ek
    obtain ⟨g1, g2, g3, g4, g5⟩ := kf_lt _ _ _ ef
    have hlen := h.1
    refine ⟨t, c, I, M, by simp [ky, ek], by simp [kz, ef], h, g1, by omega, by omega, by omega, ?_, tyX_refl I M c, fun _ _ _ _ _ _ => rfl, ⟨fun _ _ _ _ _ => rfl, fun _ _ => rfl⟩⟩
    rcases h.2.2.2.2.2.2.2.1 t g1 (by omega) with ⟨a', b', la', lb', k1, k2, k3, k4, k5, k6, k7, k8, k9, k10, k11, k12⟩ | ⟨a', la', k1, k3, k4, k5, k6, k7, k8, k9, k11, k12⟩
    · exact absurd (k3.symm.trans g3) n34
    · have e3 := nI_inj (by omega) (by omega) (k5.symm.trans g4)
      subst e3
      have e5 := nI_inj (by omega) (by omega) (k9.symm.trans h1)
      subst e5
      exact ⟨k1, k3, k4, k5, k6, k7, k8, k9, k11, k12⟩
  | none =>
    rw [ef] at ek
    have hF : tyC (ty_I I c 4 (nI (tm a)) (nI (tm a)) (I 6 (tm a) + 1)) (ty_M M c 4 (nI a) 0) c a la := by
      have qa : ¬ tm a = c := by have := tm_lt ha (by have := h.1; omega); omega
      refine ⟨ha, ?_, ?_, ?_, ?_, ?_, ?_, ?_, ?_, hl⟩
      · simp [ty_M, va_up, upd]
      · simp [ty_I, va_up, upd]
      · simp [ty_M, va_up, upd]
      · simp [ty_M, va_up, upd]
      · simp [ty_I, va_up, upd]
      · simp [ty_I, va_up, upd]
      · simp [ty_I, va_up, upd, qa, h1]
      · simp [ty_I, va_up, upd, h1, nI_1]
    exact ⟨c, c + 1, _, _, by simp [ky, ek, show ¬ 105 ≤ c by omega], by simp [kz, ef], tyR_add h hc (.inr ⟨a, la, hF⟩), by have := h.1; omega, by omega, by omega, by omega, hF, tyX_add, fT_add, gT_add⟩
/-- the height of a type -/
def hb (M : am_I) : Nat → Nat → Prop
  | 0, t => t < 3
  | k + 1, t => t < 3 ∨ ∃ a, M 39 t = nI a ∧ a < t ∧ hb M k a ∧ (M 38 t = 3 → ∃ b, M 40 t = nI b ∧ b < t ∧ hb M k b)
theorem hb_0 {M : am_I} {k t : Nat} (h : t < 3) : hb M k t := by
  cases k with
  | zero => exact h
  | succ k => exact .inl h
theorem hb_le {M : am_I} : ∀ {k j t : Nat}, k ≤ j → hb M k t → hb M j t
  | 0, j, t, _, h => hb_0 h
  | k + 1, j, t, hj, h => by
    obtain ⟨j, rfl⟩ : ∃ i, j = i + 1 := ⟨j - 1, by omega⟩
    rcases h with h | ⟨a, h1, h2, h3, h4⟩
    · exact .inl h
    · refine .inr ⟨a, h1, h2, hb_le (by omega) h3, fun z => ?_⟩
      obtain ⟨b, g1, g2, g3⟩ := h4 z
      exact ⟨b, g1, g2, hb_le (by omega) g3⟩
theorem hb_X {M M' : am_I} {c : Nat} (hX : ∀ t, t < c → M' 38 t = M 38 t ∧ M' 39 t = M 39 t ∧ M' 40 t = M 40 t) : ∀ {k t : Nat}, t < c → hb M k t → hb M' k t
  | 0, t, _, h => h
  | k + 1, t, ht, h => by
    obtain ⟨e1, e2, e3⟩ := hX t ht
    rcases h with h | ⟨a, h1, h2, h3, h4⟩
    · exact .inl h
    · refine .inr ⟨a, e2.trans h1, h2, hb_X hX (by omega) h3, fun z => ?_⟩
      obtain ⟨b, g1, g2, g3⟩ := h4 (e1.symm.trans z)
      exact ⟨b, e3.trans g1, g2, hb_X hX (by omega) g3⟩
