/-! Reading an expression: beginning one; small steps. -/
def wF (I I' : am_I) : Prop := ∀ x q, (x = 0 ∨ (14 ≤ x ∧ ¬ x = 17 ∧ ¬ x = 18)) → I' x q = I x q
def wG (M M' : am_I) : Prop := (∀ x m, (x = 37 ∨ 52 < x) → M' x m = M x m) ∧ (∀ y, ¬ y = 2 → ¬ y = 8 → ¬ y = 18 → ¬ y = 20 → ¬ y = 21 → ¬ y = 23 → M' 36 y = M 36 y)
theorem wF_refl (I : am_I) : wF I I := fun _ _ _ => rfl
theorem wG_refl (M : am_I) : wG M M := ⟨fun _ _ _ => rfl, fun _ _ _ _ _ _ _ => rfl⟩
theorem wF_trans {I I1 I2 : am_I} (h1 : wF I I1) (h2 : wF I1 I2) : wF I I2 := fun x q h => (h2 x q h).trans (h1 x q h)
theorem wG_trans {M M1 M2 : am_I} (h1 : wG M M1) (h2 : wG M1 M2) : wG M M2 := ⟨fun x q h => (h2.1 x q h).trans (h1.1 x q h), fun y a b c d e f => (h2.2 y a b c d e f).trans (h1.2 y a b c d e f)⟩
theorem wF_e {I I' : am_I} {p K : Nat} (h : eFI I I' p K) : wF I I' := fun x q g => h x q (by omega) (by omega) (by omega) (by omega)
theorem wG_e {M M' : am_I} {N K o : Nat} (h : eFM M M' N K o) : wG M M' := ⟨fun x q g => h.1 x q (by omega) (by omega) (by omega) (by omega), h.2⟩
theorem wF_st {I I' : am_I} {s : Nat} (h : stI I I' s) : wF I I' := fun x q g => h x q (by omega) (by omega) (by omega)
theorem wG_st {M M' : am_I} {T : Nat} (h : stM M M' T) : wG M M' := ⟨fun x q g => h.1 x q (by omega) (by omega) (by omega) (by omega), fun y a _ _ d _ f => h.2 y a d f⟩
theorem stI_refl (I : am_I) (s : Nat) : stI I I s := fun _ _ _ _ _ => rfl
theorem stM_refl (M : am_I) (T : Nat) : stM M M T := ⟨fun _ _ _ _ _ _ => rfl, fun _ _ _ _ => rfl⟩
theorem stI_trans {I I1 I2 : am_I} {s : Nat} (h1 : stI I I1 s) (h2 : stI I1 I2 s) : stI I I2 s := fun x q a b c => (h2 x q a b c).trans (h1 x q a b c)
theorem stM_trans {M M1 M2 : am_I} {T : Nat} (h1 : stM M M1 T) (h2 : stM M1 M2 T) : stM M M2 T := ⟨fun x q a b c d => (h2.1 x q a b c d).trans (h1.1 x q a b c d), fun y a b c => (h2.2 y a b c).trans (h1.2 y a b c)⟩
theorem wr_q (I : am_I) (x s y q : Nat) (v : Int32) (h : ¬ (y = x ∧ q = s)) : wr I x s v y q = I y q := by
  by_cases e : y = x
  · subst e
    exact wr_n2 _ _ _ _ _ (fun z => h ⟨rfl, z⟩)
  · exact wr_ap _ _ _ _ _ _ e
theorem stI_wr {I : am_I} {x s : Nat} {v : Int32} (h : x = 7 ∨ (9 ≤ x ∧ x ≤ 13)) : stI I (wr I x s v) s := fun y q _ _ c => wr_q _ _ _ _ _ _ (by omega)
theorem stI_ad {I : am_I} {q s : Nat} : stI I (adI I q) s := fun x z _ b _ => congrFun (adI_ne I q x b) z
theorem stM_wr {M : am_I} {x T : Nat} {v : Int32} (h : 41 ≤ x ∧ x ≤ 49 ∧ ¬ x = 42 ∧ ¬ x = 45) : stM M (wr M x T v) T := ⟨fun y q _ _ _ d => wr_q _ _ _ _ _ _ (by omega), fun y _ _ _ => wr_q _ _ _ _ _ _ (by omega)⟩
theorem stM_ad {M : am_I} {q T : Nat} : stM M (adM M q) T := ⟨fun x z a _ _ _ => congrFun (adM_ne M q x a) z, fun y _ b _ => adM_36 M q y b⟩
theorem stI_fr {I I' : am_I} {s : Nat} (h : frI I I') : stI I I' s := fun x z a b _ => congrFun (h x (by omega) (by omega) (by omega) (by omega) (by omega) b) z
theorem stM_fr {M M' : am_I} {T : Nat} (h : frM M M') : stM M M' T := ⟨fun x z a b c _ => congrFun (h.1 x a (by omega) (by omega) (by omega) c) z, fun y a b c => h.2 y a b c⟩
theorem rdS_wI {I M : am_I} {n p c x s : Nat} {v : Int32} (h : rdS I M n p c) (hx : 7 ≤ x ∧ x ≤ 17) : rdS (wr I x s v) M n p c := by
  obtain ⟨h1, h2, h3, h4, h5, h6⟩ := h
  refine ⟨rdI_wr h1 (by omega), h2, by rw [wr_ne _ _ _ _ _ (by omega)]; exact h3, h4, ?_, h6⟩
  exact tyR_congr (wr_ne _ _ _ _ _ (by omega)) (wr_ne _ _ _ _ _ (by omega)) (wr_ne _ _ _ _ _ (by omega)) (wr_ne _ _ _ _ _ (by omega)) (wr_ne _ _ _ _ _ (by omega)) rfl rfl rfl rfl rfl rfl h5
theorem rdS_wM {I M : am_I} {n p c x s : Nat} {v : Int32} (h : rdS I M n p c) (hx : 41 ≤ x) : rdS I (wr M x s v) n p c := by
  obtain ⟨h1, h2, h3, h4, h5, h6⟩ := h
  refine ⟨h1, rdM_wr h2 (by omega) (by omega), by rw [wr_ne _ _ _ _ _ (by omega)]; exact h3, h4, ?_, h6⟩
  exact tyR_congr rfl rfl rfl rfl rfl (wr_ap _ _ _ _ _ _ (by omega)) (wr_ap _ _ _ _ _ _ (by omega)) (wr_ap _ _ _ _ _ _ (by omega)) (wr_ne _ _ _ _ _ (by omega)) (wr_ne _ _ _ _ _ (by omega)) (wr_ne _ _ _ _ _ (by omega)) h5
theorem rdS_w6 {I M : am_I} {n p c y : Nat} {v : Int32} (h : rdS I M n p c) (hy : y = 8 ∨ y = 18 ∨ y = 21 ∨ y = 26) : rdS I (wr M 36 y v) n p c := by
  obtain ⟨h1, h2, h3, h4, h5, h6⟩ := h
  refine ⟨h1, ⟨(wr_n2 _ _ _ _ _ (by omega)).trans h2.1, (wr_n2 _ _ _ _ _ (by omega)).trans h2.2.1, h2.2.2.1, h2.2.2.2.1, ?_⟩, ?_, h4, ?_, h6⟩
  · rw [wr_ne _ _ _ _ _ (by omega)]
    exact h2.2.2.2.2
  · rw [wr_ne _ _ _ _ _ (by omega)]
    exact h3
  · exact tyR_congr rfl rfl rfl rfl rfl (wr_n2 _ _ _ _ _ (by omega)) (wr_n2 _ _ _ _ _ (by omega)) (wr_n2 _ _ _ _ _ (by omega)) (wr_ne _ _ _ _ _ (by omega)) (wr_ne _ _ _ _ _ (by omega)) (wr_ne _ _ _ _ _ (by omega)) h5
theorem rdS_ad {I M : am_I} {n p c q : Nat} (h : rdS I M n p c) (h1 : p ≤ q) (h2 : q ≤ n) : rdS (adI I q) (adM M q) n q c := rdS_mv h h1 h2 (adM_36 M _ 0 (by omega)) (adM_p M _) (adM_36 M _ 2 (by omega)) (adM_36 M _ 6 (by omega)) (adM_36 M _ 7 (by omega)) (adM_ne M _ 37 (by omega)) (adM_ne M _ 38 (by omega)) (adM_ne M _ 39 (by omega)) (adM_ne M _ 40 (by omega))
theorem tyX_wI {I M I' M' : am_I} {c x s : Nat} {v : Int32} (h : tyX I M I' M' c) (hx : 7 ≤ x) : tyX I M (wr I' x s v) M' c := by
  intro t ht
  rw [wr_ne _ _ _ 3 _ (by omega), wr_ne _ _ _ 4 _ (by omega), wr_ne _ _ _ 5 _ (by omega), wr_ne _ _ _ 6 _ (by omega)]
  exact h t ht
theorem tyX_wM {I M I' M' : am_I} {c x s : Nat} {v : Int32} (h : tyX I M I' M' c) (hx : ¬ x = 38 ∧ ¬ x = 39 ∧ ¬ x = 40) : tyX I M I' (wr M' x s v) c := by
  intro t ht
  rw [wr_ne _ _ _ 38 _ (by omega), wr_ne _ _ _ 39 _ (by omega), wr_ne _ _ _ 40 _ (by omega)]
  exact h t ht
theorem tyX_aI {I M I' M' : am_I} {c q : Nat} (h : tyX I M I' M' c) : tyX I M (adI I' q) M' c := tyX_wI (x := 18) (s := 3) (v := nI q) h (by omega)
theorem tyX_aM {I M I' M' : am_I} {c q : Nat} (h : tyX I M I' M' c) : tyX I M I' (adM M' q) c := tyX_wM (x := 36) (s := 20) (v := nI q) h (by omega)
theorem Mid_begin {I M : am_I} {n p c N K o : Nat} {v y par num : Int32} (h : rdE I M n p c N K o) (hpn : p < n) (ho : o < 20) : Mid I M (beI (adI I (p + 1)) p y) (bgM M N p v par num) n (p + 1) c (N + 1) K o o p N K c y par := by
  obtain ⟨a1, a2, a3, a4, a5, a6, a7, a8, a9, a10⟩ := h
  have hc := a1.2.2.2.2.1.1
  have iA : ∀ x q, ¬ x = 18 → (¬ q = p ∨ x < 8 ∨ 11 < x) → beI (adI I (p + 1)) p y x q = I x q := by
    intro x q h1 h2
    by_cases e : q = p
    · have : x < 8 ∨ 11 < x := by omega
      simp [beI, adI, va_up, upd, h1, show ¬ x = 8 by omega, show ¬ x = 9 by omega, show ¬ x = 10 by omega, show ¬ x = 11 by omega]
    · by_cases e8 : x = 8
      · subst e8
        simp [beI, adI, va_up, upd, e]
      by_cases e9 : x = 9
      · subst e9
        simp [beI, adI, va_up, upd, e]
      by_cases e10 : x = 10
      · subst e10
        simp [beI, adI, va_up, upd, e]
      by_cases e11 : x = 11
      · subst e11
        simp [beI, adI, va_up, upd, e]
      simp [beI, adI, va_up, h1, e8, e9, e10, e11]
  have mA : ∀ x m, ¬ x = 36 → (¬ m = N ∨ x < 41 ∨ 49 < x) → bgM M N p v par num x m = M x m := by
    intro x m h1 h2
    unfold bgM
    rw [wr_q _ _ _ _ _ _ (by omega), wr_q _ _ _ _ _ _ (by omega), wr_q _ _ _ _ _ _ (by omega), wr_q _ _ _ _ _ _ (by omega), wr_q _ _ _ _ _ _ (by omega), wr_q _ _ _ _ _ _ (by omega), wr_q _ _ _ _ _ _ (by omega)]
  have mB : ∀ z, ¬ z = 8 → ¬ z = 20 → bgM M N p v par num 36 z = M 36 z := by
    intro z h1 h2
    unfold bgM
    rw [wr_q _ _ _ _ _ _ (by omega), wr_q _ _ _ _ _ _ (by omega), wr_q _ _ _ _ _ _ (by omega), wr_q _ _ _ _ _ _ (by omega), wr_q _ _ _ _ _ _ (by omega), wr_q _ _ _ _ _ _ (by omega), wr_q _ _ _ _ _ _ (by omega)]
  have m8 : bgM M N p v par num 36 8 = nI (N + 1) := by simp [bgM, wr, va_up, upd]
  have m20 : bgM M N p v par num 36 20 = nI (p + 1) := by simp [bgM, wr, va_up, upd]
  have m42 : bgM M N p v par num 42 N = nI p := by simp [bgM, wr, va_up, upd]
  have m45 : bgM M N p v par num 45 N = par := by simp [bgM, wr, va_up, upd]
  have iF : ∀ x, (x < 8 ∨ 11 < x) → ¬ x = 18 → beI (adI I (p + 1)) p y x = I x := fun x h1 h2 => funext fun q => iA x q h2 (by omega)
  have mF : ∀ x, ¬ x = 36 → (x < 41 ∨ 49 < x) → bgM M N p v par num x = M x := fun x h1 h2 => funext fun q => mA x q h1 (by omega)
  have hS : rdS (beI (adI I (p + 1)) p y) (bgM M N p v par num) n (p + 1) c := by
    obtain ⟨h1, h2, h3, h4, h5, h6⟩ := a1
    have hn := h1.2.2.1
    refine ⟨⟨?_, ?_, hn, by omega, ?_⟩, ⟨(mB 0 (by omega) (by omega)).trans h2.1, m20, hn, by omega, ?_⟩, ?_, by omega, ?_, by omega⟩
    · rw [← h1.1]
      simp [beI, adI, va_up, upd]
    · simp [beI, adI, va_up, upd]
    · rw [iF 19 (by omega) (by omega)]
      exact h1.2.2.2.2
    · rw [mF 37 (by omega) (by omega)]
      exact h2.2.2.2.2
    · rw [mF 37 (by omega) (by omega), iF 19 (by omega) (by omega)]
      exact h3
    · exact tyR_congr (iF 2 (by omega) (by omega)) (iF 3 (by omega) (by omega)) (iF 4 (by omega) (by omega)) (iF 5 (by omega) (by omega)) (iF 6 (by omega) (by omega)) (mB 2 (by omega) (by omega)) (mB 6 (by omega) (by omega)) (mB 7 (by omega) (by omega)) (mF 38 (by omega) (by omega)) (mF 39 (by omega) (by omega)) (mF 40 (by omega) (by omega)) h5
  refine ⟨⟨hS, by omega, m8, (mB 21 (by omega) (by omega)).trans a4, a5, ?_, (mB 18 (by omega) (by omega)).trans a7, by omega, fun m hm => ?_, fun j hj => ?_⟩, .inl rfl, by omega, fun z => by omega, m42, by omega, by omega, by omega, ?_, ⟨?_, ?_⟩, ?_, hc, by omega, sg_nil, ?_, m45⟩
  · rw [iF 1 (by omega) (by omega)]
    exact a6
  · by_cases e : m = N
    · exact ⟨p, by omega, by rw [e]; exact m42⟩
    · obtain ⟨q, q1, q2⟩ := a9 m (by omega)
      exact ⟨q, by omega, (mA 42 m (by omega) (by omega)).trans q2⟩
  · obtain ⟨m, w1, w2⟩ := a10 j hj
    exact ⟨m, by omega, (mA 51 j (by omega) (by omega)).trans w2⟩
  · intro x q w1 w2 w3 w4
    exact iA x q w3 (by omega)
  · intro x m w1 w2 w3 w4
    exact mA x m w1 (by omega)
  · intro z w1 w2 w3 w4 w5 w6
    exact mB z w2 w4
  · intro t _
    rw [iF 3 (by omega) (by omega), iF 4 (by omega) (by omega), iF 5 (by omega) (by omega), iF 6 (by omega) (by omega), mF 38 (by omega) (by omega), mF 39 (by omega) (by omega), mF 40 (by omega) (by omega)]
    exact ⟨⟨rfl, rfl, rfl⟩, rfl, rfl, rfl, rfl⟩
  · simp [beI, adI, va_up, upd]
theorem Mid_open {I0 M0 I M : am_I} {n p c N K o s T K0 c0 : Nat} {y par : Int32} (h : Mid I0 M0 I M n p c N K o o s T K0 c0 y par) (ho : o < 20) : Mid I0 M0 I (wr (wr M 51 o (nI T)) 36 21 (nI (o + 1))) n p c N K (o + 1) o s T K0 c0 y par := by
  obtain ⟨b1, b2, b3, b4, b5, b6, b7, b8, b9, b10, b11, b12, b13, b14, b15, b16⟩ := h
  obtain ⟨a1, a2, a3, a4, a5, a6, a7, a8, a9, a10⟩ := b1
  have mA : ∀ x m, ¬ x = 36 → ¬ (x = 51 ∧ m = o) → wr (wr M 51 o (nI T)) 36 21 (nI (o + 1)) x m = M x m := by
    intro x m h1 h2
    rw [wr_q _ _ _ _ _ _ (by omega), wr_q _ _ _ _ _ _ (by omega)]
  have mB : ∀ z, ¬ z = 21 → wr (wr M 51 o (nI T)) 36 21 (nI (o + 1)) 36 z = M 36 z := by
    intro z h1
    rw [wr_q _ _ _ _ _ _ (by omega), wr_q _ _ _ _ _ _ (by omega)]
  have mC : wr (wr M 51 o (nI T)) 36 21 (nI (o + 1)) 51 o = nI T := by simp [wr, va_up, upd]
  have hp100 : p ≤ 100 := by
    have := a1.2.2.2.1
    have := a1.1.2.2.1
    omega
  have hg : ag I M I (wr (wr M 51 o (nI T)) 36 21 (nI (o + 1))) T N s p K0 K := ⟨fun x m a b c d => mA x m (by omega) (by omega), fun _ _ _ _ _ _ => rfl, fun k _ _ => ⟨mA 50 k (by omega) (by omega), rfl⟩, fun m _ => mA 42 m (by omega) (by omega)⟩
  have hX : ∀ c, tyX I M I (wr (wr M 51 o (nI T)) 36 21 (nI (o + 1))) c := fun c => tyX_wM (tyX_wM (tyX_refl I M c) (by omega)) (by omega)
  refine ⟨⟨rdS_w6 (rdS_wM a1 (by omega)) (by omega), a2, (mB 8 (by omega)).trans a3, wr_s _ _ _ _, by omega, a6, (mB 18 (by omega)).trans a7, by omega, fun m hm => ?_, fun j hj => ?_⟩, .inr rfl, b3, fun _ => mC, (mA 42 T (by omega) (by omega)).trans b5, b6, b7, b8, b9, ⟨?_, ?_⟩, tyX_trans b11 (hX c) b13, b12, b13, sg_X b14 hg (hX c) (by omega) (by omega) (by omega), b15, (mA 45 T (by omega) (by omega)).trans b16⟩
  · obtain ⟨q, q1, q2⟩ := a9 m hm
    exact ⟨q, q1, (mA 42 m (by omega) (by omega)).trans q2⟩
  · by_cases e : j = o
    · exact ⟨T, b7, by rw [e]; exact mC⟩
    · obtain ⟨m, w1, w2⟩ := a10 j (by omega)
      exact ⟨m, w1, (mA 51 j (by omega) (by omega)).trans w2⟩
  · intro x m w1 w2 w3 w4
    exact (mA x m w1 (by omega)).trans (b10.1 x m w1 w2 w3 w4)
  · intro z w1 w2 w3 w4 w5 w6
    exact (mB z w5).trans (b10.2 z w1 w2 w3 w4 w5 w6)
/-- the parent, as both sides have it -/
def yp (M : am_I) (N : Nat) (y par : Int32) : Prop := (par = -1 ∧ y = -1) ∨ ∃ m', m' < N ∧ par = nI m' ∧ y = M 42 m'
theorem nd_mk {I0 M0 I M : am_I} {n p c N K O o s T K0 c0 : Nat} {y par : Int32} (h : Mid I0 M0 I M n p c N K O o s T K0 c0 y par) (hy : yp M0 T y par) (o2 : Nat) (h1 : M 41 T = nI o2) (h2 : I 7 s = nI o2) (h3 : o2 ≤ 13) (h4 : o2 ≤ 3 → I 12 s = M 43 T) (h5 : o2 = 1 → M 43 T = 0 ∨ M 43 T = 1) (h6 : o2 = 2 ∨ o2 = 3 → isL (M 43 T)) (h7 : o2 = 3 ∨ o2 = 12 → sa I M T s c) (h8 : 3 ≤ o2 → pa I M T s N 46 9) (h9 : 4 ≤ o2 → o2 ≤ 9 → pa I M T s N 47 10) (h10 : o2 = 9 → pa I M T s N 48 11) : nd I M N c T := by
  obtain ⟨b1, b2, b3, b4, b5, b6, b7, b8, b9, b10, b11, b12, b13, b14, b15, b16⟩ := h
  have hp100 : p ≤ 100 := by
    have := b1.1.2.2.2.1
    have := b1.1.1.2.2.1
    omega
  refine ⟨s, o2, b5, by omega, h1, h2, h3, ?_, h4, h5, h6, h7, h8, h9, h10⟩
  rcases hy with ⟨e1, e2⟩ | ⟨m', e1, e2, e3⟩
  · exact .inl ⟨b16.trans e1, b15.trans e2⟩
  · refine .inr ⟨m', e1, b16.trans e2, ?_⟩
    rw [b15, e3]
    exact (b10.1 42 m' (by omega) (by omega) (by omega) (by omega)).symm
def eFail (e : Nat) (I M : am_I) (N D : Nat) (y : Int32) : Prop := ∃ I' M', wF I I' ∧ wG M M' ∧ tyX I M I' M' 5 ∧ (∀ (scr : Nat → Int32) (L F d : Nat) (J : am_J) (M0 : am_I), am_r scr L (F + 63000) (d + 40 + 3 * e) 61 [.ref 19, .int y, .int (nI D)] (hp I J M0) = some (some (.int (-1)), hp I' J M0, 0, 0)) ∧ (∀ (scr : Nat → Int32) (L F d : Nat) (I0 : am_I) (J : am_J), hO scr L F d I0 J (400 * (101 - N) + 400) N M (some (some (.int 0), hp I0 J M', 0, 0)))
def eGood (e : Nat) (I M : am_I) (n p c N K o D : Nat) (y par : Int32) (I' M' : am_I) (p' c' N' K' : Nat) : Prop := ePure e I M n p c N K o y par I' M' p' c' N' K' ∧ (∀ (scr : Nat → Int32) (L F d : Nat) (J : am_J) (M0 : am_I), am_r scr L (F + 63000) (d + 40 + 3 * e) 61 [.ref 19, .int y, .int (nI D)] (hp I J M0) = some (some (.int (nI p)), hp I' J M0, 0, 0)) ∧ (∀ (scr : Nat → Int32) (L F d : Nat) (I0 : am_I) (J : am_J) (n0 : Nat) (R : Option am_X), hC scr L F d I0 J n0 (N' - 1) N M' R → hO scr L F d I0 J (n0 + 100 * (2 * (N' - N) - 1)) N M R)
def eAll (e : Nat) : Prop := ∀ (I M : am_I) (n p c N K o D : Nat) (y par : Int32), rdE I M n p c N K o → D + e = 21 → D = o + 1 → isP M o par → yp M N y par → eFail e I M N D y ∨ ∃ (I' M' : am_I) (p' c' N' K' : Nat), eGood e I M n p c N K o D y par I' M' p' c' N' K'
