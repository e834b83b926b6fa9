/-! Reading an expression: leaves. -/
theorem i32_as (a b c : Int32) : a + (b - c) = a + b - c := by
  rw [Int32.sub_eq_add_neg, Int32.sub_eq_add_neg, Int32.add_assoc]
theorem ex_T {e : Nat} {I M : am_I} {n p c N K o D : Nat} {y par : Int32} (hE : rdE I M n p c N K o) (hD : D + (e + 1) = 21) (hD0 : D = o + 1) (hP : isP M o par) (hy : yp M N y par) (hpn : p < n) (hx : I 19 p = 84) : eFail (e + 1) I M N D y ∨ ∃ (I' M' : am_I) (p' c' N' K' : Nat), eGood (e + 1) I M n p c N K o D y par I' M' p' c' N' K' := by
  have hT : M 37 = I 19 := hE.1.2.2.1
  have hn100 := hE.1.1.2.2.1
  have htx : tx (M 37) n p = 84 := by
    rw [hT]
    simp [tx, hpn, hx]
  have hcN := hE.2.1
  have hc5 := hE.1.2.2.2.2.1.1
  have m0 := Mid_begin (v := 1) (y := y) (par := par) (num := 1) hE hpn (by omega)
  have hX : tyX (beI (adI I (p + 1)) p y) (bgM M N p 1 par 1) (wr (wr (beI (adI I (p + 1)) p y) 7 p 1) 12 p 1) (bgM M N p 1 par 1) c := tyX_wI (tyX_wI (tyX_refl _ _ _) (by omega)) (by omega)
  have m1 := Mid_step m0 (rdS_wI (x := 12) (s := p) (v := 1) (rdS_wI (x := 7) (s := p) (v := 1) m0.1.1 (by omega)) (by omega)) (by omega) (Nat.le_refl _) (by omega) hX (stI_trans (stI_wr (by omega)) (stI_wr (by omega))) (stM_refl _ _)
  have e41 : (bgM M N p 1 par 1) 41 N = 1 := by simp [bgM, wr, va_up, upd]
  have e7 : (wr (wr (beI (adI I (p + 1)) p y) 7 p 1) 12 p 1) 7 p = 1 := by simp [beI, adI, wr, va_up, upd]
  have e43 : (bgM M N p 1 par 1) 43 N = 1 := by simp [bgM, wr, va_up, upd]
  have e12 : (wr (wr (beI (adI I (p + 1)) p y) 7 p 1) 12 p 1) 12 p = 1 := by simp [wr, va_up, upd]
  have hnd := nd_mk m1 hy 1 e41 e7 (by omega) (fun _ => e12.trans e43.symm) (fun z => .inr e43) (fun z => by omega) (fun z => by omega) (fun z => by omega) (fun z => by omega) (fun z => by omega)
  have htw : tw (wr (wr (beI (adI I (p + 1)) p y) 7 p 1) 12 p 1) (bgM M N p 1 par 1) (N + 1) c (e + 1) (p + 1 - p) N := ⟨by omega, by omega, 1, e41, by omega, fun z => by omega, fun z => by omega, fun z => by omega, fun z => by omega⟩
  refine .inr ⟨_, _, p + 1, c, N + 1, K + 1, close_l m1 hnd htw (by omega) (dn_1 (o := 1) e41 (by omega) (by omega)), fun scr L F d J M0 => ?_, fun scr L F d I0 J n0 R key => ?_⟩
  · have k1 := c62_T scr L F (d + 32 + 3 * e) (beI (adI I (p + 1)) p y) J M0 p (by omega) 84 rfl
    have k3 := c61_leaf_g scr L F (d + 13 + 3 * e) I J M0 n p D y hE.1.1 hpn (by omega) 84 hx (by decide) (by decide) (by decide) (by decide) (by decide) (by decide) (by decide) (by decide) _ K m1.1.2.2.2.2.2.1 (by have := m1.2.2.1; omega) (by rw [show d + 13 + 3 * e + 29 = d + 32 + 3 * e + 10 by omega]; exact k1)
    rw [show d + 40 + 3 * (e + 1) = d + 13 + 3 * e + 30 by omega]
    exact k3
  · have k1 := b106_T scr L F d I0 J M n p N o 84 hE.1.2.1 htx hE.2.2.1 (by omega) hE.2.2.2.1 (by omega) par hP rfl
    refine hO_le (N := n0 + 100) (by omega) ?_
    refine q_leaf scr L F d I0 J M _ N n0 (by omega) R k1 N K ?_ hE.2.2.1 (by omega) ?_ (by have := m1.2.2.1; omega) ?_
    · exact m1.1.2.2.2.1.trans hE.2.2.2.1.symm
    · exact m1.1.2.2.2.2.2.2.1
    · rw [show N + 1 - 1 = N by omega] at key
      exact key
theorem ex_F {e : Nat} {I M : am_I} {n p c N K o D : Nat} {y par : Int32} (hE : rdE I M n p c N K o) (hD : D + (e + 1) = 21) (hD0 : D = o + 1) (hP : isP M o par) (hy : yp M N y par) (hpn : p < n) (hx : I 19 p = 70) : eFail (e + 1) I M N D y ∨ ∃ (I' M' : am_I) (p' c' N' K' : Nat), eGood (e + 1) I M n p c N K o D y par I' M' p' c' N' K' := by
  have hT : M 37 = I 19 := hE.1.2.2.1
  have hn100 := hE.1.1.2.2.1
  have htx : tx (M 37) n p = 70 := by
    rw [hT]
    simp [tx, hpn, hx]
  have hcN := hE.2.1
  have hc5 := hE.1.2.2.2.2.1.1
  have m0 := Mid_begin (v := 1) (y := y) (par := par) (num := 0) hE hpn (by omega)
  have hX : tyX (beI (adI I (p + 1)) p y) (bgM M N p 1 par 0) (wr (wr (beI (adI I (p + 1)) p y) 7 p 1) 12 p 0) (bgM M N p 1 par 0) c := tyX_wI (tyX_wI (tyX_refl _ _ _) (by omega)) (by omega)
  have m1 := Mid_step m0 (rdS_wI (x := 12) (s := p) (v := 0) (rdS_wI (x := 7) (s := p) (v := 1) m0.1.1 (by omega)) (by omega)) (by omega) (Nat.le_refl _) (by omega) hX (stI_trans (stI_wr (by omega)) (stI_wr (by omega))) (stM_refl _ _)
  have e41 : (bgM M N p 1 par 0) 41 N = 1 := by simp [bgM, wr, va_up, upd]
  have e7 : (wr (wr (beI (adI I (p + 1)) p y) 7 p 1) 12 p 0) 7 p = 1 := by simp [beI, adI, wr, va_up, upd]
  have e43 : (bgM M N p 1 par 0) 43 N = 0 := by simp [bgM, wr, va_up, upd]
  have e12 : (wr (wr (beI (adI I (p + 1)) p y) 7 p 1) 12 p 0) 12 p = 0 := by simp [wr, va_up, upd]
  have hnd := nd_mk m1 hy 1 e41 e7 (by omega) (fun _ => e12.trans e43.symm) (fun z => .inl e43) (fun z => by omega) (fun z => by omega) (fun z => by omega) (fun z => by omega) (fun z => by omega)
  have htw : tw (wr (wr (beI (adI I (p + 1)) p y) 7 p 1) 12 p 0) (bgM M N p 1 par 0) (N + 1) c (e + 1) (p + 1 - p) N := ⟨by omega, by omega, 1, e41, by omega, fun z => by omega, fun z => by omega, fun z => by omega, fun z => by omega⟩
  refine .inr ⟨_, _, p + 1, c, N + 1, K + 1, close_l m1 hnd htw (by omega) (dn_1 (o := 1) e41 (by omega) (by omega)), fun scr L F d J M0 => ?_, fun scr L F d I0 J n0 R key => ?_⟩
  · have k1 := c62_F scr L F (d + 32 + 3 * e) (beI (adI I (p + 1)) p y) J M0 p (by omega) 70 rfl
    have k3 := c61_leaf_g scr L F (d + 13 + 3 * e) I J M0 n p D y hE.1.1 hpn (by omega) 70 hx (by decide) (by decide) (by decide) (by decide) (by decide) (by decide) (by decide) (by decide) _ K m1.1.2.2.2.2.2.1 (by have := m1.2.2.1; omega) (by rw [show d + 13 + 3 * e + 29 = d + 32 + 3 * e + 10 by omega]; exact k1)
    rw [show d + 40 + 3 * (e + 1) = d + 13 + 3 * e + 30 by omega]
    exact k3
  · have k1 := b106_F scr L F d I0 J M n p N o 70 hE.1.2.1 htx hE.2.2.1 (by omega) hE.2.2.2.1 (by omega) par hP rfl
    refine hO_le (N := n0 + 100) (by omega) ?_
    refine q_leaf scr L F d I0 J M _ N n0 (by omega) R k1 N K ?_ hE.2.2.1 (by omega) ?_ (by have := m1.2.2.1; omega) ?_
    · exact m1.1.2.2.2.1.trans hE.2.2.2.1.symm
    · exact m1.1.2.2.2.2.2.2.1
    · rw [show N + 1 - 1 = N by omega] at key
      exact key
theorem ex_v {e : Nat} {I M : am_I} {n p c N K o D : Nat} {y par : Int32} (hE : rdE I M n p c N K o) (hD : D + (e + 1) = 21) (hD0 : D = o + 1) (hP : isP M o par) (hy : yp M N y par) (hpn : p < n) (x : Int32) (hx : I 19 p = x) (x1 : ¬ x = 33) (x2 : ¬ x = 36) (x3 : ¬ x = 40) (x4 : ¬ x = 60) (x5 : ¬ x = 64) (x6 : ¬ x = 91) (x7 : ¬ x = 92) (x8 : ¬ x = 123) (x9 : ¬ x = 84) (x10 : ¬ x = 70) (hd : ¬ isD x) (hl : isL x) : eFail (e + 1) I M N D y ∨ ∃ (I' M' : am_I) (p' c' N' K' : Nat), eGood (e + 1) I M n p c N K o D y par I' M' p' c' N' K' := by
  have hT : M 37 = I 19 := hE.1.2.2.1
  have hn100 := hE.1.1.2.2.1
  have htx : tx (M 37) n p = x := by
    rw [hT]
    simp [tx, hpn, hx]
  have hcN := hE.2.1
  have hc5 := hE.1.2.2.2.2.1.1
  have m0 := Mid_begin (v := 2) (y := y) (par := par) (num := x) hE hpn (by omega)
  have hX : tyX (beI (adI I (p + 1)) p y) (bgM M N p 2 par x) (wr (wr (beI (adI I (p + 1)) p y) 7 p 2) 12 p x) (bgM M N p 2 par x) c := tyX_wI (tyX_wI (tyX_refl _ _ _) (by omega)) (by omega)
  have m1 := Mid_step m0 (rdS_wI (x := 12) (s := p) (v := x) (rdS_wI (x := 7) (s := p) (v := 2) m0.1.1 (by omega)) (by omega)) (by omega) (Nat.le_refl _) (by omega) hX (stI_trans (stI_wr (by omega)) (stI_wr (by omega))) (stM_refl _ _)
  have e41 : (bgM M N p 2 par x) 41 N = 2 := by simp [bgM, wr, va_up, upd]
  have e7 : (wr (wr (beI (adI I (p + 1)) p y) 7 p 2) 12 p x) 7 p = 2 := by simp [beI, adI, wr, va_up, upd]
  have e43 : (bgM M N p 2 par x) 43 N = x := by simp [bgM, wr, va_up, upd]
  have e12 : (wr (wr (beI (adI I (p + 1)) p y) 7 p 2) 12 p x) 12 p = x := by simp [wr, va_up, upd]
  have hnd := nd_mk m1 hy 2 e41 e7 (by omega) (fun _ => e12.trans e43.symm) (fun z => by omega) (fun z => by rw [e43]; exact hl) (fun z => by omega) (fun z => by omega) (fun z => by omega) (fun z => by omega)
  have htw : tw (wr (wr (beI (adI I (p + 1)) p y) 7 p 2) 12 p x) (bgM M N p 2 par x) (N + 1) c (e + 1) (p + 1 - p) N := ⟨by omega, by omega, 2, e41, by omega, fun z => by omega, fun z => by omega, fun z => by omega, fun z => by omega⟩
  refine .inr ⟨_, _, p + 1, c, N + 1, K + 1, close_l m1 hnd htw (by omega) (dn_1 (o := 2) e41 (by omega) (by omega)), fun scr L F d J M0 => ?_, fun scr L F d I0 J n0 R key => ?_⟩
  · have k1 := c62_v scr L F (d + 32 + 3 * e) (beI (adI I (p + 1)) p y) J M0 p (by omega) x x9 x10 hl
    have k3 := c61_leaf_g scr L F (d + 13 + 3 * e) I J M0 n p D y hE.1.1 hpn (by omega) x hx x1 x2 x3 x4 x5 x6 x7 x8 _ K m1.1.2.2.2.2.2.1 (by have := m1.2.2.1; omega) (by rw [show d + 13 + 3 * e + 29 = d + 32 + 3 * e + 10 by omega]; exact k1)
    rw [show d + 40 + 3 * (e + 1) = d + 13 + 3 * e + 30 by omega]
    exact k3
  · have k1 := b106_v scr L F d I0 J M n p N o x hE.1.2.1 htx hE.2.2.1 (by omega) hE.2.2.2.1 (by omega) par hP x9 x10 hd hl
    refine hO_le (N := n0 + 100) (by omega) ?_
    refine q_leaf scr L F d I0 J M _ N n0 (by omega) R k1 N K ?_ hE.2.2.1 (by omega) ?_ (by have := m1.2.2.1; omega) ?_
    · exact m1.1.2.2.2.1.trans hE.2.2.2.1.symm
    · exact m1.1.2.2.2.2.2.2.1
    · rw [show N + 1 - 1 = N by omega] at key
      exact key
theorem hB_le {scr : Nat → Int32} {L F d pc : Nat} {I : am_I} {J : am_J} {M : am_I} {lv : am_L} {f0 f1 : Nat} {R : Option am_X} (h : f0 ≤ f1) (k : hB scr L F d pc I J M lv f0 R) : hB scr L F d pc I J M lv f1 R := fun f hf => k f (by omega)
theorem isD_lt {t : Nat → Int32} {n p : Nat} (h : isD (tx t n p)) : p < n := by
  unfold tx at h
  split at h
  · assumption
  · exact absurd h (by unfold isD; decide)
theorem ex_d0 {e : Nat} {I M : am_I} {n p c N K o D : Nat} {y par : Int32} (hE : rdE I M n p c N K o) (hD : D + (e + 1) = 21) (hD0 : D = o + 1) (hP : isP M o par) (hy : yp M N y par) (hpn : p < n) (x : Int32) (hx : I 19 p = x) (x1 : ¬ x = 33) (x2 : ¬ x = 36) (x3 : ¬ x = 40) (x4 : ¬ x = 60) (x5 : ¬ x = 64) (x6 : ¬ x = 91) (x7 : ¬ x = 92) (x8 : ¬ x = 123) (x9 : ¬ x = 84) (x10 : ¬ x = 70) (hl : ¬ isL x) (hd : isD x) (hz : ¬ isD (tx (I 19) n (p + 1))) : eFail (e + 1) I M N D y ∨ ∃ (I' M' : am_I) (p' c' N' K' : Nat), eGood (e + 1) I M n p c N K o D y par I' M' p' c' N' K' := by
  have hT : M 37 = I 19 := hE.1.2.2.1
  have hn100 := hE.1.1.2.2.1
  have htx : tx (M 37) n p = x := by
    rw [hT]
    simp [tx, hpn, hx]
  have hcN := hE.2.1
  have hc5 := hE.1.2.2.2.2.1.1
  have i19 : (beI (adI I (p + 1)) p y) 19 = I 19 := by simp [beI, adI, va_up]
  have r0 : rdI (beI (adI I (p + 1)) p y) n (p + 1) := (Mid_begin (v := 0) (y := y) (par := par) (num := x) hE hpn (by omega)).1.1.1
  have r1 : rdM (bgM M N p 0 par x) n (p + 1) := (Mid_begin (v := 0) (y := y) (par := par) (num := x) hE hpn (by omega)).1.1.2.1
  have m37 : (bgM M N p 0 par x) 37 = I 19 := by
    rw [← hT]
    simp [bgM, wr, va_up]
  have m0 := Mid_begin (v := 0) (y := y) (par := par) (num := x) hE hpn (by omega)
  have hX : tyX (beI (adI I (p + 1)) p y) (bgM M N p 0 par x) (wr (wr (beI (adI I (p + 1)) p y) 7 p 0) 12 p (x - 48)) (wr (bgM M N p 0 par x) 43 N (x - 48)) c := tyX_wI (tyX_wI (tyX_wM (tyX_refl _ _ _) (by omega)) (by omega)) (by omega)
  have m1 := Mid_step m0 (rdS_wI (x := 12) (s := p) (v := (x - 48)) (rdS_wI (x := 7) (s := p) (v := 0) (rdS_wM (x := 43) (s := N) (v := x - 48) m0.1.1 (by omega)) (by omega)) (by omega)) (by omega) (Nat.le_refl _) (by omega) hX (stI_trans (stI_wr (by omega)) (stI_wr (by omega))) (stM_wr (by omega))
  have e41 : (wr (bgM M N p 0 par x) 43 N (x - 48)) 41 N = 0 := by simp [bgM, wr, va_up, upd]
  have e7 : (wr (wr (beI (adI I (p + 1)) p y) 7 p 0) 12 p (x - 48)) 7 p = 0 := by simp [beI, adI, wr, va_up, upd]
  have e43 : (wr (bgM M N p 0 par x) 43 N (x - 48)) 43 N = (x - 48) := wr_s _ _ _ _
  have e12 : (wr (wr (beI (adI I (p + 1)) p y) 7 p 0) 12 p (x - 48)) 12 p = (x - 48) := wr_s _ _ _ _
  have hnd := nd_mk m1 hy 0 e41 e7 (by omega) (fun _ => e12.trans e43.symm) (fun z => by omega) (fun z => by omega) (fun z => by omega) (fun z => by omega) (fun z => by omega) (fun z => by omega)
  have htw : tw (wr (wr (beI (adI I (p + 1)) p y) 7 p 0) 12 p (x - 48)) (wr (bgM M N p 0 par x) 43 N (x - 48)) (N + 1) c (e + 1) (p + 1 - p) N := ⟨by omega, by omega, 0, e41, by omega, fun z => by omega, fun z => by omega, fun z => by omega, fun z => by omega⟩
  refine .inr ⟨_, _, p + 1, c, N + 1, K + 1, close_l m1 hnd htw (by omega) (dn_1 (o := 0) e41 (by omega) (by omega)), fun scr L F d J M0 => ?_, fun scr L F d I0 J n0 R key => ?_⟩
  · have k1 := c62_d0 scr L F (d + 32 + 3 * e) (beI (adI I (p + 1)) p y) J M0 p (by omega) x x9 x10 hl hd n (p + 1) r0 (by rw [i19]; exact hz)
    have k3 := c61_leaf_g scr L F (d + 13 + 3 * e) I J M0 n p D y hE.1.1 hpn (by omega) x hx x1 x2 x3 x4 x5 x6 x7 x8 _ K m1.1.2.2.2.2.2.1 (by have := m1.2.2.1; omega) (by rw [show d + 13 + 3 * e + 29 = d + 32 + 3 * e + 10 by omega]; exact k1)
    rw [show d + 40 + 3 * (e + 1) = d + 13 + 3 * e + 30 by omega]
    exact k3
  · have kv := o105_d scr L (F + 62800) (d + 27) I0 J M x hd
    rw [show F + 62800 + 200 = F + 63000 by omega, show d + 27 + 2 = d + 29 by omega] at kv
    have k0 := m0.1.1.2.1
    have k1 : am_r scr L (F + 63000) (d + 30) 106 [.ref 37] (hp I0 J M) = some (some (.int 1), hp I0 J (wr (bgM M N p 0 par x) 43 N (x - 48)), 0, 0) := by
      refine b106_pre scr L F d I0 J M n p N o x hE.1.2.1 htx hE.2.2.1 (by omega) hE.2.2.2.1 (by omega) par hP 0 kv (by decide) x9 x10 _ ?_
      refine hB_le (show 100 + 100 ≤ 62900 by omega) (b106_dg scr L F d I0 J _ N 100 x (by omega) (by omega) _ ?_)
      exact b106_de0 scr L F d I0 J _ n (p + 1) N x (rdM_wr r1 (by omega) (by omega)) (by omega) (by rw [wr_ne _ _ _ _ _ (by omega), m37]; exact hz)
    refine hO_le (N := n0 + 100) (by omega) ?_
    refine q_leaf scr L F d I0 J M _ N n0 (by omega) R k1 N K ?_ hE.2.2.1 (by omega) ?_ (by have := m1.2.2.1; omega) ?_
    · exact m1.1.2.2.2.1.trans hE.2.2.2.1.symm
    · exact m1.1.2.2.2.2.2.2.1
    · rw [show N + 1 - 1 = N by omega] at key
      exact key
theorem ex_d1 {e : Nat} {I M : am_I} {n p c N K o D : Nat} {y par : Int32} (hE : rdE I M n p c N K o) (hD : D + (e + 1) = 21) (hD0 : D = o + 1) (hP : isP M o par) (hy : yp M N y par) (hpn : p < n) (x : Int32) (hx : I 19 p = x) (x1 : ¬ x = 33) (x2 : ¬ x = 36) (x3 : ¬ x = 40) (x4 : ¬ x = 60) (x5 : ¬ x = 64) (x6 : ¬ x = 91) (x7 : ¬ x = 92) (x8 : ¬ x = 123) (x9 : ¬ x = 84) (x10 : ¬ x = 70) (hl : ¬ isL x) (hd : isD x) (hz : isD (tx (I 19) n (p + 1))) (hw : ¬ isD (tx (I 19) n (p + 1 + 1))) : eFail (e + 1) I M N D y ∨ ∃ (I' M' : am_I) (p' c' N' K' : Nat), eGood (e + 1) I M n p c N K o D y par I' M' p' c' N' K' := by
  have hT : M 37 = I 19 := hE.1.2.2.1
  have hn100 := hE.1.1.2.2.1
  have htx : tx (M 37) n p = x := by
    rw [hT]
    simp [tx, hpn, hx]
  have hcN := hE.2.1
  have hc5 := hE.1.2.2.2.2.1.1
  have i19 : (beI (adI I (p + 1)) p y) 19 = I 19 := by simp [beI, adI, va_up]
  have r0 : rdI (beI (adI I (p + 1)) p y) n (p + 1) := (Mid_begin (v := 0) (y := y) (par := par) (num := x) hE hpn (by omega)).1.1.1
  have r1 : rdM (bgM M N p 0 par x) n (p + 1) := (Mid_begin (v := 0) (y := y) (par := par) (num := x) hE hpn (by omega)).1.1.2.1
  have m37 : (bgM M N p 0 par x) 37 = I 19 := by
    rw [← hT]
    simp [bgM, wr, va_up]
  have hp1 := isD_lt hz
  have m0 := Mid_begin (v := 0) (y := y) (par := par) (num := x) hE hpn (by omega)
  have hX : tyX (beI (adI I (p + 1)) p y) (bgM M N p 0 par x) (wr (wr (adI (beI (adI I (p + 1)) p y) (p + 1 + 1)) 7 p 0) 12 p (10 * (x - 48) + (tx (I 19) n (p + 1) - 48))) (wr (wr (wr (bgM M N p 0 par x) 43 N (x - 48)) 43 N (10 * (x - 48) + tx (I 19) n (p + 1) - 48)) 36 20 (nI (p + 1 + 1))) c := tyX_wI (tyX_wI (tyX_aI (tyX_aM (tyX_wM (tyX_wM (tyX_refl _ _ _) (by omega)) (by omega)))) (by omega)) (by omega)
  have m1 := Mid_step m0 (rdS_wI (x := 12) (s := p) (v := (10 * (x - 48) + (tx (I 19) n (p + 1) - 48))) (rdS_wI (x := 7) (s := p) (v := 0) (rdS_ad (rdS_wM (x := 43) (s := N) (v := (10 * (x - 48) + tx (I 19) n (p + 1) - 48)) (rdS_wM (x := 43) (s := N) (v := x - 48) m0.1.1 (by omega)) (by omega)) (q := p + 1 + 1) (by omega) (by omega)) (by omega)) (by omega)) (by omega) (Nat.le_refl _) (by omega) hX (stI_trans (stI_ad (q := p + 1 + 1)) (stI_trans (stI_wr (by omega)) (stI_wr (by omega)))) (stM_trans (stM_wr (by omega)) (stM_trans (stM_wr (by omega)) (stM_ad (q := p + 1 + 1))))
  have e41 : (wr (wr (wr (bgM M N p 0 par x) 43 N (x - 48)) 43 N (10 * (x - 48) + tx (I 19) n (p + 1) - 48)) 36 20 (nI (p + 1 + 1))) 41 N = 0 := by simp [bgM, wr, va_up, upd]
  have e7 : (wr (wr (adI (beI (adI I (p + 1)) p y) (p + 1 + 1)) 7 p 0) 12 p (10 * (x - 48) + (tx (I 19) n (p + 1) - 48))) 7 p = 0 := by simp [beI, adI, wr, va_up, upd]
  have e43 : (wr (wr (wr (bgM M N p 0 par x) 43 N (x - 48)) 43 N (10 * (x - 48) + tx (I 19) n (p + 1) - 48)) 36 20 (nI (p + 1 + 1))) 43 N = (10 * (x - 48) + tx (I 19) n (p + 1) - 48) := by rw [wr_q _ _ _ _ _ _ (by omega), wr_s]
  have e12 : (wr (wr (adI (beI (adI I (p + 1)) p y) (p + 1 + 1)) 7 p 0) 12 p (10 * (x - 48) + (tx (I 19) n (p + 1) - 48))) 12 p = (10 * (x - 48) + (tx (I 19) n (p + 1) - 48)) := wr_s _ _ _ _
  have hnd := nd_mk m1 hy 0 e41 e7 (by omega) (fun _ => e12.trans ((i32_as _ _ _).trans e43.symm)) (fun z => by omega) (fun z => by omega) (fun z => by omega) (fun z => by omega) (fun z => by omega) (fun z => by omega)
  have htw : tw (wr (wr (adI (beI (adI I (p + 1)) p y) (p + 1 + 1)) 7 p 0) 12 p (10 * (x - 48) + (tx (I 19) n (p + 1) - 48))) (wr (wr (wr (bgM M N p 0 par x) 43 N (x - 48)) 43 N (10 * (x - 48) + tx (I 19) n (p + 1) - 48)) 36 20 (nI (p + 1 + 1))) (N + 1) c (e + 1) ((p + 1 + 1) - p) N := ⟨by omega, by omega, 0, e41, by omega, fun z => by omega, fun z => by omega, fun z => by omega, fun z => by omega⟩
  refine .inr ⟨_, _, (p + 1 + 1), c, N + 1, K + 1, close_l m1 hnd htw (by omega) (dn_1 (o := 0) e41 (by omega) (by omega)), fun scr L F d J M0 => ?_, fun scr L F d I0 J n0 R key => ?_⟩
  · have k1 := (by have kk := c62_d1 scr L F (d + 32 + 3 * e) (beI (adI I (p + 1)) p y) J M0 p (by omega) x x9 x10 hl hd n (p + 1) r0 (by rw [i19]; exact hz) (by rw [i19]; exact hw); rw [i19] at kk; exact kk : am_r scr L (F + 63000) (d + 32 + 3 * e + 10) 62 [.ref 19, .int x, .int (nI p)] (hp (beI (adI I (p + 1)) p y) J M0) = some (some (.int 1), hp (wr (wr (adI (beI (adI I (p + 1)) p y) (p + 1 + 1)) 7 p 0) 12 p (10 * (x - 48) + (tx (I 19) n (p + 1) - 48))) J M0, 0, 0))
    have k3 := c61_leaf_g scr L F (d + 13 + 3 * e) I J M0 n p D y hE.1.1 hpn (by omega) x hx x1 x2 x3 x4 x5 x6 x7 x8 _ K m1.1.2.2.2.2.2.1 (by have := m1.2.2.1; omega) (by rw [show d + 13 + 3 * e + 29 = d + 32 + 3 * e + 10 by omega]; exact k1)
    rw [show d + 40 + 3 * (e + 1) = d + 13 + 3 * e + 30 by omega]
    exact k3
  · have kv := o105_d scr L (F + 62800) (d + 27) I0 J M x hd
    rw [show F + 62800 + 200 = F + 63000 by omega, show d + 27 + 2 = d + 29 by omega] at kv
    have k0 := m0.1.1.2.1
    have k1 : am_r scr L (F + 63000) (d + 30) 106 [.ref 37] (hp I0 J M) = some (some (.int 1), hp I0 J (wr (wr (wr (bgM M N p 0 par x) 43 N (x - 48)) 43 N (10 * (x - 48) + tx (I 19) n (p + 1) - 48)) 36 20 (nI (p + 1 + 1))), 0, 0) := by
      refine b106_pre scr L F d I0 J M n p N o x hE.1.2.1 htx hE.2.2.1 (by omega) hE.2.2.2.1 (by omega) par hP 0 kv (by decide) x9 x10 _ ?_
      refine hB_le (show 300 + 100 ≤ 62900 by omega) (b106_dg scr L F d I0 J _ N 300 x (by omega) (by omega) _ ?_)
      have kt : tx (wr (bgM M N p 0 par x) 43 N (x - 48) 37) n (p + 1) = tx (I 19) n (p + 1) := by rw [wr_ne _ _ _ _ _ (by omega), m37]
      have kz := b106_ds0 scr L F d I0 J (wr (bgM M N p 0 par x) 43 N (x - 48)) n (p + 1) N x (rdM_wr r1 (by omega) (by omega)) (by omega) (by rw [kt]; exact hz) 200 (some (some (.int 1), hp I0 J (wr (wr (wr (bgM M N p 0 par x) 43 N (x - 48)) 43 N (10 * (x - 48) + tx (I 19) n (p + 1) - 48)) 36 20 (nI (p + 1 + 1))), 0, 0))
      rw [kt, wr_s] at kz
      refine kz (hB_le (show 100 ≤ 200 by omega) ?_)
      refine b106_de1 scr L F d I0 J _ n (p + 1 + 1) N x ?_ (by omega) ?_
      · exact rdM_ad (rdM_wr (rdM_wr r1 (by omega) (by omega)) (by omega) (by omega)) (by omega)
      · rw [wr_ne _ _ _ _ _ (by omega), wr_ne _ _ _ _ _ (by omega), wr_ne _ _ _ _ _ (by omega), m37]
        exact hw
    refine hO_le (N := n0 + 100) (by omega) ?_
    refine q_leaf scr L F d I0 J M _ N n0 (by omega) R k1 N K ?_ hE.2.2.1 (by omega) ?_ (by have := m1.2.2.1; omega) ?_
    · exact m1.1.2.2.2.1.trans hE.2.2.2.1.symm
    · exact m1.1.2.2.2.2.2.2.1
    · rw [show N + 1 - 1 = N by omega] at key
      exact key
theorem ex_d2 {e : Nat} {I M : am_I} {n p c N K o D : Nat} {y par : Int32} (hE : rdE I M n p c N K o) (hD : D + (e + 1) = 21) (hD0 : D = o + 1) (hP : isP M o par) (hy : yp M N y par) (hpn : p < n) (x : Int32) (hx : I 19 p = x) (x1 : ¬ x = 33) (x2 : ¬ x = 36) (x3 : ¬ x = 40) (x4 : ¬ x = 60) (x5 : ¬ x = 64) (x6 : ¬ x = 91) (x7 : ¬ x = 92) (x8 : ¬ x = 123) (x9 : ¬ x = 84) (x10 : ¬ x = 70) (hl : ¬ isL x) (hd : isD x) (hz : isD (tx (I 19) n (p + 1))) (hw : isD (tx (I 19) n (p + 1 + 1))) : eFail (e + 1) I M N D y ∨ ∃ (I' M' : am_I) (p' c' N' K' : Nat), eGood (e + 1) I M n p c N K o D y par I' M' p' c' N' K' := by
  have hT : M 37 = I 19 := hE.1.2.2.1
  have hn100 := hE.1.1.2.2.1
  have htx : tx (M 37) n p = x := by
    rw [hT]
    simp [tx, hpn, hx]
  have hcN := hE.2.1
  have hc5 := hE.1.2.2.2.2.1.1
  have i19 : (beI (adI I (p + 1)) p y) 19 = I 19 := by simp [beI, adI, va_up]
  have r0 : rdI (beI (adI I (p + 1)) p y) n (p + 1) := (Mid_begin (v := 0) (y := y) (par := par) (num := x) hE hpn (by omega)).1.1.1
  have r1 : rdM (bgM M N p 0 par x) n (p + 1) := (Mid_begin (v := 0) (y := y) (par := par) (num := x) hE hpn (by omega)).1.1.2.1
  have m37 : (bgM M N p 0 par x) 37 = I 19 := by
    rw [← hT]
    simp [bgM, wr, va_up]
  have hp1 := isD_lt hz
  have hp2 := isD_lt hw
  have ee : (10 * (10 * (x - 48) + (tx (I 19) n (p + 1) - 48)) + (tx (I 19) n (p + 1 + 1) - 48)) = (10 * (10 * (x - 48) + tx (I 19) n (p + 1) - 48) + tx (I 19) n (p + 1 + 1) - 48) := by rw [i32_as, i32_as]
  have m0 := Mid_begin (v := 0) (y := y) (par := par) (num := x) hE hpn (by omega)
  have hX : tyX (beI (adI I (p + 1)) p y) (bgM M N p 0 par x) (wr (wr (adI (adI (beI (adI I (p + 1)) p y) (p + 1 + 1)) (p + 1 + 2)) 7 p 0) 12 p (10 * (10 * (x - 48) + (tx (I 19) n (p + 1) - 48)) + (tx (I 19) n (p + 1 + 1) - 48))) (wr (wr (wr (wr (wr (bgM M N p 0 par x) 43 N (x - 48)) 43 N (10 * (x - 48) + tx (I 19) n (p + 1) - 48)) 36 20 (nI (p + 1 + 1))) 43 N (10 * (10 * (x - 48) + tx (I 19) n (p + 1) - 48) + tx (I 19) n (p + 1 + 1) - 48)) 36 20 (nI (p + 1 + 2))) c := tyX_wI (tyX_wI (tyX_aI (tyX_aI (tyX_aM (tyX_wM (tyX_aM (tyX_wM (tyX_wM (tyX_refl _ _ _) (by omega)) (by omega))) (by omega))))) (by omega)) (by omega)
  have m1 := Mid_step m0 (rdS_wI (x := 12) (s := p) (v := (10 * (10 * (x - 48) + (tx (I 19) n (p + 1) - 48)) + (tx (I 19) n (p + 1 + 1) - 48))) (rdS_wI (x := 7) (s := p) (v := 0) (rdS_ad (rdS_wM (x := 43) (s := N) (v := (10 * (10 * (x - 48) + tx (I 19) n (p + 1) - 48) + tx (I 19) n (p + 1 + 1) - 48)) (rdS_ad (rdS_wM (x := 43) (s := N) (v := (10 * (x - 48) + tx (I 19) n (p + 1) - 48)) (rdS_wM (x := 43) (s := N) (v := x - 48) m0.1.1 (by omega)) (by omega)) (q := p + 1 + 1) (by omega) (by omega)) (by omega)) (q := p + 1 + 2) (by omega) (by omega)) (by omega)) (by omega)) (by omega) (Nat.le_refl _) (by omega) hX (stI_trans (stI_ad (q := p + 1 + 1)) (stI_trans (stI_ad (q := p + 1 + 2)) (stI_trans (stI_wr (by omega)) (stI_wr (by omega))))) (stM_trans (stM_wr (by omega)) (stM_trans (stM_wr (by omega)) (stM_trans (stM_ad (q := p + 1 + 1)) (stM_trans (stM_wr (by omega)) (stM_ad (q := p + 1 + 2))))))
  have e41 : (wr (wr (wr (wr (wr (bgM M N p 0 par x) 43 N (x - 48)) 43 N (10 * (x - 48) + tx (I 19) n (p + 1) - 48)) 36 20 (nI (p + 1 + 1))) 43 N (10 * (10 * (x - 48) + tx (I 19) n (p + 1) - 48) + tx (I 19) n (p + 1 + 1) - 48)) 36 20 (nI (p + 1 + 2))) 41 N = 0 := by simp [bgM, wr, va_up, upd]
  have e7 : (wr (wr (adI (adI (beI (adI I (p + 1)) p y) (p + 1 + 1)) (p + 1 + 2)) 7 p 0) 12 p (10 * (10 * (x - 48) + (tx (I 19) n (p + 1) - 48)) + (tx (I 19) n (p + 1 + 1) - 48))) 7 p = 0 := by simp [beI, adI, wr, va_up, upd]
  have e43 : (wr (wr (wr (wr (wr (bgM M N p 0 par x) 43 N (x - 48)) 43 N (10 * (x - 48) + tx (I 19) n (p + 1) - 48)) 36 20 (nI (p + 1 + 1))) 43 N (10 * (10 * (x - 48) + tx (I 19) n (p + 1) - 48) + tx (I 19) n (p + 1 + 1) - 48)) 36 20 (nI (p + 1 + 2))) 43 N = (10 * (10 * (x - 48) + tx (I 19) n (p + 1) - 48) + tx (I 19) n (p + 1 + 1) - 48) := by rw [wr_q _ _ _ _ _ _ (by omega), wr_s]
  have e12 : (wr (wr (adI (adI (beI (adI I (p + 1)) p y) (p + 1 + 1)) (p + 1 + 2)) 7 p 0) 12 p (10 * (10 * (x - 48) + (tx (I 19) n (p + 1) - 48)) + (tx (I 19) n (p + 1 + 1) - 48))) 12 p = (10 * (10 * (x - 48) + (tx (I 19) n (p + 1) - 48)) + (tx (I 19) n (p + 1 + 1) - 48)) := wr_s _ _ _ _
  have hnd := nd_mk m1 hy 0 e41 e7 (by omega) (fun _ => e12.trans (ee.trans e43.symm)) (fun z => by omega) (fun z => by omega) (fun z => by omega) (fun z => by omega) (fun z => by omega) (fun z => by omega)
  have htw : tw (wr (wr (adI (adI (beI (adI I (p + 1)) p y) (p + 1 + 1)) (p + 1 + 2)) 7 p 0) 12 p (10 * (10 * (x - 48) + (tx (I 19) n (p + 1) - 48)) + (tx (I 19) n (p + 1 + 1) - 48))) (wr (wr (wr (wr (wr (bgM M N p 0 par x) 43 N (x - 48)) 43 N (10 * (x - 48) + tx (I 19) n (p + 1) - 48)) 36 20 (nI (p + 1 + 1))) 43 N (10 * (10 * (x - 48) + tx (I 19) n (p + 1) - 48) + tx (I 19) n (p + 1 + 1) - 48)) 36 20 (nI (p + 1 + 2))) (N + 1) c (e + 1) ((p + 1 + 2) - p) N := ⟨by omega, by omega, 0, e41, by omega, fun z => by omega, fun z => by omega, fun z => by omega, fun z => by omega⟩
  refine .inr ⟨_, _, (p + 1 + 2), c, N + 1, K + 1, close_l m1 hnd htw (by omega) (dn_1 (o := 0) e41 (by omega) (by omega)), fun scr L F d J M0 => ?_, fun scr L F d I0 J n0 R key => ?_⟩
  · have k1 := (by have kk := c62_d2 scr L F (d + 32 + 3 * e) (beI (adI I (p + 1)) p y) J M0 p (by omega) x x9 x10 hl hd n (p + 1) r0 (by rw [i19]; exact hz) (by rw [i19]; exact hw); rw [i19] at kk; exact kk : am_r scr L (F + 63000) (d + 32 + 3 * e + 10) 62 [.ref 19, .int x, .int (nI p)] (hp (beI (adI I (p + 1)) p y) J M0) = some (some (.int 1), hp (wr (wr (adI (adI (beI (adI I (p + 1)) p y) (p + 1 + 1)) (p + 1 + 2)) 7 p 0) 12 p (10 * (10 * (x - 48) + (tx (I 19) n (p + 1) - 48)) + (tx (I 19) n (p + 1 + 1) - 48))) J M0, 0, 0))
    have k3 := c61_leaf_g scr L F (d + 13 + 3 * e) I J M0 n p D y hE.1.1 hpn (by omega) x hx x1 x2 x3 x4 x5 x6 x7 x8 _ K m1.1.2.2.2.2.2.1 (by have := m1.2.2.1; omega) (by rw [show d + 13 + 3 * e + 29 = d + 32 + 3 * e + 10 by omega]; exact k1)
    rw [show d + 40 + 3 * (e + 1) = d + 13 + 3 * e + 30 by omega]
    exact k3
  · have kv := o105_d scr L (F + 62800) (d + 27) I0 J M x hd
    rw [show F + 62800 + 200 = F + 63000 by omega, show d + 27 + 2 = d + 29 by omega] at kv
    have k0 := m0.1.1.2.1
    have k1 : am_r scr L (F + 63000) (d + 30) 106 [.ref 37] (hp I0 J M) = some (some (.int 1), hp I0 J (wr (wr (wr (wr (wr (bgM M N p 0 par x) 43 N (x - 48)) 43 N (10 * (x - 48) + tx (I 19) n (p + 1) - 48)) 36 20 (nI (p + 1 + 1))) 43 N (10 * (10 * (x - 48) + tx (I 19) n (p + 1) - 48) + tx (I 19) n (p + 1 + 1) - 48)) 36 20 (nI (p + 1 + 2))), 0, 0) := by
      refine b106_pre scr L F d I0 J M n p N o x hE.1.2.1 htx hE.2.2.1 (by omega) hE.2.2.2.1 (by omega) par hP 0 kv (by decide) x9 x10 _ ?_
      refine hB_le (show 400 + 100 ≤ 62900 by omega) (b106_dg scr L F d I0 J _ N 400 x (by omega) (by omega) _ ?_)
      have kt : tx (wr (bgM M N p 0 par x) 43 N (x - 48) 37) n (p + 1) = tx (I 19) n (p + 1) := by rw [wr_ne _ _ _ _ _ (by omega), m37]
      have kz := b106_ds0 scr L F d I0 J (wr (bgM M N p 0 par x) 43 N (x - 48)) n (p + 1) N x (rdM_wr r1 (by omega) (by omega)) (by omega) (by rw [kt]; exact hz) 300 (some (some (.int 1), hp I0 J (wr (wr (wr (wr (wr (bgM M N p 0 par x) 43 N (x - 48)) 43 N (10 * (x - 48) + tx (I 19) n (p + 1) - 48)) 36 20 (nI (p + 1 + 1))) 43 N (10 * (10 * (x - 48) + tx (I 19) n (p + 1) - 48) + tx (I 19) n (p + 1 + 1) - 48)) 36 20 (nI (p + 1 + 2))), 0, 0))
      rw [kt, wr_s] at kz
      refine kz (hB_le (show 200 ≤ 300 by omega) ?_)
      have kt2 : (wr (wr (wr (bgM M N p 0 par x) 43 N (x - 48)) 43 N (10 * (x - 48) + tx (I 19) n (p + 1) - 48)) 36 20 (nI (p + 1 + 1))) 37 = I 19 := by rw [wr_ne _ _ _ _ _ (by omega), wr_ne _ _ _ _ _ (by omega), wr_ne _ _ _ _ _ (by omega), m37]
      have kt3 : (wr (wr (wr (bgM M N p 0 par x) 43 N (x - 48)) 43 N (10 * (x - 48) + tx (I 19) n (p + 1) - 48)) 36 20 (nI (p + 1 + 1))) 43 N = (10 * (x - 48) + tx (I 19) n (p + 1) - 48) := by rw [wr_q _ _ _ _ _ _ (by omega), wr_s]
      have ky := b106_ds1 scr L F d I0 J (wr (wr (wr (bgM M N p 0 par x) 43 N (x - 48)) 43 N (10 * (x - 48) + tx (I 19) n (p + 1) - 48)) 36 20 (nI (p + 1 + 1))) n (p + 1 + 1) N x (rdM_ad (rdM_wr (rdM_wr r1 (by omega) (by omega)) (by omega) (by omega)) (by omega)) (by omega) (by rw [kt2]; exact hw) 100 (some (some (.int 1), hp I0 J (wr (wr (wr (wr (wr (bgM M N p 0 par x) 43 N (x - 48)) 43 N (10 * (x - 48) + tx (I 19) n (p + 1) - 48)) 36 20 (nI (p + 1 + 1))) 43 N (10 * (10 * (x - 48) + tx (I 19) n (p + 1) - 48) + tx (I 19) n (p + 1 + 1) - 48)) 36 20 (nI (p + 1 + 2))), 0, 0))
      rw [kt2, kt3] at ky
      refine ky ?_
      exact b106_de2 scr L F d I0 J _ N x
    refine hO_le (N := n0 + 100) (by omega) ?_
    refine q_leaf scr L F d I0 J M _ N n0 (by omega) R k1 N K ?_ hE.2.2.1 (by omega) ?_ (by have := m1.2.2.1; omega) ?_
    · exact m1.1.2.2.2.1.trans hE.2.2.2.1.symm
    · exact m1.1.2.2.2.2.2.2.1
    · rw [show N + 1 - 1 = N by omega] at key
      exact key
theorem ex_bad {e : Nat} {I M : am_I} {n p c N K o D : Nat} {y par : Int32} (hE : rdE I M n p c N K o) (hD : D + (e + 1) = 21) (hD0 : D = o + 1) (hP : isP M o par) (hy : yp M N y par) (hpn : p < n) (x : Int32) (hx : I 19 p = x) (x1 : ¬ x = 33) (x2 : ¬ x = 36) (x3 : ¬ x = 40) (x4 : ¬ x = 60) (x5 : ¬ x = 64) (x6 : ¬ x = 91) (x7 : ¬ x = 92) (x8 : ¬ x = 123) (x9 : ¬ x = 84) (x10 : ¬ x = 70) (hd : ¬ isD x) (hl : ¬ isL x) : eFail (e + 1) I M N D y ∨ ∃ (I' M' : am_I) (p' c' N' K' : Nat), eGood (e + 1) I M n p c N K o D y par I' M' p' c' N' K' := by
  have hT : M 37 = I 19 := hE.1.2.2.1
  have hn100 := hE.1.1.2.2.1
  have htx : tx (M 37) n p = x := by
    rw [hT]
    simp [tx, hpn, hx]
  have hcN := hE.2.1
  have hc5 := hE.1.2.2.2.2.1.1
  have m0 := Mid_begin (v := 0) (y := y) (par := par) (num := 0) hE hpn (by omega)
  obtain ⟨w1, w2, w3⟩ := Mid_w m0
  refine .inl ⟨beI (adI I (p + 1)) p y, M, w1, wG_refl M, ?_, fun scr L F d J M0 => ?_, fun scr L F d I0 J => ?_⟩
  · intro t ht
    exact ⟨⟨rfl, rfl, rfl⟩, (w3 t ht).2⟩
  · have k1 := c62_bad scr L F (d + 32 + 3 * e) (beI (adI I (p + 1)) p y) J M0 p (by omega) x x9 x10 hl hd
    have k3 := c61_leaf_f scr L F (d + 13 + 3 * e) I J M0 n p D y hE.1.1 hpn (by omega) x hx x1 x2 x3 x4 x5 x6 x7 x8 _ (by rw [show d + 13 + 3 * e + 29 = d + 32 + 3 * e + 10 by omega]; exact k1)
    rw [show d + 40 + 3 * (e + 1) = d + 13 + 3 * e + 30 by omega]
    exact k3
  · have kv := o105_bad scr L (F + 62800) (d + 27) I0 J M x hd hl x1 x2 x3 x4 x5 x6 x7 x8 x9 x10
    rw [show F + 62800 + 200 = F + 63000 by omega, show d + 27 + 2 = d + 29 by omega] at kv
    have k1 := b106_bad scr L F d I0 J M n p N o x hE.1.2.1 htx hE.2.2.1 (by omega) hE.2.2.2.1 kv
    exact hO_le (N := 100) (by omega) (q_f scr L F d I0 J M M N 0 (by omega) none k1)
