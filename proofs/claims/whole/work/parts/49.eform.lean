/-! Reading an expression: the forms with one part. -/
theorem Mid_w {I0 M0 I M : am_I} {n p c N K O o s T K0 c0 : Nat} {y par : Int32} (h : Mid I0 M0 I M n p c N K O o s T K0 c0 y par) : wF I0 I ∧ wG M0 M ∧ tyX I0 M0 I M 5 := by
  obtain ⟨b1, b2, b3, b4, b5, b6, b7, b8, b9, b10, b11, b12, b13, b14, b15, b16⟩ := h
  exact ⟨wF_e b9, wG_e b10, tyX_le b11 b12⟩
theorem close_w {I0 M0 I M : am_I} {n p c N K o s T K0 c0 e : Nat} {y par : Int32} (h : Mid I0 M0 I M n p c N K (o + 1) o s T K0 c0 y par) (hn : nd I M N c T) (ht : tw I M N c e (p - s) T) (he : e ≤ 20) (hdn : dn M T) : ePure e I0 M0 n s c0 T K0 o y par (enI I K (nI s)) (coM (wr M 36 21 (nI o)) K T) p c N (K + 1) := by
  refine Mid_close h hn ht he hdn rfl (fun x m h1 h2 => ?_) ?_ (fun z h1 h2 => ?_) ?_ ?_
  · unfold coM
    rw [wr_q _ _ _ _ _ _ (by omega), wr_q _ _ _ _ _ _ (by omega), wr_q _ _ _ _ _ _ (by omega)]
  · unfold coM
    rw [wr_q _ _ _ _ _ _ (by omega), wr_s]
  · unfold coM
    rw [wr_q _ _ _ _ _ _ (by omega), wr_q _ _ _ _ _ _ (by omega), wr_q _ _ _ _ _ _ (by omega)]
  · unfold coM
    rw [wr_s]
  · unfold coM
    rw [wr_q _ _ _ _ _ _ (by omega), wr_q _ _ _ _ _ _ (by omega), wr_s]
theorem close_l {I0 M0 I M : am_I} {n p c N K o s T K0 c0 e : Nat} {y par : Int32} (h : Mid I0 M0 I M n p c N K o o s T K0 c0 y par) (hn : nd I M N c T) (ht : tw I M N c e (p - s) T) (he : e ≤ 20) (hdn : dn M T) : ePure e I0 M0 n s c0 T K0 o y par (enI I K (nI s)) (coM M K T) p c N (K + 1) := by
  refine Mid_close h hn ht he hdn rfl (fun x m h1 h2 => ?_) ?_ (fun z h1 h2 => ?_) ?_ ?_
  · unfold coM
    rw [wr_q _ _ _ _ _ _ (by omega), wr_q _ _ _ _ _ _ (by omega)]
  · unfold coM
    rw [wr_q _ _ _ _ _ _ (by omega), wr_s]
  · unfold coM
    rw [wr_q _ _ _ _ _ _ (by omega), wr_q _ _ _ _ _ _ (by omega)]
  · unfold coM
    rw [wr_s]
  · unfold coM
    rw [wr_q _ _ _ _ _ _ (by omega), wr_q _ _ _ _ _ _ (by omega)]
    exact h.1.2.2.2.1
/-- what a part's reading leaves of its whole -/
theorem part_f {e : Nat} {I M I' M' : am_I} {n p c N K o p' c' N' K' : Nat} {y par : Int32} (g : ePure e I M n p c N K o y par I' M' p' c' N' K') : (∀ x q, 7 ≤ x → x ≤ 13 → q < p → I' x q = I x q) ∧ (∀ x m, 41 ≤ x → x ≤ 49 → m < N → M' x m = M x m) ∧ p' ≤ n ∧ n ≤ 100 ∧ N' ≤ p' ∧ 5 ≤ c' ∧ c' ≤ 105 := by
  obtain ⟨g1, g2, g3, g4, g5, g6, g7, g8, g9, g10, g11, g12, g13⟩ := g
  refine ⟨fun x q a b d => g7 x q (by omega) (by omega) (by omega) (by omega), fun x m a b d => g8.1 x m (by omega) (by omega) (by omega) (by omega), g1.1.2.2.2.1, g1.1.1.2.2.1, ?_, g1.1.2.2.2.2.1.1, g1.1.2.2.2.2.1.2.1⟩
  have := g1.2.1
  have := g1.1.2.2.2.2.1.1
  omega
theorem ex_new {e : Nat} (ih : eAll e) {I M : am_I} {n p c N K o D : Nat} {y par : Int32} (hE : rdE I M n p c N K o) (hD : D + (e + 1) = 21) (hD0 : D = o + 1) (hP : isP M o par) (hy : yp M N y par) (hpn : p < n) (hx : I 19 p = 64) : eFail (e + 1) I M N D y ∨ ∃ (I' M' : am_I) (p' c' N' K' : Nat), eGood (e + 1) I M n p c N K o D y par I' M' p' c' N' K' := by
  have hT : M 37 = I 19 := hE.1.2.2.1
  have hn100 := hE.1.1.2.2.1
  have htx : tx (M 37) n p = 64 := by
    rw [hT]
    simp [tx, hpn, hx]
  have hcN := hE.2.1
  have hc5 := hE.1.2.2.2.2.1.1
  have m0 := Mid_begin (v := 10) (y := y) (par := par) (num := 64) hE hpn (by omega)
  have m1 := Mid_step m0 (rdS_wI (x := 7) (s := p) (v := 10) m0.1.1 (by omega)) (by omega) (by omega) m0.1.2.1 (tyX_wI (tyX_refl _ _ _) (by omega)) (stI_wr (by omega)) (stM_refl _ _)
  have m2 := Mid_open m1 (by omega)
  have q41 : wr (wr (bgM M N p 10 par 64) 51 o (nI N)) 36 21 (nI (o + 1)) 41 N = 10 := by simp [bgM, wr, va_up, upd]
  have q49 : wr (wr (bgM M N p 10 par 64) 51 o (nI N)) 36 21 (nI (o + 1)) 49 N = 0 := by simp [bgM, wr, va_up, upd]
  rcases ih _ _ n (p + 1) c (N + 1) K (o + 1) (D + 1) (nI p) (nI N) m2.1 (by omega) (by omega) (.inr ⟨o, rfl, m2.2.2.2.1 rfl⟩) (.inr ⟨N, by omega, rfl, m2.2.2.2.2.1.symm⟩) with ⟨I3, M3, f1, f2, f3, f4, f5⟩ | ⟨I3, M3, p3, c3, N3, K3, g, gA, gB⟩
  · obtain ⟨w1, w2, w3⟩ := Mid_w m2
    refine .inl ⟨wr I3 9 p (-1), M3, wF_trans w1 (wF_trans f1 (wF_st (stI_wr (s := p) (by omega)))), wG_trans w2 f2, tyX_trans w3 (tyX_wI f3 (by omega)) (by omega), fun scr L F d J M0 => ?_, fun scr L F d I0 J => ?_⟩
    · have k1 := c71_f scr L F (d + 20 + 3 * e) (wr (beI (adI I (p + 1)) p y) 7 p 10) J M0 p D (by omega) I3 (by rw [show d + 20 + 3 * e + 20 = d + 40 + 3 * e by omega]; exact f4 scr L F d J M0)
      have k2 := c70_0 scr L F (d + 20 + 3 * e) (beI (adI I (p + 1)) p y) J M0 p D 10 (by omega) _ k1
      have k3 := c61_new_f scr L F (d + 13 + 3 * e) I J M0 n p D y hE.1.1 hpn (by omega) 64 hx rfl _ (by rw [show d + 13 + 3 * e + 29 = d + 20 + 3 * e + 22 by omega]; exact k2)
      rw [show d + 40 + 3 * (e + 1) = d + 13 + 3 * e + 30 by omega]
      exact k3
    · have k1 := b106_new scr L F d I0 J M n p N o 64 hE.1.2.1 htx hE.2.2.1 (by omega) hE.2.2.2.1 (by omega) par hP rfl
      refine hO_le (N := 400 * (101 - (N + 1)) + 400 + 100) (by omega) ?_
      exact q_open scr L F d I0 J M _ N _ (by omega) _ k1 o hE.2.2.2.1 (wr_s _ _ _ _) (by omega) (f5 scr L F d I0 J)
  · have m3 := Mid_part m2 g
    have t3 := pt_new (by omega) g
    obtain ⟨u1, u2, u3, u4, u5, u6, u7⟩ := part_f g
    have gp := g.2.1
    have gN := g.2.2.1
    have x41 := (u2 41 N (by omega) (by omega) (by omega)).trans q41
    have x49 := (u2 49 N (by omega) (by omega) (by omega)).trans q49
    have x7 := (u1 7 p (by omega) (by omega) (by omega)).trans (wr_s _ _ _ _)
    have s1 : stI I3 (wr I3 9 p (nI (p + 1))) p := stI_wr (by omega)
    have s2 : stM M3 (wr (wr M3 49 N 1) 46 N (nI (N + 1))) N := stM_trans (stM_wr (by omega)) (stM_wr (by omega))
    have hX : tyX I3 M3 (wr I3 9 p (nI (p + 1))) (wr (wr M3 49 N 1) 46 N (nI (N + 1))) c3 := tyX_wI (tyX_wM (tyX_wM (tyX_refl _ _ _) (by omega)) (by omega)) (by omega)
    have m4 := Mid_step m3 (rdS_wI (x := 9) (s := p) (v := nI (p + 1)) (rdS_wM (x := 46) (s := N) (v := nI (N + 1)) (rdS_wM (x := 49) (s := N) (v := 1) m3.1.1 (by omega)) (by omega)) (by omega)) (by omega) (by omega) m3.1.2.1 hX s1 s2
    have t4 := pt_X t3 (st_ag (p := p3) (K0 := K) (K := K3) s1 s2) hX (by omega) (Nat.le_refl _) (Nat.le_refl _)
    have z41 : wr (wr M3 49 N 1) 46 N (nI (N + 1)) 41 N = 10 := by
      rw [wr_q _ _ _ _ _ _ (by omega), wr_q _ _ _ _ _ _ (by omega)]
      exact x41
    have z7 : wr I3 9 p (nI (p + 1)) 7 p = 10 := by
      rw [wr_q _ _ _ _ _ _ (by omega)]
      exact x7
    have z42 : wr (wr M3 49 N 1) 46 N (nI (N + 1)) 42 (N + 1) = nI (p + 1) := by
      rw [wr_q _ _ _ _ _ _ (by omega), wr_q _ _ _ _ _ _ (by omega)]
      exact g.2.2.2.2.2.2.2.2.2.1
    have hnd : nd (wr I3 9 p (nI (p + 1))) (wr (wr M3 49 N 1) 46 N (nI (N + 1))) N3 c3 N := nd_mk m4 hy 10 z41 z7 (by omega) (fun z => by omega) (fun z => by omega) (fun z => by omega) (fun z => by omega) (fun _ => ⟨N + 1, p + 1, by omega, t4.2.1, wr_s _ _ _ _, z42, wr_s _ _ _ _, t4.2.2.2.1⟩) (fun _ z => by omega) (fun z => by omega)
    have htw : tw (wr I3 9 p (nI (p + 1))) (wr (wr M3 49 N 1) 46 N (nI (N + 1))) N3 c3 (e + 1) (p3 - p) N := ⟨by omega, by omega, 10, z41, by omega, fun z => by omega, fun _ => ⟨N + 1, p3 - (p + 1), wr_s _ _ _ _, by omega, t4.2.2.2.2, by omega, fun z => by omega⟩, fun _ z => by omega, fun z => by omega⟩
    refine .inr ⟨_, _, p3, c3, N3, K3 + 1, close_w m4 hnd htw (by omega) (dn_1 (o := 10) z41 (by omega) (by omega)), fun scr L F d J M0 => ?_, fun scr L F d I0 J n0 R key => ?_⟩
    · have k1 := c71_g scr L F (d + 20 + 3 * e) (wr (beI (adI I (p + 1)) p y) 7 p 10) J M0 p D (p + 1) (by omega) (by omega) I3 (by rw [show d + 20 + 3 * e + 20 = d + 40 + 3 * e by omega]; exact gA scr L F d J M0)
      have k2 := c70_1 scr L F (d + 20 + 3 * e) (beI (adI I (p + 1)) p y) J M0 p D 10 (by omega) _ k1
      have k3 := c61_new_g scr L F (d + 13 + 3 * e) I J M0 n p D y hE.1.1 hpn (by omega) 64 hx rfl _ K3 m4.1.2.2.2.2.2.1 (by have := m4.2.2.1; omega) (by rw [show d + 13 + 3 * e + 29 = d + 20 + 3 * e + 22 by omega]; exact k2)
      rw [show d + 40 + 3 * (e + 1) = d + 13 + 3 * e + 30 by omega]
      exact k3
    · have k1 := b106_new scr L F d I0 J M n p N o 64 hE.1.2.1 htx hE.2.2.1 (by omega) hE.2.2.2.1 (by omega) par hP rfl
      refine hO_le (N := (n0 + 100) + 100 * (2 * (N3 - (N + 1)) - 1) + 100) (by omega) ?_
      refine q_open scr L F d I0 J M _ N _ (by omega) _ k1 o hE.2.2.2.1 (wr_s _ _ _ _) (by omega) ?_
      refine gB scr L F d I0 J _ _ ?_
      have k2 := g107_new scr L F d I0 J M3 n p3 N (nI (N + 1)) m3.1.1.2.1 (by omega) x49 x41
      exact q_gw scr L F d I0 J M3 _ (N3 - 1) n0 (N + 1) (by omega) R o N m3.1.2.2.2.1 (by omega) (m3.2.2.2.1 rfl) (by omega) k2 m4.1.2.2.2.1 10 1 z41 (by rw [wr_q _ _ _ _ _ _ (by omega), wr_s]) (by decide) K3 m4.1.2.2.2.2.2.2.1 (by have := m4.2.2.1; omega) key
theorem ex_read {e : Nat} (ih : eAll e) {I M : am_I} {n p c N K o D : Nat} {y par : Int32} (hE : rdE I M n p c N K o) (hD : D + (e + 1) = 21) (hD0 : D = o + 1) (hP : isP M o par) (hy : yp M N y par) (hpn : p < n) (hx : I 19 p = 33) : eFail (e + 1) I M N D y ∨ ∃ (I' M' : am_I) (p' c' N' K' : Nat), eGood (e + 1) I M n p c N K o D y par I' M' p' c' N' K' := by
  have hT : M 37 = I 19 := hE.1.2.2.1
  have hn100 := hE.1.1.2.2.1
  have htx : tx (M 37) n p = 33 := by
    rw [hT]
    simp [tx, hpn, hx]
  have hcN := hE.2.1
  have hc5 := hE.1.2.2.2.2.1.1
  have m0 := Mid_begin (v := 11) (y := y) (par := par) (num := 33) hE hpn (by omega)
  have m1 := Mid_step m0 (rdS_wI (x := 7) (s := p) (v := 11) m0.1.1 (by omega)) (by omega) (by omega) m0.1.2.1 (tyX_wI (tyX_refl _ _ _) (by omega)) (stI_wr (by omega)) (stM_refl _ _)
  have m2 := Mid_open m1 (by omega)
  have q41 : wr (wr (bgM M N p 11 par 33) 51 o (nI N)) 36 21 (nI (o + 1)) 41 N = 11 := by simp [bgM, wr, va_up, upd]
  have q49 : wr (wr (bgM M N p 11 par 33) 51 o (nI N)) 36 21 (nI (o + 1)) 49 N = 0 := by simp [bgM, wr, va_up, upd]
  rcases ih _ _ n (p + 1) c (N + 1) K (o + 1) (D + 1) (nI p) (nI N) m2.1 (by omega) (by omega) (.inr ⟨o, rfl, m2.2.2.2.1 rfl⟩) (.inr ⟨N, by omega, rfl, m2.2.2.2.2.1.symm⟩) with ⟨I3, M3, f1, f2, f3, f4, f5⟩ | ⟨I3, M3, p3, c3, N3, K3, g, gA, gB⟩
  · obtain ⟨w1, w2, w3⟩ := Mid_w m2
    refine .inl ⟨wr I3 9 p (-1), M3, wF_trans w1 (wF_trans f1 (wF_st (stI_wr (s := p) (by omega)))), wG_trans w2 f2, tyX_trans w3 (tyX_wI f3 (by omega)) (by omega), fun scr L F d J M0 => ?_, fun scr L F d I0 J => ?_⟩
    · have k1 := c71_f scr L F (d + 20 + 3 * e) (wr (beI (adI I (p + 1)) p y) 7 p 11) J M0 p D (by omega) I3 (by rw [show d + 20 + 3 * e + 20 = d + 40 + 3 * e by omega]; exact f4 scr L F d J M0)
      have k2 := c70_0 scr L F (d + 20 + 3 * e) (beI (adI I (p + 1)) p y) J M0 p D 11 (by omega) _ k1
      have k3 := c61_read_f scr L F (d + 13 + 3 * e) I J M0 n p D y hE.1.1 hpn (by omega) 33 hx rfl _ (by rw [show d + 13 + 3 * e + 29 = d + 20 + 3 * e + 22 by omega]; exact k2)
      rw [show d + 40 + 3 * (e + 1) = d + 13 + 3 * e + 30 by omega]
      exact k3
    · have k1 := b106_read scr L F d I0 J M n p N o 33 hE.1.2.1 htx hE.2.2.1 (by omega) hE.2.2.2.1 (by omega) par hP rfl
      refine hO_le (N := 400 * (101 - (N + 1)) + 400 + 100) (by omega) ?_
      exact q_open scr L F d I0 J M _ N _ (by omega) _ k1 o hE.2.2.2.1 (wr_s _ _ _ _) (by omega) (f5 scr L F d I0 J)
  · have m3 := Mid_part m2 g
    have t3 := pt_new (by omega) g
    obtain ⟨u1, u2, u3, u4, u5, u6, u7⟩ := part_f g
    have gp := g.2.1
    have gN := g.2.2.1
    have x41 := (u2 41 N (by omega) (by omega) (by omega)).trans q41
    have x49 := (u2 49 N (by omega) (by omega) (by omega)).trans q49
    have x7 := (u1 7 p (by omega) (by omega) (by omega)).trans (wr_s _ _ _ _)
    have s1 : stI I3 (wr I3 9 p (nI (p + 1))) p := stI_wr (by omega)
    have s2 : stM M3 (wr (wr M3 49 N 1) 46 N (nI (N + 1))) N := stM_trans (stM_wr (by omega)) (stM_wr (by omega))
    have hX : tyX I3 M3 (wr I3 9 p (nI (p + 1))) (wr (wr M3 49 N 1) 46 N (nI (N + 1))) c3 := tyX_wI (tyX_wM (tyX_wM (tyX_refl _ _ _) (by omega)) (by omega)) (by omega)
    have m4 := Mid_step m3 (rdS_wI (x := 9) (s := p) (v := nI (p + 1)) (rdS_wM (x := 46) (s := N) (v := nI (N + 1)) (rdS_wM (x := 49) (s := N) (v := 1) m3.1.1 (by omega)) (by omega)) (by omega)) (by omega) (by omega) m3.1.2.1 hX s1 s2
    have t4 := pt_X t3 (st_ag (p := p3) (K0 := K) (K := K3) s1 s2) hX (by omega) (Nat.le_refl _) (Nat.le_refl _)
    have z41 : wr (wr M3 49 N 1) 46 N (nI (N + 1)) 41 N = 11 := by
      rw [wr_q _ _ _ _ _ _ (by omega), wr_q _ _ _ _ _ _ (by omega)]
      exact x41
    have z7 : wr I3 9 p (nI (p + 1)) 7 p = 11 := by
      rw [wr_q _ _ _ _ _ _ (by omega)]
      exact x7
    have z42 : wr (wr M3 49 N 1) 46 N (nI (N + 1)) 42 (N + 1) = nI (p + 1) := by
      rw [wr_q _ _ _ _ _ _ (by omega), wr_q _ _ _ _ _ _ (by omega)]
      exact g.2.2.2.2.2.2.2.2.2.1
    have hnd : nd (wr I3 9 p (nI (p + 1))) (wr (wr M3 49 N 1) 46 N (nI (N + 1))) N3 c3 N := nd_mk m4 hy 11 z41 z7 (by omega) (fun z => by omega) (fun z => by omega) (fun z => by omega) (fun z => by omega) (fun _ => ⟨N + 1, p + 1, by omega, t4.2.1, wr_s _ _ _ _, z42, wr_s _ _ _ _, t4.2.2.2.1⟩) (fun _ z => by omega) (fun z => by omega)
    have htw : tw (wr I3 9 p (nI (p + 1))) (wr (wr M3 49 N 1) 46 N (nI (N + 1))) N3 c3 (e + 1) (p3 - p) N := ⟨by omega, by omega, 11, z41, by omega, fun z => by omega, fun _ => ⟨N + 1, p3 - (p + 1), wr_s _ _ _ _, by omega, t4.2.2.2.2, by omega, fun z => by omega⟩, fun _ z => by omega, fun z => by omega⟩
    refine .inr ⟨_, _, p3, c3, N3, K3 + 1, close_w m4 hnd htw (by omega) (dn_1 (o := 11) z41 (by omega) (by omega)), fun scr L F d J M0 => ?_, fun scr L F d I0 J n0 R key => ?_⟩
    · have k1 := c71_g scr L F (d + 20 + 3 * e) (wr (beI (adI I (p + 1)) p y) 7 p 11) J M0 p D (p + 1) (by omega) (by omega) I3 (by rw [show d + 20 + 3 * e + 20 = d + 40 + 3 * e by omega]; exact gA scr L F d J M0)
      have k2 := c70_1 scr L F (d + 20 + 3 * e) (beI (adI I (p + 1)) p y) J M0 p D 11 (by omega) _ k1
      have k3 := c61_read_g scr L F (d + 13 + 3 * e) I J M0 n p D y hE.1.1 hpn (by omega) 33 hx rfl _ K3 m4.1.2.2.2.2.2.1 (by have := m4.2.2.1; omega) (by rw [show d + 13 + 3 * e + 29 = d + 20 + 3 * e + 22 by omega]; exact k2)
      rw [show d + 40 + 3 * (e + 1) = d + 13 + 3 * e + 30 by omega]
      exact k3
    · have k1 := b106_read scr L F d I0 J M n p N o 33 hE.1.2.1 htx hE.2.2.1 (by omega) hE.2.2.2.1 (by omega) par hP rfl
      refine hO_le (N := (n0 + 100) + 100 * (2 * (N3 - (N + 1)) - 1) + 100) (by omega) ?_
      refine q_open scr L F d I0 J M _ N _ (by omega) _ k1 o hE.2.2.2.1 (wr_s _ _ _ _) (by omega) ?_
      refine gB scr L F d I0 J _ _ ?_
      have k2 := g107_read scr L F d I0 J M3 n p3 N (nI (N + 1)) m3.1.1.2.1 (by omega) x49 x41
      exact q_gw scr L F d I0 J M3 _ (N3 - 1) n0 (N + 1) (by omega) R o N m3.1.2.2.2.1 (by omega) (m3.2.2.2.1 rfl) (by omega) k2 m4.1.2.2.2.1 11 1 z41 (by rw [wr_q _ _ _ _ _ _ (by omega), wr_s]) (by decide) K3 m4.1.2.2.2.2.2.2.1 (by have := m4.2.2.1; omega) key
theorem ex_put {e : Nat} (ih : eAll e) {I M : am_I} {n p c N K o D : Nat} {y par : Int32} (hE : rdE I M n p c N K o) (hD : D + (e + 1) = 21) (hD0 : D = o + 1) (hP : isP M o par) (hy : yp M N y par) (hpn : p < n) (hx : I 19 p = 36) : eFail (e + 1) I M N D y ∨ ∃ (I' M' : am_I) (p' c' N' K' : Nat), eGood (e + 1) I M n p c N K o D y par I' M' p' c' N' K' := by
  have hT : M 37 = I 19 := hE.1.2.2.1
  have hn100 := hE.1.1.2.2.1
  have htx : tx (M 37) n p = 36 := by
    rw [hT]
    simp [tx, hpn, hx]
  have hcN := hE.2.1
  have hc5 := hE.1.2.2.2.2.1.1
  have m0 := Mid_begin (v := 13) (y := y) (par := par) (num := 36) hE hpn (by omega)
  have m1 := Mid_step m0 (rdS_wI (x := 7) (s := p) (v := 13) m0.1.1 (by omega)) (by omega) (by omega) m0.1.2.1 (tyX_wI (tyX_refl _ _ _) (by omega)) (stI_wr (by omega)) (stM_refl _ _)
  have m2 := Mid_open m1 (by omega)
  have q41 : wr (wr (bgM M N p 13 par 36) 51 o (nI N)) 36 21 (nI (o + 1)) 41 N = 13 := by simp [bgM, wr, va_up, upd]
  have q49 : wr (wr (bgM M N p 13 par 36) 51 o (nI N)) 36 21 (nI (o + 1)) 49 N = 0 := by simp [bgM, wr, va_up, upd]
  rcases ih _ _ n (p + 1) c (N + 1) K (o + 1) (D + 1) (nI p) (nI N) m2.1 (by omega) (by omega) (.inr ⟨o, rfl, m2.2.2.2.1 rfl⟩) (.inr ⟨N, by omega, rfl, m2.2.2.2.2.1.symm⟩) with ⟨I3, M3, f1, f2, f3, f4, f5⟩ | ⟨I3, M3, p3, c3, N3, K3, g, gA, gB⟩
  · obtain ⟨w1, w2, w3⟩ := Mid_w m2
    refine .inl ⟨wr I3 9 p (-1), M3, wF_trans w1 (wF_trans f1 (wF_st (stI_wr (s := p) (by omega)))), wG_trans w2 f2, tyX_trans w3 (tyX_wI f3 (by omega)) (by omega), fun scr L F d J M0 => ?_, fun scr L F d I0 J => ?_⟩
    · have k1 := c71_f scr L F (d + 20 + 3 * e) (wr (beI (adI I (p + 1)) p y) 7 p 13) J M0 p D (by omega) I3 (by rw [show d + 20 + 3 * e + 20 = d + 40 + 3 * e by omega]; exact f4 scr L F d J M0)
      have k2 := c70_0 scr L F (d + 20 + 3 * e) (beI (adI I (p + 1)) p y) J M0 p D 13 (by omega) _ k1
      have k3 := c61_put_f scr L F (d + 13 + 3 * e) I J M0 n p D y hE.1.1 hpn (by omega) 36 hx rfl _ (by rw [show d + 13 + 3 * e + 29 = d + 20 + 3 * e + 22 by omega]; exact k2)
      rw [show d + 40 + 3 * (e + 1) = d + 13 + 3 * e + 30 by omega]
      exact k3
    · have k1 := b106_put scr L F d I0 J M n p N o 36 hE.1.2.1 htx hE.2.2.1 (by omega) hE.2.2.2.1 (by omega) par hP rfl
      refine hO_le (N := 400 * (101 - (N + 1)) + 400 + 100) (by omega) ?_
      exact q_open scr L F d I0 J M _ N _ (by omega) _ k1 o hE.2.2.2.1 (wr_s _ _ _ _) (by omega) (f5 scr L F d I0 J)
  · have m3 := Mid_part m2 g
    have t3 := pt_new (by omega) g
    obtain ⟨u1, u2, u3, u4, u5, u6, u7⟩ := part_f g
    have gp := g.2.1
    have gN := g.2.2.1
    have x41 := (u2 41 N (by omega) (by omega) (by omega)).trans q41
    have x49 := (u2 49 N (by omega) (by omega) (by omega)).trans q49
    have x7 := (u1 7 p (by omega) (by omega) (by omega)).trans (wr_s _ _ _ _)
    have s1 : stI I3 (wr I3 9 p (nI (p + 1))) p := stI_wr (by omega)
    have s2 : stM M3 (wr (wr M3 49 N 1) 46 N (nI (N + 1))) N := stM_trans (stM_wr (by omega)) (stM_wr (by omega))
    have hX : tyX I3 M3 (wr I3 9 p (nI (p + 1))) (wr (wr M3 49 N 1) 46 N (nI (N + 1))) c3 := tyX_wI (tyX_wM (tyX_wM (tyX_refl _ _ _) (by omega)) (by omega)) (by omega)
    have m4 := Mid_step m3 (rdS_wI (x := 9) (s := p) (v := nI (p + 1)) (rdS_wM (x := 46) (s := N) (v := nI (N + 1)) (rdS_wM (x := 49) (s := N) (v := 1) m3.1.1 (by omega)) (by omega)) (by omega)) (by omega) (by omega) m3.1.2.1 hX s1 s2
    have t4 := pt_X t3 (st_ag (p := p3) (K0 := K) (K := K3) s1 s2) hX (by omega) (Nat.le_refl _) (Nat.le_refl _)
    have z41 : wr (wr M3 49 N 1) 46 N (nI (N + 1)) 41 N = 13 := by
      rw [wr_q _ _ _ _ _ _ (by omega), wr_q _ _ _ _ _ _ (by omega)]
      exact x41
    have z7 : wr I3 9 p (nI (p + 1)) 7 p = 13 := by
      rw [wr_q _ _ _ _ _ _ (by omega)]
      exact x7
    have z42 : wr (wr M3 49 N 1) 46 N (nI (N + 1)) 42 (N + 1) = nI (p + 1) := by
      rw [wr_q _ _ _ _ _ _ (by omega), wr_q _ _ _ _ _ _ (by omega)]
      exact g.2.2.2.2.2.2.2.2.2.1
    have hnd : nd (wr I3 9 p (nI (p + 1))) (wr (wr M3 49 N 1) 46 N (nI (N + 1))) N3 c3 N := nd_mk m4 hy 13 z41 z7 (by omega) (fun z => by omega) (fun z => by omega) (fun z => by omega) (fun z => by omega) (fun _ => ⟨N + 1, p + 1, by omega, t4.2.1, wr_s _ _ _ _, z42, wr_s _ _ _ _, t4.2.2.2.1⟩) (fun _ z => by omega) (fun z => by omega)
    have htw : tw (wr I3 9 p (nI (p + 1))) (wr (wr M3 49 N 1) 46 N (nI (N + 1))) N3 c3 (e + 1) (p3 - p) N := ⟨by omega, by omega, 13, z41, by omega, fun z => by omega, fun _ => ⟨N + 1, p3 - (p + 1), wr_s _ _ _ _, by omega, t4.2.2.2.2, by omega, fun z => by omega⟩, fun _ z => by omega, fun z => by omega⟩
    refine .inr ⟨_, _, p3, c3, N3, K3 + 1, close_w m4 hnd htw (by omega) (dn_1 (o := 13) z41 (by omega) (by omega)), fun scr L F d J M0 => ?_, fun scr L F d I0 J n0 R key => ?_⟩
    · have k1 := c71_g scr L F (d + 20 + 3 * e) (wr (beI (adI I (p + 1)) p y) 7 p 13) J M0 p D (p + 1) (by omega) (by omega) I3 (by rw [show d + 20 + 3 * e + 20 = d + 40 + 3 * e by omega]; exact gA scr L F d J M0)
      have k2 := c70_1 scr L F (d + 20 + 3 * e) (beI (adI I (p + 1)) p y) J M0 p D 13 (by omega) _ k1
      have k3 := c61_put_g scr L F (d + 13 + 3 * e) I J M0 n p D y hE.1.1 hpn (by omega) 36 hx rfl _ K3 m4.1.2.2.2.2.2.1 (by have := m4.2.2.1; omega) (by rw [show d + 13 + 3 * e + 29 = d + 20 + 3 * e + 22 by omega]; exact k2)
      rw [show d + 40 + 3 * (e + 1) = d + 13 + 3 * e + 30 by omega]
      exact k3
    · have k1 := b106_put scr L F d I0 J M n p N o 36 hE.1.2.1 htx hE.2.2.1 (by omega) hE.2.2.2.1 (by omega) par hP rfl
      refine hO_le (N := (n0 + 100) + 100 * (2 * (N3 - (N + 1)) - 1) + 100) (by omega) ?_
      refine q_open scr L F d I0 J M _ N _ (by omega) _ k1 o hE.2.2.2.1 (wr_s _ _ _ _) (by omega) ?_
      refine gB scr L F d I0 J _ _ ?_
      have k2 := g107_put scr L F d I0 J M3 n p3 N (nI (N + 1)) m3.1.1.2.1 (by omega) x49 x41
      exact q_gw scr L F d I0 J M3 _ (N3 - 1) n0 (N + 1) (by omega) R o N m3.1.2.2.2.1 (by omega) (m3.2.2.2.1 rfl) (by omega) k2 m4.1.2.2.2.1 13 1 z41 (by rw [wr_q _ _ _ _ _ _ (by omega), wr_s]) (by decide) K3 m4.1.2.2.2.2.2.2.1 (by have := m4.2.2.1; omega) key
