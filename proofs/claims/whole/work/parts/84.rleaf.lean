/-! Running: nodes and their parts; what has no parts. -/
theorem tw_lt {I M : am_I} {B c h w m : Nat} (k : tw I M B c h w m) : m < B ∧ 1 ≤ w := by
  cases h with
  | zero => exact absurd k (by unfold tw; exact id)
  | succ h => exact ⟨k.1, k.2.1⟩
theorem node_F {I M : am_I} {N c n q t : Nat} (hR : PR I M N c) (hn : n < N) (h42 : M 42 n = nI q) (hq : q < 100) (h71 : M 71 n = nI t) (ht : t < c) : ∃ o, M 41 n = nI o ∧ I 7 q = nI o ∧ o ≤ 13 ∧ I 15 q = nI (tm t) ∧ rl I M c n q o t ∧ (o ≤ 3 → I 12 q = M 43 n) ∧ (o = 1 → M 43 n = 0 ∨ M 43 n = 1) ∧ (3 ≤ o → pa I M n q N 46 9) ∧ (4 ≤ o → o ≤ 9 → pa I M n q N 47 10) ∧ (o = 9 → pa I M n q N 48 11) ∧ pr I M n q := by
  obtain ⟨p1, p2, p3, p4, p5, p6⟩ := hR
  obtain ⟨q', o, h1, h2, h3, h4, h5, h6, h7, h8, h9, h10, h11, h12, h13⟩ := p3 n hn
  obtain ⟨q'', o', t', g1, g2, g3, g4, g5, g6, g7, g8⟩ := p5 n hn
  have e1 : q' = q := nI_inj (by omega) (by omega) (h1.symm.trans h42)
  have e2 : q'' = q := nI_inj (by omega) (by omega) (g1.symm.trans h42)
  have e3 : o' = o := nI_inj (by omega) (by omega) (g3.symm.trans h3)
  have hc := p2.2.1
  have e4 : t' = t := nI_inj (by omega) (by omega) (g5.symm.trans h71)
  subst e1
  subst e2
  subst e3
  subst e4
  exact ⟨o', h3, h4, h5, g7, g8, h7, h8, h11, h12, h13, h6⟩
theorem part_F {I M : am_I} {N c n q a qa ta x y : Nat} (hR : PR I M N c) (hn : n < N) (h42 : M 42 n = nI q) (h : pf M c n x a qa ta) (k : pa I M n q N x y) : a < N ∧ n < a ∧ M x n = nI a ∧ M 42 a = nI qa ∧ qa < 100 ∧ M 71 a = nI ta ∧ ta < c ∧ I y q = nI qa ∧ M 45 a = nI n ∧ I 8 qa = nI q ∧ I 15 qa = nI (tm ta) := by
  obtain ⟨h1, h2, h3, h4, h5, h6, h7⟩ := h
  obtain ⟨a', q', g1, g2, g3, g4, g5, g6⟩ := k
  have hN := hR.1
  have e : a' = a := nI_inj (by omega) (by omega) (g3.symm.trans h1)
  subst e
  obtain ⟨o, b1, b2, b3, b4, b5, b6, b7, b8, b9, b10, b11⟩ := node_F hR g2 h4 h5 h6 h7
  refine ⟨g2, h2, h1, h4, h5, h6, h7, by rw [g5, ← g4, h4], g6, ?_, b4⟩
  rcases b11 with ⟨z, _⟩ | ⟨m', z1, z2, z3⟩
  · rw [g6] at z
    exact absurd z (nI_nm (by omega))
  · have e2 : m' = n := nI_inj (by omega) (by omega) (z2.symm.trans g6)
    rw [z3, e2, h42]
theorem env_part {M : am_I} {fn : Nat → Nat} {n a s : Nat} (h : env M fn n s) (h1 : M 45 a = nI n) (h2 : n < a) (h3 : ¬ M 41 n = 3) : env M fn a s := by
  rcases h with ⟨a1, k, a2⟩ | ⟨a1, k, a2⟩
  · exact .inl ⟨a1, k + 1, .inr ⟨n, h1, h2, h3, a2⟩⟩
  · exact .inr ⟨a1, k + 1, n, h1, h2, .inr ⟨h3, a2⟩⟩
theorem env_body {M : am_I} {fn : Nat → Nat} {f b s : Nat} (h1 : M 45 b = nI f) (h2 : f < b) (h3 : M 41 f = 3) (h4 : fn s = f) (h5 : 1 ≤ s) : env M fn b s := .inr ⟨h5, 1, f, h1, h2, .inl ⟨h3, h4⟩⟩

theorem mF_leaf (I : am_I) (J : am_J) (M : am_I) (x : Int64) (r : Int32) : mF I (wr I 21 16 1) J (wrJ J 21 17 x) M (gvM M r) := by
  refine ⟨fun z a b d => wr_ne I 21 16 z 1 a, fun y a => wr_n2 I 21 16 y 1 (by omega), fun z a b => wrJ_ne J 21 17 z x a, fun z a b => ?_, fun y a b d e => ?_⟩
  · unfold gvM
    rw [va_up_ne _ _ a]
  · simp [gvM, va_up, upd, b, e]
/-- a leaf's value is given -/
theorem ev_give {N c fu fr g q s w t : Nat} {I : am_I} {J : am_J} {M : am_I} {Sg fn : Nat → Nat} {V W K C P : Nat} {S : List am_T} {st sr : Nat} {M1 : am_I} {V1 v : Nat} {S1 : List am_T} {x : Int64} (hD : DR I J M Sg fn N c V W K C fu P S) (hD1 : DR I J M1 Sg fn N c V1 W K C fu P S1) (hF : rF fr g I I J J M M1 Sg Sg fn fn V V1 W W K K C C S S1) (m44 : M1 36 44 = nI g) (hv : VR M1 Sg fn N c V1 W K C v x t) (hv2 : v < 2300) (i16 : I 21 16 = 0) (i14 : I 21 14 = nI q) (i15 : I 21 15 = nI s) (i6 : I 21 6 = nI fr) (hn : ∃ n, n < 101 ∧ M 36 58 = nI n) (kI : ∀ (scr : Nat → Int32) (L F d : Nat) (Mx : am_I), am_r scr L (F + 200000) (d + 8) 34 [.ref 22] (hp I J Mx) = some (none, hp (wr I 21 16 1) (wrJ J 21 17 x) Mx, 0, 0)) (kM : ∀ (scr : Nat → Int32) (L F d : Nat) (Ix : am_I) (Jx : am_J), am_r scr L (F + 200000) (d + 9) 123 [.ref 37] (hp Ix Jx M) = some (none, hp Ix Jx (gvM M1 (nI v)), 0, 0)) (hst : st + 2000 * (40 - C) + 10 * w ≤ 99000) (hsr : sr + 2000 * (40 - C) + 10 * w ≤ 99000) (hP : P ≤ st) (hw : 1 ≤ w) (hB1 : 4 * S1.length + 1 ≤ 4 * S.length + w) : rV N c fu fr g q s w I J M Sg fn V W K C P S st sr t := by
  have hm : mF I (wr I 21 16 1) J (wrJ J 21 17 x) M1 (gvM M1 (nI v)) := mF_leaf I J M1 x (nI v)
  have c12 := hD.1.2.2.2.2.1.2.2
  have c7 := hD.1.2.2.2.2.1.1
  have c51 := hD.1.2.2.2.2.1.2.1
  obtain ⟨n, hn1, hn2⟩ := hn
  refine ⟨wr I 21 16 1, wrJ J 21 17 x, gvM M1 (nI v), Sg, fn, V1, W, K, C, P, S1, st + 1, sr + 1, x, v, DR_m hm hD1, rF_trans hF (rF_m (fr := fr) (g := g) hm (fun j _ => ⟨rfl, rfl, rfl⟩) (fun j _ => ⟨rfl, rfl, rfl, rfl⟩)) (Nat.le_refl _) (Nat.le_refl _), rN_1 (fun scr L F d Mx mo A R z => ?_) (fun scr L F d Ix Jx mo A R z => ?_), ⟨wr_s _ _ _ _, ?_, ?_, ?_, wrJ_s _ _ _ _⟩, ⟨?_, ?_, ?_⟩, VR_X (ext_m hm) hv, hv2, ?_, by omega, by omega, by omega⟩
  · exact x_enter scr L F d I J Mx mo st (by omega) c12 i16 _ _ (kI scr L F (d + 2) Mx) (by rw [wr_ap _ _ _ _ _ _ (by omega)]; exact c7) A R z
  · exact y_enter scr L F d Ix Jx M mo sr (by omega) c51 n hn1 hn2 _ (kM scr L F (d + 4) Ix Jx) A R z
  · rw [wr_n2 _ _ _ _ _ (by omega)]
    exact i14
  · rw [wr_n2 _ _ _ _ _ (by omega)]
    exact i15
  · rw [wr_n2 _ _ _ _ _ (by omega)]
    exact i6
  · simp [gvM, va_up, upd]
  · simp [gvM, va_up, upd]
  · simp [gvM, va_up, upd, m44]
  · omega
theorem ev_lit {N c fu φ h : Nat} {I : am_I} {J : am_J} {M : am_I} {Sg fn : Nat → Nat} {V W K C P : Nat} {S : List am_T} {st sr : Nat} (n q s fr g w t : Nat) (hD : DR I J M Sg fn N c V W K C fu P S) (hR : PR I M N c) (hL : LTs M N S) (hS : SI I) (hn : n < N) (htw : tw I M N c (h + 1) w n) (h42 : M 42 n = nI q) (hq : q < 100) (h71 : M 71 n = nI t) (ht : t < c) (i16 : I 21 16 = 0) (i14 : I 21 14 = nI q) (i15 : I 21 15 = nI s) (i6 : I 21 6 = nI fr) (m58 : M 36 58 = nI n) (m59 : M 36 59 = nI s) (m44 : M 36 44 = nI g) (henv : env M fn n s) (hs : s ≤ C) (hφ : fu - C ≤ φ) (hw : w ≤ 100) (hfr : fr + (h + 1) ≤ 20 * (C + 1)) (hg : g + (h + 1) ≤ 20 * (C + 1)) (hB : 4 * (S.length + 2 * (200 - W) + 2 * (40 - K) + 2 * (40 - C)) + 100 * (40 - C) + w ≤ 9160) (hst : st + 2000 * (40 - C) + 10 * w ≤ 99000) (hsr : sr + 2000 * (40 - C) + 10 * w ≤ 99000) (hP : P ≤ st) (o : Nat) (h41 : M 41 n = nI o) (ho : o ≤ 1) : rX I J M st sr ∨ rV N c fu fr g q s w I J M Sg fn V W K C P S st sr t := by
  right
  obtain ⟨o', b1, b2, b3, b4, b5, b6, b7, b8⟩ := node_F hR hn h42 hq h71 ht
  have eo : o' = o := nI_inj (by omega) (by omega) (b1.symm.trans h41)
  subst eo
  have hN := hR.1
  have hw1 := htw.2.1
  have hlen : S.length ≤ 2298 := by omega
  have hm : (nI o', M 43 n, (0 : Int32)) ∈ S := by
    rcases (show o' = 0 ∨ o' = 1 by omega) with z | z <;> subst z
    · exact hL.1 n hn h41
    · rcases b7 rfl with z | z
      · rw [z]
        exact hL.2.1
      · rw [z]
        exact hL.2.2
  obtain ⟨v, V1, M1, S1, d1, d2, d3, d4, d5, d6, d7, d8, d9, d10⟩ := DR_v hD hlen (nI o') (M 43 n) 0
  have hS1 := d8 hm
  subst hS1
  obtain ⟨r1, r2, r3⟩ := row_3 d6
  have hv : VR M1 Sg fn N c V1 W K C v (v_of (nI o') (M 43 n)) t := by
    left
    rcases (show o' = 0 ∨ o' = 1 by omega) with z | z <;> subst z
    · have et := b5.1 rfl
      subst et
      exact ⟨by omega, d4, ht, .inl ⟨r1, rfl, by rw [r2]⟩⟩
    · have et := b5.2.1 rfl
      subst et
      exact ⟨by omega, d4, ht, .inr (.inl ⟨r1, rfl, by rw [r2]; exact b7 rfl, by rw [r2]⟩)⟩
  refine ev_give hD d1 (rF_c d3 d2 (fun _ z => z)) ((d3.2.2.2.2 44 (by omega) (by omega) (by omega) (by omega)).trans m44) hv d5 i16 i14 i15 i6 ⟨n, by omega, m58⟩ (fun scr L F d Mx => ?_) (fun scr L F d Ix Jx => ?_) hst hsr hP hw1 (by omega)
  · rcases (show o' = 0 ∨ o' = 1 by omega) with z | z <;> subst z
    · exact c34_num scr L F d I J Mx q i14 hq b2 (M 43 n) (b6 (by omega))
    · exact c34_bool scr L F d I J Mx q i14 hq b2 (M 43 n) (b6 (by omega))
  · rcases (show o' = 0 ∨ o' = 1 by omega) with z | z <;> subst z
    · exact e123_num scr L F d Ix Jx M n m58 (by omega) h41 (M 43 n) rfl (nI v) M1 (d10 scr L F (d + 7) Ix Jx)
    · exact e123_bool scr L F d Ix Jx M n m58 (by omega) h41 (M 43 n) rfl (nI v) M1 (d10 scr L F (d + 7) Ix Jx)
theorem ev_fun {N c fu φ h : Nat} {I : am_I} {J : am_J} {M : am_I} {Sg fn : Nat → Nat} {V W K C P : Nat} {S : List am_T} {st sr : Nat} (n q s fr g w t : Nat) (hD : DR I J M Sg fn N c V W K C fu P S) (hR : PR I M N c) (hL : LTs M N S) (hS : SI I) (hn : n < N) (htw : tw I M N c (h + 1) w n) (h42 : M 42 n = nI q) (hq : q < 100) (h71 : M 71 n = nI t) (ht : t < c) (i16 : I 21 16 = 0) (i14 : I 21 14 = nI q) (i15 : I 21 15 = nI s) (i6 : I 21 6 = nI fr) (m58 : M 36 58 = nI n) (m59 : M 36 59 = nI s) (m44 : M 36 44 = nI g) (henv : env M fn n s) (hs : s ≤ C) (hφ : fu - C ≤ φ) (hw : w ≤ 100) (hfr : fr + (h + 1) ≤ 20 * (C + 1)) (hg : g + (h + 1) ≤ 20 * (C + 1)) (hB : 4 * (S.length + 2 * (200 - W) + 2 * (40 - K) + 2 * (40 - C)) + 100 * (40 - C) + w ≤ 9160) (hst : st + 2000 * (40 - C) + 10 * w ≤ 99000) (hsr : sr + 2000 * (40 - C) + 10 * w ≤ 99000) (hP : P ≤ st) (h41 : M 41 n = nI 3) : rX I J M st sr ∨ rV N c fu fr g q s w I J M Sg fn V W K C P S st sr t := by
  right
  obtain ⟨o', b1, b2, b3, b4, b5, b6, b7, b8⟩ := node_F hR hn h42 hq h71 ht
  have eo : o' = 3 := nI_inj (by omega) (by omega) (b1.symm.trans h41)
  subst eo
  have hN := hR.1
  obtain ⟨g1, g2, o, g3, g4, g5, _⟩ := htw
  have eo : o = 3 := nI_inj (by omega) (by omega) (g3.symm.trans h41)
  obtain ⟨a, tt, l, w1, k1, k2, k3, k4, k5, k6, k7, k8⟩ := g5 eo
  obtain ⟨ln1, ln2, ln3, _⟩ := ty_len hD.2.1 k5
  have l1 : 1 ≤ l := by
    have := nI_inj (by omega) (by omega) (k6.symm.trans ln1)
    omega
  have w11 := (tw_lt k3).2
  have hlen : S.length ≤ 2298 := by omega
  obtain ⟨v, V1, M1, S1, d1, d2, d3, d4, d5, d6, d7, d8, d9, d10⟩ := DR_v hD hlen 2 (nI n) (nI s)
  obtain ⟨r1, r2, r3⟩ := row_3 d6
  obtain ⟨s', a', qa, ta, f1, f2, f3, f4, f5, f6⟩ := b5.2.2.2.1 rfl
  have hfu := hD.1.2.2.2.1
  have n3 : nI 3 = (3 : Int32) := nI_3
  have z41 := d2.2.2.2.2.2 41 (by omega)
  have z42 := d2.2.2.2.2.2 42 (by omega)
  have z71 := d2.2.2.2.2.2 71 (by omega)
  have z38 := d2.2.2.2.2.2 38 (by omega)
  have z45 := d2.2.2.2.2.2 45 (by omega)
  have t2 : ¬ t = 2 := by
    intro z
    have := (hD.2.1.2.2.2.2.2.2.1 2 (by omega)).2.2.2.2
    rw [z, this] at f4
    exact absurd f4 (by decide)
  have hv : VR M1 Sg fn N c V1 W K C v (v_of (nI 2) (nI (q * 41 + s))) t := by
    left
    exact ⟨t2, d4, ht, .inr (.inr (.inl ⟨r1, by rw [z38]; exact f4, n, q, s, hn, r2, r3, hs, by rw [z41, h41]; exact n3, by rw [z42]; exact h42, hq, by rw [z71]; exact h71, rfl, env_X (C := C) z41 z45 (fun _ _ _ => rfl) hs henv⟩))⟩
  refine ev_give hD d1 (rF_c d3 d2 d9) ((d3.2.2.2.2 44 (by omega) (by omega) (by omega) (by omega)).trans m44) hv d5 i16 i14 i15 i6 ⟨n, by omega, m58⟩ (fun scr L F d Mx => ?_) (fun scr L F d Ix Jx => ?_) hst hsr hP g2 (by omega)
  · exact c34_fun scr L F d I J Mx q i14 hq b2 s i15
  · exact e123_fun scr L F d Ix Jx M n m58 (by omega) (by rw [h41]; exact n3) (nI s) m59 (nI v) M1 (d10 scr L F (d + 7) Ix Jx)
/-- looking a variable up -/
theorem var_ok {I : am_I} {J : am_J} {M : am_I} {Sg fn : Nat → Nat} {N c V W K C : Nat} {f : Nat → Nat} {nm : Int32} (hC : C ≤ 40) (hsc : ∀ s, 1 ≤ s → s ≤ C → SCk I J M Sg fn N c V W K C s) (hf : ∀ s, s < 41 → I 33 s = nI (f s) ∧ f s < 41) (n0 : Nat) (hn0 : n0 < 101) (h43 : M 43 n0 = nm) : ∀ (k m s j b : Nat), up M nm k m j b → m < 101 → env M fn m s → s ≤ C → ∃ s', vi f b s = s' ∧ 1 ≤ s' ∧ s' ≤ C ∧ fn s' = j ∧ (∀ (scr : Nat → Int32) (L F d : Nat) (Ix : am_I) (Jx : am_J) (r : Int32), M 63 s' = r → h23 scr L F d Ix Jx M n0 s (60 * (s + 1)) (some (none, hp Ix Jx (gvM M r), 0, 0))) := by
  intro k
  induction k with
  | zero => intro m s j b h; exact h.elim
  | succ k ih =>
    intro m s j b h hm he hs
    obtain ⟨p, u1, u2, u3⟩ := h
    have pe : ∀ p', M 45 m = nI p' → p' < m → p' = p := fun p' y1 y2 => nI_inj (by omega) (by omega) (y1.symm.trans u1)
    have key : M 41 p = 3 → 1 ≤ s ∧ fn s = p := by
      intro z
      rcases he with ⟨_, e, e1⟩ | ⟨e0, e, e1⟩
      · cases e with
        | zero => exact e1.elim
        | succ e =>
          rcases e1 with y | ⟨p', y1, y2, y3, y4⟩
          · rw [u1] at y
            exact absurd y (nI_nm (by omega))
          · rw [pe p' y1 y2] at y3
            exact absurd z y3
      · cases e with
        | zero => exact e1.elim
        | succ e =>
          obtain ⟨p', y1, y2, y3⟩ := e1
          have ep := pe p' y1 y2
          rcases y3 with ⟨_, y4⟩ | ⟨y4, _⟩
          · exact ⟨e0, y4.trans ep⟩
          · rw [ep] at y4
            exact absurd z y4
    rcases u3 with ⟨a1, a2, a3, a4⟩ | ⟨a1, a2, b', a3, a4⟩ | ⟨a1, a2⟩
    · obtain ⟨k1, k2⟩ := key a1
      obtain ⟨_, _, q3, _, s', q5, q6, q7, q8⟩ := hsc s k1 hs
      subst a4
      refine ⟨s, rfl, k1, hs, k2.trans a3.symm, fun scr L F d Ix Jx r hr => ?_⟩
      have := h23_found scr L F d Ix Jx M n0 s hn0 (by omega) (by rw [q3, k2, a2, h43]) r hr
      exact fun f hf => this f (by omega)
    · obtain ⟨k1, k2⟩ := key a1
      obtain ⟨_, _, q3, _, s', q5, q6, q7, q8⟩ := hsc s k1 hs
      obtain ⟨f1, f2⟩ := hf s (by omega)
      have es : f s = s' := nI_inj (by omega) (by omega) (f1.symm.trans q6)
      obtain ⟨s2, v1, v2, v3, v4, v5⟩ := ih p s' j b' a4 (by omega) (by rw [← k2]; exact q8) (by omega)
      subst a3
      refine ⟨s2, by rw [← v1, ← es]; rfl, v2, v3, v4, fun scr L F d Ix Jx r hr => ?_⟩
      have := h23_skip scr L F d Ix Jx M n0 s hn0 (by omega) (by rw [q3, k2, h43]; exact a2) s' q5 _ _ (v5 scr L F d Ix Jx r hr)
      exact fun f hf => this f (by omega)
    · refine ih p s j b a2 (by omega) ?_ hs
      rcases he with ⟨e0, e, e1⟩ | ⟨e0, e, e1⟩
      · cases e with
        | zero => exact e1.elim
        | succ e =>
          rcases e1 with y | ⟨p', y1, y2, y3, y4⟩
          · rw [u1] at y
            exact absurd y (nI_nm (by omega))
          · rw [pe p' y1 y2] at y4
            exact .inl ⟨e0, e, y4⟩
      · cases e with
        | zero => exact e1.elim
        | succ e =>
          obtain ⟨p', y1, y2, y3⟩ := e1
          have ep := pe p' y1 y2
          rcases y3 with ⟨y3, _⟩ | ⟨_, y4⟩
          · rw [ep] at y3
            exact absurd y3 a1
          · rw [ep] at y4
            exact .inr ⟨e0, e, y4⟩
theorem ev_var {N c fu φ h : Nat} {I : am_I} {J : am_J} {M : am_I} {Sg fn : Nat → Nat} {V W K C P : Nat} {S : List am_T} {st sr : Nat} (n q s fr g w t : Nat) (hD : DR I J M Sg fn N c V W K C fu P S) (hR : PR I M N c) (hL : LTs M N S) (hS : SI I) (hn : n < N) (htw : tw I M N c (h + 1) w n) (h42 : M 42 n = nI q) (hq : q < 100) (h71 : M 71 n = nI t) (ht : t < c) (i16 : I 21 16 = 0) (i14 : I 21 14 = nI q) (i15 : I 21 15 = nI s) (i6 : I 21 6 = nI fr) (m58 : M 36 58 = nI n) (m59 : M 36 59 = nI s) (m44 : M 36 44 = nI g) (henv : env M fn n s) (hs : s ≤ C) (hφ : fu - C ≤ φ) (hw : w ≤ 100) (hfr : fr + (h + 1) ≤ 20 * (C + 1)) (hg : g + (h + 1) ≤ 20 * (C + 1)) (hB : 4 * (S.length + 2 * (200 - W) + 2 * (40 - K) + 2 * (40 - C)) + 100 * (40 - C) + w ≤ 9160) (hst : st + 2000 * (40 - C) + 10 * w ≤ 99000) (hsr : sr + 2000 * (40 - C) + 10 * w ≤ 99000) (hP : P ≤ st) (h41 : M 41 n = nI 2) : rX I J M st sr ∨ rV N c fu fr g q s w I J M Sg fn V W K C P S st sr t := by
  right
  obtain ⟨o', b1, b2, b3, b4, b5, b6, b7, b8⟩ := node_F hR hn h42 hq h71 ht
  have eo : o' = 2 := nI_inj (by omega) (by omega) (b1.symm.trans h41)
  subst eo
  have hN := hR.1
  have hw1 := htw.2.1
  have hlen : S.length ≤ 2298 := by omega
  have hfu := hD.1.2.2.2.1
  obtain ⟨k, j, b, u1, u2, u3, u4, u5⟩ := b5.2.2.1 rfl
  obtain ⟨f, hf⟩ : ∃ f : Nat → Nat, ∀ s, s < 41 → I 33 s = nI (f s) ∧ f s < 41 := by
    refine ⟨fun s => (I 33 s).toNatClampNeg, fun s hs => ?_⟩
    obtain ⟨k, k1, k2⟩ := hS s hs
    have e : (I 33 s).toNatClampNeg = k := by
      rw [k2]
      exact nI_clamp (by omega)
    show I 33 s = nI (I 33 s).toNatClampNeg ∧ (I 33 s).toNatClampNeg < 41
    rw [e]
    exact ⟨k2, k1⟩
  obtain ⟨s', v1, v2, v3, v4, v5⟩ := var_ok (by omega) hD.2.2.2.2.1 hf n (by omega) rfl k n s j b u1 (by omega) henv hs
  obtain ⟨q1, q2, q3, ⟨t', v, q4, q5, q6, q7⟩, _⟩ := hD.2.2.2.2.1 s' v2 v3
  have hc := hD.2.1.2.1
  have et : t' = t := by
    rw [v4, u4] at q5
    exact (nI_inj (by omega) (by omega) q5).symm
  subst et
  have hTB := hD.2.2.2.2.2
  have hV9 := pigeon (row M) V S hTB.1 hTB.2
  have hv9 : v < V := by
    rcases q7 with ⟨_, z⟩ | ⟨_, z, _⟩
    · exact z.1
    · exact z
  refine ev_give hD hD (rF_S (fun _ z => z)) m44 q7 (by omega) i16 i14 i15 i6 ⟨n, by omega, m58⟩ (fun scr L F d Mx => ?_) (fun scr L F d Ix Jx => ?_) hst hsr hP hw1 (by omega)
  · have := c34_var scr L F d I J Mx q i14 hq b2 f b s (by omega) hf i15 (by omega) u5
    rw [v1] at this
    exact this
  · exact e123_var scr L F d Ix Jx M n m58 (by omega) h41 s m59 _ _ (by omega) (v5 scr L F d Ix Jx (nI v) q6)

