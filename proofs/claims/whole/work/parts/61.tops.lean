/-! Checking: helpers for a node. -/
def kF (I I' : am_I) : Prop := ∀ z q, (z = 0 ∨ z = 1 ∨ (7 ≤ z ∧ z ≤ 13) ∨ 17 ≤ z) → I' z q = I z q
def kG (M M' : am_I) : Prop := (∀ z m, ¬ z = 36 → ¬ (38 ≤ z ∧ z ≤ 40) → ¬ z = 54 → ¬ z = 71 → M' z m = M z m) ∧ (∀ y, ¬ y = 2 → M' 36 y = M 36 y)
theorem kF_refl (I : am_I) : kF I I := fun _ _ _ => rfl
theorem kG_refl (M : am_I) : kG M M := ⟨fun _ _ _ _ _ _ => rfl, fun _ _ => rfl⟩
theorem kF_trans {A B C : am_I} (h1 : kF A B) (h2 : kF B C) : kF A C := fun z q h => (h2 z q h).trans (h1 z q h)
theorem kG_trans {A B C : am_I} (h1 : kG A B) (h2 : kG B C) : kG A C := ⟨fun z q a b c d => (h2.1 z q a b c d).trans (h1.1 z q a b c d), fun y a => (h2.2 y a).trans (h1.2 y a)⟩
theorem kF_wr {I : am_I} {x s : Nat} {v : Int32} (h : 14 ≤ x ∧ x ≤ 16) : kF I (wr I x s v) := fun z q w => wr_q _ _ _ _ _ _ (by omega)
theorem kF_gv {I : am_I} {q : Nat} {v : Int32} : kF I (gv I q v) := kF_trans (kF_wr (by omega)) (kF_wr (by omega))
theorem kF_fT {I I' : am_I} (h : fT I I') : kF I I' := fun z q w => congrFun (h z (by omega) (by omega) (by omega) (by omega) (by omega)) q
theorem kG_gT {M M' : am_I} (h : gT M M') : kG M M' := ⟨fun z m a b c d => congrFun (h.1 z a (by omega) (by omega) (by omega)) m, fun y a => h.2 y a⟩
theorem kG_54 {M : am_I} {g : Nat → Int32} : kG M (va_up M 54 g) := ⟨fun z m _ _ c _ => congrFun (va_up_ne _ _ c) m, fun y _ => by rw [va_up_ne _ _ (by omega)]⟩
theorem kG_71 {M : am_I} {y : Nat} {v : Int32} : kG M (wr M 71 y v) := ⟨fun z m _ _ _ d => wr_ap _ _ _ _ _ _ d, fun z _ => wr_ap _ _ _ _ _ _ (by omega)⟩
theorem kG_kS {M M' : am_I} (h : kG M M') : kS M M' ∧ M' 50 = M 50 := by
  have e : ∀ z, 41 ≤ z → z ≤ 50 → M' z = M z := fun z a b => funext fun m => h.1 z m (by omega) (by omega) (by omega) (by omega)
  exact ⟨⟨e 41 (by omega) (by omega), e 42 (by omega) (by omega), e 43 (by omega) (by omega), e 44 (by omega) (by omega), e 45 (by omega) (by omega), e 46 (by omega) (by omega), e 47 (by omega) (by omega), e 48 (by omega) (by omega)⟩, e 50 (by omega) (by omega)⟩
def ckR (I0 M0 : am_I) (c0 N K : Nat) (I M : am_I) (c k y q : Nat) : Prop :=
  (∃ I' M' a qa, a < 101 ∧ M' 42 a = nI qa ∧ qa < 100 ∧ kF I I' ∧ kG M M' ∧ tyX I M I' M' c ∧ (∀ (scr : Nat → Int32) (L F d : Nat) (J : am_J) (Mx : am_I), am_r scr L (F + 63000) (d + 45) 21 [.ref 21, .int (nI q)] (hp I J Mx) = some (some (.int (nI qa)), hp I' J Mx, 0, 0)) ∧ (∀ (scr : Nat → Int32) (L F d : Nat) (Ix : am_I) (J : am_J), am_r scr L (F + 63000) (d + 20) 110 [.ref 37, .int (nI y)] (hp Ix J M) = some (some (.int (-1 - nI a)), hp Ix J M', 0, 0)))
  ∨ (∃ I' M' c' t, t < 105 ∧ (c ≤ c' ∧ tyX I M I' M' c) ∧ kF I I' ∧ kG M M' ∧ (∀ (scr : Nat → Int32) (L F d : Nat) (J : am_J) (Mx : am_I), am_r scr L (F + 63000) (d + 45) 21 [.ref 21, .int (nI q)] (hp I J Mx) = some (some (.int (-1)), hp I' J Mx, 0, 0)) ∧ (∀ (scr : Nat → Int32) (L F d : Nat) (Ix : am_I) (J : am_J), am_r scr L (F + 63000) (d + 20) 110 [.ref 37, .int (nI y)] (hp Ix J M) = some (some (.int (nI t)), hp Ix J M', 0, 0)) ∧ SK I0 M0 c0 N K I' (wr M' 71 y (nI t)) c' (k + 1))
theorem fin_ok {I0 M0 I M I' M1 : am_I} {c0 N K c c' k y q o t : Nat} (h : SK I0 M0 c0 N K I M c k) (hk : k < K) (hy : M0 50 k = nI y) (hyN : y < N) (hq : M0 42 y = nI q) (hq2 : q < 100) (h41 : M0 41 y = nI o) (ho : o ≤ 13) (hlt : ∀ a, a < 101 → ip M0 y a → y < a) (hR : tyR I' M1 c') (hX : tyX I M I' M1 c) (hc : c ≤ c') (hc2 : c' ≤ c + 1) (ht : t < c') (g1 : kG M M1) (g3 : M1 71 = M 71) (i1 : kF I I') (i3 : ∀ p, ¬ p = q → I' 15 p = I 15 p ∧ I' 14 p = I 14 p) (i4 : ∀ p, ¬ p = q → (∀ z, z < N → M0 45 z = nI y → ¬ M0 42 z = nI p) → I' 16 p = I 16 p) (i5 : I' 15 q = nI (tm t)) (i6 : I' 16 q = nI (tm t)) (hlen : ∀ h w, tw I0 M0 N c0 h w y → hb M1 (19 + h) t ∧ tln I' t ≤ 100 + w) (hrl : rl I' M1 c' y q o t) : SK I0 M0 c0 N K I' (wr M1 71 y (nI t)) c' (k + 1) := by
  have hS := h
  obtain ⟨hpg, ⟨e1, e2, e3, e4⟩, h3, h4, h5, h6, h7, h8, v1, v2⟩ := h
  obtain ⟨s1, s2⟩ := kG_kS g1
  have w71 : kG M1 (wr M1 71 y (nI t)) := kG_71
  obtain ⟨s3, s4⟩ := kG_kS w71
  have mv : ∀ z, ¬ z = 71 → wr M1 71 y (nI t) z = M1 z := fun z hz => wr_ne _ _ _ _ _ hz
  have hR2 : tyR I' (wr M1 71 y (nI t)) c' := tyR_congr rfl rfl rfl rfl rfl (by rw [mv 36 (by omega)]) (by rw [mv 36 (by omega)]) (by rw [mv 36 (by omega)]) (mv 38 (by omega)) (mv 39 (by omega)) (mv 40 (by omega)) hR
  have hX2 : ∀ c, tyX I' M1 I' (wr M1 71 y (nI t)) c := fun c => tyX_wM (tyX_refl _ _ _) (by omega)
  have k0 := kS_trans e1 s1
  have x41 : M1 41 y = nI o := by
    rw [k0.1]
    exact h41
  have x42 : M1 42 y = nI q := by
    rw [k0.2.1]
    exact hq
  refine ck_ok hS hk hy hyN hq hq2 ⟨kS_trans s1 s3, s4.trans s2, fun z z1 z2 => funext fun p => i1 z p (by omega), funext fun p => i1 17 p (by omega), fun m hm => ?_, i3, i4⟩ hR2 (tyX_trans hX (hX2 c') hc) hc hc2 ?_ (i6.trans i5.symm)
  · rw [wr_n2 _ _ _ _ _ hm, g3]
  · refine ⟨q, o, t, by rw [mv 42 (by omega)]; exact x42, hq2, by rw [mv 41 (by omega)]; exact x41, ho, wr_s _ _ _ _, ht, i5, fun h w z => ?_, ?_⟩
    · obtain ⟨y1, y2⟩ := hlen h w z
      exact ⟨hb_eq (mv 38 (by omega)) (mv 39 (by omega)) (mv 40 (by omega)) y1, y2⟩
    · refine rl_X ho x41 hR (hX2 c') (Nat.le_refl _) s3 ht rfl (fun a a1 a2 => ⟨?_, fun _ _ => rfl⟩) hrl
      refine wr_n2 _ _ _ _ _ ?_
      have a3 : ip M0 y a := ip_X (fun z z1 z2 => by
        obtain ⟨t1, t2, t3, t4, t5, t6, t7, t8⟩ := k0
        rcases (by omega : z = 41 ∨ z = 42 ∨ z = 43 ∨ z = 44 ∨ z = 45 ∨ z = 46 ∨ z = 47 ∨ z = 48) with w | w | w | w | w | w | w | w <;> subst w
        · rw [t1]
        · rw [t2]
        · rw [t3]
        · rw [t4]
        · rw [t5]
        · rw [t6]
        · rw [t7]
        · rw [t8]) a2
      have := hlt a a1 a3
      omega
theorem nd_lt {I M : am_I} {N c y : Nat} (h : nd I M N c y) (hN : N ≤ 100) (hy : y < N) : ∀ a, a < 101 → ip M y a → y < a := by
  intro a a1 a2
  obtain ⟨q, o, n1, n2, n3, n4, n5, n6, n7, n8, n9, n10, n11, n12, n13⟩ := h
  obtain ⟨o', m1, m2, m3⟩ := a2
  have eo := nI_inj (by omega) (by omega) (n3.symm.trans m2)
  subst eo
  rcases m3 with ⟨u1, u2⟩ | ⟨u1, u2, u3⟩ | ⟨u1, u2⟩
  · obtain ⟨a9, q9, w1, w2, w3, w4, w5, w6⟩ := n11 u1
    have := nI_inj (by omega) (by omega) (w3.symm.trans u2)
    omega
  · obtain ⟨a9, q9, w1, w2, w3, w4, w5, w6⟩ := n12 u1 u2
    have := nI_inj (by omega) (by omega) (w3.symm.trans u3)
    omega
  · obtain ⟨a9, q9, w1, w2, w3, w4, w5, w6⟩ := n13 u1
    have := nI_inj (by omega) (by omega) (w3.symm.trans u2)
    omega
theorem twA {I M : am_I} {N c h w y o a : Nat} (ht : tw I M N c h w y) (h41 : M 41 y = nI o) (ho : 3 ≤ o) (ho2 : o ≤ 13) (ha : M 46 y = nI a) (ha2 : a < 101) (hN : N ≤ 100) : ∃ h' w', h = h' + 1 ∧ tw I M N c h' w' a ∧ w' ≤ w := by
  cases h with
  | zero => exact absurd ht (fun z => z)
  | succ h =>
    obtain ⟨t1, t2, o', t3, t4, t5, t6, t7, t8⟩ := ht
    have eo := nI_inj (by omega) (by omega) (t3.symm.trans h41)
    subst eo
    have fin : ∀ a' w1, M 46 y = nI a' → tw I M N c h w1 a' → w1 ≤ w → ∃ h' w', h + 1 = h' + 1 ∧ tw I M N c h' w' a ∧ w' ≤ w := by
      intro a' w1 e1 e2 e3
      have la : a' < N := by
        cases h with
        | zero => exact absurd e2 (fun z => z)
        | succ h => exact e2.1
      have := nI_inj (by omega) (by omega) (e1.symm.trans ha)
      subst this
      exact ⟨h, w1, rfl, e2, e3⟩
    by_cases z3 : o' = 3
    · obtain ⟨a', t, l, w1, k1, k2, k3, k4, k5, k6, k7, k8⟩ := t5 z3
      exact fin a' w1 k1 k3 (by omega)
    · by_cases z9 : o' ≤ 9
      · obtain ⟨a', b, w1, w2, k1, k2, k3, k4, k5, k6, k7⟩ := t7 (by omega) z9
        exact fin a' w1 k1 k3 (by omega)
      · obtain ⟨a', w1, k1, k2, k3, k4, _⟩ := t6 (by omega)
        exact fin a' w1 k1 k3 (by omega)
theorem twB {I M : am_I} {N c h w y o a : Nat} (ht : tw I M N c h w y) (h41 : M 41 y = nI o) (ho : 4 ≤ o) (ho2 : o ≤ 9) (ha : M 47 y = nI a) (ha2 : a < 101) (hN : N ≤ 100) : ∃ h' w', h = h' + 1 ∧ tw I M N c h' w' a ∧ w' ≤ w := by
  cases h with
  | zero => exact absurd ht (fun z => z)
  | succ h =>
    obtain ⟨t1, t2, o', t3, t4, t5, t6, t7, t8⟩ := ht
    have eo := nI_inj (by omega) (by omega) (t3.symm.trans h41)
    subst eo
    obtain ⟨a', b, w1, w2, k1, k2, k3, k4, k5, k6, k7⟩ := t7 (by omega) ho2
    have la : b < N := by
      cases h with
      | zero => exact absurd k6 (fun z => z)
      | succ h => exact k6.1
    have := nI_inj (by omega) (by omega) (k4.symm.trans ha)
    subst this
    exact ⟨h, w2, rfl, k6, by omega⟩
theorem tw_w {I M : am_I} {N c h w y : Nat} (ht : tw I M N c h w y) : 1 ≤ w := by
  cases h with
  | zero => exact absurd ht (fun z => z)
  | succ h => exact ht.2.1
theorem hb_sub {I M : am_I} {c k t : Nat} (hR : tyR I M c) (ht : t < c) (h : hb M k t) (h3 : 3 ≤ t) : hb M k (tA M t) ∧ (M 38 t = 3 → hb M k (tB M t)) := by
  have hc := hR.2.1
  cases k with
  | zero =>
    have : t < 3 := h
    omega
  | succ k =>
    rcases h with h | ⟨a, h1, h2, h4, h5⟩
    · omega
    · have ea : tA M t = a := by
        unfold tA
        rw [h1]
        exact nI_clamp (by omega)
      rw [ea]
      refine ⟨hb_le (by omega) h4, fun z => ?_⟩
      obtain ⟨b, b1, b2, b3⟩ := h5 z
      have eb : tB M t = b := by
        unfold tB
        rw [b1]
        exact nI_clamp (by omega)
      rw [eb]
      exact hb_le (by omega) b3
theorem k14 {I I' M M' : am_I} {c : Nat} (hR : tyR I M c) (hI : ∀ z, 2 ≤ z → z ≤ 6 → I' z = I z) (hM : ∀ z, (z = 36 ∨ z = 38 ∨ z = 39 ∨ z = 40) → M' z = M z) : tyR I' M' c ∧ ∀ c, tyX I M I' M' c := by
  refine ⟨tyR_congr (hI 2 (by omega) (by omega)) (hI 3 (by omega) (by omega)) (hI 4 (by omega) (by omega)) (hI 5 (by omega) (by omega)) (hI 6 (by omega) (by omega)) (by rw [hM 36 (by omega)]) (by rw [hM 36 (by omega)]) (by rw [hM 36 (by omega)]) (hM 38 (by omega)) (hM 39 (by omega)) (hM 40 (by omega)) hR, fun c t _ => ?_⟩
  rw [hI 3 (by omega) (by omega), hI 4 (by omega) (by omega), hI 5 (by omega) (by omega), hI 6 (by omega) (by omega), hM 38 (by omega), hM 39 (by omega), hM 40 (by omega)]
  exact ⟨⟨rfl, rfl, rfl⟩, rfl, rfl, rfl, rfl⟩
theorem gv_z (I : am_I) (q z p : Nat) (x : Int32) (h : ¬ (z = 15 ∧ p = q)) (h2 : ¬ (z = 16 ∧ p = q)) : gv I q x z p = I z p := by
  unfold gv
  rw [wr_q _ _ _ _ _ _ (by omega), wr_q _ _ _ _ _ _ (by omega)]
theorem gv_15 (I : am_I) (q : Nat) (x : Int32) : gv I q x 15 q = x := by
  unfold gv
  rw [wr_q _ _ _ _ _ _ (by omega), wr_s]
theorem gv_16 (I : am_I) (q : Nat) (x : Int32) : gv I q x 16 q = x := wr_s _ _ _ _
theorem gv_ne (I : am_I) (q z : Nat) (x : Int32) (h : ¬ z = 15) (h2 : ¬ z = 16) : gv I q x z = I z := funext fun p => gv_z I q z p x (by omega) (by omega)
theorem tln_I {I I' : am_I} (h : I' 6 = I 6) (t : Nat) : tln I' t = tln I t := by
  unfold tln
  rw [h]
theorem rl_leaf {I M : am_I} {c m q o t : Nat} (h : o ≤ 2) (h0 : o = 0 → t = 0) (h1 : o = 1 → t = 1) (h2 : o = 2 → ∃ k j b, up M (M 43 m) k m j b ∧ j < 101 ∧ b < 101 ∧ M 44 j = nI t ∧ I 14 q = nI b) : rl I M c m q o t := ⟨h0, h1, h2, fun z => by omega, fun z => by omega, fun z => by omega, fun z => by omega, fun z => by omega, fun z => by omega, fun z => by omega, fun z => by omega⟩
theorem ck_lit {I0 M0 I M : am_I} {c0 N K c k y q : Nat} (h : SK I0 M0 c0 N K I M c k) (hk : k < K) (hy : M0 50 k = nI y) (hyN : y < N) (hn : nd I0 M0 N c0 y) (hq : M0 42 y = nI q) (hq2 : q < 100) (o : Nat) (ho : o ≤ 1) (h41 : M0 41 y = nI o) (h7 : I0 7 q = nI o) : ckR I0 M0 c0 N K I M c k y q := by
  have hS := h
  obtain ⟨⟨p1, p2, p3, p4, p5, p6, p7⟩, ⟨e1, e2, e3, e4⟩, h3, h4, h5, h6, h7b, h8, v1, v2⟩ := h
  have x41 : M 41 y = nI o := by
    rw [e1.1]
    exact h41
  have x7 : I 7 q = nI o := by
    rw [e3 7 (by omega) (by omega)]
    exact h7
  have hc5 := h3.1
  have hc6 := h3.2.1
  have tmo : tm o = o + 1 := by
    rcases (by omega : o = 0 ∨ o = 1) with z | z <;> subst z <;> rfl
  obtain ⟨r1, r2⟩ := k14 (I' := gv I q (nI (tm o))) (M' := M) h3 (fun z z1 z2 => gv_ne _ _ _ _ (by omega) (by omega)) (fun z _ => rfl)
  have l1 : tln I o = 1 := by
    unfold tln
    rw [(h3.2.2.2.2.2.2.1 (tm o) (tm_lt (by omega) (by omega))).2.2.2.1]
    decide +kernel
  refine .inr ⟨gv I q (nI (tm o)), M, c, o, by omega, ⟨Nat.le_refl _, r2 c⟩, kF_gv, kG_refl M, fun scr L F d J Mx => ?_, fun scr L F d Ix J => ?_, ?_⟩
  · rcases (by omega : o = 0 ∨ o = 1) with z | z
    · subst z
      exact c21_num scr L F d I J Mx q hq2 x7
    · subst z
      exact c21_bool scr L F d I J Mx q hq2 x7
  · rcases (by omega : o = 0 ∨ o = 1) with z | z
    · subst z
      rw [nI_0]
      exact t_num scr L F d Ix J M y (by omega) x41
    · subst z
      exact t_bool scr L F d Ix J M y (by omega) x41
  · refine fin_ok hS hk hy hyN hq hq2 h41 (by omega) (nd_lt hn p2 hyN) r1 (r2 c) (Nat.le_refl _) (by omega) (by omega) (kG_refl M) rfl kF_gv (fun p hp => ⟨gv_z _ _ _ _ _ (by omega) (by omega), gv_z _ _ _ _ _ (by omega) (by omega)⟩) (fun p hp _ => gv_z _ _ _ _ _ (by omega) (by omega)) (gv_15 _ _ _) (gv_16 _ _ _) (fun h w z => ⟨hb_0 (by omega), ?_⟩) ?_
    · rw [tln_I (gv_ne _ _ _ _ (by omega) (by omega)), l1]
      omega
    · exact rl_leaf (by omega) (fun z => z) (fun z => z) (fun z => by omega)
/-- the way out from a variable, on both sides -/
theorem var_loop {I0 M0 I M : am_I} {c0 N K c k : Nat} (h : SK I0 M0 c0 N K I M c k) (y q : Nat) (hyN : y < N) (hq2 : q < 100) (hnq : I 12 q = M 43 y) : ∀ (m b i qm : Nat), m < N → M0 42 m = nI qm → qm < 100 → i + m ≤ 99 →
    ((∀ (scr : Nat → Int32) (L F d : Nat) (J : am_J) (Mx : am_I), h24 scr L F d I J Mx q b i (I 8 qm) (60 * (m + 1)) (some (some (.int (nI q)), hp I J Mx, 0, 0))) ∧ (∀ (scr : Nat → Int32) (L d : Nat) (call : Nat → List Value → am_H → Option am_X) (Ix : am_I) (J : am_J), h10 scr L d call Ix J M y (M 45 m) (60 * (m + 1)) (some (some (.int (-1 - nI y)), hp Ix J M, 0, 0))))
    ∨ ∃ kk j qj b' t, up M (M 43 y) kk m j b' ∧ j < N ∧ b' ≤ m ∧ t < c0 ∧ M 44 j = nI t ∧ I 13 qj = nI (tm t) ∧ hb M0 19 t ∧ (∃ l, I0 6 (tm t) = nI l ∧ l ≤ 100) ∧ (∀ (scr : Nat → Int32) (L F d : Nat) (J : am_J) (Mx : am_I), h24 scr L F d I J Mx q b i (I 8 qm) (60 * (m + 1)) (some (some (.int (-1)), hp (gv (wr I 14 q (nI (b + b'))) q (nI (tm t))) J Mx, 0, 0))) ∧ (∀ (scr : Nat → Int32) (L d : Nat) (call : Nat → List Value → am_H → Option am_X) (Ix : am_I) (J : am_J), h10 scr L d call Ix J M y (M 45 m) (60 * (m + 1)) (some (some (.int (nI t)), hp Ix J M, 0, 0))) := by
  obtain ⟨⟨p1, p2, p3, p4, p5, p6, p7⟩, ⟨e1, e2, e3, e4⟩, h3, h4, h5, h6, h7b, h8, v1, v2⟩ := h
  intro m
  induction m using Nat.strongRecOn with
  | ind m ih =>
    intro b i qm hm hqm hqm2 hi
    obtain ⟨q0, o0, n1, n2, n3, n4, n5, n6, _⟩ := p4 m hm
    have eq0 := nI_inj (by omega) (by omega) (n1.symm.trans hqm)
    subst eq0
    have e8 : I 8 q0 = I0 8 q0 := by rw [e3 8 (by omega) (by omega)]
    have e45 : M 45 m = M0 45 m := by rw [e1.2.2.2.2.1]
    rcases n6 with ⟨a1, a2⟩ | ⟨m', a1, a2, a3⟩
    · left
      refine ⟨fun scr L F d J Mx => ?_, fun scr L d call Ix J => ?_⟩
      · intro f hf
        exact h24_end scr L F d I J Mx q b i _ hq2 (by omega) (e8.trans a2) f (by omega)
      · intro f hf
        exact h10_end scr L d call Ix J M y _ (by omega) (e45.trans a1) f (by omega)
    · obtain ⟨q', o', b1, b2, b3, b4, b5, b6, b7, b8, b9, b10, _⟩ := p4 m' (by omega)
      have y8 : I 8 q0 = nI q' := e8.trans (a3.trans b1)
      have y45 : M 45 m = nI m' := e45.trans a2
      have x41 : M 41 m' = nI o' := by
        rw [e1.1]
        exact b3
      have x7 : I 7 q' = nI o' := by
        rw [e3 7 (by omega) (by omega)]
        exact b4
      by_cases z : o' = 3
      · subst z
        have x12 : I 12 q' = M 43 m' := by
          rw [e3 12 (by omega) (by omega), e1.2.2.1]
          exact b7 (by omega)
        obtain ⟨t, l, s1, s2, s3, s4, s5, s6⟩ := b10 (.inl rfl)
        have x44 : M 44 m' = nI t := by
          rw [e1.2.2.2.1]
          exact s2
        have x13 : I 13 q' = nI (tm t) := by
          rw [e3 13 (by omega) (by omega)]
          exact s3
        by_cases w : M 43 m' = M 43 y
        · right
          refine ⟨1, m', q', 0, t, ⟨m', y45, a1, .inl ⟨x41, w, rfl, rfl⟩⟩, by omega, by omega, s1, x44, x13, s4, ⟨l, s5, s6⟩, fun scr L F d J Mx => ?_, fun scr L d call Ix J => ?_⟩
          · intro f hf
            exact h24_found scr L F d I J Mx q b i _ hq2 (by omega) q' b2 y8 x7 (x12.trans (w.trans hnq.symm)) _ x13 f (by omega)
          · intro f hf
            exact h10_found scr L d call Ix J M y _ (by omega) m' (by omega) y45 x41 w _ x44 f (by omega)
        · have w2 : ¬ I 12 q' = I 12 q := by
            rw [x12, hnq]
            exact w
          rcases ih m' a1 (b + 1) (i + 1) q' (by omega) b1 b2 (by omega) with ⟨c1, c2⟩ | ⟨kk, j, qj, b', t', u1, u2, u3, u4, u5, u6, u7, u8, u9, u10⟩
          · left
            refine ⟨fun scr L F d J Mx => ?_, fun scr L d call Ix J => ?_⟩
            · intro f hf
              exact h24_other scr L F d I J Mx q b i _ hq2 (by omega) q' b2 y8 x7 w2 _ _ (c1 scr L F d J Mx) f (by omega)
            · intro f hf
              exact h10_other scr L d call Ix J M y _ (by omega) m' (by omega) y45 x41 w _ _ (c2 scr L d call Ix J) f (by omega)
          · right
            refine ⟨kk + 1, j, qj, b' + 1, t', ⟨m', y45, a1, .inr (.inl ⟨x41, w, b', rfl, u1⟩)⟩, u2, by omega, u4, u5, u6, u7, u8, fun scr L F d J Mx => ?_, fun scr L d call Ix J => ?_⟩
            · intro f hf
              have := u9 scr L F d J Mx
              rw [show b + 1 + b' = b + (b' + 1) by omega] at this
              exact h24_other scr L F d I J Mx q b i _ hq2 (by omega) q' b2 y8 x7 w2 _ _ this f (by omega)
            · intro f hf
              exact h10_other scr L d call Ix J M y _ (by omega) m' (by omega) y45 x41 w _ _ (u10 scr L d call Ix J) f (by omega)
      · have z7 : ¬ I 7 q' = 3 := by
          rw [x7]
          intro y
          exact z (nI_inj (b := 3) (by omega) (by omega) (y.trans nI_3.symm))
        have z41 : ¬ M 41 m' = 3 := by
          rw [x41]
          intro y
          exact z (nI_inj (b := 3) (by omega) (by omega) (y.trans nI_3.symm))
        rcases ih m' a1 b (i + 1) q' (by omega) b1 b2 (by omega) with ⟨c1, c2⟩ | ⟨kk, j, qj, b', t', u1, u2, u3, u4, u5, u6, u7, u8, u9, u10⟩
        · left
          refine ⟨fun scr L F d J Mx => ?_, fun scr L d call Ix J => ?_⟩
          · intro f hf
            exact h24_skip scr L F d I J Mx q b i _ hq2 (by omega) q' b2 y8 z7 _ _ (c1 scr L F d J Mx) f (by omega)
          · intro f hf
            exact h10_skip scr L d call Ix J M y _ (by omega) m' (by omega) y45 z41 _ _ (c2 scr L d call Ix J) f (by omega)
        · right
          refine ⟨kk + 1, j, qj, b', t', ⟨m', y45, a1, .inr (.inr ⟨z41, u1⟩)⟩, u2, by omega, u4, u5, u6, u7, u8, fun scr L F d J Mx => ?_, fun scr L d call Ix J => ?_⟩
          · intro f hf
            exact h24_skip scr L F d I J Mx q b i _ hq2 (by omega) q' b2 y8 z7 _ _ (u9 scr L F d J Mx) f (by omega)
          · intro f hf
            exact h10_skip scr L d call Ix J M y _ (by omega) m' (by omega) y45 z41 _ _ (u10 scr L d call Ix J) f (by omega)
theorem ck_var {I0 M0 I M : am_I} {c0 N K c k y q : Nat} (h : SK I0 M0 c0 N K I M c k) (hk : k < K) (hy : M0 50 k = nI y) (hyN : y < N) (hn : nd I0 M0 N c0 y) (hq : M0 42 y = nI q) (hq2 : q < 100) (h41 : M0 41 y = nI 2) (h7 : I0 7 q = nI 2) (h12 : I0 12 q = M0 43 y) : ckR I0 M0 c0 N K I M c k y q := by
  have hS := h
  obtain ⟨⟨p1, p2, p3, p4, p5, p6, p7⟩, ⟨e1, e2, e3, e4⟩, h3, h4, h5, h6, h7b, h8, v1, v2⟩ := h
  have x41 : M 41 y = 2 := by
    rw [e1.1, h41]
    decide +kernel
  have x7 : I 7 q = 2 := by
    rw [e3 7 (by omega) (by omega), h7]
    decide +kernel
  have x12 : I 12 q = M 43 y := by
    rw [e3 12 (by omega) (by omega), e1.2.2.1]
    exact h12
  have hc5 := h3.1
  have hc6 := h3.2.1
  rcases var_loop hS y q hyN hq2 x12 y 0 0 q hyN hq hq2 (by omega) with ⟨c1, c2⟩ | ⟨kk, j, qj, b', t, u1, u2, u3, u4, u5, u6, u7, ⟨l, u8, u8b⟩, u9, u10⟩
  · refine .inl ⟨I, M, y, q, by omega, by rw [e1.2.1]; exact hq, hq2, kF_refl I, kG_refl M, tyX_refl I M c, fun scr L F d J Mx => ?_, fun scr L F d Ix J => ?_⟩
    · have k1 := h24_go scr L F d I J Mx q _ hq2 _ _ rfl (by omega) (c1 scr L F d J Mx)
      exact c21_var scr L F d I J Mx q hq2 x7 _ _ k1
    · exact h10_go scr L F d Ix J M y _ (by omega) x41 _ _ rfl (by omega) (c2 scr L (d + 19) _ Ix J)
  · have fI : ∀ z, 2 ≤ z → z ≤ 6 → gv (wr I 14 q (nI (0 + b'))) q (nI (tm t)) z = I z := by
      intro z z1 z2
      rw [gv_ne _ _ _ _ (by omega) (by omega), wr_ne _ _ _ _ _ (by omega)]
    obtain ⟨r1, r2⟩ := k14 (I' := gv (wr I 14 q (nI (0 + b'))) q (nI (tm t))) (M' := M) h3 fI (fun z _ => rfl)
    have fk : kF I (gv (wr I 14 q (nI (0 + b'))) q (nI (tm t))) := kF_trans (kF_wr (by omega)) kF_gv
    refine .inr ⟨gv (wr I 14 q (nI (0 + b'))) q (nI (tm t)), M, c, t, by omega, ⟨Nat.le_refl _, r2 c⟩, fk, kG_refl M, fun scr L F d J Mx => ?_, fun scr L F d Ix J => ?_, ?_⟩
    · have k1 := h24_go scr L F d I J Mx q _ hq2 _ _ rfl (by omega) (u9 scr L F d J Mx)
      exact c21_var scr L F d I J Mx q hq2 x7 _ _ k1
    · exact h10_go scr L F d Ix J M y _ (by omega) x41 _ _ rfl (by omega) (u10 scr L (d + 19) _ Ix J)
    · refine fin_ok hS hk hy hyN hq hq2 h41 (by omega) (nd_lt hn p2 hyN) r1 (r2 c) (Nat.le_refl _) (by omega) (by omega) (kG_refl M) rfl fk (fun p hp => ⟨?_, ?_⟩) (fun p hp _ => ?_) (gv_15 _ _ _) (gv_16 _ _ _) (fun h w z => ⟨?_, ?_⟩) ?_
      · rw [gv_z _ _ _ _ _ (by omega) (by omega), wr_q _ _ _ _ _ _ (by omega)]
      · rw [gv_z _ _ _ _ _ (by omega) (by omega), wr_q _ _ _ _ _ _ (by omega)]
      · rw [gv_z _ _ _ _ _ (by omega) (by omega), wr_q _ _ _ _ _ _ (by omega)]
      · exact hb_le (by omega) (hb_X (c := c0) (fun t ht => (h7b t ht).1) u4 u7)
      · rw [tln_I (fI 6 (by omega) (by omega))]
        unfold tln
        rw [(h7b (tm t) (tm_lt u4 (by omega))).2.2.2.2, u8, nI_clamp (by omega)]
        omega
      · refine rl_leaf (by omega) (fun z => by omega) (fun z => by omega) (fun _ => ⟨kk, j, b', u1, by omega, by omega, u5, ?_⟩)
        rw [gv_z _ _ _ _ _ (by omega) (by omega), wr_s, Nat.zero_add]
