/-! Running: the program, which stays; small changes of the state. -/
theorem nd_F {I M I' M' : am_I} {B c m : Nat} (hI : ∀ z, 6 ≤ z → z ≤ 13 → I' z = I z) (hM : ∀ z, 38 ≤ z → z ≤ 48 → M' z = M z) (h : nd I M B c m) : nd I' M' B c m := by
  obtain ⟨q, o, h1, h2, h3, h4, h5, h6, h7, h8, h9, h10, h11, h12, h13⟩ := h
  have z : ∀ {x y}, 46 ≤ x → x ≤ 48 → 9 ≤ y → y ≤ 11 → pa I M m q B x y → pa I' M' m q B x y := by
    rintro x y x1 x2 y1 y2 ⟨a, q', g1, g2, g3, g4, g5, g6⟩
    exact ⟨a, q', g1, g2, by rw [hM x (by omega) (by omega)]; exact g3, by rw [hM 42 (by omega) (by omega)]; exact g4, by rw [hI y (by omega) (by omega)]; exact g5, by rw [hM 45 (by omega) (by omega)]; exact g6⟩
  refine ⟨q, o, by rw [hM 42 (by omega) (by omega)]; exact h1, h2, by rw [hM 41 (by omega) (by omega)]; exact h3, by rw [hI 7 (by omega) (by omega)]; exact h4, h5, ?_, fun w => ?_, fun w => ?_, fun w => ?_, fun w => ?_, fun w => z (by omega) (by omega) (by omega) (by omega) (h11 w), fun w1 w2 => z (by omega) (by omega) (by omega) (by omega) (h12 w1 w2), fun w => z (by omega) (by omega) (by omega) (by omega) (h13 w)⟩
  · unfold pr at h6 ⊢
    rw [hM 45 (by omega) (by omega), hM 42 (by omega) (by omega), hI 8 (by omega) (by omega)]
    exact h6
  · rw [hI 12 (by omega) (by omega), hM 43 (by omega) (by omega)]
    exact h7 w
  · rw [hM 43 (by omega) (by omega)]
    exact h8 w
  · rw [hM 43 (by omega) (by omega)]
    exact h9 w
  · obtain ⟨t, l, g1, g2, g3, g4, g5, g6⟩ := h10 w
    exact ⟨t, l, g1, by rw [hM 44 (by omega) (by omega)]; exact g2, by rw [hI 13 (by omega) (by omega)]; exact g3, hb_eq (hM 38 (by omega) (by omega)) (hM 39 (by omega) (by omega)) (hM 40 (by omega) (by omega)) g4, by rw [hI 6 (by omega) (by omega)]; exact g5, g6⟩
theorem tw_F {I M I' M' : am_I} {B c : Nat} (h6 : I' 6 = I 6) (hM : ∀ z, 38 ≤ z → z ≤ 48 → M' z = M z) : ∀ (h w m : Nat), tw I M B c h w m → tw I' M' B c h w m
  | 0, _, _, g => g
  | h + 1, w, m, g => by
    obtain ⟨g1, g2, o, g3, g4, g5, g6, g7, g8⟩ := g
    have e41 := hM 41 (by omega) (by omega)
    have e44 := hM 44 (by omega) (by omega)
    have e46 := hM 46 (by omega) (by omega)
    have e47 := hM 47 (by omega) (by omega)
    have e48 := hM 48 (by omega) (by omega)
    refine ⟨g1, g2, o, by rw [e41]; exact g3, g4, fun z => ?_, fun z => ?_, fun z z2 => ?_, fun z => ?_⟩
    · obtain ⟨a, t, l, w1, k1, k2, k3, k4, k5, k6, k7⟩ := g5 z
      exact ⟨a, t, l, w1, by rw [e46]; exact k1, k2, tw_F h6 hM h w1 a k3, by rw [e44]; exact k4, k5, by rw [h6]; exact k6, k7⟩
    · obtain ⟨a, w1, k1, k2, k3, k4⟩ := g6 z
      exact ⟨a, w1, by rw [e46]; exact k1, k2, tw_F h6 hM h w1 a k3, k4⟩
    · obtain ⟨a, b, w1, w2, k1, k2, k3, k4, k5, k6, k7⟩ := g7 z z2
      exact ⟨a, b, w1, w2, by rw [e46]; exact k1, k2, tw_F h6 hM h w1 a k3, by rw [e47]; exact k4, k5, tw_F h6 hM h w2 b k6, k7⟩
    · obtain ⟨a, b, w1, w2, k1, k2, k3, k4, k5, k6, k7⟩ := g8 z
      exact ⟨a, b, w1, w2, by rw [e46]; exact k1, k2, tw_F h6 hM h w1 a k3, by rw [e48]; exact k4, k5, tw_F h6 hM h w2 b k6, k7⟩
/-- the program, read and checked -/
def PR (I M : am_I) (N c : Nat) : Prop := N ≤ 100 ∧ tyR I M c ∧ (∀ m, m < N → nd I M N c m) ∧ (∀ m m' q, m < N → m' < N → M 42 m = nI q → M 42 m' = nI q → m = m') ∧ (∀ m, m < N → ∃ q o t, M 42 m = nI q ∧ q < 100 ∧ M 41 m = nI o ∧ o ≤ 13 ∧ M 71 m = nI t ∧ t < c ∧ I 15 q = nI (tm t) ∧ rl I M c m q o t) ∧ (∀ m, m < N → ∃ h w, h ≤ 20 ∧ w ≤ 100 ∧ tw I M N c h w m) ∧ (∀ m, m < N → dn M m)
/-- the cells of the program -/
def sE (I I' M M' : am_I) : Prop := (∀ z, 0 ≤ z → z ≤ 20 → I' z = I z) ∧ (∀ z, 37 ≤ z → z ≤ 54 → M' z = M z) ∧ M' 71 = M 71 ∧ (∀ y, y < 31 → M' 36 y = M 36 y)
theorem sE_refl (I M : am_I) : sE I I M M := ⟨fun _ _ _ => rfl, fun _ _ _ => rfl, rfl, fun _ _ => rfl⟩
theorem sE_trans {I I1 I2 M M1 M2 : am_I} (h : sE I I1 M M1) (g : sE I1 I2 M1 M2) : sE I I2 M M2 := ⟨fun z a b => (g.1 z a b).trans (h.1 z a b), fun z a b => (g.2.1 z a b).trans (h.2.1 z a b), g.2.2.1.trans h.2.2.1, fun y a => (g.2.2.2 y a).trans (h.2.2.2 y a)⟩
theorem sE_c {I I' : am_I} {J J' : am_J} {M M' : am_I} (h : cF I I' J J' M M') : sE I I' M M' := ⟨fun z a b => h.1 z (by omega) (by omega) (by omega) (by omega) (by omega), fun z a b => h.2.2.2.1 z (by omega) (by omega), h.2.2.2.1 71 (by omega) (by omega), fun y a => h.2.2.2.2 y (by omega) (by omega) (by omega) (by omega)⟩
theorem PR_F {I I' M M' : am_I} {N c : Nat} (hE : sE I I' M M') (h : PR I M N c) : PR I' M' N c := by
  obtain ⟨hI, hM, h71, h36⟩ := hE
  obtain ⟨p1, p2, p3, p4, p5, p6, p7⟩ := h
  have hR : tyR I' M' c := tyR_congr (hI 2 (by omega) (by omega)) (hI 3 (by omega) (by omega)) (hI 4 (by omega) (by omega)) (hI 5 (by omega) (by omega)) (hI 6 (by omega) (by omega)) (h36 2 (by omega)) (h36 6 (by omega)) (h36 7 (by omega)) (hM 38 (by omega) (by omega)) (hM 39 (by omega) (by omega)) (hM 40 (by omega) (by omega)) p2
  have hX : tyX I M I' M' c := by
    intro t _
    rw [hI 3 (by omega) (by omega), hI 4 (by omega) (by omega), hI 5 (by omega) (by omega), hI 6 (by omega) (by omega), hM 38 (by omega) (by omega), hM 39 (by omega) (by omega), hM 40 (by omega) (by omega)]
    exact ⟨⟨rfl, rfl, rfl⟩, rfl, rfl, rfl, rfl⟩
  have hS : kS M M' := ⟨hM 41 (by omega) (by omega), hM 42 (by omega) (by omega), hM 43 (by omega) (by omega), hM 44 (by omega) (by omega), hM 45 (by omega) (by omega), hM 46 (by omega) (by omega), hM 47 (by omega) (by omega), hM 48 (by omega) (by omega)⟩
  refine ⟨p1, hR, fun m hm => nd_F (fun z a b => hI z (by omega) (by omega)) (fun z a b => hM z (by omega) (by omega)) (p3 m hm), fun m m' q a b d e => p4 m m' q a b (by rw [← hM 42 (by omega) (by omega)]; exact d) (by rw [← hM 42 (by omega) (by omega)]; exact e), fun m hm => ?_, fun m hm => ?_, fun m hm => dn_X (fun x a b => by rw [hM x (by omega) (by omega)]) (p7 m hm)⟩
  · obtain ⟨q, o, t, g1, g2, g3, g4, g5, g6, g7, g8⟩ := p5 m hm
    refine ⟨q, o, t, by rw [hM 42 (by omega) (by omega)]; exact g1, g2, by rw [hM 41 (by omega) (by omega)]; exact g3, g4, by rw [h71]; exact g5, g6, by rw [hI 15 (by omega) (by omega)]; exact g7, ?_⟩
    exact rl_X g4 g3 p2 hX (Nat.le_refl _) hS g6 (by rw [hI 14 (by omega) (by omega)]) (fun a _ _ => ⟨by rw [h71], fun qa _ => by rw [hI 16 (by omega) (by omega)]⟩) g8
  · obtain ⟨h, w, a1, a2, a3⟩ := p6 m hm
    exact ⟨h, w, a1, a2, tw_F (hI 6 (by omega) (by omega)) (fun z a b => hM z (by omega) (by omega)) h w m a3⟩
/-- steps that move neither values nor cells nor scopes -/
def mF (I I' : am_I) (J J' : am_J) (M M' : am_I) : Prop := (∀ z, ¬ z = 21 → ¬ z = 30 → ¬ z = 31 → I' z = I z) ∧ (∀ y, y = 10 ∨ y = 11 ∨ y = 12 ∨ y = 13 → I' 21 y = I 21 y) ∧ (∀ z, ¬ z = 21 → ¬ z = 32 → J' z = J z) ∧ (∀ z, ¬ z = 36 → ¬ (65 ≤ z ∧ z ≤ 68) → M' z = M z) ∧ (∀ y, ¬ y = 44 → ¬ y = 58 → ¬ y = 59 → ¬ y = 60 → M' 36 y = M 36 y)
theorem sE_m {I I' : am_I} {J J' : am_J} {M M' : am_I} (h : mF I I' J J' M M') : sE I I' M M' := ⟨fun z a b => h.1 z (by omega) (by omega) (by omega), fun z a b => h.2.2.2.1 z (by omega) (by omega), h.2.2.2.1 71 (by omega) (by omega), fun y a => h.2.2.2.2 y (by omega) (by omega) (by omega) (by omega)⟩
theorem ext_m {I I' : am_I} {J J' : am_J} {M M' : am_I} {Sg fn : Nat → Nat} {V W K C : Nat} (h : mF I I' J J' M M') : ext M M' Sg Sg fn fn V V W W K K C C := by
  have f := h.2.2.2.1
  refine ⟨⟨Nat.le_refl _, Nat.le_refl _, Nat.le_refl _, Nat.le_refl _⟩, fun v _ => ?_, fun w _ => ?_, fun _ _ => rfl, fun _ _ _ => rfl, fun z hz => f z (by omega) (by omega)⟩
  · rw [f 55 (by omega) (by omega), f 56 (by omega) (by omega), f 57 (by omega) (by omega)]
    exact ⟨rfl, rfl, rfl⟩
  · rw [f 58 (by omega) (by omega), f 59 (by omega) (by omega), f 60 (by omega) (by omega), f 61 (by omega) (by omega)]
    exact ⟨rfl, rfl, rfl, rfl⟩
theorem DR_m {I I' : am_I} {J J' : am_J} {M M' : am_I} {Sg fn : Nat → Nat} {N c V W K C fu P : Nat} {S : List am_T} (hF : mF I I' J J' M M') (h : DR I J M Sg fn N c V W K C fu P S) : DR I' J' M' Sg fn N c V W K C fu P S := by
  have he : ext M M' Sg Sg fn fn V V W W K K C C := ext_m hF
  obtain ⟨f1, f2, f3, f4, f5⟩ := hF
  obtain ⟨⟨a1, ⟨a2, a3, a4⟩, ⟨a5, a6, a7⟩, ⟨a8, a9, a10, a11, a12, a13, a14⟩, ⟨a15, a16, a17⟩, ⟨a18, a19, a20⟩⟩, hR, hw, hk, hs, hTB⟩ := h
  have i22 : I' 22 = I 22 := f1 22 (by omega) (by omega) (by omega)
  have m38 : M' 38 = M 38 := f4 38 (by omega) (by omega)
  have m39 : M' 39 = M 39 := f4 39 (by omega) (by omega)
  have m40 : M' 40 = M 40 := f4 40 (by omega) (by omega)
  have g36 : ∀ y, ¬ y = 44 → ¬ y = 58 → ¬ y = 59 → ¬ y = 60 → M' 36 y = M 36 y := f5
  have hR' : tyR I' M' c := tyR_congr (f1 2 (by omega) (by omega) (by omega)) (f1 3 (by omega) (by omega) (by omega)) (f1 4 (by omega) (by omega) (by omega)) (f1 5 (by omega) (by omega) (by omega)) (f1 6 (by omega) (by omega) (by omega)) (g36 2 (by omega) (by omega) (by omega) (by omega)) (g36 6 (by omega) (by omega) (by omega) (by omega)) (g36 7 (by omega) (by omega) (by omega) (by omega)) m38 m39 m40 hR
  have tAe : ∀ t, tA M' t = tA M t := by
    intro t
    unfold tA
    rw [m39]
  refine ⟨⟨(g36 31 (by omega) (by omega) (by omega) (by omega)).trans a1, ⟨by rw [i22]; exact a2, (g36 35 (by omega) (by omega) (by omega) (by omega)).trans a3, a4⟩, ⟨(f2 10 (by omega)).trans a5, (g36 49 (by omega) (by omega) (by omega) (by omega)).trans a6, a7⟩, ⟨(f2 11 (by omega)).trans a8, (g36 53 (by omega) (by omega) (by omega) (by omega)).trans a9, (g36 40 (by omega) (by omega) (by omega) (by omega)).trans a10, a11, a12, (f2 13 (by omega)).trans a13, (g36 52 (by omega) (by omega) (by omega) (by omega)).trans a14⟩, ⟨by rw [i22]; exact a15, (g36 51 (by omega) (by omega) (by omega) (by omega)).trans a16, (f2 12 (by omega)).trans a17⟩, ⟨by rw [f1 28 (by omega) (by omega) (by omega)]; exact a18, (g36 56 (by omega) (by omega) (by omega) (by omega)).trans a19, by rw [f4 70 (by omega) (by omega), f1 29 (by omega) (by omega) (by omega)]; exact a20⟩⟩, hR', fun w hw1 => ?_, fun k hk1 => ?_, fun s s1 s2 => ?_, TB_row hTB (f4 55 (by omega) (by omega)) (f4 56 (by omega) (by omega)) (f4 57 (by omega) (by omega))⟩
  · obtain ⟨a, b, v, b1, b2, b3, b4, b5, b6, b7, b8, b9, b10, b11, b12, b13⟩ := hw w hw1
    refine ⟨a, b, v, by rw [f4 59 (by omega) (by omega)]; exact b1, by rw [f4 60 (by omega) (by omega)]; exact b2, b3, b4, b5, by rw [f1 24 (by omega) (by omega) (by omega)]; exact b6, by rw [f1 25 (by omega) (by omega) (by omega)]; exact b7, by rw [f1 26 (by omega) (by omega) (by omega), f4 61 (by omega) (by omega)]; exact b8, by rw [f4 58 (by omega) (by omega)]; exact b9, by rw [f3 23 (by omega) (by omega)]; exact VB_X he b10, ?_, by rw [m38]; exact b12, by rw [f4 55 (by omega) (by omega), f4 56 (by omega) (by omega)]; exact b13⟩
    obtain ⟨k, hk⟩ := b11
    exact ⟨k, by rw [cn_M m38 m39 m40]; exact hk⟩
  · obtain ⟨b1, b2, v, b3, b4, b5⟩ := hk k hk1
    refine ⟨by rw [m38]; exact b1, b2, v, by rw [f4 69 (by omega) (by omega)]; exact b3, ?_, ?_⟩
    · rw [tAe, f3 35 (by omega) (by omega)]
      exact VR_X he b4
    · rw [tAe]
      exact pd_X m38 (fun _ z => z) b5
  · obtain ⟨b1, b2, b3, ⟨t, v, b4, b5, b6, b7⟩, s', b8, b9, b10, b11⟩ := hs s s1 s2
    exact ⟨b1, by rw [f4 41 (by omega) (by omega)]; exact b2, by rw [f4 62 (by omega) (by omega), f4 43 (by omega) (by omega)]; exact b3, ⟨t, v, b4, by rw [f4 44 (by omega) (by omega)]; exact b5, by rw [f4 63 (by omega) (by omega)]; exact b6, by rw [f3 34 (by omega) (by omega)]; exact VR_X he b7⟩, s', by rw [f4 64 (by omega) (by omega)]; exact b8, by rw [f1 33 (by omega) (by omega) (by omega)]; exact b9, b10, env_X (C := C) (f4 41 (by omega) (by omega)) (f4 45 (by omega) (by omega)) (fun _ _ _ => rfl) (by omega) b11⟩
/-- a value new to the table, on the reference's side -/
theorem DR_v {I : am_I} {J : am_J} {M : am_I} {Sg fn : Nat → Nat} {N c V W K C fu P : Nat} {S : List am_T} (hD : DR I J M Sg fn N c V W K C fu P S) (hS : S.length ≤ 2298) (k a b : Int32) : ∃ (v V' : Nat) (M' : am_I) (S' : List am_T), DR I J M' Sg fn N c V' W K C fu P S' ∧ ext M M' Sg Sg fn fn V V' W W K K C C ∧ cF I I J J M M' ∧ v < V' ∧ v < 2300 ∧ row M' v = (k, a, b) ∧ S'.length ≤ S.length + 1 ∧ ((k, a, b) ∈ S → S' = S) ∧ (∀ τ, τ ∈ S → τ ∈ S') ∧ (∀ (scr : Nat → Int32) (L F d : Nat) (Ix : am_I) (Jx : am_J), am_r scr L (F + 200000) (d + 1) 112 [.ref 37, .int k, .int a, .int b] (hp Ix Jx M) = some (some (.int (nI v)), hp Ix Jx M', 0, 0)) := by
  have hD0 := hD
  obtain ⟨⟨a1, ⟨a2, a3, a4⟩, ⟨a5, a6, a7⟩, ⟨a8, a9, a10, a11, a12, a13, a14⟩, ⟨a15, a16, a17⟩, ⟨a18, a19, a20⟩⟩, hR, hw, hk1, hs, hTB⟩ := hD
  obtain ⟨S', s1, s2, s3, s4⟩ : ∃ S' : List am_T, S'.length ≤ S.length + 1 ∧ ((k, a, b) ∈ S → S' = S) ∧ (∀ τ, τ ∈ S → τ ∈ S') ∧ (k, a, b) ∈ S' := by
    by_cases z : (k, a, b) ∈ S
    · exact ⟨S, by omega, fun _ => rfl, fun _ y => y, z⟩
    · exact ⟨(k, a, b) :: S, by simp, fun y => absurd y z, fun τ y => List.mem_cons_of_mem _ y, List.mem_cons_self⟩
  obtain ⟨v1, V1, M2, n1, n2, n3, n4, n5, n6, n7, n8, n9, n10, n11⟩ := new_v (TB_sub hTB s3) a1 (by omega) k a b s4
  have f : ∀ z, ¬ z = 36 → ¬ (55 ≤ z ∧ z ≤ 57) → M2 z = M z := fun z z1 z2 => n9 z z1 (by omega) (by omega) (by omega)
  have hF : cF I I J J M M2 := ⟨fun _ _ _ _ _ _ => rfl, fun _ _ _ _ => rfl, fun _ _ => rfl, fun z z1 z2 => f z z1 (by omega), fun y y1 _ _ _ => n10 y y1⟩
  have hE : ext M M2 Sg Sg fn fn V V1 W W K K C C := by
    refine ⟨⟨n1, by omega, by omega, by omega⟩, fun j hj => ?_, fun w hw2 => ?_, fun _ _ => rfl, fun _ _ _ => rfl, fun z hz => f z (by omega) (by omega)⟩
    · have e := n8 j hj
      unfold row at e
      have h4 := Prod.mk.inj e
      have h5 := Prod.mk.inj h4.2
      exact ⟨h4.1, h5.1, h5.2⟩
    · rw [f 58 (by omega) (by omega), f 59 (by omega) (by omega), f 60 (by omega) (by omega), f 61 (by omega) (by omega)]
      exact ⟨rfl, rfl, rfl, rfl⟩
  exact ⟨v1, V1, M2, S', DR_X hD0 hF hE s3 a2 a15 ((n10 35 (by omega)).trans a3) a4 n7 ((n10 51 (by omega)).trans a16) n6 (fun w _ => ⟨rfl, rfl, rfl, rfl⟩) (fun w g1 g2 => by omega), hE, hF, n3, by omega, n5, s1, s2, s3, n11⟩
