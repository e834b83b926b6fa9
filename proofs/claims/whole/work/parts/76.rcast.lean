/-! Running: a cast, on both sides. -/
def gr (M : am_I) (u : Nat) : Nat := if M 38 u = 3 then 3 else if M 38 u = 4 then 4 else u
/-- a value that may be tagged -/
def pd (M : am_I) (S : List am_T) (v t : Nat) : Prop := t = 2 ∨ ((6 : Int32), nI v, nI (gr M t)) ∈ S
def WRk (I : am_I) (J : am_J) (M : am_I) (Sg fn : Nat → Nat) (N c V W K C w : Nat) : Prop := ∃ a b v, M 59 w = nI a ∧ M 60 w = nI b ∧ a < c ∧ b < c ∧ ¬ a = b ∧ I 24 w = nI (tm a) ∧ I 25 w = nI (tm b) ∧ I 26 w = M 61 w ∧ M 58 w = nI v ∧ VB M Sg fn N c V W K C v (J 23 w) a ∧ CS M a b ∧ ((M 38 a = 3 ∧ M 38 b = 3) ∨ (M 38 a = 4 ∧ M 38 b = 4)) ∧ (∀ w', M 55 v = 4 → M 56 v = nI w' → w' < 200 → w' < w)
def CEk (J : am_J) (M : am_I) (Sg fn : Nat → Nat) (N c V W K C : Nat) (S : List am_T) (k : Nat) : Prop := M 38 (Sg k) = 4 ∧ Sg k < c ∧ ∃ v, M 69 k = nI v ∧ VR M Sg fn N c V W K C v (J 35 k) (tA M (Sg k)) ∧ pd M S v (tA M (Sg k))
def SCk (I : am_I) (J : am_J) (M : am_I) (Sg fn : Nat → Nat) (N c V W K C s : Nat) : Prop := fn s < N ∧ M 41 (fn s) = 3 ∧ M 62 s = M 43 (fn s) ∧ (∃ t v, t < c ∧ M 44 (fn s) = nI t ∧ M 63 s = nI v ∧ VR M Sg fn N c V W K C v (J 34 s) t) ∧ ∃ s', M 64 s = nI s' ∧ I 33 s = nI s' ∧ s' < s ∧ env M fn (fn s) s'
/-- the counters -/
def CT (I M : am_I) (V W K C fu P : Nat) : Prop := M 36 31 = nI V ∧ (I 22 6 = nI W ∧ M 36 35 = nI W ∧ W ≤ 200) ∧ (I 21 10 = nI K ∧ M 36 49 = nI K ∧ K ≤ 40) ∧ (I 21 11 = nI C ∧ M 36 53 = nI C ∧ M 36 40 = nI C ∧ C ≤ fu ∧ fu ≤ 40 ∧ I 21 13 = nI fu ∧ M 36 52 = nI fu) ∧ (I 22 7 = 6 ∧ M 36 51 = 0 ∧ I 21 12 = 6) ∧ (I 28 1 = nI P ∧ M 36 56 = nI P ∧ M 70 = I 29)
def DR (I : am_I) (J : am_J) (M : am_I) (Sg fn : Nat → Nat) (N c V W K C fu P : Nat) (S : List am_T) : Prop := CT I M V W K C fu P ∧ tyR I M c ∧ (∀ w, w < W → WRk I J M Sg fn N c V W K C w) ∧ (∀ k, k < K → CEk J M Sg fn N c V W K C S k) ∧ (∀ s, 1 ≤ s → s ≤ C → SCk I J M Sg fn N c V W K C s) ∧ TB M V S
theorem gr_lt {I M : am_I} {c u : Nat} (h : tyR I M c) (hu : u < c) : gr M u < c ∧ gr M u < 105 := by
  have h1 := h.1
  have h2 := h.2.1
  unfold gr
  split
  · omega
  · split <;> omega
theorem gr_cls {I M : am_I} {c u : Nat} (h : tyR I M c) (hu : u < c) : I 3 (tm u) = nI (tm (gr M u)) := by
  rcases ty_kind h hu with ⟨a1, a2, a3⟩ | ⟨a1, a2, a3, _⟩ | ⟨a1, a2, a3, _⟩
  · have e : gr M u = u := by
      unfold gr
      rw [a2, if_neg (n03 u a1).1, if_neg (n03 u a1).2.1]
    rw [e]
    exact a3
  · have e : gr M u = 3 := by
      unfold gr
      rw [if_pos a2]
    rw [e, a3]
    decide +kernel
  · have e : gr M u = 4 := by
      unfold gr
      rw [if_neg (by rw [a2]; exact n43), if_pos a2]
    rw [e, a3]
    decide +kernel
theorem gr_gnd {I M : am_I} {c u : Nat} (h : tyR I M c) (hu : u < c) (h2 : ¬ u = 2) : gnd (gr M u) := by
  unfold gr gnd
  rcases ty_kind h hu with ⟨a1, a2, _⟩ | ⟨a1, a2, _⟩ | ⟨a1, a2, _⟩
  · rw [a2, if_neg (n03 u a1).1, if_neg (n03 u a1).2.1]
    omega
  · rw [if_pos a2]
    omega
  · rw [if_neg (by rw [a2]; exact n43), if_pos a2]
    omega
theorem gr_id {I M : am_I} {c g : Nat} (h : tyR I M c) (hg : gnd g) : gr M g = g := by
  obtain ⟨x1, x2, x3, x4, x5⟩ := h.2.2.2.2.2.2.2.2
  unfold gr
  rcases hg with z | z | z | z <;> subst z
  · rw [(h.2.2.2.2.2.2.1 0 (by omega)).2.2.2.2, if_neg (n03 0 (by omega)).1, if_neg (n03 0 (by omega)).2.1]
  · rw [(h.2.2.2.2.2.2.1 1 (by omega)).2.2.2.2, if_neg (n03 1 (by omega)).1, if_neg (n03 1 (by omega)).2.1]
  · rw [if_pos x1]
  · rw [if_neg (by rw [x4]; exact n43), if_pos x4]
theorem r96 {I M : am_I} {c u : Nat} (h : tyR I M c) (hu : u < c) (scr : Nat → Int32) (L F d : Nat) (Ix : am_I) (Jx : am_J) : am_r scr L (F + 200000) (d + 1) 96 [.ref 37, .int (nI u)] (hp Ix Jx M) = some (some (.int (nI (gr M u))), hp Ix Jx M, 0, 0) := by
  have hc := h.2.1
  have k := m_96 scr L (F + 199900) d Ix Jx M u (by omega)
  rw [show F + 199900 + 100 = F + 200000 by omega, h.2.2.2.2.1, h.2.2.2.2.2.1] at k
  rw [k]
  unfold gr
  by_cases z3 : M 38 u = 3
  · rw [if_pos z3, if_pos z3, nI_3]
  · rw [if_neg z3, if_neg z3]
    by_cases z4 : M 38 u = 4
    · rw [if_pos z4, if_pos z4, nI_4]
    · rw [if_neg z4, if_neg z4]
theorem vb_facts {I M : am_I} {Sg fn : Nat → Nat} {N c V W K C v t : Nat} {x : Int64} (hR : tyR I M c) (h : VB M Sg fn N c V W K C v x t) : v_kd x + 1 = nI (tm (gr M t)) ∧ ¬ t = 2 ∧ x &&& 8 = 0 := by
  have k2 : M 38 2 = nI 2 := (hR.2.2.2.2.2.2.1 2 (by omega)).2.2.2.2
  obtain ⟨h1, h2, h3⟩ := h
  have g3 : M 38 t = 3 → gr M t = 3 := by
    intro z
    unfold gr
    rw [if_pos z]
  have g4 : M 38 t = 4 → gr M t = 4 := by
    intro z
    unfold gr
    rw [if_neg (by rw [z]; exact n43), if_pos z]
  have n3 : M 38 t = 3 → ¬ t = 2 := by
    intro z e
    rw [e, k2] at z
    exact (n03 2 (by omega)).1 z
  have n4 : M 38 t = 4 → ¬ t = 2 := by
    intro z e
    rw [e, k2] at z
    exact (n03 2 (by omega)).2.1 z
  rcases h3 with ⟨z1, z2, z3⟩ | ⟨z1, z2, z3, z4⟩ | ⟨z1, z2, n, q, s, a1, a2, a3, a4, a5, a6, a7, a8, a9, a10⟩ | ⟨z1, z2, k, a1, a2, a3, a4⟩ | ⟨z1, w, a1, a2, a3, ⟨a4, a5⟩ | ⟨a4, a5⟩⟩
  · subst z2
    rw [z3, of_kd _ 0 (by omega), gr_id hR (.inl rfl)]
    exact ⟨by decide +kernel, by omega, of_8 _ 0 (by omega)⟩
  · subst z2
    rw [z4, of_kd _ 1 (by omega), gr_id hR (.inr (.inl rfl))]
    exact ⟨by decide +kernel, by omega, of_8 _ 1 (by omega)⟩
  · rw [a9, of_kd _ 2 (by omega), g3 z2]
    exact ⟨by decide +kernel, n3 z2, of_8 _ 2 (by omega)⟩
  · rw [a4, of_kd _ 3 (by omega), g4 z2]
    exact ⟨by decide +kernel, n4 z2, of_8 _ 3 (by omega)⟩
  · rw [a5, oc_kd _ 2 (by omega), g3 a4]
    exact ⟨by decide +kernel, n3 a4, oc_8 _ 2 (by omega)⟩
  · rw [a5, oc_kd _ 3 (by omega), g4 a4]
    exact ⟨by decide +kernel, n4 a4, oc_8 _ 3 (by omega)⟩
theorem pd_X {M M' : am_I} {S S' : List am_T} {v t : Nat} (h38 : M' 38 = M 38) (hS : ∀ τ, τ ∈ S → τ ∈ S') (h : pd M S v t) : pd M' S' v t := by
  rcases h with z | z
  · exact .inl z
  · right
    have : gr M' t = gr M t := by
      unfold gr
      rw [h38]
    rw [this]
    exact hS _ z
/-- what a cast leaves alone -/
def cF (I I' : am_I) (J J' : am_J) (M M' : am_I) : Prop := (∀ z, ¬ z = 22 → ¬ z = 24 → ¬ z = 25 → ¬ z = 26 → ¬ z = 27 → I' z = I z) ∧ (∀ y, ¬ y = 6 → ¬ y = 7 → ¬ y = 8 → I' 22 y = I 22 y) ∧ (∀ z, ¬ z = 23 → J' z = J z) ∧ (∀ z, ¬ z = 36 → ¬ (55 ≤ z ∧ z ≤ 61) → M' z = M z) ∧ (∀ y, ¬ y = 31 → ¬ y = 35 → ¬ y = 51 → ¬ y = 54 → M' 36 y = M 36 y)
theorem cF_refl (I : am_I) (J : am_J) (M : am_I) : cF I I J J M M := ⟨fun _ _ _ _ _ _ => rfl, fun _ _ _ _ => rfl, fun _ _ => rfl, fun _ _ _ => rfl, fun _ _ _ _ _ => rfl⟩
theorem cF_trans {I I1 I2 : am_I} {J J1 J2 : am_J} {M M1 M2 : am_I} (h : cF I I1 J J1 M M1) (g : cF I1 I2 J1 J2 M1 M2) : cF I I2 J J2 M M2 := ⟨fun z a b c d e => (g.1 z a b c d e).trans (h.1 z a b c d e), fun y a b c => (g.2.1 y a b c).trans (h.2.1 y a b c), fun z a => (g.2.2.1 z a).trans (h.2.2.1 z a), fun z a b => (g.2.2.2.1 z a b).trans (h.2.2.2.1 z a b), fun y a b c d => (g.2.2.2.2 y a b c d).trans (h.2.2.2.2 y a b c d)⟩
/-- the state after some casts -/
theorem DR_X {I I' : am_I} {J J' : am_J} {M M' : am_I} {Sg fn : Nat → Nat} {N c V V' W W' K C fu P : Nat} {S S' : List am_T} (h : DR I J M Sg fn N c V W K C fu P S) (hF : cF I I' J J' M M') (he : ext M M' Sg Sg fn fn V V' W W' K K C C) (hS : ∀ τ, τ ∈ S → τ ∈ S') (h6 : I' 22 6 = nI W') (h7 : I' 22 7 = 6) (h35 : M' 36 35 = nI W') (hW : W' ≤ 200) (h31 : M' 36 31 = nI V') (h51 : M' 36 51 = 0) (hT : TB M' V' S') (hI : ∀ w, w < W → I' 24 w = I 24 w ∧ I' 25 w = I 25 w ∧ I' 26 w = I 26 w ∧ J' 23 w = J 23 w) (hN : ∀ w, W ≤ w → w < W' → WRk I' J' M' Sg fn N c V' W' K C w) : DR I' J' M' Sg fn N c V' W' K C fu P S' := by
  obtain ⟨⟨a1, ⟨a2, a3, a4⟩, ⟨a5, a6, a7⟩, ⟨a8, a9, a10, a11, a12, a13, a14⟩, ⟨a15, a16, a17⟩, ⟨a18, a19, a20⟩⟩, hR, hw, hk, hs, hTB⟩ := h
  obtain ⟨f1, f2, f3, f4, f5⟩ := hF
  have i21 : I' 21 = I 21 := f1 21 (by omega) (by omega) (by omega) (by omega) (by omega)
  have i28 : I' 28 = I 28 := f1 28 (by omega) (by omega) (by omega) (by omega) (by omega)
  have i29 : I' 29 = I 29 := f1 29 (by omega) (by omega) (by omega) (by omega) (by omega)
  have i33 : I' 33 = I 33 := f1 33 (by omega) (by omega) (by omega) (by omega) (by omega)
  have m38 : M' 38 = M 38 := f4 38 (by omega) (by omega)
  have m39 : M' 39 = M 39 := f4 39 (by omega) (by omega)
  have m40 : M' 40 = M 40 := f4 40 (by omega) (by omega)
  have hR' : tyR I' M' c := tyR_congr (f1 2 (by omega) (by omega) (by omega) (by omega) (by omega)) (f1 3 (by omega) (by omega) (by omega) (by omega) (by omega)) (f1 4 (by omega) (by omega) (by omega) (by omega) (by omega)) (f1 5 (by omega) (by omega) (by omega) (by omega) (by omega)) (f1 6 (by omega) (by omega) (by omega) (by omega) (by omega)) (f5 2 (by omega) (by omega) (by omega) (by omega)) (f5 6 (by omega) (by omega) (by omega) (by omega)) (f5 7 (by omega) (by omega) (by omega) (by omega)) m38 m39 m40 hR
  have tAe : ∀ t, tA M' t = tA M t := by
    intro t
    unfold tA
    rw [m39]
  refine ⟨⟨h31, ⟨h6, h35, hW⟩, ⟨by rw [i21]; exact a5, (f5 49 (by omega) (by omega) (by omega) (by omega)).trans a6, a7⟩, ⟨by rw [i21]; exact a8, (f5 53 (by omega) (by omega) (by omega) (by omega)).trans a9, (f5 40 (by omega) (by omega) (by omega) (by omega)).trans a10, a11, a12, by rw [i21]; exact a13, (f5 52 (by omega) (by omega) (by omega) (by omega)).trans a14⟩, ⟨h7, h51, by rw [i21]; exact a17⟩, ⟨by rw [i28]; exact a18, (f5 56 (by omega) (by omega) (by omega) (by omega)).trans a19, by rw [f4 70 (by omega) (by omega), i29]; exact a20⟩⟩, hR', fun w hw1 => ?_, fun k hk1 => ?_, fun s s1 s2 => ?_, hT⟩
  · by_cases z : w < W
    · obtain ⟨a, b, v, b1, b2, b3, b4, b5, b6, b7, b8, b9, b10, b11, b12, b13⟩ := hw w z
      obtain ⟨g1, g2, g3, g4⟩ := hI w z
      obtain ⟨e1, e2, e3, e4⟩ := he.2.2.1 w z
      have hv := b10.1
      obtain ⟨r1, r2, r3⟩ := he.2.1 v hv
      refine ⟨a, b, v, e2.trans b1, e3.trans b2, b3, b4, b5, g1.trans b6, g2.trans b7, by rw [g3, e4]; exact b8, e1.trans b9, by rw [g4]; exact VB_X he b10, ?_, by rw [m38]; exact b12, by rw [r1, r2]; exact b13⟩
      obtain ⟨k, hk⟩ := b11
      exact ⟨k, by rw [cn_M m38 m39 m40]; exact hk⟩
    · exact hN w (by omega) hw1
  · obtain ⟨b1, b2, v, b3, b4, b5⟩ := hk k hk1
    refine ⟨by rw [m38]; exact b1, b2, v, by rw [f4 69 (by omega) (by omega)]; exact b3, ?_, ?_⟩
    · rw [tAe, f3 35 (by omega)]
      exact VR_X he b4
    · rw [tAe]
      exact pd_X m38 hS b5
  · obtain ⟨b1, b2, b3, ⟨t, v, b4, b5, b6, b7⟩, s', b8, b9, b10, b11⟩ := hs s s1 s2
    refine ⟨b1, by rw [f4 41 (by omega) (by omega)]; exact b2, by rw [f4 62 (by omega) (by omega), f4 43 (by omega) (by omega)]; exact b3, ⟨t, v, b4, by rw [f4 44 (by omega) (by omega)]; exact b5, by rw [f4 63 (by omega) (by omega)]; exact b6, by rw [f3 34 (by omega)]; exact VR_X he b7⟩, s', by rw [f4 64 (by omega) (by omega)]; exact b8, by rw [i33]; exact b9, b10, env_X (C := C) (f4 41 (by omega) (by omega)) (f4 45 (by omega) (by omega)) (fun _ _ _ => rfl) (by omega) b11⟩
