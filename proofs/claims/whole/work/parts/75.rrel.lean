/-! Running: what both sides hold. -/
def enc (M : am_I) : Nat → Nat → Nat → Prop
  | 0, _, _ => False
  | k + 1, n, f => ∃ p, M 45 n = nI p ∧ p < n ∧ ((M 41 p = 3 ∧ f = p) ∨ (¬ M 41 p = 3 ∧ enc M k p f))
def nof (M : am_I) : Nat → Nat → Prop
  | 0, _ => False
  | k + 1, n => M 45 n = -1 ∨ ∃ p, M 45 n = nI p ∧ p < n ∧ ¬ M 41 p = 3 ∧ nof M k p
/-- node n runs in scope s -/
def env (M : am_I) (fn : Nat → Nat) (n s : Nat) : Prop := (s = 0 ∧ ∃ k, nof M k n) ∨ (1 ≤ s ∧ ∃ k, enc M k n (fn s))
/-- an untagged value of type t -/
def VB (M : am_I) (Sg fn : Nat → Nat) (N c V W K C v : Nat) (x : Int64) (t : Nat) : Prop := v < V ∧ t < c ∧ (
  (M 55 v = 0 ∧ t = 0 ∧ x = v_of (nI 0) (M 56 v)) ∨
  (M 55 v = 1 ∧ t = 1 ∧ (M 56 v = 0 ∨ M 56 v = 1) ∧ x = v_of (nI 1) (M 56 v)) ∨
  (M 55 v = 2 ∧ M 38 t = 3 ∧ ∃ n q s, n < N ∧ M 56 v = nI n ∧ M 57 v = nI s ∧ s ≤ C ∧ M 41 n = 3 ∧ M 42 n = nI q ∧ q < 100 ∧ M 71 n = nI t ∧ x = v_of (nI 2) (nI (q * 41 + s)) ∧ env M fn n s) ∨
  (M 55 v = 3 ∧ M 38 t = 4 ∧ ∃ k, k < K ∧ M 56 v = nI k ∧ t = Sg k ∧ x = v_of (nI 3) (nI k)) ∨
  (M 55 v = 4 ∧ ∃ w, w < W ∧ M 56 v = nI w ∧ M 60 w = nI t ∧ ((M 38 t = 3 ∧ x = v_oc (nI 2) (nI w)) ∨ (M 38 t = 4 ∧ x = v_oc (nI 3) (nI w)))))
def gnd (g : Nat) : Prop := g = 0 ∨ g = 1 ∨ g = 3 ∨ g = 4
def VR (M : am_I) (Sg fn : Nat → Nat) (N c V W K C v : Nat) (x : Int64) (t : Nat) : Prop := (¬ t = 2 ∧ VB M Sg fn N c V W K C v x t) ∨ (t = 2 ∧ v < V ∧ M 55 v = 6 ∧ ∃ v' g x', M 56 v = nI v' ∧ M 57 v = nI g ∧ gnd g ∧ VB M Sg fn N c V W K C v' x' g ∧ x = x' ||| 8)
/-- tables only grow -/
def ext (M M' : am_I) (Sg Sg' fn fn' : Nat → Nat) (V V' W W' K K' C C' : Nat) : Prop := (V ≤ V' ∧ W ≤ W' ∧ K ≤ K' ∧ C ≤ C') ∧ (∀ v, v < V → M' 55 v = M 55 v ∧ M' 56 v = M 56 v ∧ M' 57 v = M 57 v) ∧ (∀ w, w < W → M' 58 w = M 58 w ∧ M' 59 w = M 59 w ∧ M' 60 w = M 60 w ∧ M' 61 w = M 61 w) ∧ (∀ k, k < K → Sg' k = Sg k) ∧ (∀ s, 1 ≤ s → s ≤ C → fn' s = fn s) ∧ (∀ z, (38 ≤ z ∧ z ≤ 48) ∨ z = 71 → M' z = M z)
theorem enc_M {M M' : am_I} (h1 : M' 41 = M 41) (h3 : M' 45 = M 45) : ∀ (k n f : Nat), enc M k n f → enc M' k n f
  | 0, _, _, h => h
  | k + 1, n, f, h => by
    obtain ⟨p, a1, a2, a3⟩ := h
    refine ⟨p, by rw [h3]; exact a1, a2, ?_⟩
    rw [h1]
    rcases a3 with z | ⟨z1, z2⟩
    · exact .inl z
    · exact .inr ⟨z1, enc_M h1 h3 k p f z2⟩
theorem nof_M {M M' : am_I} (h1 : M' 41 = M 41) (h3 : M' 45 = M 45) : ∀ (k n : Nat), nof M k n → nof M' k n
  | 0, _, h => h
  | k + 1, n, h => by
    unfold nof at h ⊢
    rw [h3, h1]
    rcases h with z | ⟨p, a1, a2, a3, a4⟩
    · exact .inl z
    · exact .inr ⟨p, a1, a2, a3, nof_M h1 h3 k p a4⟩
theorem env_X {M M' : am_I} {fn fn' : Nat → Nat} {n s C : Nat} (h1 : M' 41 = M 41) (h3 : M' 45 = M 45) (hf : ∀ s, 1 ≤ s → s ≤ C → fn' s = fn s) (hs : s ≤ C) (h : env M fn n s) : env M' fn' n s := by
  rcases h with ⟨a1, k, a2⟩ | ⟨a1, k, a2⟩
  · exact .inl ⟨a1, k, nof_M h1 h3 k n a2⟩
  · refine .inr ⟨a1, k, ?_⟩
    rw [hf s a1 hs]
    exact enc_M h1 h3 k n _ a2
theorem VB_X {M M' : am_I} {Sg Sg' fn fn' : Nat → Nat} {N c V V' W W' K K' C C' v t : Nat} {x : Int64} (e : ext M M' Sg Sg' fn fn' V V' W W' K K' C C') (h : VB M Sg fn N c V W K C v x t) : VB M' Sg' fn' N c V' W' K' C' v x t := by
  obtain ⟨⟨e1, e2, e3, e4⟩, e5, e6, e7, e8, e9⟩ := e
  obtain ⟨h1, h2, h3⟩ := h
  obtain ⟨r1, r2, r3⟩ := e5 v h1
  have s38 := e9 38 (by omega)
  have s41 := e9 41 (by omega)
  have s42 := e9 42 (by omega)
  have s45 := e9 45 (by omega)
  have s71 := e9 71 (by omega)
  refine ⟨by omega, h2, ?_⟩
  rw [r1, r2, r3, s38, s41, s42, s71]
  rcases h3 with z | z | ⟨z1, z2, n, q, s, a1, a2, a3, a4, a5, a6, a7, a8, a9, a10⟩ | ⟨z1, z2, k, a1, a2, a3, a4⟩ | ⟨z1, w, a1, a2, a3, a4⟩
  · exact .inl z
  · exact .inr (.inl z)
  · exact .inr (.inr (.inl ⟨z1, z2, n, q, s, a1, a2, a3, by omega, a5, a6, a7, a8, a9, env_X s41 s45 e8 a4 a10⟩))
  · exact .inr (.inr (.inr (.inl ⟨z1, z2, k, by omega, a2, by rw [e7 k a1]; exact a3, a4⟩)))
  · exact .inr (.inr (.inr (.inr ⟨z1, w, by omega, a2, (e6 w a1).2.2.1.trans a3, a4⟩)))
theorem VR_X {M M' : am_I} {Sg Sg' fn fn' : Nat → Nat} {N c V V' W W' K K' C C' v t : Nat} {x : Int64} (e : ext M M' Sg Sg' fn fn' V V' W W' K K' C C') (h : VR M Sg fn N c V W K C v x t) : VR M' Sg' fn' N c V' W' K' C' v x t := by
  rcases h with ⟨h1, h2⟩ | ⟨h1, h2, h3, v', g, x', h4, h5, h6, h7, h8⟩
  · exact .inl ⟨h1, VB_X e h2⟩
  · obtain ⟨r1, r2, r3⟩ := e.2.1 v h2
    have := e.1.1
    exact .inr ⟨h1, by omega, r1.trans h3, v', g, x', r2.trans h4, r3.trans h5, h6, VB_X e h7, h8⟩
theorem ext_refl (M : am_I) (Sg fn : Nat → Nat) (V W K C : Nat) : ext M M Sg Sg fn fn V V W W K K C C := ⟨⟨Nat.le_refl _, Nat.le_refl _, Nat.le_refl _, Nat.le_refl _⟩, fun _ _ => ⟨rfl, rfl, rfl⟩, fun _ _ => ⟨rfl, rfl, rfl, rfl⟩, fun _ _ => rfl, fun _ _ _ => rfl, fun _ _ => rfl⟩
theorem ext_trans {M M1 M2 : am_I} {Sg Sg1 Sg2 fn fn1 fn2 : Nat → Nat} {V V1 V2 W W1 W2 K K1 K2 C C1 C2 : Nat} (h : ext M M1 Sg Sg1 fn fn1 V V1 W W1 K K1 C C1) (g : ext M1 M2 Sg1 Sg2 fn1 fn2 V1 V2 W1 W2 K1 K2 C1 C2) : ext M M2 Sg Sg2 fn fn2 V V2 W W2 K K2 C C2 := by
  obtain ⟨⟨a1, a2, a3, a4⟩, a5, a6, a7, a8, a9⟩ := h
  obtain ⟨⟨b1, b2, b3, b4⟩, b5, b6, b7, b8, b9⟩ := g
  refine ⟨⟨by omega, by omega, by omega, by omega⟩, fun v hv => ?_, fun w hw => ?_, fun k hk => ?_, fun s h1 h2 => ?_, fun z hz => (b9 z hz).trans (a9 z hz)⟩
  · obtain ⟨c1, c2, c3⟩ := a5 v hv
    obtain ⟨d1, d2, d3⟩ := b5 v (by omega)
    exact ⟨d1.trans c1, d2.trans c2, d3.trans c3⟩
  · obtain ⟨c1, c2, c3, c4⟩ := a6 w hw
    obtain ⟨d1, d2, d3, d4⟩ := b6 w (by omega)
    exact ⟨d1.trans c1, d2.trans c2, d3.trans c3, d4.trans c4⟩
  · rw [b7 k (by omega), a7 k hk]
  · rw [b8 s h1 (by omega), a8 s h1 h2]
abbrev am_T : Type := Int32 × Int32 × Int32
def row (M : am_I) (v : Nat) : am_T := (M 55 v, M 56 v, M 57 v)
/-- the table of values: different rows, all of them in S -/
def TB (M : am_I) (V : Nat) (S : List am_T) : Prop := (∀ v, v < V → row M v ∈ S) ∧ (∀ v v', v < V → v' < V → row M v = row M v' → v = v')
theorem pigeon (f : Nat → am_T) : ∀ (V : Nat) (S : List am_T), (∀ v, v < V → f v ∈ S) → (∀ v v', v < V → v' < V → f v = f v' → v = v') → V ≤ S.length
  | 0, _, _, _ => Nat.zero_le _
  | V + 1, S, h1, h2 => by
    have hm := h1 V (by omega)
    have := pigeon f V (S.erase (f V)) (fun v hv => by
      refine (List.mem_erase_of_ne ?_).mpr (h1 v (by omega))
      intro e
      have := h2 v V (by omega) (by omega) e
      omega) (fun v v' a b c => h2 v v' (by omega) (by omega) c)
    rw [List.length_erase_of_mem hm] at this
    have := List.length_pos_of_mem hm
    omega
theorem kf_none {sh le ri : Nat → Int32} {s a b : Int32} : ∀ (k t : Nat), kf sh le ri s a b k t = none → ∀ j, t ≤ j → j < t + k → ¬ (sh j = s ∧ le j = a ∧ ri j = b)
  | 0, t, _, j, h1, h2 => by omega
  | k + 1, t, h, j, h1, h2 => by
    unfold kf at h
    by_cases g : sh t = s ∧ le t = a ∧ ri t = b
    · rw [if_pos g] at h
      cases h
    · rw [if_neg g] at h
      by_cases e : j = t
      · subst e
        exact g
      · exact kf_none k (t + 1) h j (by omega) (by omega)
/-- a value, new or not -/
theorem new_v {M : am_I} {V : Nat} {S : List am_T} (hT : TB M V S) (h31 : M 36 31 = nI V) (hS : S.length ≤ 2299) (k a b : Int32) (hm : (k, a, b) ∈ S) : ∃ (v V' : Nat) (M' : am_I), V ≤ V' ∧ V' ≤ V + 1 ∧ v < V' ∧ V' ≤ 2300 ∧ row M' v = (k, a, b) ∧ TB M' V' S ∧ M' 36 31 = nI V' ∧ (∀ j, j < V → row M' j = row M j) ∧ (∀ z, ¬ z = 36 → ¬ z = 55 → ¬ z = 56 → ¬ z = 57 → M' z = M z) ∧ (∀ y, ¬ y = 31 → M' 36 y = M 36 y) ∧ (∀ (scr : Nat → Int32) (L F d : Nat) (Ix : am_I) (Jx : am_J), am_r scr L (F + 200000) (d + 1) 112 [.ref 37, .int k, .int a, .int b] (hp Ix Jx M) = some (some (.int (nI v)), hp Ix Jx M', 0, 0)) := by
  have hV := pigeon (row M) V S hT.1 hT.2
  have mm : ∀ (scr : Nat → Int32) (L F d : Nat) (Ix : am_I) (Jx : am_J), am_r scr L (F + 200000) (d + 1) 112 [.ref 37, .int k, .int a, .int b] (hp Ix Jx M) = (match kf (M 55) (M 56) (M 57) k a b V 0 with
    | some t => some (some (.int (nI t)), hp Ix Jx M, 0, 0)
    | none => some (some (.int (nI V)), hp Ix Jx (va_N M V k a b), 0, 0)) := by
    intro scr L F d Ix Jx
    have := m_112 scr L (F + 105000) d Ix Jx M k a b V h31 (by omega) (by omega)
    rw [show F + 105000 + 95000 = F + 200000 by omega] at this
    exact this
  cases ef : kf (M 55) (M 56) (M 57) k a b V 0 with
  | some t =>
    obtain ⟨g1, g2, g3, g4, g5⟩ := kf_lt _ _ _ ef
    refine ⟨t, V, M, by omega, by omega, by omega, by omega, ?_, hT, h31, fun _ _ => rfl, fun _ _ _ _ _ => rfl, fun _ _ => rfl, fun scr L F d Ix Jx => ?_⟩
    · unfold row
      rw [g3, g4, g5]
    · rw [mm scr L F d Ix Jx, ef]
  | none =>
    have hn := kf_none _ _ ef
    have e1 : ∀ j, ¬ j = V → row (va_N M V k a b) j = row M j := by
      intro j hj
      simp [row, va_N, va_up, upd, hj]
    have e2 : row (va_N M V k a b) V = (k, a, b) := by
      simp [row, va_N, va_up, upd]
    refine ⟨V, V + 1, va_N M V k a b, by omega, by omega, by omega, by omega, e2, ⟨fun v hv => ?_, fun v v' h1 h2 h3 => ?_⟩, ?_, fun j hj => e1 j (by omega), fun z z1 z2 z3 z4 => ?_, fun y hy => ?_, fun scr L F d Ix Jx => ?_⟩
    · by_cases z : v = V
      · rw [z, e2]
        exact hm
      · rw [e1 v z]
        exact hT.1 v (by omega)
    · by_cases z : v = V
      · by_cases z' : v' = V
        · omega
        · rw [z, e2, e1 v' z'] at h3
          unfold row at h3
          have h4 := Prod.mk.inj h3
          have h5 := Prod.mk.inj h4.2
          exact absurd ⟨h4.1.symm, h5.1.symm, h5.2.symm⟩ (hn v' (by omega) (by omega))
      · by_cases z' : v' = V
        · rw [z', e2, e1 v z] at h3
          unfold row at h3
          have h4 := Prod.mk.inj h3
          have h5 := Prod.mk.inj h4.2
          exact absurd ⟨h4.1, h5.1, h5.2⟩ (hn v (by omega) (by omega))
        · rw [e1 v z, e1 v' z'] at h3
          exact hT.2 v v' (by omega) (by omega) h3
    · simp [va_N, va_up, upd]
    · simp [va_N, va_up, z1, z2, z3, z4]
    · simp [va_N, va_up, upd, hy]
    · rw [mm scr L F d Ix Jx, ef]
