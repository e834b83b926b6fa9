/-! Running: inward and outward, whole. -/
/-- what is inside the casts around f -/
def core (J : am_J) (M : am_I) (Sg fn : Nat → Nat) (N c V W K C f : Nat) (fx : Int64) (tf e te : Nat) (xe : Int64) : Prop := VB M Sg fn N c V W K C e xe te ∧ ¬ M 55 e = 4 ∧ M 38 te = M 38 tf ∧ te < c ∧ (∀ (I' : am_I) (J' : am_J), (∀ w, w < W → J' 23 w = J 23 w) → ∀ (scr : Nat → Int32) (L F d : Nat) (Mx : am_I), am_r scr L (F + 200000) (d + 2) 16 [.ref 23, .long fx] (hp I' J' Mx) = some (some (.long xe), hp I' J' Mx, 0, 0)) ∧ (∀ M' : am_I, (∀ v, v < V → M' 55 v = M 55 v ∧ M' 56 v = M 56 v) → (∀ w, w < W → M' 58 w = M 58 w) → ∀ (scr : Nat → Int32) (L F d : Nat) (Ix : am_I) (Jx : am_J), am_r scr L (F + 200000) (d + 1) 115 [.ref 37, .int (nI f)] (hp Ix Jx M') = some (some (.int (nI e)), hp Ix Jx M', 0, 0))
theorem core_of {I : am_I} {J : am_J} {M : am_I} {Sg fn : Nat → Nat} {N c V W K C fu P f tf e te : Nat} {S : List am_T} {fx xe : Int64} {ws : List Nat} {ts : Nat → Nat} (hD : DR I J M Sg fn N c V W K C fu P S) (hV : V ≤ 2300) (hf : f < V) (hl : ws.length ≤ 200) (h1 : ch (J 23) ws fx xe) (h2 : mch (M 55) (M 56) (M 58) ws f e) (h3 : VB M Sg fn N c V W K C e xe te) (h4 : ¬ M 55 e = 4) (h5 : tcs M W ws ts) (h6 : ∀ j, j ≤ ws.length → ts j < c ∧ M 38 (ts j) = M 38 tf) (h7 : ts ws.length = te) : core J M Sg fn N c V W K C f fx tf e te xe := by
  obtain ⟨q1, q2⟩ := h6 ws.length (Nat.le_refl _)
  rw [h7] at q1 q2
  refine ⟨h3, h4, q2, q1, fun I' J' hJ scr L F d Mx => ?_, fun M' hM hW scr L F d Ix Jx => ?_⟩
  · have := m_16 scr L (F + 191000) d I' J' Mx fx xe ws (ch_X ws fx xe (W := W) hJ (fun j w z => (h5 j w z).1) h1) hl
    rw [show F + 191000 + 9000 = F + 200000 by omega] at this
    exact this
  · have := m_115 scr L (F + 191000) d Ix Jx M' f e ws (mch_X (V := V) (W := W) hM hW ws f e (fun j w z => (h5 j w z).1) hf (fun w hw => by
      obtain ⟨_, _, v'', _, _, _, _, _, _, _, _, d9, d10, _⟩ := hD.2.2.1 w hw
      exact ⟨v'', d9, d10.1⟩) hV h2) hl
    rw [show F + 191000 + 9000 = F + 200000 by omega] at this
    exact this
/-- a value has one type -/
theorem VB_t {I M : am_I} {Sg fn : Nat → Nat} {N c V W K C v t u : Nat} {x y : Int64} (hR : tyR I M c) (hN : N ≤ 100) (hK : K ≤ 40) (hW : W ≤ 200) (h : VB M Sg fn N c V W K C v x t) (g : VB M Sg fn N c V W K C v y u) : t = u := by
  have hc := hR.2.1
  obtain ⟨h1, h2, h3⟩ := h
  obtain ⟨g1, g2, g3⟩ := g
  rcases h3 with ⟨z, a, _⟩ | ⟨z, a, _⟩ | ⟨z, _, n, q, s, a1, a2, a3, a4, a5, a6, a7, a8, _⟩ | ⟨z, _, k, a1, a2, a3, _⟩ | ⟨z, w, a1, a2, a3, _⟩ <;> rcases g3 with ⟨y, b, _⟩ | ⟨y, b, _⟩ | ⟨y, _, n', q', s', b1, b2, b3, b4, b5, b6, b7, b8, _⟩ | ⟨y, _, k', b1, b2, b3, _⟩ | ⟨y, w', b1, b2, b3, _⟩ <;> first
    | exact absurd (z.symm.trans y) (by decide)
    | exact a.trans b.symm
    | skip
  · have e := nI_inj (by omega) (by omega) (a2.symm.trans b2)
    subst e
    exact nI_inj (by omega) (by omega) (a8.symm.trans b8)
  · have e := nI_inj (by omega) (by omega) (a2.symm.trans b2)
    subst e
    rw [a3, b3]
  · have e := nI_inj (by omega) (by omega) (a2.symm.trans b2)
    subst e
    exact nI_inj (by omega) (by omega) (a3.symm.trans b3)
theorem in_ok {I : am_I} {J : am_J} {M : am_I} {Sg fn : Nat → Nat} {N c V W K C fu P f tf v : Nat} {S : List am_T} {fx x : Int64} (hD : DR I J M Sg fn N c V W K C fu P S) (hf : VB M Sg fn N c V W K C f fx tf) (hk : M 38 tf = 3 ∨ M 38 tf = 4) (hv : VR M Sg fn N c V W K C v x (tA M tf)) (hp2 : pd M S v (tA M tf)) (hv2 : v < 2300) (hS : S.length + 2 * (200 - W) ≤ 2290) :
    ∃ (e te : Nat) (xe x' : Int64) (v' : Nat) (I' : am_I) (J' : am_J) (M' : am_I), core J M Sg fn N c V W K C f fx tf e te xe ∧ (cOK I J M Sg fn N c V W K C fu P S (tA M te) x' v' I' J' M' ∨ cEnd V W I I' J J' M M') ∧ (∀ (scr : Nat → Int32) (L F d : Nat) (Mx : am_I), am_r scr L (F + 200000) (d + 7) 17 [.ref 23, .long fx, .long x] (hp I J Mx) = some (some (.long x'), hp I' J' Mx, 0, 0)) ∧ (∀ (scr : Nat → Int32) (L F d : Nat) (Ix : am_I) (Jx : am_J), am_r scr L (F + 200000) (d + 7) 118 [.ref 37, .int (nI f), .int (nI v)] (hp Ix Jx M) = some (some (.int (nI v')), hp Ix Jx M', 0, 0)) := by
  have hTB := hD.2.2.2.2.2
  have hV9 := pigeon (row M) V S hTB.1 hTB.2
  obtain ⟨ws, ts, e, te, xe, c1, c2, c3, c4, c5, c6, c7, c8, c9⟩ := chain_ex hD (by omega) 200 f fx tf hf hk (fun _ _ _ z => z)
  obtain ⟨x', v', I', J', M', r1, r2, r3⟩ := in_loop f e ws ts c5 ws 0 I J M V W S x fx xe v hD (by omega) (fun j w z => by rw [Nat.zero_add]; exact z) c1 c2 hf.1 c8 (fun j hj => (c9 j hj).1) (by rw [c6]; exact hv) (by rw [c6]; exact hp2) hv2 hS
  rw [c7] at r1
  refine ⟨e, te, xe, x', v', I', J', M', core_of hD (by omega) hf.1 c5 c1 c2 c3 c4 c8 c9 c7, r1, fun scr L F d Mx => ?_, fun scr L F d Ix Jx => ?_⟩
  · exact c17_go scr L F d I J Mx fx x _ _ (by omega) (r2 scr L F d Mx fx x)
  · have m116 := m_116 scr L (F + 191000) (d + 5) Ix Jx M f e ws c2 c5
    rw [show F + 191000 + 9000 = F + 200000 by omega, show d + 5 + 1 = d + 6 by omega] at m116
    exact r118_go scr L F d Ix Jx M f v ws.length _ _ (by omega) m116 (r3 scr L F d Ix Jx v)
theorem out_ok {I : am_I} {J : am_J} {M : am_I} {Sg fn : Nat → Nat} {N c V W K C fu P f tf v e te : Nat} {S : List am_T} {fx x xe : Int64} {b0 : Int32} (hN : N ≤ 100) (hD : DR I J M Sg fn N c V W K C fu P S) (hf : VB M Sg fn N c V W K C f fx tf) (hk : (b0 = 1 ∧ M 38 tf = 3) ∨ (b0 = 0 ∧ M 38 tf = 4)) (hc : core J M Sg fn N c V W K C f fx tf e te xe) (hv : VR M Sg fn N c V W K C v x (rT M b0 te)) (hp2 : pd M S v (rT M b0 te)) (hv2 : v < 2300) (hS : S.length + 2 * (200 - W) ≤ 2290) :
    ∃ (x' : Int64) (v' : Nat) (I' : am_I) (J' : am_J) (M' : am_I), (cOK I J M Sg fn N c V W K C fu P S (rT M b0 tf) x' v' I' J' M' ∨ cEnd V W I I' J J' M M') ∧ (∀ (scr : Nat → Int32) (L F d : Nat) (Mx : am_I), am_r scr L (F + 200000) (d + 7) 18 [.ref 23, .long fx, .long x] (hp I J Mx) = some (some (.long x'), hp I' J' Mx, 0, 0)) ∧ (∀ (scr : Nat → Int32) (L F d : Nat) (Ix : am_I) (Jx : am_J), am_r scr L (F + 200000) (d + 7) 119 [.ref 37, .int (nI f), .int (nI v), .int b0] (hp Ix Jx M) = some (some (.int (nI v')), hp Ix Jx M', 0, 0)) := by
  have hTB := hD.2.2.2.2.2
  have hV9 := pigeon (row M) V S hTB.1 hTB.2
  obtain ⟨ws, ts, e1, te1, xe1, c1, c2, c3, c4, c5, c6, c7, c8, c9⟩ := chain_ex hD (by omega) 200 f fx tf hf (by rcases hk with ⟨_, z⟩ | ⟨_, z⟩ <;> simp [z]) (fun _ _ _ z => z)
  have hcore := core_of hD (by omega) hf.1 c5 c1 c2 c3 c4 c8 c9 c7
  -- the core is one
  have ee : e1 = e := by
    have a1 := hc.2.2.2.2.2 M (fun _ _ => ⟨rfl, rfl⟩) (fun _ _ => rfl) (fun _ => 0) 0 0 0 I J
    have a2 := hcore.2.2.2.2.2 M (fun _ _ => ⟨rfl, rfl⟩) (fun _ _ => rfl) (fun _ => 0) 0 0 0 I J
    rw [a1] at a2
    have a3 := congrArg (fun q => q.map (fun w => w.1)) a2
    simp only [Option.map] at a3
    have a4 : nI e = nI e1 := by simpa using a3
    have b1 := hc.1.1
    have b2 := c3.1
    exact (nI_inj (by omega) (by omega) a4).symm
  subst ee
  have et : te1 = te := VB_t hD.2.1 hN hD.1.2.2.1.2.2 hD.1.2.1.2.2 c3 hc.1
  subst et
  obtain ⟨I1, xz, d1, d2, d3⟩ := col_loop J ws c5 ws 0 I fx xe1 (by omega) (fun j w z => by rw [Nat.zero_add]; exact z) c1 (fun j w z => by omega)
  have hF0 : cF I I1 J J M M := ⟨fun z _ _ _ _ z5 => d1 z z5, fun y _ _ _ => by rw [d1 22 (by omega)], fun _ _ => rfl, fun _ _ _ => rfl, fun _ _ _ _ _ => rfl⟩
  have hD1 : DR I1 J M Sg fn N c V W K C fu P S := DR_X hD hF0 (ext_refl _ _ _ _ _ _ _) (fun _ z => z) (by rw [d1 22 (by omega)]; exact hD.1.2.1.1) (by rw [d1 22 (by omega)]; exact hD.1.2.2.2.2.1.1) hD.1.2.1.2.1 hD.1.2.1.2.2 hD.1.1 hD.1.2.2.2.2.1.2.1 hTB (fun w _ => by rw [d1 24 (by omega), d1 25 (by omega), d1 26 (by omega)]; exact ⟨rfl, rfl, rfl, rfl⟩) (fun w g1 g2 => by omega)
  obtain ⟨x', v', I', J', M', r1, r2, r3⟩ := out_loop f e1 ws ts b0 c5 ws.length I1 J M V W S x v hD1 (Nat.le_refl _) d2 c2 hf.1 c8 (fun j hj => (c9 j hj).1) (by
      rcases hk with ⟨z1, z2⟩ | ⟨z1, z2⟩
      · exact .inl ⟨z1, fun j hj => (c9 j hj).2.trans z2⟩
      · exact .inr ⟨z1, fun j hj => (c9 j hj).2.trans z2⟩) (by rw [c7]; exact hv) (by rw [c7]; exact hp2) hv2 hS
  rw [c6] at r1
  refine ⟨x', v', I', J', M', ?_, fun scr L F d Mx => ?_, fun scr L F d Ix Jx => ?_⟩
  · rcases r1 with ⟨z1, z2⟩ | ⟨z1, z2, z3⟩
    · exact .inl ⟨z1, cF_trans hF0 z2⟩
    · exact .inr ⟨z1, cF_trans hF0 z2, z3⟩
  · exact c18_go scr L F d I J Mx fx x _ _ (by omega) (d3 scr L F d Mx fx x _ _ (r2 scr L F d Mx fx x xz ws.length))
  · have m116 := m_116 scr L (F + 191000) (d + 5) Ix Jx M f e1 ws c2 c5
    rw [show F + 191000 + 9000 = F + 200000 by omega, show d + 5 + 1 = d + 6 by omega] at m116
    exact r119_go scr L F d Ix Jx M f v ws.length _ b0 _ (by omega) m116 (r3 scr L F d Ix Jx v)
