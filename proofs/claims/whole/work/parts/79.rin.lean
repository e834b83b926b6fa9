/-! Running: on the way in. -/
/-- both sides after some casts: a value of type t, or the run has ended -/
def cOK (I : am_I) (J : am_J) (M : am_I) (Sg fn : Nat → Nat) (N c V W K C fu P : Nat) (S : List am_T) (t : Nat) (x' : Int64) (v' : Nat) (I' : am_I) (J' : am_J) (M' : am_I) : Prop := (∃ (V' W' : Nat) (S' : List am_T), DR I' J' M' Sg fn N c V' W' K C fu P S' ∧ VR M' Sg fn N c V' W' K C v' x' t ∧ ext M M' Sg Sg fn fn V V' W W' K K C C ∧ S'.length + 2 * (200 - W') ≤ S.length + 2 * (200 - W) ∧ (∀ τ, τ ∈ S → τ ∈ S') ∧ pd M' S' v' t ∧ v' < 2300 ∧ (∀ w, w < W → J' 23 w = J 23 w)) ∧ cF I I' J J' M M'
def cEnd (V W : Nat) (I I' : am_I) (J J' : am_J) (M M' : am_I) : Prop := bSt I' M' ∧ cF I I' J J' M M' ∧ (∀ v, v < V → M' 55 v = M 55 v ∧ M' 56 v = M 56 v) ∧ (∀ w, w < W → M' 58 w = M 58 w)
theorem cBad_z {I I' M M' : am_I} {l : Int32} (h : cBad I I' M M' l) (z : Nat) (hz : ¬ z = 36) : M' z = M z := by
  rcases h with ⟨_, h⟩ | ⟨_, h⟩ <;> subst h
  · rw [wr_ne _ _ _ _ _ hz, wr_ne _ _ _ _ _ hz]
  · exact wr_ne _ _ _ _ _ hz
theorem h17_le {scr : Nat → Int32} {L F d : Nat} {I : am_I} {J : am_J} {Mx : am_I} {fv gv x v : Int64} {i N N' : Nat} {R : Option am_X} (h : N ≤ N') (k : h17 scr L F d I J Mx fv gv x v i N R) : h17 scr L F d I J Mx fv gv x v i N' R := fun f tl hf hk => k f tl (by omega) hk
theorem h8_le {scr : Nat → Int32} {L F d : Nat} {I : am_I} {J : am_J} {M : am_I} {f0 v0 v n k N N' : Nat} {R : Option am_X} (h : N ≤ N') (g : h8i scr L F d I J M f0 v0 v n k N R) : h8i scr L F d I J M f0 v0 v n k N' R := fun f tl hf hk => g f tl (by omega) hk
theorem in_loop {N c K C fu P : Nat} {Sg fn : Nat → Nat} (f0 ef : Nat) (wsf : List Nat) (ts : Nat → Nat) (hl : wsf.length ≤ 200) : ∀ (ws : List Nat) (k : Nat) (I : am_I) (J : am_J) (M : am_I) (V W : Nat) (S : List am_T) (x xa xe : Int64) (v : Nat), DR I J M Sg fn N c V W K C fu P S → k + ws.length = wsf.length → (∀ j w, ws[j]? = some w → wsf[k + j]? = some w) → ch (J 23) ws xa xe → mch (M 55) (M 56) (M 58) wsf f0 ef → f0 < V → tcs M W wsf ts → (∀ j, j ≤ wsf.length → ts j < c) → VR M Sg fn N c V W K C v x (tA M (ts k)) → pd M S v (tA M (ts k)) → v < 2300 → S.length + 2 * (200 - W) ≤ 2290 →
    ∃ (x' : Int64) (v' : Nat) (I' : am_I) (J' : am_J) (M' : am_I), (cOK I J M Sg fn N c V W K C fu P S (tA M (ts wsf.length)) x' v' I' J' M' ∨ cEnd V W I I' J J' M M') ∧ (∀ (scr : Nat → Int32) (L F d : Nat) (Mx : am_I) (fv gv : Int64), h17 scr L F d I J Mx fv gv xa x k (80 * (ws.length + 2)) (some (some (.long x'), hp I' J' Mx, 0, 0))) ∧ (∀ (scr : Nat → Int32) (L F d : Nat) (Ix : am_I) (Jx : am_J) (v0 : Nat), h8i scr L F d Ix Jx M f0 v0 v wsf.length k (80 * (ws.length + 2)) (some (some (.int (nI v')), hp Ix Jx M', 0, 0))) := by
  intro ws
  induction ws with
  | nil =>
    intro k I J M V W S x xa xe v hD hk hws hch hm hf ht htc hv hp2 hv2 hS
    simp only [List.length_nil] at hk ⊢
    have hkk : k = wsf.length := by omega
    refine ⟨x, v, I, J, M, .inl ⟨⟨V, W, S, hD, by rw [← hkk]; exact hv, ext_refl _ _ _ _ _ _ _, Nat.le_refl _, fun _ z => z, by rw [← hkk]; exact hp2, hv2, fun _ _ => rfl⟩, cF_refl _ _ _⟩, fun scr L F d Mx fv gv => ?_, fun scr L F d Ix Jx v0 => ?_⟩
    · by_cases z : k = 200
      · exact h17_le (by omega) (h17_200 scr L F d I J Mx fv gv xa x k z)
      · exact h17_le (by omega) (h17_end scr L F d I J Mx fv gv xa x k (by omega) hD.1.2.2.2.2.1.1 hch.2)
    · exact h8_le (by omega) (h8_end scr L F d Ix Jx M f0 v0 v wsf.length k hkk (by omega))
  | cons w ws ih =>
    intro k I J M V W S x xa xe v hD hk hws hch hm hf ht htc hv hp2 hv2 hS
    simp only [List.length_cons] at hk
    have hD0 := hD
    obtain ⟨hCT, hR, hW, hCE, hSC, hTB⟩ := hD
    have hV9 := pigeon (row M) V S hTB.1 hTB.2
    obtain ⟨q1, q2, q3, q4⟩ := hch
    have wk : wsf[k]? = some w := hws 0 w rfl
    obtain ⟨t1, t2, t3⟩ := ht k w wk
    obtain ⟨a, b, v', b1, b2, b3, b4, b5, b6, b7, b8, b9, b10, b11, b12, b13⟩ := hW w t1
    have hc := hR.2.1
    have hc5 := hR.1
    have l1 := htc k (by omega)
    have l2 := htc (k + 1) (by omega)
    have eb : b = ts k := nI_inj (by omega) (by omega) (b2.symm.trans t2)
    have ea : a = ts (k + 1) := nI_inj (by omega) (by omega) (b1.symm.trans t3)
    have k3 : 3 ≤ a ∧ 3 ≤ b := by
      constructor
      · refine Decidable.byContradiction (fun z => ?_)
        have := (hR.2.2.2.2.2.2.1 a (by omega)).2.2.2.2
        rcases b12 with ⟨y, _⟩ | ⟨y, _⟩
        · rw [this] at y
          exact (n03 a (by omega)).1 y
        · rw [this] at y
          exact (n03 a (by omega)).2.1 y
      · refine Decidable.byContradiction (fun z => ?_)
        have := (hR.2.2.2.2.2.2.1 b (by omega)).2.2.2.2
        rcases b12 with ⟨_, y⟩ | ⟨_, y⟩
        · rw [this] at y
          exact (n03 b (by omega)).1 y
        · rw [this] at y
          exact (n03 b (by omega)).2.1 y
    have csA : CS M (tA M b) (tA M a) := by
      rcases CS_kind hR b3 b11 b5 (by omega) (by omega) with ⟨_, _, y, _⟩ | ⟨_, _, y⟩
      · exact CS_sym y
      · exact CS_sym y
    have lA := (tyR_A hR a k3.1 b3).2
    have lB := (tyR_A hR b k3.2 b4).2
    obtain ⟨u1, u2, u3, u4⟩ := ty_5 hR b3 k3.1
    obtain ⟨y1, y2, y3, y4⟩ := ty_5 hR b4 k3.2
    have hvb : VR M Sg fn N c V W K C v x (tA M b) := by
      rw [eb]
      exact hv
    have hpb : pd M S v (tA M b) := by
      rw [eb]
      exact hp2
    have tta := tm_lt b3 (show 3 ≤ c by omega)
    have ttb := tm_lt b4 (show 3 ≤ c by omega)
    have ttA := tm_lt lA (show 3 ≤ c by omega)
    have ttB := tm_lt lB (show 3 ≤ c by omega)
    have hWW := hCT.2.1.2.2
    have wlen : w < 200 := by omega
    have m14 : ∀ (scr : Nat → Int32) (L F d : Nat) (Mx : am_I), am_r scr L (F + 200000) (d + 6) 14 [.ref 23, .long x, .int (nI (tm (tA M b))), .int (nI (tm (tA M a))), .int (M 61 w ^^^ 1)] (hp I J Mx) = some (some (.long (ct I J W x (tm (tA M b)) (tm (tA M a)) (M 61 w ^^^ 1)).1), hp (ct I J W x (tm (tA M b)) (tm (tA M a)) (M 61 w ^^^ 1)).2.1 (ct I J W x (tm (tA M b)) (tm (tA M a)) (M 61 w ^^^ 1)).2.2 Mx, 0, 0) := by
      intro scr L F d Mx
      have := m_14 scr L (F + 199500) (d + 3) I J Mx W (tm (tA M b)) (tm (tA M a)) x (M 61 w ^^^ 1) hCT.2.1.1 hWW (by omega) (by omega)
      rw [show F + 199500 + 500 = F + 200000 by omega, show d + 3 + 3 = d + 6 by omega] at this
      exact this
    have m117 : ∀ (scr : Nat → Int32) (L F d : Nat) (Ix : am_I) (Jx : am_J), am_r scr L (F + 200000) (d + 6) 117 [.ref 37, .int (nI f0), .int (nI k)] (hp Ix Jx M) = some (some (.int (nI w)), hp Ix Jx M, 0, 0) := by
      intro scr L F d Ix Jx
      have := m_117 scr L (F + 191000) (d + 5) Ix Jx M f0 ef k w wsf hm (by omega) wk
      rw [show F + 191000 + 9000 = F + 200000 by omega, show d + 5 + 1 = d + 6 by omega] at this
      exact this
    rcases cast_ok (M 61 w ^^^ 1) hD0 hvb lB lA csA hS (fun _ => hpb) hv2 with ⟨x1, v1, V1, W1, I1, J1, M1, S1, c1, c2, c3, c4, c5, c6, c7, c8, c9, c10, c11⟩ | ⟨x1, I1, M1, c1, c2, c3⟩
    · have hm38 := c6.2.2.2.1 38 (by omega) (by omega)
      have hm39 := c6.2.2.2.1 39 (by omega) (by omega)
      have eA : ∀ t, tA M1 t = tA M t := by
        intro t
        unfold tA
        rw [hm39]
      have hi58 : ∀ w', w' < W → ∃ v', M 58 w' = nI v' ∧ v' < V := by
        intro w' hw'
        obtain ⟨_, _, v'', _, _, _, _, _, _, _, _, d9, d10, _⟩ := hW w' hw'
        exact ⟨v'', d9, d10.1⟩
      have hwsW : ∀ (j w' : Nat), wsf[j]? = some w' → w' < W := fun j w' z => (ht j w' z).1
      obtain ⟨x2, v2, I2, J2, M2, r1, r2, r3⟩ := ih (k + 1) I1 J1 M1 V1 W1 S1 x1 (J 23 w) xe v1 c3 (by omega) (fun j w' z => by
          have := hws (j + 1) w' z
          rw [show k + (j + 1) = k + 1 + j by omega] at this
          exact this) (ch_X ws (J 23 w) xe (W := W) (fun w' z => (c11.2 w' z).2.2.2) (fun j w' z => hwsW _ w' (hws (j + 1) w' z)) q4) (mch_X (V := V) (W := W) (fun v z => ⟨(c5.2.1 v z).1, (c5.2.1 v z).2.1⟩) (fun w' z => (c5.2.2.1 w' z).1) wsf f0 ef hwsW hf hi58 (by omega) hm) (by have := c5.1.1; omega) (fun j w' z => by
          obtain ⟨d1, d2, d3⟩ := ht j w' z
          obtain ⟨g1, g2, g3, g4⟩ := c5.2.2.1 w' d1
          exact ⟨by have := c5.1.2.1; omega, g3.trans d2, g2.trans d3⟩) htc (by rw [eA, ← ea]; exact c4) (by rw [eA, ← ea]; exact c10 hpb) c7 (by omega)
      refine ⟨x2, v2, I2, J2, M2, ?_, fun scr L F d Mx fv gv => ?_, fun scr L F d Ix Jx v0 => ?_⟩
      · rcases r1 with ⟨⟨V2, W2, S2, s1, s2, s3, s4, s5, s6, s7, s8⟩, s9⟩ | ⟨s1, s2, s3, s4⟩
        · left
          rw [eA] at s2 s6
          refine ⟨⟨V2, W2, S2, s1, s2, ext_trans c5 s3, by omega, fun τ z => s5 τ (c9 τ z), s6, s7, fun w' z => (s8 w' (by have := c5.1.2.1; omega)).trans (c11.2 w' z).2.2.2⟩, cF_trans c6 s9⟩
        · exact .inr ⟨s1, cF_trans c6 s2, fun u hu => ⟨(s3 u (by have := c5.1.1; omega)).1.trans (c5.2.1 u hu).1, (s3 u (by have := c5.1.1; omega)).2.trans (c5.2.1 u hu).2.1⟩, fun w' hw' => (s4 w' (by have := c5.1.2.1; omega)).trans (c5.2.2.1 w' hw').1⟩
      · have k14 := m14 scr L F d Mx
        rw [c1] at k14
        simp only [List.length_cons]
        refine h17_le (N := 80 * (ws.length + 2) + 80) (by omega) ?_
        refine h17_go scr L F d I J Mx fv gv xa x k (by omega) hCT.2.2.2.2.1.1 q1 w (tm a) (tm b) q2 wlen b7 b6 (by omega) (by omega) _ _ _ y1 u1 b8 x1 I1 J1 k14 _ _ ?_
        rw [(c11.2 w t1).2.2.2]
        exact r2 scr L F d Mx fv gv
      · simp only [List.length_cons]
        refine h8_le (N := 80 * (ws.length + 2) + 80) (by omega) ?_
        refine h8_go scr L F d Ix Jx M f0 v0 v wsf.length k (by omega) (by omega) hCT.2.2.2.2.1.2.1 w a b (m117 scr L F d Ix Jx) wlen b2 b1 (by omega) (by omega) _ _ _ y3 u3 rfl v1 M1 ?_ _ _ (r3 scr L F d Ix Jx v0)
        have := c2 scr L F (d + 1) Ix Jx
        rw [show d + 1 + 5 = d + 6 by omega] at this
        exact this
    · obtain ⟨e1, e2⟩ := cBad_st (J := J) c2
      obtain ⟨e3, e4⟩ := bSt_n e1
      refine ⟨x1, v, I1, J, M1, .inr ⟨e1, e2, fun u _ => ⟨by rw [cBad_z c2 55 (by omega)], by rw [cBad_z c2 56 (by omega)]⟩, fun w' _ => by rw [cBad_z c2 58 (by omega)]⟩, fun scr L F d Mx fv gv => ?_, fun scr L F d Ix Jx v0 => ?_⟩
      · have k14 := m14 scr L F d Mx
        rw [c1] at k14
        simp only [List.length_cons]
        refine h17_le (N := 80 + 80) (by omega) ?_
        refine h17_go scr L F d I J Mx fv gv xa x k (by omega) hCT.2.2.2.2.1.1 q1 w (tm a) (tm b) q2 wlen b7 b6 (by omega) (by omega) _ _ _ y1 u1 b8 x1 I1 J k14 _ _ ?_
        by_cases z : k + 1 = 200
        · exact h17_200 scr L F d I1 J Mx fv gv _ x1 (k + 1) z
        · exact h17_stop scr L F d I1 J Mx fv gv _ x1 (k + 1) (by omega) e3
      · simp only [List.length_cons]
        refine h8_le (N := 80 + 80) (by omega) ?_
        refine h8_go scr L F d Ix Jx M f0 v0 v wsf.length k (by omega) (by omega) hCT.2.2.2.2.1.2.1 w a b (m117 scr L F d Ix Jx) wlen b2 b1 (by omega) (by omega) _ _ _ y3 u3 rfl v M1 ?_ _ _ ?_
        · have := c3 scr L F (d + 1) Ix Jx
          rw [show d + 1 + 5 = d + 6 by omega] at this
          exact this
        · by_cases z : k + 1 = wsf.length
          · exact h8_end scr L F d Ix Jx M1 f0 v0 v wsf.length (k + 1) z (by omega)
          · exact h8_stop scr L F d Ix Jx M1 f0 v0 v wsf.length (k + 1) (by omega) (by omega) e4
