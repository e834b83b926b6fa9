/-! Running: on the way out. -/
def rT (M : am_I) (b0 : Int32) (t : Nat) : Nat := if b0 = 1 then tB M t else tA M t
theorem h18_le {scr : Nat → Int32} {L F d : Nat} {I : am_I} {J : am_J} {Mx : am_I} {fv gv x : Int64} {n N N' : Nat} {R : Option am_X} (h : N ≤ N') (k : h18 scr L F d I J Mx fv gv x n N R) : h18 scr L F d I J Mx fv gv x n N' R := fun f hf => k f (by omega)
theorem h18b_le {scr : Nat → Int32} {L F d : Nat} {I : am_I} {J : am_J} {Mx : am_I} {fv gv x v : Int64} {n : Nat} {i : Int32} {N N' : Nat} {R : Option am_X} (h : N ≤ N') (k : h18b scr L F d I J Mx fv gv x v n i N R) : h18b scr L F d I J Mx fv gv x v n i N' R := fun f tl hf hk => k f tl (by omega) hk
theorem h9_le {scr : Nat → Int32} {L F d : Nat} {I : am_I} {J : am_J} {M : am_I} {f0 v0 : Nat} {b0 : Int32} {v : Nat} {i : Int32} {N N' : Nat} {R : Option am_X} (h : N ≤ N') (g : h9o scr L F d I J M f0 v0 b0 v i N R) : h9o scr L F d I J M f0 v0 b0 v i N' R := fun f tl hf hk => g f tl (by omega) hk
/-- the class writes the chain down -/
theorem col_loop (J : am_J) (wsf : List Nat) (hl : wsf.length ≤ 200) : ∀ (ws : List Nat) (k : Nat) (I : am_I) (xa xe : Int64), k + ws.length = wsf.length → (∀ j w, ws[j]? = some w → wsf[k + j]? = some w) → ch (J 23) ws xa xe → (∀ j w, j < k → wsf[j]? = some w → I 27 j = nI w) → ∃ (I' : am_I) (xz : Int64), (∀ z, ¬ z = 27 → I' z = I z) ∧ (∀ j w, wsf[j]? = some w → I' 27 j = nI w) ∧ (∀ (scr : Nat → Int32) (L F d : Nat) (Mx : am_I) (fv gv : Int64) (n0 : Nat) (R : Option am_X), h18b scr L F d I' J Mx fv gv xz gv wsf.length (nI wsf.length - 1) n0 R → h18 scr L F d I J Mx fv gv xa k (n0 + 80 * (ws.length + 1)) R) := by
  intro ws
  induction ws with
  | nil =>
    intro k I xa xe hk hws hch hI
    simp only [List.length_nil] at hk ⊢
    have hkk : k = wsf.length := by omega
    refine ⟨I, xa, fun _ _ => rfl, fun j w z => hI j w (by
      have := (List.getElem?_eq_some_iff.mp z).1
      omega) z, fun scr L F d Mx fv gv n0 R key => ?_⟩
    rw [← hkk] at key
    by_cases z : k = 200
    · exact h18_le (by omega) (h18_200 scr L F d I J Mx fv gv xa k z n0 R key)
    · exact h18_le (by omega) (h18_end scr L F d I J Mx fv gv xa k (by omega) hch.2 n0 R key)
  | cons w ws ih =>
    intro k I xa xe hk hws hch hI
    simp only [List.length_cons] at hk
    obtain ⟨q1, q2, q3, q4⟩ := hch
    have wk : wsf[k]? = some w := hws 0 w rfl
    obtain ⟨I', xz, r1, r2, r3⟩ := ih (k + 1) (wr I 27 k (nI w)) (J 23 w) xe (by omega) (fun j w' z => by
      have := hws (j + 1) w' z
      rw [show k + (j + 1) = k + 1 + j by omega] at this
      exact this) q4 (fun j w' hj z => by
      by_cases e : j = k
      · subst e
        rw [wk] at z
        cases z
        exact wr_s _ _ _ _
      · rw [wr_q _ _ _ _ _ _ (by omega)]
        exact hI j w' (by omega) z)
    refine ⟨I', xz, fun z hz => (r1 z hz).trans (wr_ne _ _ _ _ _ hz), r2, fun scr L F d Mx fv gv n0 R key => ?_⟩
    simp only [List.length_cons]
    refine h18_le (N := (n0 + 80 * (ws.length + 1)) + 80) (by omega) ?_
    exact h18_go scr L F d I J Mx fv gv xa k (by omega) q1 w q2 q3 _ _ (r3 scr L F d Mx fv gv n0 R key)
theorem out_loop {N c K C fu P : Nat} {Sg fn : Nat → Nat} (f0 ef : Nat) (wsf : List Nat) (ts : Nat → Nat) (b0 : Int32) (hl : wsf.length ≤ 200) : ∀ (r : Nat) (I : am_I) (J : am_J) (M : am_I) (V W : Nat) (S : List am_T) (x : Int64) (v : Nat), DR I J M Sg fn N c V W K C fu P S → r ≤ wsf.length → (∀ j w, wsf[j]? = some w → I 27 j = nI w) → mch (M 55) (M 56) (M 58) wsf f0 ef → f0 < V → tcs M W wsf ts → (∀ j, j ≤ wsf.length → ts j < c) → ((b0 = 1 ∧ ∀ j, j ≤ wsf.length → M 38 (ts j) = 3) ∨ (b0 = 0 ∧ ∀ j, j ≤ wsf.length → M 38 (ts j) = 4)) → VR M Sg fn N c V W K C v x (rT M b0 (ts r)) → pd M S v (rT M b0 (ts r)) → v < 2300 → S.length + 2 * (200 - W) ≤ 2290 →
    ∃ (x' : Int64) (v' : Nat) (I' : am_I) (J' : am_J) (M' : am_I), (cOK I J M Sg fn N c V W K C fu P S (rT M b0 (ts 0)) x' v' I' J' M' ∨ cEnd V W I I' J J' M M') ∧ (∀ (scr : Nat → Int32) (L F d : Nat) (Mx : am_I) (fv gv xz : Int64) (n : Nat), h18b scr L F d I J Mx fv gv xz x n (nI r - 1) (80 * (r + 1)) (some (some (.long x'), hp I' J' Mx, 0, 0))) ∧ (∀ (scr : Nat → Int32) (L F d : Nat) (Ix : am_I) (Jx : am_J) (v0 : Nat), h9o scr L F d Ix Jx M f0 v0 b0 v (nI r - 1) (80 * (r + 1)) (some (some (.int (nI v')), hp Ix Jx M', 0, 0))) := by
  intro r
  induction r with
  | zero =>
    intro I J M V W S x v hD hr hI hm hf ht htc hkd hv hp2 hv2 hS
    refine ⟨x, v, I, J, M, .inl ⟨⟨V, W, S, hD, hv, ext_refl _ _ _ _ _ _ _, Nat.le_refl _, fun _ z => z, hp2, hv2, fun _ _ => rfl⟩, cF_refl _ _ _⟩, fun scr L F d Mx fv gv xz n => ?_, fun scr L F d Ix Jx v0 => ?_⟩
    · exact h18b_le (by omega) (h18b_end scr L F d I J Mx fv gv xz n x _ m0_1)
    · exact h9_le (by omega) (h9_end scr L F d Ix Jx M f0 v0 b0 v _ m0_1)
  | succ r ih =>
    intro I J M V W S x v hD hr hI hm hf ht htc hkd hv hp2 hv2 hS
    have hD0 := hD
    obtain ⟨hCT, hR, hW, hCE, hSC, hTB⟩ := hD
    have hV9 := pigeon (row M) V S hTB.1 hTB.2
    obtain ⟨w, wk⟩ : ∃ w, wsf[r]? = some w := ⟨wsf[r]'(by omega), List.getElem?_eq_getElem (by omega)⟩
    obtain ⟨t1, t2, t3⟩ := ht r w wk
    obtain ⟨a, b, v', b1, b2, b3, b4, b5, b6, b7, b8, b9, b10, b11, b12, b13⟩ := hW w t1
    have hc := hR.2.1
    have hc5 := hR.1
    have l1 := htc r (by omega)
    have l2 := htc (r + 1) (by omega)
    have eb : b = ts r := nI_inj (by omega) (by omega) (b2.symm.trans t2)
    have ea : a = ts (r + 1) := nI_inj (by omega) (by omega) (b1.symm.trans t3)
    have k3 : 3 ≤ a ∧ 3 ≤ b := by
      constructor
      · refine Decidable.byContradiction (fun z => ?_)
        have := (hR.2.2.2.2.2.2.1 a (by omega)).2.2.2.2
        rcases b12 with ⟨y, _⟩ | ⟨y, _⟩
        · rw [this] at y
          exact (n03 a (by omega)).1 y
        · rw [this] at y
          exact (n03 a (by omega)).2.1 y
      · refine Decidable.byContradiction (fun z => ?_)
        have := (hR.2.2.2.2.2.2.1 b (by omega)).2.2.2.2
        rcases b12 with ⟨_, y⟩ | ⟨_, y⟩
        · rw [this] at y
          exact (n03 b (by omega)).1 y
        · rw [this] at y
          exact (n03 b (by omega)).2.1 y
    have kinds : (b0 = 1 ∧ M 38 a = 3 ∧ M 38 b = 3) ∨ (b0 = 0 ∧ M 38 a = 4 ∧ M 38 b = 4) := by
      rw [ea, eb]
      rcases hkd with ⟨z1, z2⟩ | ⟨z1, z2⟩
      · exact .inl ⟨z1, z2 _ (by omega), z2 _ (by omega)⟩
      · exact .inr ⟨z1, z2 _ (by omega), z2 _ (by omega)⟩
    have csR : CS M (rT M b0 a) (rT M b0 b) := by
      unfold rT
      rcases kinds with ⟨z1, z2, z3⟩ | ⟨z1, z2, z3⟩
      · rw [if_pos z1, if_pos z1]
        rcases CS_kind hR b3 b11 b5 (by omega) (by omega) with ⟨_, _, _, y⟩ | ⟨y, _, _⟩
        · exact y
        · exact absurd (z2.symm.trans y) n34
      · rw [if_neg (by rw [z1]; decide), if_neg (by rw [z1]; decide)]
        rcases CS_kind hR b3 b11 b5 (by omega) (by omega) with ⟨y, _, _, _⟩ | ⟨_, _, y⟩
        · exact absurd (z2.symm.trans y) n43
        · exact y
    have lR : ∀ t, t < c → 3 ≤ t → (b0 = 1 ∧ M 38 t = 3 ∨ b0 = 0 ∧ M 38 t = 4) → rT M b0 t < c ∧ I 5 (tm t) = nI (tm (rT M b0 t)) ∧ (b0 = 1 → M 40 t = nI (rT M b0 t)) ∧ (b0 = 0 → M 39 t = nI (rT M b0 t)) := by
      intro t h1 h2 h3
      obtain ⟨u1, u2, u3, u4⟩ := ty_5 hR h1 h2
      have uA := tyR_A hR t h2 h1
      unfold rT
      rcases h3 with ⟨z1, z2⟩ | ⟨z1, z2⟩
      · rw [if_pos z1]
        rw [if_pos z2] at u2
        exact ⟨(uA.1 z2).2, u2, fun _ => u4 z2, fun z => absurd (z1.symm.trans z) (by decide)⟩
      · rw [if_neg (by rw [z1]; decide)]
        rw [if_neg (by rw [z2]; exact n43)] at u2
        exact ⟨uA.2, u2, fun z => absurd (z1.symm.trans z) (by decide), fun _ => u3⟩
    obtain ⟨lA, u5, u40, u39⟩ := lR a b3 k3.1 (by rcases kinds with ⟨z1, z2, z3⟩ | ⟨z1, z2, z3⟩ <;> simp [z1, z2])
    obtain ⟨lB, y5, y40, y39⟩ := lR b b4 k3.2 (by rcases kinds with ⟨z1, z2, z3⟩ | ⟨z1, z2, z3⟩ <;> simp [z1, z3])
    have hvb : VR M Sg fn N c V W K C v x (rT M b0 a) := by
      rw [ea]
      exact hv
    have hpb : pd M S v (rT M b0 a) := by
      rw [ea]
      exact hp2
    have tta := tm_lt b3 (show 3 ≤ c by omega)
    have ttb := tm_lt b4 (show 3 ≤ c by omega)
    have ttA := tm_lt lA (show 3 ≤ c by omega)
    have ttB := tm_lt lB (show 3 ≤ c by omega)
    have hWW := hCT.2.1.2.2
    have wlen : w < 200 := by omega
    have ei : nI (r + 1) - 1 = nI r := nI_pred r
    have m14 : ∀ (scr : Nat → Int32) (L F d : Nat) (Mx : am_I), am_r scr L (F + 200000) (d + 6) 14 [.ref 23, .long x, .int (nI (tm (rT M b0 a))), .int (nI (tm (rT M b0 b))), .int (M 61 w)] (hp I J Mx) = some (some (.long (ct I J W x (tm (rT M b0 a)) (tm (rT M b0 b)) (M 61 w)).1), hp (ct I J W x (tm (rT M b0 a)) (tm (rT M b0 b)) (M 61 w)).2.1 (ct I J W x (tm (rT M b0 a)) (tm (rT M b0 b)) (M 61 w)).2.2 Mx, 0, 0) := by
      intro scr L F d Mx
      have := m_14 scr L (F + 199500) (d + 3) I J Mx W (tm (rT M b0 a)) (tm (rT M b0 b)) x (M 61 w) hCT.2.1.1 hWW (by omega) (by omega)
      rw [show F + 199500 + 500 = F + 200000 by omega, show d + 3 + 3 = d + 6 by omega] at this
      exact this
    have m117 : ∀ (scr : Nat → Int32) (L F d : Nat) (Ix : am_I) (Jx : am_J), am_r scr L (F + 200000) (d + 6) 117 [.ref 37, .int (nI f0), .int (nI r)] (hp Ix Jx M) = some (some (.int (nI w)), hp Ix Jx M, 0, 0) := by
      intro scr L F d Ix Jx
      have := m_117 scr L (F + 191000) (d + 5) Ix Jx M f0 ef r w wsf hm (by omega) wk
      rw [show F + 191000 + 9000 = F + 200000 by omega, show d + 5 + 1 = d + 6 by omega] at this
      exact this
    have step9 : ∀ (scr : Nat → Int32) (L F d : Nat) (Ix : am_I) (Jx : am_J) (v0 v1 : Nat) (M1 : am_I), (am_r scr L (F + 200000) (d + 6) 114 [.ref 37, .int (nI v), .int (nI (rT M b0 a)), .int (nI (rT M b0 b)), .int (M 61 w)] (hp Ix Jx M) = some (some (.int (nI v1)), hp Ix Jx M1, 0, 0)) → ∀ (n0 : Nat) (R : Option am_X), h9o scr L F d Ix Jx M1 f0 v0 b0 v1 (nI r - 1) n0 R → h9o scr L F d Ix Jx M f0 v0 b0 v (nI (r + 1) - 1) (n0 + 80) R := by
      intro scr L F d Ix Jx v0 v1 M1 kc n0 R key
      rw [ei]
      rcases kinds with ⟨z1, z2, z3⟩ | ⟨z1, z2, z3⟩
      · exact h9_go_f scr L F d Ix Jx M f0 v0 b0 v (nI r) z1 r (by omega) rfl hCT.2.2.2.2.1.2.1 w a b (m117 scr L F d Ix Jx) wlen b2 b1 (by omega) (by omega) _ _ _ (y40 z1) (u40 z1) rfl v1 M1 kc n0 R key
      · exact h9_go_c scr L F d Ix Jx M f0 v0 b0 v (nI r) z1 r (by omega) rfl hCT.2.2.2.2.1.2.1 w a b (m117 scr L F d Ix Jx) wlen b2 b1 (by omega) (by omega) _ _ _ (y39 z1) (u39 z1) rfl v1 M1 kc n0 R key
    rcases cast_ok (M 61 w) hD0 hvb lA lB csR hS (fun _ => hpb) hv2 with ⟨x1, v1, V1, W1, I1, J1, M1, S1, c1, c2, c3, c4, c5, c6, c7, c8, c9, c10, c11⟩ | ⟨x1, I1, M1, c1, c2, c3⟩
    · have hm38 := c6.2.2.2.1 38 (by omega) (by omega)
      have hm39 := c6.2.2.2.1 39 (by omega) (by omega)
      have hm40 := c6.2.2.2.1 40 (by omega) (by omega)
      have eA : ∀ t, rT M1 b0 t = rT M b0 t := by
        intro t
        unfold rT tA tB
        rw [hm39, hm40]
      have hi58 : ∀ w', w' < W → ∃ v', M 58 w' = nI v' ∧ v' < V := by
        intro w' hw'
        obtain ⟨_, _, v'', _, _, _, _, _, _, _, _, d9, d10, _⟩ := hW w' hw'
        exact ⟨v'', d9, d10.1⟩
      have hwsW : ∀ (j w' : Nat), wsf[j]? = some w' → w' < W := fun j w' z => (ht j w' z).1
      obtain ⟨x2, v2, I2, J2, M2, r1, r2, r3⟩ := ih I1 J1 M1 V1 W1 S1 x1 v1 c3 (by omega) (fun j w' z => by rw [c11.1]; exact hI j w' z) (mch_X (V := V) (W := W) (fun v z => ⟨(c5.2.1 v z).1, (c5.2.1 v z).2.1⟩) (fun w' z => (c5.2.2.1 w' z).1) wsf f0 ef hwsW hf hi58 (by omega) hm) (by have := c5.1.1; omega) (fun j w' z => by
          obtain ⟨d1, d2, d3⟩ := ht j w' z
          obtain ⟨g1, g2, g3, g4⟩ := c5.2.2.1 w' d1
          exact ⟨by have := c5.1.2.1; omega, g3.trans d2, g2.trans d3⟩) htc (by rw [hm38]; exact hkd) (by rw [eA, ← eb]; exact c4) (by rw [eA, ← eb]; exact c10 hpb) c7 (by omega)
      refine ⟨x2, v2, I2, J2, M2, ?_, fun scr L F d Mx fv gv xz n => ?_, fun scr L F d Ix Jx v0 => ?_⟩
      · rcases r1 with ⟨⟨V2, W2, S2, s1, s2, s3, s4, s5, s6, s7, s8⟩, s9⟩ | ⟨s1, s2, s3, s4⟩
        · left
          rw [eA] at s2 s6
          refine ⟨⟨V2, W2, S2, s1, s2, ext_trans c5 s3, by omega, fun τ z => s5 τ (c9 τ z), s6, s7, fun w' z => (s8 w' (by have := c5.1.2.1; omega)).trans (c11.2 w' z).2.2.2⟩, cF_trans c6 s9⟩
        · exact .inr ⟨s1, cF_trans c6 s2, fun u hu => ⟨(s3 u (by have := c5.1.1; omega)).1.trans (c5.2.1 u hu).1, (s3 u (by have := c5.1.1; omega)).2.trans (c5.2.1 u hu).2.1⟩, fun w' hw' => (s4 w' (by have := c5.1.2.1; omega)).trans (c5.2.2.1 w' hw').1⟩
      · have k14 := m14 scr L F d Mx
        rw [c1] at k14
        rw [ei]
        refine h18b_le (N := 80 * (r + 1) + 80) (by omega) ?_
        exact h18b_go scr L F d I J Mx fv gv xz n x (nI r) r (by omega) rfl hCT.2.2.2.2.1.1 w (tm a) (tm b) (hI r w wk) wlen b7 b6 (by omega) (by omega) _ _ _ y5 u5 b8 x1 I1 J1 k14 _ _ (r2 scr L F d Mx fv gv xz n)
      · refine h9_le (N := 80 * (r + 1) + 80) (by omega) ?_
        refine step9 scr L F d Ix Jx v0 v1 M1 ?_ _ _ (r3 scr L F d Ix Jx v0)
        have := c2 scr L F (d + 1) Ix Jx
        rw [show d + 1 + 5 = d + 6 by omega] at this
        exact this
    · obtain ⟨e1, e2⟩ := cBad_st (J := J) c2
      obtain ⟨e3, e4⟩ := bSt_n e1
      refine ⟨x1, v, I1, J, M1, .inr ⟨e1, e2, fun u _ => ⟨by rw [cBad_z c2 55 (by omega)], by rw [cBad_z c2 56 (by omega)]⟩, fun w' _ => by rw [cBad_z c2 58 (by omega)]⟩, fun scr L F d Mx fv gv xz n => ?_, fun scr L F d Ix Jx v0 => ?_⟩
      · have k14 := m14 scr L F d Mx
        rw [c1] at k14
        rw [ei]
        refine h18b_le (N := 80 + 80) (by omega) ?_
        refine h18b_go scr L F d I J Mx fv gv xz n x (nI r) r (by omega) rfl hCT.2.2.2.2.1.1 w (tm a) (tm b) (hI r w wk) wlen b7 b6 (by omega) (by omega) _ _ _ y5 u5 b8 x1 I1 J k14 _ _ ?_
        cases r with
        | zero => exact h18b_end scr L F d I1 J Mx fv gv xz n x1 _ m0_1
        | succ r => exact h18b_stop scr L F d I1 J Mx fv gv xz n x1 _ r (by omega) (nI_pred r) e3
      · refine h9_le (N := 80 + 80) (by omega) ?_
        refine step9 scr L F d Ix Jx v0 v M1 ?_ _ _ ?_
        · have := c3 scr L F (d + 1) Ix Jx
          rw [show d + 1 + 5 = d + 6 by omega] at this
          exact this
        · cases r with
          | zero => exact h9_end scr L F d Ix Jx M1 f0 v0 b0 v _ m0_1
          | succ r => exact h9_stop scr L F d Ix Jx M1 f0 v0 b0 v _ r (by omega) (nI_pred r) e4
