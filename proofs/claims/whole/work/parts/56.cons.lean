/-! Consistent types: the reference's loop. -/
def tln (I : am_I) (t : Nat) : Nat := (I 6 (tm t)).toNatClampNeg
theorem ty_len {I M : am_I} {c t : Nat} (h : tyR I M c) (ht : t < c) : I 6 (tm t) = nI (tln I t) ∧ 1 ≤ tln I t ∧ tln I t ≤ 200 ∧ (M 38 t = 3 → tln I t = tln I (tA M t) + tln I (tB M t) + 3) ∧ (M 38 t = 4 → tln I t = tln I (tA M t) + 1) := by
  have hc := h.1
  have hc2 := h.2.1
  unfold tln
  by_cases g : t < 3
  · have hl := (h.2.2.2.2.2.2.1 (tm t) (tm_lt g (by omega))).2.2.2.1
    have hk := (h.2.2.2.2.2.2.1 t g).2.2.2.2
    rw [hl]
    have e1 : (1 : Int32).toNatClampNeg = 1 := by decide +kernel
    rw [e1]
    exact ⟨by decide +kernel, by omega, by omega, fun z => absurd (hk.symm.trans z) (n03 t g).1, fun z => absurd (hk.symm.trans z) (n03 t g).2.1⟩
  · have e3 := tm_3 (show 3 ≤ t by omega)
    rcases h.2.2.2.2.2.2.2.1 t (by omega) ht with ⟨a, b, la, lb, k1, k2, k3, k4, k5, k6, k7, k8, k9, k10, k11, k12⟩ | ⟨a, la, k1, k3, k4, k5, k6, k7, k8, k9, k11, k12⟩
    · have ea : tA M t = a := by
        unfold tA
        rw [k5]
        exact nI_clamp (by omega)
      have eb : tB M t = b := by
        unfold tB
        rw [k6]
        exact nI_clamp (by omega)
      rw [e3, k11, ea, eb, k9, k10, nI_clamp (by omega), nI_clamp (by omega), nI_clamp (by omega)]
      exact ⟨rfl, by omega, k12, fun _ => rfl, fun z => absurd (k3.symm.trans z) n34⟩
    · have ea : tA M t = a := by
        unfold tA
        rw [k5]
        exact nI_clamp (by omega)
      rw [e3, k11, ea, k9, nI_clamp (by omega), nI_clamp (by omega)]
      exact ⟨rfl, by omega, k12, fun z => absurd (k3.symm.trans z) n43, fun _ => rfl⟩
def stk (M : am_I) : List (Nat × Nat) → Prop
  | [] => True
  | q :: r => M 54 (2 * r.length) = nI q.1 ∧ M 54 (2 * r.length + 1) = nI q.2 ∧ stk M r
def sln (I : am_I) : List (Nat × Nat) → Nat
  | [] => 0
  | q :: r => tln I q.1 + sln I r
def scn (M : am_I) : List (Nat × Nat) → Bool
  | [] => true
  | q :: r => cn M 40 q.1 q.2 && scn M r
def sok (M : am_I) (c : Nat) : List (Nat × Nat) → Prop
  | [] => True
  | q :: r => q.1 < c ∧ q.2 < c ∧ hb M 40 q.1 ∧ sok M c r
theorem stk_X {M M' : am_I} : ∀ (r : List (Nat × Nat)) (b : Nat), 2 * r.length ≤ b → (∀ k, k < b → M' 54 k = M 54 k) → stk M r → stk M' r
  | [], _, _, _, _ => trivial
  | q :: r, b, hb1, h, ⟨h1, h2, h3⟩ => by
    simp only [List.length_cons] at hb1
    exact ⟨(h _ (by omega)).trans h1, (h _ (by omega)).trans h2, stk_X r b (by omega) h h3⟩
theorem cn_M {M M' : am_I} (h1 : M' 38 = M 38) (h2 : M' 39 = M 39) (h3 : M' 40 = M 40) : ∀ (e t u : Nat), cn M' e t u = cn M e t u
  | 0, t, u => rfl
  | e + 1, t, u => by
    unfold cn tA tB
    rw [h1, h2, h3, cn_M h1 h2 h3 e, cn_M h1 h2 h3 e]
theorem cn_s (M : am_I) (e t u : Nat) : cn M (e + 1) t u = if t = u ∨ t = 2 ∨ u = 2 then true else if ¬ M 38 t = M 38 u ∨ M 38 t < 3 then false else if M 38 t = 3 then (cn M e (tA M t) (tA M u) && cn M e (tB M t) (tB M u)) else cn M e (tA M t) (tA M u) := rfl
theorem scn_M {M M' : am_I} (h1 : M' 38 = M 38) (h2 : M' 39 = M 39) (h3 : M' 40 = M 40) : ∀ (r : List (Nat × Nat)), scn M' r = scn M r
  | [] => rfl
  | q :: r => by
    unfold scn
    rw [cn_M h1 h2 h3, scn_M h1 h2 h3 r]
theorem sok_M {M M' : am_I} {c : Nat} (h1 : M' 38 = M 38) (h2 : M' 39 = M 39) (h3 : M' 40 = M 40) : ∀ (r : List (Nat × Nat)), sok M c r → sok M' c r
  | [], _ => trivial
  | q :: r, ⟨a, b, d, e⟩ => ⟨a, b, hb_eq h1 h2 h3 d, sok_M h1 h2 h3 r e⟩
theorem h7_le {scr : Nat → Int32} {L d : Nat} {call : Nat → List Value → am_H → Option am_X} {I : am_I} {J : am_J} {N N' k : Nat} {M : am_I} {R : Option am_X} (h : N ≤ N') (g : h7 scr L d call I J N k M R) : h7 scr L d call I J N' k M R := fun f tl x y a b => g f tl x y (by omega) b
theorem va_va {A : am_I} {k : Nat} {f g : Nat → Int32} : va_up (va_up A k f) k g = va_up A k g := bx_uu A k f g
theorem wr54 (M : am_I) (f : Nat → Int32) (k : Nat) (v : Int32) : wr (va_up M 54 f) 54 k v = va_up M 54 (upd f k v) := by
  unfold wr
  rw [va_up_self, va_va]
theorem co_loop {I1 : am_I} {c : Nat} : ∀ (W : Nat) (r : List (Nat × Nat)) (M : am_I), tyR I1 M c → sok M c r → stk M r → sln I1 r ≤ W → W ≤ 200 → 2 * r.length ≤ 2 * sln I1 r → ∃ g : Nat → Int32, ∀ (scr : Nat → Int32) (L d : Nat) (call : Nat → List Value → am_H → Option am_X) (I : am_I) (J : am_J), h7 scr L d call I J (100 * (W + 1)) (2 * r.length) M (some (some (.int (bi (scn M r))), hp I J (va_up M 54 g), 0, 0)) := by
  intro W
  induction W with
  | zero =>
    intro r M hR ho hs hl hW h2
    cases r with
    | nil =>
      refine ⟨M 54, fun scr L d call I J => ?_⟩
      have e : va_up M 54 (M 54) = M := by
        funext k
        by_cases hk : k = 54
        · subst hk
          exact va_up_self _ _ _
        · exact va_up_ne _ _ hk
      rw [e]
      exact h97_end scr L d call I J M
    | cons q r =>
      have := ty_len hR ho.1
      simp only [sln] at hl
      omega
  | succ W ih =>
    intro r M hR ho hs hl hW h2
    have hc := hR.1
    have hc2 := hR.2.1
    cases r with
    | nil =>
      refine ⟨M 54, fun scr L d call I J => ?_⟩
      have e : va_up M 54 (M 54) = M := by
        funext k
        by_cases hk : k = 54
        · subst hk
          exact va_up_self _ _ _
        · exact va_up_ne _ _ hk
      rw [e]
      exact h7_le (by omega) (h97_end scr L d call I J M)
    | cons q r =>
      obtain ⟨t, u⟩ := q
      obtain ⟨o1, o2, o3, o4⟩ := ho
      obtain ⟨s1, s2, s3⟩ := hs
      simp only at o1 o2 o3 s1 s2
      obtain ⟨l1, l2, l3, l4, l5⟩ := ty_len hR o1
      simp only [sln] at hl h2
      simp only [List.length_cons] at h2 ⊢
      have hr : r.length ≤ sln I1 r := by
        clear ih h2 s1 s2
        have : ∀ (r : List (Nat × Nat)), sok M c r → r.length ≤ sln I1 r := by
          intro r
          induction r with
          | nil => intro _; exact Nat.le_refl _
          | cons q r ih2 =>
            rintro ⟨w1, w2, w3, w4⟩
            have := ih2 w4
            have := (ty_len hR w1).2.1
            simp only [List.length_cons, sln]
            omega
        exact this r o4
      have mF : ∀ (f : Nat → Int32), tyR I1 (va_up M 54 f) c := fun f => tyR_congr rfl rfl rfl rfl rfl (by rw [va_up_ne _ _ (by omega)]) (by rw [va_up_ne _ _ (by omega)]) (by rw [va_up_ne _ _ (by omega)]) (va_up_ne _ _ (by omega)) (va_up_ne _ _ (by omega)) (va_up_ne _ _ (by omega)) hR
      by_cases q : t = u ∨ t = 2 ∨ u = 2
      · obtain ⟨g, hg⟩ := ih r M hR o4 s3 (by omega) (by omega) (by omega)
        have e : cn M 40 t u = true := by
          unfold cn
          rw [if_pos q]
        refine ⟨g, fun scr L d call I J => ?_⟩
        have k := h97_skip scr L d call I J M (2 * r.length) t u (by omega) (by omega) (by omega) s1 s2 _ _ q (hg scr L d call I J)
        simp only [scn, e, Bool.true_and]
        refine h7_le (N := 100 * (W + 1) + 100) (by omega) ?_
        rw [show 2 * (r.length + 1) = 2 * r.length + 2 by omega]
        exact k
      · by_cases w : ¬ M 38 t = M 38 u ∨ M 38 t < 3
        · refine ⟨M 54, fun scr L d call I J => ?_⟩
          have e : va_up M 54 (M 54) = M := by
            funext k
            by_cases hk : k = 54
            · subst hk
              exact va_up_self _ _ _
            · exact va_up_ne _ _ hk
          have e2 : cn M 40 t u = false := by
            unfold cn
            rw [if_neg q, if_pos w]
          rw [e]
          simp only [scn, e2, Bool.false_and]
          have k := h97_false scr L d call I J M (2 * r.length) t u (by omega) (by omega) (by omega) s1 s2 q w
          refine h7_le (N := 100) (by omega) ?_
          rw [show 2 * (r.length + 1) = 2 * r.length + 2 by omega]
          exact k
        · have w1 : M 38 t = M 38 u := Decidable.byContradiction (fun z => w (.inl z))
          have w2 : ¬ M 38 t < 3 := fun z => w (.inr z)
          have ek : cn M 40 t u = if M 38 t = 3 then (cn M 39 (tA M t) (tA M u) && cn M 39 (tB M t) (tB M u)) else cn M 39 (tA M t) (tA M u) := by
            rw [cn_s M 39 t u, if_neg q, if_neg w]
          have hbt : ∃ a, M 39 t = nI a ∧ a < t ∧ hb M 39 a ∧ (M 38 t = 3 → ∃ b, M 40 t = nI b ∧ b < t ∧ hb M 39 b) := by
            rcases o3 with z | z
            · exfalso
              rcases ty_kind hR o1 with ⟨a1, a2, a3⟩ | ⟨a1, _⟩ | ⟨a1, _⟩
              · exact w2 (by rw [a2]; exact (n03 t a1).2.2)
              · omega
              · omega
            · exact z
          obtain ⟨a, b1, b2, b3, b4⟩ := hbt
          have ea : tA M t = a := by
            unfold tA
            rw [b1]
            exact nI_clamp (by omega)
          rcases ty_kind hR o1 with ⟨a1, a2, a3⟩ | ⟨a1, a2, a3, a4, a5, a6, a7, a8, a9⟩ | ⟨a1, a2, a3, a4, a5, a6, a7⟩
          · exact absurd (by rw [a2]; exact (n03 t a1).2.2) w2
          · rcases ty_kind hR o2 with ⟨c1, c2, c3⟩ | ⟨c1, c2, c3, c4, c5, c6, c7, c8, c9⟩ | ⟨c1, c2, c3, c4, c5, c6, c7⟩
            · exact absurd (w1.symm.trans a2) (by rw [c2]; exact (n03 u c1).1)
            · obtain ⟨b, d1, d2, d3⟩ := b4 a2
              have eb : tB M t = b := by
                unfold tB
                rw [d1]
                exact nI_clamp (by omega)
              have l6 := l4 a2
              have q3 : cn M 39 (tA M t) (tA M u) = cn M 40 (tA M t) (tA M u) := cn_eq hR 39 _ _ _ _ (by omega) (by rw [ea]; exact b3) (by omega) (by omega)
              have q4 : cn M 39 (tB M t) (tB M u) = cn M 40 (tB M t) (tB M u) := cn_eq hR 39 _ _ _ _ (by omega) (by rw [eb]; exact d3) (by omega) (by omega)
              obtain ⟨f, hf⟩ : ∃ f, wr (wr (wr (wr M 54 (2 * r.length) (nI (tA M t))) 54 (2 * r.length + 1) (nI (tA M u))) 54 (2 * r.length + 2) (nI (tB M t))) 54 (2 * r.length + 3) (nI (tB M u)) = va_up M 54 f := by
                refine ⟨upd (upd (upd (upd (M 54) (2 * r.length) (nI (tA M t))) (2 * r.length + 1) (nI (tA M u))) (2 * r.length + 2) (nI (tB M t))) (2 * r.length + 3) (nI (tB M u)), ?_⟩
                rw [show wr M 54 (2 * r.length) (nI (tA M t)) = va_up M 54 (upd (M 54) (2 * r.length) (nI (tA M t))) from rfl, wr54, wr54, wr54]
              have h54 : ∀ k, k < 2 * r.length → va_up M 54 f 54 k = M 54 k := by
                intro k hk
                rw [← hf, wr_q _ _ _ _ _ _ (by omega), wr_q _ _ _ _ _ _ (by omega), wr_q _ _ _ _ _ _ (by omega), wr_q _ _ _ _ _ _ (by omega)]
              have hst : stk (va_up M 54 f) ((tB M t, tB M u) :: (tA M t, tA M u) :: r) := by
                refine ⟨?_, ?_, ?_, ?_, stk_X r _ (Nat.le_refl _) h54 s3⟩
                · simp only [List.length_cons]
                  rw [← hf, show 2 * (r.length + 1) = 2 * r.length + 2 by omega, wr_q _ _ _ _ _ _ (by omega), wr_s]
                · simp only [List.length_cons]
                  rw [← hf, show 2 * (r.length + 1) + 1 = 2 * r.length + 3 by omega, wr_s]
                · simp only
                  rw [← hf, wr_q _ _ _ _ _ _ (by omega), wr_q _ _ _ _ _ _ (by omega), wr_q _ _ _ _ _ _ (by omega), wr_s]
                · simp only
                  rw [← hf, wr_q _ _ _ _ _ _ (by omega), wr_q _ _ _ _ _ _ (by omega), wr_s]
              have hln : 2 * ((tB M t, tB M u) :: (tA M t, tA M u) :: r).length ≤ 2 * sln I1 ((tB M t, tB M u) :: (tA M t, tA M u) :: r) := by
                have y1 := (ty_len hR (show tA M t < c by omega)).2.1
                have y2 := (ty_len hR (show tB M t < c by omega)).2.1
                simp only [sln, List.length_cons]
                omega
              obtain ⟨g, hg⟩ := ih ((tB M t, tB M u) :: (tA M t, tA M u) :: r) (va_up M 54 f) (mF f) ⟨by simp only; omega, by simp only; omega, hb_eq (va_up_ne _ _ (by omega)) (va_up_ne _ _ (by omega)) (va_up_ne _ _ (by omega)) (by simp only; rw [eb]; exact hb_le (by omega) d3), by simp only; omega, by simp only; omega, hb_eq (va_up_ne _ _ (by omega)) (va_up_ne _ _ (by omega)) (va_up_ne _ _ (by omega)) (by simp only; rw [ea]; exact hb_le (by omega) b3), sok_M (va_up_ne _ _ (by omega)) (va_up_ne _ _ (by omega)) (va_up_ne _ _ (by omega)) r o4⟩ hst (by simp only [sln]; omega) (by omega) hln
              · refine ⟨g, fun scr L d call I J => ?_⟩
                have k := h97_fun scr L d call I J M (2 * r.length) t u (by omega) (by omega) (by omega) s1 s2 (by omega) (100 * (W + 1)) (some (some (.int (bi (scn M ((t, u) :: r)))), hp I J (va_up M 54 g), 0, 0)) q a2 c2 (tA M t) (tA M u) (tB M t) (tB M u) a6 c6 a7 c7 ?_
                · refine h7_le (N := 100 * (W + 1) + 100) (by omega) ?_
                  rw [show 2 * (r.length + 1) = 2 * r.length + 2 by omega]
                  exact k
                · rw [hf]
                  have k2 := hg scr L d call I J
                  rw [va_va] at k2
                  have e3 : scn (va_up M 54 f) ((tB M t, tB M u) :: (tA M t, tA M u) :: r) = scn M ((t, u) :: r) := by
                    rw [scn_M (va_up_ne _ _ (by omega)) (va_up_ne _ _ (by omega)) (va_up_ne _ _ (by omega))]
                    simp only [scn, ek, if_pos a2, q3, q4]
                    cases cn M 40 (tA M t) (tA M u) <;> cases cn M 40 (tB M t) (tB M u) <;> simp
                  rw [e3] at k2
                  rw [show 2 * r.length + 4 = 2 * ((tB M t, tB M u) :: (tA M t, tA M u) :: r).length by simp only [List.length_cons]; omega]
                  exact k2
            · exact absurd (a2.symm.trans (w1.trans c2)) n34
          · rcases ty_kind hR o2 with ⟨c1, c2, c3⟩ | ⟨c1, c2, c3, c4, c5, c6, c7, c8, c9⟩ | ⟨c1, c2, c3, c4, c5, c6, c7⟩
            · exact absurd (w1.symm.trans a2) (by rw [c2]; exact (n03 u c1).2.1)
            · exact absurd (a2.symm.trans (w1.trans c2)) n43
            · have l6 := l5 a2
              have n3 : ¬ M 38 t = 3 := by
                rw [a2]
                exact n43
              have q3 : cn M 39 (tA M t) (tA M u) = cn M 40 (tA M t) (tA M u) := cn_eq hR 39 _ _ _ _ (by omega) (by rw [ea]; exact b3) (by omega) (by omega)
              obtain ⟨f, hf⟩ : ∃ f, wr (wr M 54 (2 * r.length) (nI (tA M t))) 54 (2 * r.length + 1) (nI (tA M u)) = va_up M 54 f := by
                refine ⟨upd (upd (M 54) (2 * r.length) (nI (tA M t))) (2 * r.length + 1) (nI (tA M u)), ?_⟩
                rw [show wr M 54 (2 * r.length) (nI (tA M t)) = va_up M 54 (upd (M 54) (2 * r.length) (nI (tA M t))) from rfl, wr54]
              have h54 : ∀ k, k < 2 * r.length → va_up M 54 f 54 k = M 54 k := by
                intro k hk
                rw [← hf, wr_q _ _ _ _ _ _ (by omega), wr_q _ _ _ _ _ _ (by omega)]
              have hst : stk (va_up M 54 f) ((tA M t, tA M u) :: r) := by
                refine ⟨?_, ?_, stk_X r _ (Nat.le_refl _) h54 s3⟩
                · simp only
                  rw [← hf, wr_q _ _ _ _ _ _ (by omega), wr_s]
                · simp only
                  rw [← hf, wr_s]
              have hln : 2 * ((tA M t, tA M u) :: r).length ≤ 2 * sln I1 ((tA M t, tA M u) :: r) := by
                have y1 := (ty_len hR (show tA M t < c by omega)).2.1
                simp only [sln, List.length_cons]
                omega
              obtain ⟨g, hg⟩ := ih ((tA M t, tA M u) :: r) (va_up M 54 f) (mF f) ⟨by simp only; omega, by simp only; omega, hb_eq (va_up_ne _ _ (by omega)) (va_up_ne _ _ (by omega)) (va_up_ne _ _ (by omega)) (by simp only; rw [ea]; exact hb_le (by omega) b3), sok_M (va_up_ne _ _ (by omega)) (va_up_ne _ _ (by omega)) (va_up_ne _ _ (by omega)) r o4⟩ hst (by simp only [sln]; omega) (by omega) hln
              · refine ⟨g, fun scr L d call I J => ?_⟩
                have k := h97_cell scr L d call I J M (2 * r.length) t u (by omega) (by omega) (by omega) s1 s2 (100 * (W + 1)) (some (some (.int (bi (scn M ((t, u) :: r)))), hp I J (va_up M 54 g), 0, 0)) q a2 c2 (tA M t) (tA M u) a5 c5 ?_
                · refine h7_le (N := 100 * (W + 1) + 100) (by omega) ?_
                  rw [show 2 * (r.length + 1) = 2 * r.length + 2 by omega]
                  exact k
                · rw [hf]
                  have k2 := hg scr L d call I J
                  rw [va_va] at k2
                  have e3 : scn (va_up M 54 f) ((tA M t, tA M u) :: r) = scn M ((t, u) :: r) := by
                    rw [scn_M (va_up_ne _ _ (by omega)) (va_up_ne _ _ (by omega)) (va_up_ne _ _ (by omega))]
                    simp only [scn, ek, if_neg n3, q3]
                  rw [e3] at k2
                  rw [show 2 * r.length + 2 = 2 * ((tA M t, tA M u) :: r).length by simp only [List.length_cons]; omega]
                  exact k2
theorem co_97 {I1 M : am_I} {c t u : Nat} (hR : tyR I1 M c) (ht : t < c) (hu : u < c) (hh : hb M 40 t) : ∃ g : Nat → Int32, ∀ (scr : Nat → Int32) (L F d : Nat) (I : am_I) (J : am_J), am_r scr L (F + 21000) (d + 1) 97 [.ref 37, .int (nI t), .int (nI u)] (hp I J M) = some (some (.int (bi (cn M 40 t u))), hp I J (va_up M 54 g), 0, 0) := by
  have hc2 := hR.2.1
  have hl := ty_len hR ht
  have mF : ∀ (f : Nat → Int32), tyR I1 (va_up M 54 f) c := fun f => tyR_congr rfl rfl rfl rfl rfl (by rw [va_up_ne _ _ (by omega)]) (by rw [va_up_ne _ _ (by omega)]) (by rw [va_up_ne _ _ (by omega)]) (va_up_ne _ _ (by omega)) (va_up_ne _ _ (by omega)) (va_up_ne _ _ (by omega)) hR
  obtain ⟨f, hf⟩ : ∃ f, wr (wr M 54 0 (nI t)) 54 1 (nI u) = va_up M 54 f := by
    refine ⟨upd (upd (M 54) 0 (nI t)) 1 (nI u), ?_⟩
    rw [show wr M 54 0 (nI t) = va_up M 54 (upd (M 54) 0 (nI t)) from rfl, wr54]
  have hst : stk (va_up M 54 f) [(t, u)] := by
    refine ⟨?_, ?_, trivial⟩
    · rw [← hf]
      exact (wr_q _ _ _ _ _ _ (by simp)).trans (wr_s _ _ _ _)
    · rw [← hf]
      exact wr_s _ _ _ _
  obtain ⟨g, hg⟩ := co_loop (I1 := I1) (c := c) 200 [(t, u)] (va_up M 54 f) (mF f) ⟨ht, hu, hb_eq (va_up_ne _ _ (by omega)) (va_up_ne _ _ (by omega)) (va_up_ne _ _ (by omega)) hh, trivial⟩ hst (by simp only [sln]; omega) (by omega) (by simp only [sln, List.length_cons, List.length_nil]; omega)
  refine ⟨g, fun scr L F d I J => ?_⟩
  have k := hg scr L d (am_r scr L (F + 21000) d) I J
  rw [va_va, scn_M (va_up_ne _ _ (by omega)) (va_up_ne _ _ (by omega)) (va_up_ne _ _ (by omega)), ← hf] at k
  simp only [scn, Bool.and_true] at k
  exact r97_go scr L F d I J M t u (100 * 201) _ (by omega) k
