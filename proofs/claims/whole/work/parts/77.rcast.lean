/-! Running: a wrap made, a tag made, a cast. -/
def wI (I : am_I) (W : Nat) (a b l : Int32) : am_I := va_up (va_up (va_up (va_up I 24 (upd (I 24) W a)) 25 (upd (I 25) W b)) 26 (upd (I 26) W l)) 22 (upd (I 22) 6 (nI (W + 1)))
def wJ (J : am_J) (W : Nat) (x : Int64) : am_J := va_up J 23 (vp_updL (J 23) W x)
theorem ar_eq {I : am_I} {J : am_J} {m : Nat} {v : Int64} {t u p : Int32} (h : t = u) : ar I J m v t u p = (v, I, J) := by
  unfold ar
  rw [if_pos h]
theorem ar_full {I : am_I} {J : am_J} {m : Nat} {v : Int64} {t u p : Int32} (h : ¬ t = u) (hm : 200 ≤ m) : ar I J m v t u p = (v, va_up I 22 (upd (I 22) 7 4), J) := by
  unfold ar
  rw [if_neg h, if_pos hm]
theorem ar_wrap {I : am_I} {J : am_J} {m : Nat} {v : Int64} {t u p : Int32} (h : ¬ t = u) (hm : m < 200) : ar I J m v t u p = (v_oc (v_kd v) (nI m), wI I m t u p, wJ J m v) := by
  unfold ar
  rw [if_neg h, if_neg (by omega)]
  rfl
theorem kd_sub {x : Int32} {k : Nat} (h : x + 1 = nI (k + 1)) : x = nI k := by
  have e : x + 1 - 1 = nI (k + 1) - 1 := by rw [h]
  rw [nI_pred] at e
  rw [← e, Int32.sub_eq_add_neg, Int32.add_assoc, Int32.add_right_neg, Int32.add_zero]
theorem TB_sub {M : am_I} {V : Nat} {S S' : List am_T} (h : TB M V S) (hS : ∀ τ, τ ∈ S → τ ∈ S') : TB M V S' := ⟨fun v hv => hS _ (h.1 v hv), h.2⟩
theorem TB_row {M M' : am_I} {V : Nat} {S : List am_T} (h : TB M V S) (h1 : M' 55 = M 55) (h2 : M' 56 = M 56) (h3 : M' 57 = M 57) : TB M' V S := by
  have e : ∀ v, row M' v = row M v := by
    intro v
    unfold row
    rw [h1, h2, h3]
  exact ⟨fun v hv => by rw [e]; exact h.1 v hv, fun v v' a b c => h.2 v v' a b (by rw [← e, ← e]; exact c)⟩
theorem row_3 {M : am_I} {v : Nat} {k a b : Int32} (h : row M v = (k, a, b)) : M 55 v = k ∧ M 56 v = a ∧ M 57 v = b := by
  unfold row at h
  have h4 := Prod.mk.inj h
  have h5 := Prod.mk.inj h4.2
  exact ⟨h4.1, h5.1, h5.2⟩
theorem mk_wrap {I : am_I} {J : am_J} {M : am_I} {Sg fn : Nat → Nat} {N c V W K C fu P v a b : Nat} {S : List am_T} {x : Int64} {l : Int32} (h : DR I J M Sg fn N c V W K C fu P S) (hW : W < 200) (hv : VB M Sg fn N c V W K C v x a) (hb : b < c) (hab : ¬ a = b) (hk : (M 38 a = 3 ∧ M 38 b = 3) ∨ (M 38 a = 4 ∧ M 38 b = 4)) (hcs : CS M a b) (hS : S.length + 2 * (200 - W) ≤ 2290) :
    ∃ (v1 V1 : Nat) (M2 : am_I), DR (wI I W (nI (tm a)) (nI (tm b)) l) (wJ J W x) M2 Sg fn N c V1 (W + 1) K C fu P (((6 : Int32), nI v1, nI (gr M b)) :: ((4 : Int32), nI W, (0 : Int32)) :: S) ∧ VB M2 Sg fn N c V1 (W + 1) K C v1 (v_oc (v_kd x) (nI W)) b ∧ ext M M2 Sg Sg fn fn V V1 W (W + 1) K K C C ∧ cF I (wI I W (nI (tm a)) (nI (tm b)) l) J (wJ J W x) M M2 ∧ v1 < 2300 ∧ (∀ (scr : Nat → Int32) (L F d : Nat) (Ix : am_I) (Jx : am_J), am_r scr L (F + 200000) (d + 4) 112 [.ref 37, .int 4, .int (nI W), .int 0] (hp Ix Jx (wpM M W (nI v) (nI a) (nI b) l)) = some (some (.int (nI v1)), hp Ix Jx M2, 0, 0)) := by
  have hD := h
  obtain ⟨⟨a1, ⟨a2, a3, a4⟩, ⟨a5, a6, a7⟩, ⟨a8, a9, a10, a11, a12, a13, a14⟩, ⟨a15, a16, a17⟩, ⟨a18, a19, a20⟩⟩, hR, hw, hk1, hs, hTB⟩ := h
  have ha := hv.2.1
  have w1 : ∀ z, ¬ z = 36 → ¬ (58 ≤ z ∧ z ≤ 61) → wpM M W (nI v) (nI a) (nI b) l z = M z := by
    intro z z1 z2
    unfold wpM
    rw [wr_ne _ _ _ _ _ z1, wr_ne _ _ _ _ _ (by omega), wr_ne _ _ _ _ _ (by omega), wr_ne _ _ _ _ _ (by omega), wr_ne _ _ _ _ _ (by omega)]
  have w2 : ∀ y, ¬ y = 35 → wpM M W (nI v) (nI a) (nI b) l 36 y = M 36 y := by
    intro y hy
    unfold wpM
    rw [wr_q _ _ _ _ _ _ (by omega), wr_q _ _ _ _ _ _ (by omega), wr_q _ _ _ _ _ _ (by omega), wr_q _ _ _ _ _ _ (by omega), wr_q _ _ _ _ _ _ (by omega)]
  have w3 : ∀ z w, 58 ≤ z → z ≤ 61 → ¬ w = W → wpM M W (nI v) (nI a) (nI b) l z w = M z w := by
    intro z w z1 z2 z3
    unfold wpM
    rw [wr_q _ _ _ _ _ _ (by omega), wr_q _ _ _ _ _ _ (by omega), wr_q _ _ _ _ _ _ (by omega), wr_q _ _ _ _ _ _ (by omega), wr_q _ _ _ _ _ _ (by omega)]
  have w58 : wpM M W (nI v) (nI a) (nI b) l 58 W = nI v := by
    unfold wpM
    rw [wr_q _ _ _ _ _ _ (by omega), wr_q _ _ _ _ _ _ (by omega), wr_q _ _ _ _ _ _ (by omega), wr_q _ _ _ _ _ _ (by omega), wr_s]
  have w59 : wpM M W (nI v) (nI a) (nI b) l 59 W = nI a := by
    unfold wpM
    rw [wr_q _ _ _ _ _ _ (by omega), wr_q _ _ _ _ _ _ (by omega), wr_q _ _ _ _ _ _ (by omega), wr_s]
  have w60 : wpM M W (nI v) (nI a) (nI b) l 60 W = nI b := by
    unfold wpM
    rw [wr_q _ _ _ _ _ _ (by omega), wr_q _ _ _ _ _ _ (by omega), wr_s]
  have w61 : wpM M W (nI v) (nI a) (nI b) l 61 W = l := by
    unfold wpM
    rw [wr_q _ _ _ _ _ _ (by omega), wr_s]
  have w35 : wpM M W (nI v) (nI a) (nI b) l 36 35 = nI (W + 1) := wr_s _ _ _ _
  have hT1 : TB (wpM M W (nI v) (nI a) (nI b) l) V (((4 : Int32), nI W, (0 : Int32)) :: S) := TB_sub (TB_row hTB (w1 55 (by omega) (by omega)) (w1 56 (by omega) (by omega)) (w1 57 (by omega) (by omega))) (fun τ z => List.mem_cons_of_mem _ z)
  obtain ⟨v1, V1, M2, n1, n2, n3, n4, n5, n6, n7, n8, n9, n10, n11⟩ := new_v hT1 ((w2 31 (by omega)).trans a1) (by simp only [List.length_cons]; omega) 4 (nI W) 0 List.mem_cons_self
  obtain ⟨r1, r2, r3⟩ := row_3 n5
  have f : ∀ z, ¬ z = 36 → ¬ (55 ≤ z ∧ z ≤ 61) → M2 z = M z := fun z z1 z2 => (n9 z z1 (by omega) (by omega) (by omega)).trans (w1 z z1 (by omega))
  have q : ∀ z, 58 ≤ z → z ≤ 61 → M2 z = wpM M W (nI v) (nI a) (nI b) l z := fun z z1 z2 => n9 z (by omega) (by omega) (by omega) (by omega)
  have hF : cF I (wI I W (nI (tm a)) (nI (tm b)) l) J (wJ J W x) M M2 := by
    refine ⟨fun z z1 z2 z3 z4 _ => ?_, fun y y1 y2 y3 => ?_, fun z z1 => ?_, f, fun y y1 y2 y3 y4 => (n10 y y1).trans (w2 y y2)⟩
    · simp [wI, va_up, z1, z2, z3, z4]
    · simp [wI, va_up, upd, y1]
    · simp [wJ, va_up, z1]
  have hE : ext M M2 Sg Sg fn fn V V1 W (W + 1) K K C C := by
    refine ⟨⟨n1, by omega, by omega, by omega⟩, fun j hj => ?_, fun w hw2 => ?_, fun _ _ => rfl, fun _ _ _ => rfl, fun z hz => f z (by omega) (by omega)⟩
    · have e := n8 j hj
      unfold row at e
      have h4 := Prod.mk.inj e
      have h5 := Prod.mk.inj h4.2
      rw [w1 55 (by omega) (by omega)] at h4
      rw [w1 56 (by omega) (by omega), w1 57 (by omega) (by omega)] at h5
      exact ⟨h4.1, h5.1, h5.2⟩
    · rw [q 58 (by omega) (by omega), q 59 (by omega) (by omega), q 60 (by omega) (by omega), q 61 (by omega) (by omega)]
      exact ⟨w3 58 w (by omega) (by omega) (by omega), w3 59 w (by omega) (by omega) (by omega), w3 60 w (by omega) (by omega) (by omega), w3 61 w (by omega) (by omega) (by omega)⟩
  have m38 := f 38 (by omega) (by omega)
  obtain ⟨k1, k2, k3⟩ := vb_facts hR hv
  have hVB : VB M2 Sg fn N c V1 (W + 1) K C v1 (v_oc (v_kd x) (nI W)) b := by
    refine ⟨n3, hb, .inr (.inr (.inr (.inr ⟨r1, W, by omega, r2, by rw [q 60 (by omega) (by omega)]; exact w60, ?_⟩)))⟩
    rw [m38]
    rcases hk with ⟨z1, z2⟩ | ⟨z1, z2⟩
    · left
      have e3 : gr M a = 3 := by
        unfold gr
        rw [if_pos z1]
      rw [e3] at k1
      rw [kd_sub (k := 2) k1]
      exact ⟨z2, rfl⟩
    · right
      have e4 : gr M a = 4 := by
        unfold gr
        rw [if_neg (by rw [z1]; exact n43), if_pos z1]
      rw [e4] at k1
      rw [kd_sub (k := 3) k1]
      exact ⟨z2, rfl⟩
  refine ⟨v1, V1, M2, ?_, hVB, hE, hF, by omega, fun scr L F d Ix Jx => n11 scr L F (d + 3) Ix Jx⟩
  refine DR_X hD hF hE (fun τ z => List.mem_cons_of_mem _ (List.mem_cons_of_mem _ z)) ?_ ?_ ((n10 35 (by omega)).trans w35) (by omega) n7 ((n10 51 (by omega)).trans ((w2 51 (by omega)).trans a16)) (TB_sub n6 (fun τ z => List.mem_cons_of_mem _ z)) (fun w hw2 => ?_) (fun w hw1 hw2 => ?_)
  · simp [wI, va_up, upd]
  · have : wI I W (nI (tm a)) (nI (tm b)) l 22 7 = I 22 7 := by simp [wI, va_up, upd]
    rw [this]
    exact a15
  · have nw : ¬ w = W := by omega
    simp [wI, wJ, va_up, upd, vp_updL, nw]
  · have ew : w = W := by omega
    subst ew
    refine ⟨a, b, v, by rw [q 59 (by omega) (by omega)]; exact w59, by rw [q 60 (by omega) (by omega)]; exact w60, ha, hb, hab, ?_, ?_, ?_, by rw [q 58 (by omega) (by omega)]; exact w58, ?_, ?_, by rw [m38]; exact hk, ?_⟩
    · simp [wI, va_up, upd]
    · simp [wI, va_up, upd]
    · rw [q 61 (by omega) (by omega), w61]
      simp [wI, va_up, upd]
    · have : wJ J w x 23 w = x := by simp [wJ, va_up, vp_updL]
      rw [this]
      exact VB_X hE hv
    · obtain ⟨k, hk2⟩ := hcs
      exact ⟨k, by rw [cn_M m38 (f 39 (by omega) (by omega)) (f 40 (by omega) (by omega))]; exact hk2⟩
    · obtain ⟨e1, e2, e3⟩ := hE.2.1 v hv.1
      rw [e1, e2]
      intro w' g1 g2 g3
      rcases hv.2.2 with ⟨z, _⟩ | ⟨z, _⟩ | ⟨z, _⟩ | ⟨z, _⟩ | ⟨z, w9, z1, z2, _⟩
      · exact absurd (z.symm.trans g1) (by decide)
      · exact absurd (z.symm.trans g1) (by decide)
      · exact absurd (z.symm.trans g1) (by decide)
      · exact absurd (z.symm.trans g1) (by decide)
      · have := nI_inj (by omega) (by omega) (z2.symm.trans g2)
        omega
theorem mk_tag {I : am_I} {J : am_J} {M : am_I} {Sg fn : Nat → Nat} {N c V W K C fu P v g : Nat} {S : List am_T} {x : Int64} (h : DR I J M Sg fn N c V W K C fu P S) (hv : VB M Sg fn N c V W K C v x g) (hg : gnd g) (hm : ((6 : Int32), nI v, nI g) ∈ S) (hS : S.length ≤ 2299) :
    ∃ (v1 V1 : Nat) (M2 : am_I), DR I J M2 Sg fn N c V1 W K C fu P S ∧ VR M2 Sg fn N c V1 W K C v1 (x ||| 8) 2 ∧ ext M M2 Sg Sg fn fn V V1 W W K K C C ∧ cF I I J J M M2 ∧ v1 < 2300 ∧ (∀ (scr : Nat → Int32) (L F d : Nat) (Ix : am_I) (Jx : am_J), am_r scr L (F + 200000) (d + 4) 112 [.ref 37, .int 6, .int (nI v), .int (nI g)] (hp Ix Jx M) = some (some (.int (nI v1)), hp Ix Jx M2, 0, 0)) := by
  have hD := h
  obtain ⟨⟨a1, ⟨a2, a3, a4⟩, ⟨a5, a6, a7⟩, ⟨a8, a9, a10, a11, a12, a13, a14⟩, ⟨a15, a16, a17⟩, ⟨a18, a19, a20⟩⟩, hR, hw, hk1, hs, hTB⟩ := h
  obtain ⟨v1, V1, M2, n1, n2, n3, n4, n5, n6, n7, n8, n9, n10, n11⟩ := new_v hTB a1 hS 6 (nI v) (nI g) hm
  obtain ⟨r1, r2, r3⟩ := row_3 n5
  have f : ∀ z, ¬ z = 36 → ¬ (55 ≤ z ∧ z ≤ 57) → M2 z = M z := fun z z1 z2 => n9 z z1 (by omega) (by omega) (by omega)
  have hF : cF I I J J M M2 := ⟨fun _ _ _ _ _ _ => rfl, fun _ _ _ _ => rfl, fun _ _ => rfl, fun z z1 z2 => f z z1 (by omega), fun y y1 _ _ _ => n10 y y1⟩
  have hE : ext M M2 Sg Sg fn fn V V1 W W K K C C := by
    refine ⟨⟨n1, by omega, by omega, by omega⟩, fun j hj => ?_, fun w hw2 => ?_, fun _ _ => rfl, fun _ _ _ => rfl, fun z hz => f z (by omega) (by omega)⟩
    · have e := n8 j hj
      unfold row at e
      have h4 := Prod.mk.inj e
      have h5 := Prod.mk.inj h4.2
      exact ⟨h4.1, h5.1, h5.2⟩
    · rw [f 58 (by omega) (by omega), f 59 (by omega) (by omega), f 60 (by omega) (by omega), f 61 (by omega) (by omega)]
      exact ⟨rfl, rfl, rfl, rfl⟩
  refine ⟨v1, V1, M2, ?_, .inr ⟨rfl, n3, r1, v, g, x, r2, r3, hg, VB_X hE hv, rfl⟩, hE, hF, by omega, fun scr L F d Ix Jx => n11 scr L F (d + 3) Ix Jx⟩
  exact DR_X hD hF hE (fun _ z => z) a2 a15 ((n10 35 (by omega)).trans a3) a4 n7 ((n10 51 (by omega)).trans a16) n6 (fun w _ => ⟨rfl, rfl, rfl, rfl⟩) (fun w g1 g2 => by omega)
theorem cn0 {M : am_I} {t u : Nat} (h : t = u ∨ t = 2 ∨ u = 2) : cn M 0 t u = true := by
  unfold cn
  simp [h]
theorem gr_cs2 {I M : am_I} {c t : Nat} (hR : tyR I M c) (ht : t < c) (h3 : 3 ≤ t) : CS M t (gr M t) ∧ CS M (gr M t) t := by
  obtain ⟨x1, x2, x3, x4, x5⟩ := hR.2.2.2.2.2.2.2.2
  have a3 : tA M 3 = 2 := by
    unfold tA
    rw [x2]
    decide +kernel
  have b3 : tB M 3 = 2 := by
    unfold tB
    rw [x3]
    decide +kernel
  have a4 : tA M 4 = 2 := by
    unfold tA
    rw [x5]
    decide +kernel
  rcases ty_kind hR ht with ⟨b1, _⟩ | ⟨b1, b2, _⟩ | ⟨b1, b2, _⟩
  · omega
  · have e : gr M t = 3 := by
      unfold gr
      rw [if_pos b2]
    rw [e]
    refine ⟨⟨1, ?_⟩, ⟨1, ?_⟩⟩
    · rw [cn_s, x1, b2, a3, b3]
      split
      · rfl
      · rw [if_neg (by decide), if_pos rfl, cn0 (.inr (.inr rfl)), cn0 (.inr (.inr rfl))]
        rfl
    · rw [cn_s, x1, b2, a3, b3]
      split
      · rfl
      · rw [if_neg (by decide), if_pos rfl, cn0 (.inr (.inl rfl)), cn0 (.inr (.inl rfl))]
        rfl
  · have e : gr M t = 4 := by
      unfold gr
      rw [if_neg (by rw [b2]; exact n43), if_pos b2]
    rw [e]
    refine ⟨⟨1, ?_⟩, ⟨1, ?_⟩⟩
    · rw [cn_s, x4, b2, a4]
      split
      · rfl
      · rw [if_neg (by decide), if_neg (by decide), cn0 (.inr (.inr rfl))]
    · rw [cn_s, x4, b2, a4]
      split
      · rfl
      · rw [if_neg (by decide), if_neg (by decide), cn0 (.inr (.inl rfl))]
theorem gr_cs {I M : am_I} {c t : Nat} (hR : tyR I M c) (ht : t < c) (h3 : 3 ≤ t) : CS M t (gr M t) := (gr_cs2 hR ht h3).1
theorem CS_kind {I M : am_I} {c t u : Nat} (hR : tyR I M c) (ht : t < c) (h : CS M t u) (h1 : ¬ t = u) (h2 : ¬ t = 2) (h3 : ¬ u = 2) : (M 38 t = 3 ∧ M 38 u = 3 ∧ CS M (tA M t) (tA M u) ∧ CS M (tB M t) (tB M u)) ∨ (M 38 t = 4 ∧ M 38 u = 4 ∧ CS M (tA M t) (tA M u)) := by
  obtain ⟨k, hk⟩ := h
  have nq : ¬ (t = u ∨ t = 2 ∨ u = 2) := by omega
  cases k with
  | zero =>
    unfold cn at hk
    simp [nq] at hk
  | succ k =>
    rw [cn_s, if_neg nq] at hk
    by_cases w : ¬ M 38 t = M 38 u ∨ M 38 t < 3
    · rw [if_pos w] at hk
      cases hk
    · rw [if_neg w] at hk
      have e : M 38 t = M 38 u := Decidable.byContradiction (fun z => w (.inl z))
      rcases ty_kind hR ht with ⟨b1, b2, _⟩ | ⟨b1, b2, _⟩ | ⟨b1, b2, _⟩
      · exact absurd (.inr (by rw [b2]; exact (n03 t b1).2.2)) w
      · rw [if_pos b2, Bool.and_eq_true] at hk
        exact .inl ⟨b2, e ▸ b2, ⟨k, hk.1⟩, ⟨k, hk.2⟩⟩
      · rw [if_neg (by rw [b2]; exact n43)] at hk
        exact .inr ⟨b2, e ▸ b2, ⟨k, hk⟩⟩
/-- a cast that ends the run -/
def cBad (I I' : am_I) (M M' : am_I) (l : Int32) : Prop := (I' = va_up I 22 (upd (upd (I 22) 7 2) 8 l) ∧ M' = wr (wr M 36 54 l) 36 51 2) ∨ (I' = va_up I 22 (upd (I 22) 7 4) ∧ M' = wr M 36 51 4)
theorem cast_ok {I : am_I} {J : am_J} {M : am_I} {Sg fn : Nat → Nat} {N c V W K C fu P v t u : Nat} {S : List am_T} {x : Int64} (l : Int32) (h : DR I J M Sg fn N c V W K C fu P S) (hv : VR M Sg fn N c V W K C v x t) (ht : t < c) (hu : u < c) (hcs : CS M t u) (hS : S.length + 2 * (200 - W) ≤ 2290) (hp1 : u = 2 → pd M S v t) (hV : v < 2300) :
    (∃ (x' : Int64) (v' V' W' : Nat) (I' : am_I) (J' : am_J) (M' : am_I) (S' : List am_T), ct I J W x (tm t) (tm u) l = (x', I', J') ∧ (∀ (scr : Nat → Int32) (L F d : Nat) (Ix : am_I) (Jx : am_J), am_r scr L (F + 200000) (d + 5) 114 [.ref 37, .int (nI v), .int (nI t), .int (nI u), .int l] (hp Ix Jx M) = some (some (.int (nI v')), hp Ix Jx M', 0, 0)) ∧ DR I' J' M' Sg fn N c V' W' K C fu P S' ∧ VR M' Sg fn N c V' W' K C v' x' u ∧ ext M M' Sg Sg fn fn V V' W W' K K C C ∧ cF I I' J J' M M' ∧ v' < 2300 ∧ S'.length + 2 * (200 - W') ≤ S.length + 2 * (200 - W) ∧ (∀ τ, τ ∈ S → τ ∈ S') ∧ (pd M S v t → pd M' S' v' u) ∧ (I' 27 = I 27 ∧ ∀ w, w < W → I' 24 w = I 24 w ∧ I' 25 w = I 25 w ∧ I' 26 w = I 26 w ∧ J' 23 w = J 23 w))
    ∨ (∃ (x' : Int64) (I' M' : am_I), ct I J W x (tm t) (tm u) l = (x', I', J) ∧ cBad I I' M M' l ∧ (∀ (scr : Nat → Int32) (L F d : Nat) (Ix : am_I) (Jx : am_J), am_r scr L (F + 200000) (d + 5) 114 [.ref 37, .int (nI v), .int (nI t), .int (nI u), .int l] (hp Ix Jx M) = some (some (.int (nI v)), hp Ix Jx M', 0, 0))) := by
  have hD := h
  obtain ⟨⟨a1, ⟨a2, a3, a4⟩, ⟨a5, a6, a7⟩, ⟨a8, a9, a10, a11, a12, a13, a14⟩, ⟨a15, a16, a17⟩, ⟨a18, a19, a20⟩⟩, hR, hw, hk1, hs, hTB⟩ := h
  have hc1 := hR.1
  have hc2 := hR.2.1
  have tt := tm_lt ht (by omega)
  have tu := tm_lt hu (by omega)
  have wI_old : ∀ (p q r : Int32) (y : Int64) w, w < W → wI I W p q r 24 w = I 24 w ∧ wI I W p q r 25 w = I 25 w ∧ wI I W p q r 26 w = I 26 w ∧ wJ J W y 23 w = J 23 w := by
    intro p q r y w hw2
    have nw : ¬ w = W := by omega
    simp [wI, wJ, va_up, upd, vp_updL, nw]
  have w200 : W = 200 → M 36 35 = 200 := by
    intro z
    rw [a3, z]
    decide +kernel
  by_cases e1 : t = u
  · left
    subst e1
    refine ⟨x, v, V, W, I, J, M, S, ?_, fun scr L F d Ix Jx => r114_id scr L F d Ix Jx M v t t l hV (by omega) (by omega) rfl, hD, hv, ext_refl _ _ _ _ _ _ _, cF_refl _ _ _, hV, Nat.le_refl _, fun _ z => z, fun z => z, ⟨rfl, fun _ _ => ⟨rfl, rfl, rfl, rfl⟩⟩⟩
    unfold ct
    rw [if_pos rfl]
  have ne1 : ¬ tm t = tm u := fun z => e1 (tm_inj z)
  have nn1 : ¬ nI (tm t) = nI (tm u) := fun z => ne1 (nI_inj (by omega) (by omega) z)
  by_cases e2 : u = 2
  · -- to ?
    have qt : ¬ t = 2 := fun z => e1 (z.trans e2.symm)
    have hvb : VB M Sg fn N c V W K C v x t := by
      rcases hv with ⟨_, z⟩ | ⟨z, _⟩
      · exact z
      · exact absurd z qt
    have cu : tm u = 0 := tm_ne0.mpr e2
    have hct : ct I J W x (tm t) (tm u) l = ((ar I J W x (nI (tm t)) (I 3 (tm t)) l).1 ||| 8, (ar I J W x (nI (tm t)) (I 3 (tm t)) l).2) := by
      unfold ct
      rw [if_neg ne1, if_pos cu]
    have hgg := gr_gnd hR ht qt
    obtain ⟨gl, gl2⟩ := gr_lt hR ht
    have hg2 : ¬ gr M t = 2 := by
      rcases hgg with z | z | z | z <;> omega
    have hcl := gr_cls hR ht
    have hpd : ((6 : Int32), nI v, nI (gr M t)) ∈ S := by
      rcases hp1 e2 with z | z
      · exact absurd z qt
      · exact z
    by_cases e3 : t = gr M t
    · left
      rw [← e3] at hpd hgg
      obtain ⟨v1, V1, M2, n1, n2, n3, n4, n5, n6⟩ := mk_tag hD hvb hgg hpd (by omega)
      refine ⟨x ||| 8, v1, V1, W, I, J, M2, S, ?_, fun scr L F d Ix Jx => ?_, n1, by rw [e2]; exact n2, n3, n4, n5, Nat.le_refl _, fun _ z => z, fun _ => .inl e2, ⟨rfl, fun _ _ => ⟨rfl, rfl, rfl, rfl⟩⟩⟩
      · rw [hct, ar_eq (by rw [hcl, ← e3])]
      · exact r114_tg scr L F d Ix Jx M v t u l hV (by omega) (by omega) qt e2 (gr M t) gl2 hg2 (r96 hR ht scr L F (d + 3) Ix Jx) e3 _ _ (by rw [← e3]; exact n6 scr L F d Ix Jx)
    · have nn3 : ¬ nI (tm t) = I 3 (tm t) := by
        rw [hcl]
        intro z
        have := tm_lt gl (show 3 ≤ c by omega)
        exact e3 (tm_inj (nI_inj (by omega) (by omega) z))
      have t3 : 3 ≤ t := by
        refine Decidable.byContradiction (fun z => e3 ?_)
        unfold gr
        rw [(hR.2.2.2.2.2.2.1 t (by omega)).2.2.2.2, if_neg (n03 t (by omega)).1, if_neg (n03 t (by omega)).2.1]
      by_cases e4 : W < 200
      · left
        have hkk : (M 38 t = 3 ∧ M 38 (gr M t) = 3) ∨ (M 38 t = 4 ∧ M 38 (gr M t) = 4) := by
          obtain ⟨x1, x2, x3, x4, x5⟩ := hR.2.2.2.2.2.2.2.2
          rcases ty_kind hR ht with ⟨b1, _⟩ | ⟨b1, b2, _⟩ | ⟨b1, b2, _⟩
          · omega
          · left
            refine ⟨b2, ?_⟩
            have : gr M t = 3 := by
              unfold gr
              rw [if_pos b2]
            rw [this]
            exact x1
          · right
            refine ⟨b2, ?_⟩
            have : gr M t = 4 := by
              unfold gr
              rw [if_neg (by rw [b2]; exact n43), if_pos b2]
            rw [this]
            exact x4
        have hcs2 : CS M t (gr M t) := gr_cs hR ht t3
        obtain ⟨v1, V1, M1, n1, n2, n3, n4, n5, n6⟩ := mk_wrap (l := l) hD e4 hvb gl e3 hkk hcs2 hS
        have eg : gr M1 (gr M t) = gr M t := by
          have : gr M1 (gr M t) = gr M (gr M t) := by
            unfold gr
            rw [n4.2.2.2.1 38 (by omega) (by omega)]
          rw [this, gr_id hR hgg]
        have mem1 : ((6 : Int32), nI v1, nI (gr M t)) ∈ (((6 : Int32), nI v1, nI (gr M (gr M t))) :: ((4 : Int32), nI W, (0 : Int32)) :: S) := by
          rw [gr_id hR hgg]
          exact List.mem_cons_self
        obtain ⟨v2, V2, M2, k1, k2, k3, k4, k5, k6⟩ := mk_tag n1 n2 hgg mem1 (by simp only [List.length_cons]; omega)
        refine ⟨v_oc (v_kd x) (nI W) ||| 8, v2, V2, W + 1, wI I W (nI (tm t)) (nI (tm (gr M t))) l, wJ J W x, M2, _, ?_, fun scr L F d Ix Jx => ?_, k1, by rw [e2]; exact k2, ext_trans n3 k3, cF_trans n4 k4, k5, by simp only [List.length_cons]; omega, fun τ z => List.mem_cons_of_mem _ (List.mem_cons_of_mem _ z), fun _ => .inl e2, ⟨by simp [wI, va_up], wI_old _ _ _ _⟩⟩
        · rw [hct, ar_wrap nn3 e4, hcl]
        · exact r114_tg_w scr L F d Ix Jx M v t u l hV (by omega) (by omega) qt e2 (gr M t) gl2 hg2 (r96 hR ht scr L F (d + 3) Ix Jx) e3 W a3 e4 _ _ (n6 scr L F d Ix Jx) _ _ (k6 scr L F d Ix Jx)
      · right
        refine ⟨x ||| 8, va_up I 22 (upd (I 22) 7 4), wr M 36 51 4, ?_, .inr ⟨rfl, rfl⟩, fun scr L F d Ix Jx => ?_⟩
        · rw [hct, ar_full nn3 (by omega)]
        · exact r114_tg_f scr L F d Ix Jx M v t u l hV (by omega) (by omega) qt e2 (gr M t) gl2 hg2 (r96 hR ht scr L F (d + 3) Ix Jx) e3 (w200 (by omega))
  · have cu : ¬ tm u = 0 := fun z => e2 (tm_ne0.mp z)
    by_cases e3 : t = 2
    · -- from ?
      obtain ⟨v', g, x', b1, b2, b3, b4, b5, b6⟩ : ∃ v' g x', M 55 v = 6 ∧ M 56 v = nI v' ∧ M 57 v = nI g ∧ gnd g ∧ VB M Sg fn N c V W K C v' x' g ∧ x = x' ||| 8 := by
        rcases hv with ⟨z, _⟩ | ⟨_, _, z1, v', g, x', z2, z3, z4, z5, z6⟩
        · exact absurd e3 z
        · exact ⟨v', g, x', z1, z2, z3, z4, z5, z6⟩
      have hvV : v < V := by
        rcases hv with ⟨z, _⟩ | ⟨_, z, _⟩
        · exact absurd e3 z
        · exact z
      have hV' := pigeon (row M) V S hTB.1 hTB.2
      obtain ⟨k1, k2, k3⟩ := vb_facts hR b5
      have hgl := b5.2.1
      have ct0 : tm t = 0 := tm_ne0.mpr e3
      have kx : v_kd x + 1 = nI (tm g) := by
        rw [b6, or_kd _ _ (.inr rfl), k1, gr_id hR b4]
      have hcu := gr_cls hR hu
      obtain ⟨gu, gu2⟩ := gr_lt hR hu
      have tg := tm_lt hgl (show 3 ≤ c by omega)
      have tgu := tm_lt gu (show 3 ≤ c by omega)
      have rowv : ((6 : Int32), nI v', nI g) ∈ S := by
        have := hTB.1 v hvV
        unfold row at this
        rw [b1, b2, b3] at this
        exact this
      by_cases e4 : g = gr M u
      · have kx2 : v_kd x + 1 = I 3 (tm u) := by
          rw [kx, hcu, e4]
        have hct : ct I J W x (tm t) (tm u) l = ar I J W x' (nI (tm g)) (nI (tm u)) l := by
          unfold ct
          rw [if_neg ne1, if_neg cu, if_neg (fun z => z ct0), if_neg (fun z => z kx2), kx, b6, untag x' k3]
        by_cases e5 : g = u
        · left
          refine ⟨x', v', V, W, I, J, M, S, ?_, fun scr L F d Ix Jx => r114_un scr L F d Ix Jx M v t u l hV (by omega) (by omega) e3 e2 (gr M u) gu2 (r96 hR hu scr L F (d + 3) Ix Jx) (by rw [← e4]; exact b3) v' b2 (by omega), hD, ?_, ext_refl _ _ _ _ _ _ _, cF_refl _ _ _, by have := b5.1; omega, Nat.le_refl _, fun _ z => z, fun _ => ?_, ⟨rfl, fun _ _ => ⟨rfl, rfl, rfl, rfl⟩⟩⟩
          · rw [hct, ar_eq (by rw [e5])]
          · left
            rw [← e5]
            exact ⟨k2, b5⟩
          · right
            rw [← e4]
            exact rowv
        · have nn5 : ¬ nI (tm g) = nI (tm u) := fun z => e5 (tm_inj (nI_inj (by omega) (by omega) z))
          have u3 : 3 ≤ u := by
            refine Decidable.byContradiction (fun z => e5 ?_)
            rw [e4]
            unfold gr
            rw [(hR.2.2.2.2.2.2.1 u (by omega)).2.2.2.2, if_neg (n03 u (by omega)).1, if_neg (n03 u (by omega)).2.1]
          by_cases e6 : W < 200
          · left
            have hkk : (M 38 g = 3 ∧ M 38 u = 3) ∨ (M 38 g = 4 ∧ M 38 u = 4) := by
              obtain ⟨x1, x2, x3, x4, x5⟩ := hR.2.2.2.2.2.2.2.2
              rcases ty_kind hR hu with ⟨b1, _⟩ | ⟨b1, b2, _⟩ | ⟨b1, b2, _⟩
              · omega
              · left
                refine ⟨?_, b2⟩
                have : gr M u = 3 := by
                  unfold gr
                  rw [if_pos b2]
                rw [e4, this]
                exact x1
              · right
                refine ⟨?_, b2⟩
                have : gr M u = 4 := by
                  unfold gr
                  rw [if_neg (by rw [b2]; exact n43), if_pos b2]
                rw [e4, this]
                exact x4
            have hcs2 : CS M g u := by
              rw [e4]
              exact (gr_cs2 hR hu u3).2
            obtain ⟨v1, V1, M1, n1, n2, n3, n4, n5, n6⟩ := mk_wrap (l := l) hD e6 b5 hu e5 hkk hcs2 hS
            refine ⟨v_oc (v_kd x') (nI W), v1, V1, W + 1, wI I W (nI (tm g)) (nI (tm u)) l, wJ J W x', M1, _, ?_, fun scr L F d Ix Jx => ?_, n1, .inl ⟨e2, n2⟩, n3, n4, n5, by simp only [List.length_cons]; omega, fun τ z => List.mem_cons_of_mem _ (List.mem_cons_of_mem _ z), fun _ => ?_, ⟨by simp [wI, va_up], wI_old _ _ _ _⟩⟩
            · rw [hct, ar_wrap nn5 e6]
            · refine r114_un_w scr L F d Ix Jx M v t u l hV (by omega) (by omega) e3 e2 (gr M u) gu2 (r96 hR hu scr L F (d + 3) Ix Jx) (by rw [← e4]; exact b3) v' b2 (by omega) W a3 e6 _ _ ?_
              rw [← e4]
              exact n6 scr L F d Ix Jx
            · right
              have : gr M1 u = gr M u := by
                unfold gr
                rw [n4.2.2.2.1 38 (by omega) (by omega)]
              rw [this]
              exact List.mem_cons_self
          · right
            refine ⟨x', va_up I 22 (upd (I 22) 7 4), wr M 36 51 4, ?_, .inr ⟨rfl, rfl⟩, fun scr L F d Ix Jx => ?_⟩
            · rw [hct, ar_full nn5 (by omega)]
            · exact r114_un_f scr L F d Ix Jx M v t u l hV (by omega) (by omega) e3 e2 (gr M u) gu2 (r96 hR hu scr L F (d + 3) Ix Jx) (by rw [← e4]; exact b3) v' b2 (by omega) (w200 (by omega))
      · right
        have kx2 : ¬ v_kd x + 1 = I 3 (tm u) := by
          rw [kx, hcu]
          intro z
          exact e4 (tm_inj (nI_inj (by omega) (by omega) z))
        refine ⟨x, va_up I 22 (upd (upd (I 22) 7 2) 8 l), wr (wr M 36 54 l) 36 51 2, ?_, .inl ⟨rfl, rfl⟩, fun scr L F d Ix Jx => ?_⟩
        · unfold ct
          rw [if_neg ne1, if_neg cu, if_neg (fun z => z ct0), if_pos kx2]
        · refine r114_bl scr L F d Ix Jx M v t u l hV (by omega) (by omega) e3 e2 _ (r96 hR hu scr L F (d + 3) Ix Jx) ?_
          rw [b3]
          intro z
          exact e4 (nI_inj (by omega) (by omega) z)
    · have hvb : VB M Sg fn N c V W K C v x t := by
        rcases hv with ⟨_, z⟩ | ⟨z, _⟩
        · exact z
        · exact absurd z e3
      have ct0 : ¬ tm t = 0 := fun z => e3 (tm_ne0.mp z)
      have hct : ct I J W x (tm t) (tm u) l = ar I J W x (nI (tm t)) (nI (tm u)) l := by
        unfold ct
        rw [if_neg ne1, if_neg cu, if_pos ct0]
      by_cases e6 : W < 200
      · left
        have hkk : (M 38 t = 3 ∧ M 38 u = 3) ∨ (M 38 t = 4 ∧ M 38 u = 4) := by
          rcases CS_kind hR ht hcs e1 e3 e2 with ⟨z1, z2, _⟩ | ⟨z1, z2, _⟩
          · exact .inl ⟨z1, z2⟩
          · exact .inr ⟨z1, z2⟩
        obtain ⟨v1, V1, M1, n1, n2, n3, n4, n5, n6⟩ := mk_wrap (l := l) hD e6 hvb hu e1 hkk hcs hS
        refine ⟨v_oc (v_kd x) (nI W), v1, V1, W + 1, wI I W (nI (tm t)) (nI (tm u)) l, wJ J W x, M1, _, ?_, fun scr L F d Ix Jx => ?_, n1, .inl ⟨e2, n2⟩, n3, n4, n5, by simp only [List.length_cons]; omega, fun τ z => List.mem_cons_of_mem _ (List.mem_cons_of_mem _ z), fun _ => ?_, ⟨by simp [wI, va_up], wI_old _ _ _ _⟩⟩
        · rw [hct, ar_wrap nn1 e6]
        · exact r114_w scr L F d Ix Jx M v t u l hV (by omega) (by omega) e3 e2 e1 W a3 e6 _ _ (n6 scr L F d Ix Jx)
        · right
          have : gr M1 u = gr M u := by
            unfold gr
            rw [n4.2.2.2.1 38 (by omega) (by omega)]
          rw [this]
          exact List.mem_cons_self
      · right
        refine ⟨x, va_up I 22 (upd (I 22) 7 4), wr M 36 51 4, ?_, .inr ⟨rfl, rfl⟩, fun scr L F d Ix Jx => ?_⟩
        · rw [hct, ar_full nn1 (by omega)]
        · exact r114_f scr L F d Ix Jx M v t u l hV (by omega) (by omega) e3 e2 e1 (w200 (by omega))
