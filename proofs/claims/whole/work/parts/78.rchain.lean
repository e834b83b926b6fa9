/-! Running: the casts around a value. -/
theorem cn_sym (M : am_I) : ∀ (k t u : Nat), cn M k t u = cn M k u t
  | 0, t, u => by
    unfold cn
    congr 1
    exact propext ⟨fun h => by omega, fun h => by omega⟩
  | k + 1, t, u => by
    rw [cn_s, cn_s]
    by_cases q : t = u ∨ t = 2 ∨ u = 2
    · have q' : u = t ∨ u = 2 ∨ t = 2 := by omega
      rw [if_pos q, if_pos q']
    · have q' : ¬ (u = t ∨ u = 2 ∨ t = 2) := by omega
      rw [if_neg q, if_neg q']
      by_cases w : M 38 t = M 38 u
      · rw [← w, cn_sym M k (tA M t), cn_sym M k (tB M t)]
      · have w1 : ¬ M 38 t = M 38 u ∨ M 38 t < 3 := .inl w
        have w2 : ¬ M 38 u = M 38 t ∨ M 38 u < 3 := .inl (fun z => w z.symm)
        rw [if_pos w1, if_pos w2]
theorem CS_sym {M : am_I} {t u : Nat} (h : CS M t u) : CS M u t := by
  obtain ⟨k, hk⟩ := h
  exact ⟨k, by rw [cn_sym]; exact hk⟩
/-- the types along a chain -/
def tcs (M : am_I) (W : Nat) (ws : List Nat) (ts : Nat → Nat) : Prop := ∀ j w, ws[j]? = some w → w < W ∧ M 60 w = nI (ts j) ∧ M 59 w = nI (ts (j + 1))
theorem chain_ex {I : am_I} {J : am_J} {M : am_I} {Sg fn : Nat → Nat} {N c V W K C fu P : Nat} {S : List am_T} (h : DR I J M Sg fn N c V W K C fu P S) (hV : V ≤ 2300) : ∀ (m v : Nat) (x : Int64) (t : Nat), VB M Sg fn N c V W K C v x t → (M 38 t = 3 ∨ M 38 t = 4) → (∀ w, M 55 v = 4 → M 56 v = nI w → w < 200 → w < m) → ∃ (ws : List Nat) (ts : Nat → Nat) (e te : Nat) (xe : Int64), ch (J 23) ws x xe ∧ mch (M 55) (M 56) (M 58) ws v e ∧ VB M Sg fn N c V W K C e xe te ∧ ¬ M 55 e = 4 ∧ ws.length ≤ m ∧ ts 0 = t ∧ ts ws.length = te ∧ tcs M W ws ts ∧ (∀ j, j ≤ ws.length → ts j < c ∧ M 38 (ts j) = M 38 t) := by
  intro m
  induction m with
  | zero =>
    intro v x t hv hk hw
    have n4 : ¬ M 55 v = 4 := by
      intro z
      rcases hv.2.2 with ⟨y, _⟩ | ⟨y, _⟩ | ⟨y, _⟩ | ⟨y, _⟩ | ⟨y, w, y1, y2, _⟩
      · exact absurd (y.symm.trans z) (by decide)
      · exact absurd (y.symm.trans z) (by decide)
      · exact absurd (y.symm.trans z) (by decide)
      · exact absurd (y.symm.trans z) (by decide)
      · have := hw w z y2 (by have := h.1.2.1.2.2; omega)
        omega
    have x4 : x &&& 4 = 0 := by
      rcases hv.2.2 with ⟨_, _, y⟩ | ⟨_, _, _, y⟩ | ⟨_, _, n, q, s, _, _, _, _, _, _, _, _, y, _⟩ | ⟨_, _, k, _, _, _, y⟩ | ⟨y, _⟩
      · rw [y]
        exact of_4 _ 0 (by omega)
      · rw [y]
        exact of_4 _ 1 (by omega)
      · rw [y]
        exact of_4 _ 2 (by omega)
      · rw [y]
        exact of_4 _ 3 (by omega)
      · exact absurd y n4
    exact ⟨[], fun _ => t, v, t, x, ⟨rfl, x4⟩, ⟨rfl, by have := hv.1; omega, n4⟩, hv, n4, by simp, rfl, rfl, fun j w z => by simp at z, fun _ _ => ⟨hv.2.1, rfl⟩⟩
  | succ m ih =>
    intro v x t hv hk hw
    by_cases z : M 55 v = 4
    · rcases hv.2.2 with ⟨y, _⟩ | ⟨y, _⟩ | ⟨y, _⟩ | ⟨y, _⟩ | ⟨y, w, y1, y2, y3, y4⟩
      · exact absurd (y.symm.trans z) (by decide)
      · exact absurd (y.symm.trans z) (by decide)
      · exact absurd (y.symm.trans z) (by decide)
      · exact absurd (y.symm.trans z) (by decide)
      · have hW := h.1.2.1.2.2
        have wm := hw w z y2 (by omega)
        obtain ⟨a, b, v', b1, b2, b3, b4, b5, b6, b7, b8, b9, b10, b11, b12, b13⟩ := h.2.2.1 w y1
        have hc := h.2.1.2.1
        have eb : b = t := nI_inj (by omega) (by have := hv.2.1; omega) (b2.symm.trans y3)
        subst eb
        obtain ⟨ws, ts, e, te, xe, c1, c2, c3, c4, c5, c6, c7, c8, c9⟩ := ih v' (J 23 w) a b10 (by rcases b12 with ⟨q, _⟩ | ⟨q, _⟩ <;> simp [q]) (fun w' q1 q2 q3 => by have := b13 w' q1 q2 q3; omega)
        have x4 : ¬ x &&& 4 = 0 ∧ v_ca x = nI w := by
          rcases y4 with ⟨_, q⟩ | ⟨_, q⟩
          · rw [q]
            exact ⟨oc_4 _ _, oc_ca _ 2 (by omega)⟩
          · rw [q]
            exact ⟨oc_4 _ _, oc_ca _ 3 (by omega)⟩
        have e9 : ∀ j, (fun j => if j = 0 then b else ts (j - 1)) (j + 1) = ts j := fun j => by simp
        refine ⟨w :: ws, fun j => if j = 0 then b else ts (j - 1), e, te, xe, ⟨x4.1, x4.2, by omega, c1⟩, ⟨by have := hv.1; omega, z, y2, by omega, v', b9, c2⟩, c3, c4, by simp only [List.length_cons]; omega, by simp, ?_, fun j w' q => ?_, ?_⟩
        · rw [List.length_cons, e9]
          exact c7
        · cases j with
          | zero =>
            simp only [List.getElem?_cons_zero, Option.some.injEq] at q
            subst q
            refine ⟨y1, b2, ?_⟩
            rw [e9, c6]
            exact b1
          | succ j =>
            simp only [List.getElem?_cons_succ] at q
            obtain ⟨r1, r2, r3⟩ := c8 j w' q
            rw [e9, e9]
            exact ⟨r1, r2, r3⟩
        · intro j hj
          cases j with
          | zero => exact ⟨b4, rfl⟩
          | succ j =>
            rw [e9]
            simp only [List.length_cons] at hj
            obtain ⟨q1, q2⟩ := c9 j (by omega)
            refine ⟨q1, ?_⟩
            rw [q2]
            rcases b12 with ⟨q3, q4⟩ | ⟨q3, q4⟩
            · rw [q3, q4]
            · rw [q3, q4]
    · exact (ih v x t hv hk (fun w q => absurd q z)).imp (fun ws hws => by
        obtain ⟨ts, e, te, xe, c1, c2, c3, c4, c5, c6⟩ := hws
        exact ⟨ts, e, te, xe, c1, c2, c3, c4, by omega, c6⟩)
theorem ch_X {f g : Nat → Int64} {W : Nat} : ∀ (ws : List Nat) (x e : Int64), (∀ w, w < W → g w = f w) → (∀ (j w : Nat), ws[j]? = some w → w < W) → ch f ws x e → ch g ws x e
  | [], x, e, _, _, h => h
  | w :: ws, x, e, hg, hw, ⟨a1, a2, a3, a4⟩ => by
    refine ⟨a1, a2, a3, ?_⟩
    rw [hg w (hw 0 w rfl)]
    exact ch_X ws (f w) e hg (fun j w' z => hw (j + 1) w' z) a4
theorem mch_X {M M' : am_I} {W V : Nat} (h1 : ∀ v, v < V → M' 55 v = M 55 v ∧ M' 56 v = M 56 v) (h2 : ∀ w, w < W → M' 58 w = M 58 w) : ∀ (ws : List Nat) (v e : Nat), (∀ (j w : Nat), ws[j]? = some w → w < W) → v < V → (∀ w, w < W → ∃ v', M 58 w = nI v' ∧ v' < V) → V ≤ 2300 → mch (M 55) (M 56) (M 58) ws v e → mch (M' 55) (M' 56) (M' 58) ws v e
  | [], v, e, _, hv, _, _, ⟨a1, a2, a3⟩ => by
    refine ⟨a1, a2, ?_⟩
    rw [(h1 v hv).1]
    exact a3
  | w :: ws, v, e, hw, hv, hi, hV, ⟨a1, a2, a3, a4, v', a5, a6⟩ => by
    have hw0 := hw 0 w rfl
    obtain ⟨v2, b1, b2⟩ := hi w hw0
    have ev : v' < V := by
      have lv : v' < 2300 := by
        cases ws with
        | nil => exact a6.2.1
        | cons _ _ => exact a6.1
      have := nI_inj (by omega) (by omega) (a5.symm.trans b1)
      omega
    refine ⟨a1, by rw [(h1 v hv).1]; exact a2, by rw [(h1 v hv).2]; exact a3, a4, v', by rw [h2 w hw0]; exact a5, ?_⟩
    exact mch_X h1 h2 ws v' e (fun j w' z => hw (j + 1) w' z) ev hi hV a6
/-- the run has ended by a cast -/
def bSt (I M : am_I) : Prop := (I 22 7 = 2 ∧ I 22 8 = M 36 54 ∧ M 36 51 = 2) ∨ (I 22 7 = 4 ∧ M 36 51 = 4)
theorem cBad_st {I I' : am_I} {J : am_J} {M M' : am_I} {l : Int32} (h : cBad I I' M M' l) : bSt I' M' ∧ cF I I' J J M M' := by
  rcases h with ⟨h1, h2⟩ | ⟨h1, h2⟩
  · subst h1 h2
    refine ⟨.inl ⟨by simp [va_up, upd], ?_, wr_s _ _ _ _⟩, fun z z1 _ _ _ _ => va_up_ne _ _ z1, fun y _ y1 y2 => by simp [va_up, upd, y1, y2], fun _ _ => rfl, fun z z1 _ => by rw [wr_ne _ _ _ _ _ z1, wr_ne _ _ _ _ _ z1], fun y _ _ y1 y2 => by rw [wr_q _ _ _ _ _ _ (by omega), wr_q _ _ _ _ _ _ (by omega)]⟩
    rw [wr_q _ _ _ _ _ _ (by omega), wr_s]
    simp [va_up, upd]
  · subst h1 h2
    exact ⟨.inr ⟨by simp [va_up, upd], wr_s _ _ _ _⟩, fun z z1 _ _ _ _ => va_up_ne _ _ z1, fun y _ y1 _ => by simp [va_up, upd, y1], fun _ _ => rfl, fun z z1 _ => wr_ne _ _ _ _ _ z1, fun y _ _ y1 _ => wr_q _ _ _ _ _ _ (by omega)⟩
theorem bSt_n {I M : am_I} (h : bSt I M) : ¬ I 22 7 = 6 ∧ ¬ M 36 51 = 0 := by
  rcases h with ⟨h1, _, h2⟩ | ⟨h1, h2⟩
  · rw [h1, h2]
    decide
  · rw [h1, h2]
    decide
