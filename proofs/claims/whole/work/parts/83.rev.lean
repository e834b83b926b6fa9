/-! Running: what evaluating a part gives, on both sides. -/
def SI (I : am_I) : Prop := ∀ s, s < 41 → ∃ k, k < 41 ∧ I 33 s = nI k
def LTs (M : am_I) (N : Nat) (S : List am_T) : Prop := (∀ m, m < N → M 41 m = 0 → ((0 : Int32), M 43 m, (0 : Int32)) ∈ S) ∧ ((1 : Int32), (0 : Int32), (0 : Int32)) ∈ S ∧ ((1 : Int32), (1 : Int32), (0 : Int32)) ∈ S
/-- what has been, stays -/
def rF (fr g : Nat) (I I' : am_I) (J J' : am_J) (M M' : am_I) (Sg Sg' fn fn' : Nat → Nat) (V V' W W' K K' C C' : Nat) (S S' : List am_T) : Prop := sE I I' M M' ∧ ext M M' Sg Sg' fn fn' V V' W W' K K' C C' ∧ (∀ τ, τ ∈ S → τ ∈ S') ∧ (SI I → SI I') ∧ (∀ j, j < fr → I' 30 j = I 30 j ∧ I' 31 j = I 31 j ∧ J' 32 j = J 32 j) ∧ (∀ j, j < g → M' 65 j = M 65 j ∧ M' 66 j = M 66 j ∧ M' 67 j = M 67 j ∧ M' 68 j = M 68 j)
/-- so many steps on both sides -/
def rN (I I' : am_I) (J J' : am_J) (M M' : am_I) (st st' sr sr' : Nat) : Prop := (st ≤ st' ∧ sr ≤ sr') ∧ (∀ (scr : Nat → Int32) (L F d : Nat) (Mx : am_I) (mo : Int32) (A : Nat) (R : Option am_X), h31 scr L F d I' J' Mx mo st' A R → h31 scr L F d I J Mx mo st (A + 80 * (st' - st)) R) ∧ (∀ (scr : Nat → Int32) (L F d : Nat) (Ix : am_I) (Jx : am_J) (mo : Int32) (A : Nat) (R : Option am_X), hr1 scr L F d Ix Jx M' mo sr' A R → hr1 scr L F d Ix Jx M mo sr (A + 40 * (sr' - sr)) R)
def rV (N c fu fr g q s w : Nat) (I : am_I) (J : am_J) (M : am_I) (Sg fn : Nat → Nat) (V W K C P : Nat) (S : List am_T) (st sr : Nat) (t : Nat) : Prop := ∃ (I' : am_I) (J' : am_J) (M' : am_I) (Sg' fn' : Nat → Nat) (V' W' K' C' P' : Nat) (S' : List am_T) (st' sr' : Nat) (x : Int64) (v : Nat), DR I' J' M' Sg' fn' N c V' W' K' C' fu P' S' ∧ rF fr g I I' J J' M M' Sg Sg' fn fn' V V' W W' K K' C C' S S' ∧ rN I I' J J' M M' st st' sr sr' ∧ (I' 21 16 = 1 ∧ I' 21 14 = nI q ∧ I' 21 15 = nI s ∧ I' 21 6 = nI fr ∧ J' 21 17 = x) ∧ (M' 36 58 = -1 ∧ M' 36 60 = nI v ∧ M' 36 44 = nI g) ∧ VR M' Sg' fn' N c V' W' K' C' v x t ∧ v < 2300 ∧ (4 * (S'.length + 2 * (200 - W') + 2 * (40 - K') + 2 * (40 - C')) + 100 * (40 - C') + 1 ≤ 4 * (S.length + 2 * (200 - W) + 2 * (40 - K) + 2 * (40 - C)) + 100 * (40 - C) + w ∧ st' + 2000 * (40 - C') ≤ st + 2000 * (40 - C) + 10 * w ∧ sr' + 2000 * (40 - C') ≤ sr + 2000 * (40 - C) + 10 * w ∧ P' ≤ st')
def rE (I I' M M' : am_I) (e : Int32) (P : Nat) : Prop := sE I I' M M' ∧ (SI I → SI I') ∧ (e = 2 ∨ e = 3 ∨ e = 4) ∧ I' 21 12 = e ∧ M' 36 51 = e ∧ I' 21 10 = M' 36 49 ∧ I' 21 11 = M' 36 53 ∧ I' 28 1 = nI P ∧ M' 36 56 = nI P ∧ P < 2 ^ 30 ∧ M' 70 = I' 29 ∧ (e = 2 → I' 22 8 = M' 36 54)
/-- both sides end, and alike -/
def rX (I : am_I) (J : am_J) (M : am_I) (st sr : Nat) : Prop := ∃ (I' : am_I) (J' : am_J) (M' : am_I) (e : Int32) (P : Nat), rE I I' M M' e P ∧ (∀ (scr : Nat → Int32) (L F d : Nat) (Mx : am_I) (mo : Int32), h31 scr L F d I J Mx mo st (80 * (100010 - st)) (some (some (.int e), hp I' J' Mx, 0, 0))) ∧ (∀ (scr : Nat → Int32) (L F d : Nat) (Ix : am_I) (Jx : am_J) (mo : Int32), hr1 scr L F d Ix Jx M mo sr (40 * (100010 - sr)) (some (some (.int e), hp Ix Jx M', 0, 0)))
def Ev (N c fu φ h : Nat) : Prop := ∀ (I : am_I) (J : am_J) (M : am_I) (Sg fn : Nat → Nat) (V W K C P : Nat) (S : List am_T) (st sr : Nat) (n q s fr g w t : Nat), DR I J M Sg fn N c V W K C fu P S → PR I M N c → LTs M N S → SI I → n < N → tw I M N c h w n → M 42 n = nI q → q < 100 → M 71 n = nI t → t < c → I 21 16 = 0 → I 21 14 = nI q → I 21 15 = nI s → I 21 6 = nI fr → M 36 58 = nI n → M 36 59 = nI s → M 36 44 = nI g → env M fn n s → s ≤ C → fu - C ≤ φ → w ≤ 100 → fr + h ≤ 20 * (C + 1) → g + h ≤ 20 * (C + 1) → 4 * (S.length + 2 * (200 - W) + 2 * (40 - K) + 2 * (40 - C)) + 100 * (40 - C) + w ≤ 9160 → st + 2000 * (40 - C) + 10 * w ≤ 99000 → sr + 2000 * (40 - C) + 10 * w ≤ 99000 → P ≤ st → rX I J M st sr ∨ rV N c fu fr g q s w I J M Sg fn V W K C P S st sr t
theorem rF_trans {fr g fr1 g1 : Nat} {I : am_I} {J : am_J} {M : am_I} {Sg fn : Nat → Nat} {V W K C : Nat} {S : List am_T} {I1 : am_I} {J1 : am_J} {M1 : am_I} {Sg1 fn1 : Nat → Nat} {V1 W1 K1 C1 : Nat} {S1 : List am_T} {I2 : am_I} {J2 : am_J} {M2 : am_I} {Sg2 fn2 : Nat → Nat} {V2 W2 K2 C2 : Nat} {S2 : List am_T} (h : rF fr g I I1 J J1 M M1 Sg Sg1 fn fn1 V V1 W W1 K K1 C C1 S S1) (k : rF fr1 g1 I1 I2 J1 J2 M1 M2 Sg1 Sg2 fn1 fn2 V1 V2 W1 W2 K1 K2 C1 C2 S1 S2) (h1 : fr ≤ fr1) (h2 : g ≤ g1) : rF fr g I I2 J J2 M M2 Sg Sg2 fn fn2 V V2 W W2 K K2 C C2 S S2 := by
  obtain ⟨a1, a2, a3, a4, a5, a6⟩ := h
  obtain ⟨b1, b2, b3, b4, b5, b6⟩ := k
  refine ⟨sE_trans a1 b1, ext_trans a2 b2, fun τ z => b3 τ (a3 τ z), fun z => b4 (a4 z), fun j hj => ?_, fun j hj => ?_⟩
  · obtain ⟨c1, c2, c3⟩ := a5 j hj
    obtain ⟨d1, d2, d3⟩ := b5 j (by omega)
    exact ⟨d1.trans c1, d2.trans c2, d3.trans c3⟩
  · obtain ⟨c1, c2, c3, c4⟩ := a6 j hj
    obtain ⟨d1, d2, d3, d4⟩ := b6 j (by omega)
    exact ⟨d1.trans c1, d2.trans c2, d3.trans c3, d4.trans c4⟩
theorem rN_trans {I : am_I} {J : am_J} {M : am_I} {st sr : Nat} {I1 : am_I} {J1 : am_J} {M1 : am_I} {st1 sr1 : Nat} {I2 : am_I} {J2 : am_J} {M2 : am_I} {st2 sr2 : Nat} (h : rN I I1 J J1 M M1 st st1 sr sr1) (k : rN I1 I2 J1 J2 M1 M2 st1 st2 sr1 sr2) : rN I I2 J J2 M M2 st st2 sr sr2 := by
  obtain ⟨⟨a1, a2⟩, a3, a4⟩ := h
  obtain ⟨⟨b1, b2⟩, b3, b4⟩ := k
  refine ⟨⟨by omega, by omega⟩, fun scr L F d Mx mo A R z => ?_, fun scr L F d Ix Jx mo A R z => ?_⟩
  · have := a3 scr L F d Mx mo _ R (b3 scr L F d Mx mo A R z)
    rw [show A + 80 * (st2 - st) = A + 80 * (st2 - st1) + 80 * (st1 - st) by omega]
    exact this
  · have := a4 scr L F d Ix Jx mo _ R (b4 scr L F d Ix Jx mo A R z)
    rw [show A + 40 * (sr2 - sr) = A + 40 * (sr2 - sr1) + 40 * (sr1 - sr) by omega]
    exact this
theorem rX_go {I : am_I} {J : am_J} {M : am_I} {st sr : Nat} {I1 : am_I} {J1 : am_J} {M1 : am_I} {st1 sr1 : Nat} (hE : sE I I1 M M1) (hS : SI I → SI I1) (hN : rN I I1 J J1 M M1 st st1 sr sr1) (h1 : st1 ≤ 100000) (h2 : sr1 ≤ 100000) (h : rX I1 J1 M1 st1 sr1) : rX I J M st sr := by
  obtain ⟨I2, J2, M2, e, P2, ⟨a1, a2, a3⟩, a4, a5⟩ := h
  obtain ⟨⟨b1, b2⟩, b3, b4⟩ := hN
  refine ⟨I2, J2, M2, e, P2, ⟨sE_trans hE a1, fun z => a2 (hS z), a3⟩, fun scr L F d Mx mo => ?_, fun scr L F d Ix Jx mo => ?_⟩
  · have := b3 scr L F d Mx mo _ _ (a4 scr L F d Mx mo)
    rw [show 80 * (100010 - st) = 80 * (100010 - st1) + 80 * (st1 - st) by omega]
    exact this
  · have := b4 scr L F d Ix Jx mo _ _ (a5 scr L F d Ix Jx mo)
    rw [show 40 * (100010 - sr) = 40 * (100010 - sr1) + 40 * (sr1 - sr) by omega]
    exact this
theorem rF_c {fr g : Nat} {I I' : am_I} {J J' : am_J} {M M' : am_I} {Sg fn : Nat → Nat} {V V' W W' K C : Nat} {S S' : List am_T} (h : cF I I' J J' M M') (he : ext M M' Sg Sg fn fn V V' W W' K K C C) (hS : ∀ τ, τ ∈ S → τ ∈ S') : rF fr g I I' J J' M M' Sg Sg fn fn V V' W W' K K C C S S' := by
  obtain ⟨h1, h2, h3, h4, h5⟩ := h
  refine ⟨sE_c ⟨h1, h2, h3, h4, h5⟩, he, hS, fun z s hs => ?_, fun j _ => ?_, fun j _ => ?_⟩
  · rw [h1 33 (by omega) (by omega) (by omega) (by omega) (by omega)]
    exact z s hs
  · rw [h1 30 (by omega) (by omega) (by omega) (by omega) (by omega), h1 31 (by omega) (by omega) (by omega) (by omega) (by omega), h3 32 (by omega)]
    exact ⟨rfl, rfl, rfl⟩
  · rw [h4 65 (by omega) (by omega), h4 66 (by omega) (by omega), h4 67 (by omega) (by omega), h4 68 (by omega) (by omega)]
    exact ⟨rfl, rfl, rfl, rfl⟩
theorem rF_m {fr g : Nat} {I I' : am_I} {J J' : am_J} {M M' : am_I} {Sg fn : Nat → Nat} {V W K C : Nat} {S : List am_T} (h : mF I I' J J' M M') (h1 : ∀ j, j < fr → I' 30 j = I 30 j ∧ I' 31 j = I 31 j ∧ J' 32 j = J 32 j) (h2 : ∀ j, j < g → M' 65 j = M 65 j ∧ M' 66 j = M 66 j ∧ M' 67 j = M 67 j ∧ M' 68 j = M 68 j) : rF fr g I I' J J' M M' Sg Sg fn fn V V W W K K C C S S := by
  refine ⟨sE_m h, ext_m h, fun _ z => z, fun z s hs => ?_, h1, h2⟩
  rw [h.1 33 (by omega) (by omega) (by omega)]
  exact z s hs
theorem rF_S {fr g : Nat} {I : am_I} {J : am_J} {M : am_I} {Sg fn : Nat → Nat} {V W K C : Nat} {S S' : List am_T} (h : ∀ τ, τ ∈ S → τ ∈ S') : rF fr g I I J J M M Sg Sg fn fn V V W W K K C C S S' := ⟨sE_refl _ _, ext_refl _ _ _ _ _ _ _, h, fun z => z, fun _ _ => ⟨rfl, rfl, rfl⟩, fun _ _ => ⟨rfl, rfl, rfl, rfl⟩⟩
/-- a triple is paid for -/
theorem DR_pay {I : am_I} {J : am_J} {M : am_I} {Sg fn : Nat → Nat} {V W K C P : Nat} {S : List am_T} {N c fu : Nat} (h : DR I J M Sg fn N c V W K C fu P S) (τ : am_T) : DR I J M Sg fn N c V W K C fu P (τ :: S) := by
  have hD := h
  obtain ⟨⟨a1, ⟨a2, a3, a4⟩, ⟨a5, a6, a7⟩, ⟨a8, a9, a10, a11, a12, a13, a14⟩, ⟨a15, a16, a17⟩, ⟨a18, a19, a20⟩⟩, hR, hw, hk, hs, hTB⟩ := h
  exact DR_X hD (cF_refl I J M) (ext_refl _ _ _ _ _ _ _) (fun τ z => List.mem_cons_of_mem _ z) a2 a15 a3 a4 a1 a16 (TB_sub hTB (fun τ z => List.mem_cons_of_mem _ z)) (fun w _ => ⟨rfl, rfl, rfl, rfl⟩) (fun w g1 g2 => by omega)
theorem LTs_F {fr g : Nat} {I : am_I} {J : am_J} {M : am_I} {Sg fn : Nat → Nat} {V W K C : Nat} {S : List am_T} {I1 : am_I} {J1 : am_J} {M1 : am_I} {Sg1 fn1 : Nat → Nat} {V1 W1 K1 C1 : Nat} {S1 : List am_T} {N : Nat} (h : rF fr g I I1 J J1 M M1 Sg Sg1 fn fn1 V V1 W W1 K K1 C C1 S S1) (k : LTs M N S) : LTs M1 N S1 := by
  obtain ⟨a1, a2, a3, _⟩ := h
  obtain ⟨b1, b2, b3⟩ := k
  refine ⟨fun m hm z => ?_, a3 _ b2, a3 _ b3⟩
  rw [a1.2.1 41 (by omega) (by omega)] at z
  rw [a1.2.1 43 (by omega) (by omega)]
  exact a3 _ (b1 m hm z)
/-- kept: what an ended run still shows -/
def rkI (I I' : am_I) : Prop := (∀ z, z ≤ 20 ∨ z = 28 ∨ z = 29 ∨ z = 33 → I' z = I z) ∧ (∀ y, y = 10 ∨ y = 11 → I' 21 y = I 21 y)
def rkM (M M' : am_I) : Prop := (∀ z, (37 ≤ z ∧ z ≤ 54) ∨ z = 70 ∨ z = 71 → M' z = M z) ∧ (∀ y, y < 31 ∨ y = 49 ∨ y = 53 ∨ y = 56 → M' 36 y = M 36 y)
theorem rkI_trans {I I1 I2 : am_I} (h : rkI I I1) (k : rkI I1 I2) : rkI I I2 := ⟨fun z a => (k.1 z a).trans (h.1 z a), fun z a => (k.2 z a).trans (h.2 z a)⟩
theorem rkM_trans {I I1 I2 : am_I} (h : rkM I I1) (k : rkM I1 I2) : rkM I I2 := ⟨fun z a => (k.1 z a).trans (h.1 z a), fun z a => (k.2 z a).trans (h.2 z a)⟩
theorem rkI_c {I I' : am_I} {J J' : am_J} {M M' : am_I} (h : cF I I' J J' M M') : rkI I I' := ⟨fun z a => h.1 z (by omega) (by omega) (by omega) (by omega) (by omega), fun y _ => by rw [h.1 21 (by omega) (by omega) (by omega) (by omega) (by omega)]⟩
theorem rkM_c {I I' : am_I} {J J' : am_J} {M M' : am_I} (h : cF I I' J J' M M') : rkM M M' := ⟨fun z a => h.2.2.2.1 z (by omega) (by omega), fun y _ => h.2.2.2.2 y (by omega) (by omega) (by omega) (by omega)⟩
theorem rkM_m {I I' : am_I} {J J' : am_J} {M M' : am_I} (h : mF I I' J J' M M') : rkM M M' := ⟨fun z a => h.2.2.2.1 z (by omega) (by omega), fun y _ => h.2.2.2.2 y (by omega) (by omega) (by omega) (by omega)⟩
theorem rkI_m {I I' : am_I} {J J' : am_J} {M M' : am_I} (h : mF I I' J J' M M') : rkI I I' := ⟨fun z a => h.1 z (by omega) (by omega) (by omega), fun y _ => h.2.1 y (by omega)⟩
theorem rkI_w (I : am_I) (y : Nat) (e : Int32) (h : ¬ y = 10) (h1 : ¬ y = 11) : rkI I (wr I 21 y e) := by
  refine ⟨fun z a => wr_ne I 21 y z e (by omega), fun z a => wr_n2 I 21 y z e (by omega)⟩
theorem rkI_f (I : am_I) (fr : Nat) : rkI I (fiI I fr) := by
  refine ⟨fun z a => ?_, fun z a => ?_⟩
  · unfold fiI
    rw [va_up_ne _ _ (by omega)]
  · rcases a with a | a <;> subst a <;> simp [fiI, va_up, upd]
theorem rkM_w (M : am_I) (y : Nat) (e : Int32) (h : ¬ (y < 31 ∨ y = 49 ∨ y = 53 ∨ y = 56)) : rkM M (wr M 36 y e) := ⟨fun z a => wr_ne M 36 y z e (by omega), fun z a => wr_n2 M 36 y z e (by intro q; subst q; exact h a)⟩
theorem rkM_69 (M : am_I) (y : Nat) (e : Int32) : rkM M (wr M 69 y e) := ⟨fun z a => wr_ne M 69 y z e (by omega), fun z a => wr_ap M 69 y 36 z e (by omega)⟩
theorem rkM_g (M : am_I) (x : Int32) : rkM M (gvM M x) := by
  refine ⟨fun z a => ?_, fun z a => ?_⟩
  · unfold gvM
    rw [va_up_ne _ _ (by omega)]
  · have h1 : ¬ z = 58 := by omega
    have h2 : ¬ z = 60 := by omega
    simp [gvM, va_up, upd, h1, h2]
theorem sE_k {I I' M M' : am_I} (h : rkI I I') (k : rkM M M') : sE I I' M M' := ⟨fun z _ b => h.1 z (by omega), fun z a b => k.1 z (by omega), k.1 71 (by omega), fun y a => k.2 y (by omega)⟩
theorem SI_k {I I' : am_I} (h : rkI I I') (k : SI I) : SI I' := by
  intro s hs
  rw [h.1 33 (by omega)]
  exact k s hs
theorem rE_of {I : am_I} {J : am_J} {M : am_I} {Sg fn : Nat → Nat} {V W K C P : Nat} {S : List am_T} {N c fu : Nat} {I' M' : am_I} {e : Int32} (hD : DR I J M Sg fn N c V W K C fu P S) (hI : rkI I I') (hM : rkM M M') (hP : P < 2 ^ 30) (he : e = 2 ∨ e = 3 ∨ e = 4) (h12 : I' 21 12 = e) (h51 : M' 36 51 = e) (h8 : e = 2 → I' 22 8 = M' 36 54) : rE I I' M M' e P := by
  obtain ⟨⟨a1, ⟨a2, a3, a4⟩, ⟨a5, a6, a7⟩, ⟨a8, a9, a10, a11, a12, a13, a14⟩, ⟨a15, a16, a17⟩, ⟨a18, a19, a20⟩⟩, hR, hw, hk, hs, hTB⟩ := hD
  refine ⟨sE_k hI hM, SI_k hI, he, h12, h51, ?_, ?_, ?_, ?_, hP, ?_, h8⟩
  · rw [hI.2 10 (by omega), hM.2 49 (by omega), a5, a6]
  · rw [hI.2 11 (by omega), hM.2 53 (by omega), a8, a9]
  · rw [hI.1 28 (by omega), a18]
  · rw [hM.2 56 (by omega), a19]
  · rw [hM.1 70 (by omega), hI.1 29 (by omega), a20]
/-- the end of a run whose cast has failed, or found no room -/
theorem rX_bad {I : am_I} {J : am_J} {M : am_I} {Sg fn : Nat → Nat} {V W K C P : Nat} {S : List am_T} {st sr : Nat} {N c fu : Nat} {I1 I2 : am_I} {J2 : am_J} {M1 M2 : am_I} (hD : DR I J M Sg fn N c V W K C fu P S) (hb : bSt I1 M1) (h1 : I2 22 = I1 22) (h2 : M2 36 51 = M1 36 51) (h3 : M2 36 54 = M1 36 54) (hI : rkI I I2) (hM : rkM M M2) (hP : P ≤ st) (hst : st ≤ 99000) (hsr : sr ≤ 99000) (kI : ∀ (scr : Nat → Int32) (L F d : Nat) (Mx : am_I) (mo : Int32) (e : Int32) (R : Option am_X), I2 22 7 = e → ¬ e = 6 → h31 scr L F d (wr I2 21 12 e) J2 Mx mo (st + 1) 80 R → h31 scr L F d I J Mx mo st 160 R) (kM : ∀ (scr : Nat → Int32) (L F d : Nat) (Ix : am_I) (Jx : am_J) (mo : Int32) (R : Option am_X), hr1 scr L F d Ix Jx M2 mo (sr + 1) 40 R → hr1 scr L F d Ix Jx M mo sr 80 R) : rX I J M st sr := by
  have key : ∀ e : Int32, (e = 2 ∨ e = 4) → I2 22 7 = e → M2 36 51 = e → (e = 2 → I2 22 8 = M2 36 54) → rX I J M st sr := by
    intro e he e1 e2 e3
    have n6 : ¬ e = 6 := by
      rcases he with z | z <;> subst z <;> decide
    have n0 : ¬ e = 0 := by
      rcases he with z | z <;> subst z <;> decide
    refine ⟨wr I2 21 12 e, J2, M2, e, P, rE_of hD (rkI_trans hI (rkI_w I2 12 e (by omega) (by omega))) hM (by omega) (by rcases he with z | z <;> simp [z]) (wr_s _ _ _ _) e2 (fun z => by rw [wr_ap _ _ _ _ _ _ (by omega)]; exact e3 z), fun scr L F d Mx mo => ?_, fun scr L F d Ix Jx mo => ?_⟩
    · exact h31_le (by omega) (kI scr L F d Mx mo e _ e1 n6 (x_end scr L F d _ _ Mx mo (st + 1) (by omega) e (wr_s _ _ _ _) n6))
    · exact hr1_le (by omega) (kM scr L F d Ix Jx mo _ (y_end scr L F d Ix Jx M2 mo (sr + 1) (by omega) e e2 n0))
  rcases hb with ⟨b1, b2, b3⟩ | ⟨b1, b2⟩
  · exact key 2 (.inl rfl) (by rw [h1]; exact b1) (by rw [h2]; exact b3) (fun _ => by rw [h1, h3]; exact b2)
  · exact key 4 (.inr rfl) (by rw [h1]; exact b1) (by rw [h2]; exact b2) (fun z => absurd z (by decide))
/-- one step on both sides -/
theorem rN_1 {I : am_I} {J : am_J} {M : am_I} {st sr : Nat} {I1 : am_I} {J1 : am_J} {M1 : am_I} (kI : ∀ (scr : Nat → Int32) (L F d : Nat) (Mx : am_I) (mo : Int32) (A : Nat) (R : Option am_X), h31 scr L F d I1 J1 Mx mo (st + 1) A R → h31 scr L F d I J Mx mo st (A + 80) R) (kM : ∀ (scr : Nat → Int32) (L F d : Nat) (Ix : am_I) (Jx : am_J) (mo : Int32) (A : Nat) (R : Option am_X), hr1 scr L F d Ix Jx M1 mo (sr + 1) A R → hr1 scr L F d Ix Jx M mo sr (A + 40) R) : rN I I1 J J1 M M1 st (st + 1) sr (sr + 1) := by
  refine ⟨⟨by omega, by omega⟩, fun scr L F d Mx mo A R z => ?_, fun scr L F d Ix Jx mo A R z => ?_⟩
  · rw [show A + 80 * (st + 1 - st) = A + 80 by omega]
    exact kI scr L F d Mx mo A R z
  · rw [show A + 40 * (sr + 1 - sr) = A + 40 by omega]
    exact kM scr L F d Ix Jx mo A R z
