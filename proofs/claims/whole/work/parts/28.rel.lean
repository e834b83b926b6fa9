/-! The text's part of the relation; what else there is stands behind masks. -/
def rtx (I M : am_I) : Prop := ∃ c : Nat, c ≤ 100 ∧ I 18 2 = nI c ∧ M 36 0 = nI c ∧ M 37 = I 19 ∧ tok (I 19) c
def mkI (I : am_I) : am_I := fun k => if k = 18 ∨ k = 19 then fun _ => 0 else I k
def mkM (M : am_I) : am_I := fun k => if k = 37 then fun _ => 0 else if k = 36 then upd (M 36) 0 0 else M k
theorem w_c_ok (b : Int32) : vp_nar .char (w_c b) = w_c b := by
  unfold w_c
  rw [pk_vc, pk_vc]
theorem w_2_tok (w : Int64) : ∀ (j : Nat) (t : Nat → Int32) (c : Nat), tok t c → tok (w_2 w j t c).1 (w_2 w j t c).2
  | 0, t, c, h => h
  | j + 1, t, c, h => by
    unfold w_2
    split
    · exact w_2_tok w j t c h
    · refine w_2_tok w j _ (c + 1) (fun k hk => ?_)
      by_cases hc : k = c
      · subst hc
        rw [pk_us]
        exact w_c_ok _
      · rw [pk_un hc]
        exact h k (by omega)
theorem mkI_w (I : am_I) (q : (Nat → Int32) × Nat) : mkI (w_M I 19 18 2 q) = mkI I := by
  funext k
  unfold mkI
  by_cases h : k = 18 ∨ k = 19
  · rw [if_pos h, if_pos h]
  · rw [if_neg h, if_neg h]
    unfold w_M
    rw [va_up_ne _ _ (fun z => h (Or.inl z)), va_up_ne _ _ (fun z => h (Or.inr z))]
theorem mkM_w (M : am_I) (q : (Nat → Int32) × Nat) : mkM (w_M M 37 36 0 q) = mkM M := by
  funext k
  unfold mkM
  by_cases h : k = 37
  · rw [if_pos h, if_pos h]
  · rw [if_neg h, if_neg h]
    by_cases h2 : k = 36
    · rw [if_pos h2, if_pos h2]
      unfold w_M
      rw [va_up_self]
      funext j
      by_cases h3 : j = 0
      · subst h3
        rw [pk_us, pk_us]
      · rw [pk_un h3, pk_un h3, pk_un h3]
    · rw [if_neg h2, if_neg h2]
      unfold w_M
      rw [va_up_ne _ _ h2, va_up_ne _ _ h]
theorem ok_write (Rest : am_I → am_J → am_I → Prop) (F d : Nat) (w : Int64) : CallOk (fun I J M => rtx I M ∧ Rest (mkI I) J (mkM M)) (F + 1000) (d + 2) 2 94 [.long w] := by
  intro scr L I J M hR
  obtain ⟨⟨c, hc, h1, h2, h3, h4⟩, hr⟩ := hR
  have hA := m_2 scr L F d I J M w c h1 hc
  cases hw : w_r w (I 19) c with
  | none =>
    have hB := m_94 scr L F (d + 1) I J M w c h2 hc
    rw [hw] at hA
    rw [h3, hw] at hB
    exact ⟨0, I, J, M, hA, hB, ⟨c, hc, h1, h2, h3, h4⟩, hr⟩
  | some q =>
    have hB := m_94 scr L F (d + 1) (w_M I 19 18 2 q) J M w c h2 hc
    rw [hw] at hA
    rw [h3, hw] at hB
    refine ⟨1, w_M I 19 18 2 q, J, w_M M 37 36 0 q, hA, hB, ⟨q.2, ?_, ?_, ?_, ?_, ?_⟩, by rw [mkI_w, mkM_w]; exact hr⟩
    · unfold w_r at hw
      split at hw
      · cases hw
      · split at hw
        · rename_i hle
          cases hw
          exact hle
        · cases hw
    · unfold w_M
      rw [va_up_self, pk_us]
    · unfold w_M
      rw [va_up_self, pk_us]
    · unfold w_M
      rw [va_up_ne _ _ (show (37 : Nat) ≠ 36 by decide), va_up_self, va_up_ne _ _ (show (19 : Nat) ≠ 18 by decide), va_up_self]
    · have e : w_M I 19 18 2 q 19 = q.1 := by
        unfold w_M
        rw [va_up_ne _ _ (show (19 : Nat) ≠ 18 by decide), va_up_self]
      rw [e]
      unfold w_r at hw
      split at hw
      · cases hw
      · split at hw
        · cases hw
          exact w_2_tok w 8 (I 19) c h4
        · cases hw
