/-! The step of the String constant, as a row. -/
theorem s_83_43 (d L n : Nat) (scr : Nat → Int32) (call : Nat → List Value → am_H → Option am_X) (lv : am_L) (I : Nat → Nat → Int32) (J : Nat → Nat → Int64) (M : Nat → Nat → Int32) (x k : Nat) (h0 : am_ld lv 0 = some (.ref 3)) (h3 : am_ld lv 3 = some (.int (nI x))) (hx : x < 105) (hs : I 3 x = nI k) (hk : k < 3) : am_f (d + 4) scr L call 83 (n + 1) 43 lv [] (hp I J M) = am_f (d + 4) scr L call 83 n 54 lv [.int (jk_ch k)] (hp I J M) := by
  have hfl : pm_fld 83 11 = some (7, 0) := by decide +kernel
  have e1 : am_get (hp I J M) 3 7 0 = some (.ref 4) := hg_2_0 I J M
  have e2 : am_ild scr L (hp I J M) 4 (nI x) = some (nI k) := by
    rw [hl_3, if_neg (nI_in hx (by omega)), nI_clamp (by omega), hs]
  have e3 : am_s (d + 4) scr L 83 43 lv [] (hp I J M) (.ldc 36) = am_chr (d + 4) scr L 83 43 lv [] (hp I J M) := rfl
  refine k_nx (i := .ldc 36) rfl (e3.trans ?_)
  rw [am_chr, if_pos ⟨rfl, rfl, Nat.le_add_left 4 d⟩]
  simp only [h0, h3, hfl, e1, e2]
  rw [if_neg (nI_in hk (by omega)), nI_clamp (by omega)]
