/-! The law out of a relation that every call keeps. -/
abbrev am_I : Type := Nat → Nat → Int32
abbrev am_J : Type := Nat → Nat → Int64
/-- both sides answer alike, and the relation holds behind it -/
def CallOk (Rel : am_I → am_J → am_I → Prop) (F d a b : Nat) (as : List Value) : Prop := ∀ (scr : Nat → Int32) (L : Nat) (I : am_I) (J : am_J) (M : am_I), Rel I J M → ∃ (v : Int32) (I1 : am_I) (J1 : am_J) (M1 : am_I), am_r scr L F d a (.ref 1 :: as) (hp I J M) = some (some (.int v), hp I1 J1 M, 0, 0) ∧ am_r scr L F d b (.ref 37 :: as) (hp I1 J1 M) = some (some (.int v), hp I1 J1 M1, 0, 0) ∧ Rel I1 J1 M1
theorem law_all (Rel : am_I → am_J → am_I → Prop) (F d : Nat) (s0 : ∀ w, CallOk Rel F d 2 94 [.long w]) (s1 : CallOk Rel F d 3 111 []) (s2 : CallOk Rel F d 4 132 []) (s3 : ∀ k, CallOk Rel F d 5 133 [.int k]) (s4 : ∀ k, CallOk Rel F d 6 131 [.int k]) (s5 : ∀ k, CallOk Rel F d 7 134 [.int k]) (s6 : CallOk Rel F d 8 135 []) (s7 : ∀ k, CallOk Rel F d 9 136 [.int k]) (s8 : CallOk Rel F d 10 137 []) (s9 : CallOk Rel F d 11 138 [])
    (scr : Nat → Int32) (L : Nat) (hL : L ≤ 1536) : ∀ (t p : Nat) (I : am_I) (J : am_J) (M : am_I), Rel I J M → p ≤ 1536 → L < p + 3 + 3 * t → ∃ h' : am_H, ∀ f, 70 * t + 20 ≤ f → am_f d scr L (am_r scr L F d) 0 f 18 (lv0 p) [] (hp I J M) = some (some (.int 1), h', 0, 0) := by
  intro t
  induction t with
  | zero =>
    intro p I J M hR hp1 hp2
    refine ⟨hp I J M, fun f hf => ?_⟩
    obtain ⟨g, rfl⟩ : ∃ g, f = g + 20 := ⟨f - 20, by omega⟩
    exact lw_end scr L F d p hL hp1 (by omega) _ g
  | succ t ih =>
    intro p I J M hR hp1 hp2
    by_cases hq : L < p + 3
    · refine ⟨hp I J M, fun f hf => ?_⟩
      obtain ⟨g, rfl⟩ : ∃ g, f = g + 20 := ⟨f - 20, by omega⟩
      exact lw_end scr L F d p hL hp1 hq _ g
    have hq2 : p + 3 ≤ L := by omega
    by_cases h0 : scr p &&& 15 = 0
    · obtain ⟨v, I1, J1, M1, hA, hB, hR1⟩ := s0 _ scr L I J M hR
      obtain ⟨h', K⟩ := ih (p + 3) I1 J1 M1 hR1 (by omega) (by omega)
      refine ⟨h', fun f hf => ?_⟩
      obtain ⟨g, rfl⟩ : ∃ g, f = g + 70 := ⟨f - 70, by omega⟩
      exact lw_0 scr L F d p hL hq2 h0 I I1 J J1 M M1 v hA hB g _ (fun f' hf' => K f' (by omega))
    by_cases h1 : scr p &&& 15 = 1
    · obtain ⟨v, I1, J1, M1, hA, hB, hR1⟩ := s1 scr L I J M hR
      obtain ⟨h', K⟩ := ih (p + 3) I1 J1 M1 hR1 (by omega) (by omega)
      refine ⟨h', fun f hf => ?_⟩
      obtain ⟨g, rfl⟩ : ∃ g, f = g + 70 := ⟨f - 70, by omega⟩
      exact lw_1 scr L F d p hL hq2 h1 I I1 J J1 M M1 v hA hB g _ (fun f' hf' => K f' (by omega))
    by_cases h2 : scr p &&& 15 = 2
    · obtain ⟨v, I1, J1, M1, hA, hB, hR1⟩ := s2 scr L I J M hR
      obtain ⟨h', K⟩ := ih (p + 3) I1 J1 M1 hR1 (by omega) (by omega)
      refine ⟨h', fun f hf => ?_⟩
      obtain ⟨g, rfl⟩ : ∃ g, f = g + 70 := ⟨f - 70, by omega⟩
      exact lw_2 scr L F d p hL hq2 h2 I I1 J J1 M M1 v hA hB g _ (fun f' hf' => K f' (by omega))
    by_cases h3 : scr p &&& 15 = 3
    · obtain ⟨v, I1, J1, M1, hA, hB, hR1⟩ := s3 _ scr L I J M hR
      obtain ⟨h', K⟩ := ih (p + 3) I1 J1 M1 hR1 (by omega) (by omega)
      refine ⟨h', fun f hf => ?_⟩
      obtain ⟨g, rfl⟩ : ∃ g, f = g + 70 := ⟨f - 70, by omega⟩
      exact lw_3 scr L F d p hL hq2 h3 I I1 J J1 M M1 v hA hB g _ (fun f' hf' => K f' (by omega))
    by_cases h4 : scr p &&& 15 = 4
    · obtain ⟨v, I1, J1, M1, hA, hB, hR1⟩ := s4 _ scr L I J M hR
      obtain ⟨h', K⟩ := ih (p + 3) I1 J1 M1 hR1 (by omega) (by omega)
      refine ⟨h', fun f hf => ?_⟩
      obtain ⟨g, rfl⟩ : ∃ g, f = g + 70 := ⟨f - 70, by omega⟩
      exact lw_4 scr L F d p hL hq2 h4 I I1 J J1 M M1 v hA hB g _ (fun f' hf' => K f' (by omega))
    by_cases h5 : scr p &&& 15 = 5
    · obtain ⟨v, I1, J1, M1, hA, hB, hR1⟩ := s5 _ scr L I J M hR
      obtain ⟨h', K⟩ := ih (p + 3) I1 J1 M1 hR1 (by omega) (by omega)
      refine ⟨h', fun f hf => ?_⟩
      obtain ⟨g, rfl⟩ : ∃ g, f = g + 70 := ⟨f - 70, by omega⟩
      exact lw_5 scr L F d p hL hq2 h5 I I1 J J1 M M1 v hA hB g _ (fun f' hf' => K f' (by omega))
    by_cases h6 : scr p &&& 15 = 6
    · obtain ⟨v, I1, J1, M1, hA, hB, hR1⟩ := s6 scr L I J M hR
      obtain ⟨h', K⟩ := ih (p + 3) I1 J1 M1 hR1 (by omega) (by omega)
      refine ⟨h', fun f hf => ?_⟩
      obtain ⟨g, rfl⟩ : ∃ g, f = g + 70 := ⟨f - 70, by omega⟩
      exact lw_6 scr L F d p hL hq2 h6 I I1 J J1 M M1 v hA hB g _ (fun f' hf' => K f' (by omega))
    by_cases h7 : scr p &&& 15 = 7
    · obtain ⟨v, I1, J1, M1, hA, hB, hR1⟩ := s7 _ scr L I J M hR
      obtain ⟨h', K⟩ := ih (p + 3) I1 J1 M1 hR1 (by omega) (by omega)
      refine ⟨h', fun f hf => ?_⟩
      obtain ⟨g, rfl⟩ : ∃ g, f = g + 70 := ⟨f - 70, by omega⟩
      exact lw_7 scr L F d p hL hq2 h7 I I1 J J1 M M1 v hA hB g _ (fun f' hf' => K f' (by omega))
    by_cases h8 : scr p &&& 15 = 8
    · obtain ⟨v, I1, J1, M1, hA, hB, hR1⟩ := s8 scr L I J M hR
      obtain ⟨h', K⟩ := ih (p + 3) I1 J1 M1 hR1 (by omega) (by omega)
      refine ⟨h', fun f hf => ?_⟩
      obtain ⟨g, rfl⟩ : ∃ g, f = g + 70 := ⟨f - 70, by omega⟩
      exact lw_8 scr L F d p hL hq2 h8 I I1 J J1 M M1 v hA hB g _ (fun f' hf' => K f' (by omega))
    by_cases h9 : scr p &&& 15 = 9
    · obtain ⟨v, I1, J1, M1, hA, hB, hR1⟩ := s9 scr L I J M hR
      obtain ⟨h', K⟩ := ih (p + 3) I1 J1 M1 hR1 (by omega) (by omega)
      refine ⟨h', fun f hf => ?_⟩
      obtain ⟨g, rfl⟩ : ∃ g, f = g + 70 := ⟨f - 70, by omega⟩
      exact lw_9 scr L F d p hL hq2 h9 I I1 J J1 M M1 v hA hB g _ (fun f' hf' => K f' (by omega))
    obtain ⟨h', K⟩ := ih (p + 3) I J M hR (by omega) (by omega)
    refine ⟨h', fun f hf => ?_⟩
    obtain ⟨g, rfl⟩ : ∃ g, f = g + 70 := ⟨f - 70, by omega⟩
    refine lw_no scr L F d p hL hq2 (fun o ho1 ho2 => ?_) _ g _ (fun f' hf' => K f' (by omega))
    obtain ⟨j, hj, rfl⟩ := nI_of (x := o) (Int32.not_lt.mpr ho2)
    have hj2 : j < 10 := by
      have h10 : (10 : Int32) = nI 10 := rfl
      rw [h10, nI_ltI hj (by omega)] at ho1
      exact ho1
    have hc : j = 0 ∨ j = 1 ∨ j = 2 ∨ j = 3 ∨ j = 4 ∨ j = 5 ∨ j = 6 ∨ j = 7 ∨ j = 8 ∨ j = 9 := by omega
    rcases hc with rfl | rfl | rfl | rfl | rfl | rfl | rfl | rfl | rfl | rfl
    · exact h0
    · exact h1
    · exact h2
    · exact h3
    · exact h4
    · exact h5
    · exact h6
    · exact h7
    · exact h8
    · exact h9
/-- whole out of a relation: F and d are as large as one likes -/
theorem pure_of (Rel : am_I → am_J → am_I → Prop) (G e : Nat) (he : e ≤ 1200) (hG : 40000 ≤ G) (hR : Rel i0 j0 m0) (s0 : ∀ w, CallOk Rel (G + 1000) (e + 6) 2 94 [.long w]) (s1 : CallOk Rel (G + 1000) (e + 6) 3 111 []) (s2 : CallOk Rel (G + 1000) (e + 6) 4 132 []) (s3 : ∀ k, CallOk Rel (G + 1000) (e + 6) 5 133 [.int k]) (s4 : ∀ k, CallOk Rel (G + 1000) (e + 6) 6 131 [.int k]) (s5 : ∀ k, CallOk Rel (G + 1000) (e + 6) 7 134 [.int k]) (s6 : CallOk Rel (G + 1000) (e + 6) 8 135 []) (s7 : ∀ k, CallOk Rel (G + 1000) (e + 6) 9 136 [.int k]) (s8 : CallOk Rel (G + 1000) (e + 6) 10 137 []) (s9 : CallOk Rel (G + 1000) (e + 6) 11 138 [])
    {L : Nat} (hL : L ≤ 1536) (xs : Nat → Int32) : ∃ (F d k n : Nat) (h' : am_H), d ≤ 1300 ∧ k ≤ 600000 ∧ n ≤ 7302250 ∧ am_f d xs L (am_r xs L F d) 0 F 0 [(0, .ref 0)] [] [] = some (some (.int 1), h', k, n) := by
  have hc := c_law xs L G e
  have hl : lv0 0 = [(0, .ref 0), (1, .ref 1), (2, .ref 37), (3, .int 0)] := by unfold lv0; rw [nI_0]
  rw [← hl] at hc
  obtain ⟨h', K⟩ := law_all Rel (G + 1000) (e + 6) s0 s1 s2 s3 s4 s5 s6 s7 s8 s9 xs L hL 512 0 i0 j0 m0 hR (by omega) (by omega)
  rw [K (G + 990) (by omega), am_add_some] at hc
  exact ⟨G + 1000, e + 6, _, _, h', by omega, by omega, by omega, hc⟩
