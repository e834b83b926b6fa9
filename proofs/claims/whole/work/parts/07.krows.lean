/-! One step of a frame, as an equation, for each kind of instruction. -/
theorem am_add0 (x : Option am_X) : am_add 0 0 x = x := by
  cases x with
  | none => rfl
  | some q =>
    obtain ⟨v, h, k, n⟩ := q
    simp [am_add]
theorem am_ld_cons (i j : Nat) (v : Value) (l : am_L) : am_ld ((i, v) :: l) j = if i = j then some v else am_ld l j := by
  unfold am_ld
  rw [List.find?_cons]
  by_cases h : i = j
  · simp [h]
  · have h2 : (i == j) = false := by simpa using h
    simp [h, h2]
theorem am_ld_nil (j : Nat) : am_ld [] j = none := rfl
section KR
variable {d L mi n pc : Nat} {scr : Nat → Int32} {call : Nat → List Value → am_H → Option am_X} {lv : am_L} {st : List Value} {h : am_H}
theorem k_nx {i : Jvm.ClassFile.Instr} {pc' : Nat} {lv' : am_L} {st' : List Value} {h' : am_H} (h0 : pm_it mi pc = some i) (hs : am_s d scr L mi pc lv st h i = am_nx pc' lv' st' h') : am_f d scr L call mi (n + 1) pc lv st h = am_f d scr L call mi n pc' lv' st' h' := by
  simp only [am_f, h0, hs, am_nx, am_add0]
theorem k_no {i : Jvm.ClassFile.Instr} (h0 : pm_it mi pc = some i) (hs : am_s d scr L mi pc lv st h i = none) (hv : am_cv mi st h i = none) (hr : am_rt mi st i = none) : am_f d scr L call mi (n + 1) pc lv st h = none := by
  simp only [am_f, h0, hs, hv, hr]

theorem k_li {i : Jvm.ClassFile.Instr} {pc' k : Nat} (h0 : pm_it mi pc = some i) (hs : am_s d scr L mi pc lv st h i = am_li pc' lv st h (am_ld lv k)) (hv : am_cv mi st h i = none) (hr : am_rt mi st i = none) : am_f d scr L call mi (n + 1) pc lv st h = (match am_ld lv k with
    | some (.int x) => am_f d scr L call mi n pc' lv (.int x :: st) h
    | _ => none) := by
  simp only [am_f, h0, hs, hv, hr, am_li]
  cases am_ld lv k with
  | none => rfl
  | some v => cases v <;> first | rfl | simp only [am_nx, am_add0]
theorem k_ll {i : Jvm.ClassFile.Instr} {pc' k : Nat} (h0 : pm_it mi pc = some i) (hs : am_s d scr L mi pc lv st h i = am_ll pc' lv st h (am_ld lv k)) (hv : am_cv mi st h i = none) (hr : am_rt mi st i = none) : am_f d scr L call mi (n + 1) pc lv st h = (match am_ld lv k with
    | some (.long x) => am_f d scr L call mi n pc' lv (.long x :: st) h
    | _ => none) := by
  simp only [am_f, h0, hs, hv, hr, am_ll]
  cases am_ld lv k with
  | none => rfl
  | some v => cases v <;> first | rfl | simp only [am_nx, am_add0]
theorem k_la {i : Jvm.ClassFile.Instr} {pc' k : Nat} (h0 : pm_it mi pc = some i) (hs : am_s d scr L mi pc lv st h i = am_la pc' lv st h (am_ld lv k)) (hv : am_cv mi st h i = none) (hr : am_rt mi st i = none) : am_f d scr L call mi (n + 1) pc lv st h = (match am_ld lv k with
    | some (.ref x) => am_f d scr L call mi n pc' lv (.ref x :: st) h
    | _ => none) := by
  simp only [am_f, h0, hs, hv, hr, am_la]
  cases am_ld lv k with
  | none => rfl
  | some v => cases v <;> first | rfl | simp only [am_nx, am_add0]
theorem k_iinc {k : Nat} {c : Int} {v : Int32} (h0 : pm_it mi pc = some (.iinc k c)) (hv : Int32.ofInt c = v) (hk : k < pm_maxL mi) : am_f d scr L call mi (n + 1) pc lv st h = (match am_ld lv k with
    | some (.int x) => am_f d scr L call mi n (pc + 3) (am_st1 lv k (.int (x + v))) st h
    | _ => none) := by
  subst hv
  simp only [am_f, h0, am_s, am_cv, am_rt, hk, if_true]
  cases am_ld lv k with
  | none => rfl
  | some v => cases v <;> first | rfl | simp only [am_nx, am_add0]
theorem k_gf {k ci j a : Nat} (h0 : pm_it mi pc = some (.getfield k)) (hf : pm_fld mi k = some (ci, j)) : am_f d scr L call mi (n + 1) pc lv (.ref a :: st) h = (match am_get h a ci j with
    | some v => am_f d scr L call mi n (pc + 3) lv (v :: st) h
    | none => none) := by
  simp only [am_f, h0, am_s, am_cv, am_rt, hf]
  cases am_get h a ci j <;> simp [am_nx, am_add0]
theorem k_pf {k ci j a : Nat} {ty : FieldType} {v : Value} (h0 : pm_it mi pc = some (.putfield k)) (hf : pm_pfl mi k = some (ci, j, ty)) (ht : am_fit ty v = true) : am_f d scr L call mi (n + 1) pc lv (v :: .ref a :: st) h = (match am_put h a ci j v with
    | some h' => am_f d scr L call mi n (pc + 3) lv st h'
    | none => none) := by
  simp only [am_f, h0, am_s, am_cv, am_rt, hf, ht, if_true]
  cases am_put h a ci j v <;> simp [am_nx, am_add0]
theorem k_pz {k ci j a : Nat} {x : Int32} (h0 : pm_it mi pc = some (.putfield k)) (hf : pm_pfl mi k = some (ci, j, .boolean)) : am_f d scr L call mi (n + 1) pc lv (.int x :: .ref a :: st) h = if x = 0 ∨ x = 1 then (match am_put h a ci j (.int x) with
    | some h' => am_f d scr L call mi n (pc + 3) lv st h'
    | none => none) else none := by
  by_cases hx : x = 0 ∨ x = 1
  · rw [if_pos hx]
    exact k_pf h0 hf (by simpa [am_fit] using hx)
  · rw [if_neg hx]
    have ht : ¬ am_fit .boolean (.int x) = true := by simpa [am_fit] using hx
    simp only [am_f, h0, am_s, am_cv, am_rt, hf, if_neg ht]
theorem k_ia {a : Nat} {i : Int32} (h0 : pm_it mi pc = some .iaload) : am_f d scr L call mi (n + 1) pc lv (.int i :: .ref a :: st) h = (match am_ild scr L h a i with
    | some x => am_f d scr L call mi n (pc + 1) lv (.int x :: st) h
    | none => none) := by
  simp only [am_f, h0, am_s, am_cv, am_rt]
  cases am_ild scr L h a i <;> simp [am_nx, am_add0]
theorem k_ca {a : Nat} {i : Int32} (h0 : pm_it mi pc = some .caload) : am_f d scr L call mi (n + 1) pc lv (.int i :: .ref a :: st) h = (match am_cld h a i with
    | some x => am_f d scr L call mi n (pc + 1) lv (.int x :: st) h
    | none => none) := by
  simp only [am_f, h0, am_s, am_cv, am_rt]
  cases am_cld h a i <;> simp [am_nx, am_add0]
theorem k_ja {a : Nat} {i : Int32} (h0 : pm_it mi pc = some .laload) : am_f d scr L call mi (n + 1) pc lv (.int i :: .ref a :: st) h = (match am_lld h a i with
    | some x => am_f d scr L call mi n (pc + 1) lv (.long x :: st) h
    | none => none) := by
  simp only [am_f, h0, am_s, am_cv, am_rt]
  cases am_lld h a i <;> simp [am_nx, am_add0]
theorem k_is {a : Nat} {i : Int32} {x : Int32} (h0 : pm_it mi pc = some .iastore) : am_f d scr L call mi (n + 1) pc lv (.int x :: .int i :: .ref a :: st) h = (match am_ist h a i x with
    | some h' => am_f d scr L call mi n (pc + 1) lv st h'
    | none => none) := by
  simp only [am_f, h0, am_s, am_cv, am_rt]
  cases am_ist h a i x <;> simp [am_nx, am_add0]
theorem k_cs {a : Nat} {i : Int32} {x : Int32} (h0 : pm_it mi pc = some .castore) : am_f d scr L call mi (n + 1) pc lv (.int x :: .int i :: .ref a :: st) h = (match am_cst h a i x with
    | some h' => am_f d scr L call mi n (pc + 1) lv st h'
    | none => none) := by
  simp only [am_f, h0, am_s, am_cv, am_rt]
  cases am_cst h a i x <;> simp [am_nx, am_add0]
theorem k_js {a : Nat} {i : Int32} {x : Int64} (h0 : pm_it mi pc = some .lastore) : am_f d scr L call mi (n + 1) pc lv (.long x :: .int i :: .ref a :: st) h = (match am_lst h a i x with
    | some h' => am_f d scr L call mi n (pc + 1) lv st h'
    | none => none) := by
  simp only [am_f, h0, am_s, am_cv, am_rt]
  cases am_lst h a i x <;> simp [am_nx, am_add0]
theorem k_if_eq {o : Int} {t : Nat} {x : Int32} (h0 : pm_it mi pc = some (.ifCond .eq o)) (ht : ¬ (pc : Int) + o < 0 ∧ am_tg pc o = t) : am_f d scr L call mi (n + 1) pc lv (.int x :: st) h = if x = 0 then am_f d scr L call mi n t lv st h else am_f d scr L call mi n (pc + 3) lv st h := by
  obtain ⟨h1, rfl⟩ := ht
  simp only [am_f, h0, am_s, am_jp, if_neg h1, am_nx, am_add0, am_c0, decide_eq_true_eq]
  split <;> rfl
theorem k_ic_eq {o : Int} {t : Nat} {x y : Int32} (h0 : pm_it mi pc = some (.if_icmp .eq o)) (ht : ¬ (pc : Int) + o < 0 ∧ am_tg pc o = t) : am_f d scr L call mi (n + 1) pc lv (.int y :: .int x :: st) h = if x = y then am_f d scr L call mi n t lv st h else am_f d scr L call mi n (pc + 3) lv st h := by
  obtain ⟨h1, rfl⟩ := ht
  simp only [am_f, h0, am_s, am_jp, if_neg h1, am_nx, am_add0, am_c2, decide_eq_true_eq]
  split <;> rfl
theorem k_if_ne {o : Int} {t : Nat} {x : Int32} (h0 : pm_it mi pc = some (.ifCond .ne o)) (ht : ¬ (pc : Int) + o < 0 ∧ am_tg pc o = t) : am_f d scr L call mi (n + 1) pc lv (.int x :: st) h = if ¬ x = 0 then am_f d scr L call mi n t lv st h else am_f d scr L call mi n (pc + 3) lv st h := by
  obtain ⟨h1, rfl⟩ := ht
  simp only [am_f, h0, am_s, am_jp, if_neg h1, am_nx, am_add0, am_c0, decide_eq_true_eq]
  split <;> rfl
theorem k_ic_ne {o : Int} {t : Nat} {x y : Int32} (h0 : pm_it mi pc = some (.if_icmp .ne o)) (ht : ¬ (pc : Int) + o < 0 ∧ am_tg pc o = t) : am_f d scr L call mi (n + 1) pc lv (.int y :: .int x :: st) h = if ¬ x = y then am_f d scr L call mi n t lv st h else am_f d scr L call mi n (pc + 3) lv st h := by
  obtain ⟨h1, rfl⟩ := ht
  simp only [am_f, h0, am_s, am_jp, if_neg h1, am_nx, am_add0, am_c2, decide_eq_true_eq]
  split <;> rfl
theorem k_if_lt {o : Int} {t : Nat} {x : Int32} (h0 : pm_it mi pc = some (.ifCond .lt o)) (ht : ¬ (pc : Int) + o < 0 ∧ am_tg pc o = t) : am_f d scr L call mi (n + 1) pc lv (.int x :: st) h = if x < 0 then am_f d scr L call mi n t lv st h else am_f d scr L call mi n (pc + 3) lv st h := by
  obtain ⟨h1, rfl⟩ := ht
  simp only [am_f, h0, am_s, am_jp, if_neg h1, am_nx, am_add0, am_c0, decide_eq_true_eq]
  split <;> rfl
theorem k_ic_lt {o : Int} {t : Nat} {x y : Int32} (h0 : pm_it mi pc = some (.if_icmp .lt o)) (ht : ¬ (pc : Int) + o < 0 ∧ am_tg pc o = t) : am_f d scr L call mi (n + 1) pc lv (.int y :: .int x :: st) h = if x < y then am_f d scr L call mi n t lv st h else am_f d scr L call mi n (pc + 3) lv st h := by
  obtain ⟨h1, rfl⟩ := ht
  simp only [am_f, h0, am_s, am_jp, if_neg h1, am_nx, am_add0, am_c2, decide_eq_true_eq]
  split <;> rfl
theorem k_if_ge {o : Int} {t : Nat} {x : Int32} (h0 : pm_it mi pc = some (.ifCond .ge o)) (ht : ¬ (pc : Int) + o < 0 ∧ am_tg pc o = t) : am_f d scr L call mi (n + 1) pc lv (.int x :: st) h = if 0 ≤ x then am_f d scr L call mi n t lv st h else am_f d scr L call mi n (pc + 3) lv st h := by
  obtain ⟨h1, rfl⟩ := ht
  simp only [am_f, h0, am_s, am_jp, if_neg h1, am_nx, am_add0, am_c0, decide_eq_true_eq]
  split <;> rfl
theorem k_ic_ge {o : Int} {t : Nat} {x y : Int32} (h0 : pm_it mi pc = some (.if_icmp .ge o)) (ht : ¬ (pc : Int) + o < 0 ∧ am_tg pc o = t) : am_f d scr L call mi (n + 1) pc lv (.int y :: .int x :: st) h = if y ≤ x then am_f d scr L call mi n t lv st h else am_f d scr L call mi n (pc + 3) lv st h := by
  obtain ⟨h1, rfl⟩ := ht
  simp only [am_f, h0, am_s, am_jp, if_neg h1, am_nx, am_add0, am_c2, decide_eq_true_eq]
  split <;> rfl
theorem k_if_gt {o : Int} {t : Nat} {x : Int32} (h0 : pm_it mi pc = some (.ifCond .gt o)) (ht : ¬ (pc : Int) + o < 0 ∧ am_tg pc o = t) : am_f d scr L call mi (n + 1) pc lv (.int x :: st) h = if 0 < x then am_f d scr L call mi n t lv st h else am_f d scr L call mi n (pc + 3) lv st h := by
  obtain ⟨h1, rfl⟩ := ht
  simp only [am_f, h0, am_s, am_jp, if_neg h1, am_nx, am_add0, am_c0, decide_eq_true_eq]
  split <;> rfl
theorem k_ic_gt {o : Int} {t : Nat} {x y : Int32} (h0 : pm_it mi pc = some (.if_icmp .gt o)) (ht : ¬ (pc : Int) + o < 0 ∧ am_tg pc o = t) : am_f d scr L call mi (n + 1) pc lv (.int y :: .int x :: st) h = if y < x then am_f d scr L call mi n t lv st h else am_f d scr L call mi n (pc + 3) lv st h := by
  obtain ⟨h1, rfl⟩ := ht
  simp only [am_f, h0, am_s, am_jp, if_neg h1, am_nx, am_add0, am_c2, decide_eq_true_eq]
  split <;> rfl
theorem k_if_le {o : Int} {t : Nat} {x : Int32} (h0 : pm_it mi pc = some (.ifCond .le o)) (ht : ¬ (pc : Int) + o < 0 ∧ am_tg pc o = t) : am_f d scr L call mi (n + 1) pc lv (.int x :: st) h = if x ≤ 0 then am_f d scr L call mi n t lv st h else am_f d scr L call mi n (pc + 3) lv st h := by
  obtain ⟨h1, rfl⟩ := ht
  simp only [am_f, h0, am_s, am_jp, if_neg h1, am_nx, am_add0, am_c0, decide_eq_true_eq]
  split <;> rfl
theorem k_ic_le {o : Int} {t : Nat} {x y : Int32} (h0 : pm_it mi pc = some (.if_icmp .le o)) (ht : ¬ (pc : Int) + o < 0 ∧ am_tg pc o = t) : am_f d scr L call mi (n + 1) pc lv (.int y :: .int x :: st) h = if x ≤ y then am_f d scr L call mi n t lv st h else am_f d scr L call mi n (pc + 3) lv st h := by
  obtain ⟨h1, rfl⟩ := ht
  simp only [am_f, h0, am_s, am_jp, if_neg h1, am_nx, am_add0, am_c2, decide_eq_true_eq]
  split <;> rfl
theorem k_dz {i : Jvm.ClassFile.Instr} {f : Int32 → Int32 → Int32} {x y : Int32} (h0 : pm_it mi pc = some i) (hs : am_s d scr L mi pc lv (.int y :: .int x :: st) h i = am_dz (pc + 1) lv h f (.int y :: .int x :: st)) (hv : am_cv mi (.int y :: .int x :: st) h i = none) (hr : am_rt mi (.int y :: .int x :: st) i = none) : am_f d scr L call mi (n + 1) pc lv (.int y :: .int x :: st) h = if y = 0 then none else am_f d scr L call mi n (pc + 1) lv (.int (f x y) :: st) h := by
  by_cases hy : y = 0
  · simp only [am_f, h0, hs, hv, hr, am_dz, if_pos hy]
  · simp only [am_f, h0, hs, hv, hr, am_dz, if_neg hy, am_nx, am_add0]
theorem k_iv0 {k mj nn ci a : Nat} {as r : List Value} (h0 : pm_it mi pc = some (.invokevirtual k)) (hm : pm_mth mi k = some (0, mj, nn, ci)) (hst : st = as.reverse ++ .ref a :: r) (hl : as.length = nn) (hs : (r.map fun v => v.category).sum ≤ 8) : am_f d scr L call mi (n + 1) pc lv st h = if am_at h a ci = true then (match call mj (.ref a :: as) h with
    | some (v, h', dk, dn) => am_add dk dn (am_f d scr L call mi n (pc + 3) lv (v.toList ++ r) h')
    | none => none) else none := by
  have h1 : st.drop nn = .ref a :: r := by rw [hst, ← hl, ← List.length_reverse, List.drop_left]
  have h2 : (st.take nn).reverse = as := by rw [hst, ← hl, ← List.length_reverse, List.take_left, List.reverse_reverse]
  have h3 : nn ≤ st.length := by rw [hst, List.length_append, List.length_reverse]; omega
  simp only [am_f, h0, am_s, am_cv, am_rt, am_i0, hm, h1, h2, h3, hs, and_true, if_true]
  by_cases h4 : am_at h a ci = true
  · simp only [h4, if_true]
    cases call mj (.ref a :: as) h with
    | none => rfl
    | some q => rfl
  · simp only [h4]
    rfl
theorem k_iv1 {k mj nn ci : Nat} {as r : List Value} (h0 : pm_it mi pc = some (.invokestatic k)) (hm : pm_mth mi k = some (1, mj, nn, ci)) (hst : st = as.reverse ++ r) (hl : as.length = nn) (hs : (r.map fun v => v.category).sum ≤ 8) : am_f d scr L call mi (n + 1) pc lv st h = (match call mj as h with
    | some (v, h', dk, dn) => am_add dk dn (am_f d scr L call mi n (pc + 3) lv (v.toList ++ r) h')
    | none => none) := by
  have h1 : st.drop nn = r := by rw [hst, ← hl, ← List.length_reverse, List.drop_left]
  have h2 : (st.take nn).reverse = as := by rw [hst, ← hl, ← List.length_reverse, List.take_left, List.reverse_reverse]
  have h3 : nn ≤ st.length := by rw [hst, List.length_append, List.length_reverse]; omega
  simp only [am_f, h0, am_s, am_cv, am_rt, am_i1, hm, h1, h2, h3, hs, and_true, if_true]
  cases call mj as h with
  | none => rfl
  | some q => rfl
theorem k_iv2 {k mj nn ci a : Nat} {as r : List Value} (h0 : pm_it mi pc = some (.invokespecial k)) (ho : pm_obj mi k = false) (hm : pm_mth mi k = some (2, mj, nn, ci)) (hst : st = as.reverse ++ .ref a :: r) (hl : as.length = nn) (hs : (r.map fun v => v.category).sum ≤ 8) : am_f d scr L call mi (n + 1) pc lv st h = (match call mj (.ref a :: as) h with
    | some (v, h', dk, dn) => am_add dk dn (am_f d scr L call mi n (pc + 3) lv (v.toList ++ r) h')
    | none => none) := by
  have h1 : st.drop nn = .ref a :: r := by rw [hst, ← hl, ← List.length_reverse, List.drop_left]
  have h2 : (st.take nn).reverse = as := by rw [hst, ← hl, ← List.length_reverse, List.take_left, List.reverse_reverse]
  have h3 : nn ≤ st.length := by rw [hst, List.length_append, List.length_reverse]; omega
  have h4 : am_oi d mi k pc lv st h = none := by
    unfold am_oi
    split
    · rw [if_neg]
      rw [ho]
      intro z
      cases z.1
    · rfl
  simp only [am_f, h0, am_s, h4, am_cv, am_rt, am_i2, hm, h1, h2, h3, hs, and_true, if_true]
  cases call mj (.ref a :: as) h with
  | none => rfl
  | some q => rfl
theorem k_ob {k a : Nat} (h0 : pm_it mi pc = some (.invokespecial k)) (ho : pm_obj mi k = true) (hs : (st.map fun v => v.category).sum ≤ 8) : am_f (d + 1) scr L call mi (n + 1) pc lv (.ref a :: st) h = am_f (d + 1) scr L call mi n (pc + 3) lv st h := by
  have h4 : am_oi (d + 1) mi k pc lv (.ref a :: st) h = am_nx (pc + 3) lv st h := by
    show (if pm_obj mi k = true ∧ 1 ≤ d + 1 ∧ (st.map fun v => v.category).sum ≤ 8 then am_nx (pc + 3) lv st h else none) = _
    rw [if_pos ⟨ho, by omega, hs⟩]
  exact k_nx h0 (by simp only [am_s, h4])
theorem k_ir {x : Int32} (h0 : pm_it mi pc = some .ireturn) (hr : pm_ret mi = some .int) : am_f d scr L call mi (n + 1) pc lv [.int x] h = some (some (.int x), h, 0, 0) := by
  simp only [am_f, h0, am_s, am_cv, am_rt, am_rok, hr, if_true]
theorem k_zr {x : Int32} (h0 : pm_it mi pc = some .ireturn) (hr : pm_ret mi = some .boolean) : am_f d scr L call mi (n + 1) pc lv [.int x] h = if x = 0 ∨ x = 1 then some (some (.int x), h, 0, 0) else none := by
  by_cases hx : x = 0 ∨ x = 1
  · have h1 : (x == 0 || x == 1) = true := by simpa using hx
    rw [if_pos hx]
    simp only [am_f, h0, am_s, am_cv, am_rt, am_rok, hr, h1, if_true]
  · have h1 : ¬ (x == 0 || x == 1) = true := by simpa using hx
    rw [if_neg hx]
    simp only [am_f, h0, am_s, am_cv, am_rt, am_rok, hr, if_neg h1]
theorem k_cr {x : Int32} (h0 : pm_it mi pc = some .ireturn) (hr : pm_ret mi = some .char) : am_f d scr L call mi (n + 1) pc lv [.int x] h = if vp_nar .char x = x then some (some (.int x), h, 0, 0) else none := by
  by_cases hx : vp_nar .char x = x
  · have h1 : (vp_nar .char x == x) = true := by simpa using hx
    rw [if_pos hx]
    simp only [am_f, h0, am_s, am_cv, am_rt, am_rok, hr, h1, if_true]
  · have h1 : ¬ (vp_nar .char x == x) = true := by simpa using hx
    rw [if_neg hx]
    simp only [am_f, h0, am_s, am_cv, am_rt, am_rok, hr, if_neg h1]
theorem k_jr {x : Int64} (h0 : pm_it mi pc = some .lreturn) (hr : pm_ret mi = some .long) : am_f d scr L call mi (n + 1) pc lv [.long x] h = some (some (.long x), h, 0, 0) := by
  simp only [am_f, h0, am_s, am_cv, am_rt, hr, if_true]
theorem k_vr (h0 : pm_it mi pc = some .return_) (hr : pm_ret mi = none) : am_f d scr L call mi (n + 1) pc lv [] h = some (none, h, 0, 0) := by
  simp only [am_f, h0, am_s, am_cv, am_rt, hr, if_true]
theorem k_new {k ci N : Nat} {fs : List Value} (h0 : pm_it mi pc = some (.new k)) (hc : pm_cls mi k = some ci) (hf : pm_def ci = fs) (hN : fs.length = N) : am_f d scr L call mi (n + 1) pc lv st h = am_add 1 N (am_f d scr L call mi n (pc + 3) lv (.ref (h.length + 1) :: st) (h ++ [.inr (ci, fs)])) := by
  subst hf; subst hN
  simp only [am_f, h0, am_s, hc]
theorem k_na {t : Jvm.ClassFile.ArrayType} {q : am_C} {x : Int32} {N : Nat} (h0 : pm_it mi pc = some (.newarray t)) (hx : ¬ (x < 0 ∨ 65536 < x.toNatClampNeg)) (hN : x.toNatClampNeg = N) (hq : am_arr t N = some q) : am_f d scr L call mi (n + 1) pc lv (.int x :: st) h = am_add 1 N (am_f d scr L call mi n (pc + 2) lv (.ref (h.length + 1) :: st) (h ++ [q])) := by
  subst hN
  simp only [am_f, h0, am_s, am_na, if_neg hx, hq]
theorem k_sw {o : Int} {x : Int32} {i : Jvm.ClassFile.Instr} {t : Nat} (h0 : pm_it mi pc = some i) (hs : am_s d scr L mi pc lv (.int x :: st) h i = am_nx t lv st h) : am_f d scr L call mi (n + 1) pc lv (.int x :: st) h = am_f d scr L call mi n t lv st h := k_nx h0 hs
end KR

