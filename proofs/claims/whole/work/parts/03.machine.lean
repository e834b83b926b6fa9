/-! An abstract machine: the classes' bytecode run over a list of cells; and what it says of the machine itself. -/
abbrev am_C : Type := (Nat × vp_A) ⊕ (Nat × List Value)
abbrev am_H : Type := List am_C
abbrev am_L : Type := List (Nat × Value)
abbrev am_X : Type := Option Value × am_H × Nat × Nat
abbrev am_O : Type := Nat × am_L × List Value × am_H × Nat × Nat
/-- the abstract reference 0 is the script; k + 1 is the k-th cell made since the law began -/
def am_a (sb b : Nat) : Nat → Nat
  | 0 => sb
  | k + 1 => b + k
def am_v (sb b : Nat) : Value → Value
  | .ref k => .ref (am_a sb b k)
  | v => v
def am_e (sb b : Nat) (cT : Nat → ClassId) : am_C → va_E
  | .inl x => .inl (cT x.1, x.2)
  | .inr o => .inr (o.1, o.2.map (am_v sb b))
def am_w (sb b : Nat) (cT : Nat → ClassId) : Nat → am_H → va_W
  | _, [] => []
  | i, q :: t => (b + i, am_e sb b cT q) :: am_w sb b cT (i + 1) t
def am_l (sb b : Nat) (lv : am_L) : am_L := lv.map (fun q => (q.1, am_v sb b q.2))
def am_ty (cT : Nat → ClassId) : List (ClassId × FieldType) := [(cT 0, .int), (cT 1, .long), (cT 2, .char)]
def am_R (sb b : Nat) (D : va_G) (cT : Nat → ClassId) (h : am_H) (H : Heap) : Prop := H.size = b + h.length ∧ va_P D pm_cl (am_w sb b cT 0 h) H
theorem am_w_get (sb b : Nat) (cT : Nat → ClassId) : ∀ (h : am_H) (i k : Nat), (am_w sb b cT i h)[k]? = (h[k]?).map (fun q => (b + (i + k), am_e sb b cT q))
  | [], i, k => by simp [am_w]
  | q :: t, i, 0 => by simp [am_w]
  | q :: t, i, k + 1 => by
    simp only [am_w, List.getElem?_cons_succ]
    rw [am_w_get sb b cT t (i + 1) k, show i + 1 + k = i + (k + 1) by omega]
theorem am_w_set (sb b : Nat) (cT : Nat → ClassId) : ∀ (h : am_H) (i k : Nat) (q : am_C), am_w sb b cT i (h.set k q) = (am_w sb b cT i h).set k (b + (i + k), am_e sb b cT q)
  | [], i, k, q => by simp [am_w]
  | x :: t, i, 0, q => by simp [am_w]
  | x :: t, i, k + 1, q => by
    simp only [List.set_cons_succ, am_w]
    rw [am_w_set sb b cT t (i + 1) k q, show i + 1 + k = i + (k + 1) by omega]
theorem am_w_app (sb b : Nat) (cT : Nat → ClassId) : ∀ (h : am_H) (i : Nat) (q : am_C), am_w sb b cT i (h ++ [q]) = am_w sb b cT i h ++ [(b + (i + h.length), am_e sb b cT q)]
  | [], i, q => by simp [am_w]
  | x :: t, i, q => by
    simp only [List.cons_append, am_w, List.length_cons]
    rw [am_w_app sb b cT t (i + 1) q, show i + 1 + t.length = i + (t.length + 1) by omega]
theorem am_w_D (sb b : Nat) (cT : Nat → ClassId) (h : am_H) : va_D (fun q => b ≤ q) (am_w sb b cT 0 h) := by
  refine ⟨fun i j p q hi hj hpq => ?_, fun k q hk => ?_⟩
  · rw [am_w_get] at hi hj
    obtain ⟨x, -, rfl⟩ := Option.map_eq_some_iff.mp hi
    obtain ⟨y, -, rfl⟩ := Option.map_eq_some_iff.mp hj
    simp only at hpq
    omega
  · rw [am_w_get] at hk
    obtain ⟨x, -, rfl⟩ := Option.map_eq_some_iff.mp hk
    show b ≤ b + (0 + k)
    omega
theorem am_cat (sb b : Nat) (v : Value) : (am_v sb b v).category = v.category := by cases v <;> rfl
theorem am_sum (sb b : Nat) (st : List Value) : ((st.map (am_v sb b)).map fun v => v.category).sum = (st.map fun v => v.category).sum := by
  rw [List.map_map]
  refine congrArg (fun f => (st.map f).sum) ?_
  funext v
  exact am_cat sb b v
/-- locals -/
def am_ld (lv : am_L) (i : Nat) : Option Value := (lv.find? (fun q => q.1 == i)).map (fun q => q.2)
def am_P1 (i : Nat) (q : Nat × Value) : Bool := !(q.1 == i) && !(q.1 + 1 == i && q.2.category == 2)
def am_P2 (i : Nat) (q : Nat × Value) : Bool := !(q.1 == i) && (!(q.1 == i + 1) && !(q.1 + 1 == i && q.2.category == 2))
def am_u1 (lv : am_L) (i : Nat) (v : Value) : am_L := (i, v) :: lv.filter (am_P1 i)
def am_u2 (lv : am_L) (i : Nat) (v : Value) : am_L := (i, v) :: lv.filter (am_P2 i)
/-- a store keeps the list in the order of the places -/
def am_st1 : am_L → Nat → Value → am_L
  | [], i, v => [(i, v)]
  | q :: t, i, v => cond (Nat.blt q.1 i) (cond (am_P1 i q) (q :: am_st1 t i v) (am_st1 t i v)) ((i, v) :: (q :: t).filter (am_P1 i))
def am_st2 : am_L → Nat → Value → am_L
  | [], i, v => [(i, v)]
  | q :: t, i, v => cond (Nat.blt q.1 i) (cond (am_P2 i q) (q :: am_st2 t i v) (am_st2 t i v)) ((i, v) :: (q :: t).filter (am_P2 i))
theorem am_st1_sub (i : Nat) (v : Value) : ∀ (lv : am_L) (q : Nat × Value), q ∈ am_st1 lv i v → q ∈ am_u1 lv i v
  | [], q, h => h
  | x :: t, q, h => by
    unfold am_st1 at h
    cases hb : Nat.blt x.1 i with
    | false =>
      rw [hb] at h
      exact h
    | true =>
      rw [hb] at h
      cases hp : am_P1 i x with
      | false =>
        rw [hp] at h
        have h2 := am_st1_sub i v t q h
        unfold am_u1 at h2 ⊢
        rw [List.filter_cons, hp]
        exact h2
      | true =>
        rw [hp] at h
        unfold am_u1
        rw [List.filter_cons, hp]
        rcases List.mem_cons.mp h with rfl | h
        · exact List.mem_cons_of_mem _ List.mem_cons_self
        · rcases List.mem_cons.mp (am_st1_sub i v t q h) with h2 | h2
          · exact List.mem_cons.mpr (Or.inl h2)
          · exact List.mem_cons_of_mem _ (List.mem_cons_of_mem _ h2)
theorem am_st2_sub (i : Nat) (v : Value) : ∀ (lv : am_L) (q : Nat × Value), q ∈ am_st2 lv i v → q ∈ am_u2 lv i v
  | [], q, h => h
  | x :: t, q, h => by
    unfold am_st2 at h
    cases hb : Nat.blt x.1 i with
    | false =>
      rw [hb] at h
      exact h
    | true =>
      rw [hb] at h
      cases hp : am_P2 i x with
      | false =>
        rw [hp] at h
        have h2 := am_st2_sub i v t q h
        unfold am_u2 at h2 ⊢
        rw [List.filter_cons, hp]
        exact h2
      | true =>
        rw [hp] at h
        unfold am_u2
        rw [List.filter_cons, hp]
        rcases List.mem_cons.mp h with rfl | h
        · exact List.mem_cons_of_mem _ List.mem_cons_self
        · rcases List.mem_cons.mp (am_st2_sub i v t q h) with h2 | h2
          · exact List.mem_cons.mpr (Or.inl h2)
          · exact List.mem_cons_of_mem _ (List.mem_cons_of_mem _ h2)
theorem am_has_sub {sb b nL : Nat} {ls : Array Slot} {l1 l2 : am_L} (h : lv_has ls nL (am_l sb b l1)) (hs : ∀ q, q ∈ l2 → q ∈ l1) : lv_has ls nL (am_l sb b l2) := by
  refine ⟨h.1, h.2.1, fun q hq => ?_⟩
  obtain ⟨x, hx, rfl⟩ := List.mem_map.mp hq
  exact h.2.2 _ (List.mem_map.mpr ⟨x, hs x hx, rfl⟩)
theorem am_ld_at {sb b nL i : Nat} {ls : Array Slot} {lv : am_L} {v : Value} (hl : lv_has ls nL (am_l sb b lv)) (h : am_ld lv i = some v) : ls[i]? = some (.val (am_v sb b v)) := by
  obtain ⟨q, hq, rfl⟩ := Option.map_eq_some_iff.mp h
  have hk := List.find?_some hq
  have hi : q.1 = i := by simpa using hk
  have h2 := hl.2.2 (q.1, am_v sb b q.2) (List.mem_map.mpr ⟨q, List.mem_of_find?_eq_some hq, rfl⟩)
  rw [← hi]
  exact h2
theorem am_ld_ix {sb b i : Nat} {lv : am_L} {v : Value} (h : am_ld lv i = some v) : ∃ k : Nat, (am_l sb b lv)[k]? = some (i, am_v sb b v) := by
  obtain ⟨q, hq, rfl⟩ := Option.map_eq_some_iff.mp h
  have hk := List.find?_some hq
  have hi : q.1 = i := by simpa using hk
  have h2 : (q.1, am_v sb b q.2) ∈ am_l sb b lv := List.mem_map.mpr ⟨q, List.mem_of_find?_eq_some hq, rfl⟩
  rw [hi] at h2
  exact List.getElem?_of_mem h2
theorem am_st1_l (sb b : Nat) (lv : am_L) (i : Nat) (v : Value) : (i, am_v sb b v) :: (am_l sb b lv).filter (fun q => !(q.1 == i) && !(q.1 + 1 == i && q.2.category == 2)) = am_l sb b (am_u1 lv i v) := by
  simp only [am_l, am_u1, List.map_cons, List.filter_map]
  refine congrArg (fun z => (i, am_v sb b v) :: List.map (fun q : Nat × Value => (q.1, am_v sb b q.2)) z) (congrArg (fun P => List.filter P lv) ?_)
  funext q
  simp [am_cat, am_P1]
theorem am_st2_l (sb b : Nat) (lv : am_L) (i : Nat) (v : Value) : (i, am_v sb b v) :: (am_l sb b lv).filter (fun q => !(q.1 == i) && (!(q.1 == i + 1) && !(q.1 + 1 == i && q.2.category == 2))) = am_l sb b (am_u2 lv i v) := by
  simp only [am_l, am_u2, List.map_cons, List.filter_map]
  refine congrArg (fun z => (i, am_v sb b v) :: List.map (fun q : Nat × Value => (q.1, am_v sb b q.2)) z) (congrArg (fun P => List.filter P lv) ?_)
  funext q
  simp [am_cat, am_P2]
theorem am_args (sb b : Nat) : ∀ (as : List Value) (i : Nat), lv_args i (as.map (am_v sb b)) = am_l sb b (lv_args i as)
  | [], i => rfl
  | v :: t, i => by
    simp only [List.map_cons, lv_args, am_cat]
    rw [am_args sb b t]
    rfl
theorem am_sl (sb b : Nat) : ∀ (as : List Value), (lg_sl (as.map (am_v sb b))).length = (lg_sl as).length
  | [] => rfl
  | v :: t => by
    have ih := am_sl sb b t
    simp only [lg_sl, List.map_cons, List.flatMap_cons, List.length_append, am_cat] at ih ⊢
    rw [ih]
    by_cases hv : v.category = 2 <;> simp [hv]
/-- one instruction -/
def am_nx (pc : Nat) (lv : am_L) (st : List Value) (h : am_H) : Option am_O := some (pc, lv, st, h, 0, 0)
def am_tg (pc : Nat) (off : Int) : Nat := ((pc : Int) + off).toNat
def am_jp (pc : Nat) (off : Int) (t : Bool) (lv : am_L) (st : List Value) (h : am_H) : Option am_O := if (pc : Int) + off < 0 then none else am_nx (if t = true then am_tg pc off else pc + 3) lv st h
def am_c0 (cnd : Jvm.ClassFile.Cond) (x : Int32) : Bool := match cnd with
  | .eq => decide (x = 0)
  | .ne => decide (¬ x = 0)
  | .lt => decide (x < 0)
  | .ge => decide (0 ≤ x)
  | .gt => decide (0 < x)
  | .le => decide (x ≤ 0)
def am_c2 (cnd : Jvm.ClassFile.Cond) (x y : Int32) : Bool := match cnd with
  | .eq => decide (x = y)
  | .ne => decide (¬ x = y)
  | .lt => decide (x < y)
  | .ge => decide (y ≤ x)
  | .gt => decide (y < x)
  | .le => decide (x ≤ y)
def am_p1 (pc : Nat) (lv : am_L) (h : am_H) (f : Int32 → Value) (st : List Value) : Option am_O := match st with
  | .int x :: r => am_nx pc lv (f x :: r) h
  | _ => none
def am_p2 (pc : Nat) (lv : am_L) (h : am_H) (f : Int32 → Int32 → Int32) (st : List Value) : Option am_O := match st with
  | .int y :: .int x :: r => am_nx pc lv (.int (f x y) :: r) h
  | _ => none
def am_q1 (pc : Nat) (lv : am_L) (h : am_H) (f : Int64 → Value) (st : List Value) : Option am_O := match st with
  | .long x :: r => am_nx pc lv (f x :: r) h
  | _ => none
def am_q2 (pc : Nat) (lv : am_L) (h : am_H) (f : Int64 → Int64 → Value) (st : List Value) : Option am_O := match st with
  | .long y :: .long x :: r => am_nx pc lv (f x y :: r) h
  | _ => none
def am_qi (pc : Nat) (lv : am_L) (h : am_H) (f : Int64 → Int32 → Int64) (st : List Value) : Option am_O := match st with
  | .int y :: .long x :: r => am_nx pc lv (.long (f x y) :: r) h
  | _ => none
def am_dz (pc : Nat) (lv : am_L) (h : am_H) (f : Int32 → Int32 → Int32) (st : List Value) : Option am_O := match st with
  | .int y :: .int x :: r => if y = 0 then none else am_nx pc lv (.int (f x y) :: r) h
  | _ => none
def am_li (pc : Nat) (lv : am_L) (st : List Value) (h : am_H) (o : Option Value) : Option am_O := match o with
  | some (.int x) => am_nx pc lv (.int x :: st) h
  | _ => none
def am_ll (pc : Nat) (lv : am_L) (st : List Value) (h : am_H) (o : Option Value) : Option am_O := match o with
  | some (.long x) => am_nx pc lv (.long x :: st) h
  | _ => none
def am_la (pc : Nat) (lv : am_L) (st : List Value) (h : am_H) (o : Option Value) : Option am_O := match o with
  | some (.ref x) => am_nx pc lv (.ref x :: st) h
  | _ => none
def am_si (pc mi i : Nat) (lv : am_L) (st : List Value) (h : am_H) : Option am_O := match st with
  | .int x :: r => if i < pm_maxL mi then am_nx pc (am_st1 lv i (.int x)) r h else none
  | _ => none
def am_sl2 (pc mi i : Nat) (lv : am_L) (st : List Value) (h : am_H) : Option am_O := match st with
  | .long x :: r => if i + 1 < pm_maxL mi then am_nx pc (am_st2 lv i (.long x)) r h else none
  | _ => none
def am_sa (pc mi i : Nat) (lv : am_L) (st : List Value) (h : am_H) : Option am_O := match st with
  | .ref x :: r => if i < pm_maxL mi then am_nx pc (am_st1 lv i (.ref x)) r h else none
  | _ => none
def am_get (h : am_H) (a ci j : Nat) : Option Value := match a with
  | 0 => none
  | q + 1 => match h[q]? with
    | some (.inr (c, fs)) => if c = ci then fs[j]? else none
    | _ => none
def am_put (h : am_H) (a ci j : Nat) (v : Value) : Option am_H := match a with
  | 0 => none
  | q + 1 => match h[q]? with
    | some (.inr (c, fs)) => if c = ci ∧ j < fs.length then some (h.set q (.inr (c, fs.set j v))) else none
    | _ => none
def am_fit (ty : FieldType) (v : Value) : Bool := match ty, v with
  | .int, .int _ => true
  | .long, .long _ => true
  | .boolean, .int x => x == 0 || x == 1
  | .object _, .ref _ => true
  | .array _, .ref _ => true
  | _, _ => false
def am_ild (scr : Nat → Int32) (L : Nat) (h : am_H) (a : Nat) (i : Int32) : Option Int32 := match a with
  | 0 => if i < 0 ∨ L ≤ i.toNatClampNeg then none else some (scr i.toNatClampNeg)
  | q + 1 => match h[q]? with
    | some (.inl (0, n, .inl f)) => if i < 0 ∨ n ≤ i.toNatClampNeg then none else some (f i.toNatClampNeg)
    | _ => none
def am_cld (h : am_H) (a : Nat) (i : Int32) : Option Int32 := match a with
  | 0 => none
  | q + 1 => match h[q]? with
    | some (.inl (2, n, .inl f)) => if i < 0 ∨ n ≤ i.toNatClampNeg then none else some (f i.toNatClampNeg)
    | _ => none
def am_lld (h : am_H) (a : Nat) (i : Int32) : Option Int64 := match a with
  | 0 => none
  | q + 1 => match h[q]? with
    | some (.inl (1, n, .inr (.inl f))) => if i < 0 ∨ n ≤ i.toNatClampNeg then none else some (f i.toNatClampNeg)
    | _ => none
def am_ist (h : am_H) (a : Nat) (i x : Int32) : Option am_H := match a with
  | 0 => none
  | q + 1 => match h[q]? with
    | some (.inl (0, n, .inl f)) => if i < 0 ∨ n ≤ i.toNatClampNeg then none else some (h.set q (.inl (0, n, .inl (upd f i.toNatClampNeg x))))
    | _ => none
def am_cst (h : am_H) (a : Nat) (i x : Int32) : Option am_H := match a with
  | 0 => none
  | q + 1 => match h[q]? with
    | some (.inl (2, n, .inl f)) => if i < 0 ∨ n ≤ i.toNatClampNeg then none else some (h.set q (.inl (2, n, .inl (upd f i.toNatClampNeg (vp_nar .char x)))))
    | _ => none
def am_lst (h : am_H) (a : Nat) (i : Int32) (x : Int64) : Option am_H := match a with
  | 0 => none
  | q + 1 => match h[q]? with
    | some (.inl (1, n, .inr (.inl f))) => if i < 0 ∨ n ≤ i.toNatClampNeg then none else some (h.set q (.inl (1, n, .inr (.inl (vp_updL f i.toNatClampNeg x)))))
    | _ => none
def am_at (h : am_H) (a ci : Nat) : Bool := match a with
  | 0 => false
  | q + 1 => match h[q]? with
    | some (.inr (c, _)) => c == ci
    | _ => false
def am_arr (t : Jvm.ClassFile.ArrayType) (n : Nat) : Option am_C := match t with
  | .int => some (.inl (0, n, .inl fun _ => 0))
  | .long => some (.inl (1, n, .inr (.inl fun _ => 0)))
  | .char => some (.inl (2, n, .inl fun _ => 0))
  | _ => none
def am_na (pc : Nat) (t : Jvm.ClassFile.ArrayType) (lv : am_L) (st : List Value) (h : am_H) : Option am_O := match st with
  | .int n :: r => if n < 0 ∨ 65536 < n.toNatClampNeg then none else match am_arr t n.toNatClampNeg with
    | some q => some (pc + 2, lv, .ref (h.length + 1) :: r, h ++ [q], 1, n.toNatClampNeg)
    | none => none
  | _ => none
def am_rok (ret : Option FieldType) (v : Int32) : Bool := match ret with
  | some .int => true
  | some .boolean => v == 0 || v == 1
  | some .char => vp_nar .char v == v
  | _ => false
abbrev am_V : Type := Nat × List Value × List Value
def am_i0 (mi k : Nat) (st : List Value) (h : am_H) : Option am_V := match pm_mth mi k with
  | none => none
  | some (kd, mj, n, ci) => if kd = 0 ∧ n ≤ st.length then
      match st.drop n with
      | .ref a :: r => if am_at h a ci = true ∧ (r.map fun v => v.category).sum ≤ 8 then some (mj, .ref a :: (st.take n).reverse, r) else none
      | _ => none
    else none
def am_i1 (mi k : Nat) (st : List Value) : Option am_V := match pm_mth mi k with
  | none => none
  | some (kd, mj, n, _) => if kd = 1 ∧ n ≤ st.length ∧ ((st.drop n).map fun v => v.category).sum ≤ 8 then some (mj, (st.take n).reverse, st.drop n) else none
def am_i2 (mi k : Nat) (st : List Value) : Option am_V := match pm_mth mi k with
  | none => none
  | some (kd, mj, n, _) => if kd = 2 ∧ n ≤ st.length then
      match st.drop n with
      | .ref a :: r => if (r.map fun v => v.category).sum ≤ 8 then some (mj, .ref a :: (st.take n).reverse, r) else none
      | _ => none
    else none
def am_cv (mi : Nat) (st : List Value) (h : am_H) (i : Jvm.ClassFile.Instr) : Option am_V := match i with
  | .invokevirtual k => am_i0 mi k st h
  | .invokestatic k => am_i1 mi k st
  | .invokespecial k => am_i2 mi k st
  | _ => none
def am_rt (mi : Nat) (st : List Value) (i : Jvm.ClassFile.Instr) : Option (Option Value) := match i with
  | .ireturn => match st with
    | [.int v] => if am_rok (pm_ret mi) v = true then some (some (.int v)) else none
    | _ => none
  | .lreturn => match st with
    | [.long v] => if pm_ret mi = some .long then some (some (.long v)) else none
    | _ => none
  | .return_ => match st with
    | [] => if pm_ret mi = none then some none else none
    | _ => none
  | _ => none
def am_oi (d mi k pc : Nat) (lv : am_L) (st : List Value) (h : am_H) : Option am_O := match st with
  | .ref _ :: r => if pm_obj mi k = true ∧ 1 ≤ d ∧ (r.map fun v => v.category).sum ≤ 8 then am_nx (pc + 3) lv r h else none
  | _ => none
/-- the String constant of the class, and charAt of it: the instructions from its load to the call's end as one -/
def am_chr (d : Nat) (scr : Nat → Int32) (L mi pc : Nat) (lv : am_L) (st : List Value) (h : am_H) : Option am_O := if mi = 83 ∧ pc = 43 ∧ 4 ≤ d then match st with
  | [] => match am_ld lv 0 with
    | some (.ref a) => match am_ld lv 3 with
      | some (.int x) => match pm_fld 83 11 with
        | some (ci, j) => match am_get h a ci j with
          | some (.ref r) => match am_ild scr L h r x with
            | some s => if s < 0 ∨ 3 ≤ s.toNatClampNeg then none else am_nx 54 lv [.int (jk_ch s.toNatClampNeg)] h
            | none => none
          | _ => none
        | none => none
      | _ => none
    | _ => none
  | _ => none
  else none
def am_s (d : Nat) (scr : Nat → Int32) (L mi pc : Nat) (lv : am_L) (st : List Value) (h : am_H) (i : Jvm.ClassFile.Instr) : Option am_O := match i with
  | .iconst n => am_nx (pc + 1) lv (.int (Int32.ofInt n) :: st) h
  | .bipush n => am_nx (pc + 2) lv (.int (Int8.ofInt n).toInt32 :: st) h
  | .sipush n => am_nx (pc + 3) lv (.int (Int16.ofInt n).toInt32 :: st) h
  | .lconst n => am_nx (pc + 1) lv (.long (Int64.ofNat n.val) :: st) h
  | .ldc k => match pm_int mi k with
    | some v => am_nx (pc + 2) lv (.int v :: st) h
    | none => am_chr d scr L mi pc lv st h
  | .ldc_w k => match pm_int mi k with
    | some v => am_nx (pc + 3) lv (.int v :: st) h
    | none => none
  | .ldc2_w k => match pm_long mi k with
    | some v => am_nx (pc + 3) lv (.long v :: st) h
    | none => none
  | .iload k => am_li (pc + 2) lv st h (am_ld lv k)
  | .iload_n k => am_li (pc + 1) lv st h (am_ld lv k.val)
  | .lload k => am_ll (pc + 2) lv st h (am_ld lv k)
  | .lload_n k => am_ll (pc + 1) lv st h (am_ld lv k.val)
  | .aload k => am_la (pc + 2) lv st h (am_ld lv k)
  | .aload_n k => am_la (pc + 1) lv st h (am_ld lv k.val)
  | .istore k => am_si (pc + 2) mi k lv st h
  | .istore_n k => am_si (pc + 1) mi k.val lv st h
  | .lstore k => am_sl2 (pc + 2) mi k lv st h
  | .lstore_n k => am_sl2 (pc + 1) mi k.val lv st h
  | .astore k => am_sa (pc + 2) mi k lv st h
  | .astore_n k => am_sa (pc + 1) mi k.val lv st h
  | .iinc k n => match am_ld lv k with
    | some (.int x) => if k < pm_maxL mi then am_nx (pc + 3) (am_st1 lv k (.int (x + Int32.ofInt n))) st h else none
    | _ => none
  | .iadd => am_p2 (pc + 1) lv h (fun x y => x + y) st
  | .isub => am_p2 (pc + 1) lv h (fun x y => x - y) st
  | .imul => am_p2 (pc + 1) lv h (fun x y => x * y) st
  | .iand => am_p2 (pc + 1) lv h (fun x y => x &&& y) st
  | .ior => am_p2 (pc + 1) lv h (fun x y => x ||| y) st
  | .ixor => am_p2 (pc + 1) lv h (fun x y => x ^^^ y) st
  | .ishl => am_p2 (pc + 1) lv h (fun x y => x <<< (y &&& 31)) st
  | .ishr => am_p2 (pc + 1) lv h (fun x y => x >>> (y &&& 31)) st
  | .idiv => am_dz (pc + 1) lv h (fun x y => x / y) st
  | .irem => am_dz (pc + 1) lv h (fun x y => x - x / y * y) st
  | .ladd => am_q2 (pc + 1) lv h (fun x y => .long (x + y)) st
  | .lsub => am_q2 (pc + 1) lv h (fun x y => .long (x - y)) st
  | .land => am_q2 (pc + 1) lv h (fun x y => .long (x &&& y)) st
  | .lor => am_q2 (pc + 1) lv h (fun x y => .long (x ||| y)) st
  | .lxor => am_q2 (pc + 1) lv h (fun x y => .long (x ^^^ y)) st
  | .lcmp => am_q2 (pc + 1) lv h (fun x y => .int (lg_cmp x y)) st
  | .lushr => am_qi (pc + 1) lv h (fun x y => (x.toUInt64 >>> (y.toInt64.toUInt64 &&& Int64.toUInt64 63)).toInt64) st
  | .lshl => am_qi (pc + 1) lv h (fun x y => x <<< (y.toInt64 &&& 63)) st
  | .lshr => am_qi (pc + 1) lv h (fun x y => x >>> (y.toInt64 &&& 63)) st
  | .i2l => am_p1 (pc + 1) lv h (fun x => .long x.toInt64) st
  | .i2c => am_p1 (pc + 1) lv h (fun x => .int (x.toUInt32 % 65536).toInt32) st
  | .ineg => am_p1 (pc + 1) lv h (fun x => .int (-x)) st
  | .l2i => am_q1 (pc + 1) lv h (fun x => .int x.toInt32) st
  | .dup => match st with
    | v :: r => if v.category = 1 then am_nx (pc + 1) lv (v :: v :: r) h else none
    | _ => none
  | .pop => match st with
    | v :: r => if v.category = 1 then am_nx (pc + 1) lv r h else none
    | _ => none
  | .dup_x1 => match st with
    | v :: u :: r => if v.category = 1 ∧ u.category = 1 then am_nx (pc + 1) lv (v :: u :: v :: r) h else none
    | _ => none
  | .dup_x2 => match st with
    | v :: u :: t :: r => if v.category = 1 ∧ u.category = 1 ∧ t.category = 1 then am_nx (pc + 1) lv (v :: u :: t :: v :: r) h else none
    | _ => none
  | .dup2 => match st with
    | v :: u :: r => if v.category = 1 ∧ u.category = 1 then am_nx (pc + 1) lv (v :: u :: v :: u :: r) h else none
    | _ => none
  | .goto o => if (pc : Int) + o < 0 then none else am_nx (am_tg pc o) lv st h
  | .ifCond cnd o => match st with
    | .int x :: r => am_jp pc o (am_c0 cnd x) lv r h
    | _ => none
  | .if_icmp cnd o => match st with
    | .int y :: .int x :: r => am_jp pc o (am_c2 cnd x y) lv r h
    | _ => none
  | .tableswitch dflt lo hi offs => match st with
    | .int x :: r => if x.toInt < lo ∨ hi < x.toInt then (if (pc : Int) + dflt < 0 then none else am_nx (am_tg pc dflt) lv r h) else
        match offs[(x.toInt - lo).toNat]? with
        | some o => if (pc : Int) + o < 0 then none else am_nx (am_tg pc o) lv r h
        | none => none
    | _ => none
  | .lookupswitch dflt ps => match st with
    | .int x :: r => if (ps.toList.zip (ps.toList.drop 1)).all (fun (a, next) => a.1 < next.1) = true then
        (if (pc : Int) + Op.lookupswitch.offset ps.toList dflt x.toInt < 0 then none else am_nx (am_tg pc (Op.lookupswitch.offset ps.toList dflt x.toInt)) lv r h) else none
    | _ => none
  | .getfield k => match st with
    | .ref a :: r => match pm_fld mi k with
      | some (ci, j) => match am_get h a ci j with
        | some v => am_nx (pc + 3) lv (v :: r) h
        | none => none
      | none => none
    | _ => none
  | .putfield k => match st with
    | v :: .ref a :: r => match pm_pfl mi k with
      | some (ci, j, ty) => if am_fit ty v = true then match am_put h a ci j v with
          | some h' => am_nx (pc + 3) lv r h'
          | none => none
        else none
      | none => none
    | _ => none
  | .iaload => match st with
    | .int i :: .ref a :: r => match am_ild scr L h a i with
      | some x => am_nx (pc + 1) lv (.int x :: r) h
      | none => none
    | _ => none
  | .caload => match st with
    | .int i :: .ref a :: r => match am_cld h a i with
      | some x => am_nx (pc + 1) lv (.int x :: r) h
      | none => none
    | _ => none
  | .laload => match st with
    | .int i :: .ref a :: r => match am_lld h a i with
      | some x => am_nx (pc + 1) lv (.long x :: r) h
      | none => none
    | _ => none
  | .iastore => match st with
    | .int x :: .int i :: .ref a :: r => match am_ist h a i x with
      | some h' => am_nx (pc + 1) lv r h'
      | none => none
    | _ => none
  | .castore => match st with
    | .int x :: .int i :: .ref a :: r => match am_cst h a i x with
      | some h' => am_nx (pc + 1) lv r h'
      | none => none
    | _ => none
  | .lastore => match st with
    | .long x :: .int i :: .ref a :: r => match am_lst h a i x with
      | some h' => am_nx (pc + 1) lv r h'
      | none => none
    | _ => none
  | .arraylength => match st with
    | .ref 0 :: r => am_nx (pc + 1) lv (.int (Int32.ofNat L) :: r) h
    | _ => none
  | .new k => match pm_cls mi k with
    | some ci => some (pc + 3, lv, .ref (h.length + 1) :: st, h ++ [.inr (ci, pm_def ci)], 1, (pm_def ci).length)
    | none => none
  | .newarray t => am_na pc t lv st h
  | .invokespecial k => am_oi d mi k pc lv st h
  | _ => none
def am_add (k n : Nat) (x : Option am_X) : Option am_X := match x with
  | some (v, h, k', n') => some (v, h, k + k', n + n')
  | none => none
/-- a frame: n steps at most -/
def am_f (d : Nat) (scr : Nat → Int32) (L : Nat) (call : Nat → List Value → am_H → Option am_X) (mi : Nat) : Nat → Nat → am_L → List Value → am_H → Option am_X
  | 0, _, _, _, _ => none
  | n + 1, pc, lv, st, h => match pm_it mi pc with
    | none => none
    | some i => match am_s d scr L mi pc lv st h i with
      | some (pc', lv', st', h', dk, dn) => am_add dk dn (am_f d scr L call mi n pc' lv' st' h')
      | none => match am_cv mi st h i with
        | some (mj, as, r) => match call mj as h with
          | some (v, h', dk, dn) => am_add dk dn (am_f d scr L call mi n (pc + 3) lv (v.toList ++ r) h')
          | none => none
        | none => match am_rt mi st i with
          | some v => some (v, h, 0, 0)
          | none => none
/-- a method: calls go at most d deep, each frame makes at most F steps -/
def am_r (scr : Nat → Int32) (L F : Nat) : Nat → Nat → List Value → am_H → Option am_X
  | 0, _, _, _ => none
  | d + 1, mi, as, h => if (lg_sl as).length ≤ pm_maxL mi then am_f d scr L (am_r scr L F d) mi F 0 (lv_args 0 as) [] h else none
