/-! Rows for symbolic runs. -/
theorem am_add_add (a b c e : Nat) (x : Option am_X) : am_add a b (am_add c e x) = am_add (a + c) (b + e) x := by
  cases x with
  | none => rfl
  | some q =>
    obtain ⟨v, h, k, n⟩ := q
    simp [am_add, Nat.add_assoc]
theorem am_add_some (a b k n : Nat) (v : Option Value) (h : am_H) : am_add a b (some (v, h, k, n)) = some (v, h, a + k, b + n) := rfl
theorem am_st1_nil (i : Nat) (v : Value) : am_st1 [] i v = [(i, v)] := rfl
theorem am_st1_cons (k i : Nat) (w v : Value) (t : am_L) : am_st1 ((k, w) :: t) i v = if k < i then (if am_P1 i (k, w) = true then (k, w) :: am_st1 t i v else am_st1 t i v) else (i, v) :: ((k, w) :: t).filter (am_P1 i) := by
  by_cases hk : k < i
  · have hb : Nat.blt k i = true := by simpa using hk
    by_cases hp : am_P1 i (k, w) = true
    · simp only [am_st1, hb, hp, hk, cond_true, if_true]
    · have hp2 : am_P1 i (k, w) = false := by simpa using hp
      simp [am_st1, hb, hp2, hk]
  · have hb : Nat.blt k i = false := by
      cases hx : Nat.blt k i with
      | false => rfl
      | true => exact absurd (by simpa using hx) hk
    simp only [am_st1, hb, hk, cond_false, if_false]
theorem am_st2_nil (i : Nat) (v : Value) : am_st2 [] i v = [(i, v)] := rfl
theorem am_st2_cons (k i : Nat) (w v : Value) (t : am_L) : am_st2 ((k, w) :: t) i v = if k < i then (if am_P2 i (k, w) = true then (k, w) :: am_st2 t i v else am_st2 t i v) else (i, v) :: ((k, w) :: t).filter (am_P2 i) := by
  by_cases hk : k < i
  · have hb : Nat.blt k i = true := by simpa using hk
    by_cases hp : am_P2 i (k, w) = true
    · simp only [am_st2, hb, hp, hk, cond_true, if_true]
    · have hp2 : am_P2 i (k, w) = false := by simpa using hp
      simp [am_st2, hb, hp2, hk]
  · have hb : Nat.blt k i = false := by
      cases hx : Nat.blt k i with
      | false => rfl
      | true => exact absurd (by simpa using hx) hk
    simp only [am_st2, hb, hk, cond_false, if_false]
