/-! Steps of BlameDesk$Reader: a row an instruction, by program. -/
-- 55: BlameDesk$Reader.<init>(LBlameDesk$Program;)V
theorem s_55_0 (d L n : Nat) (scr : Nat → Int32) (call : Nat → List Value → am_H → Option am_X) (lv : am_L) (st : List Value) (h : am_H) : am_f d scr L call 55 (n + 1) 0 lv st h = (match am_ld lv 0 with
    | some (.ref x) => am_f d scr L call 55 n 1 lv (.ref x :: st) h
    | _ => none) := k_la (i := .aload_n 0) rfl rfl rfl rfl
theorem s_55_1 (d L n a : Nat) (scr : Nat → Int32) (call : Nat → List Value → am_H → Option am_X) (lv : am_L) (h : am_H)  : am_f (d + 1) scr L call 55 (n + 1) 1 lv (.ref a :: []) h = am_f (d + 1) scr L call 55 n 4 lv [] h := k_ob (k := 3) rfl rfl (Nat.le_of_ble_eq_true rfl)
theorem s_55_4 (d L n : Nat) (scr : Nat → Int32) (call : Nat → List Value → am_H → Option am_X) (lv : am_L) (st : List Value) (h : am_H) : am_f d scr L call 55 (n + 1) 4 lv st h = (match am_ld lv 0 with
    | some (.ref x) => am_f d scr L call 55 n 5 lv (.ref x :: st) h
    | _ => none) := k_la (i := .aload_n 0) rfl rfl rfl rfl
theorem s_55_5 (d L n : Nat) (scr : Nat → Int32) (call : Nat → List Value → am_H → Option am_X) (lv : am_L) (st : List Value) (h : am_H) : am_f d scr L call 55 (n + 1) 5 lv st h = (match am_ld lv 1 with
    | some (.ref x) => am_f d scr L call 55 n 6 lv (.ref x :: st) h
    | _ => none) := k_la (i := .aload_n 1) rfl rfl rfl rfl
theorem s_55_6 (d L n : Nat) (scr : Nat → Int32) (call : Nat → List Value → am_H → Option am_X) (lv : am_L) (st : List Value) (h : am_H) (x : Nat) (a : Nat) : am_f d scr L call 55 (n + 1) 6 lv (.ref x :: .ref a :: st) h = (match am_put h a 6 0 (.ref x) with
    | some h' => am_f d scr L call 55 n 9 lv st h'
    | none => none) := k_pf (k := 9) rfl rfl rfl
theorem s_55_9 (d L n : Nat) (scr : Nat → Int32) (call : Nat → List Value → am_H → Option am_X) (lv : am_L) (st : List Value) (h : am_H) : am_f d scr L call 55 (n + 1) 9 lv st h = (match am_ld lv 0 with
    | some (.ref x) => am_f d scr L call 55 n 10 lv (.ref x :: st) h
    | _ => none) := k_la (i := .aload_n 0) rfl rfl rfl rfl
theorem s_55_10 (d L n : Nat) (scr : Nat → Int32) (call : Nat → List Value → am_H → Option am_X) (lv : am_L) (st : List Value) (h : am_H) : am_f d scr L call 55 (n + 1) 10 lv st h = am_f d scr L call 55 n 12 lv (.int 100 :: st) h := k_nx (i := .bipush 100) rfl rfl
theorem s_55_14 (d L n : Nat) (scr : Nat → Int32) (call : Nat → List Value → am_H → Option am_X) (lv : am_L) (st : List Value) (h : am_H) (x : Nat) (a : Nat) : am_f d scr L call 55 (n + 1) 14 lv (.ref x :: .ref a :: st) h = (match am_put h a 6 1 (.ref x) with
    | some h' => am_f d scr L call 55 n 17 lv st h'
    | none => none) := k_pf (k := 15) rfl rfl rfl
theorem s_55_17 (d L n : Nat) (scr : Nat → Int32) (call : Nat → List Value → am_H → Option am_X) (lv : am_L) (st : List Value) (h : am_H) : am_f d scr L call 55 (n + 1) 17 lv st h = (match am_ld lv 0 with
    | some (.ref x) => am_f d scr L call 55 n 18 lv (.ref x :: st) h
    | _ => none) := k_la (i := .aload_n 0) rfl rfl rfl rfl
theorem s_55_18 (d L n : Nat) (scr : Nat → Int32) (call : Nat → List Value → am_H → Option am_X) (lv : am_L) (st : List Value) (h : am_H) : am_f d scr L call 55 (n + 1) 18 lv st h = am_f d scr L call 55 n 19 lv (.int 0 :: st) h := k_nx (i := .iconst 0) rfl rfl
theorem s_55_19 (d L n : Nat) (scr : Nat → Int32) (call : Nat → List Value → am_H → Option am_X) (lv : am_L) (st : List Value) (h : am_H) (x : Int32) (a : Nat) : am_f d scr L call 55 (n + 1) 19 lv (.int x :: .ref a :: st) h = (match am_put h a 6 2 (.int x) with
    | some h' => am_f d scr L call 55 n 22 lv st h'
    | none => none) := k_pf (k := 19) rfl rfl rfl
theorem s_55_22 (d L n : Nat) (scr : Nat → Int32) (call : Nat → List Value → am_H → Option am_X) (lv : am_L) (st : List Value) (h : am_H) : am_f d scr L call 55 (n + 1) 22 lv st h = (match am_ld lv 0 with
    | some (.ref x) => am_f d scr L call 55 n 23 lv (.ref x :: st) h
    | _ => none) := k_la (i := .aload_n 0) rfl rfl rfl rfl
theorem s_55_23 (d L n : Nat) (scr : Nat → Int32) (call : Nat → List Value → am_H → Option am_X) (lv : am_L) (st : List Value) (h : am_H) : am_f d scr L call 55 (n + 1) 23 lv st h = am_f d scr L call 55 n 24 lv (.int 0 :: st) h := k_nx (i := .iconst 0) rfl rfl
theorem s_55_24 (d L n : Nat) (scr : Nat → Int32) (call : Nat → List Value → am_H → Option am_X) (lv : am_L) (st : List Value) (h : am_H) (x : Int32) (a : Nat) : am_f d scr L call 55 (n + 1) 24 lv (.int x :: .ref a :: st) h = (match am_put h a 6 3 (.int x) with
    | some h' => am_f d scr L call 55 n 27 lv st h'
    | none => none) := k_pf (k := 23) rfl rfl rfl
theorem s_55_27 (d L n : Nat) (scr : Nat → Int32) (call : Nat → List Value → am_H → Option am_X) (lv : am_L) (h : am_H) : am_f d scr L call 55 (n + 1) 27 lv [] h = some (none, h, 0, 0) := k_vr rfl rfl
-- 56: BlameDesk$Reader.empty()V
theorem s_56_0 (d L n : Nat) (scr : Nat → Int32) (call : Nat → List Value → am_H → Option am_X) (lv : am_L) (st : List Value) (h : am_H) : am_f d scr L call 56 (n + 1) 0 lv st h = (match am_ld lv 0 with
    | some (.ref x) => am_f d scr L call 56 n 1 lv (.ref x :: st) h
    | _ => none) := k_la (i := .aload_n 0) rfl rfl rfl rfl
theorem s_56_1 (d L n : Nat) (scr : Nat → Int32) (call : Nat → List Value → am_H → Option am_X) (lv : am_L) (st : List Value) (h : am_H) : am_f d scr L call 56 (n + 1) 1 lv st h = am_f d scr L call 56 n 2 lv (.int 0 :: st) h := k_nx (i := .iconst 0) rfl rfl
theorem s_56_2 (d L n : Nat) (scr : Nat → Int32) (call : Nat → List Value → am_H → Option am_X) (lv : am_L) (st : List Value) (h : am_H) (x : Int32) (a : Nat) : am_f d scr L call 56 (n + 1) 2 lv (.int x :: .ref a :: st) h = (match am_put h a 6 2 (.int x) with
    | some h' => am_f d scr L call 56 n 5 lv st h'
    | none => none) := k_pf (k := 19) rfl rfl rfl
theorem s_56_5 (d L n : Nat) (scr : Nat → Int32) (call : Nat → List Value → am_H → Option am_X) (lv : am_L) (h : am_H) : am_f d scr L call 56 (n + 1) 5 lv [] h = some (none, h, 0, 0) := k_vr rfl rfl
-- 57: BlameDesk$Reader.append(J)Z
theorem s_57_0 (d L n : Nat) (scr : Nat → Int32) (call : Nat → List Value → am_H → Option am_X) (lv : am_L) (st : List Value) (h : am_H) : am_f d scr L call 57 (n + 1) 0 lv st h = am_f d scr L call 57 n 1 lv (.int 0 :: st) h := k_nx (i := .iconst 0) rfl rfl
theorem s_57_1 (d L n : Nat) (scr : Nat → Int32) (call : Nat → List Value → am_H → Option am_X) (lv : am_L) (st : List Value) (h : am_H) (x : Int32) : am_f d scr L call 57 (n + 1) 1 lv (.int x :: st) h = am_f d scr L call 57 n 2 (am_st1 lv 3 (.int x)) st h := k_nx (i := .istore_n 3) rfl rfl
theorem s_57_2 (d L n : Nat) (scr : Nat → Int32) (call : Nat → List Value → am_H → Option am_X) (lv : am_L) (st : List Value) (h : am_H) : am_f d scr L call 57 (n + 1) 2 lv st h = am_f d scr L call 57 n 4 lv (.int 56 :: st) h := k_nx (i := .bipush 56) rfl rfl
theorem s_57_4 (d L n : Nat) (scr : Nat → Int32) (call : Nat → List Value → am_H → Option am_X) (lv : am_L) (st : List Value) (h : am_H) (x : Int32) : am_f d scr L call 57 (n + 1) 4 lv (.int x :: st) h = am_f d scr L call 57 n 6 (am_st1 lv 4 (.int x)) st h := k_nx (i := .istore 4) rfl rfl
theorem s_57_6 (d L n : Nat) (scr : Nat → Int32) (call : Nat → List Value → am_H → Option am_X) (lv : am_L) (st : List Value) (h : am_H) : am_f d scr L call 57 (n + 1) 6 lv st h = (match am_ld lv 4 with
    | some (.int x) => am_f d scr L call 57 n 8 lv (.int x :: st) h
    | _ => none) := k_li (i := .iload 4) rfl rfl rfl rfl
theorem s_57_8 (d L n : Nat) (scr : Nat → Int32) (call : Nat → List Value → am_H → Option am_X) (lv : am_L) (st : List Value) (h : am_H) (x : Int32) : am_f d scr L call 57 (n + 1) 8 lv (.int x :: st) h = if x < 0 then am_f d scr L call 57 n 57 lv st h else am_f d scr L call 57 n 11 lv st h := k_if_lt (o := 49) rfl ⟨by decide, rfl⟩
theorem s_57_11 (d L n : Nat) (scr : Nat → Int32) (call : Nat → List Value → am_H → Option am_X) (lv : am_L) (st : List Value) (h : am_H) : am_f d scr L call 57 (n + 1) 11 lv st h = (match am_ld lv 1 with
    | some (.long x) => am_f d scr L call 57 n 12 lv (.long x :: st) h
    | _ => none) := k_ll (i := .lload_n 1) rfl rfl rfl rfl
theorem s_57_12 (d L n : Nat) (scr : Nat → Int32) (call : Nat → List Value → am_H → Option am_X) (lv : am_L) (st : List Value) (h : am_H) : am_f d scr L call 57 (n + 1) 12 lv st h = (match am_ld lv 4 with
    | some (.int x) => am_f d scr L call 57 n 14 lv (.int x :: st) h
    | _ => none) := k_li (i := .iload 4) rfl rfl rfl rfl
theorem s_57_14 (d L n : Nat) (scr : Nat → Int32) (call : Nat → List Value → am_H → Option am_X) (lv : am_L) (st : List Value) (h : am_H) (x : Int64) (y : Int32) : am_f d scr L call 57 (n + 1) 14 lv (.int y :: .long x :: st) h = am_f d scr L call 57 n 15 lv (.long ((x.toUInt64 >>> (y.toInt64.toUInt64 &&& Int64.toUInt64 63)).toInt64) :: st) h := k_nx (i := .lushr) rfl rfl
theorem s_57_15 (d L n : Nat) (scr : Nat → Int32) (call : Nat → List Value → am_H → Option am_X) (lv : am_L) (st : List Value) (h : am_H) (x : Int64) : am_f d scr L call 57 (n + 1) 15 lv (.long x :: st) h = am_f d scr L call 57 n 16 lv (.int x.toInt32 :: st) h := k_nx (i := .l2i) rfl rfl
theorem s_57_16 (d L n : Nat) (scr : Nat → Int32) (call : Nat → List Value → am_H → Option am_X) (lv : am_L) (st : List Value) (h : am_H) : am_f d scr L call 57 (n + 1) 16 lv st h = am_f d scr L call 57 n 19 lv (.int 255 :: st) h := k_nx (i := .sipush 255) rfl rfl
theorem s_57_19 (d L n : Nat) (scr : Nat → Int32) (call : Nat → List Value → am_H → Option am_X) (lv : am_L) (st : List Value) (h : am_H) (x y : Int32) : am_f d scr L call 57 (n + 1) 19 lv (.int y :: .int x :: st) h = am_f d scr L call 57 n 20 lv (.int (x &&& y) :: st) h := k_nx (i := .iand) rfl rfl
theorem s_57_20 (d L n : Nat) (scr : Nat → Int32) (call : Nat → List Value → am_H → Option am_X) (lv : am_L) (st : List Value) (h : am_H) (x : Int32) : am_f d scr L call 57 (n + 1) 20 lv (.int x :: st) h = am_f d scr L call 57 n 22 (am_st1 lv 5 (.int x)) st h := k_nx (i := .istore 5) rfl rfl
theorem s_57_22 (d L n : Nat) (scr : Nat → Int32) (call : Nat → List Value → am_H → Option am_X) (lv : am_L) (st : List Value) (h : am_H) : am_f d scr L call 57 (n + 1) 22 lv st h = (match am_ld lv 5 with
    | some (.int x) => am_f d scr L call 57 n 24 lv (.int x :: st) h
    | _ => none) := k_li (i := .iload 5) rfl rfl rfl rfl
theorem s_57_24 (d L n : Nat) (scr : Nat → Int32) (call : Nat → List Value → am_H → Option am_X) (lv : am_L) (st : List Value) (h : am_H) (x : Int32) : am_f d scr L call 57 (n + 1) 24 lv (.int x :: st) h = if x = 0 then am_f d scr L call 57 n 43 lv st h else am_f d scr L call 57 n 27 lv st h := k_if_eq (o := 19) rfl ⟨by decide, rfl⟩
theorem s_57_27 (d L n : Nat) (scr : Nat → Int32) (call : Nat → List Value → am_H → Option am_X) (lv : am_L) (st : List Value) (h : am_H) : am_f d scr L call 57 (n + 1) 27 lv st h = (match am_ld lv 5 with
    | some (.int x) => am_f d scr L call 57 n 29 lv (.int x :: st) h
    | _ => none) := k_li (i := .iload 5) rfl rfl rfl rfl
theorem s_57_29 (d L n : Nat) (scr : Nat → Int32) (call : Nat → List Value → am_H → Option am_X) (lv : am_L) (st : List Value) (h : am_H) : am_f d scr L call 57 (n + 1) 29 lv st h = am_f d scr L call 57 n 31 lv (.int 32 :: st) h := k_nx (i := .bipush 32) rfl rfl
theorem s_57_31 (d L n : Nat) (scr : Nat → Int32) (call : Nat → List Value → am_H → Option am_X) (lv : am_L) (st : List Value) (h : am_H) (x y : Int32) : am_f d scr L call 57 (n + 1) 31 lv (.int y :: .int x :: st) h = if x < y then am_f d scr L call 57 n 41 lv st h else am_f d scr L call 57 n 34 lv st h := k_ic_lt (o := 10) rfl ⟨by decide, rfl⟩
theorem s_57_34 (d L n : Nat) (scr : Nat → Int32) (call : Nat → List Value → am_H → Option am_X) (lv : am_L) (st : List Value) (h : am_H) : am_f d scr L call 57 (n + 1) 34 lv st h = (match am_ld lv 5 with
    | some (.int x) => am_f d scr L call 57 n 36 lv (.int x :: st) h
    | _ => none) := k_li (i := .iload 5) rfl rfl rfl rfl
theorem s_57_36 (d L n : Nat) (scr : Nat → Int32) (call : Nat → List Value → am_H → Option am_X) (lv : am_L) (st : List Value) (h : am_H) : am_f d scr L call 57 (n + 1) 36 lv st h = am_f d scr L call 57 n 38 lv (.int 126 :: st) h := k_nx (i := .bipush 126) rfl rfl
theorem s_57_38 (d L n : Nat) (scr : Nat → Int32) (call : Nat → List Value → am_H → Option am_X) (lv : am_L) (st : List Value) (h : am_H) (x y : Int32) : am_f d scr L call 57 (n + 1) 38 lv (.int y :: .int x :: st) h = if x ≤ y then am_f d scr L call 57 n 43 lv st h else am_f d scr L call 57 n 41 lv st h := k_ic_le (o := 5) rfl ⟨by decide, rfl⟩
theorem s_57_41 (d L n : Nat) (scr : Nat → Int32) (call : Nat → List Value → am_H → Option am_X) (lv : am_L) (st : List Value) (h : am_H) : am_f d scr L call 57 (n + 1) 41 lv st h = am_f d scr L call 57 n 42 lv (.int 0 :: st) h := k_nx (i := .iconst 0) rfl rfl
theorem s_57_42 (d L n : Nat) (scr : Nat → Int32) (call : Nat → List Value → am_H → Option am_X) (lv : am_L) (h : am_H) (x : Int32) : am_f d scr L call 57 (n + 1) 42 lv [.int x] h = if x = 0 ∨ x = 1 then some (some (.int x), h, 0, 0) else none := k_zr rfl rfl
theorem s_57_43 (d L n : Nat) (scr : Nat → Int32) (call : Nat → List Value → am_H → Option am_X) (lv : am_L) (st : List Value) (h : am_H) : am_f d scr L call 57 (n + 1) 43 lv st h = (match am_ld lv 5 with
    | some (.int x) => am_f d scr L call 57 n 45 lv (.int x :: st) h
    | _ => none) := k_li (i := .iload 5) rfl rfl rfl rfl
theorem s_57_45 (d L n : Nat) (scr : Nat → Int32) (call : Nat → List Value → am_H → Option am_X) (lv : am_L) (st : List Value) (h : am_H) (x : Int32) : am_f d scr L call 57 (n + 1) 45 lv (.int x :: st) h = if x = 0 then am_f d scr L call 57 n 51 lv st h else am_f d scr L call 57 n 48 lv st h := k_if_eq (o := 6) rfl ⟨by decide, rfl⟩
theorem s_57_48 (d L n : Nat) (scr : Nat → Int32) (call : Nat → List Value → am_H → Option am_X) (lv : am_L) (st : List Value) (h : am_H) : am_f d scr L call 57 (n + 1) 48 lv st h = (match am_ld lv 3 with
    | some (.int x) => am_f d scr L call 57 n 51 (am_st1 lv 3 (.int (x + 1))) st h
    | _ => none) := k_iinc (k := 3) (c := 1) rfl rfl (Nat.le_of_ble_eq_true rfl)
theorem s_57_51 (d L n : Nat) (scr : Nat → Int32) (call : Nat → List Value → am_H → Option am_X) (lv : am_L) (st : List Value) (h : am_H) : am_f d scr L call 57 (n + 1) 51 lv st h = (match am_ld lv 4 with
    | some (.int x) => am_f d scr L call 57 n 54 (am_st1 lv 4 (.int (x + (-8)))) st h
    | _ => none) := k_iinc (k := 4) (c := (-8)) rfl rfl (Nat.le_of_ble_eq_true rfl)
theorem s_57_54 (d L n : Nat) (scr : Nat → Int32) (call : Nat → List Value → am_H → Option am_X) (lv : am_L) (st : List Value) (h : am_H) : am_f d scr L call 57 (n + 1) 54 lv st h = am_f d scr L call 57 n 6 lv st h := k_nx (i := .goto (-48)) rfl rfl
theorem s_57_57 (d L n : Nat) (scr : Nat → Int32) (call : Nat → List Value → am_H → Option am_X) (lv : am_L) (st : List Value) (h : am_H) : am_f d scr L call 57 (n + 1) 57 lv st h = (match am_ld lv 3 with
    | some (.int x) => am_f d scr L call 57 n 58 lv (.int x :: st) h
    | _ => none) := k_li (i := .iload_n 3) rfl rfl rfl rfl
theorem s_57_58 (d L n : Nat) (scr : Nat → Int32) (call : Nat → List Value → am_H → Option am_X) (lv : am_L) (st : List Value) (h : am_H) : am_f d scr L call 57 (n + 1) 58 lv st h = am_f d scr L call 57 n 60 lv (.int 100 :: st) h := k_nx (i := .bipush 100) rfl rfl
theorem s_57_60 (d L n : Nat) (scr : Nat → Int32) (call : Nat → List Value → am_H → Option am_X) (lv : am_L) (st : List Value) (h : am_H) : am_f d scr L call 57 (n + 1) 60 lv st h = (match am_ld lv 0 with
    | some (.ref x) => am_f d scr L call 57 n 61 lv (.ref x :: st) h
    | _ => none) := k_la (i := .aload_n 0) rfl rfl rfl rfl
theorem s_57_61 (d L n : Nat) (scr : Nat → Int32) (call : Nat → List Value → am_H → Option am_X) (lv : am_L) (st : List Value) (h : am_H) (a : Nat) : am_f d scr L call 57 (n + 1) 61 lv (.ref a :: st) h = (match am_get h a 6 2 with
    | some v => am_f d scr L call 57 n 64 lv (v :: st) h
    | none => none) := k_gf (k := 19) rfl rfl
theorem s_57_64 (d L n : Nat) (scr : Nat → Int32) (call : Nat → List Value → am_H → Option am_X) (lv : am_L) (st : List Value) (h : am_H) (x y : Int32) : am_f d scr L call 57 (n + 1) 64 lv (.int y :: .int x :: st) h = am_f d scr L call 57 n 65 lv (.int (x - y) :: st) h := k_nx (i := .isub) rfl rfl
theorem s_57_65 (d L n : Nat) (scr : Nat → Int32) (call : Nat → List Value → am_H → Option am_X) (lv : am_L) (st : List Value) (h : am_H) (x y : Int32) : am_f d scr L call 57 (n + 1) 65 lv (.int y :: .int x :: st) h = if x ≤ y then am_f d scr L call 57 n 70 lv st h else am_f d scr L call 57 n 68 lv st h := k_ic_le (o := 5) rfl ⟨by decide, rfl⟩
theorem s_57_68 (d L n : Nat) (scr : Nat → Int32) (call : Nat → List Value → am_H → Option am_X) (lv : am_L) (st : List Value) (h : am_H) : am_f d scr L call 57 (n + 1) 68 lv st h = am_f d scr L call 57 n 69 lv (.int 0 :: st) h := k_nx (i := .iconst 0) rfl rfl
theorem s_57_69 (d L n : Nat) (scr : Nat → Int32) (call : Nat → List Value → am_H → Option am_X) (lv : am_L) (h : am_H) (x : Int32) : am_f d scr L call 57 (n + 1) 69 lv [.int x] h = if x = 0 ∨ x = 1 then some (some (.int x), h, 0, 0) else none := k_zr rfl rfl
theorem s_57_70 (d L n : Nat) (scr : Nat → Int32) (call : Nat → List Value → am_H → Option am_X) (lv : am_L) (st : List Value) (h : am_H) : am_f d scr L call 57 (n + 1) 70 lv st h = am_f d scr L call 57 n 72 lv (.int 56 :: st) h := k_nx (i := .bipush 56) rfl rfl
theorem s_57_72 (d L n : Nat) (scr : Nat → Int32) (call : Nat → List Value → am_H → Option am_X) (lv : am_L) (st : List Value) (h : am_H) (x : Int32) : am_f d scr L call 57 (n + 1) 72 lv (.int x :: st) h = am_f d scr L call 57 n 74 (am_st1 lv 4 (.int x)) st h := k_nx (i := .istore 4) rfl rfl
theorem s_57_74 (d L n : Nat) (scr : Nat → Int32) (call : Nat → List Value → am_H → Option am_X) (lv : am_L) (st : List Value) (h : am_H) : am_f d scr L call 57 (n + 1) 74 lv st h = (match am_ld lv 4 with
    | some (.int x) => am_f d scr L call 57 n 76 lv (.int x :: st) h
    | _ => none) := k_li (i := .iload 4) rfl rfl rfl rfl
theorem s_57_76 (d L n : Nat) (scr : Nat → Int32) (call : Nat → List Value → am_H → Option am_X) (lv : am_L) (st : List Value) (h : am_H) (x : Int32) : am_f d scr L call 57 (n + 1) 76 lv (.int x :: st) h = if x < 0 then am_f d scr L call 57 n 123 lv st h else am_f d scr L call 57 n 79 lv st h := k_if_lt (o := 47) rfl ⟨by decide, rfl⟩
theorem s_57_79 (d L n : Nat) (scr : Nat → Int32) (call : Nat → List Value → am_H → Option am_X) (lv : am_L) (st : List Value) (h : am_H) : am_f d scr L call 57 (n + 1) 79 lv st h = (match am_ld lv 1 with
    | some (.long x) => am_f d scr L call 57 n 80 lv (.long x :: st) h
    | _ => none) := k_ll (i := .lload_n 1) rfl rfl rfl rfl
theorem s_57_80 (d L n : Nat) (scr : Nat → Int32) (call : Nat → List Value → am_H → Option am_X) (lv : am_L) (st : List Value) (h : am_H) : am_f d scr L call 57 (n + 1) 80 lv st h = (match am_ld lv 4 with
    | some (.int x) => am_f d scr L call 57 n 82 lv (.int x :: st) h
    | _ => none) := k_li (i := .iload 4) rfl rfl rfl rfl
theorem s_57_82 (d L n : Nat) (scr : Nat → Int32) (call : Nat → List Value → am_H → Option am_X) (lv : am_L) (st : List Value) (h : am_H) (x : Int64) (y : Int32) : am_f d scr L call 57 (n + 1) 82 lv (.int y :: .long x :: st) h = am_f d scr L call 57 n 83 lv (.long ((x.toUInt64 >>> (y.toInt64.toUInt64 &&& Int64.toUInt64 63)).toInt64) :: st) h := k_nx (i := .lushr) rfl rfl
theorem s_57_83 (d L n : Nat) (scr : Nat → Int32) (call : Nat → List Value → am_H → Option am_X) (lv : am_L) (st : List Value) (h : am_H) (x : Int64) : am_f d scr L call 57 (n + 1) 83 lv (.long x :: st) h = am_f d scr L call 57 n 84 lv (.int x.toInt32 :: st) h := k_nx (i := .l2i) rfl rfl
theorem s_57_84 (d L n : Nat) (scr : Nat → Int32) (call : Nat → List Value → am_H → Option am_X) (lv : am_L) (st : List Value) (h : am_H) : am_f d scr L call 57 (n + 1) 84 lv st h = am_f d scr L call 57 n 87 lv (.int 255 :: st) h := k_nx (i := .sipush 255) rfl rfl
theorem s_57_87 (d L n : Nat) (scr : Nat → Int32) (call : Nat → List Value → am_H → Option am_X) (lv : am_L) (st : List Value) (h : am_H) (x y : Int32) : am_f d scr L call 57 (n + 1) 87 lv (.int y :: .int x :: st) h = am_f d scr L call 57 n 88 lv (.int (x &&& y) :: st) h := k_nx (i := .iand) rfl rfl
theorem s_57_88 (d L n : Nat) (scr : Nat → Int32) (call : Nat → List Value → am_H → Option am_X) (lv : am_L) (st : List Value) (h : am_H) (x : Int32) : am_f d scr L call 57 (n + 1) 88 lv (.int x :: st) h = am_f d scr L call 57 n 90 (am_st1 lv 5 (.int x)) st h := k_nx (i := .istore 5) rfl rfl
theorem s_57_90 (d L n : Nat) (scr : Nat → Int32) (call : Nat → List Value → am_H → Option am_X) (lv : am_L) (st : List Value) (h : am_H) : am_f d scr L call 57 (n + 1) 90 lv st h = (match am_ld lv 5 with
    | some (.int x) => am_f d scr L call 57 n 92 lv (.int x :: st) h
    | _ => none) := k_li (i := .iload 5) rfl rfl rfl rfl
theorem s_57_92 (d L n : Nat) (scr : Nat → Int32) (call : Nat → List Value → am_H → Option am_X) (lv : am_L) (st : List Value) (h : am_H) (x : Int32) : am_f d scr L call 57 (n + 1) 92 lv (.int x :: st) h = if x = 0 then am_f d scr L call 57 n 117 lv st h else am_f d scr L call 57 n 95 lv st h := k_if_eq (o := 25) rfl ⟨by decide, rfl⟩
theorem s_57_95 (d L n : Nat) (scr : Nat → Int32) (call : Nat → List Value → am_H → Option am_X) (lv : am_L) (st : List Value) (h : am_H) : am_f d scr L call 57 (n + 1) 95 lv st h = (match am_ld lv 0 with
    | some (.ref x) => am_f d scr L call 57 n 96 lv (.ref x :: st) h
    | _ => none) := k_la (i := .aload_n 0) rfl rfl rfl rfl
theorem s_57_96 (d L n : Nat) (scr : Nat → Int32) (call : Nat → List Value → am_H → Option am_X) (lv : am_L) (st : List Value) (h : am_H) (a : Nat) : am_f d scr L call 57 (n + 1) 96 lv (.ref a :: st) h = (match am_get h a 6 1 with
    | some v => am_f d scr L call 57 n 99 lv (v :: st) h
    | none => none) := k_gf (k := 15) rfl rfl
theorem s_57_99 (d L n : Nat) (scr : Nat → Int32) (call : Nat → List Value → am_H → Option am_X) (lv : am_L) (st : List Value) (h : am_H) : am_f d scr L call 57 (n + 1) 99 lv st h = (match am_ld lv 0 with
    | some (.ref x) => am_f d scr L call 57 n 100 lv (.ref x :: st) h
    | _ => none) := k_la (i := .aload_n 0) rfl rfl rfl rfl
theorem s_57_100 (d L n : Nat) (scr : Nat → Int32) (call : Nat → List Value → am_H → Option am_X) (lv : am_L) (st : List Value) (h : am_H) (a : Nat) : am_f d scr L call 57 (n + 1) 100 lv (.ref a :: st) h = (match am_get h a 6 2 with
    | some v => am_f d scr L call 57 n 103 lv (v :: st) h
    | none => none) := k_gf (k := 19) rfl rfl
theorem s_57_103 (d L n : Nat) (scr : Nat → Int32) (call : Nat → List Value → am_H → Option am_X) (lv : am_L) (st : List Value) (h : am_H) : am_f d scr L call 57 (n + 1) 103 lv st h = (match am_ld lv 5 with
    | some (.int x) => am_f d scr L call 57 n 105 lv (.int x :: st) h
    | _ => none) := k_li (i := .iload 5) rfl rfl rfl rfl
theorem s_57_105 (d L n : Nat) (scr : Nat → Int32) (call : Nat → List Value → am_H → Option am_X) (lv : am_L) (st : List Value) (h : am_H) (x : Int32) : am_f d scr L call 57 (n + 1) 105 lv (.int x :: st) h = am_f d scr L call 57 n 106 lv (.int (x.toUInt32 % 65536).toInt32 :: st) h := k_nx (i := .i2c) rfl rfl
theorem s_57_106 (d L n : Nat) (scr : Nat → Int32) (call : Nat → List Value → am_H → Option am_X) (lv : am_L) (st : List Value) (h : am_H) (a : Nat) (i : Int32) (x : Int32) : am_f d scr L call 57 (n + 1) 106 lv (.int x :: .int i :: .ref a :: st) h = (match am_cst h a i x with
    | some h' => am_f d scr L call 57 n 107 lv st h'
    | none => none) := k_cs rfl
theorem s_57_107 (d L n : Nat) (scr : Nat → Int32) (call : Nat → List Value → am_H → Option am_X) (lv : am_L) (st : List Value) (h : am_H) : am_f d scr L call 57 (n + 1) 107 lv st h = (match am_ld lv 0 with
    | some (.ref x) => am_f d scr L call 57 n 108 lv (.ref x :: st) h
    | _ => none) := k_la (i := .aload_n 0) rfl rfl rfl rfl
theorem s_57_108 (d L n : Nat) (scr : Nat → Int32) (call : Nat → List Value → am_H → Option am_X) (lv : am_L) (st : List Value) (h : am_H) (x : Nat) : am_f d scr L call 57 (n + 1) 108 lv (.ref x :: st) h = am_f d scr L call 57 n 109 lv (.ref x :: .ref x :: st) h := k_nx (i := .dup) rfl rfl
theorem s_57_109 (d L n : Nat) (scr : Nat → Int32) (call : Nat → List Value → am_H → Option am_X) (lv : am_L) (st : List Value) (h : am_H) (a : Nat) : am_f d scr L call 57 (n + 1) 109 lv (.ref a :: st) h = (match am_get h a 6 2 with
    | some v => am_f d scr L call 57 n 112 lv (v :: st) h
    | none => none) := k_gf (k := 19) rfl rfl
theorem s_57_112 (d L n : Nat) (scr : Nat → Int32) (call : Nat → List Value → am_H → Option am_X) (lv : am_L) (st : List Value) (h : am_H) : am_f d scr L call 57 (n + 1) 112 lv st h = am_f d scr L call 57 n 113 lv (.int 1 :: st) h := k_nx (i := .iconst 1) rfl rfl
theorem s_57_113 (d L n : Nat) (scr : Nat → Int32) (call : Nat → List Value → am_H → Option am_X) (lv : am_L) (st : List Value) (h : am_H) (x y : Int32) : am_f d scr L call 57 (n + 1) 113 lv (.int y :: .int x :: st) h = am_f d scr L call 57 n 114 lv (.int (x + y) :: st) h := k_nx (i := .iadd) rfl rfl
theorem s_57_114 (d L n : Nat) (scr : Nat → Int32) (call : Nat → List Value → am_H → Option am_X) (lv : am_L) (st : List Value) (h : am_H) (x : Int32) (a : Nat) : am_f d scr L call 57 (n + 1) 114 lv (.int x :: .ref a :: st) h = (match am_put h a 6 2 (.int x) with
    | some h' => am_f d scr L call 57 n 117 lv st h'
    | none => none) := k_pf (k := 19) rfl rfl rfl
theorem s_57_117 (d L n : Nat) (scr : Nat → Int32) (call : Nat → List Value → am_H → Option am_X) (lv : am_L) (st : List Value) (h : am_H) : am_f d scr L call 57 (n + 1) 117 lv st h = (match am_ld lv 4 with
    | some (.int x) => am_f d scr L call 57 n 120 (am_st1 lv 4 (.int (x + (-8)))) st h
    | _ => none) := k_iinc (k := 4) (c := (-8)) rfl rfl (Nat.le_of_ble_eq_true rfl)
theorem s_57_120 (d L n : Nat) (scr : Nat → Int32) (call : Nat → List Value → am_H → Option am_X) (lv : am_L) (st : List Value) (h : am_H) : am_f d scr L call 57 (n + 1) 120 lv st h = am_f d scr L call 57 n 74 lv st h := k_nx (i := .goto (-46)) rfl rfl
theorem s_57_123 (d L n : Nat) (scr : Nat → Int32) (call : Nat → List Value → am_H → Option am_X) (lv : am_L) (st : List Value) (h : am_H) : am_f d scr L call 57 (n + 1) 123 lv st h = am_f d scr L call 57 n 124 lv (.int 1 :: st) h := k_nx (i := .iconst 1) rfl rfl
theorem s_57_124 (d L n : Nat) (scr : Nat → Int32) (call : Nat → List Value → am_H → Option am_X) (lv : am_L) (h : am_H) (x : Int32) : am_f d scr L call 57 (n + 1) 124 lv [.int x] h = if x = 0 ∨ x = 1 then some (some (.int x), h, 0, 0) else none := k_zr rfl rfl
-- 58: BlameDesk$Reader.readProgram()Z
theorem s_58_0 (d L n : Nat) (scr : Nat → Int32) (call : Nat → List Value → am_H → Option am_X) (lv : am_L) (st : List Value) (h : am_H) : am_f d scr L call 58 (n + 1) 0 lv st h = (match am_ld lv 0 with
    | some (.ref x) => am_f d scr L call 58 n 1 lv (.ref x :: st) h
    | _ => none) := k_la (i := .aload_n 0) rfl rfl rfl rfl
theorem s_58_1 (d L n : Nat) (scr : Nat → Int32) (call : Nat → List Value → am_H → Option am_X) (lv : am_L) (st : List Value) (h : am_H) (a : Nat) : am_f d scr L call 58 (n + 1) 1 lv (.ref a :: st) h = (match am_get h a 6 0 with
    | some v => am_f d scr L call 58 n 4 lv (v :: st) h
    | none => none) := k_gf (k := 9) rfl rfl
theorem s_58_4 (d L n : Nat) (scr : Nat → Int32) (call : Nat → List Value → am_H → Option am_X) (lv : am_L) (h : am_H) (o : Nat)   : am_f d scr L call 58 (n + 1) 4 lv (.ref o :: []) h = if am_at h o 5 = true then (match call 52 [.ref o] h with
    | some (v, h', dk, dn) => am_add dk dn (am_f d scr L call 58 n 7 lv (v.toList ++ []) h')
    | none => none) else none := k_iv0 (k := 26) (as := []) (r := []) rfl rfl rfl rfl (Nat.le_of_ble_eq_true rfl)
theorem s_58_7 (d L n : Nat) (scr : Nat → Int32) (call : Nat → List Value → am_H → Option am_X) (lv : am_L) (st : List Value) (h : am_H) : am_f d scr L call 58 (n + 1) 7 lv st h = (match am_ld lv 0 with
    | some (.ref x) => am_f d scr L call 58 n 8 lv (.ref x :: st) h
    | _ => none) := k_la (i := .aload_n 0) rfl rfl rfl rfl
theorem s_58_8 (d L n : Nat) (scr : Nat → Int32) (call : Nat → List Value → am_H → Option am_X) (lv : am_L) (st : List Value) (h : am_H) : am_f d scr L call 58 (n + 1) 8 lv st h = am_f d scr L call 58 n 9 lv (.int 0 :: st) h := k_nx (i := .iconst 0) rfl rfl
theorem s_58_9 (d L n : Nat) (scr : Nat → Int32) (call : Nat → List Value → am_H → Option am_X) (lv : am_L) (st : List Value) (h : am_H) (x : Int32) (a : Nat) : am_f d scr L call 58 (n + 1) 9 lv (.int x :: .ref a :: st) h = (match am_put h a 6 3 (.int x) with
    | some h' => am_f d scr L call 58 n 12 lv st h'
    | none => none) := k_pf (k := 23) rfl rfl rfl
theorem s_58_12 (d L n : Nat) (scr : Nat → Int32) (call : Nat → List Value → am_H → Option am_X) (lv : am_L) (st : List Value) (h : am_H) : am_f d scr L call 58 (n + 1) 12 lv st h = (match am_ld lv 0 with
    | some (.ref x) => am_f d scr L call 58 n 13 lv (.ref x :: st) h
    | _ => none) := k_la (i := .aload_n 0) rfl rfl rfl rfl
theorem s_58_13 (d L n : Nat) (scr : Nat → Int32) (call : Nat → List Value → am_H → Option am_X) (lv : am_L) (st : List Value) (h : am_H) : am_f d scr L call 58 (n + 1) 13 lv st h = am_f d scr L call 58 n 14 lv (.int (-1) :: st) h := k_nx (i := .iconst (-1)) rfl rfl
theorem s_58_14 (d L n : Nat) (scr : Nat → Int32) (call : Nat → List Value → am_H → Option am_X) (lv : am_L) (st : List Value) (h : am_H) : am_f d scr L call 58 (n + 1) 14 lv st h = am_f d scr L call 58 n 15 lv (.int 1 :: st) h := k_nx (i := .iconst 1) rfl rfl
theorem s_58_15 (d L n : Nat) (scr : Nat → Int32) (call : Nat → List Value → am_H → Option am_X) (lv : am_L) (h : am_H) (o : Nat) (a0 : Int32) (a1 : Int32)  : am_f d scr L call 58 (n + 1) 15 lv (.int a1 :: .int a0 :: .ref o :: []) h = if am_at h o 6 = true then (match call 61 [.ref o, .int a0, .int a1] h with
    | some (v, h', dk, dn) => am_add dk dn (am_f d scr L call 58 n 18 lv (v.toList ++ []) h')
    | none => none) else none := k_iv0 (k := 31) (as := [.int a0, .int a1]) (r := []) rfl rfl rfl rfl (Nat.le_of_ble_eq_true rfl)
theorem s_58_18 (d L n : Nat) (scr : Nat → Int32) (call : Nat → List Value → am_H → Option am_X) (lv : am_L) (st : List Value) (h : am_H) : am_f d scr L call 58 (n + 1) 18 lv st h = am_f d scr L call 58 n 19 lv (.int (-1) :: st) h := k_nx (i := .iconst (-1)) rfl rfl
theorem s_58_19 (d L n : Nat) (scr : Nat → Int32) (call : Nat → List Value → am_H → Option am_X) (lv : am_L) (st : List Value) (h : am_H) (x y : Int32) : am_f d scr L call 58 (n + 1) 19 lv (.int y :: .int x :: st) h = if x = y then am_f d scr L call 58 n 37 lv st h else am_f d scr L call 58 n 22 lv st h := k_ic_eq (o := 18) rfl ⟨by decide, rfl⟩
theorem s_58_22 (d L n : Nat) (scr : Nat → Int32) (call : Nat → List Value → am_H → Option am_X) (lv : am_L) (st : List Value) (h : am_H) : am_f d scr L call 58 (n + 1) 22 lv st h = (match am_ld lv 0 with
    | some (.ref x) => am_f d scr L call 58 n 23 lv (.ref x :: st) h
    | _ => none) := k_la (i := .aload_n 0) rfl rfl rfl rfl
theorem s_58_23 (d L n : Nat) (scr : Nat → Int32) (call : Nat → List Value → am_H → Option am_X) (lv : am_L) (st : List Value) (h : am_H) (a : Nat) : am_f d scr L call 58 (n + 1) 23 lv (.ref a :: st) h = (match am_get h a 6 3 with
    | some v => am_f d scr L call 58 n 26 lv (v :: st) h
    | none => none) := k_gf (k := 23) rfl rfl
theorem s_58_26 (d L n : Nat) (scr : Nat → Int32) (call : Nat → List Value → am_H → Option am_X) (lv : am_L) (st : List Value) (h : am_H) : am_f d scr L call 58 (n + 1) 26 lv st h = (match am_ld lv 0 with
    | some (.ref x) => am_f d scr L call 58 n 27 lv (.ref x :: st) h
    | _ => none) := k_la (i := .aload_n 0) rfl rfl rfl rfl
theorem s_58_27 (d L n : Nat) (scr : Nat → Int32) (call : Nat → List Value → am_H → Option am_X) (lv : am_L) (st : List Value) (h : am_H) (a : Nat) : am_f d scr L call 58 (n + 1) 27 lv (.ref a :: st) h = (match am_get h a 6 2 with
    | some v => am_f d scr L call 58 n 30 lv (v :: st) h
    | none => none) := k_gf (k := 19) rfl rfl
theorem s_58_30 (d L n : Nat) (scr : Nat → Int32) (call : Nat → List Value → am_H → Option am_X) (lv : am_L) (st : List Value) (h : am_H) (x y : Int32) : am_f d scr L call 58 (n + 1) 30 lv (.int y :: .int x :: st) h = if ¬ x = y then am_f d scr L call 58 n 37 lv st h else am_f d scr L call 58 n 33 lv st h := k_ic_ne (o := 7) rfl ⟨by decide, rfl⟩
theorem s_58_33 (d L n : Nat) (scr : Nat → Int32) (call : Nat → List Value → am_H → Option am_X) (lv : am_L) (st : List Value) (h : am_H) : am_f d scr L call 58 (n + 1) 33 lv st h = am_f d scr L call 58 n 34 lv (.int 1 :: st) h := k_nx (i := .iconst 1) rfl rfl
theorem s_58_34 (d L n : Nat) (scr : Nat → Int32) (call : Nat → List Value → am_H → Option am_X) (lv : am_L) (st : List Value) (h : am_H) : am_f d scr L call 58 (n + 1) 34 lv st h = am_f d scr L call 58 n 38 lv st h := k_nx (i := .goto 4) rfl rfl
theorem s_58_37 (d L n : Nat) (scr : Nat → Int32) (call : Nat → List Value → am_H → Option am_X) (lv : am_L) (st : List Value) (h : am_H) : am_f d scr L call 58 (n + 1) 37 lv st h = am_f d scr L call 58 n 38 lv (.int 0 :: st) h := k_nx (i := .iconst 0) rfl rfl
theorem s_58_38 (d L n : Nat) (scr : Nat → Int32) (call : Nat → List Value → am_H → Option am_X) (lv : am_L) (h : am_H) (x : Int32) : am_f d scr L call 58 (n + 1) 38 lv [.int x] h = if x = 0 ∨ x = 1 then some (some (.int x), h, 0, 0) else none := k_zr rfl rfl
-- 59: BlameDesk$Reader.peek()C
theorem s_59_0 (d L n : Nat) (scr : Nat → Int32) (call : Nat → List Value → am_H → Option am_X) (lv : am_L) (st : List Value) (h : am_H) : am_f d scr L call 59 (n + 1) 0 lv st h = (match am_ld lv 0 with
    | some (.ref x) => am_f d scr L call 59 n 1 lv (.ref x :: st) h
    | _ => none) := k_la (i := .aload_n 0) rfl rfl rfl rfl
theorem s_59_1 (d L n : Nat) (scr : Nat → Int32) (call : Nat → List Value → am_H → Option am_X) (lv : am_L) (st : List Value) (h : am_H) (a : Nat) : am_f d scr L call 59 (n + 1) 1 lv (.ref a :: st) h = (match am_get h a 6 3 with
    | some v => am_f d scr L call 59 n 4 lv (v :: st) h
    | none => none) := k_gf (k := 23) rfl rfl
theorem s_59_4 (d L n : Nat) (scr : Nat → Int32) (call : Nat → List Value → am_H → Option am_X) (lv : am_L) (st : List Value) (h : am_H) : am_f d scr L call 59 (n + 1) 4 lv st h = (match am_ld lv 0 with
    | some (.ref x) => am_f d scr L call 59 n 5 lv (.ref x :: st) h
    | _ => none) := k_la (i := .aload_n 0) rfl rfl rfl rfl
theorem s_59_5 (d L n : Nat) (scr : Nat → Int32) (call : Nat → List Value → am_H → Option am_X) (lv : am_L) (st : List Value) (h : am_H) (a : Nat) : am_f d scr L call 59 (n + 1) 5 lv (.ref a :: st) h = (match am_get h a 6 2 with
    | some v => am_f d scr L call 59 n 8 lv (v :: st) h
    | none => none) := k_gf (k := 19) rfl rfl
theorem s_59_8 (d L n : Nat) (scr : Nat → Int32) (call : Nat → List Value → am_H → Option am_X) (lv : am_L) (st : List Value) (h : am_H) (x y : Int32) : am_f d scr L call 59 (n + 1) 8 lv (.int y :: .int x :: st) h = if y ≤ x then am_f d scr L call 59 n 23 lv st h else am_f d scr L call 59 n 11 lv st h := k_ic_ge (o := 15) rfl ⟨by decide, rfl⟩
theorem s_59_11 (d L n : Nat) (scr : Nat → Int32) (call : Nat → List Value → am_H → Option am_X) (lv : am_L) (st : List Value) (h : am_H) : am_f d scr L call 59 (n + 1) 11 lv st h = (match am_ld lv 0 with
    | some (.ref x) => am_f d scr L call 59 n 12 lv (.ref x :: st) h
    | _ => none) := k_la (i := .aload_n 0) rfl rfl rfl rfl
theorem s_59_12 (d L n : Nat) (scr : Nat → Int32) (call : Nat → List Value → am_H → Option am_X) (lv : am_L) (st : List Value) (h : am_H) (a : Nat) : am_f d scr L call 59 (n + 1) 12 lv (.ref a :: st) h = (match am_get h a 6 1 with
    | some v => am_f d scr L call 59 n 15 lv (v :: st) h
    | none => none) := k_gf (k := 15) rfl rfl
theorem s_59_15 (d L n : Nat) (scr : Nat → Int32) (call : Nat → List Value → am_H → Option am_X) (lv : am_L) (st : List Value) (h : am_H) : am_f d scr L call 59 (n + 1) 15 lv st h = (match am_ld lv 0 with
    | some (.ref x) => am_f d scr L call 59 n 16 lv (.ref x :: st) h
    | _ => none) := k_la (i := .aload_n 0) rfl rfl rfl rfl
theorem s_59_16 (d L n : Nat) (scr : Nat → Int32) (call : Nat → List Value → am_H → Option am_X) (lv : am_L) (st : List Value) (h : am_H) (a : Nat) : am_f d scr L call 59 (n + 1) 16 lv (.ref a :: st) h = (match am_get h a 6 3 with
    | some v => am_f d scr L call 59 n 19 lv (v :: st) h
    | none => none) := k_gf (k := 23) rfl rfl
theorem s_59_19 (d L n : Nat) (scr : Nat → Int32) (call : Nat → List Value → am_H → Option am_X) (lv : am_L) (st : List Value) (h : am_H) (a : Nat) (i : Int32) : am_f d scr L call 59 (n + 1) 19 lv (.int i :: .ref a :: st) h = (match am_cld h a i with
    | some x => am_f d scr L call 59 n 20 lv (.int x :: st) h
    | none => none) := k_ca rfl
theorem s_59_20 (d L n : Nat) (scr : Nat → Int32) (call : Nat → List Value → am_H → Option am_X) (lv : am_L) (st : List Value) (h : am_H) : am_f d scr L call 59 (n + 1) 20 lv st h = am_f d scr L call 59 n 24 lv st h := k_nx (i := .goto 4) rfl rfl
theorem s_59_23 (d L n : Nat) (scr : Nat → Int32) (call : Nat → List Value → am_H → Option am_X) (lv : am_L) (st : List Value) (h : am_H) : am_f d scr L call 59 (n + 1) 23 lv st h = am_f d scr L call 59 n 24 lv (.int 0 :: st) h := k_nx (i := .iconst 0) rfl rfl
theorem s_59_24 (d L n : Nat) (scr : Nat → Int32) (call : Nat → List Value → am_H → Option am_X) (lv : am_L) (h : am_H) (x : Int32) : am_f d scr L call 59 (n + 1) 24 lv [.int x] h = if vp_nar .char x = x then some (some (.int x), h, 0, 0) else none := k_cr rfl rfl
-- 60: BlameDesk$Reader.skip(C)Z
theorem s_60_0 (d L n : Nat) (scr : Nat → Int32) (call : Nat → List Value → am_H → Option am_X) (lv : am_L) (st : List Value) (h : am_H) : am_f d scr L call 60 (n + 1) 0 lv st h = (match am_ld lv 0 with
    | some (.ref x) => am_f d scr L call 60 n 1 lv (.ref x :: st) h
    | _ => none) := k_la (i := .aload_n 0) rfl rfl rfl rfl
theorem s_60_1 (d L n : Nat) (scr : Nat → Int32) (call : Nat → List Value → am_H → Option am_X) (lv : am_L) (h : am_H) (o : Nat)   : am_f d scr L call 60 (n + 1) 1 lv (.ref o :: []) h = if am_at h o 6 = true then (match call 59 [.ref o] h with
    | some (v, h', dk, dn) => am_add dk dn (am_f d scr L call 60 n 4 lv (v.toList ++ []) h')
    | none => none) else none := k_iv0 (k := 35) (as := []) (r := []) rfl rfl rfl rfl (Nat.le_of_ble_eq_true rfl)
theorem s_60_4 (d L n : Nat) (scr : Nat → Int32) (call : Nat → List Value → am_H → Option am_X) (lv : am_L) (st : List Value) (h : am_H) : am_f d scr L call 60 (n + 1) 4 lv st h = (match am_ld lv 1 with
    | some (.int x) => am_f d scr L call 60 n 5 lv (.int x :: st) h
    | _ => none) := k_li (i := .iload_n 1) rfl rfl rfl rfl
theorem s_60_5 (d L n : Nat) (scr : Nat → Int32) (call : Nat → List Value → am_H → Option am_X) (lv : am_L) (st : List Value) (h : am_H) (x y : Int32) : am_f d scr L call 60 (n + 1) 5 lv (.int y :: .int x :: st) h = if x = y then am_f d scr L call 60 n 10 lv st h else am_f d scr L call 60 n 8 lv st h := k_ic_eq (o := 5) rfl ⟨by decide, rfl⟩
theorem s_60_8 (d L n : Nat) (scr : Nat → Int32) (call : Nat → List Value → am_H → Option am_X) (lv : am_L) (st : List Value) (h : am_H) : am_f d scr L call 60 (n + 1) 8 lv st h = am_f d scr L call 60 n 9 lv (.int 0 :: st) h := k_nx (i := .iconst 0) rfl rfl
theorem s_60_9 (d L n : Nat) (scr : Nat → Int32) (call : Nat → List Value → am_H → Option am_X) (lv : am_L) (h : am_H) (x : Int32) : am_f d scr L call 60 (n + 1) 9 lv [.int x] h = if x = 0 ∨ x = 1 then some (some (.int x), h, 0, 0) else none := k_zr rfl rfl
theorem s_60_10 (d L n : Nat) (scr : Nat → Int32) (call : Nat → List Value → am_H → Option am_X) (lv : am_L) (st : List Value) (h : am_H) : am_f d scr L call 60 (n + 1) 10 lv st h = (match am_ld lv 0 with
    | some (.ref x) => am_f d scr L call 60 n 11 lv (.ref x :: st) h
    | _ => none) := k_la (i := .aload_n 0) rfl rfl rfl rfl
theorem s_60_11 (d L n : Nat) (scr : Nat → Int32) (call : Nat → List Value → am_H → Option am_X) (lv : am_L) (st : List Value) (h : am_H) (x : Nat) : am_f d scr L call 60 (n + 1) 11 lv (.ref x :: st) h = am_f d scr L call 60 n 12 lv (.ref x :: .ref x :: st) h := k_nx (i := .dup) rfl rfl
theorem s_60_12 (d L n : Nat) (scr : Nat → Int32) (call : Nat → List Value → am_H → Option am_X) (lv : am_L) (st : List Value) (h : am_H) (a : Nat) : am_f d scr L call 60 (n + 1) 12 lv (.ref a :: st) h = (match am_get h a 6 3 with
    | some v => am_f d scr L call 60 n 15 lv (v :: st) h
    | none => none) := k_gf (k := 23) rfl rfl
theorem s_60_15 (d L n : Nat) (scr : Nat → Int32) (call : Nat → List Value → am_H → Option am_X) (lv : am_L) (st : List Value) (h : am_H) : am_f d scr L call 60 (n + 1) 15 lv st h = am_f d scr L call 60 n 16 lv (.int 1 :: st) h := k_nx (i := .iconst 1) rfl rfl
theorem s_60_16 (d L n : Nat) (scr : Nat → Int32) (call : Nat → List Value → am_H → Option am_X) (lv : am_L) (st : List Value) (h : am_H) (x y : Int32) : am_f d scr L call 60 (n + 1) 16 lv (.int y :: .int x :: st) h = am_f d scr L call 60 n 17 lv (.int (x + y) :: st) h := k_nx (i := .iadd) rfl rfl
theorem s_60_17 (d L n : Nat) (scr : Nat → Int32) (call : Nat → List Value → am_H → Option am_X) (lv : am_L) (st : List Value) (h : am_H) (x : Int32) (a : Nat) : am_f d scr L call 60 (n + 1) 17 lv (.int x :: .ref a :: st) h = (match am_put h a 6 3 (.int x) with
    | some h' => am_f d scr L call 60 n 20 lv st h'
    | none => none) := k_pf (k := 23) rfl rfl rfl
theorem s_60_20 (d L n : Nat) (scr : Nat → Int32) (call : Nat → List Value → am_H → Option am_X) (lv : am_L) (st : List Value) (h : am_H) : am_f d scr L call 60 (n + 1) 20 lv st h = am_f d scr L call 60 n 21 lv (.int 1 :: st) h := k_nx (i := .iconst 1) rfl rfl
theorem s_60_21 (d L n : Nat) (scr : Nat → Int32) (call : Nat → List Value → am_H → Option am_X) (lv : am_L) (h : am_H) (x : Int32) : am_f d scr L call 60 (n + 1) 21 lv [.int x] h = if x = 0 ∨ x = 1 then some (some (.int x), h, 0, 0) else none := k_zr rfl rfl
-- 61: BlameDesk$Reader.readExpression(II)I
theorem s_61_0 (d L n : Nat) (scr : Nat → Int32) (call : Nat → List Value → am_H → Option am_X) (lv : am_L) (st : List Value) (h : am_H) : am_f d scr L call 61 (n + 1) 0 lv st h = (match am_ld lv 2 with
    | some (.int x) => am_f d scr L call 61 n 1 lv (.int x :: st) h
    | _ => none) := k_li (i := .iload_n 2) rfl rfl rfl rfl
theorem s_61_1 (d L n : Nat) (scr : Nat → Int32) (call : Nat → List Value → am_H → Option am_X) (lv : am_L) (st : List Value) (h : am_H) : am_f d scr L call 61 (n + 1) 1 lv st h = am_f d scr L call 61 n 3 lv (.int 20 :: st) h := k_nx (i := .bipush 20) rfl rfl
theorem s_61_3 (d L n : Nat) (scr : Nat → Int32) (call : Nat → List Value → am_H → Option am_X) (lv : am_L) (st : List Value) (h : am_H) (x y : Int32) : am_f d scr L call 61 (n + 1) 3 lv (.int y :: .int x :: st) h = if y < x then am_f d scr L call 61 n 17 lv st h else am_f d scr L call 61 n 6 lv st h := k_ic_gt (o := 14) rfl ⟨by decide, rfl⟩
theorem s_61_6 (d L n : Nat) (scr : Nat → Int32) (call : Nat → List Value → am_H → Option am_X) (lv : am_L) (st : List Value) (h : am_H) : am_f d scr L call 61 (n + 1) 6 lv st h = (match am_ld lv 0 with
    | some (.ref x) => am_f d scr L call 61 n 7 lv (.ref x :: st) h
    | _ => none) := k_la (i := .aload_n 0) rfl rfl rfl rfl
theorem s_61_7 (d L n : Nat) (scr : Nat → Int32) (call : Nat → List Value → am_H → Option am_X) (lv : am_L) (st : List Value) (h : am_H) (a : Nat) : am_f d scr L call 61 (n + 1) 7 lv (.ref a :: st) h = (match am_get h a 6 3 with
    | some v => am_f d scr L call 61 n 10 lv (v :: st) h
    | none => none) := k_gf (k := 23) rfl rfl
theorem s_61_10 (d L n : Nat) (scr : Nat → Int32) (call : Nat → List Value → am_H → Option am_X) (lv : am_L) (st : List Value) (h : am_H) : am_f d scr L call 61 (n + 1) 10 lv st h = (match am_ld lv 0 with
    | some (.ref x) => am_f d scr L call 61 n 11 lv (.ref x :: st) h
    | _ => none) := k_la (i := .aload_n 0) rfl rfl rfl rfl
theorem s_61_11 (d L n : Nat) (scr : Nat → Int32) (call : Nat → List Value → am_H → Option am_X) (lv : am_L) (st : List Value) (h : am_H) (a : Nat) : am_f d scr L call 61 (n + 1) 11 lv (.ref a :: st) h = (match am_get h a 6 2 with
    | some v => am_f d scr L call 61 n 14 lv (v :: st) h
    | none => none) := k_gf (k := 19) rfl rfl
theorem s_61_14 (d L n : Nat) (scr : Nat → Int32) (call : Nat → List Value → am_H → Option am_X) (lv : am_L) (st : List Value) (h : am_H) (x y : Int32) : am_f d scr L call 61 (n + 1) 14 lv (.int y :: .int x :: st) h = if x < y then am_f d scr L call 61 n 19 lv st h else am_f d scr L call 61 n 17 lv st h := k_ic_lt (o := 5) rfl ⟨by decide, rfl⟩
theorem s_61_17 (d L n : Nat) (scr : Nat → Int32) (call : Nat → List Value → am_H → Option am_X) (lv : am_L) (st : List Value) (h : am_H) : am_f d scr L call 61 (n + 1) 17 lv st h = am_f d scr L call 61 n 18 lv (.int (-1) :: st) h := k_nx (i := .iconst (-1)) rfl rfl
theorem s_61_18 (d L n : Nat) (scr : Nat → Int32) (call : Nat → List Value → am_H → Option am_X) (lv : am_L) (h : am_H) (x : Int32) : am_f d scr L call 61 (n + 1) 18 lv [.int x] h = some (some (.int x), h, 0, 0) := k_ir rfl rfl
theorem s_61_19 (d L n : Nat) (scr : Nat → Int32) (call : Nat → List Value → am_H → Option am_X) (lv : am_L) (st : List Value) (h : am_H) : am_f d scr L call 61 (n + 1) 19 lv st h = (match am_ld lv 0 with
    | some (.ref x) => am_f d scr L call 61 n 20 lv (.ref x :: st) h
    | _ => none) := k_la (i := .aload_n 0) rfl rfl rfl rfl
theorem s_61_20 (d L n : Nat) (scr : Nat → Int32) (call : Nat → List Value → am_H → Option am_X) (lv : am_L) (st : List Value) (h : am_H) (a : Nat) : am_f d scr L call 61 (n + 1) 20 lv (.ref a :: st) h = (match am_get h a 6 3 with
    | some v => am_f d scr L call 61 n 23 lv (v :: st) h
    | none => none) := k_gf (k := 23) rfl rfl
theorem s_61_23 (d L n : Nat) (scr : Nat → Int32) (call : Nat → List Value → am_H → Option am_X) (lv : am_L) (st : List Value) (h : am_H) (x : Int32) : am_f d scr L call 61 (n + 1) 23 lv (.int x :: st) h = am_f d scr L call 61 n 24 (am_st1 lv 3 (.int x)) st h := k_nx (i := .istore_n 3) rfl rfl
theorem s_61_24 (d L n : Nat) (scr : Nat → Int32) (call : Nat → List Value → am_H → Option am_X) (lv : am_L) (st : List Value) (h : am_H) : am_f d scr L call 61 (n + 1) 24 lv st h = (match am_ld lv 0 with
    | some (.ref x) => am_f d scr L call 61 n 25 lv (.ref x :: st) h
    | _ => none) := k_la (i := .aload_n 0) rfl rfl rfl rfl
theorem s_61_25 (d L n : Nat) (scr : Nat → Int32) (call : Nat → List Value → am_H → Option am_X) (lv : am_L) (st : List Value) (h : am_H) (x : Nat) : am_f d scr L call 61 (n + 1) 25 lv (.ref x :: st) h = am_f d scr L call 61 n 26 lv (.ref x :: .ref x :: st) h := k_nx (i := .dup) rfl rfl
theorem s_61_26 (d L n : Nat) (scr : Nat → Int32) (call : Nat → List Value → am_H → Option am_X) (lv : am_L) (st : List Value) (h : am_H) (a : Nat) : am_f d scr L call 61 (n + 1) 26 lv (.ref a :: st) h = (match am_get h a 6 3 with
    | some v => am_f d scr L call 61 n 29 lv (v :: st) h
    | none => none) := k_gf (k := 23) rfl rfl
theorem s_61_29 (d L n : Nat) (scr : Nat → Int32) (call : Nat → List Value → am_H → Option am_X) (lv : am_L) (st : List Value) (h : am_H) : am_f d scr L call 61 (n + 1) 29 lv st h = am_f d scr L call 61 n 30 lv (.int 1 :: st) h := k_nx (i := .iconst 1) rfl rfl
theorem s_61_30 (d L n : Nat) (scr : Nat → Int32) (call : Nat → List Value → am_H → Option am_X) (lv : am_L) (st : List Value) (h : am_H) (x y : Int32) : am_f d scr L call 61 (n + 1) 30 lv (.int y :: .int x :: st) h = am_f d scr L call 61 n 31 lv (.int (x + y) :: st) h := k_nx (i := .iadd) rfl rfl
theorem s_61_31 (d L n : Nat) (scr : Nat → Int32) (call : Nat → List Value → am_H → Option am_X) (lv : am_L) (st : List Value) (h : am_H) (x : Int32) (a : Nat) : am_f d scr L call 61 (n + 1) 31 lv (.int x :: .ref a :: st) h = (match am_put h a 6 3 (.int x) with
    | some h' => am_f d scr L call 61 n 34 lv st h'
    | none => none) := k_pf (k := 23) rfl rfl rfl
theorem s_61_34 (d L n : Nat) (scr : Nat → Int32) (call : Nat → List Value → am_H → Option am_X) (lv : am_L) (st : List Value) (h : am_H) : am_f d scr L call 61 (n + 1) 34 lv st h = (match am_ld lv 0 with
    | some (.ref x) => am_f d scr L call 61 n 35 lv (.ref x :: st) h
    | _ => none) := k_la (i := .aload_n 0) rfl rfl rfl rfl
theorem s_61_35 (d L n : Nat) (scr : Nat → Int32) (call : Nat → List Value → am_H → Option am_X) (lv : am_L) (st : List Value) (h : am_H) (a : Nat) : am_f d scr L call 61 (n + 1) 35 lv (.ref a :: st) h = (match am_get h a 6 0 with
    | some v => am_f d scr L call 61 n 38 lv (v :: st) h
    | none => none) := k_gf (k := 9) rfl rfl
theorem s_61_38 (d L n : Nat) (scr : Nat → Int32) (call : Nat → List Value → am_H → Option am_X) (lv : am_L) (st : List Value) (h : am_H) : am_f d scr L call 61 (n + 1) 38 lv st h = (match am_ld lv 3 with
    | some (.int x) => am_f d scr L call 61 n 39 lv (.int x :: st) h
    | _ => none) := k_li (i := .iload_n 3) rfl rfl rfl rfl
theorem s_61_39 (d L n : Nat) (scr : Nat → Int32) (call : Nat → List Value → am_H → Option am_X) (lv : am_L) (st : List Value) (h : am_H) : am_f d scr L call 61 (n + 1) 39 lv st h = (match am_ld lv 1 with
    | some (.int x) => am_f d scr L call 61 n 40 lv (.int x :: st) h
    | _ => none) := k_li (i := .iload_n 1) rfl rfl rfl rfl
theorem s_61_40 (d L n : Nat) (scr : Nat → Int32) (call : Nat → List Value → am_H → Option am_X) (lv : am_L) (h : am_H) (o : Nat) (a0 : Int32) (a1 : Int32)  : am_f d scr L call 61 (n + 1) 40 lv (.int a1 :: .int a0 :: .ref o :: []) h = if am_at h o 5 = true then (match call 53 [.ref o, .int a0, .int a1] h with
    | some (v, h', dk, dn) => am_add dk dn (am_f d scr L call 61 n 43 lv (v.toList ++ []) h')
    | none => none) else none := k_iv0 (k := 39) (as := [.int a0, .int a1]) (r := []) rfl rfl rfl rfl (Nat.le_of_ble_eq_true rfl)
theorem s_61_43 (d L n : Nat) (scr : Nat → Int32) (call : Nat → List Value → am_H → Option am_X) (lv : am_L) (st : List Value) (h : am_H) : am_f d scr L call 61 (n + 1) 43 lv st h = (match am_ld lv 0 with
    | some (.ref x) => am_f d scr L call 61 n 44 lv (.ref x :: st) h
    | _ => none) := k_la (i := .aload_n 0) rfl rfl rfl rfl
theorem s_61_44 (d L n : Nat) (scr : Nat → Int32) (call : Nat → List Value → am_H → Option am_X) (lv : am_L) (st : List Value) (h : am_H) (a : Nat) : am_f d scr L call 61 (n + 1) 44 lv (.ref a :: st) h = (match am_get h a 6 1 with
    | some v => am_f d scr L call 61 n 47 lv (v :: st) h
    | none => none) := k_gf (k := 15) rfl rfl
theorem s_61_47 (d L n : Nat) (scr : Nat → Int32) (call : Nat → List Value → am_H → Option am_X) (lv : am_L) (st : List Value) (h : am_H) : am_f d scr L call 61 (n + 1) 47 lv st h = (match am_ld lv 3 with
    | some (.int x) => am_f d scr L call 61 n 48 lv (.int x :: st) h
    | _ => none) := k_li (i := .iload_n 3) rfl rfl rfl rfl
theorem s_61_48 (d L n : Nat) (scr : Nat → Int32) (call : Nat → List Value → am_H → Option am_X) (lv : am_L) (st : List Value) (h : am_H) (a : Nat) (i : Int32) : am_f d scr L call 61 (n + 1) 48 lv (.int i :: .ref a :: st) h = (match am_cld h a i with
    | some x => am_f d scr L call 61 n 49 lv (.int x :: st) h
    | none => none) := k_ca rfl
set_option maxRecDepth 100000 in
theorem s_61_49 (d L n : Nat) (scr : Nat → Int32) (call : Nat → List Value → am_H → Option am_X) (lv : am_L) (st : List Value) (h : am_H) (x : Int32) : am_f d scr L call 61 (n + 1) 49 lv (.int x :: st) h = if x = 33 then am_f d scr L call 61 n 192 lv st h else if x = 36 then am_f d scr L call 61 n 205 lv st h else if x = 40 then am_f d scr L call 61 n 135 lv st h else if x = 60 then am_f d scr L call 61 n 168 lv st h else if x = 64 then am_f d scr L call 61 n 179 lv st h else if x = 91 then am_f d scr L call 61 n 157 lv st h else if x = 92 then am_f d scr L call 61 n 124 lv st h else if x = 123 then am_f d scr L call 61 n 146 lv st h else am_f d scr L call 61 n 218 lv st h := by
  by_cases h33 : x = 33
  · subst h33
    exact k_nx (i := .lookupswitch 169 #[(33, 143), (36, 156), (40, 86), (60, 119), (64, 130), (91, 108), (92, 75), (123, 97)]) rfl rfl
  by_cases h36 : x = 36
  · subst h36
    exact k_nx (i := .lookupswitch 169 #[(33, 143), (36, 156), (40, 86), (60, 119), (64, 130), (91, 108), (92, 75), (123, 97)]) rfl rfl
  by_cases h40 : x = 40
  · subst h40
    exact k_nx (i := .lookupswitch 169 #[(33, 143), (36, 156), (40, 86), (60, 119), (64, 130), (91, 108), (92, 75), (123, 97)]) rfl rfl
  by_cases h60 : x = 60
  · subst h60
    exact k_nx (i := .lookupswitch 169 #[(33, 143), (36, 156), (40, 86), (60, 119), (64, 130), (91, 108), (92, 75), (123, 97)]) rfl rfl
  by_cases h64 : x = 64
  · subst h64
    exact k_nx (i := .lookupswitch 169 #[(33, 143), (36, 156), (40, 86), (60, 119), (64, 130), (91, 108), (92, 75), (123, 97)]) rfl rfl
  by_cases h91 : x = 91
  · subst h91
    exact k_nx (i := .lookupswitch 169 #[(33, 143), (36, 156), (40, 86), (60, 119), (64, 130), (91, 108), (92, 75), (123, 97)]) rfl rfl
  by_cases h92 : x = 92
  · subst h92
    exact k_nx (i := .lookupswitch 169 #[(33, 143), (36, 156), (40, 86), (60, 119), (64, 130), (91, 108), (92, 75), (123, 97)]) rfl rfl
  by_cases h123 : x = 123
  · subst h123
    exact k_nx (i := .lookupswitch 169 #[(33, 143), (36, 156), (40, 86), (60, 119), (64, 130), (91, 108), (92, 75), (123, 97)]) rfl rfl
  rw [if_neg h33, if_neg h36, if_neg h40, if_neg h60, if_neg h64, if_neg h91, if_neg h92, if_neg h123]
  have ho : Op.lookupswitch.offset #[(33, 143), (36, 156), (40, 86), (60, 119), (64, 130), (91, 108), (92, 75), (123, 97)].toList 169 x.toInt = 169 := by
    have hh : ∀ k : Int32, ¬ x = k → ¬ x.toInt = k.toInt := fun k hk z => hk (Int32.toInt_inj.mp z)
    have g33 : ¬ (33 : Int) = x.toInt := fun z => hh 33 h33 z.symm
    have g36 : ¬ (36 : Int) = x.toInt := fun z => hh 36 h36 z.symm
    have g40 : ¬ (40 : Int) = x.toInt := fun z => hh 40 h40 z.symm
    have g60 : ¬ (60 : Int) = x.toInt := fun z => hh 60 h60 z.symm
    have g64 : ¬ (64 : Int) = x.toInt := fun z => hh 64 h64 z.symm
    have g91 : ¬ (91 : Int) = x.toInt := fun z => hh 91 h91 z.symm
    have g92 : ¬ (92 : Int) = x.toInt := fun z => hh 92 h92 z.symm
    have g123 : ¬ (123 : Int) = x.toInt := fun z => hh 123 h123 z.symm
    simp only [Op.lookupswitch.offset, if_neg g33, if_neg g36, if_neg g40, if_neg g60, if_neg g64, if_neg g91, if_neg g92, if_neg g123]
  refine k_nx (i := .lookupswitch 169 #[(33, 143), (36, 156), (40, 86), (60, 119), (64, 130), (91, 108), (92, 75), (123, 97)]) rfl ?_
  simp only [am_s, ho]
  rfl
theorem s_61_124 (d L n : Nat) (scr : Nat → Int32) (call : Nat → List Value → am_H → Option am_X) (lv : am_L) (st : List Value) (h : am_H) : am_f d scr L call 61 (n + 1) 124 lv st h = (match am_ld lv 0 with
    | some (.ref x) => am_f d scr L call 61 n 125 lv (.ref x :: st) h
    | _ => none) := k_la (i := .aload_n 0) rfl rfl rfl rfl
theorem s_61_125 (d L n : Nat) (scr : Nat → Int32) (call : Nat → List Value → am_H → Option am_X) (lv : am_L) (st : List Value) (h : am_H) : am_f d scr L call 61 (n + 1) 125 lv st h = (match am_ld lv 3 with
    | some (.int x) => am_f d scr L call 61 n 126 lv (.int x :: st) h
    | _ => none) := k_li (i := .iload_n 3) rfl rfl rfl rfl
theorem s_61_126 (d L n : Nat) (scr : Nat → Int32) (call : Nat → List Value → am_H → Option am_X) (lv : am_L) (st : List Value) (h : am_H) : am_f d scr L call 61 (n + 1) 126 lv st h = (match am_ld lv 2 with
    | some (.int x) => am_f d scr L call 61 n 127 lv (.int x :: st) h
    | _ => none) := k_li (i := .iload_n 2) rfl rfl rfl rfl
theorem s_61_127 (d L n : Nat) (scr : Nat → Int32) (call : Nat → List Value → am_H → Option am_X) (lv : am_L) (h : am_H) (o : Nat) (a0 : Int32) (a1 : Int32)  : am_f d scr L call 61 (n + 1) 127 lv (.int a1 :: .int a0 :: .ref o :: []) h = if am_at h o 6 = true then (match call 65 [.ref o, .int a0, .int a1] h with
    | some (v, h', dk, dn) => am_add dk dn (am_f d scr L call 61 n 130 lv (v.toList ++ []) h')
    | none => none) else none := k_iv0 (k := 43) (as := [.int a0, .int a1]) (r := []) rfl rfl rfl rfl (Nat.le_of_ble_eq_true rfl)
theorem s_61_130 (d L n : Nat) (scr : Nat → Int32) (call : Nat → List Value → am_H → Option am_X) (lv : am_L) (st : List Value) (h : am_H) (x : Int32) : am_f d scr L call 61 (n + 1) 130 lv (.int x :: st) h = am_f d scr L call 61 n 132 (am_st1 lv 4 (.int x)) st h := k_nx (i := .istore 4) rfl rfl
theorem s_61_132 (d L n : Nat) (scr : Nat → Int32) (call : Nat → List Value → am_H → Option am_X) (lv : am_L) (st : List Value) (h : am_H) : am_f d scr L call 61 (n + 1) 132 lv st h = am_f d scr L call 61 n 231 lv st h := k_nx (i := .goto 99) rfl rfl
theorem s_61_135 (d L n : Nat) (scr : Nat → Int32) (call : Nat → List Value → am_H → Option am_X) (lv : am_L) (st : List Value) (h : am_H) : am_f d scr L call 61 (n + 1) 135 lv st h = (match am_ld lv 0 with
    | some (.ref x) => am_f d scr L call 61 n 136 lv (.ref x :: st) h
    | _ => none) := k_la (i := .aload_n 0) rfl rfl rfl rfl
theorem s_61_136 (d L n : Nat) (scr : Nat → Int32) (call : Nat → List Value → am_H → Option am_X) (lv : am_L) (st : List Value) (h : am_H) : am_f d scr L call 61 (n + 1) 136 lv st h = (match am_ld lv 3 with
    | some (.int x) => am_f d scr L call 61 n 137 lv (.int x :: st) h
    | _ => none) := k_li (i := .iload_n 3) rfl rfl rfl rfl
theorem s_61_137 (d L n : Nat) (scr : Nat → Int32) (call : Nat → List Value → am_H → Option am_X) (lv : am_L) (st : List Value) (h : am_H) : am_f d scr L call 61 (n + 1) 137 lv st h = (match am_ld lv 2 with
    | some (.int x) => am_f d scr L call 61 n 138 lv (.int x :: st) h
    | _ => none) := k_li (i := .iload_n 2) rfl rfl rfl rfl
theorem s_61_138 (d L n : Nat) (scr : Nat → Int32) (call : Nat → List Value → am_H → Option am_X) (lv : am_L) (h : am_H) (o : Nat) (a0 : Int32) (a1 : Int32)  : am_f d scr L call 61 (n + 1) 138 lv (.int a1 :: .int a0 :: .ref o :: []) h = if am_at h o 6 = true then (match call 66 [.ref o, .int a0, .int a1] h with
    | some (v, h', dk, dn) => am_add dk dn (am_f d scr L call 61 n 141 lv (v.toList ++ []) h')
    | none => none) else none := k_iv0 (k := 47) (as := [.int a0, .int a1]) (r := []) rfl rfl rfl rfl (Nat.le_of_ble_eq_true rfl)
theorem s_61_141 (d L n : Nat) (scr : Nat → Int32) (call : Nat → List Value → am_H → Option am_X) (lv : am_L) (st : List Value) (h : am_H) (x : Int32) : am_f d scr L call 61 (n + 1) 141 lv (.int x :: st) h = am_f d scr L call 61 n 143 (am_st1 lv 4 (.int x)) st h := k_nx (i := .istore 4) rfl rfl
theorem s_61_143 (d L n : Nat) (scr : Nat → Int32) (call : Nat → List Value → am_H → Option am_X) (lv : am_L) (st : List Value) (h : am_H) : am_f d scr L call 61 (n + 1) 143 lv st h = am_f d scr L call 61 n 231 lv st h := k_nx (i := .goto 88) rfl rfl
theorem s_61_146 (d L n : Nat) (scr : Nat → Int32) (call : Nat → List Value → am_H → Option am_X) (lv : am_L) (st : List Value) (h : am_H) : am_f d scr L call 61 (n + 1) 146 lv st h = (match am_ld lv 0 with
    | some (.ref x) => am_f d scr L call 61 n 147 lv (.ref x :: st) h
    | _ => none) := k_la (i := .aload_n 0) rfl rfl rfl rfl
theorem s_61_147 (d L n : Nat) (scr : Nat → Int32) (call : Nat → List Value → am_H → Option am_X) (lv : am_L) (st : List Value) (h : am_H) : am_f d scr L call 61 (n + 1) 147 lv st h = (match am_ld lv 3 with
    | some (.int x) => am_f d scr L call 61 n 148 lv (.int x :: st) h
    | _ => none) := k_li (i := .iload_n 3) rfl rfl rfl rfl
theorem s_61_148 (d L n : Nat) (scr : Nat → Int32) (call : Nat → List Value → am_H → Option am_X) (lv : am_L) (st : List Value) (h : am_H) : am_f d scr L call 61 (n + 1) 148 lv st h = (match am_ld lv 2 with
    | some (.int x) => am_f d scr L call 61 n 149 lv (.int x :: st) h
    | _ => none) := k_li (i := .iload_n 2) rfl rfl rfl rfl
theorem s_61_149 (d L n : Nat) (scr : Nat → Int32) (call : Nat → List Value → am_H → Option am_X) (lv : am_L) (h : am_H) (o : Nat) (a0 : Int32) (a1 : Int32)  : am_f d scr L call 61 (n + 1) 149 lv (.int a1 :: .int a0 :: .ref o :: []) h = if am_at h o 6 = true then (match call 67 [.ref o, .int a0, .int a1] h with
    | some (v, h', dk, dn) => am_add dk dn (am_f d scr L call 61 n 152 lv (v.toList ++ []) h')
    | none => none) else none := k_iv0 (k := 50) (as := [.int a0, .int a1]) (r := []) rfl rfl rfl rfl (Nat.le_of_ble_eq_true rfl)
theorem s_61_152 (d L n : Nat) (scr : Nat → Int32) (call : Nat → List Value → am_H → Option am_X) (lv : am_L) (st : List Value) (h : am_H) (x : Int32) : am_f d scr L call 61 (n + 1) 152 lv (.int x :: st) h = am_f d scr L call 61 n 154 (am_st1 lv 4 (.int x)) st h := k_nx (i := .istore 4) rfl rfl
theorem s_61_154 (d L n : Nat) (scr : Nat → Int32) (call : Nat → List Value → am_H → Option am_X) (lv : am_L) (st : List Value) (h : am_H) : am_f d scr L call 61 (n + 1) 154 lv st h = am_f d scr L call 61 n 231 lv st h := k_nx (i := .goto 77) rfl rfl
theorem s_61_157 (d L n : Nat) (scr : Nat → Int32) (call : Nat → List Value → am_H → Option am_X) (lv : am_L) (st : List Value) (h : am_H) : am_f d scr L call 61 (n + 1) 157 lv st h = (match am_ld lv 0 with
    | some (.ref x) => am_f d scr L call 61 n 158 lv (.ref x :: st) h
    | _ => none) := k_la (i := .aload_n 0) rfl rfl rfl rfl
theorem s_61_158 (d L n : Nat) (scr : Nat → Int32) (call : Nat → List Value → am_H → Option am_X) (lv : am_L) (st : List Value) (h : am_H) : am_f d scr L call 61 (n + 1) 158 lv st h = (match am_ld lv 3 with
    | some (.int x) => am_f d scr L call 61 n 159 lv (.int x :: st) h
    | _ => none) := k_li (i := .iload_n 3) rfl rfl rfl rfl
theorem s_61_159 (d L n : Nat) (scr : Nat → Int32) (call : Nat → List Value → am_H → Option am_X) (lv : am_L) (st : List Value) (h : am_H) : am_f d scr L call 61 (n + 1) 159 lv st h = (match am_ld lv 2 with
    | some (.int x) => am_f d scr L call 61 n 160 lv (.int x :: st) h
    | _ => none) := k_li (i := .iload_n 2) rfl rfl rfl rfl
theorem s_61_160 (d L n : Nat) (scr : Nat → Int32) (call : Nat → List Value → am_H → Option am_X) (lv : am_L) (h : am_H) (o : Nat) (a0 : Int32) (a1 : Int32)  : am_f d scr L call 61 (n + 1) 160 lv (.int a1 :: .int a0 :: .ref o :: []) h = if am_at h o 6 = true then (match call 68 [.ref o, .int a0, .int a1] h with
    | some (v, h', dk, dn) => am_add dk dn (am_f d scr L call 61 n 163 lv (v.toList ++ []) h')
    | none => none) else none := k_iv0 (k := 53) (as := [.int a0, .int a1]) (r := []) rfl rfl rfl rfl (Nat.le_of_ble_eq_true rfl)
theorem s_61_163 (d L n : Nat) (scr : Nat → Int32) (call : Nat → List Value → am_H → Option am_X) (lv : am_L) (st : List Value) (h : am_H) (x : Int32) : am_f d scr L call 61 (n + 1) 163 lv (.int x :: st) h = am_f d scr L call 61 n 165 (am_st1 lv 4 (.int x)) st h := k_nx (i := .istore 4) rfl rfl
theorem s_61_165 (d L n : Nat) (scr : Nat → Int32) (call : Nat → List Value → am_H → Option am_X) (lv : am_L) (st : List Value) (h : am_H) : am_f d scr L call 61 (n + 1) 165 lv st h = am_f d scr L call 61 n 231 lv st h := k_nx (i := .goto 66) rfl rfl
theorem s_61_168 (d L n : Nat) (scr : Nat → Int32) (call : Nat → List Value → am_H → Option am_X) (lv : am_L) (st : List Value) (h : am_H) : am_f d scr L call 61 (n + 1) 168 lv st h = (match am_ld lv 0 with
    | some (.ref x) => am_f d scr L call 61 n 169 lv (.ref x :: st) h
    | _ => none) := k_la (i := .aload_n 0) rfl rfl rfl rfl
theorem s_61_169 (d L n : Nat) (scr : Nat → Int32) (call : Nat → List Value → am_H → Option am_X) (lv : am_L) (st : List Value) (h : am_H) : am_f d scr L call 61 (n + 1) 169 lv st h = (match am_ld lv 3 with
    | some (.int x) => am_f d scr L call 61 n 170 lv (.int x :: st) h
    | _ => none) := k_li (i := .iload_n 3) rfl rfl rfl rfl
theorem s_61_170 (d L n : Nat) (scr : Nat → Int32) (call : Nat → List Value → am_H → Option am_X) (lv : am_L) (st : List Value) (h : am_H) : am_f d scr L call 61 (n + 1) 170 lv st h = (match am_ld lv 2 with
    | some (.int x) => am_f d scr L call 61 n 171 lv (.int x :: st) h
    | _ => none) := k_li (i := .iload_n 2) rfl rfl rfl rfl
theorem s_61_171 (d L n : Nat) (scr : Nat → Int32) (call : Nat → List Value → am_H → Option am_X) (lv : am_L) (h : am_H) (o : Nat) (a0 : Int32) (a1 : Int32)  : am_f d scr L call 61 (n + 1) 171 lv (.int a1 :: .int a0 :: .ref o :: []) h = if am_at h o 6 = true then (match call 69 [.ref o, .int a0, .int a1] h with
    | some (v, h', dk, dn) => am_add dk dn (am_f d scr L call 61 n 174 lv (v.toList ++ []) h')
    | none => none) else none := k_iv0 (k := 56) (as := [.int a0, .int a1]) (r := []) rfl rfl rfl rfl (Nat.le_of_ble_eq_true rfl)
theorem s_61_174 (d L n : Nat) (scr : Nat → Int32) (call : Nat → List Value → am_H → Option am_X) (lv : am_L) (st : List Value) (h : am_H) (x : Int32) : am_f d scr L call 61 (n + 1) 174 lv (.int x :: st) h = am_f d scr L call 61 n 176 (am_st1 lv 4 (.int x)) st h := k_nx (i := .istore 4) rfl rfl
theorem s_61_176 (d L n : Nat) (scr : Nat → Int32) (call : Nat → List Value → am_H → Option am_X) (lv : am_L) (st : List Value) (h : am_H) : am_f d scr L call 61 (n + 1) 176 lv st h = am_f d scr L call 61 n 231 lv st h := k_nx (i := .goto 55) rfl rfl
theorem s_61_179 (d L n : Nat) (scr : Nat → Int32) (call : Nat → List Value → am_H → Option am_X) (lv : am_L) (st : List Value) (h : am_H) : am_f d scr L call 61 (n + 1) 179 lv st h = (match am_ld lv 0 with
    | some (.ref x) => am_f d scr L call 61 n 180 lv (.ref x :: st) h
    | _ => none) := k_la (i := .aload_n 0) rfl rfl rfl rfl
theorem s_61_180 (d L n : Nat) (scr : Nat → Int32) (call : Nat → List Value → am_H → Option am_X) (lv : am_L) (st : List Value) (h : am_H) : am_f d scr L call 61 (n + 1) 180 lv st h = am_f d scr L call 61 n 182 lv (.int 10 :: st) h := k_nx (i := .bipush 10) rfl rfl
theorem s_61_182 (d L n : Nat) (scr : Nat → Int32) (call : Nat → List Value → am_H → Option am_X) (lv : am_L) (st : List Value) (h : am_H) : am_f d scr L call 61 (n + 1) 182 lv st h = (match am_ld lv 3 with
    | some (.int x) => am_f d scr L call 61 n 183 lv (.int x :: st) h
    | _ => none) := k_li (i := .iload_n 3) rfl rfl rfl rfl
theorem s_61_183 (d L n : Nat) (scr : Nat → Int32) (call : Nat → List Value → am_H → Option am_X) (lv : am_L) (st : List Value) (h : am_H) : am_f d scr L call 61 (n + 1) 183 lv st h = (match am_ld lv 2 with
    | some (.int x) => am_f d scr L call 61 n 184 lv (.int x :: st) h
    | _ => none) := k_li (i := .iload_n 2) rfl rfl rfl rfl
theorem s_61_184 (d L n : Nat) (scr : Nat → Int32) (call : Nat → List Value → am_H → Option am_X) (lv : am_L) (h : am_H) (o : Nat) (a0 : Int32) (a1 : Int32) (a2 : Int32)  : am_f d scr L call 61 (n + 1) 184 lv (.int a2 :: .int a1 :: .int a0 :: .ref o :: []) h = if am_at h o 6 = true then (match call 70 [.ref o, .int a0, .int a1, .int a2] h with
    | some (v, h', dk, dn) => am_add dk dn (am_f d scr L call 61 n 187 lv (v.toList ++ []) h')
    | none => none) else none := k_iv0 (k := 59) (as := [.int a0, .int a1, .int a2]) (r := []) rfl rfl rfl rfl (Nat.le_of_ble_eq_true rfl)
theorem s_61_187 (d L n : Nat) (scr : Nat → Int32) (call : Nat → List Value → am_H → Option am_X) (lv : am_L) (st : List Value) (h : am_H) (x : Int32) : am_f d scr L call 61 (n + 1) 187 lv (.int x :: st) h = am_f d scr L call 61 n 189 (am_st1 lv 4 (.int x)) st h := k_nx (i := .istore 4) rfl rfl
theorem s_61_189 (d L n : Nat) (scr : Nat → Int32) (call : Nat → List Value → am_H → Option am_X) (lv : am_L) (st : List Value) (h : am_H) : am_f d scr L call 61 (n + 1) 189 lv st h = am_f d scr L call 61 n 231 lv st h := k_nx (i := .goto 42) rfl rfl
theorem s_61_192 (d L n : Nat) (scr : Nat → Int32) (call : Nat → List Value → am_H → Option am_X) (lv : am_L) (st : List Value) (h : am_H) : am_f d scr L call 61 (n + 1) 192 lv st h = (match am_ld lv 0 with
    | some (.ref x) => am_f d scr L call 61 n 193 lv (.ref x :: st) h
    | _ => none) := k_la (i := .aload_n 0) rfl rfl rfl rfl
theorem s_61_193 (d L n : Nat) (scr : Nat → Int32) (call : Nat → List Value → am_H → Option am_X) (lv : am_L) (st : List Value) (h : am_H) : am_f d scr L call 61 (n + 1) 193 lv st h = am_f d scr L call 61 n 195 lv (.int 11 :: st) h := k_nx (i := .bipush 11) rfl rfl
theorem s_61_195 (d L n : Nat) (scr : Nat → Int32) (call : Nat → List Value → am_H → Option am_X) (lv : am_L) (st : List Value) (h : am_H) : am_f d scr L call 61 (n + 1) 195 lv st h = (match am_ld lv 3 with
    | some (.int x) => am_f d scr L call 61 n 196 lv (.int x :: st) h
    | _ => none) := k_li (i := .iload_n 3) rfl rfl rfl rfl
theorem s_61_196 (d L n : Nat) (scr : Nat → Int32) (call : Nat → List Value → am_H → Option am_X) (lv : am_L) (st : List Value) (h : am_H) : am_f d scr L call 61 (n + 1) 196 lv st h = (match am_ld lv 2 with
    | some (.int x) => am_f d scr L call 61 n 197 lv (.int x :: st) h
    | _ => none) := k_li (i := .iload_n 2) rfl rfl rfl rfl
theorem s_61_197 (d L n : Nat) (scr : Nat → Int32) (call : Nat → List Value → am_H → Option am_X) (lv : am_L) (h : am_H) (o : Nat) (a0 : Int32) (a1 : Int32) (a2 : Int32)  : am_f d scr L call 61 (n + 1) 197 lv (.int a2 :: .int a1 :: .int a0 :: .ref o :: []) h = if am_at h o 6 = true then (match call 70 [.ref o, .int a0, .int a1, .int a2] h with
    | some (v, h', dk, dn) => am_add dk dn (am_f d scr L call 61 n 200 lv (v.toList ++ []) h')
    | none => none) else none := k_iv0 (k := 59) (as := [.int a0, .int a1, .int a2]) (r := []) rfl rfl rfl rfl (Nat.le_of_ble_eq_true rfl)
theorem s_61_200 (d L n : Nat) (scr : Nat → Int32) (call : Nat → List Value → am_H → Option am_X) (lv : am_L) (st : List Value) (h : am_H) (x : Int32) : am_f d scr L call 61 (n + 1) 200 lv (.int x :: st) h = am_f d scr L call 61 n 202 (am_st1 lv 4 (.int x)) st h := k_nx (i := .istore 4) rfl rfl
theorem s_61_202 (d L n : Nat) (scr : Nat → Int32) (call : Nat → List Value → am_H → Option am_X) (lv : am_L) (st : List Value) (h : am_H) : am_f d scr L call 61 (n + 1) 202 lv st h = am_f d scr L call 61 n 231 lv st h := k_nx (i := .goto 29) rfl rfl
theorem s_61_205 (d L n : Nat) (scr : Nat → Int32) (call : Nat → List Value → am_H → Option am_X) (lv : am_L) (st : List Value) (h : am_H) : am_f d scr L call 61 (n + 1) 205 lv st h = (match am_ld lv 0 with
    | some (.ref x) => am_f d scr L call 61 n 206 lv (.ref x :: st) h
    | _ => none) := k_la (i := .aload_n 0) rfl rfl rfl rfl
theorem s_61_206 (d L n : Nat) (scr : Nat → Int32) (call : Nat → List Value → am_H → Option am_X) (lv : am_L) (st : List Value) (h : am_H) : am_f d scr L call 61 (n + 1) 206 lv st h = am_f d scr L call 61 n 208 lv (.int 13 :: st) h := k_nx (i := .bipush 13) rfl rfl
theorem s_61_208 (d L n : Nat) (scr : Nat → Int32) (call : Nat → List Value → am_H → Option am_X) (lv : am_L) (st : List Value) (h : am_H) : am_f d scr L call 61 (n + 1) 208 lv st h = (match am_ld lv 3 with
    | some (.int x) => am_f d scr L call 61 n 209 lv (.int x :: st) h
    | _ => none) := k_li (i := .iload_n 3) rfl rfl rfl rfl
theorem s_61_209 (d L n : Nat) (scr : Nat → Int32) (call : Nat → List Value → am_H → Option am_X) (lv : am_L) (st : List Value) (h : am_H) : am_f d scr L call 61 (n + 1) 209 lv st h = (match am_ld lv 2 with
    | some (.int x) => am_f d scr L call 61 n 210 lv (.int x :: st) h
    | _ => none) := k_li (i := .iload_n 2) rfl rfl rfl rfl
theorem s_61_210 (d L n : Nat) (scr : Nat → Int32) (call : Nat → List Value → am_H → Option am_X) (lv : am_L) (h : am_H) (o : Nat) (a0 : Int32) (a1 : Int32) (a2 : Int32)  : am_f d scr L call 61 (n + 1) 210 lv (.int a2 :: .int a1 :: .int a0 :: .ref o :: []) h = if am_at h o 6 = true then (match call 70 [.ref o, .int a0, .int a1, .int a2] h with
    | some (v, h', dk, dn) => am_add dk dn (am_f d scr L call 61 n 213 lv (v.toList ++ []) h')
    | none => none) else none := k_iv0 (k := 59) (as := [.int a0, .int a1, .int a2]) (r := []) rfl rfl rfl rfl (Nat.le_of_ble_eq_true rfl)
theorem s_61_213 (d L n : Nat) (scr : Nat → Int32) (call : Nat → List Value → am_H → Option am_X) (lv : am_L) (st : List Value) (h : am_H) (x : Int32) : am_f d scr L call 61 (n + 1) 213 lv (.int x :: st) h = am_f d scr L call 61 n 215 (am_st1 lv 4 (.int x)) st h := k_nx (i := .istore 4) rfl rfl
theorem s_61_215 (d L n : Nat) (scr : Nat → Int32) (call : Nat → List Value → am_H → Option am_X) (lv : am_L) (st : List Value) (h : am_H) : am_f d scr L call 61 (n + 1) 215 lv st h = am_f d scr L call 61 n 231 lv st h := k_nx (i := .goto 16) rfl rfl
theorem s_61_218 (d L n : Nat) (scr : Nat → Int32) (call : Nat → List Value → am_H → Option am_X) (lv : am_L) (st : List Value) (h : am_H) : am_f d scr L call 61 (n + 1) 218 lv st h = (match am_ld lv 0 with
    | some (.ref x) => am_f d scr L call 61 n 219 lv (.ref x :: st) h
    | _ => none) := k_la (i := .aload_n 0) rfl rfl rfl rfl
set_option maxRecDepth 100000 in
theorem s_61_219 (d L n : Nat) (scr : Nat → Int32) (call : Nat → List Value → am_H → Option am_X) (lv : am_L) (st : List Value) (h : am_H) : am_f d scr L call 61 (n + 1) 219 lv st h = (match am_ld lv 0 with
    | some (.ref x) => am_f d scr L call 61 n 220 lv (.ref x :: st) h
    | _ => none) := k_la (i := .aload_n 0) rfl rfl rfl rfl
set_option maxRecDepth 100000 in
theorem s_61_220 (d L n : Nat) (scr : Nat → Int32) (call : Nat → List Value → am_H → Option am_X) (lv : am_L) (st : List Value) (h : am_H) (a : Nat) : am_f d scr L call 61 (n + 1) 220 lv (.ref a :: st) h = (match am_get h a 6 1 with
    | some v => am_f d scr L call 61 n 223 lv (v :: st) h
    | none => none) := k_gf (k := 15) rfl rfl
set_option maxRecDepth 100000 in
theorem s_61_223 (d L n : Nat) (scr : Nat → Int32) (call : Nat → List Value → am_H → Option am_X) (lv : am_L) (st : List Value) (h : am_H) : am_f d scr L call 61 (n + 1) 223 lv st h = (match am_ld lv 3 with
    | some (.int x) => am_f d scr L call 61 n 224 lv (.int x :: st) h
    | _ => none) := k_li (i := .iload_n 3) rfl rfl rfl rfl
set_option maxRecDepth 100000 in
theorem s_61_224 (d L n : Nat) (scr : Nat → Int32) (call : Nat → List Value → am_H → Option am_X) (lv : am_L) (st : List Value) (h : am_H) (a : Nat) (i : Int32) : am_f d scr L call 61 (n + 1) 224 lv (.int i :: .ref a :: st) h = (match am_cld h a i with
    | some x => am_f d scr L call 61 n 225 lv (.int x :: st) h
    | none => none) := k_ca rfl
set_option maxRecDepth 100000 in
theorem s_61_225 (d L n : Nat) (scr : Nat → Int32) (call : Nat → List Value → am_H → Option am_X) (lv : am_L) (st : List Value) (h : am_H) : am_f d scr L call 61 (n + 1) 225 lv st h = (match am_ld lv 3 with
    | some (.int x) => am_f d scr L call 61 n 226 lv (.int x :: st) h
    | _ => none) := k_li (i := .iload_n 3) rfl rfl rfl rfl
set_option maxRecDepth 100000 in
theorem s_61_226 (d L n : Nat) (scr : Nat → Int32) (call : Nat → List Value → am_H → Option am_X) (lv : am_L) (h : am_H) (o : Nat) (a0 : Int32) (a1 : Int32)  : am_f d scr L call 61 (n + 1) 226 lv (.int a1 :: .int a0 :: .ref o :: []) h = if am_at h o 6 = true then (match call 62 [.ref o, .int a0, .int a1] h with
    | some (v, h', dk, dn) => am_add dk dn (am_f d scr L call 61 n 229 lv (v.toList ++ []) h')
    | none => none) else none := k_iv0 (k := 63) (as := [.int a0, .int a1]) (r := []) rfl rfl rfl rfl (Nat.le_of_ble_eq_true rfl)
set_option maxRecDepth 100000 in
theorem s_61_229 (d L n : Nat) (scr : Nat → Int32) (call : Nat → List Value → am_H → Option am_X) (lv : am_L) (st : List Value) (h : am_H) (x : Int32) : am_f d scr L call 61 (n + 1) 229 lv (.int x :: st) h = am_f d scr L call 61 n 231 (am_st1 lv 4 (.int x)) st h := k_nx (i := .istore 4) rfl rfl
set_option maxRecDepth 100000 in
theorem s_61_231 (d L n : Nat) (scr : Nat → Int32) (call : Nat → List Value → am_H → Option am_X) (lv : am_L) (st : List Value) (h : am_H) : am_f d scr L call 61 (n + 1) 231 lv st h = (match am_ld lv 4 with
    | some (.int x) => am_f d scr L call 61 n 233 lv (.int x :: st) h
    | _ => none) := k_li (i := .iload 4) rfl rfl rfl rfl
set_option maxRecDepth 100000 in
theorem s_61_233 (d L n : Nat) (scr : Nat → Int32) (call : Nat → List Value → am_H → Option am_X) (lv : am_L) (st : List Value) (h : am_H) (x : Int32) : am_f d scr L call 61 (n + 1) 233 lv (.int x :: st) h = if ¬ x = 0 then am_f d scr L call 61 n 238 lv st h else am_f d scr L call 61 n 236 lv st h := k_if_ne (o := 5) rfl ⟨by decide, rfl⟩
set_option maxRecDepth 100000 in
theorem s_61_236 (d L n : Nat) (scr : Nat → Int32) (call : Nat → List Value → am_H → Option am_X) (lv : am_L) (st : List Value) (h : am_H) : am_f d scr L call 61 (n + 1) 236 lv st h = am_f d scr L call 61 n 237 lv (.int (-1) :: st) h := k_nx (i := .iconst (-1)) rfl rfl
set_option maxRecDepth 100000 in
theorem s_61_237 (d L n : Nat) (scr : Nat → Int32) (call : Nat → List Value → am_H → Option am_X) (lv : am_L) (h : am_H) (x : Int32) : am_f d scr L call 61 (n + 1) 237 lv [.int x] h = some (some (.int x), h, 0, 0) := k_ir rfl rfl
set_option maxRecDepth 100000 in
theorem s_61_238 (d L n : Nat) (scr : Nat → Int32) (call : Nat → List Value → am_H → Option am_X) (lv : am_L) (st : List Value) (h : am_H) : am_f d scr L call 61 (n + 1) 238 lv st h = (match am_ld lv 0 with
    | some (.ref x) => am_f d scr L call 61 n 239 lv (.ref x :: st) h
    | _ => none) := k_la (i := .aload_n 0) rfl rfl rfl rfl
set_option maxRecDepth 100000 in
theorem s_61_239 (d L n : Nat) (scr : Nat → Int32) (call : Nat → List Value → am_H → Option am_X) (lv : am_L) (st : List Value) (h : am_H) (a : Nat) : am_f d scr L call 61 (n + 1) 239 lv (.ref a :: st) h = (match am_get h a 6 0 with
    | some v => am_f d scr L call 61 n 242 lv (v :: st) h
    | none => none) := k_gf (k := 9) rfl rfl
set_option maxRecDepth 100000 in
theorem s_61_242 (d L n : Nat) (scr : Nat → Int32) (call : Nat → List Value → am_H → Option am_X) (lv : am_L) (st : List Value) (h : am_H) : am_f d scr L call 61 (n + 1) 242 lv st h = (match am_ld lv 3 with
    | some (.int x) => am_f d scr L call 61 n 243 lv (.int x :: st) h
    | _ => none) := k_li (i := .iload_n 3) rfl rfl rfl rfl
set_option maxRecDepth 100000 in
theorem s_61_243 (d L n : Nat) (scr : Nat → Int32) (call : Nat → List Value → am_H → Option am_X) (lv : am_L) (h : am_H) (o : Nat) (a0 : Int32)  : am_f d scr L call 61 (n + 1) 243 lv (.int a0 :: .ref o :: []) h = if am_at h o 5 = true then (match call 54 [.ref o, .int a0] h with
    | some (v, h', dk, dn) => am_add dk dn (am_f d scr L call 61 n 246 lv (v.toList ++ []) h')
    | none => none) else none := k_iv0 (k := 67) (as := [.int a0]) (r := []) rfl rfl rfl rfl (Nat.le_of_ble_eq_true rfl)
set_option maxRecDepth 100000 in
theorem s_61_246 (d L n : Nat) (scr : Nat → Int32) (call : Nat → List Value → am_H → Option am_X) (lv : am_L) (st : List Value) (h : am_H) : am_f d scr L call 61 (n + 1) 246 lv st h = (match am_ld lv 3 with
    | some (.int x) => am_f d scr L call 61 n 247 lv (.int x :: st) h
    | _ => none) := k_li (i := .iload_n 3) rfl rfl rfl rfl
set_option maxRecDepth 100000 in
theorem s_61_247 (d L n : Nat) (scr : Nat → Int32) (call : Nat → List Value → am_H → Option am_X) (lv : am_L) (h : am_H) (x : Int32) : am_f d scr L call 61 (n + 1) 247 lv [.int x] h = some (some (.int x), h, 0, 0) := k_ir rfl rfl
-- 62: BlameDesk$Reader.readLeaf(CI)Z
theorem s_62_0 (d L n : Nat) (scr : Nat → Int32) (call : Nat → List Value → am_H → Option am_X) (lv : am_L) (st : List Value) (h : am_H) : am_f d scr L call 62 (n + 1) 0 lv st h = (match am_ld lv 1 with
    | some (.int x) => am_f d scr L call 62 n 1 lv (.int x :: st) h
    | _ => none) := k_li (i := .iload_n 1) rfl rfl rfl rfl
theorem s_62_1 (d L n : Nat) (scr : Nat → Int32) (call : Nat → List Value → am_H → Option am_X) (lv : am_L) (st : List Value) (h : am_H) : am_f d scr L call 62 (n + 1) 1 lv st h = am_f d scr L call 62 n 3 lv (.int 84 :: st) h := k_nx (i := .bipush 84) rfl rfl
theorem s_62_3 (d L n : Nat) (scr : Nat → Int32) (call : Nat → List Value → am_H → Option am_X) (lv : am_L) (st : List Value) (h : am_H) (x y : Int32) : am_f d scr L call 62 (n + 1) 3 lv (.int y :: .int x :: st) h = if x = y then am_f d scr L call 62 n 12 lv st h else am_f d scr L call 62 n 6 lv st h := k_ic_eq (o := 9) rfl ⟨by decide, rfl⟩
theorem s_62_6 (d L n : Nat) (scr : Nat → Int32) (call : Nat → List Value → am_H → Option am_X) (lv : am_L) (st : List Value) (h : am_H) : am_f d scr L call 62 (n + 1) 6 lv st h = (match am_ld lv 1 with
    | some (.int x) => am_f d scr L call 62 n 7 lv (.int x :: st) h
    | _ => none) := k_li (i := .iload_n 1) rfl rfl rfl rfl
theorem s_62_7 (d L n : Nat) (scr : Nat → Int32) (call : Nat → List Value → am_H → Option am_X) (lv : am_L) (st : List Value) (h : am_H) : am_f d scr L call 62 (n + 1) 7 lv st h = am_f d scr L call 62 n 9 lv (.int 70 :: st) h := k_nx (i := .bipush 70) rfl rfl
theorem s_62_9 (d L n : Nat) (scr : Nat → Int32) (call : Nat → List Value → am_H → Option am_X) (lv : am_L) (st : List Value) (h : am_H) (x y : Int32) : am_f d scr L call 62 (n + 1) 9 lv (.int y :: .int x :: st) h = if ¬ x = y then am_f d scr L call 62 n 44 lv st h else am_f d scr L call 62 n 12 lv st h := k_ic_ne (o := 35) rfl ⟨by decide, rfl⟩
theorem s_62_12 (d L n : Nat) (scr : Nat → Int32) (call : Nat → List Value → am_H → Option am_X) (lv : am_L) (st : List Value) (h : am_H) : am_f d scr L call 62 (n + 1) 12 lv st h = (match am_ld lv 0 with
    | some (.ref x) => am_f d scr L call 62 n 13 lv (.ref x :: st) h
    | _ => none) := k_la (i := .aload_n 0) rfl rfl rfl rfl
theorem s_62_13 (d L n : Nat) (scr : Nat → Int32) (call : Nat → List Value → am_H → Option am_X) (lv : am_L) (st : List Value) (h : am_H) (a : Nat) : am_f d scr L call 62 (n + 1) 13 lv (.ref a :: st) h = (match am_get h a 6 0 with
    | some v => am_f d scr L call 62 n 16 lv (v :: st) h
    | none => none) := k_gf (k := 9) rfl rfl
theorem s_62_16 (d L n : Nat) (scr : Nat → Int32) (call : Nat → List Value → am_H → Option am_X) (lv : am_L) (st : List Value) (h : am_H) (a : Nat) : am_f d scr L call 62 (n + 1) 16 lv (.ref a :: st) h = (match am_get h a 5 1 with
    | some v => am_f d scr L call 62 n 19 lv (v :: st) h
    | none => none) := k_gf (k := 71) rfl rfl
theorem s_62_19 (d L n : Nat) (scr : Nat → Int32) (call : Nat → List Value → am_H → Option am_X) (lv : am_L) (st : List Value) (h : am_H) : am_f d scr L call 62 (n + 1) 19 lv st h = (match am_ld lv 2 with
    | some (.int x) => am_f d scr L call 62 n 20 lv (.int x :: st) h
    | _ => none) := k_li (i := .iload_n 2) rfl rfl rfl rfl
theorem s_62_20 (d L n : Nat) (scr : Nat → Int32) (call : Nat → List Value → am_H → Option am_X) (lv : am_L) (st : List Value) (h : am_H) : am_f d scr L call 62 (n + 1) 20 lv st h = am_f d scr L call 62 n 21 lv (.int 1 :: st) h := k_nx (i := .iconst 1) rfl rfl
theorem s_62_21 (d L n : Nat) (scr : Nat → Int32) (call : Nat → List Value → am_H → Option am_X) (lv : am_L) (st : List Value) (h : am_H) (a : Nat) (i : Int32) (x : Int32) : am_f d scr L call 62 (n + 1) 21 lv (.int x :: .int i :: .ref a :: st) h = (match am_ist h a i x with
    | some h' => am_f d scr L call 62 n 22 lv st h'
    | none => none) := k_is rfl
theorem s_62_22 (d L n : Nat) (scr : Nat → Int32) (call : Nat → List Value → am_H → Option am_X) (lv : am_L) (st : List Value) (h : am_H) : am_f d scr L call 62 (n + 1) 22 lv st h = (match am_ld lv 0 with
    | some (.ref x) => am_f d scr L call 62 n 23 lv (.ref x :: st) h
    | _ => none) := k_la (i := .aload_n 0) rfl rfl rfl rfl
theorem s_62_23 (d L n : Nat) (scr : Nat → Int32) (call : Nat → List Value → am_H → Option am_X) (lv : am_L) (st : List Value) (h : am_H) (a : Nat) : am_f d scr L call 62 (n + 1) 23 lv (.ref a :: st) h = (match am_get h a 6 0 with
    | some v => am_f d scr L call 62 n 26 lv (v :: st) h
    | none => none) := k_gf (k := 9) rfl rfl
theorem s_62_26 (d L n : Nat) (scr : Nat → Int32) (call : Nat → List Value → am_H → Option am_X) (lv : am_L) (st : List Value) (h : am_H) (a : Nat) : am_f d scr L call 62 (n + 1) 26 lv (.ref a :: st) h = (match am_get h a 5 6 with
    | some v => am_f d scr L call 62 n 29 lv (v :: st) h
    | none => none) := k_gf (k := 75) rfl rfl
theorem s_62_29 (d L n : Nat) (scr : Nat → Int32) (call : Nat → List Value → am_H → Option am_X) (lv : am_L) (st : List Value) (h : am_H) : am_f d scr L call 62 (n + 1) 29 lv st h = (match am_ld lv 2 with
    | some (.int x) => am_f d scr L call 62 n 30 lv (.int x :: st) h
    | _ => none) := k_li (i := .iload_n 2) rfl rfl rfl rfl
theorem s_62_30 (d L n : Nat) (scr : Nat → Int32) (call : Nat → List Value → am_H → Option am_X) (lv : am_L) (st : List Value) (h : am_H) : am_f d scr L call 62 (n + 1) 30 lv st h = (match am_ld lv 1 with
    | some (.int x) => am_f d scr L call 62 n 31 lv (.int x :: st) h
    | _ => none) := k_li (i := .iload_n 1) rfl rfl rfl rfl
theorem s_62_31 (d L n : Nat) (scr : Nat → Int32) (call : Nat → List Value → am_H → Option am_X) (lv : am_L) (st : List Value) (h : am_H) : am_f d scr L call 62 (n + 1) 31 lv st h = am_f d scr L call 62 n 33 lv (.int 84 :: st) h := k_nx (i := .bipush 84) rfl rfl
theorem s_62_33 (d L n : Nat) (scr : Nat → Int32) (call : Nat → List Value → am_H → Option am_X) (lv : am_L) (st : List Value) (h : am_H) (x y : Int32) : am_f d scr L call 62 (n + 1) 33 lv (.int y :: .int x :: st) h = if ¬ x = y then am_f d scr L call 62 n 40 lv st h else am_f d scr L call 62 n 36 lv st h := k_ic_ne (o := 7) rfl ⟨by decide, rfl⟩
theorem s_62_36 (d L n : Nat) (scr : Nat → Int32) (call : Nat → List Value → am_H → Option am_X) (lv : am_L) (st : List Value) (h : am_H) : am_f d scr L call 62 (n + 1) 36 lv st h = am_f d scr L call 62 n 37 lv (.int 1 :: st) h := k_nx (i := .iconst 1) rfl rfl
theorem s_62_37 (d L n : Nat) (scr : Nat → Int32) (call : Nat → List Value → am_H → Option am_X) (lv : am_L) (st : List Value) (h : am_H) : am_f d scr L call 62 (n + 1) 37 lv st h = am_f d scr L call 62 n 41 lv st h := k_nx (i := .goto 4) rfl rfl
theorem s_62_40 (d L n : Nat) (scr : Nat → Int32) (call : Nat → List Value → am_H → Option am_X) (lv : am_L) (st : List Value) (h : am_H) : am_f d scr L call 62 (n + 1) 40 lv st h = am_f d scr L call 62 n 41 lv (.int 0 :: st) h := k_nx (i := .iconst 0) rfl rfl
theorem s_62_41 (d L n : Nat) (scr : Nat → Int32) (call : Nat → List Value → am_H → Option am_X) (lv : am_L) (st : List Value) (h : am_H) (a : Nat) (i : Int32) (x : Int32) : am_f d scr L call 62 (n + 1) 41 lv (.int x :: .int i :: .ref a :: st) h = (match am_ist h a i x with
    | some h' => am_f d scr L call 62 n 42 lv st h'
    | none => none) := k_is rfl
theorem s_62_42 (d L n : Nat) (scr : Nat → Int32) (call : Nat → List Value → am_H → Option am_X) (lv : am_L) (st : List Value) (h : am_H) : am_f d scr L call 62 (n + 1) 42 lv st h = am_f d scr L call 62 n 43 lv (.int 1 :: st) h := k_nx (i := .iconst 1) rfl rfl
theorem s_62_43 (d L n : Nat) (scr : Nat → Int32) (call : Nat → List Value → am_H → Option am_X) (lv : am_L) (h : am_H) (x : Int32) : am_f d scr L call 62 (n + 1) 43 lv [.int x] h = if x = 0 ∨ x = 1 then some (some (.int x), h, 0, 0) else none := k_zr rfl rfl
theorem s_62_44 (d L n : Nat) (scr : Nat → Int32) (call : Nat → List Value → am_H → Option am_X) (lv : am_L) (st : List Value) (h : am_H) : am_f d scr L call 62 (n + 1) 44 lv st h = (match am_ld lv 0 with
    | some (.ref x) => am_f d scr L call 62 n 45 lv (.ref x :: st) h
    | _ => none) := k_la (i := .aload_n 0) rfl rfl rfl rfl
theorem s_62_45 (d L n : Nat) (scr : Nat → Int32) (call : Nat → List Value → am_H → Option am_X) (lv : am_L) (st : List Value) (h : am_H) : am_f d scr L call 62 (n + 1) 45 lv st h = (match am_ld lv 1 with
    | some (.int x) => am_f d scr L call 62 n 46 lv (.int x :: st) h
    | _ => none) := k_li (i := .iload_n 1) rfl rfl rfl rfl
theorem s_62_46 (d L n : Nat) (scr : Nat → Int32) (call : Nat → List Value → am_H → Option am_X) (lv : am_L) (h : am_H) (o : Nat) (a0 : Int32)  : am_f d scr L call 62 (n + 1) 46 lv (.int a0 :: .ref o :: []) h = if am_at h o 6 = true then (match call 63 [.ref o, .int a0] h with
    | some (v, h', dk, dn) => am_add dk dn (am_f d scr L call 62 n 49 lv (v.toList ++ []) h')
    | none => none) else none := k_iv0 (k := 78) (as := [.int a0]) (r := []) rfl rfl rfl rfl (Nat.le_of_ble_eq_true rfl)
theorem s_62_49 (d L n : Nat) (scr : Nat → Int32) (call : Nat → List Value → am_H → Option am_X) (lv : am_L) (st : List Value) (h : am_H) (x : Int32) : am_f d scr L call 62 (n + 1) 49 lv (.int x :: st) h = if x = 0 then am_f d scr L call 62 n 74 lv st h else am_f d scr L call 62 n 52 lv st h := k_if_eq (o := 25) rfl ⟨by decide, rfl⟩
theorem s_62_52 (d L n : Nat) (scr : Nat → Int32) (call : Nat → List Value → am_H → Option am_X) (lv : am_L) (st : List Value) (h : am_H) : am_f d scr L call 62 (n + 1) 52 lv st h = (match am_ld lv 0 with
    | some (.ref x) => am_f d scr L call 62 n 53 lv (.ref x :: st) h
    | _ => none) := k_la (i := .aload_n 0) rfl rfl rfl rfl
theorem s_62_53 (d L n : Nat) (scr : Nat → Int32) (call : Nat → List Value → am_H → Option am_X) (lv : am_L) (st : List Value) (h : am_H) (a : Nat) : am_f d scr L call 62 (n + 1) 53 lv (.ref a :: st) h = (match am_get h a 6 0 with
    | some v => am_f d scr L call 62 n 56 lv (v :: st) h
    | none => none) := k_gf (k := 9) rfl rfl
theorem s_62_56 (d L n : Nat) (scr : Nat → Int32) (call : Nat → List Value → am_H → Option am_X) (lv : am_L) (st : List Value) (h : am_H) (a : Nat) : am_f d scr L call 62 (n + 1) 56 lv (.ref a :: st) h = (match am_get h a 5 1 with
    | some v => am_f d scr L call 62 n 59 lv (v :: st) h
    | none => none) := k_gf (k := 71) rfl rfl
theorem s_62_59 (d L n : Nat) (scr : Nat → Int32) (call : Nat → List Value → am_H → Option am_X) (lv : am_L) (st : List Value) (h : am_H) : am_f d scr L call 62 (n + 1) 59 lv st h = (match am_ld lv 2 with
    | some (.int x) => am_f d scr L call 62 n 60 lv (.int x :: st) h
    | _ => none) := k_li (i := .iload_n 2) rfl rfl rfl rfl
theorem s_62_60 (d L n : Nat) (scr : Nat → Int32) (call : Nat → List Value → am_H → Option am_X) (lv : am_L) (st : List Value) (h : am_H) : am_f d scr L call 62 (n + 1) 60 lv st h = am_f d scr L call 62 n 61 lv (.int 2 :: st) h := k_nx (i := .iconst 2) rfl rfl
theorem s_62_61 (d L n : Nat) (scr : Nat → Int32) (call : Nat → List Value → am_H → Option am_X) (lv : am_L) (st : List Value) (h : am_H) (a : Nat) (i : Int32) (x : Int32) : am_f d scr L call 62 (n + 1) 61 lv (.int x :: .int i :: .ref a :: st) h = (match am_ist h a i x with
    | some h' => am_f d scr L call 62 n 62 lv st h'
    | none => none) := k_is rfl
theorem s_62_62 (d L n : Nat) (scr : Nat → Int32) (call : Nat → List Value → am_H → Option am_X) (lv : am_L) (st : List Value) (h : am_H) : am_f d scr L call 62 (n + 1) 62 lv st h = (match am_ld lv 0 with
    | some (.ref x) => am_f d scr L call 62 n 63 lv (.ref x :: st) h
    | _ => none) := k_la (i := .aload_n 0) rfl rfl rfl rfl
theorem s_62_63 (d L n : Nat) (scr : Nat → Int32) (call : Nat → List Value → am_H → Option am_X) (lv : am_L) (st : List Value) (h : am_H) (a : Nat) : am_f d scr L call 62 (n + 1) 63 lv (.ref a :: st) h = (match am_get h a 6 0 with
    | some v => am_f d scr L call 62 n 66 lv (v :: st) h
    | none => none) := k_gf (k := 9) rfl rfl
theorem s_62_66 (d L n : Nat) (scr : Nat → Int32) (call : Nat → List Value → am_H → Option am_X) (lv : am_L) (st : List Value) (h : am_H) (a : Nat) : am_f d scr L call 62 (n + 1) 66 lv (.ref a :: st) h = (match am_get h a 5 6 with
    | some v => am_f d scr L call 62 n 69 lv (v :: st) h
    | none => none) := k_gf (k := 75) rfl rfl
theorem s_62_69 (d L n : Nat) (scr : Nat → Int32) (call : Nat → List Value → am_H → Option am_X) (lv : am_L) (st : List Value) (h : am_H) : am_f d scr L call 62 (n + 1) 69 lv st h = (match am_ld lv 2 with
    | some (.int x) => am_f d scr L call 62 n 70 lv (.int x :: st) h
    | _ => none) := k_li (i := .iload_n 2) rfl rfl rfl rfl
theorem s_62_70 (d L n : Nat) (scr : Nat → Int32) (call : Nat → List Value → am_H → Option am_X) (lv : am_L) (st : List Value) (h : am_H) : am_f d scr L call 62 (n + 1) 70 lv st h = (match am_ld lv 1 with
    | some (.int x) => am_f d scr L call 62 n 71 lv (.int x :: st) h
    | _ => none) := k_li (i := .iload_n 1) rfl rfl rfl rfl
theorem s_62_71 (d L n : Nat) (scr : Nat → Int32) (call : Nat → List Value → am_H → Option am_X) (lv : am_L) (st : List Value) (h : am_H) (a : Nat) (i : Int32) (x : Int32) : am_f d scr L call 62 (n + 1) 71 lv (.int x :: .int i :: .ref a :: st) h = (match am_ist h a i x with
    | some h' => am_f d scr L call 62 n 72 lv st h'
    | none => none) := k_is rfl
theorem s_62_72 (d L n : Nat) (scr : Nat → Int32) (call : Nat → List Value → am_H → Option am_X) (lv : am_L) (st : List Value) (h : am_H) : am_f d scr L call 62 (n + 1) 72 lv st h = am_f d scr L call 62 n 73 lv (.int 1 :: st) h := k_nx (i := .iconst 1) rfl rfl
theorem s_62_73 (d L n : Nat) (scr : Nat → Int32) (call : Nat → List Value → am_H → Option am_X) (lv : am_L) (h : am_H) (x : Int32) : am_f d scr L call 62 (n + 1) 73 lv [.int x] h = if x = 0 ∨ x = 1 then some (some (.int x), h, 0, 0) else none := k_zr rfl rfl
theorem s_62_74 (d L n : Nat) (scr : Nat → Int32) (call : Nat → List Value → am_H → Option am_X) (lv : am_L) (st : List Value) (h : am_H) : am_f d scr L call 62 (n + 1) 74 lv st h = (match am_ld lv 0 with
    | some (.ref x) => am_f d scr L call 62 n 75 lv (.ref x :: st) h
    | _ => none) := k_la (i := .aload_n 0) rfl rfl rfl rfl
theorem s_62_75 (d L n : Nat) (scr : Nat → Int32) (call : Nat → List Value → am_H → Option am_X) (lv : am_L) (st : List Value) (h : am_H) : am_f d scr L call 62 (n + 1) 75 lv st h = (match am_ld lv 1 with
    | some (.int x) => am_f d scr L call 62 n 76 lv (.int x :: st) h
    | _ => none) := k_li (i := .iload_n 1) rfl rfl rfl rfl
theorem s_62_76 (d L n : Nat) (scr : Nat → Int32) (call : Nat → List Value → am_H → Option am_X) (lv : am_L) (h : am_H) (o : Nat) (a0 : Int32)  : am_f d scr L call 62 (n + 1) 76 lv (.int a0 :: .ref o :: []) h = if am_at h o 6 = true then (match call 64 [.ref o, .int a0] h with
    | some (v, h', dk, dn) => am_add dk dn (am_f d scr L call 62 n 79 lv (v.toList ++ []) h')
    | none => none) else none := k_iv0 (k := 82) (as := [.int a0]) (r := []) rfl rfl rfl rfl (Nat.le_of_ble_eq_true rfl)
theorem s_62_79 (d L n : Nat) (scr : Nat → Int32) (call : Nat → List Value → am_H → Option am_X) (lv : am_L) (st : List Value) (h : am_H) (x : Int32) : am_f d scr L call 62 (n + 1) 79 lv (.int x :: st) h = if ¬ x = 0 then am_f d scr L call 62 n 84 lv st h else am_f d scr L call 62 n 82 lv st h := k_if_ne (o := 5) rfl ⟨by decide, rfl⟩
theorem s_62_82 (d L n : Nat) (scr : Nat → Int32) (call : Nat → List Value → am_H → Option am_X) (lv : am_L) (st : List Value) (h : am_H) : am_f d scr L call 62 (n + 1) 82 lv st h = am_f d scr L call 62 n 83 lv (.int 0 :: st) h := k_nx (i := .iconst 0) rfl rfl
theorem s_62_83 (d L n : Nat) (scr : Nat → Int32) (call : Nat → List Value → am_H → Option am_X) (lv : am_L) (h : am_H) (x : Int32) : am_f d scr L call 62 (n + 1) 83 lv [.int x] h = if x = 0 ∨ x = 1 then some (some (.int x), h, 0, 0) else none := k_zr rfl rfl
theorem s_62_84 (d L n : Nat) (scr : Nat → Int32) (call : Nat → List Value → am_H → Option am_X) (lv : am_L) (st : List Value) (h : am_H) : am_f d scr L call 62 (n + 1) 84 lv st h = (match am_ld lv 1 with
    | some (.int x) => am_f d scr L call 62 n 85 lv (.int x :: st) h
    | _ => none) := k_li (i := .iload_n 1) rfl rfl rfl rfl
theorem s_62_85 (d L n : Nat) (scr : Nat → Int32) (call : Nat → List Value → am_H → Option am_X) (lv : am_L) (st : List Value) (h : am_H) : am_f d scr L call 62 (n + 1) 85 lv st h = am_f d scr L call 62 n 87 lv (.int 48 :: st) h := k_nx (i := .bipush 48) rfl rfl
theorem s_62_87 (d L n : Nat) (scr : Nat → Int32) (call : Nat → List Value → am_H → Option am_X) (lv : am_L) (st : List Value) (h : am_H) (x y : Int32) : am_f d scr L call 62 (n + 1) 87 lv (.int y :: .int x :: st) h = am_f d scr L call 62 n 88 lv (.int (x - y) :: st) h := k_nx (i := .isub) rfl rfl
theorem s_62_88 (d L n : Nat) (scr : Nat → Int32) (call : Nat → List Value → am_H → Option am_X) (lv : am_L) (st : List Value) (h : am_H) (x : Int32) : am_f d scr L call 62 (n + 1) 88 lv (.int x :: st) h = am_f d scr L call 62 n 89 (am_st1 lv 3 (.int x)) st h := k_nx (i := .istore_n 3) rfl rfl
theorem s_62_89 (d L n : Nat) (scr : Nat → Int32) (call : Nat → List Value → am_H → Option am_X) (lv : am_L) (st : List Value) (h : am_H) : am_f d scr L call 62 (n + 1) 89 lv st h = am_f d scr L call 62 n 90 lv (.int 1 :: st) h := k_nx (i := .iconst 1) rfl rfl
theorem s_62_90 (d L n : Nat) (scr : Nat → Int32) (call : Nat → List Value → am_H → Option am_X) (lv : am_L) (st : List Value) (h : am_H) (x : Int32) : am_f d scr L call 62 (n + 1) 90 lv (.int x :: st) h = am_f d scr L call 62 n 92 (am_st1 lv 4 (.int x)) st h := k_nx (i := .istore 4) rfl rfl
theorem s_62_92 (d L n : Nat) (scr : Nat → Int32) (call : Nat → List Value → am_H → Option am_X) (lv : am_L) (st : List Value) (h : am_H) : am_f d scr L call 62 (n + 1) 92 lv st h = (match am_ld lv 4 with
    | some (.int x) => am_f d scr L call 62 n 94 lv (.int x :: st) h
    | _ => none) := k_li (i := .iload 4) rfl rfl rfl rfl
theorem s_62_94 (d L n : Nat) (scr : Nat → Int32) (call : Nat → List Value → am_H → Option am_X) (lv : am_L) (st : List Value) (h : am_H) : am_f d scr L call 62 (n + 1) 94 lv st h = am_f d scr L call 62 n 95 lv (.int 3 :: st) h := k_nx (i := .iconst 3) rfl rfl
theorem s_62_95 (d L n : Nat) (scr : Nat → Int32) (call : Nat → List Value → am_H → Option am_X) (lv : am_L) (st : List Value) (h : am_H) (x y : Int32) : am_f d scr L call 62 (n + 1) 95 lv (.int y :: .int x :: st) h = if y ≤ x then am_f d scr L call 62 n 138 lv st h else am_f d scr L call 62 n 98 lv st h := k_ic_ge (o := 43) rfl ⟨by decide, rfl⟩
theorem s_62_98 (d L n : Nat) (scr : Nat → Int32) (call : Nat → List Value → am_H → Option am_X) (lv : am_L) (st : List Value) (h : am_H) : am_f d scr L call 62 (n + 1) 98 lv st h = (match am_ld lv 0 with
    | some (.ref x) => am_f d scr L call 62 n 99 lv (.ref x :: st) h
    | _ => none) := k_la (i := .aload_n 0) rfl rfl rfl rfl
theorem s_62_99 (d L n : Nat) (scr : Nat → Int32) (call : Nat → List Value → am_H → Option am_X) (lv : am_L) (st : List Value) (h : am_H) : am_f d scr L call 62 (n + 1) 99 lv st h = (match am_ld lv 0 with
    | some (.ref x) => am_f d scr L call 62 n 100 lv (.ref x :: st) h
    | _ => none) := k_la (i := .aload_n 0) rfl rfl rfl rfl
theorem s_62_100 (d L n : Nat) (scr : Nat → Int32) (call : Nat → List Value → am_H → Option am_X) (lv : am_L) (h : am_H) (o : Nat)  (r0 : Nat) : am_f d scr L call 62 (n + 1) 100 lv (.ref o :: .ref r0 :: []) h = if am_at h o 6 = true then (match call 59 [.ref o] h with
    | some (v, h', dk, dn) => am_add dk dn (am_f d scr L call 62 n 103 lv (v.toList ++ [.ref r0]) h')
    | none => none) else none := k_iv0 (k := 35) (as := []) (r := [.ref r0]) rfl rfl rfl rfl (Nat.le_of_ble_eq_true rfl)
theorem s_62_103 (d L n : Nat) (scr : Nat → Int32) (call : Nat → List Value → am_H → Option am_X) (lv : am_L) (h : am_H) (o : Nat) (a0 : Int32)  : am_f d scr L call 62 (n + 1) 103 lv (.int a0 :: .ref o :: []) h = if am_at h o 6 = true then (match call 64 [.ref o, .int a0] h with
    | some (v, h', dk, dn) => am_add dk dn (am_f d scr L call 62 n 106 lv (v.toList ++ []) h')
    | none => none) else none := k_iv0 (k := 82) (as := [.int a0]) (r := []) rfl rfl rfl rfl (Nat.le_of_ble_eq_true rfl)
theorem s_62_106 (d L n : Nat) (scr : Nat → Int32) (call : Nat → List Value → am_H → Option am_X) (lv : am_L) (st : List Value) (h : am_H) (x : Int32) : am_f d scr L call 62 (n + 1) 106 lv (.int x :: st) h = if x = 0 then am_f d scr L call 62 n 138 lv st h else am_f d scr L call 62 n 109 lv st h := k_if_eq (o := 32) rfl ⟨by decide, rfl⟩
theorem s_62_109 (d L n : Nat) (scr : Nat → Int32) (call : Nat → List Value → am_H → Option am_X) (lv : am_L) (st : List Value) (h : am_H) : am_f d scr L call 62 (n + 1) 109 lv st h = am_f d scr L call 62 n 111 lv (.int 10 :: st) h := k_nx (i := .bipush 10) rfl rfl
theorem s_62_111 (d L n : Nat) (scr : Nat → Int32) (call : Nat → List Value → am_H → Option am_X) (lv : am_L) (st : List Value) (h : am_H) : am_f d scr L call 62 (n + 1) 111 lv st h = (match am_ld lv 3 with
    | some (.int x) => am_f d scr L call 62 n 112 lv (.int x :: st) h
    | _ => none) := k_li (i := .iload_n 3) rfl rfl rfl rfl
theorem s_62_112 (d L n : Nat) (scr : Nat → Int32) (call : Nat → List Value → am_H → Option am_X) (lv : am_L) (st : List Value) (h : am_H) (x y : Int32) : am_f d scr L call 62 (n + 1) 112 lv (.int y :: .int x :: st) h = am_f d scr L call 62 n 113 lv (.int (x * y) :: st) h := k_nx (i := .imul) rfl rfl
theorem s_62_113 (d L n : Nat) (scr : Nat → Int32) (call : Nat → List Value → am_H → Option am_X) (lv : am_L) (st : List Value) (h : am_H) : am_f d scr L call 62 (n + 1) 113 lv st h = (match am_ld lv 0 with
    | some (.ref x) => am_f d scr L call 62 n 114 lv (.ref x :: st) h
    | _ => none) := k_la (i := .aload_n 0) rfl rfl rfl rfl
theorem s_62_114 (d L n : Nat) (scr : Nat → Int32) (call : Nat → List Value → am_H → Option am_X) (lv : am_L) (h : am_H) (o : Nat)  (r0 : Int32) : am_f d scr L call 62 (n + 1) 114 lv (.ref o :: .int r0 :: []) h = if am_at h o 6 = true then (match call 59 [.ref o] h with
    | some (v, h', dk, dn) => am_add dk dn (am_f d scr L call 62 n 117 lv (v.toList ++ [.int r0]) h')
    | none => none) else none := k_iv0 (k := 35) (as := []) (r := [.int r0]) rfl rfl rfl rfl (Nat.le_of_ble_eq_true rfl)
theorem s_62_117 (d L n : Nat) (scr : Nat → Int32) (call : Nat → List Value → am_H → Option am_X) (lv : am_L) (st : List Value) (h : am_H) : am_f d scr L call 62 (n + 1) 117 lv st h = am_f d scr L call 62 n 119 lv (.int 48 :: st) h := k_nx (i := .bipush 48) rfl rfl
theorem s_62_119 (d L n : Nat) (scr : Nat → Int32) (call : Nat → List Value → am_H → Option am_X) (lv : am_L) (st : List Value) (h : am_H) (x y : Int32) : am_f d scr L call 62 (n + 1) 119 lv (.int y :: .int x :: st) h = am_f d scr L call 62 n 120 lv (.int (x - y) :: st) h := k_nx (i := .isub) rfl rfl
theorem s_62_120 (d L n : Nat) (scr : Nat → Int32) (call : Nat → List Value → am_H → Option am_X) (lv : am_L) (st : List Value) (h : am_H) (x y : Int32) : am_f d scr L call 62 (n + 1) 120 lv (.int y :: .int x :: st) h = am_f d scr L call 62 n 121 lv (.int (x + y) :: st) h := k_nx (i := .iadd) rfl rfl
theorem s_62_121 (d L n : Nat) (scr : Nat → Int32) (call : Nat → List Value → am_H → Option am_X) (lv : am_L) (st : List Value) (h : am_H) (x : Int32) : am_f d scr L call 62 (n + 1) 121 lv (.int x :: st) h = am_f d scr L call 62 n 122 (am_st1 lv 3 (.int x)) st h := k_nx (i := .istore_n 3) rfl rfl
theorem s_62_122 (d L n : Nat) (scr : Nat → Int32) (call : Nat → List Value → am_H → Option am_X) (lv : am_L) (st : List Value) (h : am_H) : am_f d scr L call 62 (n + 1) 122 lv st h = (match am_ld lv 0 with
    | some (.ref x) => am_f d scr L call 62 n 123 lv (.ref x :: st) h
    | _ => none) := k_la (i := .aload_n 0) rfl rfl rfl rfl
theorem s_62_123 (d L n : Nat) (scr : Nat → Int32) (call : Nat → List Value → am_H → Option am_X) (lv : am_L) (st : List Value) (h : am_H) (x : Nat) : am_f d scr L call 62 (n + 1) 123 lv (.ref x :: st) h = am_f d scr L call 62 n 124 lv (.ref x :: .ref x :: st) h := k_nx (i := .dup) rfl rfl
theorem s_62_124 (d L n : Nat) (scr : Nat → Int32) (call : Nat → List Value → am_H → Option am_X) (lv : am_L) (st : List Value) (h : am_H) (a : Nat) : am_f d scr L call 62 (n + 1) 124 lv (.ref a :: st) h = (match am_get h a 6 3 with
    | some v => am_f d scr L call 62 n 127 lv (v :: st) h
    | none => none) := k_gf (k := 23) rfl rfl
theorem s_62_127 (d L n : Nat) (scr : Nat → Int32) (call : Nat → List Value → am_H → Option am_X) (lv : am_L) (st : List Value) (h : am_H) : am_f d scr L call 62 (n + 1) 127 lv st h = am_f d scr L call 62 n 128 lv (.int 1 :: st) h := k_nx (i := .iconst 1) rfl rfl
theorem s_62_128 (d L n : Nat) (scr : Nat → Int32) (call : Nat → List Value → am_H → Option am_X) (lv : am_L) (st : List Value) (h : am_H) (x y : Int32) : am_f d scr L call 62 (n + 1) 128 lv (.int y :: .int x :: st) h = am_f d scr L call 62 n 129 lv (.int (x + y) :: st) h := k_nx (i := .iadd) rfl rfl
theorem s_62_129 (d L n : Nat) (scr : Nat → Int32) (call : Nat → List Value → am_H → Option am_X) (lv : am_L) (st : List Value) (h : am_H) (x : Int32) (a : Nat) : am_f d scr L call 62 (n + 1) 129 lv (.int x :: .ref a :: st) h = (match am_put h a 6 3 (.int x) with
    | some h' => am_f d scr L call 62 n 132 lv st h'
    | none => none) := k_pf (k := 23) rfl rfl rfl
theorem s_62_132 (d L n : Nat) (scr : Nat → Int32) (call : Nat → List Value → am_H → Option am_X) (lv : am_L) (st : List Value) (h : am_H) : am_f d scr L call 62 (n + 1) 132 lv st h = (match am_ld lv 4 with
    | some (.int x) => am_f d scr L call 62 n 135 (am_st1 lv 4 (.int (x + 1))) st h
    | _ => none) := k_iinc (k := 4) (c := 1) rfl rfl (Nat.le_of_ble_eq_true rfl)
theorem s_62_135 (d L n : Nat) (scr : Nat → Int32) (call : Nat → List Value → am_H → Option am_X) (lv : am_L) (st : List Value) (h : am_H) : am_f d scr L call 62 (n + 1) 135 lv st h = am_f d scr L call 62 n 92 lv st h := k_nx (i := .goto (-43)) rfl rfl
theorem s_62_138 (d L n : Nat) (scr : Nat → Int32) (call : Nat → List Value → am_H → Option am_X) (lv : am_L) (st : List Value) (h : am_H) : am_f d scr L call 62 (n + 1) 138 lv st h = (match am_ld lv 0 with
    | some (.ref x) => am_f d scr L call 62 n 139 lv (.ref x :: st) h
    | _ => none) := k_la (i := .aload_n 0) rfl rfl rfl rfl
set_option maxRecDepth 100000 in
theorem s_62_139 (d L n : Nat) (scr : Nat → Int32) (call : Nat → List Value → am_H → Option am_X) (lv : am_L) (st : List Value) (h : am_H) (a : Nat) : am_f d scr L call 62 (n + 1) 139 lv (.ref a :: st) h = (match am_get h a 6 0 with
    | some v => am_f d scr L call 62 n 142 lv (v :: st) h
    | none => none) := k_gf (k := 9) rfl rfl
set_option maxRecDepth 100000 in
theorem s_62_142 (d L n : Nat) (scr : Nat → Int32) (call : Nat → List Value → am_H → Option am_X) (lv : am_L) (st : List Value) (h : am_H) (a : Nat) : am_f d scr L call 62 (n + 1) 142 lv (.ref a :: st) h = (match am_get h a 5 1 with
    | some v => am_f d scr L call 62 n 145 lv (v :: st) h
    | none => none) := k_gf (k := 71) rfl rfl
set_option maxRecDepth 100000 in
theorem s_62_145 (d L n : Nat) (scr : Nat → Int32) (call : Nat → List Value → am_H → Option am_X) (lv : am_L) (st : List Value) (h : am_H) : am_f d scr L call 62 (n + 1) 145 lv st h = (match am_ld lv 2 with
    | some (.int x) => am_f d scr L call 62 n 146 lv (.int x :: st) h
    | _ => none) := k_li (i := .iload_n 2) rfl rfl rfl rfl
set_option maxRecDepth 100000 in
theorem s_62_146 (d L n : Nat) (scr : Nat → Int32) (call : Nat → List Value → am_H → Option am_X) (lv : am_L) (st : List Value) (h : am_H) : am_f d scr L call 62 (n + 1) 146 lv st h = am_f d scr L call 62 n 147 lv (.int 0 :: st) h := k_nx (i := .iconst 0) rfl rfl
set_option maxRecDepth 100000 in
theorem s_62_147 (d L n : Nat) (scr : Nat → Int32) (call : Nat → List Value → am_H → Option am_X) (lv : am_L) (st : List Value) (h : am_H) (a : Nat) (i : Int32) (x : Int32) : am_f d scr L call 62 (n + 1) 147 lv (.int x :: .int i :: .ref a :: st) h = (match am_ist h a i x with
    | some h' => am_f d scr L call 62 n 148 lv st h'
    | none => none) := k_is rfl
set_option maxRecDepth 100000 in
theorem s_62_148 (d L n : Nat) (scr : Nat → Int32) (call : Nat → List Value → am_H → Option am_X) (lv : am_L) (st : List Value) (h : am_H) : am_f d scr L call 62 (n + 1) 148 lv st h = (match am_ld lv 0 with
    | some (.ref x) => am_f d scr L call 62 n 149 lv (.ref x :: st) h
    | _ => none) := k_la (i := .aload_n 0) rfl rfl rfl rfl
set_option maxRecDepth 100000 in
theorem s_62_149 (d L n : Nat) (scr : Nat → Int32) (call : Nat → List Value → am_H → Option am_X) (lv : am_L) (st : List Value) (h : am_H) (a : Nat) : am_f d scr L call 62 (n + 1) 149 lv (.ref a :: st) h = (match am_get h a 6 0 with
    | some v => am_f d scr L call 62 n 152 lv (v :: st) h
    | none => none) := k_gf (k := 9) rfl rfl
set_option maxRecDepth 100000 in
theorem s_62_152 (d L n : Nat) (scr : Nat → Int32) (call : Nat → List Value → am_H → Option am_X) (lv : am_L) (st : List Value) (h : am_H) (a : Nat) : am_f d scr L call 62 (n + 1) 152 lv (.ref a :: st) h = (match am_get h a 5 6 with
    | some v => am_f d scr L call 62 n 155 lv (v :: st) h
    | none => none) := k_gf (k := 75) rfl rfl
set_option maxRecDepth 100000 in
theorem s_62_155 (d L n : Nat) (scr : Nat → Int32) (call : Nat → List Value → am_H → Option am_X) (lv : am_L) (st : List Value) (h : am_H) : am_f d scr L call 62 (n + 1) 155 lv st h = (match am_ld lv 2 with
    | some (.int x) => am_f d scr L call 62 n 156 lv (.int x :: st) h
    | _ => none) := k_li (i := .iload_n 2) rfl rfl rfl rfl
set_option maxRecDepth 100000 in
theorem s_62_156 (d L n : Nat) (scr : Nat → Int32) (call : Nat → List Value → am_H → Option am_X) (lv : am_L) (st : List Value) (h : am_H) : am_f d scr L call 62 (n + 1) 156 lv st h = (match am_ld lv 3 with
    | some (.int x) => am_f d scr L call 62 n 157 lv (.int x :: st) h
    | _ => none) := k_li (i := .iload_n 3) rfl rfl rfl rfl
set_option maxRecDepth 100000 in
theorem s_62_157 (d L n : Nat) (scr : Nat → Int32) (call : Nat → List Value → am_H → Option am_X) (lv : am_L) (st : List Value) (h : am_H) (a : Nat) (i : Int32) (x : Int32) : am_f d scr L call 62 (n + 1) 157 lv (.int x :: .int i :: .ref a :: st) h = (match am_ist h a i x with
    | some h' => am_f d scr L call 62 n 158 lv st h'
    | none => none) := k_is rfl
set_option maxRecDepth 100000 in
theorem s_62_158 (d L n : Nat) (scr : Nat → Int32) (call : Nat → List Value → am_H → Option am_X) (lv : am_L) (st : List Value) (h : am_H) : am_f d scr L call 62 (n + 1) 158 lv st h = am_f d scr L call 62 n 159 lv (.int 1 :: st) h := k_nx (i := .iconst 1) rfl rfl
set_option maxRecDepth 100000 in
theorem s_62_159 (d L n : Nat) (scr : Nat → Int32) (call : Nat → List Value → am_H → Option am_X) (lv : am_L) (h : am_H) (x : Int32) : am_f d scr L call 62 (n + 1) 159 lv [.int x] h = if x = 0 ∨ x = 1 then some (some (.int x), h, 0, 0) else none := k_zr rfl rfl
-- 63: BlameDesk$Reader.isLetter(C)Z
theorem s_63_0 (d L n : Nat) (scr : Nat → Int32) (call : Nat → List Value → am_H → Option am_X) (lv : am_L) (st : List Value) (h : am_H) : am_f d scr L call 63 (n + 1) 0 lv st h = (match am_ld lv 1 with
    | some (.int x) => am_f d scr L call 63 n 1 lv (.int x :: st) h
    | _ => none) := k_li (i := .iload_n 1) rfl rfl rfl rfl
theorem s_63_1 (d L n : Nat) (scr : Nat → Int32) (call : Nat → List Value → am_H → Option am_X) (lv : am_L) (st : List Value) (h : am_H) : am_f d scr L call 63 (n + 1) 1 lv st h = am_f d scr L call 63 n 3 lv (.int 97 :: st) h := k_nx (i := .bipush 97) rfl rfl
theorem s_63_3 (d L n : Nat) (scr : Nat → Int32) (call : Nat → List Value → am_H → Option am_X) (lv : am_L) (st : List Value) (h : am_H) (x y : Int32) : am_f d scr L call 63 (n + 1) 3 lv (.int y :: .int x :: st) h = if x < y then am_f d scr L call 63 n 16 lv st h else am_f d scr L call 63 n 6 lv st h := k_ic_lt (o := 13) rfl ⟨by decide, rfl⟩
theorem s_63_6 (d L n : Nat) (scr : Nat → Int32) (call : Nat → List Value → am_H → Option am_X) (lv : am_L) (st : List Value) (h : am_H) : am_f d scr L call 63 (n + 1) 6 lv st h = (match am_ld lv 1 with
    | some (.int x) => am_f d scr L call 63 n 7 lv (.int x :: st) h
    | _ => none) := k_li (i := .iload_n 1) rfl rfl rfl rfl
theorem s_63_7 (d L n : Nat) (scr : Nat → Int32) (call : Nat → List Value → am_H → Option am_X) (lv : am_L) (st : List Value) (h : am_H) : am_f d scr L call 63 (n + 1) 7 lv st h = am_f d scr L call 63 n 9 lv (.int 122 :: st) h := k_nx (i := .bipush 122) rfl rfl
theorem s_63_9 (d L n : Nat) (scr : Nat → Int32) (call : Nat → List Value → am_H → Option am_X) (lv : am_L) (st : List Value) (h : am_H) (x y : Int32) : am_f d scr L call 63 (n + 1) 9 lv (.int y :: .int x :: st) h = if y < x then am_f d scr L call 63 n 16 lv st h else am_f d scr L call 63 n 12 lv st h := k_ic_gt (o := 7) rfl ⟨by decide, rfl⟩
theorem s_63_12 (d L n : Nat) (scr : Nat → Int32) (call : Nat → List Value → am_H → Option am_X) (lv : am_L) (st : List Value) (h : am_H) : am_f d scr L call 63 (n + 1) 12 lv st h = am_f d scr L call 63 n 13 lv (.int 1 :: st) h := k_nx (i := .iconst 1) rfl rfl
theorem s_63_13 (d L n : Nat) (scr : Nat → Int32) (call : Nat → List Value → am_H → Option am_X) (lv : am_L) (st : List Value) (h : am_H) : am_f d scr L call 63 (n + 1) 13 lv st h = am_f d scr L call 63 n 17 lv st h := k_nx (i := .goto 4) rfl rfl
theorem s_63_16 (d L n : Nat) (scr : Nat → Int32) (call : Nat → List Value → am_H → Option am_X) (lv : am_L) (st : List Value) (h : am_H) : am_f d scr L call 63 (n + 1) 16 lv st h = am_f d scr L call 63 n 17 lv (.int 0 :: st) h := k_nx (i := .iconst 0) rfl rfl
theorem s_63_17 (d L n : Nat) (scr : Nat → Int32) (call : Nat → List Value → am_H → Option am_X) (lv : am_L) (h : am_H) (x : Int32) : am_f d scr L call 63 (n + 1) 17 lv [.int x] h = if x = 0 ∨ x = 1 then some (some (.int x), h, 0, 0) else none := k_zr rfl rfl
-- 64: BlameDesk$Reader.isDigit(C)Z
theorem s_64_0 (d L n : Nat) (scr : Nat → Int32) (call : Nat → List Value → am_H → Option am_X) (lv : am_L) (st : List Value) (h : am_H) : am_f d scr L call 64 (n + 1) 0 lv st h = (match am_ld lv 1 with
    | some (.int x) => am_f d scr L call 64 n 1 lv (.int x :: st) h
    | _ => none) := k_li (i := .iload_n 1) rfl rfl rfl rfl
theorem s_64_1 (d L n : Nat) (scr : Nat → Int32) (call : Nat → List Value → am_H → Option am_X) (lv : am_L) (st : List Value) (h : am_H) : am_f d scr L call 64 (n + 1) 1 lv st h = am_f d scr L call 64 n 3 lv (.int 48 :: st) h := k_nx (i := .bipush 48) rfl rfl
theorem s_64_3 (d L n : Nat) (scr : Nat → Int32) (call : Nat → List Value → am_H → Option am_X) (lv : am_L) (st : List Value) (h : am_H) (x y : Int32) : am_f d scr L call 64 (n + 1) 3 lv (.int y :: .int x :: st) h = if x < y then am_f d scr L call 64 n 16 lv st h else am_f d scr L call 64 n 6 lv st h := k_ic_lt (o := 13) rfl ⟨by decide, rfl⟩
theorem s_64_6 (d L n : Nat) (scr : Nat → Int32) (call : Nat → List Value → am_H → Option am_X) (lv : am_L) (st : List Value) (h : am_H) : am_f d scr L call 64 (n + 1) 6 lv st h = (match am_ld lv 1 with
    | some (.int x) => am_f d scr L call 64 n 7 lv (.int x :: st) h
    | _ => none) := k_li (i := .iload_n 1) rfl rfl rfl rfl
theorem s_64_7 (d L n : Nat) (scr : Nat → Int32) (call : Nat → List Value → am_H → Option am_X) (lv : am_L) (st : List Value) (h : am_H) : am_f d scr L call 64 (n + 1) 7 lv st h = am_f d scr L call 64 n 9 lv (.int 57 :: st) h := k_nx (i := .bipush 57) rfl rfl
theorem s_64_9 (d L n : Nat) (scr : Nat → Int32) (call : Nat → List Value → am_H → Option am_X) (lv : am_L) (st : List Value) (h : am_H) (x y : Int32) : am_f d scr L call 64 (n + 1) 9 lv (.int y :: .int x :: st) h = if y < x then am_f d scr L call 64 n 16 lv st h else am_f d scr L call 64 n 12 lv st h := k_ic_gt (o := 7) rfl ⟨by decide, rfl⟩
theorem s_64_12 (d L n : Nat) (scr : Nat → Int32) (call : Nat → List Value → am_H → Option am_X) (lv : am_L) (st : List Value) (h : am_H) : am_f d scr L call 64 (n + 1) 12 lv st h = am_f d scr L call 64 n 13 lv (.int 1 :: st) h := k_nx (i := .iconst 1) rfl rfl
theorem s_64_13 (d L n : Nat) (scr : Nat → Int32) (call : Nat → List Value → am_H → Option am_X) (lv : am_L) (st : List Value) (h : am_H) : am_f d scr L call 64 (n + 1) 13 lv st h = am_f d scr L call 64 n 17 lv st h := k_nx (i := .goto 4) rfl rfl
theorem s_64_16 (d L n : Nat) (scr : Nat → Int32) (call : Nat → List Value → am_H → Option am_X) (lv : am_L) (st : List Value) (h : am_H) : am_f d scr L call 64 (n + 1) 16 lv st h = am_f d scr L call 64 n 17 lv (.int 0 :: st) h := k_nx (i := .iconst 0) rfl rfl
theorem s_64_17 (d L n : Nat) (scr : Nat → Int32) (call : Nat → List Value → am_H → Option am_X) (lv : am_L) (h : am_H) (x : Int32) : am_f d scr L call 64 (n + 1) 17 lv [.int x] h = if x = 0 ∨ x = 1 then some (some (.int x), h, 0, 0) else none := k_zr rfl rfl
-- 65: BlameDesk$Reader.readFunction(II)Z
theorem s_65_0 (d L n : Nat) (scr : Nat → Int32) (call : Nat → List Value → am_H → Option am_X) (lv : am_L) (st : List Value) (h : am_H) : am_f d scr L call 65 (n + 1) 0 lv st h = (match am_ld lv 0 with
    | some (.ref x) => am_f d scr L call 65 n 1 lv (.ref x :: st) h
    | _ => none) := k_la (i := .aload_n 0) rfl rfl rfl rfl
theorem s_65_1 (d L n : Nat) (scr : Nat → Int32) (call : Nat → List Value → am_H → Option am_X) (lv : am_L) (h : am_H) (o : Nat)   : am_f d scr L call 65 (n + 1) 1 lv (.ref o :: []) h = if am_at h o 6 = true then (match call 59 [.ref o] h with
    | some (v, h', dk, dn) => am_add dk dn (am_f d scr L call 65 n 4 lv (v.toList ++ []) h')
    | none => none) else none := k_iv0 (k := 35) (as := []) (r := []) rfl rfl rfl rfl (Nat.le_of_ble_eq_true rfl)
theorem s_65_4 (d L n : Nat) (scr : Nat → Int32) (call : Nat → List Value → am_H → Option am_X) (lv : am_L) (st : List Value) (h : am_H) (x : Int32) : am_f d scr L call 65 (n + 1) 4 lv (.int x :: st) h = am_f d scr L call 65 n 5 (am_st1 lv 3 (.int x)) st h := k_nx (i := .istore_n 3) rfl rfl
theorem s_65_5 (d L n : Nat) (scr : Nat → Int32) (call : Nat → List Value → am_H → Option am_X) (lv : am_L) (st : List Value) (h : am_H) : am_f d scr L call 65 (n + 1) 5 lv st h = (match am_ld lv 0 with
    | some (.ref x) => am_f d scr L call 65 n 6 lv (.ref x :: st) h
    | _ => none) := k_la (i := .aload_n 0) rfl rfl rfl rfl
theorem s_65_6 (d L n : Nat) (scr : Nat → Int32) (call : Nat → List Value → am_H → Option am_X) (lv : am_L) (st : List Value) (h : am_H) : am_f d scr L call 65 (n + 1) 6 lv st h = (match am_ld lv 3 with
    | some (.int x) => am_f d scr L call 65 n 7 lv (.int x :: st) h
    | _ => none) := k_li (i := .iload_n 3) rfl rfl rfl rfl
theorem s_65_7 (d L n : Nat) (scr : Nat → Int32) (call : Nat → List Value → am_H → Option am_X) (lv : am_L) (h : am_H) (o : Nat) (a0 : Int32)  : am_f d scr L call 65 (n + 1) 7 lv (.int a0 :: .ref o :: []) h = if am_at h o 6 = true then (match call 63 [.ref o, .int a0] h with
    | some (v, h', dk, dn) => am_add dk dn (am_f d scr L call 65 n 10 lv (v.toList ++ []) h')
    | none => none) else none := k_iv0 (k := 78) (as := [.int a0]) (r := []) rfl rfl rfl rfl (Nat.le_of_ble_eq_true rfl)
theorem s_65_10 (d L n : Nat) (scr : Nat → Int32) (call : Nat → List Value → am_H → Option am_X) (lv : am_L) (st : List Value) (h : am_H) (x : Int32) : am_f d scr L call 65 (n + 1) 10 lv (.int x :: st) h = if ¬ x = 0 then am_f d scr L call 65 n 15 lv st h else am_f d scr L call 65 n 13 lv st h := k_if_ne (o := 5) rfl ⟨by decide, rfl⟩
theorem s_65_13 (d L n : Nat) (scr : Nat → Int32) (call : Nat → List Value → am_H → Option am_X) (lv : am_L) (st : List Value) (h : am_H) : am_f d scr L call 65 (n + 1) 13 lv st h = am_f d scr L call 65 n 14 lv (.int 0 :: st) h := k_nx (i := .iconst 0) rfl rfl
theorem s_65_14 (d L n : Nat) (scr : Nat → Int32) (call : Nat → List Value → am_H → Option am_X) (lv : am_L) (h : am_H) (x : Int32) : am_f d scr L call 65 (n + 1) 14 lv [.int x] h = if x = 0 ∨ x = 1 then some (some (.int x), h, 0, 0) else none := k_zr rfl rfl
theorem s_65_15 (d L n : Nat) (scr : Nat → Int32) (call : Nat → List Value → am_H → Option am_X) (lv : am_L) (st : List Value) (h : am_H) : am_f d scr L call 65 (n + 1) 15 lv st h = (match am_ld lv 0 with
    | some (.ref x) => am_f d scr L call 65 n 16 lv (.ref x :: st) h
    | _ => none) := k_la (i := .aload_n 0) rfl rfl rfl rfl
theorem s_65_16 (d L n : Nat) (scr : Nat → Int32) (call : Nat → List Value → am_H → Option am_X) (lv : am_L) (st : List Value) (h : am_H) (x : Nat) : am_f d scr L call 65 (n + 1) 16 lv (.ref x :: st) h = am_f d scr L call 65 n 17 lv (.ref x :: .ref x :: st) h := k_nx (i := .dup) rfl rfl
theorem s_65_17 (d L n : Nat) (scr : Nat → Int32) (call : Nat → List Value → am_H → Option am_X) (lv : am_L) (st : List Value) (h : am_H) (a : Nat) : am_f d scr L call 65 (n + 1) 17 lv (.ref a :: st) h = (match am_get h a 6 3 with
    | some v => am_f d scr L call 65 n 20 lv (v :: st) h
    | none => none) := k_gf (k := 23) rfl rfl
theorem s_65_20 (d L n : Nat) (scr : Nat → Int32) (call : Nat → List Value → am_H → Option am_X) (lv : am_L) (st : List Value) (h : am_H) : am_f d scr L call 65 (n + 1) 20 lv st h = am_f d scr L call 65 n 21 lv (.int 1 :: st) h := k_nx (i := .iconst 1) rfl rfl
theorem s_65_21 (d L n : Nat) (scr : Nat → Int32) (call : Nat → List Value → am_H → Option am_X) (lv : am_L) (st : List Value) (h : am_H) (x y : Int32) : am_f d scr L call 65 (n + 1) 21 lv (.int y :: .int x :: st) h = am_f d scr L call 65 n 22 lv (.int (x + y) :: st) h := k_nx (i := .iadd) rfl rfl
theorem s_65_22 (d L n : Nat) (scr : Nat → Int32) (call : Nat → List Value → am_H → Option am_X) (lv : am_L) (st : List Value) (h : am_H) (x : Int32) (a : Nat) : am_f d scr L call 65 (n + 1) 22 lv (.int x :: .ref a :: st) h = (match am_put h a 6 3 (.int x) with
    | some h' => am_f d scr L call 65 n 25 lv st h'
    | none => none) := k_pf (k := 23) rfl rfl rfl
theorem s_65_25 (d L n : Nat) (scr : Nat → Int32) (call : Nat → List Value → am_H → Option am_X) (lv : am_L) (st : List Value) (h : am_H) : am_f d scr L call 65 (n + 1) 25 lv st h = (match am_ld lv 0 with
    | some (.ref x) => am_f d scr L call 65 n 26 lv (.ref x :: st) h
    | _ => none) := k_la (i := .aload_n 0) rfl rfl rfl rfl
theorem s_65_26 (d L n : Nat) (scr : Nat → Int32) (call : Nat → List Value → am_H → Option am_X) (lv : am_L) (st : List Value) (h : am_H) (a : Nat) : am_f d scr L call 65 (n + 1) 26 lv (.ref a :: st) h = (match am_get h a 6 0 with
    | some v => am_f d scr L call 65 n 29 lv (v :: st) h
    | none => none) := k_gf (k := 9) rfl rfl
theorem s_65_29 (d L n : Nat) (scr : Nat → Int32) (call : Nat → List Value → am_H → Option am_X) (lv : am_L) (st : List Value) (h : am_H) (a : Nat) : am_f d scr L call 65 (n + 1) 29 lv (.ref a :: st) h = (match am_get h a 5 1 with
    | some v => am_f d scr L call 65 n 32 lv (v :: st) h
    | none => none) := k_gf (k := 71) rfl rfl
theorem s_65_32 (d L n : Nat) (scr : Nat → Int32) (call : Nat → List Value → am_H → Option am_X) (lv : am_L) (st : List Value) (h : am_H) : am_f d scr L call 65 (n + 1) 32 lv st h = (match am_ld lv 1 with
    | some (.int x) => am_f d scr L call 65 n 33 lv (.int x :: st) h
    | _ => none) := k_li (i := .iload_n 1) rfl rfl rfl rfl
theorem s_65_33 (d L n : Nat) (scr : Nat → Int32) (call : Nat → List Value → am_H → Option am_X) (lv : am_L) (st : List Value) (h : am_H) : am_f d scr L call 65 (n + 1) 33 lv st h = am_f d scr L call 65 n 34 lv (.int 3 :: st) h := k_nx (i := .iconst 3) rfl rfl
theorem s_65_34 (d L n : Nat) (scr : Nat → Int32) (call : Nat → List Value → am_H → Option am_X) (lv : am_L) (st : List Value) (h : am_H) (a : Nat) (i : Int32) (x : Int32) : am_f d scr L call 65 (n + 1) 34 lv (.int x :: .int i :: .ref a :: st) h = (match am_ist h a i x with
    | some h' => am_f d scr L call 65 n 35 lv st h'
    | none => none) := k_is rfl
theorem s_65_35 (d L n : Nat) (scr : Nat → Int32) (call : Nat → List Value → am_H → Option am_X) (lv : am_L) (st : List Value) (h : am_H) : am_f d scr L call 65 (n + 1) 35 lv st h = (match am_ld lv 0 with
    | some (.ref x) => am_f d scr L call 65 n 36 lv (.ref x :: st) h
    | _ => none) := k_la (i := .aload_n 0) rfl rfl rfl rfl
theorem s_65_36 (d L n : Nat) (scr : Nat → Int32) (call : Nat → List Value → am_H → Option am_X) (lv : am_L) (st : List Value) (h : am_H) (a : Nat) : am_f d scr L call 65 (n + 1) 36 lv (.ref a :: st) h = (match am_get h a 6 0 with
    | some v => am_f d scr L call 65 n 39 lv (v :: st) h
    | none => none) := k_gf (k := 9) rfl rfl
theorem s_65_39 (d L n : Nat) (scr : Nat → Int32) (call : Nat → List Value → am_H → Option am_X) (lv : am_L) (st : List Value) (h : am_H) (a : Nat) : am_f d scr L call 65 (n + 1) 39 lv (.ref a :: st) h = (match am_get h a 5 6 with
    | some v => am_f d scr L call 65 n 42 lv (v :: st) h
    | none => none) := k_gf (k := 75) rfl rfl
theorem s_65_42 (d L n : Nat) (scr : Nat → Int32) (call : Nat → List Value → am_H → Option am_X) (lv : am_L) (st : List Value) (h : am_H) : am_f d scr L call 65 (n + 1) 42 lv st h = (match am_ld lv 1 with
    | some (.int x) => am_f d scr L call 65 n 43 lv (.int x :: st) h
    | _ => none) := k_li (i := .iload_n 1) rfl rfl rfl rfl
theorem s_65_43 (d L n : Nat) (scr : Nat → Int32) (call : Nat → List Value → am_H → Option am_X) (lv : am_L) (st : List Value) (h : am_H) : am_f d scr L call 65 (n + 1) 43 lv st h = (match am_ld lv 3 with
    | some (.int x) => am_f d scr L call 65 n 44 lv (.int x :: st) h
    | _ => none) := k_li (i := .iload_n 3) rfl rfl rfl rfl
theorem s_65_44 (d L n : Nat) (scr : Nat → Int32) (call : Nat → List Value → am_H → Option am_X) (lv : am_L) (st : List Value) (h : am_H) (a : Nat) (i : Int32) (x : Int32) : am_f d scr L call 65 (n + 1) 44 lv (.int x :: .int i :: .ref a :: st) h = (match am_ist h a i x with
    | some h' => am_f d scr L call 65 n 45 lv st h'
    | none => none) := k_is rfl
theorem s_65_45 (d L n : Nat) (scr : Nat → Int32) (call : Nat → List Value → am_H → Option am_X) (lv : am_L) (st : List Value) (h : am_H) : am_f d scr L call 65 (n + 1) 45 lv st h = (match am_ld lv 0 with
    | some (.ref x) => am_f d scr L call 65 n 46 lv (.ref x :: st) h
    | _ => none) := k_la (i := .aload_n 0) rfl rfl rfl rfl
theorem s_65_46 (d L n : Nat) (scr : Nat → Int32) (call : Nat → List Value → am_H → Option am_X) (lv : am_L) (st : List Value) (h : am_H) : am_f d scr L call 65 (n + 1) 46 lv st h = am_f d scr L call 65 n 48 lv (.int 58 :: st) h := k_nx (i := .bipush 58) rfl rfl
theorem s_65_48 (d L n : Nat) (scr : Nat → Int32) (call : Nat → List Value → am_H → Option am_X) (lv : am_L) (h : am_H) (o : Nat) (a0 : Int32)  : am_f d scr L call 65 (n + 1) 48 lv (.int a0 :: .ref o :: []) h = if am_at h o 6 = true then (match call 60 [.ref o, .int a0] h with
    | some (v, h', dk, dn) => am_add dk dn (am_f d scr L call 65 n 51 lv (v.toList ++ []) h')
    | none => none) else none := k_iv0 (k := 85) (as := [.int a0]) (r := []) rfl rfl rfl rfl (Nat.le_of_ble_eq_true rfl)
theorem s_65_51 (d L n : Nat) (scr : Nat → Int32) (call : Nat → List Value → am_H → Option am_X) (lv : am_L) (st : List Value) (h : am_H) (x : Int32) : am_f d scr L call 65 (n + 1) 51 lv (.int x :: st) h = if x = 0 then am_f d scr L call 65 n 85 lv st h else am_f d scr L call 65 n 54 lv st h := k_if_eq (o := 34) rfl ⟨by decide, rfl⟩
theorem s_65_54 (d L n : Nat) (scr : Nat → Int32) (call : Nat → List Value → am_H → Option am_X) (lv : am_L) (st : List Value) (h : am_H) : am_f d scr L call 65 (n + 1) 54 lv st h = (match am_ld lv 0 with
    | some (.ref x) => am_f d scr L call 65 n 55 lv (.ref x :: st) h
    | _ => none) := k_la (i := .aload_n 0) rfl rfl rfl rfl
theorem s_65_55 (d L n : Nat) (scr : Nat → Int32) (call : Nat → List Value → am_H → Option am_X) (lv : am_L) (st : List Value) (h : am_H) : am_f d scr L call 65 (n + 1) 55 lv st h = (match am_ld lv 1 with
    | some (.int x) => am_f d scr L call 65 n 56 lv (.int x :: st) h
    | _ => none) := k_li (i := .iload_n 1) rfl rfl rfl rfl
theorem s_65_56 (d L n : Nat) (scr : Nat → Int32) (call : Nat → List Value → am_H → Option am_X) (lv : am_L) (st : List Value) (h : am_H) : am_f d scr L call 65 (n + 1) 56 lv st h = (match am_ld lv 2 with
    | some (.int x) => am_f d scr L call 65 n 57 lv (.int x :: st) h
    | _ => none) := k_li (i := .iload_n 2) rfl rfl rfl rfl
theorem s_65_57 (d L n : Nat) (scr : Nat → Int32) (call : Nat → List Value → am_H → Option am_X) (lv : am_L) (h : am_H) (o : Nat) (a0 : Int32) (a1 : Int32)  : am_f d scr L call 65 (n + 1) 57 lv (.int a1 :: .int a0 :: .ref o :: []) h = if am_at h o 6 = true then (match call 73 [.ref o, .int a0, .int a1] h with
    | some (v, h', dk, dn) => am_add dk dn (am_f d scr L call 65 n 60 lv (v.toList ++ []) h')
    | none => none) else none := k_iv0 (k := 88) (as := [.int a0, .int a1]) (r := []) rfl rfl rfl rfl (Nat.le_of_ble_eq_true rfl)
theorem s_65_60 (d L n : Nat) (scr : Nat → Int32) (call : Nat → List Value → am_H → Option am_X) (lv : am_L) (st : List Value) (h : am_H) (x : Int32) : am_f d scr L call 65 (n + 1) 60 lv (.int x :: st) h = if x = 0 then am_f d scr L call 65 n 85 lv st h else am_f d scr L call 65 n 63 lv st h := k_if_eq (o := 25) rfl ⟨by decide, rfl⟩
theorem s_65_63 (d L n : Nat) (scr : Nat → Int32) (call : Nat → List Value → am_H → Option am_X) (lv : am_L) (st : List Value) (h : am_H) : am_f d scr L call 65 (n + 1) 63 lv st h = (match am_ld lv 0 with
    | some (.ref x) => am_f d scr L call 65 n 64 lv (.ref x :: st) h
    | _ => none) := k_la (i := .aload_n 0) rfl rfl rfl rfl
theorem s_65_64 (d L n : Nat) (scr : Nat → Int32) (call : Nat → List Value → am_H → Option am_X) (lv : am_L) (st : List Value) (h : am_H) : am_f d scr L call 65 (n + 1) 64 lv st h = am_f d scr L call 65 n 66 lv (.int 46 :: st) h := k_nx (i := .bipush 46) rfl rfl
theorem s_65_66 (d L n : Nat) (scr : Nat → Int32) (call : Nat → List Value → am_H → Option am_X) (lv : am_L) (h : am_H) (o : Nat) (a0 : Int32)  : am_f d scr L call 65 (n + 1) 66 lv (.int a0 :: .ref o :: []) h = if am_at h o 6 = true then (match call 60 [.ref o, .int a0] h with
    | some (v, h', dk, dn) => am_add dk dn (am_f d scr L call 65 n 69 lv (v.toList ++ []) h')
    | none => none) else none := k_iv0 (k := 85) (as := [.int a0]) (r := []) rfl rfl rfl rfl (Nat.le_of_ble_eq_true rfl)
theorem s_65_69 (d L n : Nat) (scr : Nat → Int32) (call : Nat → List Value → am_H → Option am_X) (lv : am_L) (st : List Value) (h : am_H) (x : Int32) : am_f d scr L call 65 (n + 1) 69 lv (.int x :: st) h = if x = 0 then am_f d scr L call 65 n 85 lv st h else am_f d scr L call 65 n 72 lv st h := k_if_eq (o := 16) rfl ⟨by decide, rfl⟩
theorem s_65_72 (d L n : Nat) (scr : Nat → Int32) (call : Nat → List Value → am_H → Option am_X) (lv : am_L) (st : List Value) (h : am_H) : am_f d scr L call 65 (n + 1) 72 lv st h = (match am_ld lv 0 with
    | some (.ref x) => am_f d scr L call 65 n 73 lv (.ref x :: st) h
    | _ => none) := k_la (i := .aload_n 0) rfl rfl rfl rfl
theorem s_65_73 (d L n : Nat) (scr : Nat → Int32) (call : Nat → List Value → am_H → Option am_X) (lv : am_L) (st : List Value) (h : am_H) : am_f d scr L call 65 (n + 1) 73 lv st h = (match am_ld lv 1 with
    | some (.int x) => am_f d scr L call 65 n 74 lv (.int x :: st) h
    | _ => none) := k_li (i := .iload_n 1) rfl rfl rfl rfl
theorem s_65_74 (d L n : Nat) (scr : Nat → Int32) (call : Nat → List Value → am_H → Option am_X) (lv : am_L) (st : List Value) (h : am_H) : am_f d scr L call 65 (n + 1) 74 lv st h = (match am_ld lv 2 with
    | some (.int x) => am_f d scr L call 65 n 75 lv (.int x :: st) h
    | _ => none) := k_li (i := .iload_n 2) rfl rfl rfl rfl
theorem s_65_75 (d L n : Nat) (scr : Nat → Int32) (call : Nat → List Value → am_H → Option am_X) (lv : am_L) (h : am_H) (o : Nat) (a0 : Int32) (a1 : Int32)  : am_f d scr L call 65 (n + 1) 75 lv (.int a1 :: .int a0 :: .ref o :: []) h = if am_at h o 6 = true then (match call 71 [.ref o, .int a0, .int a1] h with
    | some (v, h', dk, dn) => am_add dk dn (am_f d scr L call 65 n 78 lv (v.toList ++ []) h')
    | none => none) else none := k_iv0 (k := 91) (as := [.int a0, .int a1]) (r := []) rfl rfl rfl rfl (Nat.le_of_ble_eq_true rfl)
theorem s_65_78 (d L n : Nat) (scr : Nat → Int32) (call : Nat → List Value → am_H → Option am_X) (lv : am_L) (st : List Value) (h : am_H) (x : Int32) : am_f d scr L call 65 (n + 1) 78 lv (.int x :: st) h = if x = 0 then am_f d scr L call 65 n 85 lv st h else am_f d scr L call 65 n 81 lv st h := k_if_eq (o := 7) rfl ⟨by decide, rfl⟩
theorem s_65_81 (d L n : Nat) (scr : Nat → Int32) (call : Nat → List Value → am_H → Option am_X) (lv : am_L) (st : List Value) (h : am_H) : am_f d scr L call 65 (n + 1) 81 lv st h = am_f d scr L call 65 n 82 lv (.int 1 :: st) h := k_nx (i := .iconst 1) rfl rfl
theorem s_65_82 (d L n : Nat) (scr : Nat → Int32) (call : Nat → List Value → am_H → Option am_X) (lv : am_L) (st : List Value) (h : am_H) : am_f d scr L call 65 (n + 1) 82 lv st h = am_f d scr L call 65 n 86 lv st h := k_nx (i := .goto 4) rfl rfl
theorem s_65_85 (d L n : Nat) (scr : Nat → Int32) (call : Nat → List Value → am_H → Option am_X) (lv : am_L) (st : List Value) (h : am_H) : am_f d scr L call 65 (n + 1) 85 lv st h = am_f d scr L call 65 n 86 lv (.int 0 :: st) h := k_nx (i := .iconst 0) rfl rfl
theorem s_65_86 (d L n : Nat) (scr : Nat → Int32) (call : Nat → List Value → am_H → Option am_X) (lv : am_L) (h : am_H) (x : Int32) : am_f d scr L call 65 (n + 1) 86 lv [.int x] h = if x = 0 ∨ x = 1 then some (some (.int x), h, 0, 0) else none := k_zr rfl rfl
-- 66: BlameDesk$Reader.readPair(II)Z
theorem s_66_0 (d L n : Nat) (scr : Nat → Int32) (call : Nat → List Value → am_H → Option am_X) (lv : am_L) (st : List Value) (h : am_H) : am_f d scr L call 66 (n + 1) 0 lv st h = (match am_ld lv 0 with
    | some (.ref x) => am_f d scr L call 66 n 1 lv (.ref x :: st) h
    | _ => none) := k_la (i := .aload_n 0) rfl rfl rfl rfl
theorem s_66_1 (d L n : Nat) (scr : Nat → Int32) (call : Nat → List Value → am_H → Option am_X) (lv : am_L) (st : List Value) (h : am_H) : am_f d scr L call 66 (n + 1) 1 lv st h = (match am_ld lv 1 with
    | some (.int x) => am_f d scr L call 66 n 2 lv (.int x :: st) h
    | _ => none) := k_li (i := .iload_n 1) rfl rfl rfl rfl
theorem s_66_2 (d L n : Nat) (scr : Nat → Int32) (call : Nat → List Value → am_H → Option am_X) (lv : am_L) (st : List Value) (h : am_H) : am_f d scr L call 66 (n + 1) 2 lv st h = (match am_ld lv 2 with
    | some (.int x) => am_f d scr L call 66 n 3 lv (.int x :: st) h
    | _ => none) := k_li (i := .iload_n 2) rfl rfl rfl rfl
theorem s_66_3 (d L n : Nat) (scr : Nat → Int32) (call : Nat → List Value → am_H → Option am_X) (lv : am_L) (h : am_H) (o : Nat) (a0 : Int32) (a1 : Int32)  : am_f d scr L call 66 (n + 1) 3 lv (.int a1 :: .int a0 :: .ref o :: []) h = if am_at h o 6 = true then (match call 71 [.ref o, .int a0, .int a1] h with
    | some (v, h', dk, dn) => am_add dk dn (am_f d scr L call 66 n 6 lv (v.toList ++ []) h')
    | none => none) else none := k_iv0 (k := 91) (as := [.int a0, .int a1]) (r := []) rfl rfl rfl rfl (Nat.le_of_ble_eq_true rfl)
theorem s_66_6 (d L n : Nat) (scr : Nat → Int32) (call : Nat → List Value → am_H → Option am_X) (lv : am_L) (st : List Value) (h : am_H) (x : Int32) : am_f d scr L call 66 (n + 1) 6 lv (.int x :: st) h = if ¬ x = 0 then am_f d scr L call 66 n 11 lv st h else am_f d scr L call 66 n 9 lv st h := k_if_ne (o := 5) rfl ⟨by decide, rfl⟩
theorem s_66_9 (d L n : Nat) (scr : Nat → Int32) (call : Nat → List Value → am_H → Option am_X) (lv : am_L) (st : List Value) (h : am_H) : am_f d scr L call 66 (n + 1) 9 lv st h = am_f d scr L call 66 n 10 lv (.int 0 :: st) h := k_nx (i := .iconst 0) rfl rfl
theorem s_66_10 (d L n : Nat) (scr : Nat → Int32) (call : Nat → List Value → am_H → Option am_X) (lv : am_L) (h : am_H) (x : Int32) : am_f d scr L call 66 (n + 1) 10 lv [.int x] h = if x = 0 ∨ x = 1 then some (some (.int x), h, 0, 0) else none := k_zr rfl rfl
theorem s_66_11 (d L n : Nat) (scr : Nat → Int32) (call : Nat → List Value → am_H → Option am_X) (lv : am_L) (st : List Value) (h : am_H) : am_f d scr L call 66 (n + 1) 11 lv st h = (match am_ld lv 0 with
    | some (.ref x) => am_f d scr L call 66 n 12 lv (.ref x :: st) h
    | _ => none) := k_la (i := .aload_n 0) rfl rfl rfl rfl
theorem s_66_12 (d L n : Nat) (scr : Nat → Int32) (call : Nat → List Value → am_H → Option am_X) (lv : am_L) (st : List Value) (h : am_H) (a : Nat) : am_f d scr L call 66 (n + 1) 12 lv (.ref a :: st) h = (match am_get h a 6 0 with
    | some v => am_f d scr L call 66 n 15 lv (v :: st) h
    | none => none) := k_gf (k := 9) rfl rfl
theorem s_66_15 (d L n : Nat) (scr : Nat → Int32) (call : Nat → List Value → am_H → Option am_X) (lv : am_L) (st : List Value) (h : am_H) (a : Nat) : am_f d scr L call 66 (n + 1) 15 lv (.ref a :: st) h = (match am_get h a 5 1 with
    | some v => am_f d scr L call 66 n 18 lv (v :: st) h
    | none => none) := k_gf (k := 71) rfl rfl
theorem s_66_18 (d L n : Nat) (scr : Nat → Int32) (call : Nat → List Value → am_H → Option am_X) (lv : am_L) (st : List Value) (h : am_H) : am_f d scr L call 66 (n + 1) 18 lv st h = (match am_ld lv 1 with
    | some (.int x) => am_f d scr L call 66 n 19 lv (.int x :: st) h
    | _ => none) := k_li (i := .iload_n 1) rfl rfl rfl rfl
theorem s_66_19 (d L n : Nat) (scr : Nat → Int32) (call : Nat → List Value → am_H → Option am_X) (lv : am_L) (st : List Value) (h : am_H) : am_f d scr L call 66 (n + 1) 19 lv st h = (match am_ld lv 0 with
    | some (.ref x) => am_f d scr L call 66 n 20 lv (.ref x :: st) h
    | _ => none) := k_la (i := .aload_n 0) rfl rfl rfl rfl
theorem s_66_20 (d L n : Nat) (scr : Nat → Int32) (call : Nat → List Value → am_H → Option am_X) (lv : am_L) (h : am_H) (o : Nat)  (r0 : Int32) (r1 : Nat) : am_f d scr L call 66 (n + 1) 20 lv (.ref o :: .int r0 :: .ref r1 :: []) h = if am_at h o 6 = true then (match call 59 [.ref o] h with
    | some (v, h', dk, dn) => am_add dk dn (am_f d scr L call 66 n 23 lv (v.toList ++ [.int r0, .ref r1]) h')
    | none => none) else none := k_iv0 (k := 35) (as := []) (r := [.int r0, .ref r1]) rfl rfl rfl rfl (Nat.le_of_ble_eq_true rfl)
theorem s_66_23 (d L n : Nat) (scr : Nat → Int32) (call : Nat → List Value → am_H → Option am_X) (lv : am_L) (st : List Value) (h : am_H) : am_f d scr L call 66 (n + 1) 23 lv st h = am_f d scr L call 66 n 25 lv (.int 61 :: st) h := k_nx (i := .bipush 61) rfl rfl
theorem s_66_25 (d L n : Nat) (scr : Nat → Int32) (call : Nat → List Value → am_H → Option am_X) (lv : am_L) (st : List Value) (h : am_H) (x y : Int32) : am_f d scr L call 66 (n + 1) 25 lv (.int y :: .int x :: st) h = if ¬ x = y then am_f d scr L call 66 n 32 lv st h else am_f d scr L call 66 n 28 lv st h := k_ic_ne (o := 7) rfl ⟨by decide, rfl⟩
theorem s_66_28 (d L n : Nat) (scr : Nat → Int32) (call : Nat → List Value → am_H → Option am_X) (lv : am_L) (st : List Value) (h : am_H) : am_f d scr L call 66 (n + 1) 28 lv st h = am_f d scr L call 66 n 29 lv (.int 5 :: st) h := k_nx (i := .iconst 5) rfl rfl
theorem s_66_29 (d L n : Nat) (scr : Nat → Int32) (call : Nat → List Value → am_H → Option am_X) (lv : am_L) (st : List Value) (h : am_H) : am_f d scr L call 66 (n + 1) 29 lv st h = am_f d scr L call 66 n 33 lv st h := k_nx (i := .goto 4) rfl rfl
theorem s_66_32 (d L n : Nat) (scr : Nat → Int32) (call : Nat → List Value → am_H → Option am_X) (lv : am_L) (st : List Value) (h : am_H) : am_f d scr L call 66 (n + 1) 32 lv st h = am_f d scr L call 66 n 33 lv (.int 4 :: st) h := k_nx (i := .iconst 4) rfl rfl
theorem s_66_33 (d L n : Nat) (scr : Nat → Int32) (call : Nat → List Value → am_H → Option am_X) (lv : am_L) (st : List Value) (h : am_H) (a : Nat) (i : Int32) (x : Int32) : am_f d scr L call 66 (n + 1) 33 lv (.int x :: .int i :: .ref a :: st) h = (match am_ist h a i x with
    | some h' => am_f d scr L call 66 n 34 lv st h'
    | none => none) := k_is rfl
theorem s_66_34 (d L n : Nat) (scr : Nat → Int32) (call : Nat → List Value → am_H → Option am_X) (lv : am_L) (st : List Value) (h : am_H) : am_f d scr L call 66 (n + 1) 34 lv st h = (match am_ld lv 0 with
    | some (.ref x) => am_f d scr L call 66 n 35 lv (.ref x :: st) h
    | _ => none) := k_la (i := .aload_n 0) rfl rfl rfl rfl
theorem s_66_35 (d L n : Nat) (scr : Nat → Int32) (call : Nat → List Value → am_H → Option am_X) (lv : am_L) (st : List Value) (h : am_H) : am_f d scr L call 66 (n + 1) 35 lv st h = am_f d scr L call 66 n 37 lv (.int 61 :: st) h := k_nx (i := .bipush 61) rfl rfl
theorem s_66_37 (d L n : Nat) (scr : Nat → Int32) (call : Nat → List Value → am_H → Option am_X) (lv : am_L) (h : am_H) (o : Nat) (a0 : Int32)  : am_f d scr L call 66 (n + 1) 37 lv (.int a0 :: .ref o :: []) h = if am_at h o 6 = true then (match call 60 [.ref o, .int a0] h with
    | some (v, h', dk, dn) => am_add dk dn (am_f d scr L call 66 n 40 lv (v.toList ++ []) h')
    | none => none) else none := k_iv0 (k := 85) (as := [.int a0]) (r := []) rfl rfl rfl rfl (Nat.le_of_ble_eq_true rfl)
theorem s_66_40 (d L n : Nat) (scr : Nat → Int32) (call : Nat → List Value → am_H → Option am_X) (lv : am_L) (st : List Value) (h : am_H) (x : Int32) : am_f d scr L call 66 (n + 1) 40 lv (.int x :: st) h = if ¬ x = 0 then am_f d scr L call 66 n 52 lv st h else am_f d scr L call 66 n 43 lv st h := k_if_ne (o := 12) rfl ⟨by decide, rfl⟩
theorem s_66_43 (d L n : Nat) (scr : Nat → Int32) (call : Nat → List Value → am_H → Option am_X) (lv : am_L) (st : List Value) (h : am_H) : am_f d scr L call 66 (n + 1) 43 lv st h = (match am_ld lv 0 with
    | some (.ref x) => am_f d scr L call 66 n 44 lv (.ref x :: st) h
    | _ => none) := k_la (i := .aload_n 0) rfl rfl rfl rfl
theorem s_66_44 (d L n : Nat) (scr : Nat → Int32) (call : Nat → List Value → am_H → Option am_X) (lv : am_L) (st : List Value) (h : am_H) : am_f d scr L call 66 (n + 1) 44 lv st h = am_f d scr L call 66 n 46 lv (.int 32 :: st) h := k_nx (i := .bipush 32) rfl rfl
theorem s_66_46 (d L n : Nat) (scr : Nat → Int32) (call : Nat → List Value → am_H → Option am_X) (lv : am_L) (h : am_H) (o : Nat) (a0 : Int32)  : am_f d scr L call 66 (n + 1) 46 lv (.int a0 :: .ref o :: []) h = if am_at h o 6 = true then (match call 60 [.ref o, .int a0] h with
    | some (v, h', dk, dn) => am_add dk dn (am_f d scr L call 66 n 49 lv (v.toList ++ []) h')
    | none => none) else none := k_iv0 (k := 85) (as := [.int a0]) (r := []) rfl rfl rfl rfl (Nat.le_of_ble_eq_true rfl)
theorem s_66_49 (d L n : Nat) (scr : Nat → Int32) (call : Nat → List Value → am_H → Option am_X) (lv : am_L) (st : List Value) (h : am_H) (x : Int32) : am_f d scr L call 66 (n + 1) 49 lv (.int x :: st) h = if x = 0 then am_f d scr L call 66 n 74 lv st h else am_f d scr L call 66 n 52 lv st h := k_if_eq (o := 25) rfl ⟨by decide, rfl⟩
theorem s_66_52 (d L n : Nat) (scr : Nat → Int32) (call : Nat → List Value → am_H → Option am_X) (lv : am_L) (st : List Value) (h : am_H) : am_f d scr L call 66 (n + 1) 52 lv st h = (match am_ld lv 0 with
    | some (.ref x) => am_f d scr L call 66 n 53 lv (.ref x :: st) h
    | _ => none) := k_la (i := .aload_n 0) rfl rfl rfl rfl
theorem s_66_53 (d L n : Nat) (scr : Nat → Int32) (call : Nat → List Value → am_H → Option am_X) (lv : am_L) (st : List Value) (h : am_H) : am_f d scr L call 66 (n + 1) 53 lv st h = (match am_ld lv 1 with
    | some (.int x) => am_f d scr L call 66 n 54 lv (.int x :: st) h
    | _ => none) := k_li (i := .iload_n 1) rfl rfl rfl rfl
theorem s_66_54 (d L n : Nat) (scr : Nat → Int32) (call : Nat → List Value → am_H → Option am_X) (lv : am_L) (st : List Value) (h : am_H) : am_f d scr L call 66 (n + 1) 54 lv st h = (match am_ld lv 2 with
    | some (.int x) => am_f d scr L call 66 n 55 lv (.int x :: st) h
    | _ => none) := k_li (i := .iload_n 2) rfl rfl rfl rfl
theorem s_66_55 (d L n : Nat) (scr : Nat → Int32) (call : Nat → List Value → am_H → Option am_X) (lv : am_L) (h : am_H) (o : Nat) (a0 : Int32) (a1 : Int32)  : am_f d scr L call 66 (n + 1) 55 lv (.int a1 :: .int a0 :: .ref o :: []) h = if am_at h o 6 = true then (match call 72 [.ref o, .int a0, .int a1] h with
    | some (v, h', dk, dn) => am_add dk dn (am_f d scr L call 66 n 58 lv (v.toList ++ []) h')
    | none => none) else none := k_iv0 (k := 94) (as := [.int a0, .int a1]) (r := []) rfl rfl rfl rfl (Nat.le_of_ble_eq_true rfl)
theorem s_66_58 (d L n : Nat) (scr : Nat → Int32) (call : Nat → List Value → am_H → Option am_X) (lv : am_L) (st : List Value) (h : am_H) (x : Int32) : am_f d scr L call 66 (n + 1) 58 lv (.int x :: st) h = if x = 0 then am_f d scr L call 66 n 74 lv st h else am_f d scr L call 66 n 61 lv st h := k_if_eq (o := 16) rfl ⟨by decide, rfl⟩
theorem s_66_61 (d L n : Nat) (scr : Nat → Int32) (call : Nat → List Value → am_H → Option am_X) (lv : am_L) (st : List Value) (h : am_H) : am_f d scr L call 66 (n + 1) 61 lv st h = (match am_ld lv 0 with
    | some (.ref x) => am_f d scr L call 66 n 62 lv (.ref x :: st) h
    | _ => none) := k_la (i := .aload_n 0) rfl rfl rfl rfl
theorem s_66_62 (d L n : Nat) (scr : Nat → Int32) (call : Nat → List Value → am_H → Option am_X) (lv : am_L) (st : List Value) (h : am_H) : am_f d scr L call 66 (n + 1) 62 lv st h = am_f d scr L call 66 n 64 lv (.int 41 :: st) h := k_nx (i := .bipush 41) rfl rfl
theorem s_66_64 (d L n : Nat) (scr : Nat → Int32) (call : Nat → List Value → am_H → Option am_X) (lv : am_L) (h : am_H) (o : Nat) (a0 : Int32)  : am_f d scr L call 66 (n + 1) 64 lv (.int a0 :: .ref o :: []) h = if am_at h o 6 = true then (match call 60 [.ref o, .int a0] h with
    | some (v, h', dk, dn) => am_add dk dn (am_f d scr L call 66 n 67 lv (v.toList ++ []) h')
    | none => none) else none := k_iv0 (k := 85) (as := [.int a0]) (r := []) rfl rfl rfl rfl (Nat.le_of_ble_eq_true rfl)
theorem s_66_67 (d L n : Nat) (scr : Nat → Int32) (call : Nat → List Value → am_H → Option am_X) (lv : am_L) (st : List Value) (h : am_H) (x : Int32) : am_f d scr L call 66 (n + 1) 67 lv (.int x :: st) h = if x = 0 then am_f d scr L call 66 n 74 lv st h else am_f d scr L call 66 n 70 lv st h := k_if_eq (o := 7) rfl ⟨by decide, rfl⟩
theorem s_66_70 (d L n : Nat) (scr : Nat → Int32) (call : Nat → List Value → am_H → Option am_X) (lv : am_L) (st : List Value) (h : am_H) : am_f d scr L call 66 (n + 1) 70 lv st h = am_f d scr L call 66 n 71 lv (.int 1 :: st) h := k_nx (i := .iconst 1) rfl rfl
theorem s_66_71 (d L n : Nat) (scr : Nat → Int32) (call : Nat → List Value → am_H → Option am_X) (lv : am_L) (st : List Value) (h : am_H) : am_f d scr L call 66 (n + 1) 71 lv st h = am_f d scr L call 66 n 75 lv st h := k_nx (i := .goto 4) rfl rfl
theorem s_66_74 (d L n : Nat) (scr : Nat → Int32) (call : Nat → List Value → am_H → Option am_X) (lv : am_L) (st : List Value) (h : am_H) : am_f d scr L call 66 (n + 1) 74 lv st h = am_f d scr L call 66 n 75 lv (.int 0 :: st) h := k_nx (i := .iconst 0) rfl rfl
theorem s_66_75 (d L n : Nat) (scr : Nat → Int32) (call : Nat → List Value → am_H → Option am_X) (lv : am_L) (h : am_H) (x : Int32) : am_f d scr L call 66 (n + 1) 75 lv [.int x] h = if x = 0 ∨ x = 1 then some (some (.int x), h, 0, 0) else none := k_zr rfl rfl
-- 67: BlameDesk$Reader.readOperation(II)Z
theorem s_67_0 (d L n : Nat) (scr : Nat → Int32) (call : Nat → List Value → am_H → Option am_X) (lv : am_L) (st : List Value) (h : am_H) : am_f d scr L call 67 (n + 1) 0 lv st h = (match am_ld lv 0 with
    | some (.ref x) => am_f d scr L call 67 n 1 lv (.ref x :: st) h
    | _ => none) := k_la (i := .aload_n 0) rfl rfl rfl rfl
theorem s_67_1 (d L n : Nat) (scr : Nat → Int32) (call : Nat → List Value → am_H → Option am_X) (lv : am_L) (st : List Value) (h : am_H) : am_f d scr L call 67 (n + 1) 1 lv st h = (match am_ld lv 1 with
    | some (.int x) => am_f d scr L call 67 n 2 lv (.int x :: st) h
    | _ => none) := k_li (i := .iload_n 1) rfl rfl rfl rfl
theorem s_67_2 (d L n : Nat) (scr : Nat → Int32) (call : Nat → List Value → am_H → Option am_X) (lv : am_L) (st : List Value) (h : am_H) : am_f d scr L call 67 (n + 1) 2 lv st h = (match am_ld lv 2 with
    | some (.int x) => am_f d scr L call 67 n 3 lv (.int x :: st) h
    | _ => none) := k_li (i := .iload_n 2) rfl rfl rfl rfl
theorem s_67_3 (d L n : Nat) (scr : Nat → Int32) (call : Nat → List Value → am_H → Option am_X) (lv : am_L) (h : am_H) (o : Nat) (a0 : Int32) (a1 : Int32)  : am_f d scr L call 67 (n + 1) 3 lv (.int a1 :: .int a0 :: .ref o :: []) h = if am_at h o 6 = true then (match call 71 [.ref o, .int a0, .int a1] h with
    | some (v, h', dk, dn) => am_add dk dn (am_f d scr L call 67 n 6 lv (v.toList ++ []) h')
    | none => none) else none := k_iv0 (k := 91) (as := [.int a0, .int a1]) (r := []) rfl rfl rfl rfl (Nat.le_of_ble_eq_true rfl)
theorem s_67_6 (d L n : Nat) (scr : Nat → Int32) (call : Nat → List Value → am_H → Option am_X) (lv : am_L) (st : List Value) (h : am_H) (x : Int32) : am_f d scr L call 67 (n + 1) 6 lv (.int x :: st) h = if ¬ x = 0 then am_f d scr L call 67 n 11 lv st h else am_f d scr L call 67 n 9 lv st h := k_if_ne (o := 5) rfl ⟨by decide, rfl⟩
theorem s_67_9 (d L n : Nat) (scr : Nat → Int32) (call : Nat → List Value → am_H → Option am_X) (lv : am_L) (st : List Value) (h : am_H) : am_f d scr L call 67 (n + 1) 9 lv st h = am_f d scr L call 67 n 10 lv (.int 0 :: st) h := k_nx (i := .iconst 0) rfl rfl
theorem s_67_10 (d L n : Nat) (scr : Nat → Int32) (call : Nat → List Value → am_H → Option am_X) (lv : am_L) (h : am_H) (x : Int32) : am_f d scr L call 67 (n + 1) 10 lv [.int x] h = if x = 0 ∨ x = 1 then some (some (.int x), h, 0, 0) else none := k_zr rfl rfl
theorem s_67_11 (d L n : Nat) (scr : Nat → Int32) (call : Nat → List Value → am_H → Option am_X) (lv : am_L) (st : List Value) (h : am_H) : am_f d scr L call 67 (n + 1) 11 lv st h = (match am_ld lv 0 with
    | some (.ref x) => am_f d scr L call 67 n 12 lv (.ref x :: st) h
    | _ => none) := k_la (i := .aload_n 0) rfl rfl rfl rfl
theorem s_67_12 (d L n : Nat) (scr : Nat → Int32) (call : Nat → List Value → am_H → Option am_X) (lv : am_L) (h : am_H) (o : Nat)   : am_f d scr L call 67 (n + 1) 12 lv (.ref o :: []) h = if am_at h o 6 = true then (match call 59 [.ref o] h with
    | some (v, h', dk, dn) => am_add dk dn (am_f d scr L call 67 n 15 lv (v.toList ++ []) h')
    | none => none) else none := k_iv0 (k := 35) (as := []) (r := []) rfl rfl rfl rfl (Nat.le_of_ble_eq_true rfl)
theorem s_67_15 (d L n : Nat) (scr : Nat → Int32) (call : Nat → List Value → am_H → Option am_X) (lv : am_L) (st : List Value) (h : am_H) (x : Int32) : am_f d scr L call 67 (n + 1) 15 lv (.int x :: st) h = am_f d scr L call 67 n 16 (am_st1 lv 3 (.int x)) st h := k_nx (i := .istore_n 3) rfl rfl
theorem s_67_16 (d L n : Nat) (scr : Nat → Int32) (call : Nat → List Value → am_H → Option am_X) (lv : am_L) (st : List Value) (h : am_H) : am_f d scr L call 67 (n + 1) 16 lv st h = (match am_ld lv 0 with
    | some (.ref x) => am_f d scr L call 67 n 17 lv (.ref x :: st) h
    | _ => none) := k_la (i := .aload_n 0) rfl rfl rfl rfl
theorem s_67_17 (d L n : Nat) (scr : Nat → Int32) (call : Nat → List Value → am_H → Option am_X) (lv : am_L) (st : List Value) (h : am_H) (a : Nat) : am_f d scr L call 67 (n + 1) 17 lv (.ref a :: st) h = (match am_get h a 6 0 with
    | some v => am_f d scr L call 67 n 20 lv (v :: st) h
    | none => none) := k_gf (k := 9) rfl rfl
theorem s_67_20 (d L n : Nat) (scr : Nat → Int32) (call : Nat → List Value → am_H → Option am_X) (lv : am_L) (st : List Value) (h : am_H) (a : Nat) : am_f d scr L call 67 (n + 1) 20 lv (.ref a :: st) h = (match am_get h a 5 1 with
    | some v => am_f d scr L call 67 n 23 lv (v :: st) h
    | none => none) := k_gf (k := 71) rfl rfl
theorem s_67_23 (d L n : Nat) (scr : Nat → Int32) (call : Nat → List Value → am_H → Option am_X) (lv : am_L) (st : List Value) (h : am_H) : am_f d scr L call 67 (n + 1) 23 lv st h = (match am_ld lv 1 with
    | some (.int x) => am_f d scr L call 67 n 24 lv (.int x :: st) h
    | _ => none) := k_li (i := .iload_n 1) rfl rfl rfl rfl
theorem s_67_24 (d L n : Nat) (scr : Nat → Int32) (call : Nat → List Value → am_H → Option am_X) (lv : am_L) (st : List Value) (h : am_H) : am_f d scr L call 67 (n + 1) 24 lv st h = (match am_ld lv 3 with
    | some (.int x) => am_f d scr L call 67 n 25 lv (.int x :: st) h
    | _ => none) := k_li (i := .iload_n 3) rfl rfl rfl rfl
theorem s_67_25 (d L n : Nat) (scr : Nat → Int32) (call : Nat → List Value → am_H → Option am_X) (lv : am_L) (st : List Value) (h : am_H) : am_f d scr L call 67 (n + 1) 25 lv st h = am_f d scr L call 67 n 27 lv (.int 43 :: st) h := k_nx (i := .bipush 43) rfl rfl
theorem s_67_27 (d L n : Nat) (scr : Nat → Int32) (call : Nat → List Value → am_H → Option am_X) (lv : am_L) (st : List Value) (h : am_H) (x y : Int32) : am_f d scr L call 67 (n + 1) 27 lv (.int y :: .int x :: st) h = if ¬ x = y then am_f d scr L call 67 n 35 lv st h else am_f d scr L call 67 n 30 lv st h := k_ic_ne (o := 8) rfl ⟨by decide, rfl⟩
theorem s_67_30 (d L n : Nat) (scr : Nat → Int32) (call : Nat → List Value → am_H → Option am_X) (lv : am_L) (st : List Value) (h : am_H) : am_f d scr L call 67 (n + 1) 30 lv st h = am_f d scr L call 67 n 32 lv (.int 6 :: st) h := k_nx (i := .bipush 6) rfl rfl
theorem s_67_32 (d L n : Nat) (scr : Nat → Int32) (call : Nat → List Value → am_H → Option am_X) (lv : am_L) (st : List Value) (h : am_H) : am_f d scr L call 67 (n + 1) 32 lv st h = am_f d scr L call 67 n 48 lv st h := k_nx (i := .goto 16) rfl rfl
theorem s_67_35 (d L n : Nat) (scr : Nat → Int32) (call : Nat → List Value → am_H → Option am_X) (lv : am_L) (st : List Value) (h : am_H) : am_f d scr L call 67 (n + 1) 35 lv st h = (match am_ld lv 3 with
    | some (.int x) => am_f d scr L call 67 n 36 lv (.int x :: st) h
    | _ => none) := k_li (i := .iload_n 3) rfl rfl rfl rfl
theorem s_67_36 (d L n : Nat) (scr : Nat → Int32) (call : Nat → List Value → am_H → Option am_X) (lv : am_L) (st : List Value) (h : am_H) : am_f d scr L call 67 (n + 1) 36 lv st h = am_f d scr L call 67 n 38 lv (.int 45 :: st) h := k_nx (i := .bipush 45) rfl rfl
theorem s_67_38 (d L n : Nat) (scr : Nat → Int32) (call : Nat → List Value → am_H → Option am_X) (lv : am_L) (st : List Value) (h : am_H) (x y : Int32) : am_f d scr L call 67 (n + 1) 38 lv (.int y :: .int x :: st) h = if ¬ x = y then am_f d scr L call 67 n 46 lv st h else am_f d scr L call 67 n 41 lv st h := k_ic_ne (o := 8) rfl ⟨by decide, rfl⟩
theorem s_67_41 (d L n : Nat) (scr : Nat → Int32) (call : Nat → List Value → am_H → Option am_X) (lv : am_L) (st : List Value) (h : am_H) : am_f d scr L call 67 (n + 1) 41 lv st h = am_f d scr L call 67 n 43 lv (.int 7 :: st) h := k_nx (i := .bipush 7) rfl rfl
theorem s_67_43 (d L n : Nat) (scr : Nat → Int32) (call : Nat → List Value → am_H → Option am_X) (lv : am_L) (st : List Value) (h : am_H) : am_f d scr L call 67 (n + 1) 43 lv st h = am_f d scr L call 67 n 48 lv st h := k_nx (i := .goto 5) rfl rfl
theorem s_67_46 (d L n : Nat) (scr : Nat → Int32) (call : Nat → List Value → am_H → Option am_X) (lv : am_L) (st : List Value) (h : am_H) : am_f d scr L call 67 (n + 1) 46 lv st h = am_f d scr L call 67 n 48 lv (.int 8 :: st) h := k_nx (i := .bipush 8) rfl rfl
theorem s_67_48 (d L n : Nat) (scr : Nat → Int32) (call : Nat → List Value → am_H → Option am_X) (lv : am_L) (st : List Value) (h : am_H) (a : Nat) (i : Int32) (x : Int32) : am_f d scr L call 67 (n + 1) 48 lv (.int x :: .int i :: .ref a :: st) h = (match am_ist h a i x with
    | some h' => am_f d scr L call 67 n 49 lv st h'
    | none => none) := k_is rfl
theorem s_67_49 (d L n : Nat) (scr : Nat → Int32) (call : Nat → List Value → am_H → Option am_X) (lv : am_L) (st : List Value) (h : am_H) : am_f d scr L call 67 (n + 1) 49 lv st h = (match am_ld lv 0 with
    | some (.ref x) => am_f d scr L call 67 n 50 lv (.ref x :: st) h
    | _ => none) := k_la (i := .aload_n 0) rfl rfl rfl rfl
theorem s_67_50 (d L n : Nat) (scr : Nat → Int32) (call : Nat → List Value → am_H → Option am_X) (lv : am_L) (st : List Value) (h : am_H) : am_f d scr L call 67 (n + 1) 50 lv st h = am_f d scr L call 67 n 52 lv (.int 43 :: st) h := k_nx (i := .bipush 43) rfl rfl
theorem s_67_52 (d L n : Nat) (scr : Nat → Int32) (call : Nat → List Value → am_H → Option am_X) (lv : am_L) (h : am_H) (o : Nat) (a0 : Int32)  : am_f d scr L call 67 (n + 1) 52 lv (.int a0 :: .ref o :: []) h = if am_at h o 6 = true then (match call 60 [.ref o, .int a0] h with
    | some (v, h', dk, dn) => am_add dk dn (am_f d scr L call 67 n 55 lv (v.toList ++ []) h')
    | none => none) else none := k_iv0 (k := 85) (as := [.int a0]) (r := []) rfl rfl rfl rfl (Nat.le_of_ble_eq_true rfl)
theorem s_67_55 (d L n : Nat) (scr : Nat → Int32) (call : Nat → List Value → am_H → Option am_X) (lv : am_L) (st : List Value) (h : am_H) (x : Int32) : am_f d scr L call 67 (n + 1) 55 lv (.int x :: st) h = if ¬ x = 0 then am_f d scr L call 67 n 76 lv st h else am_f d scr L call 67 n 58 lv st h := k_if_ne (o := 21) rfl ⟨by decide, rfl⟩
theorem s_67_58 (d L n : Nat) (scr : Nat → Int32) (call : Nat → List Value → am_H → Option am_X) (lv : am_L) (st : List Value) (h : am_H) : am_f d scr L call 67 (n + 1) 58 lv st h = (match am_ld lv 0 with
    | some (.ref x) => am_f d scr L call 67 n 59 lv (.ref x :: st) h
    | _ => none) := k_la (i := .aload_n 0) rfl rfl rfl rfl
theorem s_67_59 (d L n : Nat) (scr : Nat → Int32) (call : Nat → List Value → am_H → Option am_X) (lv : am_L) (st : List Value) (h : am_H) : am_f d scr L call 67 (n + 1) 59 lv st h = am_f d scr L call 67 n 61 lv (.int 45 :: st) h := k_nx (i := .bipush 45) rfl rfl
theorem s_67_61 (d L n : Nat) (scr : Nat → Int32) (call : Nat → List Value → am_H → Option am_X) (lv : am_L) (h : am_H) (o : Nat) (a0 : Int32)  : am_f d scr L call 67 (n + 1) 61 lv (.int a0 :: .ref o :: []) h = if am_at h o 6 = true then (match call 60 [.ref o, .int a0] h with
    | some (v, h', dk, dn) => am_add dk dn (am_f d scr L call 67 n 64 lv (v.toList ++ []) h')
    | none => none) else none := k_iv0 (k := 85) (as := [.int a0]) (r := []) rfl rfl rfl rfl (Nat.le_of_ble_eq_true rfl)
theorem s_67_64 (d L n : Nat) (scr : Nat → Int32) (call : Nat → List Value → am_H → Option am_X) (lv : am_L) (st : List Value) (h : am_H) (x : Int32) : am_f d scr L call 67 (n + 1) 64 lv (.int x :: st) h = if ¬ x = 0 then am_f d scr L call 67 n 76 lv st h else am_f d scr L call 67 n 67 lv st h := k_if_ne (o := 12) rfl ⟨by decide, rfl⟩
theorem s_67_67 (d L n : Nat) (scr : Nat → Int32) (call : Nat → List Value → am_H → Option am_X) (lv : am_L) (st : List Value) (h : am_H) : am_f d scr L call 67 (n + 1) 67 lv st h = (match am_ld lv 0 with
    | some (.ref x) => am_f d scr L call 67 n 68 lv (.ref x :: st) h
    | _ => none) := k_la (i := .aload_n 0) rfl rfl rfl rfl
theorem s_67_68 (d L n : Nat) (scr : Nat → Int32) (call : Nat → List Value → am_H → Option am_X) (lv : am_L) (st : List Value) (h : am_H) : am_f d scr L call 67 (n + 1) 68 lv st h = am_f d scr L call 67 n 70 lv (.int 60 :: st) h := k_nx (i := .bipush 60) rfl rfl
theorem s_67_70 (d L n : Nat) (scr : Nat → Int32) (call : Nat → List Value → am_H → Option am_X) (lv : am_L) (h : am_H) (o : Nat) (a0 : Int32)  : am_f d scr L call 67 (n + 1) 70 lv (.int a0 :: .ref o :: []) h = if am_at h o 6 = true then (match call 60 [.ref o, .int a0] h with
    | some (v, h', dk, dn) => am_add dk dn (am_f d scr L call 67 n 73 lv (v.toList ++ []) h')
    | none => none) else none := k_iv0 (k := 85) (as := [.int a0]) (r := []) rfl rfl rfl rfl (Nat.le_of_ble_eq_true rfl)
theorem s_67_73 (d L n : Nat) (scr : Nat → Int32) (call : Nat → List Value → am_H → Option am_X) (lv : am_L) (st : List Value) (h : am_H) (x : Int32) : am_f d scr L call 67 (n + 1) 73 lv (.int x :: st) h = if x = 0 then am_f d scr L call 67 n 98 lv st h else am_f d scr L call 67 n 76 lv st h := k_if_eq (o := 25) rfl ⟨by decide, rfl⟩
theorem s_67_76 (d L n : Nat) (scr : Nat → Int32) (call : Nat → List Value → am_H → Option am_X) (lv : am_L) (st : List Value) (h : am_H) : am_f d scr L call 67 (n + 1) 76 lv st h = (match am_ld lv 0 with
    | some (.ref x) => am_f d scr L call 67 n 77 lv (.ref x :: st) h
    | _ => none) := k_la (i := .aload_n 0) rfl rfl rfl rfl
theorem s_67_77 (d L n : Nat) (scr : Nat → Int32) (call : Nat → List Value → am_H → Option am_X) (lv : am_L) (st : List Value) (h : am_H) : am_f d scr L call 67 (n + 1) 77 lv st h = (match am_ld lv 1 with
    | some (.int x) => am_f d scr L call 67 n 78 lv (.int x :: st) h
    | _ => none) := k_li (i := .iload_n 1) rfl rfl rfl rfl
theorem s_67_78 (d L n : Nat) (scr : Nat → Int32) (call : Nat → List Value → am_H → Option am_X) (lv : am_L) (st : List Value) (h : am_H) : am_f d scr L call 67 (n + 1) 78 lv st h = (match am_ld lv 2 with
    | some (.int x) => am_f d scr L call 67 n 79 lv (.int x :: st) h
    | _ => none) := k_li (i := .iload_n 2) rfl rfl rfl rfl
theorem s_67_79 (d L n : Nat) (scr : Nat → Int32) (call : Nat → List Value → am_H → Option am_X) (lv : am_L) (h : am_H) (o : Nat) (a0 : Int32) (a1 : Int32)  : am_f d scr L call 67 (n + 1) 79 lv (.int a1 :: .int a0 :: .ref o :: []) h = if am_at h o 6 = true then (match call 72 [.ref o, .int a0, .int a1] h with
    | some (v, h', dk, dn) => am_add dk dn (am_f d scr L call 67 n 82 lv (v.toList ++ []) h')
    | none => none) else none := k_iv0 (k := 94) (as := [.int a0, .int a1]) (r := []) rfl rfl rfl rfl (Nat.le_of_ble_eq_true rfl)
theorem s_67_82 (d L n : Nat) (scr : Nat → Int32) (call : Nat → List Value → am_H → Option am_X) (lv : am_L) (st : List Value) (h : am_H) (x : Int32) : am_f d scr L call 67 (n + 1) 82 lv (.int x :: st) h = if x = 0 then am_f d scr L call 67 n 98 lv st h else am_f d scr L call 67 n 85 lv st h := k_if_eq (o := 16) rfl ⟨by decide, rfl⟩
theorem s_67_85 (d L n : Nat) (scr : Nat → Int32) (call : Nat → List Value → am_H → Option am_X) (lv : am_L) (st : List Value) (h : am_H) : am_f d scr L call 67 (n + 1) 85 lv st h = (match am_ld lv 0 with
    | some (.ref x) => am_f d scr L call 67 n 86 lv (.ref x :: st) h
    | _ => none) := k_la (i := .aload_n 0) rfl rfl rfl rfl
theorem s_67_86 (d L n : Nat) (scr : Nat → Int32) (call : Nat → List Value → am_H → Option am_X) (lv : am_L) (st : List Value) (h : am_H) : am_f d scr L call 67 (n + 1) 86 lv st h = am_f d scr L call 67 n 88 lv (.int 125 :: st) h := k_nx (i := .bipush 125) rfl rfl
theorem s_67_88 (d L n : Nat) (scr : Nat → Int32) (call : Nat → List Value → am_H → Option am_X) (lv : am_L) (h : am_H) (o : Nat) (a0 : Int32)  : am_f d scr L call 67 (n + 1) 88 lv (.int a0 :: .ref o :: []) h = if am_at h o 6 = true then (match call 60 [.ref o, .int a0] h with
    | some (v, h', dk, dn) => am_add dk dn (am_f d scr L call 67 n 91 lv (v.toList ++ []) h')
    | none => none) else none := k_iv0 (k := 85) (as := [.int a0]) (r := []) rfl rfl rfl rfl (Nat.le_of_ble_eq_true rfl)
theorem s_67_91 (d L n : Nat) (scr : Nat → Int32) (call : Nat → List Value → am_H → Option am_X) (lv : am_L) (st : List Value) (h : am_H) (x : Int32) : am_f d scr L call 67 (n + 1) 91 lv (.int x :: st) h = if x = 0 then am_f d scr L call 67 n 98 lv st h else am_f d scr L call 67 n 94 lv st h := k_if_eq (o := 7) rfl ⟨by decide, rfl⟩
theorem s_67_94 (d L n : Nat) (scr : Nat → Int32) (call : Nat → List Value → am_H → Option am_X) (lv : am_L) (st : List Value) (h : am_H) : am_f d scr L call 67 (n + 1) 94 lv st h = am_f d scr L call 67 n 95 lv (.int 1 :: st) h := k_nx (i := .iconst 1) rfl rfl
theorem s_67_95 (d L n : Nat) (scr : Nat → Int32) (call : Nat → List Value → am_H → Option am_X) (lv : am_L) (st : List Value) (h : am_H) : am_f d scr L call 67 (n + 1) 95 lv st h = am_f d scr L call 67 n 99 lv st h := k_nx (i := .goto 4) rfl rfl
theorem s_67_98 (d L n : Nat) (scr : Nat → Int32) (call : Nat → List Value → am_H → Option am_X) (lv : am_L) (st : List Value) (h : am_H) : am_f d scr L call 67 (n + 1) 98 lv st h = am_f d scr L call 67 n 99 lv (.int 0 :: st) h := k_nx (i := .iconst 0) rfl rfl
theorem s_67_99 (d L n : Nat) (scr : Nat → Int32) (call : Nat → List Value → am_H → Option am_X) (lv : am_L) (h : am_H) (x : Int32) : am_f d scr L call 67 (n + 1) 99 lv [.int x] h = if x = 0 ∨ x = 1 then some (some (.int x), h, 0, 0) else none := k_zr rfl rfl
-- 68: BlameDesk$Reader.readChoice(II)Z
theorem s_68_0 (d L n : Nat) (scr : Nat → Int32) (call : Nat → List Value → am_H → Option am_X) (lv : am_L) (st : List Value) (h : am_H) : am_f d scr L call 68 (n + 1) 0 lv st h = (match am_ld lv 0 with
    | some (.ref x) => am_f d scr L call 68 n 1 lv (.ref x :: st) h
    | _ => none) := k_la (i := .aload_n 0) rfl rfl rfl rfl
theorem s_68_1 (d L n : Nat) (scr : Nat → Int32) (call : Nat → List Value → am_H → Option am_X) (lv : am_L) (st : List Value) (h : am_H) (a : Nat) : am_f d scr L call 68 (n + 1) 1 lv (.ref a :: st) h = (match am_get h a 6 0 with
    | some v => am_f d scr L call 68 n 4 lv (v :: st) h
    | none => none) := k_gf (k := 9) rfl rfl
theorem s_68_4 (d L n : Nat) (scr : Nat → Int32) (call : Nat → List Value → am_H → Option am_X) (lv : am_L) (st : List Value) (h : am_H) (a : Nat) : am_f d scr L call 68 (n + 1) 4 lv (.ref a :: st) h = (match am_get h a 5 1 with
    | some v => am_f d scr L call 68 n 7 lv (v :: st) h
    | none => none) := k_gf (k := 71) rfl rfl
theorem s_68_7 (d L n : Nat) (scr : Nat → Int32) (call : Nat → List Value → am_H → Option am_X) (lv : am_L) (st : List Value) (h : am_H) : am_f d scr L call 68 (n + 1) 7 lv st h = (match am_ld lv 1 with
    | some (.int x) => am_f d scr L call 68 n 8 lv (.int x :: st) h
    | _ => none) := k_li (i := .iload_n 1) rfl rfl rfl rfl
theorem s_68_8 (d L n : Nat) (scr : Nat → Int32) (call : Nat → List Value → am_H → Option am_X) (lv : am_L) (st : List Value) (h : am_H) : am_f d scr L call 68 (n + 1) 8 lv st h = am_f d scr L call 68 n 10 lv (.int 9 :: st) h := k_nx (i := .bipush 9) rfl rfl
theorem s_68_10 (d L n : Nat) (scr : Nat → Int32) (call : Nat → List Value → am_H → Option am_X) (lv : am_L) (st : List Value) (h : am_H) (a : Nat) (i : Int32) (x : Int32) : am_f d scr L call 68 (n + 1) 10 lv (.int x :: .int i :: .ref a :: st) h = (match am_ist h a i x with
    | some h' => am_f d scr L call 68 n 11 lv st h'
    | none => none) := k_is rfl
theorem s_68_11 (d L n : Nat) (scr : Nat → Int32) (call : Nat → List Value → am_H → Option am_X) (lv : am_L) (st : List Value) (h : am_H) : am_f d scr L call 68 (n + 1) 11 lv st h = (match am_ld lv 0 with
    | some (.ref x) => am_f d scr L call 68 n 12 lv (.ref x :: st) h
    | _ => none) := k_la (i := .aload_n 0) rfl rfl rfl rfl
theorem s_68_12 (d L n : Nat) (scr : Nat → Int32) (call : Nat → List Value → am_H → Option am_X) (lv : am_L) (st : List Value) (h : am_H) : am_f d scr L call 68 (n + 1) 12 lv st h = (match am_ld lv 1 with
    | some (.int x) => am_f d scr L call 68 n 13 lv (.int x :: st) h
    | _ => none) := k_li (i := .iload_n 1) rfl rfl rfl rfl
theorem s_68_13 (d L n : Nat) (scr : Nat → Int32) (call : Nat → List Value → am_H → Option am_X) (lv : am_L) (st : List Value) (h : am_H) : am_f d scr L call 68 (n + 1) 13 lv st h = (match am_ld lv 2 with
    | some (.int x) => am_f d scr L call 68 n 14 lv (.int x :: st) h
    | _ => none) := k_li (i := .iload_n 2) rfl rfl rfl rfl
theorem s_68_14 (d L n : Nat) (scr : Nat → Int32) (call : Nat → List Value → am_H → Option am_X) (lv : am_L) (h : am_H) (o : Nat) (a0 : Int32) (a1 : Int32)  : am_f d scr L call 68 (n + 1) 14 lv (.int a1 :: .int a0 :: .ref o :: []) h = if am_at h o 6 = true then (match call 71 [.ref o, .int a0, .int a1] h with
    | some (v, h', dk, dn) => am_add dk dn (am_f d scr L call 68 n 17 lv (v.toList ++ []) h')
    | none => none) else none := k_iv0 (k := 91) (as := [.int a0, .int a1]) (r := []) rfl rfl rfl rfl (Nat.le_of_ble_eq_true rfl)
theorem s_68_17 (d L n : Nat) (scr : Nat → Int32) (call : Nat → List Value → am_H → Option am_X) (lv : am_L) (st : List Value) (h : am_H) (x : Int32) : am_f d scr L call 68 (n + 1) 17 lv (.int x :: st) h = if x = 0 then am_f d scr L call 68 n 47 lv st h else am_f d scr L call 68 n 20 lv st h := k_if_eq (o := 30) rfl ⟨by decide, rfl⟩
theorem s_68_20 (d L n : Nat) (scr : Nat → Int32) (call : Nat → List Value → am_H → Option am_X) (lv : am_L) (st : List Value) (h : am_H) : am_f d scr L call 68 (n + 1) 20 lv st h = (match am_ld lv 0 with
    | some (.ref x) => am_f d scr L call 68 n 21 lv (.ref x :: st) h
    | _ => none) := k_la (i := .aload_n 0) rfl rfl rfl rfl
theorem s_68_21 (d L n : Nat) (scr : Nat → Int32) (call : Nat → List Value → am_H → Option am_X) (lv : am_L) (st : List Value) (h : am_H) : am_f d scr L call 68 (n + 1) 21 lv st h = am_f d scr L call 68 n 23 lv (.int 63 :: st) h := k_nx (i := .bipush 63) rfl rfl
theorem s_68_23 (d L n : Nat) (scr : Nat → Int32) (call : Nat → List Value → am_H → Option am_X) (lv : am_L) (h : am_H) (o : Nat) (a0 : Int32)  : am_f d scr L call 68 (n + 1) 23 lv (.int a0 :: .ref o :: []) h = if am_at h o 6 = true then (match call 60 [.ref o, .int a0] h with
    | some (v, h', dk, dn) => am_add dk dn (am_f d scr L call 68 n 26 lv (v.toList ++ []) h')
    | none => none) else none := k_iv0 (k := 85) (as := [.int a0]) (r := []) rfl rfl rfl rfl (Nat.le_of_ble_eq_true rfl)
theorem s_68_26 (d L n : Nat) (scr : Nat → Int32) (call : Nat → List Value → am_H → Option am_X) (lv : am_L) (st : List Value) (h : am_H) (x : Int32) : am_f d scr L call 68 (n + 1) 26 lv (.int x :: st) h = if x = 0 then am_f d scr L call 68 n 47 lv st h else am_f d scr L call 68 n 29 lv st h := k_if_eq (o := 21) rfl ⟨by decide, rfl⟩
theorem s_68_29 (d L n : Nat) (scr : Nat → Int32) (call : Nat → List Value → am_H → Option am_X) (lv : am_L) (st : List Value) (h : am_H) : am_f d scr L call 68 (n + 1) 29 lv st h = (match am_ld lv 0 with
    | some (.ref x) => am_f d scr L call 68 n 30 lv (.ref x :: st) h
    | _ => none) := k_la (i := .aload_n 0) rfl rfl rfl rfl
theorem s_68_30 (d L n : Nat) (scr : Nat → Int32) (call : Nat → List Value → am_H → Option am_X) (lv : am_L) (st : List Value) (h : am_H) : am_f d scr L call 68 (n + 1) 30 lv st h = (match am_ld lv 1 with
    | some (.int x) => am_f d scr L call 68 n 31 lv (.int x :: st) h
    | _ => none) := k_li (i := .iload_n 1) rfl rfl rfl rfl
theorem s_68_31 (d L n : Nat) (scr : Nat → Int32) (call : Nat → List Value → am_H → Option am_X) (lv : am_L) (st : List Value) (h : am_H) : am_f d scr L call 68 (n + 1) 31 lv st h = (match am_ld lv 2 with
    | some (.int x) => am_f d scr L call 68 n 32 lv (.int x :: st) h
    | _ => none) := k_li (i := .iload_n 2) rfl rfl rfl rfl
theorem s_68_32 (d L n : Nat) (scr : Nat → Int32) (call : Nat → List Value → am_H → Option am_X) (lv : am_L) (h : am_H) (o : Nat) (a0 : Int32) (a1 : Int32)  : am_f d scr L call 68 (n + 1) 32 lv (.int a1 :: .int a0 :: .ref o :: []) h = if am_at h o 6 = true then (match call 72 [.ref o, .int a0, .int a1] h with
    | some (v, h', dk, dn) => am_add dk dn (am_f d scr L call 68 n 35 lv (v.toList ++ []) h')
    | none => none) else none := k_iv0 (k := 94) (as := [.int a0, .int a1]) (r := []) rfl rfl rfl rfl (Nat.le_of_ble_eq_true rfl)
theorem s_68_35 (d L n : Nat) (scr : Nat → Int32) (call : Nat → List Value → am_H → Option am_X) (lv : am_L) (st : List Value) (h : am_H) (x : Int32) : am_f d scr L call 68 (n + 1) 35 lv (.int x :: st) h = if x = 0 then am_f d scr L call 68 n 47 lv st h else am_f d scr L call 68 n 38 lv st h := k_if_eq (o := 12) rfl ⟨by decide, rfl⟩
theorem s_68_38 (d L n : Nat) (scr : Nat → Int32) (call : Nat → List Value → am_H → Option am_X) (lv : am_L) (st : List Value) (h : am_H) : am_f d scr L call 68 (n + 1) 38 lv st h = (match am_ld lv 0 with
    | some (.ref x) => am_f d scr L call 68 n 39 lv (.ref x :: st) h
    | _ => none) := k_la (i := .aload_n 0) rfl rfl rfl rfl
theorem s_68_39 (d L n : Nat) (scr : Nat → Int32) (call : Nat → List Value → am_H → Option am_X) (lv : am_L) (st : List Value) (h : am_H) : am_f d scr L call 68 (n + 1) 39 lv st h = am_f d scr L call 68 n 41 lv (.int 58 :: st) h := k_nx (i := .bipush 58) rfl rfl
theorem s_68_41 (d L n : Nat) (scr : Nat → Int32) (call : Nat → List Value → am_H → Option am_X) (lv : am_L) (h : am_H) (o : Nat) (a0 : Int32)  : am_f d scr L call 68 (n + 1) 41 lv (.int a0 :: .ref o :: []) h = if am_at h o 6 = true then (match call 60 [.ref o, .int a0] h with
    | some (v, h', dk, dn) => am_add dk dn (am_f d scr L call 68 n 44 lv (v.toList ++ []) h')
    | none => none) else none := k_iv0 (k := 85) (as := [.int a0]) (r := []) rfl rfl rfl rfl (Nat.le_of_ble_eq_true rfl)
theorem s_68_44 (d L n : Nat) (scr : Nat → Int32) (call : Nat → List Value → am_H → Option am_X) (lv : am_L) (st : List Value) (h : am_H) (x : Int32) : am_f d scr L call 68 (n + 1) 44 lv (.int x :: st) h = if ¬ x = 0 then am_f d scr L call 68 n 49 lv st h else am_f d scr L call 68 n 47 lv st h := k_if_ne (o := 5) rfl ⟨by decide, rfl⟩
theorem s_68_47 (d L n : Nat) (scr : Nat → Int32) (call : Nat → List Value → am_H → Option am_X) (lv : am_L) (st : List Value) (h : am_H) : am_f d scr L call 68 (n + 1) 47 lv st h = am_f d scr L call 68 n 48 lv (.int 0 :: st) h := k_nx (i := .iconst 0) rfl rfl
theorem s_68_48 (d L n : Nat) (scr : Nat → Int32) (call : Nat → List Value → am_H → Option am_X) (lv : am_L) (h : am_H) (x : Int32) : am_f d scr L call 68 (n + 1) 48 lv [.int x] h = if x = 0 ∨ x = 1 then some (some (.int x), h, 0, 0) else none := k_zr rfl rfl
theorem s_68_49 (d L n : Nat) (scr : Nat → Int32) (call : Nat → List Value → am_H → Option am_X) (lv : am_L) (st : List Value) (h : am_H) : am_f d scr L call 68 (n + 1) 49 lv st h = (match am_ld lv 0 with
    | some (.ref x) => am_f d scr L call 68 n 50 lv (.ref x :: st) h
    | _ => none) := k_la (i := .aload_n 0) rfl rfl rfl rfl
theorem s_68_50 (d L n : Nat) (scr : Nat → Int32) (call : Nat → List Value → am_H → Option am_X) (lv : am_L) (st : List Value) (h : am_H) (a : Nat) : am_f d scr L call 68 (n + 1) 50 lv (.ref a :: st) h = (match am_get h a 6 0 with
    | some v => am_f d scr L call 68 n 53 lv (v :: st) h
    | none => none) := k_gf (k := 9) rfl rfl
theorem s_68_53 (d L n : Nat) (scr : Nat → Int32) (call : Nat → List Value → am_H → Option am_X) (lv : am_L) (st : List Value) (h : am_H) (a : Nat) : am_f d scr L call 68 (n + 1) 53 lv (.ref a :: st) h = (match am_get h a 5 5 with
    | some v => am_f d scr L call 68 n 56 lv (v :: st) h
    | none => none) := k_gf (k := 97) rfl rfl
theorem s_68_56 (d L n : Nat) (scr : Nat → Int32) (call : Nat → List Value → am_H → Option am_X) (lv : am_L) (st : List Value) (h : am_H) : am_f d scr L call 68 (n + 1) 56 lv st h = (match am_ld lv 1 with
    | some (.int x) => am_f d scr L call 68 n 57 lv (.int x :: st) h
    | _ => none) := k_li (i := .iload_n 1) rfl rfl rfl rfl
theorem s_68_57 (d L n : Nat) (scr : Nat → Int32) (call : Nat → List Value → am_H → Option am_X) (lv : am_L) (st : List Value) (h : am_H) : am_f d scr L call 68 (n + 1) 57 lv st h = (match am_ld lv 0 with
    | some (.ref x) => am_f d scr L call 68 n 58 lv (.ref x :: st) h
    | _ => none) := k_la (i := .aload_n 0) rfl rfl rfl rfl
theorem s_68_58 (d L n : Nat) (scr : Nat → Int32) (call : Nat → List Value → am_H → Option am_X) (lv : am_L) (st : List Value) (h : am_H) : am_f d scr L call 68 (n + 1) 58 lv st h = (match am_ld lv 1 with
    | some (.int x) => am_f d scr L call 68 n 59 lv (.int x :: st) h
    | _ => none) := k_li (i := .iload_n 1) rfl rfl rfl rfl
theorem s_68_59 (d L n : Nat) (scr : Nat → Int32) (call : Nat → List Value → am_H → Option am_X) (lv : am_L) (st : List Value) (h : am_H) : am_f d scr L call 68 (n + 1) 59 lv st h = (match am_ld lv 2 with
    | some (.int x) => am_f d scr L call 68 n 60 lv (.int x :: st) h
    | _ => none) := k_li (i := .iload_n 2) rfl rfl rfl rfl
theorem s_68_60 (d L n : Nat) (scr : Nat → Int32) (call : Nat → List Value → am_H → Option am_X) (lv : am_L) (st : List Value) (h : am_H) : am_f d scr L call 68 (n + 1) 60 lv st h = am_f d scr L call 68 n 61 lv (.int 1 :: st) h := k_nx (i := .iconst 1) rfl rfl
theorem s_68_61 (d L n : Nat) (scr : Nat → Int32) (call : Nat → List Value → am_H → Option am_X) (lv : am_L) (st : List Value) (h : am_H) (x y : Int32) : am_f d scr L call 68 (n + 1) 61 lv (.int y :: .int x :: st) h = am_f d scr L call 68 n 62 lv (.int (x + y) :: st) h := k_nx (i := .iadd) rfl rfl
theorem s_68_62 (d L n : Nat) (scr : Nat → Int32) (call : Nat → List Value → am_H → Option am_X) (lv : am_L) (h : am_H) (o : Nat) (a0 : Int32) (a1 : Int32) (r0 : Int32) (r1 : Nat) : am_f d scr L call 68 (n + 1) 62 lv (.int a1 :: .int a0 :: .ref o :: .int r0 :: .ref r1 :: []) h = if am_at h o 6 = true then (match call 61 [.ref o, .int a0, .int a1] h with
    | some (v, h', dk, dn) => am_add dk dn (am_f d scr L call 68 n 65 lv (v.toList ++ [.int r0, .ref r1]) h')
    | none => none) else none := k_iv0 (k := 31) (as := [.int a0, .int a1]) (r := [.int r0, .ref r1]) rfl rfl rfl rfl (Nat.le_of_ble_eq_true rfl)
theorem s_68_65 (d L n : Nat) (scr : Nat → Int32) (call : Nat → List Value → am_H → Option am_X) (lv : am_L) (st : List Value) (h : am_H) (a : Nat) (i : Int32) (x : Int32) : am_f d scr L call 68 (n + 1) 65 lv (.int x :: .int i :: .ref a :: st) h = (match am_ist h a i x with
    | some h' => am_f d scr L call 68 n 66 lv st h'
    | none => none) := k_is rfl
theorem s_68_66 (d L n : Nat) (scr : Nat → Int32) (call : Nat → List Value → am_H → Option am_X) (lv : am_L) (st : List Value) (h : am_H) : am_f d scr L call 68 (n + 1) 66 lv st h = (match am_ld lv 0 with
    | some (.ref x) => am_f d scr L call 68 n 67 lv (.ref x :: st) h
    | _ => none) := k_la (i := .aload_n 0) rfl rfl rfl rfl
theorem s_68_67 (d L n : Nat) (scr : Nat → Int32) (call : Nat → List Value → am_H → Option am_X) (lv : am_L) (st : List Value) (h : am_H) (a : Nat) : am_f d scr L call 68 (n + 1) 67 lv (.ref a :: st) h = (match am_get h a 6 0 with
    | some v => am_f d scr L call 68 n 70 lv (v :: st) h
    | none => none) := k_gf (k := 9) rfl rfl
theorem s_68_70 (d L n : Nat) (scr : Nat → Int32) (call : Nat → List Value → am_H → Option am_X) (lv : am_L) (st : List Value) (h : am_H) (a : Nat) : am_f d scr L call 68 (n + 1) 70 lv (.ref a :: st) h = (match am_get h a 5 5 with
    | some v => am_f d scr L call 68 n 73 lv (v :: st) h
    | none => none) := k_gf (k := 97) rfl rfl
theorem s_68_73 (d L n : Nat) (scr : Nat → Int32) (call : Nat → List Value → am_H → Option am_X) (lv : am_L) (st : List Value) (h : am_H) : am_f d scr L call 68 (n + 1) 73 lv st h = (match am_ld lv 1 with
    | some (.int x) => am_f d scr L call 68 n 74 lv (.int x :: st) h
    | _ => none) := k_li (i := .iload_n 1) rfl rfl rfl rfl
theorem s_68_74 (d L n : Nat) (scr : Nat → Int32) (call : Nat → List Value → am_H → Option am_X) (lv : am_L) (st : List Value) (h : am_H) (a : Nat) (i : Int32) : am_f d scr L call 68 (n + 1) 74 lv (.int i :: .ref a :: st) h = (match am_ild scr L h a i with
    | some x => am_f d scr L call 68 n 75 lv (.int x :: st) h
    | none => none) := k_ia rfl
theorem s_68_75 (d L n : Nat) (scr : Nat → Int32) (call : Nat → List Value → am_H → Option am_X) (lv : am_L) (st : List Value) (h : am_H) : am_f d scr L call 68 (n + 1) 75 lv st h = am_f d scr L call 68 n 76 lv (.int (-1) :: st) h := k_nx (i := .iconst (-1)) rfl rfl
theorem s_68_76 (d L n : Nat) (scr : Nat → Int32) (call : Nat → List Value → am_H → Option am_X) (lv : am_L) (st : List Value) (h : am_H) (x y : Int32) : am_f d scr L call 68 (n + 1) 76 lv (.int y :: .int x :: st) h = if x = y then am_f d scr L call 68 n 92 lv st h else am_f d scr L call 68 n 79 lv st h := k_ic_eq (o := 16) rfl ⟨by decide, rfl⟩
theorem s_68_79 (d L n : Nat) (scr : Nat → Int32) (call : Nat → List Value → am_H → Option am_X) (lv : am_L) (st : List Value) (h : am_H) : am_f d scr L call 68 (n + 1) 79 lv st h = (match am_ld lv 0 with
    | some (.ref x) => am_f d scr L call 68 n 80 lv (.ref x :: st) h
    | _ => none) := k_la (i := .aload_n 0) rfl rfl rfl rfl
theorem s_68_80 (d L n : Nat) (scr : Nat → Int32) (call : Nat → List Value → am_H → Option am_X) (lv : am_L) (st : List Value) (h : am_H) : am_f d scr L call 68 (n + 1) 80 lv st h = am_f d scr L call 68 n 82 lv (.int 93 :: st) h := k_nx (i := .bipush 93) rfl rfl
theorem s_68_82 (d L n : Nat) (scr : Nat → Int32) (call : Nat → List Value → am_H → Option am_X) (lv : am_L) (h : am_H) (o : Nat) (a0 : Int32)  : am_f d scr L call 68 (n + 1) 82 lv (.int a0 :: .ref o :: []) h = if am_at h o 6 = true then (match call 60 [.ref o, .int a0] h with
    | some (v, h', dk, dn) => am_add dk dn (am_f d scr L call 68 n 85 lv (v.toList ++ []) h')
    | none => none) else none := k_iv0 (k := 85) (as := [.int a0]) (r := []) rfl rfl rfl rfl (Nat.le_of_ble_eq_true rfl)
theorem s_68_85 (d L n : Nat) (scr : Nat → Int32) (call : Nat → List Value → am_H → Option am_X) (lv : am_L) (st : List Value) (h : am_H) (x : Int32) : am_f d scr L call 68 (n + 1) 85 lv (.int x :: st) h = if x = 0 then am_f d scr L call 68 n 92 lv st h else am_f d scr L call 68 n 88 lv st h := k_if_eq (o := 7) rfl ⟨by decide, rfl⟩
theorem s_68_88 (d L n : Nat) (scr : Nat → Int32) (call : Nat → List Value → am_H → Option am_X) (lv : am_L) (st : List Value) (h : am_H) : am_f d scr L call 68 (n + 1) 88 lv st h = am_f d scr L call 68 n 89 lv (.int 1 :: st) h := k_nx (i := .iconst 1) rfl rfl
theorem s_68_89 (d L n : Nat) (scr : Nat → Int32) (call : Nat → List Value → am_H → Option am_X) (lv : am_L) (st : List Value) (h : am_H) : am_f d scr L call 68 (n + 1) 89 lv st h = am_f d scr L call 68 n 93 lv st h := k_nx (i := .goto 4) rfl rfl
theorem s_68_92 (d L n : Nat) (scr : Nat → Int32) (call : Nat → List Value → am_H → Option am_X) (lv : am_L) (st : List Value) (h : am_H) : am_f d scr L call 68 (n + 1) 92 lv st h = am_f d scr L call 68 n 93 lv (.int 0 :: st) h := k_nx (i := .iconst 0) rfl rfl
theorem s_68_93 (d L n : Nat) (scr : Nat → Int32) (call : Nat → List Value → am_H → Option am_X) (lv : am_L) (h : am_H) (x : Int32) : am_f d scr L call 68 (n + 1) 93 lv [.int x] h = if x = 0 ∨ x = 1 then some (some (.int x), h, 0, 0) else none := k_zr rfl rfl
-- 69: BlameDesk$Reader.readCast(II)Z
theorem s_69_0 (d L n : Nat) (scr : Nat → Int32) (call : Nat → List Value → am_H → Option am_X) (lv : am_L) (st : List Value) (h : am_H) : am_f d scr L call 69 (n + 1) 0 lv st h = (match am_ld lv 0 with
    | some (.ref x) => am_f d scr L call 69 n 1 lv (.ref x :: st) h
    | _ => none) := k_la (i := .aload_n 0) rfl rfl rfl rfl
theorem s_69_1 (d L n : Nat) (scr : Nat → Int32) (call : Nat → List Value → am_H → Option am_X) (lv : am_L) (st : List Value) (h : am_H) (a : Nat) : am_f d scr L call 69 (n + 1) 1 lv (.ref a :: st) h = (match am_get h a 6 0 with
    | some v => am_f d scr L call 69 n 4 lv (v :: st) h
    | none => none) := k_gf (k := 9) rfl rfl
theorem s_69_4 (d L n : Nat) (scr : Nat → Int32) (call : Nat → List Value → am_H → Option am_X) (lv : am_L) (st : List Value) (h : am_H) (a : Nat) : am_f d scr L call 69 (n + 1) 4 lv (.ref a :: st) h = (match am_get h a 5 1 with
    | some v => am_f d scr L call 69 n 7 lv (v :: st) h
    | none => none) := k_gf (k := 71) rfl rfl
theorem s_69_7 (d L n : Nat) (scr : Nat → Int32) (call : Nat → List Value → am_H → Option am_X) (lv : am_L) (st : List Value) (h : am_H) : am_f d scr L call 69 (n + 1) 7 lv st h = (match am_ld lv 1 with
    | some (.int x) => am_f d scr L call 69 n 8 lv (.int x :: st) h
    | _ => none) := k_li (i := .iload_n 1) rfl rfl rfl rfl
theorem s_69_8 (d L n : Nat) (scr : Nat → Int32) (call : Nat → List Value → am_H → Option am_X) (lv : am_L) (st : List Value) (h : am_H) : am_f d scr L call 69 (n + 1) 8 lv st h = am_f d scr L call 69 n 10 lv (.int 12 :: st) h := k_nx (i := .bipush 12) rfl rfl
theorem s_69_10 (d L n : Nat) (scr : Nat → Int32) (call : Nat → List Value → am_H → Option am_X) (lv : am_L) (st : List Value) (h : am_H) (a : Nat) (i : Int32) (x : Int32) : am_f d scr L call 69 (n + 1) 10 lv (.int x :: .int i :: .ref a :: st) h = (match am_ist h a i x with
    | some h' => am_f d scr L call 69 n 11 lv st h'
    | none => none) := k_is rfl
theorem s_69_11 (d L n : Nat) (scr : Nat → Int32) (call : Nat → List Value → am_H → Option am_X) (lv : am_L) (st : List Value) (h : am_H) : am_f d scr L call 69 (n + 1) 11 lv st h = (match am_ld lv 0 with
    | some (.ref x) => am_f d scr L call 69 n 12 lv (.ref x :: st) h
    | _ => none) := k_la (i := .aload_n 0) rfl rfl rfl rfl
theorem s_69_12 (d L n : Nat) (scr : Nat → Int32) (call : Nat → List Value → am_H → Option am_X) (lv : am_L) (st : List Value) (h : am_H) : am_f d scr L call 69 (n + 1) 12 lv st h = (match am_ld lv 1 with
    | some (.int x) => am_f d scr L call 69 n 13 lv (.int x :: st) h
    | _ => none) := k_li (i := .iload_n 1) rfl rfl rfl rfl
theorem s_69_13 (d L n : Nat) (scr : Nat → Int32) (call : Nat → List Value → am_H → Option am_X) (lv : am_L) (st : List Value) (h : am_H) : am_f d scr L call 69 (n + 1) 13 lv st h = (match am_ld lv 2 with
    | some (.int x) => am_f d scr L call 69 n 14 lv (.int x :: st) h
    | _ => none) := k_li (i := .iload_n 2) rfl rfl rfl rfl
theorem s_69_14 (d L n : Nat) (scr : Nat → Int32) (call : Nat → List Value → am_H → Option am_X) (lv : am_L) (h : am_H) (o : Nat) (a0 : Int32) (a1 : Int32)  : am_f d scr L call 69 (n + 1) 14 lv (.int a1 :: .int a0 :: .ref o :: []) h = if am_at h o 6 = true then (match call 71 [.ref o, .int a0, .int a1] h with
    | some (v, h', dk, dn) => am_add dk dn (am_f d scr L call 69 n 17 lv (v.toList ++ []) h')
    | none => none) else none := k_iv0 (k := 91) (as := [.int a0, .int a1]) (r := []) rfl rfl rfl rfl (Nat.le_of_ble_eq_true rfl)
theorem s_69_17 (d L n : Nat) (scr : Nat → Int32) (call : Nat → List Value → am_H → Option am_X) (lv : am_L) (st : List Value) (h : am_H) (x : Int32) : am_f d scr L call 69 (n + 1) 17 lv (.int x :: st) h = if x = 0 then am_f d scr L call 69 n 51 lv st h else am_f d scr L call 69 n 20 lv st h := k_if_eq (o := 34) rfl ⟨by decide, rfl⟩
theorem s_69_20 (d L n : Nat) (scr : Nat → Int32) (call : Nat → List Value → am_H → Option am_X) (lv : am_L) (st : List Value) (h : am_H) : am_f d scr L call 69 (n + 1) 20 lv st h = (match am_ld lv 0 with
    | some (.ref x) => am_f d scr L call 69 n 21 lv (.ref x :: st) h
    | _ => none) := k_la (i := .aload_n 0) rfl rfl rfl rfl
theorem s_69_21 (d L n : Nat) (scr : Nat → Int32) (call : Nat → List Value → am_H → Option am_X) (lv : am_L) (st : List Value) (h : am_H) : am_f d scr L call 69 (n + 1) 21 lv st h = am_f d scr L call 69 n 23 lv (.int 58 :: st) h := k_nx (i := .bipush 58) rfl rfl
theorem s_69_23 (d L n : Nat) (scr : Nat → Int32) (call : Nat → List Value → am_H → Option am_X) (lv : am_L) (h : am_H) (o : Nat) (a0 : Int32)  : am_f d scr L call 69 (n + 1) 23 lv (.int a0 :: .ref o :: []) h = if am_at h o 6 = true then (match call 60 [.ref o, .int a0] h with
    | some (v, h', dk, dn) => am_add dk dn (am_f d scr L call 69 n 26 lv (v.toList ++ []) h')
    | none => none) else none := k_iv0 (k := 85) (as := [.int a0]) (r := []) rfl rfl rfl rfl (Nat.le_of_ble_eq_true rfl)
theorem s_69_26 (d L n : Nat) (scr : Nat → Int32) (call : Nat → List Value → am_H → Option am_X) (lv : am_L) (st : List Value) (h : am_H) (x : Int32) : am_f d scr L call 69 (n + 1) 26 lv (.int x :: st) h = if x = 0 then am_f d scr L call 69 n 51 lv st h else am_f d scr L call 69 n 29 lv st h := k_if_eq (o := 25) rfl ⟨by decide, rfl⟩
theorem s_69_29 (d L n : Nat) (scr : Nat → Int32) (call : Nat → List Value → am_H → Option am_X) (lv : am_L) (st : List Value) (h : am_H) : am_f d scr L call 69 (n + 1) 29 lv st h = (match am_ld lv 0 with
    | some (.ref x) => am_f d scr L call 69 n 30 lv (.ref x :: st) h
    | _ => none) := k_la (i := .aload_n 0) rfl rfl rfl rfl
theorem s_69_30 (d L n : Nat) (scr : Nat → Int32) (call : Nat → List Value → am_H → Option am_X) (lv : am_L) (st : List Value) (h : am_H) : am_f d scr L call 69 (n + 1) 30 lv st h = (match am_ld lv 1 with
    | some (.int x) => am_f d scr L call 69 n 31 lv (.int x :: st) h
    | _ => none) := k_li (i := .iload_n 1) rfl rfl rfl rfl
theorem s_69_31 (d L n : Nat) (scr : Nat → Int32) (call : Nat → List Value → am_H → Option am_X) (lv : am_L) (st : List Value) (h : am_H) : am_f d scr L call 69 (n + 1) 31 lv st h = (match am_ld lv 2 with
    | some (.int x) => am_f d scr L call 69 n 32 lv (.int x :: st) h
    | _ => none) := k_li (i := .iload_n 2) rfl rfl rfl rfl
theorem s_69_32 (d L n : Nat) (scr : Nat → Int32) (call : Nat → List Value → am_H → Option am_X) (lv : am_L) (h : am_H) (o : Nat) (a0 : Int32) (a1 : Int32)  : am_f d scr L call 69 (n + 1) 32 lv (.int a1 :: .int a0 :: .ref o :: []) h = if am_at h o 6 = true then (match call 73 [.ref o, .int a0, .int a1] h with
    | some (v, h', dk, dn) => am_add dk dn (am_f d scr L call 69 n 35 lv (v.toList ++ []) h')
    | none => none) else none := k_iv0 (k := 88) (as := [.int a0, .int a1]) (r := []) rfl rfl rfl rfl (Nat.le_of_ble_eq_true rfl)
theorem s_69_35 (d L n : Nat) (scr : Nat → Int32) (call : Nat → List Value → am_H → Option am_X) (lv : am_L) (st : List Value) (h : am_H) (x : Int32) : am_f d scr L call 69 (n + 1) 35 lv (.int x :: st) h = if x = 0 then am_f d scr L call 69 n 51 lv st h else am_f d scr L call 69 n 38 lv st h := k_if_eq (o := 16) rfl ⟨by decide, rfl⟩
theorem s_69_38 (d L n : Nat) (scr : Nat → Int32) (call : Nat → List Value → am_H → Option am_X) (lv : am_L) (st : List Value) (h : am_H) : am_f d scr L call 69 (n + 1) 38 lv st h = (match am_ld lv 0 with
    | some (.ref x) => am_f d scr L call 69 n 39 lv (.ref x :: st) h
    | _ => none) := k_la (i := .aload_n 0) rfl rfl rfl rfl
theorem s_69_39 (d L n : Nat) (scr : Nat → Int32) (call : Nat → List Value → am_H → Option am_X) (lv : am_L) (st : List Value) (h : am_H) : am_f d scr L call 69 (n + 1) 39 lv st h = am_f d scr L call 69 n 41 lv (.int 62 :: st) h := k_nx (i := .bipush 62) rfl rfl
theorem s_69_41 (d L n : Nat) (scr : Nat → Int32) (call : Nat → List Value → am_H → Option am_X) (lv : am_L) (h : am_H) (o : Nat) (a0 : Int32)  : am_f d scr L call 69 (n + 1) 41 lv (.int a0 :: .ref o :: []) h = if am_at h o 6 = true then (match call 60 [.ref o, .int a0] h with
    | some (v, h', dk, dn) => am_add dk dn (am_f d scr L call 69 n 44 lv (v.toList ++ []) h')
    | none => none) else none := k_iv0 (k := 85) (as := [.int a0]) (r := []) rfl rfl rfl rfl (Nat.le_of_ble_eq_true rfl)
theorem s_69_44 (d L n : Nat) (scr : Nat → Int32) (call : Nat → List Value → am_H → Option am_X) (lv : am_L) (st : List Value) (h : am_H) (x : Int32) : am_f d scr L call 69 (n + 1) 44 lv (.int x :: st) h = if x = 0 then am_f d scr L call 69 n 51 lv st h else am_f d scr L call 69 n 47 lv st h := k_if_eq (o := 7) rfl ⟨by decide, rfl⟩
theorem s_69_47 (d L n : Nat) (scr : Nat → Int32) (call : Nat → List Value → am_H → Option am_X) (lv : am_L) (st : List Value) (h : am_H) : am_f d scr L call 69 (n + 1) 47 lv st h = am_f d scr L call 69 n 48 lv (.int 1 :: st) h := k_nx (i := .iconst 1) rfl rfl
theorem s_69_48 (d L n : Nat) (scr : Nat → Int32) (call : Nat → List Value → am_H → Option am_X) (lv : am_L) (st : List Value) (h : am_H) : am_f d scr L call 69 (n + 1) 48 lv st h = am_f d scr L call 69 n 52 lv st h := k_nx (i := .goto 4) rfl rfl
theorem s_69_51 (d L n : Nat) (scr : Nat → Int32) (call : Nat → List Value → am_H → Option am_X) (lv : am_L) (st : List Value) (h : am_H) : am_f d scr L call 69 (n + 1) 51 lv st h = am_f d scr L call 69 n 52 lv (.int 0 :: st) h := k_nx (i := .iconst 0) rfl rfl
theorem s_69_52 (d L n : Nat) (scr : Nat → Int32) (call : Nat → List Value → am_H → Option am_X) (lv : am_L) (h : am_H) (x : Int32) : am_f d scr L call 69 (n + 1) 52 lv [.int x] h = if x = 0 ∨ x = 1 then some (some (.int x), h, 0, 0) else none := k_zr rfl rfl
-- 70: BlameDesk$Reader.readOnlyPart(III)Z
theorem s_70_0 (d L n : Nat) (scr : Nat → Int32) (call : Nat → List Value → am_H → Option am_X) (lv : am_L) (st : List Value) (h : am_H) : am_f d scr L call 70 (n + 1) 0 lv st h = (match am_ld lv 0 with
    | some (.ref x) => am_f d scr L call 70 n 1 lv (.ref x :: st) h
    | _ => none) := k_la (i := .aload_n 0) rfl rfl rfl rfl
theorem s_70_1 (d L n : Nat) (scr : Nat → Int32) (call : Nat → List Value → am_H → Option am_X) (lv : am_L) (st : List Value) (h : am_H) (a : Nat) : am_f d scr L call 70 (n + 1) 1 lv (.ref a :: st) h = (match am_get h a 6 0 with
    | some v => am_f d scr L call 70 n 4 lv (v :: st) h
    | none => none) := k_gf (k := 9) rfl rfl
theorem s_70_4 (d L n : Nat) (scr : Nat → Int32) (call : Nat → List Value → am_H → Option am_X) (lv : am_L) (st : List Value) (h : am_H) (a : Nat) : am_f d scr L call 70 (n + 1) 4 lv (.ref a :: st) h = (match am_get h a 5 1 with
    | some v => am_f d scr L call 70 n 7 lv (v :: st) h
    | none => none) := k_gf (k := 71) rfl rfl
theorem s_70_7 (d L n : Nat) (scr : Nat → Int32) (call : Nat → List Value → am_H → Option am_X) (lv : am_L) (st : List Value) (h : am_H) : am_f d scr L call 70 (n + 1) 7 lv st h = (match am_ld lv 2 with
    | some (.int x) => am_f d scr L call 70 n 8 lv (.int x :: st) h
    | _ => none) := k_li (i := .iload_n 2) rfl rfl rfl rfl
theorem s_70_8 (d L n : Nat) (scr : Nat → Int32) (call : Nat → List Value → am_H → Option am_X) (lv : am_L) (st : List Value) (h : am_H) : am_f d scr L call 70 (n + 1) 8 lv st h = (match am_ld lv 1 with
    | some (.int x) => am_f d scr L call 70 n 9 lv (.int x :: st) h
    | _ => none) := k_li (i := .iload_n 1) rfl rfl rfl rfl
theorem s_70_9 (d L n : Nat) (scr : Nat → Int32) (call : Nat → List Value → am_H → Option am_X) (lv : am_L) (st : List Value) (h : am_H) (a : Nat) (i : Int32) (x : Int32) : am_f d scr L call 70 (n + 1) 9 lv (.int x :: .int i :: .ref a :: st) h = (match am_ist h a i x with
    | some h' => am_f d scr L call 70 n 10 lv st h'
    | none => none) := k_is rfl
theorem s_70_10 (d L n : Nat) (scr : Nat → Int32) (call : Nat → List Value → am_H → Option am_X) (lv : am_L) (st : List Value) (h : am_H) : am_f d scr L call 70 (n + 1) 10 lv st h = (match am_ld lv 0 with
    | some (.ref x) => am_f d scr L call 70 n 11 lv (.ref x :: st) h
    | _ => none) := k_la (i := .aload_n 0) rfl rfl rfl rfl
theorem s_70_11 (d L n : Nat) (scr : Nat → Int32) (call : Nat → List Value → am_H → Option am_X) (lv : am_L) (st : List Value) (h : am_H) : am_f d scr L call 70 (n + 1) 11 lv st h = (match am_ld lv 2 with
    | some (.int x) => am_f d scr L call 70 n 12 lv (.int x :: st) h
    | _ => none) := k_li (i := .iload_n 2) rfl rfl rfl rfl
theorem s_70_12 (d L n : Nat) (scr : Nat → Int32) (call : Nat → List Value → am_H → Option am_X) (lv : am_L) (st : List Value) (h : am_H) : am_f d scr L call 70 (n + 1) 12 lv st h = (match am_ld lv 3 with
    | some (.int x) => am_f d scr L call 70 n 13 lv (.int x :: st) h
    | _ => none) := k_li (i := .iload_n 3) rfl rfl rfl rfl
theorem s_70_13 (d L n : Nat) (scr : Nat → Int32) (call : Nat → List Value → am_H → Option am_X) (lv : am_L) (h : am_H) (o : Nat) (a0 : Int32) (a1 : Int32)  : am_f d scr L call 70 (n + 1) 13 lv (.int a1 :: .int a0 :: .ref o :: []) h = if am_at h o 6 = true then (match call 71 [.ref o, .int a0, .int a1] h with
    | some (v, h', dk, dn) => am_add dk dn (am_f d scr L call 70 n 16 lv (v.toList ++ []) h')
    | none => none) else none := k_iv0 (k := 91) (as := [.int a0, .int a1]) (r := []) rfl rfl rfl rfl (Nat.le_of_ble_eq_true rfl)
theorem s_70_16 (d L n : Nat) (scr : Nat → Int32) (call : Nat → List Value → am_H → Option am_X) (lv : am_L) (h : am_H) (x : Int32) : am_f d scr L call 70 (n + 1) 16 lv [.int x] h = if x = 0 ∨ x = 1 then some (some (.int x), h, 0, 0) else none := k_zr rfl rfl
-- 71: BlameDesk$Reader.readFirst(II)Z
theorem s_71_0 (d L n : Nat) (scr : Nat → Int32) (call : Nat → List Value → am_H → Option am_X) (lv : am_L) (st : List Value) (h : am_H) : am_f d scr L call 71 (n + 1) 0 lv st h = (match am_ld lv 0 with
    | some (.ref x) => am_f d scr L call 71 n 1 lv (.ref x :: st) h
    | _ => none) := k_la (i := .aload_n 0) rfl rfl rfl rfl
theorem s_71_1 (d L n : Nat) (scr : Nat → Int32) (call : Nat → List Value → am_H → Option am_X) (lv : am_L) (st : List Value) (h : am_H) (a : Nat) : am_f d scr L call 71 (n + 1) 1 lv (.ref a :: st) h = (match am_get h a 6 0 with
    | some v => am_f d scr L call 71 n 4 lv (v :: st) h
    | none => none) := k_gf (k := 9) rfl rfl
theorem s_71_4 (d L n : Nat) (scr : Nat → Int32) (call : Nat → List Value → am_H → Option am_X) (lv : am_L) (st : List Value) (h : am_H) (a : Nat) : am_f d scr L call 71 (n + 1) 4 lv (.ref a :: st) h = (match am_get h a 5 3 with
    | some v => am_f d scr L call 71 n 7 lv (v :: st) h
    | none => none) := k_gf (k := 100) rfl rfl
theorem s_71_7 (d L n : Nat) (scr : Nat → Int32) (call : Nat → List Value → am_H → Option am_X) (lv : am_L) (st : List Value) (h : am_H) : am_f d scr L call 71 (n + 1) 7 lv st h = (match am_ld lv 1 with
    | some (.int x) => am_f d scr L call 71 n 8 lv (.int x :: st) h
    | _ => none) := k_li (i := .iload_n 1) rfl rfl rfl rfl
theorem s_71_8 (d L n : Nat) (scr : Nat → Int32) (call : Nat → List Value → am_H → Option am_X) (lv : am_L) (st : List Value) (h : am_H) : am_f d scr L call 71 (n + 1) 8 lv st h = (match am_ld lv 0 with
    | some (.ref x) => am_f d scr L call 71 n 9 lv (.ref x :: st) h
    | _ => none) := k_la (i := .aload_n 0) rfl rfl rfl rfl
theorem s_71_9 (d L n : Nat) (scr : Nat → Int32) (call : Nat → List Value → am_H → Option am_X) (lv : am_L) (st : List Value) (h : am_H) : am_f d scr L call 71 (n + 1) 9 lv st h = (match am_ld lv 1 with
    | some (.int x) => am_f d scr L call 71 n 10 lv (.int x :: st) h
    | _ => none) := k_li (i := .iload_n 1) rfl rfl rfl rfl
theorem s_71_10 (d L n : Nat) (scr : Nat → Int32) (call : Nat → List Value → am_H → Option am_X) (lv : am_L) (st : List Value) (h : am_H) : am_f d scr L call 71 (n + 1) 10 lv st h = (match am_ld lv 2 with
    | some (.int x) => am_f d scr L call 71 n 11 lv (.int x :: st) h
    | _ => none) := k_li (i := .iload_n 2) rfl rfl rfl rfl
theorem s_71_11 (d L n : Nat) (scr : Nat → Int32) (call : Nat → List Value → am_H → Option am_X) (lv : am_L) (st : List Value) (h : am_H) : am_f d scr L call 71 (n + 1) 11 lv st h = am_f d scr L call 71 n 12 lv (.int 1 :: st) h := k_nx (i := .iconst 1) rfl rfl
theorem s_71_12 (d L n : Nat) (scr : Nat → Int32) (call : Nat → List Value → am_H → Option am_X) (lv : am_L) (st : List Value) (h : am_H) (x y : Int32) : am_f d scr L call 71 (n + 1) 12 lv (.int y :: .int x :: st) h = am_f d scr L call 71 n 13 lv (.int (x + y) :: st) h := k_nx (i := .iadd) rfl rfl
theorem s_71_13 (d L n : Nat) (scr : Nat → Int32) (call : Nat → List Value → am_H → Option am_X) (lv : am_L) (h : am_H) (o : Nat) (a0 : Int32) (a1 : Int32) (r0 : Int32) (r1 : Nat) : am_f d scr L call 71 (n + 1) 13 lv (.int a1 :: .int a0 :: .ref o :: .int r0 :: .ref r1 :: []) h = if am_at h o 6 = true then (match call 61 [.ref o, .int a0, .int a1] h with
    | some (v, h', dk, dn) => am_add dk dn (am_f d scr L call 71 n 16 lv (v.toList ++ [.int r0, .ref r1]) h')
    | none => none) else none := k_iv0 (k := 31) (as := [.int a0, .int a1]) (r := [.int r0, .ref r1]) rfl rfl rfl rfl (Nat.le_of_ble_eq_true rfl)
theorem s_71_16 (d L n : Nat) (scr : Nat → Int32) (call : Nat → List Value → am_H → Option am_X) (lv : am_L) (st : List Value) (h : am_H) (a : Nat) (i : Int32) (x : Int32) : am_f d scr L call 71 (n + 1) 16 lv (.int x :: .int i :: .ref a :: st) h = (match am_ist h a i x with
    | some h' => am_f d scr L call 71 n 17 lv st h'
    | none => none) := k_is rfl
theorem s_71_17 (d L n : Nat) (scr : Nat → Int32) (call : Nat → List Value → am_H → Option am_X) (lv : am_L) (st : List Value) (h : am_H) : am_f d scr L call 71 (n + 1) 17 lv st h = (match am_ld lv 0 with
    | some (.ref x) => am_f d scr L call 71 n 18 lv (.ref x :: st) h
    | _ => none) := k_la (i := .aload_n 0) rfl rfl rfl rfl
theorem s_71_18 (d L n : Nat) (scr : Nat → Int32) (call : Nat → List Value → am_H → Option am_X) (lv : am_L) (st : List Value) (h : am_H) (a : Nat) : am_f d scr L call 71 (n + 1) 18 lv (.ref a :: st) h = (match am_get h a 6 0 with
    | some v => am_f d scr L call 71 n 21 lv (v :: st) h
    | none => none) := k_gf (k := 9) rfl rfl
theorem s_71_21 (d L n : Nat) (scr : Nat → Int32) (call : Nat → List Value → am_H → Option am_X) (lv : am_L) (st : List Value) (h : am_H) (a : Nat) : am_f d scr L call 71 (n + 1) 21 lv (.ref a :: st) h = (match am_get h a 5 3 with
    | some v => am_f d scr L call 71 n 24 lv (v :: st) h
    | none => none) := k_gf (k := 100) rfl rfl
theorem s_71_24 (d L n : Nat) (scr : Nat → Int32) (call : Nat → List Value → am_H → Option am_X) (lv : am_L) (st : List Value) (h : am_H) : am_f d scr L call 71 (n + 1) 24 lv st h = (match am_ld lv 1 with
    | some (.int x) => am_f d scr L call 71 n 25 lv (.int x :: st) h
    | _ => none) := k_li (i := .iload_n 1) rfl rfl rfl rfl
theorem s_71_25 (d L n : Nat) (scr : Nat → Int32) (call : Nat → List Value → am_H → Option am_X) (lv : am_L) (st : List Value) (h : am_H) (a : Nat) (i : Int32) : am_f d scr L call 71 (n + 1) 25 lv (.int i :: .ref a :: st) h = (match am_ild scr L h a i with
    | some x => am_f d scr L call 71 n 26 lv (.int x :: st) h
    | none => none) := k_ia rfl
theorem s_71_26 (d L n : Nat) (scr : Nat → Int32) (call : Nat → List Value → am_H → Option am_X) (lv : am_L) (st : List Value) (h : am_H) : am_f d scr L call 71 (n + 1) 26 lv st h = am_f d scr L call 71 n 27 lv (.int (-1) :: st) h := k_nx (i := .iconst (-1)) rfl rfl
theorem s_71_27 (d L n : Nat) (scr : Nat → Int32) (call : Nat → List Value → am_H → Option am_X) (lv : am_L) (st : List Value) (h : am_H) (x y : Int32) : am_f d scr L call 71 (n + 1) 27 lv (.int y :: .int x :: st) h = if x = y then am_f d scr L call 71 n 34 lv st h else am_f d scr L call 71 n 30 lv st h := k_ic_eq (o := 7) rfl ⟨by decide, rfl⟩
theorem s_71_30 (d L n : Nat) (scr : Nat → Int32) (call : Nat → List Value → am_H → Option am_X) (lv : am_L) (st : List Value) (h : am_H) : am_f d scr L call 71 (n + 1) 30 lv st h = am_f d scr L call 71 n 31 lv (.int 1 :: st) h := k_nx (i := .iconst 1) rfl rfl
theorem s_71_31 (d L n : Nat) (scr : Nat → Int32) (call : Nat → List Value → am_H → Option am_X) (lv : am_L) (st : List Value) (h : am_H) : am_f d scr L call 71 (n + 1) 31 lv st h = am_f d scr L call 71 n 35 lv st h := k_nx (i := .goto 4) rfl rfl
theorem s_71_34 (d L n : Nat) (scr : Nat → Int32) (call : Nat → List Value → am_H → Option am_X) (lv : am_L) (st : List Value) (h : am_H) : am_f d scr L call 71 (n + 1) 34 lv st h = am_f d scr L call 71 n 35 lv (.int 0 :: st) h := k_nx (i := .iconst 0) rfl rfl
theorem s_71_35 (d L n : Nat) (scr : Nat → Int32) (call : Nat → List Value → am_H → Option am_X) (lv : am_L) (h : am_H) (x : Int32) : am_f d scr L call 71 (n + 1) 35 lv [.int x] h = if x = 0 ∨ x = 1 then some (some (.int x), h, 0, 0) else none := k_zr rfl rfl
-- 72: BlameDesk$Reader.readSecond(II)Z
theorem s_72_0 (d L n : Nat) (scr : Nat → Int32) (call : Nat → List Value → am_H → Option am_X) (lv : am_L) (st : List Value) (h : am_H) : am_f d scr L call 72 (n + 1) 0 lv st h = (match am_ld lv 0 with
    | some (.ref x) => am_f d scr L call 72 n 1 lv (.ref x :: st) h
    | _ => none) := k_la (i := .aload_n 0) rfl rfl rfl rfl
theorem s_72_1 (d L n : Nat) (scr : Nat → Int32) (call : Nat → List Value → am_H → Option am_X) (lv : am_L) (st : List Value) (h : am_H) (a : Nat) : am_f d scr L call 72 (n + 1) 1 lv (.ref a :: st) h = (match am_get h a 6 0 with
    | some v => am_f d scr L call 72 n 4 lv (v :: st) h
    | none => none) := k_gf (k := 9) rfl rfl
theorem s_72_4 (d L n : Nat) (scr : Nat → Int32) (call : Nat → List Value → am_H → Option am_X) (lv : am_L) (st : List Value) (h : am_H) (a : Nat) : am_f d scr L call 72 (n + 1) 4 lv (.ref a :: st) h = (match am_get h a 5 4 with
    | some v => am_f d scr L call 72 n 7 lv (v :: st) h
    | none => none) := k_gf (k := 103) rfl rfl
theorem s_72_7 (d L n : Nat) (scr : Nat → Int32) (call : Nat → List Value → am_H → Option am_X) (lv : am_L) (st : List Value) (h : am_H) : am_f d scr L call 72 (n + 1) 7 lv st h = (match am_ld lv 1 with
    | some (.int x) => am_f d scr L call 72 n 8 lv (.int x :: st) h
    | _ => none) := k_li (i := .iload_n 1) rfl rfl rfl rfl
theorem s_72_8 (d L n : Nat) (scr : Nat → Int32) (call : Nat → List Value → am_H → Option am_X) (lv : am_L) (st : List Value) (h : am_H) : am_f d scr L call 72 (n + 1) 8 lv st h = (match am_ld lv 0 with
    | some (.ref x) => am_f d scr L call 72 n 9 lv (.ref x :: st) h
    | _ => none) := k_la (i := .aload_n 0) rfl rfl rfl rfl
theorem s_72_9 (d L n : Nat) (scr : Nat → Int32) (call : Nat → List Value → am_H → Option am_X) (lv : am_L) (st : List Value) (h : am_H) : am_f d scr L call 72 (n + 1) 9 lv st h = (match am_ld lv 1 with
    | some (.int x) => am_f d scr L call 72 n 10 lv (.int x :: st) h
    | _ => none) := k_li (i := .iload_n 1) rfl rfl rfl rfl
theorem s_72_10 (d L n : Nat) (scr : Nat → Int32) (call : Nat → List Value → am_H → Option am_X) (lv : am_L) (st : List Value) (h : am_H) : am_f d scr L call 72 (n + 1) 10 lv st h = (match am_ld lv 2 with
    | some (.int x) => am_f d scr L call 72 n 11 lv (.int x :: st) h
    | _ => none) := k_li (i := .iload_n 2) rfl rfl rfl rfl
theorem s_72_11 (d L n : Nat) (scr : Nat → Int32) (call : Nat → List Value → am_H → Option am_X) (lv : am_L) (st : List Value) (h : am_H) : am_f d scr L call 72 (n + 1) 11 lv st h = am_f d scr L call 72 n 12 lv (.int 1 :: st) h := k_nx (i := .iconst 1) rfl rfl
theorem s_72_12 (d L n : Nat) (scr : Nat → Int32) (call : Nat → List Value → am_H → Option am_X) (lv : am_L) (st : List Value) (h : am_H) (x y : Int32) : am_f d scr L call 72 (n + 1) 12 lv (.int y :: .int x :: st) h = am_f d scr L call 72 n 13 lv (.int (x + y) :: st) h := k_nx (i := .iadd) rfl rfl
theorem s_72_13 (d L n : Nat) (scr : Nat → Int32) (call : Nat → List Value → am_H → Option am_X) (lv : am_L) (h : am_H) (o : Nat) (a0 : Int32) (a1 : Int32) (r0 : Int32) (r1 : Nat) : am_f d scr L call 72 (n + 1) 13 lv (.int a1 :: .int a0 :: .ref o :: .int r0 :: .ref r1 :: []) h = if am_at h o 6 = true then (match call 61 [.ref o, .int a0, .int a1] h with
    | some (v, h', dk, dn) => am_add dk dn (am_f d scr L call 72 n 16 lv (v.toList ++ [.int r0, .ref r1]) h')
    | none => none) else none := k_iv0 (k := 31) (as := [.int a0, .int a1]) (r := [.int r0, .ref r1]) rfl rfl rfl rfl (Nat.le_of_ble_eq_true rfl)
theorem s_72_16 (d L n : Nat) (scr : Nat → Int32) (call : Nat → List Value → am_H → Option am_X) (lv : am_L) (st : List Value) (h : am_H) (a : Nat) (i : Int32) (x : Int32) : am_f d scr L call 72 (n + 1) 16 lv (.int x :: .int i :: .ref a :: st) h = (match am_ist h a i x with
    | some h' => am_f d scr L call 72 n 17 lv st h'
    | none => none) := k_is rfl
theorem s_72_17 (d L n : Nat) (scr : Nat → Int32) (call : Nat → List Value → am_H → Option am_X) (lv : am_L) (st : List Value) (h : am_H) : am_f d scr L call 72 (n + 1) 17 lv st h = (match am_ld lv 0 with
    | some (.ref x) => am_f d scr L call 72 n 18 lv (.ref x :: st) h
    | _ => none) := k_la (i := .aload_n 0) rfl rfl rfl rfl
theorem s_72_18 (d L n : Nat) (scr : Nat → Int32) (call : Nat → List Value → am_H → Option am_X) (lv : am_L) (st : List Value) (h : am_H) (a : Nat) : am_f d scr L call 72 (n + 1) 18 lv (.ref a :: st) h = (match am_get h a 6 0 with
    | some v => am_f d scr L call 72 n 21 lv (v :: st) h
    | none => none) := k_gf (k := 9) rfl rfl
theorem s_72_21 (d L n : Nat) (scr : Nat → Int32) (call : Nat → List Value → am_H → Option am_X) (lv : am_L) (st : List Value) (h : am_H) (a : Nat) : am_f d scr L call 72 (n + 1) 21 lv (.ref a :: st) h = (match am_get h a 5 4 with
    | some v => am_f d scr L call 72 n 24 lv (v :: st) h
    | none => none) := k_gf (k := 103) rfl rfl
theorem s_72_24 (d L n : Nat) (scr : Nat → Int32) (call : Nat → List Value → am_H → Option am_X) (lv : am_L) (st : List Value) (h : am_H) : am_f d scr L call 72 (n + 1) 24 lv st h = (match am_ld lv 1 with
    | some (.int x) => am_f d scr L call 72 n 25 lv (.int x :: st) h
    | _ => none) := k_li (i := .iload_n 1) rfl rfl rfl rfl
theorem s_72_25 (d L n : Nat) (scr : Nat → Int32) (call : Nat → List Value → am_H → Option am_X) (lv : am_L) (st : List Value) (h : am_H) (a : Nat) (i : Int32) : am_f d scr L call 72 (n + 1) 25 lv (.int i :: .ref a :: st) h = (match am_ild scr L h a i with
    | some x => am_f d scr L call 72 n 26 lv (.int x :: st) h
    | none => none) := k_ia rfl
theorem s_72_26 (d L n : Nat) (scr : Nat → Int32) (call : Nat → List Value → am_H → Option am_X) (lv : am_L) (st : List Value) (h : am_H) : am_f d scr L call 72 (n + 1) 26 lv st h = am_f d scr L call 72 n 27 lv (.int (-1) :: st) h := k_nx (i := .iconst (-1)) rfl rfl
theorem s_72_27 (d L n : Nat) (scr : Nat → Int32) (call : Nat → List Value → am_H → Option am_X) (lv : am_L) (st : List Value) (h : am_H) (x y : Int32) : am_f d scr L call 72 (n + 1) 27 lv (.int y :: .int x :: st) h = if x = y then am_f d scr L call 72 n 34 lv st h else am_f d scr L call 72 n 30 lv st h := k_ic_eq (o := 7) rfl ⟨by decide, rfl⟩
theorem s_72_30 (d L n : Nat) (scr : Nat → Int32) (call : Nat → List Value → am_H → Option am_X) (lv : am_L) (st : List Value) (h : am_H) : am_f d scr L call 72 (n + 1) 30 lv st h = am_f d scr L call 72 n 31 lv (.int 1 :: st) h := k_nx (i := .iconst 1) rfl rfl
theorem s_72_31 (d L n : Nat) (scr : Nat → Int32) (call : Nat → List Value → am_H → Option am_X) (lv : am_L) (st : List Value) (h : am_H) : am_f d scr L call 72 (n + 1) 31 lv st h = am_f d scr L call 72 n 35 lv st h := k_nx (i := .goto 4) rfl rfl
theorem s_72_34 (d L n : Nat) (scr : Nat → Int32) (call : Nat → List Value → am_H → Option am_X) (lv : am_L) (st : List Value) (h : am_H) : am_f d scr L call 72 (n + 1) 34 lv st h = am_f d scr L call 72 n 35 lv (.int 0 :: st) h := k_nx (i := .iconst 0) rfl rfl
theorem s_72_35 (d L n : Nat) (scr : Nat → Int32) (call : Nat → List Value → am_H → Option am_X) (lv : am_L) (h : am_H) (x : Int32) : am_f d scr L call 72 (n + 1) 35 lv [.int x] h = if x = 0 ∨ x = 1 then some (some (.int x), h, 0, 0) else none := k_zr rfl rfl
-- 73: BlameDesk$Reader.readWritten(II)Z
theorem s_73_0 (d L n : Nat) (scr : Nat → Int32) (call : Nat → List Value → am_H → Option am_X) (lv : am_L) (st : List Value) (h : am_H) : am_f d scr L call 73 (n + 1) 0 lv st h = (match am_ld lv 0 with
    | some (.ref x) => am_f d scr L call 73 n 1 lv (.ref x :: st) h
    | _ => none) := k_la (i := .aload_n 0) rfl rfl rfl rfl
theorem s_73_1 (d L n : Nat) (scr : Nat → Int32) (call : Nat → List Value → am_H → Option am_X) (lv : am_L) (st : List Value) (h : am_H) (a : Nat) : am_f d scr L call 73 (n + 1) 1 lv (.ref a :: st) h = (match am_get h a 6 0 with
    | some v => am_f d scr L call 73 n 4 lv (v :: st) h
    | none => none) := k_gf (k := 9) rfl rfl
theorem s_73_4 (d L n : Nat) (scr : Nat → Int32) (call : Nat → List Value → am_H → Option am_X) (lv : am_L) (st : List Value) (h : am_H) (a : Nat) : am_f d scr L call 73 (n + 1) 4 lv (.ref a :: st) h = (match am_get h a 5 7 with
    | some v => am_f d scr L call 73 n 7 lv (v :: st) h
    | none => none) := k_gf (k := 106) rfl rfl
theorem s_73_7 (d L n : Nat) (scr : Nat → Int32) (call : Nat → List Value → am_H → Option am_X) (lv : am_L) (st : List Value) (h : am_H) : am_f d scr L call 73 (n + 1) 7 lv st h = (match am_ld lv 1 with
    | some (.int x) => am_f d scr L call 73 n 8 lv (.int x :: st) h
    | _ => none) := k_li (i := .iload_n 1) rfl rfl rfl rfl
theorem s_73_8 (d L n : Nat) (scr : Nat → Int32) (call : Nat → List Value → am_H → Option am_X) (lv : am_L) (st : List Value) (h : am_H) : am_f d scr L call 73 (n + 1) 8 lv st h = (match am_ld lv 0 with
    | some (.ref x) => am_f d scr L call 73 n 9 lv (.ref x :: st) h
    | _ => none) := k_la (i := .aload_n 0) rfl rfl rfl rfl
theorem s_73_9 (d L n : Nat) (scr : Nat → Int32) (call : Nat → List Value → am_H → Option am_X) (lv : am_L) (st : List Value) (h : am_H) : am_f d scr L call 73 (n + 1) 9 lv st h = (match am_ld lv 2 with
    | some (.int x) => am_f d scr L call 73 n 10 lv (.int x :: st) h
    | _ => none) := k_li (i := .iload_n 2) rfl rfl rfl rfl
theorem s_73_10 (d L n : Nat) (scr : Nat → Int32) (call : Nat → List Value → am_H → Option am_X) (lv : am_L) (st : List Value) (h : am_H) : am_f d scr L call 73 (n + 1) 10 lv st h = am_f d scr L call 73 n 11 lv (.int 1 :: st) h := k_nx (i := .iconst 1) rfl rfl
theorem s_73_11 (d L n : Nat) (scr : Nat → Int32) (call : Nat → List Value → am_H → Option am_X) (lv : am_L) (st : List Value) (h : am_H) (x y : Int32) : am_f d scr L call 73 (n + 1) 11 lv (.int y :: .int x :: st) h = am_f d scr L call 73 n 12 lv (.int (x + y) :: st) h := k_nx (i := .iadd) rfl rfl
theorem s_73_12 (d L n : Nat) (scr : Nat → Int32) (call : Nat → List Value → am_H → Option am_X) (lv : am_L) (h : am_H) (o : Nat) (a0 : Int32) (r0 : Int32) (r1 : Nat) : am_f d scr L call 73 (n + 1) 12 lv (.int a0 :: .ref o :: .int r0 :: .ref r1 :: []) h = if am_at h o 6 = true then (match call 74 [.ref o, .int a0] h with
    | some (v, h', dk, dn) => am_add dk dn (am_f d scr L call 73 n 15 lv (v.toList ++ [.int r0, .ref r1]) h')
    | none => none) else none := k_iv0 (k := 109) (as := [.int a0]) (r := [.int r0, .ref r1]) rfl rfl rfl rfl (Nat.le_of_ble_eq_true rfl)
theorem s_73_15 (d L n : Nat) (scr : Nat → Int32) (call : Nat → List Value → am_H → Option am_X) (lv : am_L) (st : List Value) (h : am_H) (a : Nat) (i : Int32) (x : Int32) : am_f d scr L call 73 (n + 1) 15 lv (.int x :: .int i :: .ref a :: st) h = (match am_ist h a i x with
    | some h' => am_f d scr L call 73 n 16 lv st h'
    | none => none) := k_is rfl
theorem s_73_16 (d L n : Nat) (scr : Nat → Int32) (call : Nat → List Value → am_H → Option am_X) (lv : am_L) (st : List Value) (h : am_H) : am_f d scr L call 73 (n + 1) 16 lv st h = (match am_ld lv 0 with
    | some (.ref x) => am_f d scr L call 73 n 17 lv (.ref x :: st) h
    | _ => none) := k_la (i := .aload_n 0) rfl rfl rfl rfl
theorem s_73_17 (d L n : Nat) (scr : Nat → Int32) (call : Nat → List Value → am_H → Option am_X) (lv : am_L) (st : List Value) (h : am_H) (a : Nat) : am_f d scr L call 73 (n + 1) 17 lv (.ref a :: st) h = (match am_get h a 6 0 with
    | some v => am_f d scr L call 73 n 20 lv (v :: st) h
    | none => none) := k_gf (k := 9) rfl rfl
theorem s_73_20 (d L n : Nat) (scr : Nat → Int32) (call : Nat → List Value → am_H → Option am_X) (lv : am_L) (st : List Value) (h : am_H) (a : Nat) : am_f d scr L call 73 (n + 1) 20 lv (.ref a :: st) h = (match am_get h a 5 7 with
    | some v => am_f d scr L call 73 n 23 lv (v :: st) h
    | none => none) := k_gf (k := 106) rfl rfl
theorem s_73_23 (d L n : Nat) (scr : Nat → Int32) (call : Nat → List Value → am_H → Option am_X) (lv : am_L) (st : List Value) (h : am_H) : am_f d scr L call 73 (n + 1) 23 lv st h = (match am_ld lv 1 with
    | some (.int x) => am_f d scr L call 73 n 24 lv (.int x :: st) h
    | _ => none) := k_li (i := .iload_n 1) rfl rfl rfl rfl
theorem s_73_24 (d L n : Nat) (scr : Nat → Int32) (call : Nat → List Value → am_H → Option am_X) (lv : am_L) (st : List Value) (h : am_H) (a : Nat) (i : Int32) : am_f d scr L call 73 (n + 1) 24 lv (.int i :: .ref a :: st) h = (match am_ild scr L h a i with
    | some x => am_f d scr L call 73 n 25 lv (.int x :: st) h
    | none => none) := k_ia rfl
theorem s_73_25 (d L n : Nat) (scr : Nat → Int32) (call : Nat → List Value → am_H → Option am_X) (lv : am_L) (st : List Value) (h : am_H) : am_f d scr L call 73 (n + 1) 25 lv st h = am_f d scr L call 73 n 26 lv (.int (-1) :: st) h := k_nx (i := .iconst (-1)) rfl rfl
theorem s_73_26 (d L n : Nat) (scr : Nat → Int32) (call : Nat → List Value → am_H → Option am_X) (lv : am_L) (st : List Value) (h : am_H) (x y : Int32) : am_f d scr L call 73 (n + 1) 26 lv (.int y :: .int x :: st) h = if x = y then am_f d scr L call 73 n 33 lv st h else am_f d scr L call 73 n 29 lv st h := k_ic_eq (o := 7) rfl ⟨by decide, rfl⟩
theorem s_73_29 (d L n : Nat) (scr : Nat → Int32) (call : Nat → List Value → am_H → Option am_X) (lv : am_L) (st : List Value) (h : am_H) : am_f d scr L call 73 (n + 1) 29 lv st h = am_f d scr L call 73 n 30 lv (.int 1 :: st) h := k_nx (i := .iconst 1) rfl rfl
theorem s_73_30 (d L n : Nat) (scr : Nat → Int32) (call : Nat → List Value → am_H → Option am_X) (lv : am_L) (st : List Value) (h : am_H) : am_f d scr L call 73 (n + 1) 30 lv st h = am_f d scr L call 73 n 34 lv st h := k_nx (i := .goto 4) rfl rfl
theorem s_73_33 (d L n : Nat) (scr : Nat → Int32) (call : Nat → List Value → am_H → Option am_X) (lv : am_L) (st : List Value) (h : am_H) : am_f d scr L call 73 (n + 1) 33 lv st h = am_f d scr L call 73 n 34 lv (.int 0 :: st) h := k_nx (i := .iconst 0) rfl rfl
theorem s_73_34 (d L n : Nat) (scr : Nat → Int32) (call : Nat → List Value → am_H → Option am_X) (lv : am_L) (h : am_H) (x : Int32) : am_f d scr L call 73 (n + 1) 34 lv [.int x] h = if x = 0 ∨ x = 1 then some (some (.int x), h, 0, 0) else none := k_zr rfl rfl
-- 74: BlameDesk$Reader.readType(I)I
theorem s_74_0 (d L n : Nat) (scr : Nat → Int32) (call : Nat → List Value → am_H → Option am_X) (lv : am_L) (st : List Value) (h : am_H) : am_f d scr L call 74 (n + 1) 0 lv st h = (match am_ld lv 1 with
    | some (.int x) => am_f d scr L call 74 n 1 lv (.int x :: st) h
    | _ => none) := k_li (i := .iload_n 1) rfl rfl rfl rfl
theorem s_74_1 (d L n : Nat) (scr : Nat → Int32) (call : Nat → List Value → am_H → Option am_X) (lv : am_L) (st : List Value) (h : am_H) : am_f d scr L call 74 (n + 1) 1 lv st h = am_f d scr L call 74 n 3 lv (.int 20 :: st) h := k_nx (i := .bipush 20) rfl rfl
theorem s_74_3 (d L n : Nat) (scr : Nat → Int32) (call : Nat → List Value → am_H → Option am_X) (lv : am_L) (st : List Value) (h : am_H) (x y : Int32) : am_f d scr L call 74 (n + 1) 3 lv (.int y :: .int x :: st) h = if x ≤ y then am_f d scr L call 74 n 8 lv st h else am_f d scr L call 74 n 6 lv st h := k_ic_le (o := 5) rfl ⟨by decide, rfl⟩
theorem s_74_6 (d L n : Nat) (scr : Nat → Int32) (call : Nat → List Value → am_H → Option am_X) (lv : am_L) (st : List Value) (h : am_H) : am_f d scr L call 74 (n + 1) 6 lv st h = am_f d scr L call 74 n 7 lv (.int (-1) :: st) h := k_nx (i := .iconst (-1)) rfl rfl
theorem s_74_7 (d L n : Nat) (scr : Nat → Int32) (call : Nat → List Value → am_H → Option am_X) (lv : am_L) (h : am_H) (x : Int32) : am_f d scr L call 74 (n + 1) 7 lv [.int x] h = some (some (.int x), h, 0, 0) := k_ir rfl rfl
theorem s_74_8 (d L n : Nat) (scr : Nat → Int32) (call : Nat → List Value → am_H → Option am_X) (lv : am_L) (st : List Value) (h : am_H) : am_f d scr L call 74 (n + 1) 8 lv st h = (match am_ld lv 0 with
    | some (.ref x) => am_f d scr L call 74 n 9 lv (.ref x :: st) h
    | _ => none) := k_la (i := .aload_n 0) rfl rfl rfl rfl
theorem s_74_9 (d L n : Nat) (scr : Nat → Int32) (call : Nat → List Value → am_H → Option am_X) (lv : am_L) (st : List Value) (h : am_H) : am_f d scr L call 74 (n + 1) 9 lv st h = am_f d scr L call 74 n 11 lv (.int 63 :: st) h := k_nx (i := .bipush 63) rfl rfl
theorem s_74_11 (d L n : Nat) (scr : Nat → Int32) (call : Nat → List Value → am_H → Option am_X) (lv : am_L) (h : am_H) (o : Nat) (a0 : Int32)  : am_f d scr L call 74 (n + 1) 11 lv (.int a0 :: .ref o :: []) h = if am_at h o 6 = true then (match call 60 [.ref o, .int a0] h with
    | some (v, h', dk, dn) => am_add dk dn (am_f d scr L call 74 n 14 lv (v.toList ++ []) h')
    | none => none) else none := k_iv0 (k := 85) (as := [.int a0]) (r := []) rfl rfl rfl rfl (Nat.le_of_ble_eq_true rfl)
theorem s_74_14 (d L n : Nat) (scr : Nat → Int32) (call : Nat → List Value → am_H → Option am_X) (lv : am_L) (st : List Value) (h : am_H) (x : Int32) : am_f d scr L call 74 (n + 1) 14 lv (.int x :: st) h = if x = 0 then am_f d scr L call 74 n 19 lv st h else am_f d scr L call 74 n 17 lv st h := k_if_eq (o := 5) rfl ⟨by decide, rfl⟩
theorem s_74_17 (d L n : Nat) (scr : Nat → Int32) (call : Nat → List Value → am_H → Option am_X) (lv : am_L) (st : List Value) (h : am_H) : am_f d scr L call 74 (n + 1) 17 lv st h = am_f d scr L call 74 n 18 lv (.int 0 :: st) h := k_nx (i := .iconst 0) rfl rfl
theorem s_74_18 (d L n : Nat) (scr : Nat → Int32) (call : Nat → List Value → am_H → Option am_X) (lv : am_L) (h : am_H) (x : Int32) : am_f d scr L call 74 (n + 1) 18 lv [.int x] h = some (some (.int x), h, 0, 0) := k_ir rfl rfl
theorem s_74_19 (d L n : Nat) (scr : Nat → Int32) (call : Nat → List Value → am_H → Option am_X) (lv : am_L) (st : List Value) (h : am_H) : am_f d scr L call 74 (n + 1) 19 lv st h = (match am_ld lv 0 with
    | some (.ref x) => am_f d scr L call 74 n 20 lv (.ref x :: st) h
    | _ => none) := k_la (i := .aload_n 0) rfl rfl rfl rfl
theorem s_74_20 (d L n : Nat) (scr : Nat → Int32) (call : Nat → List Value → am_H → Option am_X) (lv : am_L) (st : List Value) (h : am_H) : am_f d scr L call 74 (n + 1) 20 lv st h = am_f d scr L call 74 n 22 lv (.int 105 :: st) h := k_nx (i := .bipush 105) rfl rfl
theorem s_74_22 (d L n : Nat) (scr : Nat → Int32) (call : Nat → List Value → am_H → Option am_X) (lv : am_L) (h : am_H) (o : Nat) (a0 : Int32)  : am_f d scr L call 74 (n + 1) 22 lv (.int a0 :: .ref o :: []) h = if am_at h o 6 = true then (match call 60 [.ref o, .int a0] h with
    | some (v, h', dk, dn) => am_add dk dn (am_f d scr L call 74 n 25 lv (v.toList ++ []) h')
    | none => none) else none := k_iv0 (k := 85) (as := [.int a0]) (r := []) rfl rfl rfl rfl (Nat.le_of_ble_eq_true rfl)
theorem s_74_25 (d L n : Nat) (scr : Nat → Int32) (call : Nat → List Value → am_H → Option am_X) (lv : am_L) (st : List Value) (h : am_H) (x : Int32) : am_f d scr L call 74 (n + 1) 25 lv (.int x :: st) h = if x = 0 then am_f d scr L call 74 n 30 lv st h else am_f d scr L call 74 n 28 lv st h := k_if_eq (o := 5) rfl ⟨by decide, rfl⟩
theorem s_74_28 (d L n : Nat) (scr : Nat → Int32) (call : Nat → List Value → am_H → Option am_X) (lv : am_L) (st : List Value) (h : am_H) : am_f d scr L call 74 (n + 1) 28 lv st h = am_f d scr L call 74 n 29 lv (.int 1 :: st) h := k_nx (i := .iconst 1) rfl rfl
theorem s_74_29 (d L n : Nat) (scr : Nat → Int32) (call : Nat → List Value → am_H → Option am_X) (lv : am_L) (h : am_H) (x : Int32) : am_f d scr L call 74 (n + 1) 29 lv [.int x] h = some (some (.int x), h, 0, 0) := k_ir rfl rfl
theorem s_74_30 (d L n : Nat) (scr : Nat → Int32) (call : Nat → List Value → am_H → Option am_X) (lv : am_L) (st : List Value) (h : am_H) : am_f d scr L call 74 (n + 1) 30 lv st h = (match am_ld lv 0 with
    | some (.ref x) => am_f d scr L call 74 n 31 lv (.ref x :: st) h
    | _ => none) := k_la (i := .aload_n 0) rfl rfl rfl rfl
theorem s_74_31 (d L n : Nat) (scr : Nat → Int32) (call : Nat → List Value → am_H → Option am_X) (lv : am_L) (st : List Value) (h : am_H) : am_f d scr L call 74 (n + 1) 31 lv st h = am_f d scr L call 74 n 33 lv (.int 98 :: st) h := k_nx (i := .bipush 98) rfl rfl
theorem s_74_33 (d L n : Nat) (scr : Nat → Int32) (call : Nat → List Value → am_H → Option am_X) (lv : am_L) (h : am_H) (o : Nat) (a0 : Int32)  : am_f d scr L call 74 (n + 1) 33 lv (.int a0 :: .ref o :: []) h = if am_at h o 6 = true then (match call 60 [.ref o, .int a0] h with
    | some (v, h', dk, dn) => am_add dk dn (am_f d scr L call 74 n 36 lv (v.toList ++ []) h')
    | none => none) else none := k_iv0 (k := 85) (as := [.int a0]) (r := []) rfl rfl rfl rfl (Nat.le_of_ble_eq_true rfl)
theorem s_74_36 (d L n : Nat) (scr : Nat → Int32) (call : Nat → List Value → am_H → Option am_X) (lv : am_L) (st : List Value) (h : am_H) (x : Int32) : am_f d scr L call 74 (n + 1) 36 lv (.int x :: st) h = if x = 0 then am_f d scr L call 74 n 41 lv st h else am_f d scr L call 74 n 39 lv st h := k_if_eq (o := 5) rfl ⟨by decide, rfl⟩
theorem s_74_39 (d L n : Nat) (scr : Nat → Int32) (call : Nat → List Value → am_H → Option am_X) (lv : am_L) (st : List Value) (h : am_H) : am_f d scr L call 74 (n + 1) 39 lv st h = am_f d scr L call 74 n 40 lv (.int 2 :: st) h := k_nx (i := .iconst 2) rfl rfl
theorem s_74_40 (d L n : Nat) (scr : Nat → Int32) (call : Nat → List Value → am_H → Option am_X) (lv : am_L) (h : am_H) (x : Int32) : am_f d scr L call 74 (n + 1) 40 lv [.int x] h = some (some (.int x), h, 0, 0) := k_ir rfl rfl
theorem s_74_41 (d L n : Nat) (scr : Nat → Int32) (call : Nat → List Value → am_H → Option am_X) (lv : am_L) (st : List Value) (h : am_H) : am_f d scr L call 74 (n + 1) 41 lv st h = (match am_ld lv 0 with
    | some (.ref x) => am_f d scr L call 74 n 42 lv (.ref x :: st) h
    | _ => none) := k_la (i := .aload_n 0) rfl rfl rfl rfl
theorem s_74_42 (d L n : Nat) (scr : Nat → Int32) (call : Nat → List Value → am_H → Option am_X) (lv : am_L) (st : List Value) (h : am_H) : am_f d scr L call 74 (n + 1) 42 lv st h = am_f d scr L call 74 n 44 lv (.int 38 :: st) h := k_nx (i := .bipush 38) rfl rfl
theorem s_74_44 (d L n : Nat) (scr : Nat → Int32) (call : Nat → List Value → am_H → Option am_X) (lv : am_L) (h : am_H) (o : Nat) (a0 : Int32)  : am_f d scr L call 74 (n + 1) 44 lv (.int a0 :: .ref o :: []) h = if am_at h o 6 = true then (match call 60 [.ref o, .int a0] h with
    | some (v, h', dk, dn) => am_add dk dn (am_f d scr L call 74 n 47 lv (v.toList ++ []) h')
    | none => none) else none := k_iv0 (k := 85) (as := [.int a0]) (r := []) rfl rfl rfl rfl (Nat.le_of_ble_eq_true rfl)
theorem s_74_47 (d L n : Nat) (scr : Nat → Int32) (call : Nat → List Value → am_H → Option am_X) (lv : am_L) (st : List Value) (h : am_H) (x : Int32) : am_f d scr L call 74 (n + 1) 47 lv (.int x :: st) h = if x = 0 then am_f d scr L call 74 n 79 lv st h else am_f d scr L call 74 n 50 lv st h := k_if_eq (o := 32) rfl ⟨by decide, rfl⟩
theorem s_74_50 (d L n : Nat) (scr : Nat → Int32) (call : Nat → List Value → am_H → Option am_X) (lv : am_L) (st : List Value) (h : am_H) : am_f d scr L call 74 (n + 1) 50 lv st h = (match am_ld lv 0 with
    | some (.ref x) => am_f d scr L call 74 n 51 lv (.ref x :: st) h
    | _ => none) := k_la (i := .aload_n 0) rfl rfl rfl rfl
theorem s_74_51 (d L n : Nat) (scr : Nat → Int32) (call : Nat → List Value → am_H → Option am_X) (lv : am_L) (st : List Value) (h : am_H) : am_f d scr L call 74 (n + 1) 51 lv st h = (match am_ld lv 1 with
    | some (.int x) => am_f d scr L call 74 n 52 lv (.int x :: st) h
    | _ => none) := k_li (i := .iload_n 1) rfl rfl rfl rfl
theorem s_74_52 (d L n : Nat) (scr : Nat → Int32) (call : Nat → List Value → am_H → Option am_X) (lv : am_L) (st : List Value) (h : am_H) : am_f d scr L call 74 (n + 1) 52 lv st h = am_f d scr L call 74 n 53 lv (.int 1 :: st) h := k_nx (i := .iconst 1) rfl rfl
theorem s_74_53 (d L n : Nat) (scr : Nat → Int32) (call : Nat → List Value → am_H → Option am_X) (lv : am_L) (st : List Value) (h : am_H) (x y : Int32) : am_f d scr L call 74 (n + 1) 53 lv (.int y :: .int x :: st) h = am_f d scr L call 74 n 54 lv (.int (x + y) :: st) h := k_nx (i := .iadd) rfl rfl
theorem s_74_54 (d L n : Nat) (scr : Nat → Int32) (call : Nat → List Value → am_H → Option am_X) (lv : am_L) (h : am_H) (o : Nat) (a0 : Int32)  : am_f d scr L call 74 (n + 1) 54 lv (.int a0 :: .ref o :: []) h = if am_at h o 6 = true then (match call 74 [.ref o, .int a0] h with
    | some (v, h', dk, dn) => am_add dk dn (am_f d scr L call 74 n 57 lv (v.toList ++ []) h')
    | none => none) else none := k_iv0 (k := 109) (as := [.int a0]) (r := []) rfl rfl rfl rfl (Nat.le_of_ble_eq_true rfl)
theorem s_74_57 (d L n : Nat) (scr : Nat → Int32) (call : Nat → List Value → am_H → Option am_X) (lv : am_L) (st : List Value) (h : am_H) (x : Int32) : am_f d scr L call 74 (n + 1) 57 lv (.int x :: st) h = am_f d scr L call 74 n 58 (am_st1 lv 2 (.int x)) st h := k_nx (i := .istore_n 2) rfl rfl
theorem s_74_58 (d L n : Nat) (scr : Nat → Int32) (call : Nat → List Value → am_H → Option am_X) (lv : am_L) (st : List Value) (h : am_H) : am_f d scr L call 74 (n + 1) 58 lv st h = (match am_ld lv 2 with
    | some (.int x) => am_f d scr L call 74 n 59 lv (.int x :: st) h
    | _ => none) := k_li (i := .iload_n 2) rfl rfl rfl rfl
theorem s_74_59 (d L n : Nat) (scr : Nat → Int32) (call : Nat → List Value → am_H → Option am_X) (lv : am_L) (st : List Value) (h : am_H) : am_f d scr L call 74 (n + 1) 59 lv st h = am_f d scr L call 74 n 60 lv (.int (-1) :: st) h := k_nx (i := .iconst (-1)) rfl rfl
theorem s_74_60 (d L n : Nat) (scr : Nat → Int32) (call : Nat → List Value → am_H → Option am_X) (lv : am_L) (st : List Value) (h : am_H) (x y : Int32) : am_f d scr L call 74 (n + 1) 60 lv (.int y :: .int x :: st) h = if ¬ x = y then am_f d scr L call 74 n 67 lv st h else am_f d scr L call 74 n 63 lv st h := k_ic_ne (o := 7) rfl ⟨by decide, rfl⟩
theorem s_74_63 (d L n : Nat) (scr : Nat → Int32) (call : Nat → List Value → am_H → Option am_X) (lv : am_L) (st : List Value) (h : am_H) : am_f d scr L call 74 (n + 1) 63 lv st h = am_f d scr L call 74 n 64 lv (.int (-1) :: st) h := k_nx (i := .iconst (-1)) rfl rfl
theorem s_74_64 (d L n : Nat) (scr : Nat → Int32) (call : Nat → List Value → am_H → Option am_X) (lv : am_L) (st : List Value) (h : am_H) : am_f d scr L call 74 (n + 1) 64 lv st h = am_f d scr L call 74 n 78 lv st h := k_nx (i := .goto 14) rfl rfl
theorem s_74_67 (d L n : Nat) (scr : Nat → Int32) (call : Nat → List Value → am_H → Option am_X) (lv : am_L) (st : List Value) (h : am_H) : am_f d scr L call 74 (n + 1) 67 lv st h = (match am_ld lv 0 with
    | some (.ref x) => am_f d scr L call 74 n 68 lv (.ref x :: st) h
    | _ => none) := k_la (i := .aload_n 0) rfl rfl rfl rfl
theorem s_74_68 (d L n : Nat) (scr : Nat → Int32) (call : Nat → List Value → am_H → Option am_X) (lv : am_L) (st : List Value) (h : am_H) (a : Nat) : am_f d scr L call 74 (n + 1) 68 lv (.ref a :: st) h = (match am_get h a 6 0 with
    | some v => am_f d scr L call 74 n 71 lv (v :: st) h
    | none => none) := k_gf (k := 9) rfl rfl
theorem s_74_71 (d L n : Nat) (scr : Nat → Int32) (call : Nat → List Value → am_H → Option am_X) (lv : am_L) (st : List Value) (h : am_H) (a : Nat) : am_f d scr L call 74 (n + 1) 71 lv (.ref a :: st) h = (match am_get h a 5 0 with
    | some v => am_f d scr L call 74 n 74 lv (v :: st) h
    | none => none) := k_gf (k := 115) rfl rfl
theorem s_74_74 (d L n : Nat) (scr : Nat → Int32) (call : Nat → List Value → am_H → Option am_X) (lv : am_L) (st : List Value) (h : am_H) : am_f d scr L call 74 (n + 1) 74 lv st h = (match am_ld lv 2 with
    | some (.int x) => am_f d scr L call 74 n 75 lv (.int x :: st) h
    | _ => none) := k_li (i := .iload_n 2) rfl rfl rfl rfl
theorem s_74_75 (d L n : Nat) (scr : Nat → Int32) (call : Nat → List Value → am_H → Option am_X) (lv : am_L) (h : am_H) (o : Nat) (a0 : Int32)  : am_f d scr L call 74 (n + 1) 75 lv (.int a0 :: .ref o :: []) h = if am_at h o 7 = true then (match call 78 [.ref o, .int a0] h with
    | some (v, h', dk, dn) => am_add dk dn (am_f d scr L call 74 n 78 lv (v.toList ++ []) h')
    | none => none) else none := k_iv0 (k := 119) (as := [.int a0]) (r := []) rfl rfl rfl rfl (Nat.le_of_ble_eq_true rfl)
theorem s_74_78 (d L n : Nat) (scr : Nat → Int32) (call : Nat → List Value → am_H → Option am_X) (lv : am_L) (h : am_H) (x : Int32) : am_f d scr L call 74 (n + 1) 78 lv [.int x] h = some (some (.int x), h, 0, 0) := k_ir rfl rfl
theorem s_74_79 (d L n : Nat) (scr : Nat → Int32) (call : Nat → List Value → am_H → Option am_X) (lv : am_L) (st : List Value) (h : am_H) : am_f d scr L call 74 (n + 1) 79 lv st h = (match am_ld lv 0 with
    | some (.ref x) => am_f d scr L call 74 n 80 lv (.ref x :: st) h
    | _ => none) := k_la (i := .aload_n 0) rfl rfl rfl rfl
theorem s_74_80 (d L n : Nat) (scr : Nat → Int32) (call : Nat → List Value → am_H → Option am_X) (lv : am_L) (st : List Value) (h : am_H) : am_f d scr L call 74 (n + 1) 80 lv st h = am_f d scr L call 74 n 82 lv (.int 40 :: st) h := k_nx (i := .bipush 40) rfl rfl
theorem s_74_82 (d L n : Nat) (scr : Nat → Int32) (call : Nat → List Value → am_H → Option am_X) (lv : am_L) (h : am_H) (o : Nat) (a0 : Int32)  : am_f d scr L call 74 (n + 1) 82 lv (.int a0 :: .ref o :: []) h = if am_at h o 6 = true then (match call 60 [.ref o, .int a0] h with
    | some (v, h', dk, dn) => am_add dk dn (am_f d scr L call 74 n 85 lv (v.toList ++ []) h')
    | none => none) else none := k_iv0 (k := 85) (as := [.int a0]) (r := []) rfl rfl rfl rfl (Nat.le_of_ble_eq_true rfl)
theorem s_74_85 (d L n : Nat) (scr : Nat → Int32) (call : Nat → List Value → am_H → Option am_X) (lv : am_L) (st : List Value) (h : am_H) (x : Int32) : am_f d scr L call 74 (n + 1) 85 lv (.int x :: st) h = if ¬ x = 0 then am_f d scr L call 74 n 90 lv st h else am_f d scr L call 74 n 88 lv st h := k_if_ne (o := 5) rfl ⟨by decide, rfl⟩
theorem s_74_88 (d L n : Nat) (scr : Nat → Int32) (call : Nat → List Value → am_H → Option am_X) (lv : am_L) (st : List Value) (h : am_H) : am_f d scr L call 74 (n + 1) 88 lv st h = am_f d scr L call 74 n 89 lv (.int (-1) :: st) h := k_nx (i := .iconst (-1)) rfl rfl
theorem s_74_89 (d L n : Nat) (scr : Nat → Int32) (call : Nat → List Value → am_H → Option am_X) (lv : am_L) (h : am_H) (x : Int32) : am_f d scr L call 74 (n + 1) 89 lv [.int x] h = some (some (.int x), h, 0, 0) := k_ir rfl rfl
theorem s_74_90 (d L n : Nat) (scr : Nat → Int32) (call : Nat → List Value → am_H → Option am_X) (lv : am_L) (st : List Value) (h : am_H) : am_f d scr L call 74 (n + 1) 90 lv st h = (match am_ld lv 0 with
    | some (.ref x) => am_f d scr L call 74 n 91 lv (.ref x :: st) h
    | _ => none) := k_la (i := .aload_n 0) rfl rfl rfl rfl
theorem s_74_91 (d L n : Nat) (scr : Nat → Int32) (call : Nat → List Value → am_H → Option am_X) (lv : am_L) (st : List Value) (h : am_H) : am_f d scr L call 74 (n + 1) 91 lv st h = (match am_ld lv 1 with
    | some (.int x) => am_f d scr L call 74 n 92 lv (.int x :: st) h
    | _ => none) := k_li (i := .iload_n 1) rfl rfl rfl rfl
theorem s_74_92 (d L n : Nat) (scr : Nat → Int32) (call : Nat → List Value → am_H → Option am_X) (lv : am_L) (st : List Value) (h : am_H) : am_f d scr L call 74 (n + 1) 92 lv st h = am_f d scr L call 74 n 93 lv (.int 1 :: st) h := k_nx (i := .iconst 1) rfl rfl
theorem s_74_93 (d L n : Nat) (scr : Nat → Int32) (call : Nat → List Value → am_H → Option am_X) (lv : am_L) (st : List Value) (h : am_H) (x y : Int32) : am_f d scr L call 74 (n + 1) 93 lv (.int y :: .int x :: st) h = am_f d scr L call 74 n 94 lv (.int (x + y) :: st) h := k_nx (i := .iadd) rfl rfl
theorem s_74_94 (d L n : Nat) (scr : Nat → Int32) (call : Nat → List Value → am_H → Option am_X) (lv : am_L) (h : am_H) (o : Nat) (a0 : Int32)  : am_f d scr L call 74 (n + 1) 94 lv (.int a0 :: .ref o :: []) h = if am_at h o 6 = true then (match call 74 [.ref o, .int a0] h with
    | some (v, h', dk, dn) => am_add dk dn (am_f d scr L call 74 n 97 lv (v.toList ++ []) h')
    | none => none) else none := k_iv0 (k := 109) (as := [.int a0]) (r := []) rfl rfl rfl rfl (Nat.le_of_ble_eq_true rfl)
theorem s_74_97 (d L n : Nat) (scr : Nat → Int32) (call : Nat → List Value → am_H → Option am_X) (lv : am_L) (st : List Value) (h : am_H) (x : Int32) : am_f d scr L call 74 (n + 1) 97 lv (.int x :: st) h = am_f d scr L call 74 n 98 (am_st1 lv 2 (.int x)) st h := k_nx (i := .istore_n 2) rfl rfl
theorem s_74_98 (d L n : Nat) (scr : Nat → Int32) (call : Nat → List Value → am_H → Option am_X) (lv : am_L) (st : List Value) (h : am_H) : am_f d scr L call 74 (n + 1) 98 lv st h = (match am_ld lv 2 with
    | some (.int x) => am_f d scr L call 74 n 99 lv (.int x :: st) h
    | _ => none) := k_li (i := .iload_n 2) rfl rfl rfl rfl
theorem s_74_99 (d L n : Nat) (scr : Nat → Int32) (call : Nat → List Value → am_H → Option am_X) (lv : am_L) (st : List Value) (h : am_H) : am_f d scr L call 74 (n + 1) 99 lv st h = am_f d scr L call 74 n 100 lv (.int (-1) :: st) h := k_nx (i := .iconst (-1)) rfl rfl
theorem s_74_100 (d L n : Nat) (scr : Nat → Int32) (call : Nat → List Value → am_H → Option am_X) (lv : am_L) (st : List Value) (h : am_H) (x y : Int32) : am_f d scr L call 74 (n + 1) 100 lv (.int y :: .int x :: st) h = if x = y then am_f d scr L call 74 n 112 lv st h else am_f d scr L call 74 n 103 lv st h := k_ic_eq (o := 12) rfl ⟨by decide, rfl⟩
theorem s_74_103 (d L n : Nat) (scr : Nat → Int32) (call : Nat → List Value → am_H → Option am_X) (lv : am_L) (st : List Value) (h : am_H) : am_f d scr L call 74 (n + 1) 103 lv st h = (match am_ld lv 0 with
    | some (.ref x) => am_f d scr L call 74 n 104 lv (.ref x :: st) h
    | _ => none) := k_la (i := .aload_n 0) rfl rfl rfl rfl
theorem s_74_104 (d L n : Nat) (scr : Nat → Int32) (call : Nat → List Value → am_H → Option am_X) (lv : am_L) (st : List Value) (h : am_H) : am_f d scr L call 74 (n + 1) 104 lv st h = am_f d scr L call 74 n 106 lv (.int 62 :: st) h := k_nx (i := .bipush 62) rfl rfl
theorem s_74_106 (d L n : Nat) (scr : Nat → Int32) (call : Nat → List Value → am_H → Option am_X) (lv : am_L) (h : am_H) (o : Nat) (a0 : Int32)  : am_f d scr L call 74 (n + 1) 106 lv (.int a0 :: .ref o :: []) h = if am_at h o 6 = true then (match call 60 [.ref o, .int a0] h with
    | some (v, h', dk, dn) => am_add dk dn (am_f d scr L call 74 n 109 lv (v.toList ++ []) h')
    | none => none) else none := k_iv0 (k := 85) (as := [.int a0]) (r := []) rfl rfl rfl rfl (Nat.le_of_ble_eq_true rfl)
theorem s_74_109 (d L n : Nat) (scr : Nat → Int32) (call : Nat → List Value → am_H → Option am_X) (lv : am_L) (st : List Value) (h : am_H) (x : Int32) : am_f d scr L call 74 (n + 1) 109 lv (.int x :: st) h = if ¬ x = 0 then am_f d scr L call 74 n 114 lv st h else am_f d scr L call 74 n 112 lv st h := k_if_ne (o := 5) rfl ⟨by decide, rfl⟩
theorem s_74_112 (d L n : Nat) (scr : Nat → Int32) (call : Nat → List Value → am_H → Option am_X) (lv : am_L) (st : List Value) (h : am_H) : am_f d scr L call 74 (n + 1) 112 lv st h = am_f d scr L call 74 n 113 lv (.int (-1) :: st) h := k_nx (i := .iconst (-1)) rfl rfl
theorem s_74_113 (d L n : Nat) (scr : Nat → Int32) (call : Nat → List Value → am_H → Option am_X) (lv : am_L) (h : am_H) (x : Int32) : am_f d scr L call 74 (n + 1) 113 lv [.int x] h = some (some (.int x), h, 0, 0) := k_ir rfl rfl
theorem s_74_114 (d L n : Nat) (scr : Nat → Int32) (call : Nat → List Value → am_H → Option am_X) (lv : am_L) (st : List Value) (h : am_H) : am_f d scr L call 74 (n + 1) 114 lv st h = (match am_ld lv 0 with
    | some (.ref x) => am_f d scr L call 74 n 115 lv (.ref x :: st) h
    | _ => none) := k_la (i := .aload_n 0) rfl rfl rfl rfl
theorem s_74_115 (d L n : Nat) (scr : Nat → Int32) (call : Nat → List Value → am_H → Option am_X) (lv : am_L) (st : List Value) (h : am_H) : am_f d scr L call 74 (n + 1) 115 lv st h = (match am_ld lv 1 with
    | some (.int x) => am_f d scr L call 74 n 116 lv (.int x :: st) h
    | _ => none) := k_li (i := .iload_n 1) rfl rfl rfl rfl
theorem s_74_116 (d L n : Nat) (scr : Nat → Int32) (call : Nat → List Value → am_H → Option am_X) (lv : am_L) (st : List Value) (h : am_H) : am_f d scr L call 74 (n + 1) 116 lv st h = am_f d scr L call 74 n 117 lv (.int 1 :: st) h := k_nx (i := .iconst 1) rfl rfl
theorem s_74_117 (d L n : Nat) (scr : Nat → Int32) (call : Nat → List Value → am_H → Option am_X) (lv : am_L) (st : List Value) (h : am_H) (x y : Int32) : am_f d scr L call 74 (n + 1) 117 lv (.int y :: .int x :: st) h = am_f d scr L call 74 n 118 lv (.int (x + y) :: st) h := k_nx (i := .iadd) rfl rfl
theorem s_74_118 (d L n : Nat) (scr : Nat → Int32) (call : Nat → List Value → am_H → Option am_X) (lv : am_L) (h : am_H) (o : Nat) (a0 : Int32)  : am_f d scr L call 74 (n + 1) 118 lv (.int a0 :: .ref o :: []) h = if am_at h o 6 = true then (match call 74 [.ref o, .int a0] h with
    | some (v, h', dk, dn) => am_add dk dn (am_f d scr L call 74 n 121 lv (v.toList ++ []) h')
    | none => none) else none := k_iv0 (k := 109) (as := [.int a0]) (r := []) rfl rfl rfl rfl (Nat.le_of_ble_eq_true rfl)
theorem s_74_121 (d L n : Nat) (scr : Nat → Int32) (call : Nat → List Value → am_H → Option am_X) (lv : am_L) (st : List Value) (h : am_H) (x : Int32) : am_f d scr L call 74 (n + 1) 121 lv (.int x :: st) h = am_f d scr L call 74 n 122 (am_st1 lv 3 (.int x)) st h := k_nx (i := .istore_n 3) rfl rfl
theorem s_74_122 (d L n : Nat) (scr : Nat → Int32) (call : Nat → List Value → am_H → Option am_X) (lv : am_L) (st : List Value) (h : am_H) : am_f d scr L call 74 (n + 1) 122 lv st h = (match am_ld lv 3 with
    | some (.int x) => am_f d scr L call 74 n 123 lv (.int x :: st) h
    | _ => none) := k_li (i := .iload_n 3) rfl rfl rfl rfl
theorem s_74_123 (d L n : Nat) (scr : Nat → Int32) (call : Nat → List Value → am_H → Option am_X) (lv : am_L) (st : List Value) (h : am_H) : am_f d scr L call 74 (n + 1) 123 lv st h = am_f d scr L call 74 n 124 lv (.int (-1) :: st) h := k_nx (i := .iconst (-1)) rfl rfl
theorem s_74_124 (d L n : Nat) (scr : Nat → Int32) (call : Nat → List Value → am_H → Option am_X) (lv : am_L) (st : List Value) (h : am_H) (x y : Int32) : am_f d scr L call 74 (n + 1) 124 lv (.int y :: .int x :: st) h = if x = y then am_f d scr L call 74 n 136 lv st h else am_f d scr L call 74 n 127 lv st h := k_ic_eq (o := 12) rfl ⟨by decide, rfl⟩
theorem s_74_127 (d L n : Nat) (scr : Nat → Int32) (call : Nat → List Value → am_H → Option am_X) (lv : am_L) (st : List Value) (h : am_H) : am_f d scr L call 74 (n + 1) 127 lv st h = (match am_ld lv 0 with
    | some (.ref x) => am_f d scr L call 74 n 128 lv (.ref x :: st) h
    | _ => none) := k_la (i := .aload_n 0) rfl rfl rfl rfl
theorem s_74_128 (d L n : Nat) (scr : Nat → Int32) (call : Nat → List Value → am_H → Option am_X) (lv : am_L) (st : List Value) (h : am_H) : am_f d scr L call 74 (n + 1) 128 lv st h = am_f d scr L call 74 n 130 lv (.int 41 :: st) h := k_nx (i := .bipush 41) rfl rfl
theorem s_74_130 (d L n : Nat) (scr : Nat → Int32) (call : Nat → List Value → am_H → Option am_X) (lv : am_L) (h : am_H) (o : Nat) (a0 : Int32)  : am_f d scr L call 74 (n + 1) 130 lv (.int a0 :: .ref o :: []) h = if am_at h o 6 = true then (match call 60 [.ref o, .int a0] h with
    | some (v, h', dk, dn) => am_add dk dn (am_f d scr L call 74 n 133 lv (v.toList ++ []) h')
    | none => none) else none := k_iv0 (k := 85) (as := [.int a0]) (r := []) rfl rfl rfl rfl (Nat.le_of_ble_eq_true rfl)
theorem s_74_133 (d L n : Nat) (scr : Nat → Int32) (call : Nat → List Value → am_H → Option am_X) (lv : am_L) (st : List Value) (h : am_H) (x : Int32) : am_f d scr L call 74 (n + 1) 133 lv (.int x :: st) h = if ¬ x = 0 then am_f d scr L call 74 n 138 lv st h else am_f d scr L call 74 n 136 lv st h := k_if_ne (o := 5) rfl ⟨by decide, rfl⟩
theorem s_74_136 (d L n : Nat) (scr : Nat → Int32) (call : Nat → List Value → am_H → Option am_X) (lv : am_L) (st : List Value) (h : am_H) : am_f d scr L call 74 (n + 1) 136 lv st h = am_f d scr L call 74 n 137 lv (.int (-1) :: st) h := k_nx (i := .iconst (-1)) rfl rfl
theorem s_74_137 (d L n : Nat) (scr : Nat → Int32) (call : Nat → List Value → am_H → Option am_X) (lv : am_L) (h : am_H) (x : Int32) : am_f d scr L call 74 (n + 1) 137 lv [.int x] h = some (some (.int x), h, 0, 0) := k_ir rfl rfl
theorem s_74_138 (d L n : Nat) (scr : Nat → Int32) (call : Nat → List Value → am_H → Option am_X) (lv : am_L) (st : List Value) (h : am_H) : am_f d scr L call 74 (n + 1) 138 lv st h = (match am_ld lv 0 with
    | some (.ref x) => am_f d scr L call 74 n 139 lv (.ref x :: st) h
    | _ => none) := k_la (i := .aload_n 0) rfl rfl rfl rfl
set_option maxRecDepth 100000 in
theorem s_74_139 (d L n : Nat) (scr : Nat → Int32) (call : Nat → List Value → am_H → Option am_X) (lv : am_L) (st : List Value) (h : am_H) (a : Nat) : am_f d scr L call 74 (n + 1) 139 lv (.ref a :: st) h = (match am_get h a 6 0 with
    | some v => am_f d scr L call 74 n 142 lv (v :: st) h
    | none => none) := k_gf (k := 9) rfl rfl
set_option maxRecDepth 100000 in
theorem s_74_142 (d L n : Nat) (scr : Nat → Int32) (call : Nat → List Value → am_H → Option am_X) (lv : am_L) (st : List Value) (h : am_H) (a : Nat) : am_f d scr L call 74 (n + 1) 142 lv (.ref a :: st) h = (match am_get h a 5 0 with
    | some v => am_f d scr L call 74 n 145 lv (v :: st) h
    | none => none) := k_gf (k := 115) rfl rfl
set_option maxRecDepth 100000 in
theorem s_74_145 (d L n : Nat) (scr : Nat → Int32) (call : Nat → List Value → am_H → Option am_X) (lv : am_L) (st : List Value) (h : am_H) : am_f d scr L call 74 (n + 1) 145 lv st h = (match am_ld lv 2 with
    | some (.int x) => am_f d scr L call 74 n 146 lv (.int x :: st) h
    | _ => none) := k_li (i := .iload_n 2) rfl rfl rfl rfl
set_option maxRecDepth 100000 in
theorem s_74_146 (d L n : Nat) (scr : Nat → Int32) (call : Nat → List Value → am_H → Option am_X) (lv : am_L) (st : List Value) (h : am_H) : am_f d scr L call 74 (n + 1) 146 lv st h = (match am_ld lv 3 with
    | some (.int x) => am_f d scr L call 74 n 147 lv (.int x :: st) h
    | _ => none) := k_li (i := .iload_n 3) rfl rfl rfl rfl
set_option maxRecDepth 100000 in
theorem s_74_147 (d L n : Nat) (scr : Nat → Int32) (call : Nat → List Value → am_H → Option am_X) (lv : am_L) (h : am_H) (o : Nat) (a0 : Int32) (a1 : Int32)  : am_f d scr L call 74 (n + 1) 147 lv (.int a1 :: .int a0 :: .ref o :: []) h = if am_at h o 7 = true then (match call 77 [.ref o, .int a0, .int a1] h with
    | some (v, h', dk, dn) => am_add dk dn (am_f d scr L call 74 n 150 lv (v.toList ++ []) h')
    | none => none) else none := k_iv0 (k := 122) (as := [.int a0, .int a1]) (r := []) rfl rfl rfl rfl (Nat.le_of_ble_eq_true rfl)
set_option maxRecDepth 100000 in
theorem s_74_150 (d L n : Nat) (scr : Nat → Int32) (call : Nat → List Value → am_H → Option am_X) (lv : am_L) (h : am_H) (x : Int32) : am_f d scr L call 74 (n + 1) 150 lv [.int x] h = some (some (.int x), h, 0, 0) := k_ir rfl rfl
