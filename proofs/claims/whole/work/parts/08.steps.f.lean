/-! Steps of BlameDeskModel: a row an instruction, by program. -/
-- 116: BlameDeskModel.depth(I)I
theorem s_116_0 (d L n : Nat) (scr : Nat → Int32) (call : Nat → List Value → am_H → Option am_X) (lv : am_L) (st : List Value) (h : am_H) : am_f d scr L call 116 (n + 1) 0 lv st h = am_f d scr L call 116 n 1 lv (.int 0 :: st) h := k_nx (i := .iconst 0) rfl rfl
theorem s_116_1 (d L n : Nat) (scr : Nat → Int32) (call : Nat → List Value → am_H → Option am_X) (lv : am_L) (st : List Value) (h : am_H) (x : Int32) : am_f d scr L call 116 (n + 1) 1 lv (.int x :: st) h = am_f d scr L call 116 n 2 (am_st1 lv 2 (.int x)) st h := k_nx (i := .istore_n 2) rfl rfl
theorem s_116_2 (d L n : Nat) (scr : Nat → Int32) (call : Nat → List Value → am_H → Option am_X) (lv : am_L) (st : List Value) (h : am_H) : am_f d scr L call 116 (n + 1) 2 lv st h = (match am_ld lv 1 with
    | some (.int x) => am_f d scr L call 116 n 3 lv (.int x :: st) h
    | _ => none) := k_li (i := .iload_n 1) rfl rfl rfl rfl
theorem s_116_3 (d L n : Nat) (scr : Nat → Int32) (call : Nat → List Value → am_H → Option am_X) (lv : am_L) (st : List Value) (h : am_H) (x : Int32) : am_f d scr L call 116 (n + 1) 3 lv (.int x :: st) h = am_f d scr L call 116 n 4 (am_st1 lv 3 (.int x)) st h := k_nx (i := .istore_n 3) rfl rfl
theorem s_116_4 (d L n : Nat) (scr : Nat → Int32) (call : Nat → List Value → am_H → Option am_X) (lv : am_L) (st : List Value) (h : am_H) : am_f d scr L call 116 (n + 1) 4 lv st h = (match am_ld lv 0 with
    | some (.ref x) => am_f d scr L call 116 n 5 lv (.ref x :: st) h
    | _ => none) := k_la (i := .aload_n 0) rfl rfl rfl rfl
theorem s_116_5 (d L n : Nat) (scr : Nat → Int32) (call : Nat → List Value → am_H → Option am_X) (lv : am_L) (st : List Value) (h : am_H) (a : Nat) : am_f d scr L call 116 (n + 1) 5 lv (.ref a :: st) h = (match am_get h a 8 32 with
    | some v => am_f d scr L call 116 n 8 lv (v :: st) h
    | none => none) := k_gf (k := 69) rfl rfl
theorem s_116_8 (d L n : Nat) (scr : Nat → Int32) (call : Nat → List Value → am_H → Option am_X) (lv : am_L) (st : List Value) (h : am_H) : am_f d scr L call 116 (n + 1) 8 lv st h = (match am_ld lv 3 with
    | some (.int x) => am_f d scr L call 116 n 9 lv (.int x :: st) h
    | _ => none) := k_li (i := .iload_n 3) rfl rfl rfl rfl
theorem s_116_9 (d L n : Nat) (scr : Nat → Int32) (call : Nat → List Value → am_H → Option am_X) (lv : am_L) (st : List Value) (h : am_H) (a : Nat) (i : Int32) : am_f d scr L call 116 (n + 1) 9 lv (.int i :: .ref a :: st) h = (match am_ild scr L h a i with
    | some x => am_f d scr L call 116 n 10 lv (.int x :: st) h
    | none => none) := k_ia rfl
theorem s_116_10 (d L n : Nat) (scr : Nat → Int32) (call : Nat → List Value → am_H → Option am_X) (lv : am_L) (st : List Value) (h : am_H) : am_f d scr L call 116 (n + 1) 10 lv st h = am_f d scr L call 116 n 11 lv (.int 4 :: st) h := k_nx (i := .iconst 4) rfl rfl
theorem s_116_11 (d L n : Nat) (scr : Nat → Int32) (call : Nat → List Value → am_H → Option am_X) (lv : am_L) (st : List Value) (h : am_H) (x y : Int32) : am_f d scr L call 116 (n + 1) 11 lv (.int y :: .int x :: st) h = if ¬ x = y then am_f d scr L call 116 n 32 lv st h else am_f d scr L call 116 n 14 lv st h := k_ic_ne (o := 21) rfl ⟨by decide, rfl⟩
theorem s_116_14 (d L n : Nat) (scr : Nat → Int32) (call : Nat → List Value → am_H → Option am_X) (lv : am_L) (st : List Value) (h : am_H) : am_f d scr L call 116 (n + 1) 14 lv st h = (match am_ld lv 2 with
    | some (.int x) => am_f d scr L call 116 n 17 (am_st1 lv 2 (.int (x + 1))) st h
    | _ => none) := k_iinc (k := 2) (c := 1) rfl rfl (Nat.le_of_ble_eq_true rfl)
theorem s_116_17 (d L n : Nat) (scr : Nat → Int32) (call : Nat → List Value → am_H → Option am_X) (lv : am_L) (st : List Value) (h : am_H) : am_f d scr L call 116 (n + 1) 17 lv st h = (match am_ld lv 0 with
    | some (.ref x) => am_f d scr L call 116 n 18 lv (.ref x :: st) h
    | _ => none) := k_la (i := .aload_n 0) rfl rfl rfl rfl
theorem s_116_18 (d L n : Nat) (scr : Nat → Int32) (call : Nat → List Value → am_H → Option am_X) (lv : am_L) (st : List Value) (h : am_H) (a : Nat) : am_f d scr L call 116 (n + 1) 18 lv (.ref a :: st) h = (match am_get h a 8 36 with
    | some v => am_f d scr L call 116 n 21 lv (v :: st) h
    | none => none) := k_gf (k := 78) rfl rfl
theorem s_116_21 (d L n : Nat) (scr : Nat → Int32) (call : Nat → List Value → am_H → Option am_X) (lv : am_L) (st : List Value) (h : am_H) : am_f d scr L call 116 (n + 1) 21 lv st h = (match am_ld lv 0 with
    | some (.ref x) => am_f d scr L call 116 n 22 lv (.ref x :: st) h
    | _ => none) := k_la (i := .aload_n 0) rfl rfl rfl rfl
theorem s_116_22 (d L n : Nat) (scr : Nat → Int32) (call : Nat → List Value → am_H → Option am_X) (lv : am_L) (st : List Value) (h : am_H) (a : Nat) : am_f d scr L call 116 (n + 1) 22 lv (.ref a :: st) h = (match am_get h a 8 33 with
    | some v => am_f d scr L call 116 n 25 lv (v :: st) h
    | none => none) := k_gf (k := 72) rfl rfl
theorem s_116_25 (d L n : Nat) (scr : Nat → Int32) (call : Nat → List Value → am_H → Option am_X) (lv : am_L) (st : List Value) (h : am_H) : am_f d scr L call 116 (n + 1) 25 lv st h = (match am_ld lv 3 with
    | some (.int x) => am_f d scr L call 116 n 26 lv (.int x :: st) h
    | _ => none) := k_li (i := .iload_n 3) rfl rfl rfl rfl
theorem s_116_26 (d L n : Nat) (scr : Nat → Int32) (call : Nat → List Value → am_H → Option am_X) (lv : am_L) (st : List Value) (h : am_H) (a : Nat) (i : Int32) : am_f d scr L call 116 (n + 1) 26 lv (.int i :: .ref a :: st) h = (match am_ild scr L h a i with
    | some x => am_f d scr L call 116 n 27 lv (.int x :: st) h
    | none => none) := k_ia rfl
theorem s_116_27 (d L n : Nat) (scr : Nat → Int32) (call : Nat → List Value → am_H → Option am_X) (lv : am_L) (st : List Value) (h : am_H) (a : Nat) (i : Int32) : am_f d scr L call 116 (n + 1) 27 lv (.int i :: .ref a :: st) h = (match am_ild scr L h a i with
    | some x => am_f d scr L call 116 n 28 lv (.int x :: st) h
    | none => none) := k_ia rfl
theorem s_116_28 (d L n : Nat) (scr : Nat → Int32) (call : Nat → List Value → am_H → Option am_X) (lv : am_L) (st : List Value) (h : am_H) (x : Int32) : am_f d scr L call 116 (n + 1) 28 lv (.int x :: st) h = am_f d scr L call 116 n 29 (am_st1 lv 3 (.int x)) st h := k_nx (i := .istore_n 3) rfl rfl
theorem s_116_29 (d L n : Nat) (scr : Nat → Int32) (call : Nat → List Value → am_H → Option am_X) (lv : am_L) (st : List Value) (h : am_H) : am_f d scr L call 116 (n + 1) 29 lv st h = am_f d scr L call 116 n 4 lv st h := k_nx (i := .goto (-25)) rfl rfl
theorem s_116_32 (d L n : Nat) (scr : Nat → Int32) (call : Nat → List Value → am_H → Option am_X) (lv : am_L) (st : List Value) (h : am_H) : am_f d scr L call 116 (n + 1) 32 lv st h = (match am_ld lv 2 with
    | some (.int x) => am_f d scr L call 116 n 33 lv (.int x :: st) h
    | _ => none) := k_li (i := .iload_n 2) rfl rfl rfl rfl
theorem s_116_33 (d L n : Nat) (scr : Nat → Int32) (call : Nat → List Value → am_H → Option am_X) (lv : am_L) (h : am_H) (x : Int32) : am_f d scr L call 116 (n + 1) 33 lv [.int x] h = some (some (.int x), h, 0, 0) := k_ir rfl rfl
-- 117: BlameDeskModel.wrap(II)I
theorem s_117_0 (d L n : Nat) (scr : Nat → Int32) (call : Nat → List Value → am_H → Option am_X) (lv : am_L) (st : List Value) (h : am_H) : am_f d scr L call 117 (n + 1) 0 lv st h = (match am_ld lv 1 with
    | some (.int x) => am_f d scr L call 117 n 1 lv (.int x :: st) h
    | _ => none) := k_li (i := .iload_n 1) rfl rfl rfl rfl
theorem s_117_1 (d L n : Nat) (scr : Nat → Int32) (call : Nat → List Value → am_H → Option am_X) (lv : am_L) (st : List Value) (h : am_H) (x : Int32) : am_f d scr L call 117 (n + 1) 1 lv (.int x :: st) h = am_f d scr L call 117 n 2 (am_st1 lv 3 (.int x)) st h := k_nx (i := .istore_n 3) rfl rfl
theorem s_117_2 (d L n : Nat) (scr : Nat → Int32) (call : Nat → List Value → am_H → Option am_X) (lv : am_L) (st : List Value) (h : am_H) : am_f d scr L call 117 (n + 1) 2 lv st h = am_f d scr L call 117 n 3 lv (.int 0 :: st) h := k_nx (i := .iconst 0) rfl rfl
theorem s_117_3 (d L n : Nat) (scr : Nat → Int32) (call : Nat → List Value → am_H → Option am_X) (lv : am_L) (st : List Value) (h : am_H) (x : Int32) : am_f d scr L call 117 (n + 1) 3 lv (.int x :: st) h = am_f d scr L call 117 n 5 (am_st1 lv 4 (.int x)) st h := k_nx (i := .istore 4) rfl rfl
theorem s_117_5 (d L n : Nat) (scr : Nat → Int32) (call : Nat → List Value → am_H → Option am_X) (lv : am_L) (st : List Value) (h : am_H) : am_f d scr L call 117 (n + 1) 5 lv st h = (match am_ld lv 4 with
    | some (.int x) => am_f d scr L call 117 n 7 lv (.int x :: st) h
    | _ => none) := k_li (i := .iload 4) rfl rfl rfl rfl
theorem s_117_7 (d L n : Nat) (scr : Nat → Int32) (call : Nat → List Value → am_H → Option am_X) (lv : am_L) (st : List Value) (h : am_H) : am_f d scr L call 117 (n + 1) 7 lv st h = (match am_ld lv 2 with
    | some (.int x) => am_f d scr L call 117 n 8 lv (.int x :: st) h
    | _ => none) := k_li (i := .iload_n 2) rfl rfl rfl rfl
theorem s_117_8 (d L n : Nat) (scr : Nat → Int32) (call : Nat → List Value → am_H → Option am_X) (lv : am_L) (st : List Value) (h : am_H) (x y : Int32) : am_f d scr L call 117 (n + 1) 8 lv (.int y :: .int x :: st) h = if y ≤ x then am_f d scr L call 117 n 29 lv st h else am_f d scr L call 117 n 11 lv st h := k_ic_ge (o := 21) rfl ⟨by decide, rfl⟩
theorem s_117_11 (d L n : Nat) (scr : Nat → Int32) (call : Nat → List Value → am_H → Option am_X) (lv : am_L) (st : List Value) (h : am_H) : am_f d scr L call 117 (n + 1) 11 lv st h = (match am_ld lv 0 with
    | some (.ref x) => am_f d scr L call 117 n 12 lv (.ref x :: st) h
    | _ => none) := k_la (i := .aload_n 0) rfl rfl rfl rfl
theorem s_117_12 (d L n : Nat) (scr : Nat → Int32) (call : Nat → List Value → am_H → Option am_X) (lv : am_L) (st : List Value) (h : am_H) (a : Nat) : am_f d scr L call 117 (n + 1) 12 lv (.ref a :: st) h = (match am_get h a 8 36 with
    | some v => am_f d scr L call 117 n 15 lv (v :: st) h
    | none => none) := k_gf (k := 78) rfl rfl
theorem s_117_15 (d L n : Nat) (scr : Nat → Int32) (call : Nat → List Value → am_H → Option am_X) (lv : am_L) (st : List Value) (h : am_H) : am_f d scr L call 117 (n + 1) 15 lv st h = (match am_ld lv 0 with
    | some (.ref x) => am_f d scr L call 117 n 16 lv (.ref x :: st) h
    | _ => none) := k_la (i := .aload_n 0) rfl rfl rfl rfl
theorem s_117_16 (d L n : Nat) (scr : Nat → Int32) (call : Nat → List Value → am_H → Option am_X) (lv : am_L) (st : List Value) (h : am_H) (a : Nat) : am_f d scr L call 117 (n + 1) 16 lv (.ref a :: st) h = (match am_get h a 8 33 with
    | some v => am_f d scr L call 117 n 19 lv (v :: st) h
    | none => none) := k_gf (k := 72) rfl rfl
theorem s_117_19 (d L n : Nat) (scr : Nat → Int32) (call : Nat → List Value → am_H → Option am_X) (lv : am_L) (st : List Value) (h : am_H) : am_f d scr L call 117 (n + 1) 19 lv st h = (match am_ld lv 3 with
    | some (.int x) => am_f d scr L call 117 n 20 lv (.int x :: st) h
    | _ => none) := k_li (i := .iload_n 3) rfl rfl rfl rfl
theorem s_117_20 (d L n : Nat) (scr : Nat → Int32) (call : Nat → List Value → am_H → Option am_X) (lv : am_L) (st : List Value) (h : am_H) (a : Nat) (i : Int32) : am_f d scr L call 117 (n + 1) 20 lv (.int i :: .ref a :: st) h = (match am_ild scr L h a i with
    | some x => am_f d scr L call 117 n 21 lv (.int x :: st) h
    | none => none) := k_ia rfl
theorem s_117_21 (d L n : Nat) (scr : Nat → Int32) (call : Nat → List Value → am_H → Option am_X) (lv : am_L) (st : List Value) (h : am_H) (a : Nat) (i : Int32) : am_f d scr L call 117 (n + 1) 21 lv (.int i :: .ref a :: st) h = (match am_ild scr L h a i with
    | some x => am_f d scr L call 117 n 22 lv (.int x :: st) h
    | none => none) := k_ia rfl
theorem s_117_22 (d L n : Nat) (scr : Nat → Int32) (call : Nat → List Value → am_H → Option am_X) (lv : am_L) (st : List Value) (h : am_H) (x : Int32) : am_f d scr L call 117 (n + 1) 22 lv (.int x :: st) h = am_f d scr L call 117 n 23 (am_st1 lv 3 (.int x)) st h := k_nx (i := .istore_n 3) rfl rfl
theorem s_117_23 (d L n : Nat) (scr : Nat → Int32) (call : Nat → List Value → am_H → Option am_X) (lv : am_L) (st : List Value) (h : am_H) : am_f d scr L call 117 (n + 1) 23 lv st h = (match am_ld lv 4 with
    | some (.int x) => am_f d scr L call 117 n 26 (am_st1 lv 4 (.int (x + 1))) st h
    | _ => none) := k_iinc (k := 4) (c := 1) rfl rfl (Nat.le_of_ble_eq_true rfl)
theorem s_117_26 (d L n : Nat) (scr : Nat → Int32) (call : Nat → List Value → am_H → Option am_X) (lv : am_L) (st : List Value) (h : am_H) : am_f d scr L call 117 (n + 1) 26 lv st h = am_f d scr L call 117 n 5 lv st h := k_nx (i := .goto (-21)) rfl rfl
theorem s_117_29 (d L n : Nat) (scr : Nat → Int32) (call : Nat → List Value → am_H → Option am_X) (lv : am_L) (st : List Value) (h : am_H) : am_f d scr L call 117 (n + 1) 29 lv st h = (match am_ld lv 0 with
    | some (.ref x) => am_f d scr L call 117 n 30 lv (.ref x :: st) h
    | _ => none) := k_la (i := .aload_n 0) rfl rfl rfl rfl
theorem s_117_30 (d L n : Nat) (scr : Nat → Int32) (call : Nat → List Value → am_H → Option am_X) (lv : am_L) (st : List Value) (h : am_H) (a : Nat) : am_f d scr L call 117 (n + 1) 30 lv (.ref a :: st) h = (match am_get h a 8 33 with
    | some v => am_f d scr L call 117 n 33 lv (v :: st) h
    | none => none) := k_gf (k := 72) rfl rfl
theorem s_117_33 (d L n : Nat) (scr : Nat → Int32) (call : Nat → List Value → am_H → Option am_X) (lv : am_L) (st : List Value) (h : am_H) : am_f d scr L call 117 (n + 1) 33 lv st h = (match am_ld lv 3 with
    | some (.int x) => am_f d scr L call 117 n 34 lv (.int x :: st) h
    | _ => none) := k_li (i := .iload_n 3) rfl rfl rfl rfl
theorem s_117_34 (d L n : Nat) (scr : Nat → Int32) (call : Nat → List Value → am_H → Option am_X) (lv : am_L) (st : List Value) (h : am_H) (a : Nat) (i : Int32) : am_f d scr L call 117 (n + 1) 34 lv (.int i :: .ref a :: st) h = (match am_ild scr L h a i with
    | some x => am_f d scr L call 117 n 35 lv (.int x :: st) h
    | none => none) := k_ia rfl
theorem s_117_35 (d L n : Nat) (scr : Nat → Int32) (call : Nat → List Value → am_H → Option am_X) (lv : am_L) (h : am_H) (x : Int32) : am_f d scr L call 117 (n + 1) 35 lv [.int x] h = some (some (.int x), h, 0, 0) := k_ir rfl rfl
-- 118: BlameDeskModel.inwards(II)I
theorem s_118_0 (d L n : Nat) (scr : Nat → Int32) (call : Nat → List Value → am_H → Option am_X) (lv : am_L) (st : List Value) (h : am_H) : am_f d scr L call 118 (n + 1) 0 lv st h = (match am_ld lv 2 with
    | some (.int x) => am_f d scr L call 118 n 1 lv (.int x :: st) h
    | _ => none) := k_li (i := .iload_n 2) rfl rfl rfl rfl
theorem s_118_1 (d L n : Nat) (scr : Nat → Int32) (call : Nat → List Value → am_H → Option am_X) (lv : am_L) (st : List Value) (h : am_H) (x : Int32) : am_f d scr L call 118 (n + 1) 1 lv (.int x :: st) h = am_f d scr L call 118 n 2 (am_st1 lv 3 (.int x)) st h := k_nx (i := .istore_n 3) rfl rfl
theorem s_118_2 (d L n : Nat) (scr : Nat → Int32) (call : Nat → List Value → am_H → Option am_X) (lv : am_L) (st : List Value) (h : am_H) : am_f d scr L call 118 (n + 1) 2 lv st h = (match am_ld lv 0 with
    | some (.ref x) => am_f d scr L call 118 n 3 lv (.ref x :: st) h
    | _ => none) := k_la (i := .aload_n 0) rfl rfl rfl rfl
theorem s_118_3 (d L n : Nat) (scr : Nat → Int32) (call : Nat → List Value → am_H → Option am_X) (lv : am_L) (st : List Value) (h : am_H) : am_f d scr L call 118 (n + 1) 3 lv st h = (match am_ld lv 1 with
    | some (.int x) => am_f d scr L call 118 n 4 lv (.int x :: st) h
    | _ => none) := k_li (i := .iload_n 1) rfl rfl rfl rfl
theorem s_118_4 (d L n : Nat) (scr : Nat → Int32) (call : Nat → List Value → am_H → Option am_X) (lv : am_L) (h : am_H) (o : Nat) (a0 : Int32)  : am_f d scr L call 118 (n + 1) 4 lv (.int a0 :: .ref o :: []) h = if am_at h o 8 = true then (match call 116 [.ref o, .int a0] h with
    | some (v, h', dk, dn) => am_add dk dn (am_f d scr L call 118 n 7 lv (v.toList ++ []) h')
    | none => none) else none := k_iv0 (k := 234) (as := [.int a0]) (r := []) rfl rfl rfl rfl (Nat.le_of_ble_eq_true rfl)
theorem s_118_7 (d L n : Nat) (scr : Nat → Int32) (call : Nat → List Value → am_H → Option am_X) (lv : am_L) (st : List Value) (h : am_H) (x : Int32) : am_f d scr L call 118 (n + 1) 7 lv (.int x :: st) h = am_f d scr L call 118 n 9 (am_st1 lv 4 (.int x)) st h := k_nx (i := .istore 4) rfl rfl
theorem s_118_9 (d L n : Nat) (scr : Nat → Int32) (call : Nat → List Value → am_H → Option am_X) (lv : am_L) (st : List Value) (h : am_H) : am_f d scr L call 118 (n + 1) 9 lv st h = am_f d scr L call 118 n 10 lv (.int 0 :: st) h := k_nx (i := .iconst 0) rfl rfl
theorem s_118_10 (d L n : Nat) (scr : Nat → Int32) (call : Nat → List Value → am_H → Option am_X) (lv : am_L) (st : List Value) (h : am_H) (x : Int32) : am_f d scr L call 118 (n + 1) 10 lv (.int x :: st) h = am_f d scr L call 118 n 12 (am_st1 lv 5 (.int x)) st h := k_nx (i := .istore 5) rfl rfl
theorem s_118_12 (d L n : Nat) (scr : Nat → Int32) (call : Nat → List Value → am_H → Option am_X) (lv : am_L) (st : List Value) (h : am_H) : am_f d scr L call 118 (n + 1) 12 lv st h = (match am_ld lv 5 with
    | some (.int x) => am_f d scr L call 118 n 14 lv (.int x :: st) h
    | _ => none) := k_li (i := .iload 5) rfl rfl rfl rfl
theorem s_118_14 (d L n : Nat) (scr : Nat → Int32) (call : Nat → List Value → am_H → Option am_X) (lv : am_L) (st : List Value) (h : am_H) : am_f d scr L call 118 (n + 1) 14 lv st h = (match am_ld lv 4 with
    | some (.int x) => am_f d scr L call 118 n 16 lv (.int x :: st) h
    | _ => none) := k_li (i := .iload 4) rfl rfl rfl rfl
theorem s_118_16 (d L n : Nat) (scr : Nat → Int32) (call : Nat → List Value → am_H → Option am_X) (lv : am_L) (st : List Value) (h : am_H) (x y : Int32) : am_f d scr L call 118 (n + 1) 16 lv (.int y :: .int x :: st) h = if y ≤ x then am_f d scr L call 118 n 80 lv st h else am_f d scr L call 118 n 19 lv st h := k_ic_ge (o := 64) rfl ⟨by decide, rfl⟩
theorem s_118_19 (d L n : Nat) (scr : Nat → Int32) (call : Nat → List Value → am_H → Option am_X) (lv : am_L) (st : List Value) (h : am_H) : am_f d scr L call 118 (n + 1) 19 lv st h = (match am_ld lv 0 with
    | some (.ref x) => am_f d scr L call 118 n 20 lv (.ref x :: st) h
    | _ => none) := k_la (i := .aload_n 0) rfl rfl rfl rfl
theorem s_118_20 (d L n : Nat) (scr : Nat → Int32) (call : Nat → List Value → am_H → Option am_X) (lv : am_L) (st : List Value) (h : am_H) (a : Nat) : am_f d scr L call 118 (n + 1) 20 lv (.ref a :: st) h = (match am_get h a 8 51 with
    | some v => am_f d scr L call 118 n 23 lv (v :: st) h
    | none => none) := k_gf (k := 216) rfl rfl
theorem s_118_23 (d L n : Nat) (scr : Nat → Int32) (call : Nat → List Value → am_H → Option am_X) (lv : am_L) (st : List Value) (h : am_H) (x : Int32) : am_f d scr L call 118 (n + 1) 23 lv (.int x :: st) h = if ¬ x = 0 then am_f d scr L call 118 n 80 lv st h else am_f d scr L call 118 n 26 lv st h := k_if_ne (o := 57) rfl ⟨by decide, rfl⟩
theorem s_118_26 (d L n : Nat) (scr : Nat → Int32) (call : Nat → List Value → am_H → Option am_X) (lv : am_L) (st : List Value) (h : am_H) : am_f d scr L call 118 (n + 1) 26 lv st h = (match am_ld lv 0 with
    | some (.ref x) => am_f d scr L call 118 n 27 lv (.ref x :: st) h
    | _ => none) := k_la (i := .aload_n 0) rfl rfl rfl rfl
theorem s_118_27 (d L n : Nat) (scr : Nat → Int32) (call : Nat → List Value → am_H → Option am_X) (lv : am_L) (st : List Value) (h : am_H) : am_f d scr L call 118 (n + 1) 27 lv st h = (match am_ld lv 1 with
    | some (.int x) => am_f d scr L call 118 n 28 lv (.int x :: st) h
    | _ => none) := k_li (i := .iload_n 1) rfl rfl rfl rfl
theorem s_118_28 (d L n : Nat) (scr : Nat → Int32) (call : Nat → List Value → am_H → Option am_X) (lv : am_L) (st : List Value) (h : am_H) : am_f d scr L call 118 (n + 1) 28 lv st h = (match am_ld lv 5 with
    | some (.int x) => am_f d scr L call 118 n 30 lv (.int x :: st) h
    | _ => none) := k_li (i := .iload 5) rfl rfl rfl rfl
theorem s_118_30 (d L n : Nat) (scr : Nat → Int32) (call : Nat → List Value → am_H → Option am_X) (lv : am_L) (h : am_H) (o : Nat) (a0 : Int32) (a1 : Int32)  : am_f d scr L call 118 (n + 1) 30 lv (.int a1 :: .int a0 :: .ref o :: []) h = if am_at h o 8 = true then (match call 117 [.ref o, .int a0, .int a1] h with
    | some (v, h', dk, dn) => am_add dk dn (am_f d scr L call 118 n 33 lv (v.toList ++ []) h')
    | none => none) else none := k_iv0 (k := 237) (as := [.int a0, .int a1]) (r := []) rfl rfl rfl rfl (Nat.le_of_ble_eq_true rfl)
theorem s_118_33 (d L n : Nat) (scr : Nat → Int32) (call : Nat → List Value → am_H → Option am_X) (lv : am_L) (st : List Value) (h : am_H) (x : Int32) : am_f d scr L call 118 (n + 1) 33 lv (.int x :: st) h = am_f d scr L call 118 n 35 (am_st1 lv 6 (.int x)) st h := k_nx (i := .istore 6) rfl rfl
theorem s_118_35 (d L n : Nat) (scr : Nat → Int32) (call : Nat → List Value → am_H → Option am_X) (lv : am_L) (st : List Value) (h : am_H) : am_f d scr L call 118 (n + 1) 35 lv st h = (match am_ld lv 0 with
    | some (.ref x) => am_f d scr L call 118 n 36 lv (.ref x :: st) h
    | _ => none) := k_la (i := .aload_n 0) rfl rfl rfl rfl
theorem s_118_36 (d L n : Nat) (scr : Nat → Int32) (call : Nat → List Value → am_H → Option am_X) (lv : am_L) (st : List Value) (h : am_H) : am_f d scr L call 118 (n + 1) 36 lv st h = (match am_ld lv 3 with
    | some (.int x) => am_f d scr L call 118 n 37 lv (.int x :: st) h
    | _ => none) := k_li (i := .iload_n 3) rfl rfl rfl rfl
theorem s_118_37 (d L n : Nat) (scr : Nat → Int32) (call : Nat → List Value → am_H → Option am_X) (lv : am_L) (st : List Value) (h : am_H) : am_f d scr L call 118 (n + 1) 37 lv st h = (match am_ld lv 0 with
    | some (.ref x) => am_f d scr L call 118 n 38 lv (.ref x :: st) h
    | _ => none) := k_la (i := .aload_n 0) rfl rfl rfl rfl
theorem s_118_38 (d L n : Nat) (scr : Nat → Int32) (call : Nat → List Value → am_H → Option am_X) (lv : am_L) (st : List Value) (h : am_H) (a : Nat) : am_f d scr L call 118 (n + 1) 38 lv (.ref a :: st) h = (match am_get h a 8 4 with
    | some v => am_f d scr L call 118 n 41 lv (v :: st) h
    | none => none) := k_gf (k := 17) rfl rfl
theorem s_118_41 (d L n : Nat) (scr : Nat → Int32) (call : Nat → List Value → am_H → Option am_X) (lv : am_L) (st : List Value) (h : am_H) : am_f d scr L call 118 (n + 1) 41 lv st h = (match am_ld lv 0 with
    | some (.ref x) => am_f d scr L call 118 n 42 lv (.ref x :: st) h
    | _ => none) := k_la (i := .aload_n 0) rfl rfl rfl rfl
theorem s_118_42 (d L n : Nat) (scr : Nat → Int32) (call : Nat → List Value → am_H → Option am_X) (lv : am_L) (st : List Value) (h : am_H) (a : Nat) : am_f d scr L call 118 (n + 1) 42 lv (.ref a :: st) h = (match am_get h a 8 38 with
    | some v => am_f d scr L call 118 n 45 lv (v :: st) h
    | none => none) := k_gf (k := 84) rfl rfl
theorem s_118_45 (d L n : Nat) (scr : Nat → Int32) (call : Nat → List Value → am_H → Option am_X) (lv : am_L) (st : List Value) (h : am_H) : am_f d scr L call 118 (n + 1) 45 lv st h = (match am_ld lv 6 with
    | some (.int x) => am_f d scr L call 118 n 47 lv (.int x :: st) h
    | _ => none) := k_li (i := .iload 6) rfl rfl rfl rfl
theorem s_118_47 (d L n : Nat) (scr : Nat → Int32) (call : Nat → List Value → am_H → Option am_X) (lv : am_L) (st : List Value) (h : am_H) (a : Nat) (i : Int32) : am_f d scr L call 118 (n + 1) 47 lv (.int i :: .ref a :: st) h = (match am_ild scr L h a i with
    | some x => am_f d scr L call 118 n 48 lv (.int x :: st) h
    | none => none) := k_ia rfl
theorem s_118_48 (d L n : Nat) (scr : Nat → Int32) (call : Nat → List Value → am_H → Option am_X) (lv : am_L) (st : List Value) (h : am_H) (a : Nat) (i : Int32) : am_f d scr L call 118 (n + 1) 48 lv (.int i :: .ref a :: st) h = (match am_ild scr L h a i with
    | some x => am_f d scr L call 118 n 49 lv (.int x :: st) h
    | none => none) := k_ia rfl
theorem s_118_49 (d L n : Nat) (scr : Nat → Int32) (call : Nat → List Value → am_H → Option am_X) (lv : am_L) (st : List Value) (h : am_H) : am_f d scr L call 118 (n + 1) 49 lv st h = (match am_ld lv 0 with
    | some (.ref x) => am_f d scr L call 118 n 50 lv (.ref x :: st) h
    | _ => none) := k_la (i := .aload_n 0) rfl rfl rfl rfl
theorem s_118_50 (d L n : Nat) (scr : Nat → Int32) (call : Nat → List Value → am_H → Option am_X) (lv : am_L) (st : List Value) (h : am_H) (a : Nat) : am_f d scr L call 118 (n + 1) 50 lv (.ref a :: st) h = (match am_get h a 8 4 with
    | some v => am_f d scr L call 118 n 53 lv (v :: st) h
    | none => none) := k_gf (k := 17) rfl rfl
theorem s_118_53 (d L n : Nat) (scr : Nat → Int32) (call : Nat → List Value → am_H → Option am_X) (lv : am_L) (st : List Value) (h : am_H) : am_f d scr L call 118 (n + 1) 53 lv st h = (match am_ld lv 0 with
    | some (.ref x) => am_f d scr L call 118 n 54 lv (.ref x :: st) h
    | _ => none) := k_la (i := .aload_n 0) rfl rfl rfl rfl
theorem s_118_54 (d L n : Nat) (scr : Nat → Int32) (call : Nat → List Value → am_H → Option am_X) (lv : am_L) (st : List Value) (h : am_H) (a : Nat) : am_f d scr L call 118 (n + 1) 54 lv (.ref a :: st) h = (match am_get h a 8 37 with
    | some v => am_f d scr L call 118 n 57 lv (v :: st) h
    | none => none) := k_gf (k := 81) rfl rfl
theorem s_118_57 (d L n : Nat) (scr : Nat → Int32) (call : Nat → List Value → am_H → Option am_X) (lv : am_L) (st : List Value) (h : am_H) : am_f d scr L call 118 (n + 1) 57 lv st h = (match am_ld lv 6 with
    | some (.int x) => am_f d scr L call 118 n 59 lv (.int x :: st) h
    | _ => none) := k_li (i := .iload 6) rfl rfl rfl rfl
theorem s_118_59 (d L n : Nat) (scr : Nat → Int32) (call : Nat → List Value → am_H → Option am_X) (lv : am_L) (st : List Value) (h : am_H) (a : Nat) (i : Int32) : am_f d scr L call 118 (n + 1) 59 lv (.int i :: .ref a :: st) h = (match am_ild scr L h a i with
    | some x => am_f d scr L call 118 n 60 lv (.int x :: st) h
    | none => none) := k_ia rfl
theorem s_118_60 (d L n : Nat) (scr : Nat → Int32) (call : Nat → List Value → am_H → Option am_X) (lv : am_L) (st : List Value) (h : am_H) (a : Nat) (i : Int32) : am_f d scr L call 118 (n + 1) 60 lv (.int i :: .ref a :: st) h = (match am_ild scr L h a i with
    | some x => am_f d scr L call 118 n 61 lv (.int x :: st) h
    | none => none) := k_ia rfl
theorem s_118_61 (d L n : Nat) (scr : Nat → Int32) (call : Nat → List Value → am_H → Option am_X) (lv : am_L) (st : List Value) (h : am_H) : am_f d scr L call 118 (n + 1) 61 lv st h = (match am_ld lv 0 with
    | some (.ref x) => am_f d scr L call 118 n 62 lv (.ref x :: st) h
    | _ => none) := k_la (i := .aload_n 0) rfl rfl rfl rfl
theorem s_118_62 (d L n : Nat) (scr : Nat → Int32) (call : Nat → List Value → am_H → Option am_X) (lv : am_L) (st : List Value) (h : am_H) (a : Nat) : am_f d scr L call 118 (n + 1) 62 lv (.ref a :: st) h = (match am_get h a 8 39 with
    | some v => am_f d scr L call 118 n 65 lv (v :: st) h
    | none => none) := k_gf (k := 87) rfl rfl
theorem s_118_65 (d L n : Nat) (scr : Nat → Int32) (call : Nat → List Value → am_H → Option am_X) (lv : am_L) (st : List Value) (h : am_H) : am_f d scr L call 118 (n + 1) 65 lv st h = (match am_ld lv 6 with
    | some (.int x) => am_f d scr L call 118 n 67 lv (.int x :: st) h
    | _ => none) := k_li (i := .iload 6) rfl rfl rfl rfl
theorem s_118_67 (d L n : Nat) (scr : Nat → Int32) (call : Nat → List Value → am_H → Option am_X) (lv : am_L) (st : List Value) (h : am_H) (a : Nat) (i : Int32) : am_f d scr L call 118 (n + 1) 67 lv (.int i :: .ref a :: st) h = (match am_ild scr L h a i with
    | some x => am_f d scr L call 118 n 68 lv (.int x :: st) h
    | none => none) := k_ia rfl
theorem s_118_68 (d L n : Nat) (scr : Nat → Int32) (call : Nat → List Value → am_H → Option am_X) (lv : am_L) (st : List Value) (h : am_H) : am_f d scr L call 118 (n + 1) 68 lv st h = am_f d scr L call 118 n 69 lv (.int 1 :: st) h := k_nx (i := .iconst 1) rfl rfl
theorem s_118_69 (d L n : Nat) (scr : Nat → Int32) (call : Nat → List Value → am_H → Option am_X) (lv : am_L) (st : List Value) (h : am_H) (x y : Int32) : am_f d scr L call 118 (n + 1) 69 lv (.int y :: .int x :: st) h = am_f d scr L call 118 n 70 lv (.int (x ^^^ y) :: st) h := k_nx (i := .ixor) rfl rfl
theorem s_118_70 (d L n : Nat) (scr : Nat → Int32) (call : Nat → List Value → am_H → Option am_X) (lv : am_L) (h : am_H) (o : Nat) (a0 : Int32) (a1 : Int32) (a2 : Int32) (a3 : Int32)  : am_f d scr L call 118 (n + 1) 70 lv (.int a3 :: .int a2 :: .int a1 :: .int a0 :: .ref o :: []) h = if am_at h o 8 = true then (match call 114 [.ref o, .int a0, .int a1, .int a2, .int a3] h with
    | some (v, h', dk, dn) => am_add dk dn (am_f d scr L call 118 n 73 lv (v.toList ++ []) h')
    | none => none) else none := k_iv0 (k := 241) (as := [.int a0, .int a1, .int a2, .int a3]) (r := []) rfl rfl rfl rfl (Nat.le_of_ble_eq_true rfl)
theorem s_118_73 (d L n : Nat) (scr : Nat → Int32) (call : Nat → List Value → am_H → Option am_X) (lv : am_L) (st : List Value) (h : am_H) (x : Int32) : am_f d scr L call 118 (n + 1) 73 lv (.int x :: st) h = am_f d scr L call 118 n 74 (am_st1 lv 3 (.int x)) st h := k_nx (i := .istore_n 3) rfl rfl
theorem s_118_74 (d L n : Nat) (scr : Nat → Int32) (call : Nat → List Value → am_H → Option am_X) (lv : am_L) (st : List Value) (h : am_H) : am_f d scr L call 118 (n + 1) 74 lv st h = (match am_ld lv 5 with
    | some (.int x) => am_f d scr L call 118 n 77 (am_st1 lv 5 (.int (x + 1))) st h
    | _ => none) := k_iinc (k := 5) (c := 1) rfl rfl (Nat.le_of_ble_eq_true rfl)
theorem s_118_77 (d L n : Nat) (scr : Nat → Int32) (call : Nat → List Value → am_H → Option am_X) (lv : am_L) (st : List Value) (h : am_H) : am_f d scr L call 118 (n + 1) 77 lv st h = am_f d scr L call 118 n 12 lv st h := k_nx (i := .goto (-65)) rfl rfl
theorem s_118_80 (d L n : Nat) (scr : Nat → Int32) (call : Nat → List Value → am_H → Option am_X) (lv : am_L) (st : List Value) (h : am_H) : am_f d scr L call 118 (n + 1) 80 lv st h = (match am_ld lv 3 with
    | some (.int x) => am_f d scr L call 118 n 81 lv (.int x :: st) h
    | _ => none) := k_li (i := .iload_n 3) rfl rfl rfl rfl
theorem s_118_81 (d L n : Nat) (scr : Nat → Int32) (call : Nat → List Value → am_H → Option am_X) (lv : am_L) (h : am_H) (x : Int32) : am_f d scr L call 118 (n + 1) 81 lv [.int x] h = some (some (.int x), h, 0, 0) := k_ir rfl rfl
-- 119: BlameDeskModel.outwards(IIZ)I
theorem s_119_0 (d L n : Nat) (scr : Nat → Int32) (call : Nat → List Value → am_H → Option am_X) (lv : am_L) (st : List Value) (h : am_H) : am_f d scr L call 119 (n + 1) 0 lv st h = (match am_ld lv 2 with
    | some (.int x) => am_f d scr L call 119 n 1 lv (.int x :: st) h
    | _ => none) := k_li (i := .iload_n 2) rfl rfl rfl rfl
theorem s_119_1 (d L n : Nat) (scr : Nat → Int32) (call : Nat → List Value → am_H → Option am_X) (lv : am_L) (st : List Value) (h : am_H) (x : Int32) : am_f d scr L call 119 (n + 1) 1 lv (.int x :: st) h = am_f d scr L call 119 n 3 (am_st1 lv 4 (.int x)) st h := k_nx (i := .istore 4) rfl rfl
theorem s_119_3 (d L n : Nat) (scr : Nat → Int32) (call : Nat → List Value → am_H → Option am_X) (lv : am_L) (st : List Value) (h : am_H) : am_f d scr L call 119 (n + 1) 3 lv st h = (match am_ld lv 0 with
    | some (.ref x) => am_f d scr L call 119 n 4 lv (.ref x :: st) h
    | _ => none) := k_la (i := .aload_n 0) rfl rfl rfl rfl
theorem s_119_4 (d L n : Nat) (scr : Nat → Int32) (call : Nat → List Value → am_H → Option am_X) (lv : am_L) (st : List Value) (h : am_H) : am_f d scr L call 119 (n + 1) 4 lv st h = (match am_ld lv 1 with
    | some (.int x) => am_f d scr L call 119 n 5 lv (.int x :: st) h
    | _ => none) := k_li (i := .iload_n 1) rfl rfl rfl rfl
theorem s_119_5 (d L n : Nat) (scr : Nat → Int32) (call : Nat → List Value → am_H → Option am_X) (lv : am_L) (h : am_H) (o : Nat) (a0 : Int32)  : am_f d scr L call 119 (n + 1) 5 lv (.int a0 :: .ref o :: []) h = if am_at h o 8 = true then (match call 116 [.ref o, .int a0] h with
    | some (v, h', dk, dn) => am_add dk dn (am_f d scr L call 119 n 8 lv (v.toList ++ []) h')
    | none => none) else none := k_iv0 (k := 234) (as := [.int a0]) (r := []) rfl rfl rfl rfl (Nat.le_of_ble_eq_true rfl)
theorem s_119_8 (d L n : Nat) (scr : Nat → Int32) (call : Nat → List Value → am_H → Option am_X) (lv : am_L) (st : List Value) (h : am_H) : am_f d scr L call 119 (n + 1) 8 lv st h = am_f d scr L call 119 n 9 lv (.int 1 :: st) h := k_nx (i := .iconst 1) rfl rfl
theorem s_119_9 (d L n : Nat) (scr : Nat → Int32) (call : Nat → List Value → am_H → Option am_X) (lv : am_L) (st : List Value) (h : am_H) (x y : Int32) : am_f d scr L call 119 (n + 1) 9 lv (.int y :: .int x :: st) h = am_f d scr L call 119 n 10 lv (.int (x - y) :: st) h := k_nx (i := .isub) rfl rfl
theorem s_119_10 (d L n : Nat) (scr : Nat → Int32) (call : Nat → List Value → am_H → Option am_X) (lv : am_L) (st : List Value) (h : am_H) (x : Int32) : am_f d scr L call 119 (n + 1) 10 lv (.int x :: st) h = am_f d scr L call 119 n 12 (am_st1 lv 5 (.int x)) st h := k_nx (i := .istore 5) rfl rfl
theorem s_119_12 (d L n : Nat) (scr : Nat → Int32) (call : Nat → List Value → am_H → Option am_X) (lv : am_L) (st : List Value) (h : am_H) : am_f d scr L call 119 (n + 1) 12 lv st h = (match am_ld lv 5 with
    | some (.int x) => am_f d scr L call 119 n 14 lv (.int x :: st) h
    | _ => none) := k_li (i := .iload 5) rfl rfl rfl rfl
theorem s_119_14 (d L n : Nat) (scr : Nat → Int32) (call : Nat → List Value → am_H → Option am_X) (lv : am_L) (st : List Value) (h : am_H) (x : Int32) : am_f d scr L call 119 (n + 1) 14 lv (.int x :: st) h = if x < 0 then am_f d scr L call 119 n 122 lv st h else am_f d scr L call 119 n 17 lv st h := k_if_lt (o := 108) rfl ⟨by decide, rfl⟩
theorem s_119_17 (d L n : Nat) (scr : Nat → Int32) (call : Nat → List Value → am_H → Option am_X) (lv : am_L) (st : List Value) (h : am_H) : am_f d scr L call 119 (n + 1) 17 lv st h = (match am_ld lv 0 with
    | some (.ref x) => am_f d scr L call 119 n 18 lv (.ref x :: st) h
    | _ => none) := k_la (i := .aload_n 0) rfl rfl rfl rfl
theorem s_119_18 (d L n : Nat) (scr : Nat → Int32) (call : Nat → List Value → am_H → Option am_X) (lv : am_L) (st : List Value) (h : am_H) (a : Nat) : am_f d scr L call 119 (n + 1) 18 lv (.ref a :: st) h = (match am_get h a 8 51 with
    | some v => am_f d scr L call 119 n 21 lv (v :: st) h
    | none => none) := k_gf (k := 216) rfl rfl
theorem s_119_21 (d L n : Nat) (scr : Nat → Int32) (call : Nat → List Value → am_H → Option am_X) (lv : am_L) (st : List Value) (h : am_H) (x : Int32) : am_f d scr L call 119 (n + 1) 21 lv (.int x :: st) h = if ¬ x = 0 then am_f d scr L call 119 n 122 lv st h else am_f d scr L call 119 n 24 lv st h := k_if_ne (o := 101) rfl ⟨by decide, rfl⟩
theorem s_119_24 (d L n : Nat) (scr : Nat → Int32) (call : Nat → List Value → am_H → Option am_X) (lv : am_L) (st : List Value) (h : am_H) : am_f d scr L call 119 (n + 1) 24 lv st h = (match am_ld lv 0 with
    | some (.ref x) => am_f d scr L call 119 n 25 lv (.ref x :: st) h
    | _ => none) := k_la (i := .aload_n 0) rfl rfl rfl rfl
theorem s_119_25 (d L n : Nat) (scr : Nat → Int32) (call : Nat → List Value → am_H → Option am_X) (lv : am_L) (st : List Value) (h : am_H) : am_f d scr L call 119 (n + 1) 25 lv st h = (match am_ld lv 1 with
    | some (.int x) => am_f d scr L call 119 n 26 lv (.int x :: st) h
    | _ => none) := k_li (i := .iload_n 1) rfl rfl rfl rfl
theorem s_119_26 (d L n : Nat) (scr : Nat → Int32) (call : Nat → List Value → am_H → Option am_X) (lv : am_L) (st : List Value) (h : am_H) : am_f d scr L call 119 (n + 1) 26 lv st h = (match am_ld lv 5 with
    | some (.int x) => am_f d scr L call 119 n 28 lv (.int x :: st) h
    | _ => none) := k_li (i := .iload 5) rfl rfl rfl rfl
theorem s_119_28 (d L n : Nat) (scr : Nat → Int32) (call : Nat → List Value → am_H → Option am_X) (lv : am_L) (h : am_H) (o : Nat) (a0 : Int32) (a1 : Int32)  : am_f d scr L call 119 (n + 1) 28 lv (.int a1 :: .int a0 :: .ref o :: []) h = if am_at h o 8 = true then (match call 117 [.ref o, .int a0, .int a1] h with
    | some (v, h', dk, dn) => am_add dk dn (am_f d scr L call 119 n 31 lv (v.toList ++ []) h')
    | none => none) else none := k_iv0 (k := 237) (as := [.int a0, .int a1]) (r := []) rfl rfl rfl rfl (Nat.le_of_ble_eq_true rfl)
theorem s_119_31 (d L n : Nat) (scr : Nat → Int32) (call : Nat → List Value → am_H → Option am_X) (lv : am_L) (st : List Value) (h : am_H) (x : Int32) : am_f d scr L call 119 (n + 1) 31 lv (.int x :: st) h = am_f d scr L call 119 n 33 (am_st1 lv 6 (.int x)) st h := k_nx (i := .istore 6) rfl rfl
theorem s_119_33 (d L n : Nat) (scr : Nat → Int32) (call : Nat → List Value → am_H → Option am_X) (lv : am_L) (st : List Value) (h : am_H) : am_f d scr L call 119 (n + 1) 33 lv st h = (match am_ld lv 3 with
    | some (.int x) => am_f d scr L call 119 n 34 lv (.int x :: st) h
    | _ => none) := k_li (i := .iload_n 3) rfl rfl rfl rfl
theorem s_119_34 (d L n : Nat) (scr : Nat → Int32) (call : Nat → List Value → am_H → Option am_X) (lv : am_L) (st : List Value) (h : am_H) (x : Int32) : am_f d scr L call 119 (n + 1) 34 lv (.int x :: st) h = if x = 0 then am_f d scr L call 119 n 77 lv st h else am_f d scr L call 119 n 37 lv st h := k_if_eq (o := 43) rfl ⟨by decide, rfl⟩
theorem s_119_37 (d L n : Nat) (scr : Nat → Int32) (call : Nat → List Value → am_H → Option am_X) (lv : am_L) (st : List Value) (h : am_H) : am_f d scr L call 119 (n + 1) 37 lv st h = (match am_ld lv 0 with
    | some (.ref x) => am_f d scr L call 119 n 38 lv (.ref x :: st) h
    | _ => none) := k_la (i := .aload_n 0) rfl rfl rfl rfl
theorem s_119_38 (d L n : Nat) (scr : Nat → Int32) (call : Nat → List Value → am_H → Option am_X) (lv : am_L) (st : List Value) (h : am_H) : am_f d scr L call 119 (n + 1) 38 lv st h = (match am_ld lv 4 with
    | some (.int x) => am_f d scr L call 119 n 40 lv (.int x :: st) h
    | _ => none) := k_li (i := .iload 4) rfl rfl rfl rfl
theorem s_119_40 (d L n : Nat) (scr : Nat → Int32) (call : Nat → List Value → am_H → Option am_X) (lv : am_L) (st : List Value) (h : am_H) : am_f d scr L call 119 (n + 1) 40 lv st h = (match am_ld lv 0 with
    | some (.ref x) => am_f d scr L call 119 n 41 lv (.ref x :: st) h
    | _ => none) := k_la (i := .aload_n 0) rfl rfl rfl rfl
theorem s_119_41 (d L n : Nat) (scr : Nat → Int32) (call : Nat → List Value → am_H → Option am_X) (lv : am_L) (st : List Value) (h : am_H) (a : Nat) : am_f d scr L call 119 (n + 1) 41 lv (.ref a :: st) h = (match am_get h a 8 5 with
    | some v => am_f d scr L call 119 n 44 lv (v :: st) h
    | none => none) := k_gf (k := 20) rfl rfl
theorem s_119_44 (d L n : Nat) (scr : Nat → Int32) (call : Nat → List Value → am_H → Option am_X) (lv : am_L) (st : List Value) (h : am_H) : am_f d scr L call 119 (n + 1) 44 lv st h = (match am_ld lv 0 with
    | some (.ref x) => am_f d scr L call 119 n 45 lv (.ref x :: st) h
    | _ => none) := k_la (i := .aload_n 0) rfl rfl rfl rfl
theorem s_119_45 (d L n : Nat) (scr : Nat → Int32) (call : Nat → List Value → am_H → Option am_X) (lv : am_L) (st : List Value) (h : am_H) (a : Nat) : am_f d scr L call 119 (n + 1) 45 lv (.ref a :: st) h = (match am_get h a 8 37 with
    | some v => am_f d scr L call 119 n 48 lv (v :: st) h
    | none => none) := k_gf (k := 81) rfl rfl
theorem s_119_48 (d L n : Nat) (scr : Nat → Int32) (call : Nat → List Value → am_H → Option am_X) (lv : am_L) (st : List Value) (h : am_H) : am_f d scr L call 119 (n + 1) 48 lv st h = (match am_ld lv 6 with
    | some (.int x) => am_f d scr L call 119 n 50 lv (.int x :: st) h
    | _ => none) := k_li (i := .iload 6) rfl rfl rfl rfl
theorem s_119_50 (d L n : Nat) (scr : Nat → Int32) (call : Nat → List Value → am_H → Option am_X) (lv : am_L) (st : List Value) (h : am_H) (a : Nat) (i : Int32) : am_f d scr L call 119 (n + 1) 50 lv (.int i :: .ref a :: st) h = (match am_ild scr L h a i with
    | some x => am_f d scr L call 119 n 51 lv (.int x :: st) h
    | none => none) := k_ia rfl
theorem s_119_51 (d L n : Nat) (scr : Nat → Int32) (call : Nat → List Value → am_H → Option am_X) (lv : am_L) (st : List Value) (h : am_H) (a : Nat) (i : Int32) : am_f d scr L call 119 (n + 1) 51 lv (.int i :: .ref a :: st) h = (match am_ild scr L h a i with
    | some x => am_f d scr L call 119 n 52 lv (.int x :: st) h
    | none => none) := k_ia rfl
theorem s_119_52 (d L n : Nat) (scr : Nat → Int32) (call : Nat → List Value → am_H → Option am_X) (lv : am_L) (st : List Value) (h : am_H) : am_f d scr L call 119 (n + 1) 52 lv st h = (match am_ld lv 0 with
    | some (.ref x) => am_f d scr L call 119 n 53 lv (.ref x :: st) h
    | _ => none) := k_la (i := .aload_n 0) rfl rfl rfl rfl
theorem s_119_53 (d L n : Nat) (scr : Nat → Int32) (call : Nat → List Value → am_H → Option am_X) (lv : am_L) (st : List Value) (h : am_H) (a : Nat) : am_f d scr L call 119 (n + 1) 53 lv (.ref a :: st) h = (match am_get h a 8 5 with
    | some v => am_f d scr L call 119 n 56 lv (v :: st) h
    | none => none) := k_gf (k := 20) rfl rfl
theorem s_119_56 (d L n : Nat) (scr : Nat → Int32) (call : Nat → List Value → am_H → Option am_X) (lv : am_L) (st : List Value) (h : am_H) : am_f d scr L call 119 (n + 1) 56 lv st h = (match am_ld lv 0 with
    | some (.ref x) => am_f d scr L call 119 n 57 lv (.ref x :: st) h
    | _ => none) := k_la (i := .aload_n 0) rfl rfl rfl rfl
theorem s_119_57 (d L n : Nat) (scr : Nat → Int32) (call : Nat → List Value → am_H → Option am_X) (lv : am_L) (st : List Value) (h : am_H) (a : Nat) : am_f d scr L call 119 (n + 1) 57 lv (.ref a :: st) h = (match am_get h a 8 38 with
    | some v => am_f d scr L call 119 n 60 lv (v :: st) h
    | none => none) := k_gf (k := 84) rfl rfl
theorem s_119_60 (d L n : Nat) (scr : Nat → Int32) (call : Nat → List Value → am_H → Option am_X) (lv : am_L) (st : List Value) (h : am_H) : am_f d scr L call 119 (n + 1) 60 lv st h = (match am_ld lv 6 with
    | some (.int x) => am_f d scr L call 119 n 62 lv (.int x :: st) h
    | _ => none) := k_li (i := .iload 6) rfl rfl rfl rfl
theorem s_119_62 (d L n : Nat) (scr : Nat → Int32) (call : Nat → List Value → am_H → Option am_X) (lv : am_L) (st : List Value) (h : am_H) (a : Nat) (i : Int32) : am_f d scr L call 119 (n + 1) 62 lv (.int i :: .ref a :: st) h = (match am_ild scr L h a i with
    | some x => am_f d scr L call 119 n 63 lv (.int x :: st) h
    | none => none) := k_ia rfl
theorem s_119_63 (d L n : Nat) (scr : Nat → Int32) (call : Nat → List Value → am_H → Option am_X) (lv : am_L) (st : List Value) (h : am_H) (a : Nat) (i : Int32) : am_f d scr L call 119 (n + 1) 63 lv (.int i :: .ref a :: st) h = (match am_ild scr L h a i with
    | some x => am_f d scr L call 119 n 64 lv (.int x :: st) h
    | none => none) := k_ia rfl
theorem s_119_64 (d L n : Nat) (scr : Nat → Int32) (call : Nat → List Value → am_H → Option am_X) (lv : am_L) (st : List Value) (h : am_H) : am_f d scr L call 119 (n + 1) 64 lv st h = (match am_ld lv 0 with
    | some (.ref x) => am_f d scr L call 119 n 65 lv (.ref x :: st) h
    | _ => none) := k_la (i := .aload_n 0) rfl rfl rfl rfl
theorem s_119_65 (d L n : Nat) (scr : Nat → Int32) (call : Nat → List Value → am_H → Option am_X) (lv : am_L) (st : List Value) (h : am_H) (a : Nat) : am_f d scr L call 119 (n + 1) 65 lv (.ref a :: st) h = (match am_get h a 8 39 with
    | some v => am_f d scr L call 119 n 68 lv (v :: st) h
    | none => none) := k_gf (k := 87) rfl rfl
theorem s_119_68 (d L n : Nat) (scr : Nat → Int32) (call : Nat → List Value → am_H → Option am_X) (lv : am_L) (st : List Value) (h : am_H) : am_f d scr L call 119 (n + 1) 68 lv st h = (match am_ld lv 6 with
    | some (.int x) => am_f d scr L call 119 n 70 lv (.int x :: st) h
    | _ => none) := k_li (i := .iload 6) rfl rfl rfl rfl
theorem s_119_70 (d L n : Nat) (scr : Nat → Int32) (call : Nat → List Value → am_H → Option am_X) (lv : am_L) (st : List Value) (h : am_H) (a : Nat) (i : Int32) : am_f d scr L call 119 (n + 1) 70 lv (.int i :: .ref a :: st) h = (match am_ild scr L h a i with
    | some x => am_f d scr L call 119 n 71 lv (.int x :: st) h
    | none => none) := k_ia rfl
theorem s_119_71 (d L n : Nat) (scr : Nat → Int32) (call : Nat → List Value → am_H → Option am_X) (lv : am_L) (h : am_H) (o : Nat) (a0 : Int32) (a1 : Int32) (a2 : Int32) (a3 : Int32)  : am_f d scr L call 119 (n + 1) 71 lv (.int a3 :: .int a2 :: .int a1 :: .int a0 :: .ref o :: []) h = if am_at h o 8 = true then (match call 114 [.ref o, .int a0, .int a1, .int a2, .int a3] h with
    | some (v, h', dk, dn) => am_add dk dn (am_f d scr L call 119 n 74 lv (v.toList ++ []) h')
    | none => none) else none := k_iv0 (k := 241) (as := [.int a0, .int a1, .int a2, .int a3]) (r := []) rfl rfl rfl rfl (Nat.le_of_ble_eq_true rfl)
theorem s_119_74 (d L n : Nat) (scr : Nat → Int32) (call : Nat → List Value → am_H → Option am_X) (lv : am_L) (st : List Value) (h : am_H) : am_f d scr L call 119 (n + 1) 74 lv st h = am_f d scr L call 119 n 114 lv st h := k_nx (i := .goto 40) rfl rfl
theorem s_119_77 (d L n : Nat) (scr : Nat → Int32) (call : Nat → List Value → am_H → Option am_X) (lv : am_L) (st : List Value) (h : am_H) : am_f d scr L call 119 (n + 1) 77 lv st h = (match am_ld lv 0 with
    | some (.ref x) => am_f d scr L call 119 n 78 lv (.ref x :: st) h
    | _ => none) := k_la (i := .aload_n 0) rfl rfl rfl rfl
theorem s_119_78 (d L n : Nat) (scr : Nat → Int32) (call : Nat → List Value → am_H → Option am_X) (lv : am_L) (st : List Value) (h : am_H) : am_f d scr L call 119 (n + 1) 78 lv st h = (match am_ld lv 4 with
    | some (.int x) => am_f d scr L call 119 n 80 lv (.int x :: st) h
    | _ => none) := k_li (i := .iload 4) rfl rfl rfl rfl
theorem s_119_80 (d L n : Nat) (scr : Nat → Int32) (call : Nat → List Value → am_H → Option am_X) (lv : am_L) (st : List Value) (h : am_H) : am_f d scr L call 119 (n + 1) 80 lv st h = (match am_ld lv 0 with
    | some (.ref x) => am_f d scr L call 119 n 81 lv (.ref x :: st) h
    | _ => none) := k_la (i := .aload_n 0) rfl rfl rfl rfl
theorem s_119_81 (d L n : Nat) (scr : Nat → Int32) (call : Nat → List Value → am_H → Option am_X) (lv : am_L) (st : List Value) (h : am_H) (a : Nat) : am_f d scr L call 119 (n + 1) 81 lv (.ref a :: st) h = (match am_get h a 8 4 with
    | some v => am_f d scr L call 119 n 84 lv (v :: st) h
    | none => none) := k_gf (k := 17) rfl rfl
theorem s_119_84 (d L n : Nat) (scr : Nat → Int32) (call : Nat → List Value → am_H → Option am_X) (lv : am_L) (st : List Value) (h : am_H) : am_f d scr L call 119 (n + 1) 84 lv st h = (match am_ld lv 0 with
    | some (.ref x) => am_f d scr L call 119 n 85 lv (.ref x :: st) h
    | _ => none) := k_la (i := .aload_n 0) rfl rfl rfl rfl
theorem s_119_85 (d L n : Nat) (scr : Nat → Int32) (call : Nat → List Value → am_H → Option am_X) (lv : am_L) (st : List Value) (h : am_H) (a : Nat) : am_f d scr L call 119 (n + 1) 85 lv (.ref a :: st) h = (match am_get h a 8 37 with
    | some v => am_f d scr L call 119 n 88 lv (v :: st) h
    | none => none) := k_gf (k := 81) rfl rfl
theorem s_119_88 (d L n : Nat) (scr : Nat → Int32) (call : Nat → List Value → am_H → Option am_X) (lv : am_L) (st : List Value) (h : am_H) : am_f d scr L call 119 (n + 1) 88 lv st h = (match am_ld lv 6 with
    | some (.int x) => am_f d scr L call 119 n 90 lv (.int x :: st) h
    | _ => none) := k_li (i := .iload 6) rfl rfl rfl rfl
theorem s_119_90 (d L n : Nat) (scr : Nat → Int32) (call : Nat → List Value → am_H → Option am_X) (lv : am_L) (st : List Value) (h : am_H) (a : Nat) (i : Int32) : am_f d scr L call 119 (n + 1) 90 lv (.int i :: .ref a :: st) h = (match am_ild scr L h a i with
    | some x => am_f d scr L call 119 n 91 lv (.int x :: st) h
    | none => none) := k_ia rfl
theorem s_119_91 (d L n : Nat) (scr : Nat → Int32) (call : Nat → List Value → am_H → Option am_X) (lv : am_L) (st : List Value) (h : am_H) (a : Nat) (i : Int32) : am_f d scr L call 119 (n + 1) 91 lv (.int i :: .ref a :: st) h = (match am_ild scr L h a i with
    | some x => am_f d scr L call 119 n 92 lv (.int x :: st) h
    | none => none) := k_ia rfl
theorem s_119_92 (d L n : Nat) (scr : Nat → Int32) (call : Nat → List Value → am_H → Option am_X) (lv : am_L) (st : List Value) (h : am_H) : am_f d scr L call 119 (n + 1) 92 lv st h = (match am_ld lv 0 with
    | some (.ref x) => am_f d scr L call 119 n 93 lv (.ref x :: st) h
    | _ => none) := k_la (i := .aload_n 0) rfl rfl rfl rfl
theorem s_119_93 (d L n : Nat) (scr : Nat → Int32) (call : Nat → List Value → am_H → Option am_X) (lv : am_L) (st : List Value) (h : am_H) (a : Nat) : am_f d scr L call 119 (n + 1) 93 lv (.ref a :: st) h = (match am_get h a 8 4 with
    | some v => am_f d scr L call 119 n 96 lv (v :: st) h
    | none => none) := k_gf (k := 17) rfl rfl
theorem s_119_96 (d L n : Nat) (scr : Nat → Int32) (call : Nat → List Value → am_H → Option am_X) (lv : am_L) (st : List Value) (h : am_H) : am_f d scr L call 119 (n + 1) 96 lv st h = (match am_ld lv 0 with
    | some (.ref x) => am_f d scr L call 119 n 97 lv (.ref x :: st) h
    | _ => none) := k_la (i := .aload_n 0) rfl rfl rfl rfl
theorem s_119_97 (d L n : Nat) (scr : Nat → Int32) (call : Nat → List Value → am_H → Option am_X) (lv : am_L) (st : List Value) (h : am_H) (a : Nat) : am_f d scr L call 119 (n + 1) 97 lv (.ref a :: st) h = (match am_get h a 8 38 with
    | some v => am_f d scr L call 119 n 100 lv (v :: st) h
    | none => none) := k_gf (k := 84) rfl rfl
theorem s_119_100 (d L n : Nat) (scr : Nat → Int32) (call : Nat → List Value → am_H → Option am_X) (lv : am_L) (st : List Value) (h : am_H) : am_f d scr L call 119 (n + 1) 100 lv st h = (match am_ld lv 6 with
    | some (.int x) => am_f d scr L call 119 n 102 lv (.int x :: st) h
    | _ => none) := k_li (i := .iload 6) rfl rfl rfl rfl
theorem s_119_102 (d L n : Nat) (scr : Nat → Int32) (call : Nat → List Value → am_H → Option am_X) (lv : am_L) (st : List Value) (h : am_H) (a : Nat) (i : Int32) : am_f d scr L call 119 (n + 1) 102 lv (.int i :: .ref a :: st) h = (match am_ild scr L h a i with
    | some x => am_f d scr L call 119 n 103 lv (.int x :: st) h
    | none => none) := k_ia rfl
theorem s_119_103 (d L n : Nat) (scr : Nat → Int32) (call : Nat → List Value → am_H → Option am_X) (lv : am_L) (st : List Value) (h : am_H) (a : Nat) (i : Int32) : am_f d scr L call 119 (n + 1) 103 lv (.int i :: .ref a :: st) h = (match am_ild scr L h a i with
    | some x => am_f d scr L call 119 n 104 lv (.int x :: st) h
    | none => none) := k_ia rfl
theorem s_119_104 (d L n : Nat) (scr : Nat → Int32) (call : Nat → List Value → am_H → Option am_X) (lv : am_L) (st : List Value) (h : am_H) : am_f d scr L call 119 (n + 1) 104 lv st h = (match am_ld lv 0 with
    | some (.ref x) => am_f d scr L call 119 n 105 lv (.ref x :: st) h
    | _ => none) := k_la (i := .aload_n 0) rfl rfl rfl rfl
theorem s_119_105 (d L n : Nat) (scr : Nat → Int32) (call : Nat → List Value → am_H → Option am_X) (lv : am_L) (st : List Value) (h : am_H) (a : Nat) : am_f d scr L call 119 (n + 1) 105 lv (.ref a :: st) h = (match am_get h a 8 39 with
    | some v => am_f d scr L call 119 n 108 lv (v :: st) h
    | none => none) := k_gf (k := 87) rfl rfl
theorem s_119_108 (d L n : Nat) (scr : Nat → Int32) (call : Nat → List Value → am_H → Option am_X) (lv : am_L) (st : List Value) (h : am_H) : am_f d scr L call 119 (n + 1) 108 lv st h = (match am_ld lv 6 with
    | some (.int x) => am_f d scr L call 119 n 110 lv (.int x :: st) h
    | _ => none) := k_li (i := .iload 6) rfl rfl rfl rfl
theorem s_119_110 (d L n : Nat) (scr : Nat → Int32) (call : Nat → List Value → am_H → Option am_X) (lv : am_L) (st : List Value) (h : am_H) (a : Nat) (i : Int32) : am_f d scr L call 119 (n + 1) 110 lv (.int i :: .ref a :: st) h = (match am_ild scr L h a i with
    | some x => am_f d scr L call 119 n 111 lv (.int x :: st) h
    | none => none) := k_ia rfl
theorem s_119_111 (d L n : Nat) (scr : Nat → Int32) (call : Nat → List Value → am_H → Option am_X) (lv : am_L) (h : am_H) (o : Nat) (a0 : Int32) (a1 : Int32) (a2 : Int32) (a3 : Int32)  : am_f d scr L call 119 (n + 1) 111 lv (.int a3 :: .int a2 :: .int a1 :: .int a0 :: .ref o :: []) h = if am_at h o 8 = true then (match call 114 [.ref o, .int a0, .int a1, .int a2, .int a3] h with
    | some (v, h', dk, dn) => am_add dk dn (am_f d scr L call 119 n 114 lv (v.toList ++ []) h')
    | none => none) else none := k_iv0 (k := 241) (as := [.int a0, .int a1, .int a2, .int a3]) (r := []) rfl rfl rfl rfl (Nat.le_of_ble_eq_true rfl)
theorem s_119_114 (d L n : Nat) (scr : Nat → Int32) (call : Nat → List Value → am_H → Option am_X) (lv : am_L) (st : List Value) (h : am_H) (x : Int32) : am_f d scr L call 119 (n + 1) 114 lv (.int x :: st) h = am_f d scr L call 119 n 116 (am_st1 lv 4 (.int x)) st h := k_nx (i := .istore 4) rfl rfl
theorem s_119_116 (d L n : Nat) (scr : Nat → Int32) (call : Nat → List Value → am_H → Option am_X) (lv : am_L) (st : List Value) (h : am_H) : am_f d scr L call 119 (n + 1) 116 lv st h = (match am_ld lv 5 with
    | some (.int x) => am_f d scr L call 119 n 119 (am_st1 lv 5 (.int (x + (-1)))) st h
    | _ => none) := k_iinc (k := 5) (c := (-1)) rfl rfl (Nat.le_of_ble_eq_true rfl)
theorem s_119_119 (d L n : Nat) (scr : Nat → Int32) (call : Nat → List Value → am_H → Option am_X) (lv : am_L) (st : List Value) (h : am_H) : am_f d scr L call 119 (n + 1) 119 lv st h = am_f d scr L call 119 n 12 lv st h := k_nx (i := .goto (-107)) rfl rfl
theorem s_119_122 (d L n : Nat) (scr : Nat → Int32) (call : Nat → List Value → am_H → Option am_X) (lv : am_L) (st : List Value) (h : am_H) : am_f d scr L call 119 (n + 1) 122 lv st h = (match am_ld lv 4 with
    | some (.int x) => am_f d scr L call 119 n 124 lv (.int x :: st) h
    | _ => none) := k_li (i := .iload 4) rfl rfl rfl rfl
theorem s_119_124 (d L n : Nat) (scr : Nat → Int32) (call : Nat → List Value → am_H → Option am_X) (lv : am_L) (h : am_H) (x : Int32) : am_f d scr L call 119 (n + 1) 124 lv [.int x] h = some (some (.int x), h, 0, 0) := k_ir rfl rfl
-- 120: BlameDeskModel.forget()V
theorem s_120_0 (d L n : Nat) (scr : Nat → Int32) (call : Nat → List Value → am_H → Option am_X) (lv : am_L) (st : List Value) (h : am_H) : am_f d scr L call 120 (n + 1) 0 lv st h = (match am_ld lv 0 with
    | some (.ref x) => am_f d scr L call 120 n 1 lv (.ref x :: st) h
    | _ => none) := k_la (i := .aload_n 0) rfl rfl rfl rfl
theorem s_120_1 (d L n : Nat) (scr : Nat → Int32) (call : Nat → List Value → am_H → Option am_X) (lv : am_L) (st : List Value) (h : am_H) : am_f d scr L call 120 (n + 1) 1 lv st h = am_f d scr L call 120 n 2 lv (.int 0 :: st) h := k_nx (i := .iconst 0) rfl rfl
theorem s_120_2 (d L n : Nat) (scr : Nat → Int32) (call : Nat → List Value → am_H → Option am_X) (lv : am_L) (st : List Value) (h : am_H) (x : Int32) (a : Nat) : am_f d scr L call 120 (n + 1) 2 lv (.int x :: .ref a :: st) h = (match am_put h a 8 51 (.int x) with
    | some h' => am_f d scr L call 120 n 5 lv st h'
    | none => none) := k_pf (k := 216) rfl rfl rfl
theorem s_120_5 (d L n : Nat) (scr : Nat → Int32) (call : Nat → List Value → am_H → Option am_X) (lv : am_L) (st : List Value) (h : am_H) : am_f d scr L call 120 (n + 1) 5 lv st h = (match am_ld lv 0 with
    | some (.ref x) => am_f d scr L call 120 n 6 lv (.ref x :: st) h
    | _ => none) := k_la (i := .aload_n 0) rfl rfl rfl rfl
theorem s_120_6 (d L n : Nat) (scr : Nat → Int32) (call : Nat → List Value → am_H → Option am_X) (lv : am_L) (st : List Value) (h : am_H) : am_f d scr L call 120 (n + 1) 6 lv st h = am_f d scr L call 120 n 7 lv (.int 0 :: st) h := k_nx (i := .iconst 0) rfl rfl
theorem s_120_7 (d L n : Nat) (scr : Nat → Int32) (call : Nat → List Value → am_H → Option am_X) (lv : am_L) (st : List Value) (h : am_H) (x : Int32) (a : Nat) : am_f d scr L call 120 (n + 1) 7 lv (.int x :: .ref a :: st) h = (match am_put h a 8 53 (.int x) with
    | some h' => am_f d scr L call 120 n 10 lv st h'
    | none => none) := k_pf (k := 245) rfl rfl rfl
theorem s_120_10 (d L n : Nat) (scr : Nat → Int32) (call : Nat → List Value → am_H → Option am_X) (lv : am_L) (st : List Value) (h : am_H) : am_f d scr L call 120 (n + 1) 10 lv st h = (match am_ld lv 0 with
    | some (.ref x) => am_f d scr L call 120 n 11 lv (.ref x :: st) h
    | _ => none) := k_la (i := .aload_n 0) rfl rfl rfl rfl
theorem s_120_11 (d L n : Nat) (scr : Nat → Int32) (call : Nat → List Value → am_H → Option am_X) (lv : am_L) (st : List Value) (h : am_H) : am_f d scr L call 120 (n + 1) 11 lv st h = am_f d scr L call 120 n 12 lv (.int 0 :: st) h := k_nx (i := .iconst 0) rfl rfl
theorem s_120_12 (d L n : Nat) (scr : Nat → Int32) (call : Nat → List Value → am_H → Option am_X) (lv : am_L) (st : List Value) (h : am_H) (x : Int32) (a : Nat) : am_f d scr L call 120 (n + 1) 12 lv (.int x :: .ref a :: st) h = (match am_put h a 8 49 (.int x) with
    | some h' => am_f d scr L call 120 n 15 lv st h'
    | none => none) := k_pf (k := 248) rfl rfl rfl
theorem s_120_15 (d L n : Nat) (scr : Nat → Int32) (call : Nat → List Value → am_H → Option am_X) (lv : am_L) (st : List Value) (h : am_H) : am_f d scr L call 120 (n + 1) 15 lv st h = (match am_ld lv 0 with
    | some (.ref x) => am_f d scr L call 120 n 16 lv (.ref x :: st) h
    | _ => none) := k_la (i := .aload_n 0) rfl rfl rfl rfl
theorem s_120_16 (d L n : Nat) (scr : Nat → Int32) (call : Nat → List Value → am_H → Option am_X) (lv : am_L) (st : List Value) (h : am_H) : am_f d scr L call 120 (n + 1) 16 lv st h = am_f d scr L call 120 n 17 lv (.int 0 :: st) h := k_nx (i := .iconst 0) rfl rfl
theorem s_120_17 (d L n : Nat) (scr : Nat → Int32) (call : Nat → List Value → am_H → Option am_X) (lv : am_L) (st : List Value) (h : am_H) (x : Int32) (a : Nat) : am_f d scr L call 120 (n + 1) 17 lv (.int x :: .ref a :: st) h = (match am_put h a 8 56 (.int x) with
    | some h' => am_f d scr L call 120 n 20 lv st h'
    | none => none) := k_pf (k := 251) rfl rfl rfl
theorem s_120_20 (d L n : Nat) (scr : Nat → Int32) (call : Nat → List Value → am_H → Option am_X) (lv : am_L) (st : List Value) (h : am_H) : am_f d scr L call 120 (n + 1) 20 lv st h = (match am_ld lv 0 with
    | some (.ref x) => am_f d scr L call 120 n 21 lv (.ref x :: st) h
    | _ => none) := k_la (i := .aload_n 0) rfl rfl rfl rfl
theorem s_120_21 (d L n : Nat) (scr : Nat → Int32) (call : Nat → List Value → am_H → Option am_X) (lv : am_L) (st : List Value) (h : am_H) : am_f d scr L call 120 (n + 1) 21 lv st h = am_f d scr L call 120 n 22 lv (.int 0 :: st) h := k_nx (i := .iconst 0) rfl rfl
theorem s_120_22 (d L n : Nat) (scr : Nat → Int32) (call : Nat → List Value → am_H → Option am_X) (lv : am_L) (st : List Value) (h : am_H) (x : Int32) (a : Nat) : am_f d scr L call 120 (n + 1) 22 lv (.int x :: .ref a :: st) h = (match am_put h a 8 31 (.int x) with
    | some h' => am_f d scr L call 120 n 25 lv st h'
    | none => none) := k_pf (k := 213) rfl rfl rfl
theorem s_120_25 (d L n : Nat) (scr : Nat → Int32) (call : Nat → List Value → am_H → Option am_X) (lv : am_L) (st : List Value) (h : am_H) : am_f d scr L call 120 (n + 1) 25 lv st h = (match am_ld lv 0 with
    | some (.ref x) => am_f d scr L call 120 n 26 lv (.ref x :: st) h
    | _ => none) := k_la (i := .aload_n 0) rfl rfl rfl rfl
theorem s_120_26 (d L n : Nat) (scr : Nat → Int32) (call : Nat → List Value → am_H → Option am_X) (lv : am_L) (st : List Value) (h : am_H) : am_f d scr L call 120 (n + 1) 26 lv st h = am_f d scr L call 120 n 27 lv (.int 0 :: st) h := k_nx (i := .iconst 0) rfl rfl
theorem s_120_27 (d L n : Nat) (scr : Nat → Int32) (call : Nat → List Value → am_H → Option am_X) (lv : am_L) (st : List Value) (h : am_H) (x : Int32) (a : Nat) : am_f d scr L call 120 (n + 1) 27 lv (.int x :: .ref a :: st) h = (match am_put h a 8 35 (.int x) with
    | some h' => am_f d scr L call 120 n 30 lv st h'
    | none => none) := k_pf (k := 228) rfl rfl rfl
theorem s_120_30 (d L n : Nat) (scr : Nat → Int32) (call : Nat → List Value → am_H → Option am_X) (lv : am_L) (st : List Value) (h : am_H) : am_f d scr L call 120 (n + 1) 30 lv st h = (match am_ld lv 0 with
    | some (.ref x) => am_f d scr L call 120 n 31 lv (.ref x :: st) h
    | _ => none) := k_la (i := .aload_n 0) rfl rfl rfl rfl
theorem s_120_31 (d L n : Nat) (scr : Nat → Int32) (call : Nat → List Value → am_H → Option am_X) (lv : am_L) (st : List Value) (h : am_H) : am_f d scr L call 120 (n + 1) 31 lv st h = am_f d scr L call 120 n 32 lv (.int 0 :: st) h := k_nx (i := .iconst 0) rfl rfl
theorem s_120_32 (d L n : Nat) (scr : Nat → Int32) (call : Nat → List Value → am_H → Option am_X) (lv : am_L) (st : List Value) (h : am_H) (x : Int32) (a : Nat) : am_f d scr L call 120 (n + 1) 32 lv (.int x :: .ref a :: st) h = (match am_put h a 8 40 (.int x) with
    | some h' => am_f d scr L call 120 n 35 lv st h'
    | none => none) := k_pf (k := 254) rfl rfl rfl
theorem s_120_35 (d L n : Nat) (scr : Nat → Int32) (call : Nat → List Value → am_H → Option am_X) (lv : am_L) (st : List Value) (h : am_H) : am_f d scr L call 120 (n + 1) 35 lv st h = (match am_ld lv 0 with
    | some (.ref x) => am_f d scr L call 120 n 36 lv (.ref x :: st) h
    | _ => none) := k_la (i := .aload_n 0) rfl rfl rfl rfl
theorem s_120_36 (d L n : Nat) (scr : Nat → Int32) (call : Nat → List Value → am_H → Option am_X) (lv : am_L) (st : List Value) (h : am_H) : am_f d scr L call 120 (n + 1) 36 lv st h = am_f d scr L call 120 n 37 lv (.int 0 :: st) h := k_nx (i := .iconst 0) rfl rfl
theorem s_120_37 (d L n : Nat) (scr : Nat → Int32) (call : Nat → List Value → am_H → Option am_X) (lv : am_L) (st : List Value) (h : am_H) (x : Int32) (a : Nat) : am_f d scr L call 120 (n + 1) 37 lv (.int x :: .ref a :: st) h = (match am_put h a 8 44 (.int x) with
    | some h' => am_f d scr L call 120 n 40 lv st h'
    | none => none) := k_pf (k := 257) rfl rfl rfl
theorem s_120_40 (d L n : Nat) (scr : Nat → Int32) (call : Nat → List Value → am_H → Option am_X) (lv : am_L) (h : am_H) : am_f d scr L call 120 (n + 1) 40 lv [] h = some (none, h, 0, 0) := k_vr rfl rfl
-- 121: BlameDeskModel.push(IIII)V
theorem s_121_0 (d L n : Nat) (scr : Nat → Int32) (call : Nat → List Value → am_H → Option am_X) (lv : am_L) (st : List Value) (h : am_H) : am_f d scr L call 121 (n + 1) 0 lv st h = (match am_ld lv 0 with
    | some (.ref x) => am_f d scr L call 121 n 1 lv (.ref x :: st) h
    | _ => none) := k_la (i := .aload_n 0) rfl rfl rfl rfl
theorem s_121_1 (d L n : Nat) (scr : Nat → Int32) (call : Nat → List Value → am_H → Option am_X) (lv : am_L) (st : List Value) (h : am_H) (a : Nat) : am_f d scr L call 121 (n + 1) 1 lv (.ref a :: st) h = (match am_get h a 8 45 with
    | some v => am_f d scr L call 121 n 4 lv (v :: st) h
    | none => none) := k_gf (k := 99) rfl rfl
theorem s_121_4 (d L n : Nat) (scr : Nat → Int32) (call : Nat → List Value → am_H → Option am_X) (lv : am_L) (st : List Value) (h : am_H) : am_f d scr L call 121 (n + 1) 4 lv st h = (match am_ld lv 0 with
    | some (.ref x) => am_f d scr L call 121 n 5 lv (.ref x :: st) h
    | _ => none) := k_la (i := .aload_n 0) rfl rfl rfl rfl
theorem s_121_5 (d L n : Nat) (scr : Nat → Int32) (call : Nat → List Value → am_H → Option am_X) (lv : am_L) (st : List Value) (h : am_H) (a : Nat) : am_f d scr L call 121 (n + 1) 5 lv (.ref a :: st) h = (match am_get h a 8 44 with
    | some v => am_f d scr L call 121 n 8 lv (v :: st) h
    | none => none) := k_gf (k := 257) rfl rfl
theorem s_121_8 (d L n : Nat) (scr : Nat → Int32) (call : Nat → List Value → am_H → Option am_X) (lv : am_L) (st : List Value) (h : am_H) : am_f d scr L call 121 (n + 1) 8 lv st h = (match am_ld lv 1 with
    | some (.int x) => am_f d scr L call 121 n 9 lv (.int x :: st) h
    | _ => none) := k_li (i := .iload_n 1) rfl rfl rfl rfl
theorem s_121_9 (d L n : Nat) (scr : Nat → Int32) (call : Nat → List Value → am_H → Option am_X) (lv : am_L) (st : List Value) (h : am_H) (a : Nat) (i : Int32) (x : Int32) : am_f d scr L call 121 (n + 1) 9 lv (.int x :: .int i :: .ref a :: st) h = (match am_ist h a i x with
    | some h' => am_f d scr L call 121 n 10 lv st h'
    | none => none) := k_is rfl
theorem s_121_10 (d L n : Nat) (scr : Nat → Int32) (call : Nat → List Value → am_H → Option am_X) (lv : am_L) (st : List Value) (h : am_H) : am_f d scr L call 121 (n + 1) 10 lv st h = (match am_ld lv 0 with
    | some (.ref x) => am_f d scr L call 121 n 11 lv (.ref x :: st) h
    | _ => none) := k_la (i := .aload_n 0) rfl rfl rfl rfl
theorem s_121_11 (d L n : Nat) (scr : Nat → Int32) (call : Nat → List Value → am_H → Option am_X) (lv : am_L) (st : List Value) (h : am_H) (a : Nat) : am_f d scr L call 121 (n + 1) 11 lv (.ref a :: st) h = (match am_get h a 8 46 with
    | some v => am_f d scr L call 121 n 14 lv (v :: st) h
    | none => none) := k_gf (k := 102) rfl rfl
theorem s_121_14 (d L n : Nat) (scr : Nat → Int32) (call : Nat → List Value → am_H → Option am_X) (lv : am_L) (st : List Value) (h : am_H) : am_f d scr L call 121 (n + 1) 14 lv st h = (match am_ld lv 0 with
    | some (.ref x) => am_f d scr L call 121 n 15 lv (.ref x :: st) h
    | _ => none) := k_la (i := .aload_n 0) rfl rfl rfl rfl
theorem s_121_15 (d L n : Nat) (scr : Nat → Int32) (call : Nat → List Value → am_H → Option am_X) (lv : am_L) (st : List Value) (h : am_H) (a : Nat) : am_f d scr L call 121 (n + 1) 15 lv (.ref a :: st) h = (match am_get h a 8 44 with
    | some v => am_f d scr L call 121 n 18 lv (v :: st) h
    | none => none) := k_gf (k := 257) rfl rfl
theorem s_121_18 (d L n : Nat) (scr : Nat → Int32) (call : Nat → List Value → am_H → Option am_X) (lv : am_L) (st : List Value) (h : am_H) : am_f d scr L call 121 (n + 1) 18 lv st h = (match am_ld lv 2 with
    | some (.int x) => am_f d scr L call 121 n 19 lv (.int x :: st) h
    | _ => none) := k_li (i := .iload_n 2) rfl rfl rfl rfl
theorem s_121_19 (d L n : Nat) (scr : Nat → Int32) (call : Nat → List Value → am_H → Option am_X) (lv : am_L) (st : List Value) (h : am_H) (a : Nat) (i : Int32) (x : Int32) : am_f d scr L call 121 (n + 1) 19 lv (.int x :: .int i :: .ref a :: st) h = (match am_ist h a i x with
    | some h' => am_f d scr L call 121 n 20 lv st h'
    | none => none) := k_is rfl
theorem s_121_20 (d L n : Nat) (scr : Nat → Int32) (call : Nat → List Value → am_H → Option am_X) (lv : am_L) (st : List Value) (h : am_H) : am_f d scr L call 121 (n + 1) 20 lv st h = (match am_ld lv 0 with
    | some (.ref x) => am_f d scr L call 121 n 21 lv (.ref x :: st) h
    | _ => none) := k_la (i := .aload_n 0) rfl rfl rfl rfl
theorem s_121_21 (d L n : Nat) (scr : Nat → Int32) (call : Nat → List Value → am_H → Option am_X) (lv : am_L) (st : List Value) (h : am_H) (a : Nat) : am_f d scr L call 121 (n + 1) 21 lv (.ref a :: st) h = (match am_get h a 8 47 with
    | some v => am_f d scr L call 121 n 24 lv (v :: st) h
    | none => none) := k_gf (k := 105) rfl rfl
theorem s_121_24 (d L n : Nat) (scr : Nat → Int32) (call : Nat → List Value → am_H → Option am_X) (lv : am_L) (st : List Value) (h : am_H) : am_f d scr L call 121 (n + 1) 24 lv st h = (match am_ld lv 0 with
    | some (.ref x) => am_f d scr L call 121 n 25 lv (.ref x :: st) h
    | _ => none) := k_la (i := .aload_n 0) rfl rfl rfl rfl
theorem s_121_25 (d L n : Nat) (scr : Nat → Int32) (call : Nat → List Value → am_H → Option am_X) (lv : am_L) (st : List Value) (h : am_H) (a : Nat) : am_f d scr L call 121 (n + 1) 25 lv (.ref a :: st) h = (match am_get h a 8 44 with
    | some v => am_f d scr L call 121 n 28 lv (v :: st) h
    | none => none) := k_gf (k := 257) rfl rfl
theorem s_121_28 (d L n : Nat) (scr : Nat → Int32) (call : Nat → List Value → am_H → Option am_X) (lv : am_L) (st : List Value) (h : am_H) : am_f d scr L call 121 (n + 1) 28 lv st h = (match am_ld lv 3 with
    | some (.int x) => am_f d scr L call 121 n 29 lv (.int x :: st) h
    | _ => none) := k_li (i := .iload_n 3) rfl rfl rfl rfl
theorem s_121_29 (d L n : Nat) (scr : Nat → Int32) (call : Nat → List Value → am_H → Option am_X) (lv : am_L) (st : List Value) (h : am_H) (a : Nat) (i : Int32) (x : Int32) : am_f d scr L call 121 (n + 1) 29 lv (.int x :: .int i :: .ref a :: st) h = (match am_ist h a i x with
    | some h' => am_f d scr L call 121 n 30 lv st h'
    | none => none) := k_is rfl
theorem s_121_30 (d L n : Nat) (scr : Nat → Int32) (call : Nat → List Value → am_H → Option am_X) (lv : am_L) (st : List Value) (h : am_H) : am_f d scr L call 121 (n + 1) 30 lv st h = (match am_ld lv 0 with
    | some (.ref x) => am_f d scr L call 121 n 31 lv (.ref x :: st) h
    | _ => none) := k_la (i := .aload_n 0) rfl rfl rfl rfl
theorem s_121_31 (d L n : Nat) (scr : Nat → Int32) (call : Nat → List Value → am_H → Option am_X) (lv : am_L) (st : List Value) (h : am_H) (a : Nat) : am_f d scr L call 121 (n + 1) 31 lv (.ref a :: st) h = (match am_get h a 8 48 with
    | some v => am_f d scr L call 121 n 34 lv (v :: st) h
    | none => none) := k_gf (k := 108) rfl rfl
theorem s_121_34 (d L n : Nat) (scr : Nat → Int32) (call : Nat → List Value → am_H → Option am_X) (lv : am_L) (st : List Value) (h : am_H) : am_f d scr L call 121 (n + 1) 34 lv st h = (match am_ld lv 0 with
    | some (.ref x) => am_f d scr L call 121 n 35 lv (.ref x :: st) h
    | _ => none) := k_la (i := .aload_n 0) rfl rfl rfl rfl
theorem s_121_35 (d L n : Nat) (scr : Nat → Int32) (call : Nat → List Value → am_H → Option am_X) (lv : am_L) (st : List Value) (h : am_H) (a : Nat) : am_f d scr L call 121 (n + 1) 35 lv (.ref a :: st) h = (match am_get h a 8 44 with
    | some v => am_f d scr L call 121 n 38 lv (v :: st) h
    | none => none) := k_gf (k := 257) rfl rfl
theorem s_121_38 (d L n : Nat) (scr : Nat → Int32) (call : Nat → List Value → am_H → Option am_X) (lv : am_L) (st : List Value) (h : am_H) : am_f d scr L call 121 (n + 1) 38 lv st h = (match am_ld lv 4 with
    | some (.int x) => am_f d scr L call 121 n 40 lv (.int x :: st) h
    | _ => none) := k_li (i := .iload 4) rfl rfl rfl rfl
theorem s_121_40 (d L n : Nat) (scr : Nat → Int32) (call : Nat → List Value → am_H → Option am_X) (lv : am_L) (st : List Value) (h : am_H) (a : Nat) (i : Int32) (x : Int32) : am_f d scr L call 121 (n + 1) 40 lv (.int x :: .int i :: .ref a :: st) h = (match am_ist h a i x with
    | some h' => am_f d scr L call 121 n 41 lv st h'
    | none => none) := k_is rfl
theorem s_121_41 (d L n : Nat) (scr : Nat → Int32) (call : Nat → List Value → am_H → Option am_X) (lv : am_L) (st : List Value) (h : am_H) : am_f d scr L call 121 (n + 1) 41 lv st h = (match am_ld lv 0 with
    | some (.ref x) => am_f d scr L call 121 n 42 lv (.ref x :: st) h
    | _ => none) := k_la (i := .aload_n 0) rfl rfl rfl rfl
theorem s_121_42 (d L n : Nat) (scr : Nat → Int32) (call : Nat → List Value → am_H → Option am_X) (lv : am_L) (st : List Value) (h : am_H) (x : Nat) : am_f d scr L call 121 (n + 1) 42 lv (.ref x :: st) h = am_f d scr L call 121 n 43 lv (.ref x :: .ref x :: st) h := k_nx (i := .dup) rfl rfl
theorem s_121_43 (d L n : Nat) (scr : Nat → Int32) (call : Nat → List Value → am_H → Option am_X) (lv : am_L) (st : List Value) (h : am_H) (a : Nat) : am_f d scr L call 121 (n + 1) 43 lv (.ref a :: st) h = (match am_get h a 8 44 with
    | some v => am_f d scr L call 121 n 46 lv (v :: st) h
    | none => none) := k_gf (k := 257) rfl rfl
theorem s_121_46 (d L n : Nat) (scr : Nat → Int32) (call : Nat → List Value → am_H → Option am_X) (lv : am_L) (st : List Value) (h : am_H) : am_f d scr L call 121 (n + 1) 46 lv st h = am_f d scr L call 121 n 47 lv (.int 1 :: st) h := k_nx (i := .iconst 1) rfl rfl
theorem s_121_47 (d L n : Nat) (scr : Nat → Int32) (call : Nat → List Value → am_H → Option am_X) (lv : am_L) (st : List Value) (h : am_H) (x y : Int32) : am_f d scr L call 121 (n + 1) 47 lv (.int y :: .int x :: st) h = am_f d scr L call 121 n 48 lv (.int (x + y) :: st) h := k_nx (i := .iadd) rfl rfl
theorem s_121_48 (d L n : Nat) (scr : Nat → Int32) (call : Nat → List Value → am_H → Option am_X) (lv : am_L) (st : List Value) (h : am_H) (x : Int32) (a : Nat) : am_f d scr L call 121 (n + 1) 48 lv (.int x :: .ref a :: st) h = (match am_put h a 8 44 (.int x) with
    | some h' => am_f d scr L call 121 n 51 lv st h'
    | none => none) := k_pf (k := 257) rfl rfl rfl
theorem s_121_51 (d L n : Nat) (scr : Nat → Int32) (call : Nat → List Value → am_H → Option am_X) (lv : am_L) (h : am_H) : am_f d scr L call 121 (n + 1) 51 lv [] h = some (none, h, 0, 0) := k_vr rfl rfl
-- 122: BlameDeskModel.give(I)V
theorem s_122_0 (d L n : Nat) (scr : Nat → Int32) (call : Nat → List Value → am_H → Option am_X) (lv : am_L) (st : List Value) (h : am_H) : am_f d scr L call 122 (n + 1) 0 lv st h = (match am_ld lv 0 with
    | some (.ref x) => am_f d scr L call 122 n 1 lv (.ref x :: st) h
    | _ => none) := k_la (i := .aload_n 0) rfl rfl rfl rfl
theorem s_122_1 (d L n : Nat) (scr : Nat → Int32) (call : Nat → List Value → am_H → Option am_X) (lv : am_L) (st : List Value) (h : am_H) : am_f d scr L call 122 (n + 1) 1 lv st h = am_f d scr L call 122 n 2 lv (.int (-1) :: st) h := k_nx (i := .iconst (-1)) rfl rfl
theorem s_122_2 (d L n : Nat) (scr : Nat → Int32) (call : Nat → List Value → am_H → Option am_X) (lv : am_L) (st : List Value) (h : am_H) (x : Int32) (a : Nat) : am_f d scr L call 122 (n + 1) 2 lv (.int x :: .ref a :: st) h = (match am_put h a 8 58 (.int x) with
    | some h' => am_f d scr L call 122 n 5 lv st h'
    | none => none) := k_pf (k := 260) rfl rfl rfl
theorem s_122_5 (d L n : Nat) (scr : Nat → Int32) (call : Nat → List Value → am_H → Option am_X) (lv : am_L) (st : List Value) (h : am_H) : am_f d scr L call 122 (n + 1) 5 lv st h = (match am_ld lv 0 with
    | some (.ref x) => am_f d scr L call 122 n 6 lv (.ref x :: st) h
    | _ => none) := k_la (i := .aload_n 0) rfl rfl rfl rfl
theorem s_122_6 (d L n : Nat) (scr : Nat → Int32) (call : Nat → List Value → am_H → Option am_X) (lv : am_L) (st : List Value) (h : am_H) : am_f d scr L call 122 (n + 1) 6 lv st h = (match am_ld lv 1 with
    | some (.int x) => am_f d scr L call 122 n 7 lv (.int x :: st) h
    | _ => none) := k_li (i := .iload_n 1) rfl rfl rfl rfl
theorem s_122_7 (d L n : Nat) (scr : Nat → Int32) (call : Nat → List Value → am_H → Option am_X) (lv : am_L) (st : List Value) (h : am_H) (x : Int32) (a : Nat) : am_f d scr L call 122 (n + 1) 7 lv (.int x :: .ref a :: st) h = (match am_put h a 8 60 (.int x) with
    | some h' => am_f d scr L call 122 n 10 lv st h'
    | none => none) := k_pf (k := 263) rfl rfl rfl
theorem s_122_10 (d L n : Nat) (scr : Nat → Int32) (call : Nat → List Value → am_H → Option am_X) (lv : am_L) (h : am_H) : am_f d scr L call 122 (n + 1) 10 lv [] h = some (none, h, 0, 0) := k_vr rfl rfl
-- 123: BlameDeskModel.enter()V
theorem s_123_0 (d L n : Nat) (scr : Nat → Int32) (call : Nat → List Value → am_H → Option am_X) (lv : am_L) (st : List Value) (h : am_H) : am_f d scr L call 123 (n + 1) 0 lv st h = (match am_ld lv 0 with
    | some (.ref x) => am_f d scr L call 123 n 1 lv (.ref x :: st) h
    | _ => none) := k_la (i := .aload_n 0) rfl rfl rfl rfl
theorem s_123_1 (d L n : Nat) (scr : Nat → Int32) (call : Nat → List Value → am_H → Option am_X) (lv : am_L) (st : List Value) (h : am_H) (a : Nat) : am_f d scr L call 123 (n + 1) 1 lv (.ref a :: st) h = (match am_get h a 8 58 with
    | some v => am_f d scr L call 123 n 4 lv (v :: st) h
    | none => none) := k_gf (k := 260) rfl rfl
theorem s_123_4 (d L n : Nat) (scr : Nat → Int32) (call : Nat → List Value → am_H → Option am_X) (lv : am_L) (st : List Value) (h : am_H) (x : Int32) : am_f d scr L call 123 (n + 1) 4 lv (.int x :: st) h = am_f d scr L call 123 n 5 (am_st1 lv 1 (.int x)) st h := k_nx (i := .istore_n 1) rfl rfl
theorem s_123_5 (d L n : Nat) (scr : Nat → Int32) (call : Nat → List Value → am_H → Option am_X) (lv : am_L) (st : List Value) (h : am_H) : am_f d scr L call 123 (n + 1) 5 lv st h = (match am_ld lv 0 with
    | some (.ref x) => am_f d scr L call 123 n 6 lv (.ref x :: st) h
    | _ => none) := k_la (i := .aload_n 0) rfl rfl rfl rfl
theorem s_123_6 (d L n : Nat) (scr : Nat → Int32) (call : Nat → List Value → am_H → Option am_X) (lv : am_L) (st : List Value) (h : am_H) (a : Nat) : am_f d scr L call 123 (n + 1) 6 lv (.ref a :: st) h = (match am_get h a 8 9 with
    | some v => am_f d scr L call 123 n 9 lv (v :: st) h
    | none => none) := k_gf (k := 23) rfl rfl
theorem s_123_9 (d L n : Nat) (scr : Nat → Int32) (call : Nat → List Value → am_H → Option am_X) (lv : am_L) (st : List Value) (h : am_H) : am_f d scr L call 123 (n + 1) 9 lv st h = (match am_ld lv 1 with
    | some (.int x) => am_f d scr L call 123 n 10 lv (.int x :: st) h
    | _ => none) := k_li (i := .iload_n 1) rfl rfl rfl rfl
theorem s_123_10 (d L n : Nat) (scr : Nat → Int32) (call : Nat → List Value → am_H → Option am_X) (lv : am_L) (st : List Value) (h : am_H) (a : Nat) (i : Int32) : am_f d scr L call 123 (n + 1) 10 lv (.int i :: .ref a :: st) h = (match am_ild scr L h a i with
    | some x => am_f d scr L call 123 n 11 lv (.int x :: st) h
    | none => none) := k_ia rfl
theorem s_123_11 (d L n : Nat) (scr : Nat → Int32) (call : Nat → List Value → am_H → Option am_X) (lv : am_L) (st : List Value) (h : am_H) (x : Int32) : am_f d scr L call 123 (n + 1) 11 lv (.int x :: st) h = am_f d scr L call 123 n 12 (am_st1 lv 2 (.int x)) st h := k_nx (i := .istore_n 2) rfl rfl
theorem s_123_12 (d L n : Nat) (scr : Nat → Int32) (call : Nat → List Value → am_H → Option am_X) (lv : am_L) (st : List Value) (h : am_H) : am_f d scr L call 123 (n + 1) 12 lv st h = (match am_ld lv 2 with
    | some (.int x) => am_f d scr L call 123 n 13 lv (.int x :: st) h
    | _ => none) := k_li (i := .iload_n 2) rfl rfl rfl rfl
theorem s_123_13 (d L n : Nat) (scr : Nat → Int32) (call : Nat → List Value → am_H → Option am_X) (lv : am_L) (st : List Value) (h : am_H) (x : Int32) : am_f d scr L call 123 (n + 1) 13 lv (.int x :: st) h = if x = 0 then am_f d scr L call 123 n 21 lv st h else am_f d scr L call 123 n 16 lv st h := k_if_eq (o := 8) rfl ⟨by decide, rfl⟩
theorem s_123_16 (d L n : Nat) (scr : Nat → Int32) (call : Nat → List Value → am_H → Option am_X) (lv : am_L) (st : List Value) (h : am_H) : am_f d scr L call 123 (n + 1) 16 lv st h = (match am_ld lv 2 with
    | some (.int x) => am_f d scr L call 123 n 17 lv (.int x :: st) h
    | _ => none) := k_li (i := .iload_n 2) rfl rfl rfl rfl
theorem s_123_17 (d L n : Nat) (scr : Nat → Int32) (call : Nat → List Value → am_H → Option am_X) (lv : am_L) (st : List Value) (h : am_H) : am_f d scr L call 123 (n + 1) 17 lv st h = am_f d scr L call 123 n 18 lv (.int 1 :: st) h := k_nx (i := .iconst 1) rfl rfl
theorem s_123_18 (d L n : Nat) (scr : Nat → Int32) (call : Nat → List Value → am_H → Option am_X) (lv : am_L) (st : List Value) (h : am_H) (x y : Int32) : am_f d scr L call 123 (n + 1) 18 lv (.int y :: .int x :: st) h = if ¬ x = y then am_f d scr L call 123 n 40 lv st h else am_f d scr L call 123 n 21 lv st h := k_ic_ne (o := 22) rfl ⟨by decide, rfl⟩
theorem s_123_21 (d L n : Nat) (scr : Nat → Int32) (call : Nat → List Value → am_H → Option am_X) (lv : am_L) (st : List Value) (h : am_H) : am_f d scr L call 123 (n + 1) 21 lv st h = (match am_ld lv 0 with
    | some (.ref x) => am_f d scr L call 123 n 22 lv (.ref x :: st) h
    | _ => none) := k_la (i := .aload_n 0) rfl rfl rfl rfl
theorem s_123_22 (d L n : Nat) (scr : Nat → Int32) (call : Nat → List Value → am_H → Option am_X) (lv : am_L) (st : List Value) (h : am_H) : am_f d scr L call 123 (n + 1) 22 lv st h = (match am_ld lv 0 with
    | some (.ref x) => am_f d scr L call 123 n 23 lv (.ref x :: st) h
    | _ => none) := k_la (i := .aload_n 0) rfl rfl rfl rfl
theorem s_123_23 (d L n : Nat) (scr : Nat → Int32) (call : Nat → List Value → am_H → Option am_X) (lv : am_L) (st : List Value) (h : am_H) : am_f d scr L call 123 (n + 1) 23 lv st h = (match am_ld lv 2 with
    | some (.int x) => am_f d scr L call 123 n 24 lv (.int x :: st) h
    | _ => none) := k_li (i := .iload_n 2) rfl rfl rfl rfl
theorem s_123_24 (d L n : Nat) (scr : Nat → Int32) (call : Nat → List Value → am_H → Option am_X) (lv : am_L) (st : List Value) (h : am_H) : am_f d scr L call 123 (n + 1) 24 lv st h = (match am_ld lv 0 with
    | some (.ref x) => am_f d scr L call 123 n 25 lv (.ref x :: st) h
    | _ => none) := k_la (i := .aload_n 0) rfl rfl rfl rfl
theorem s_123_25 (d L n : Nat) (scr : Nat → Int32) (call : Nat → List Value → am_H → Option am_X) (lv : am_L) (st : List Value) (h : am_H) (a : Nat) : am_f d scr L call 123 (n + 1) 25 lv (.ref a :: st) h = (match am_get h a 8 11 with
    | some v => am_f d scr L call 123 n 28 lv (v :: st) h
    | none => none) := k_gf (k := 29) rfl rfl
theorem s_123_28 (d L n : Nat) (scr : Nat → Int32) (call : Nat → List Value → am_H → Option am_X) (lv : am_L) (st : List Value) (h : am_H) : am_f d scr L call 123 (n + 1) 28 lv st h = (match am_ld lv 1 with
    | some (.int x) => am_f d scr L call 123 n 29 lv (.int x :: st) h
    | _ => none) := k_li (i := .iload_n 1) rfl rfl rfl rfl
theorem s_123_29 (d L n : Nat) (scr : Nat → Int32) (call : Nat → List Value → am_H → Option am_X) (lv : am_L) (st : List Value) (h : am_H) (a : Nat) (i : Int32) : am_f d scr L call 123 (n + 1) 29 lv (.int i :: .ref a :: st) h = (match am_ild scr L h a i with
    | some x => am_f d scr L call 123 n 30 lv (.int x :: st) h
    | none => none) := k_ia rfl
theorem s_123_30 (d L n : Nat) (scr : Nat → Int32) (call : Nat → List Value → am_H → Option am_X) (lv : am_L) (st : List Value) (h : am_H) : am_f d scr L call 123 (n + 1) 30 lv st h = am_f d scr L call 123 n 31 lv (.int 0 :: st) h := k_nx (i := .iconst 0) rfl rfl
theorem s_123_31 (d L n : Nat) (scr : Nat → Int32) (call : Nat → List Value → am_H → Option am_X) (lv : am_L) (h : am_H) (o : Nat) (a0 : Int32) (a1 : Int32) (a2 : Int32) (r0 : Nat) : am_f d scr L call 123 (n + 1) 31 lv (.int a2 :: .int a1 :: .int a0 :: .ref o :: .ref r0 :: []) h = if am_at h o 8 = true then (match call 112 [.ref o, .int a0, .int a1, .int a2] h with
    | some (v, h', dk, dn) => am_add dk dn (am_f d scr L call 123 n 34 lv (v.toList ++ [.ref r0]) h')
    | none => none) else none := k_iv0 (k := 231) (as := [.int a0, .int a1, .int a2]) (r := [.ref r0]) rfl rfl rfl rfl (Nat.le_of_ble_eq_true rfl)
theorem s_123_34 (d L n : Nat) (scr : Nat → Int32) (call : Nat → List Value → am_H → Option am_X) (lv : am_L) (h : am_H) (o : Nat) (a0 : Int32)  : am_f d scr L call 123 (n + 1) 34 lv (.int a0 :: .ref o :: []) h = if am_at h o 8 = true then (match call 122 [.ref o, .int a0] h with
    | some (v, h', dk, dn) => am_add dk dn (am_f d scr L call 123 n 37 lv (v.toList ++ []) h')
    | none => none) else none := k_iv0 (k := 266) (as := [.int a0]) (r := []) rfl rfl rfl rfl (Nat.le_of_ble_eq_true rfl)
theorem s_123_37 (d L n : Nat) (scr : Nat → Int32) (call : Nat → List Value → am_H → Option am_X) (lv : am_L) (st : List Value) (h : am_H) : am_f d scr L call 123 (n + 1) 37 lv st h = am_f d scr L call 123 n 131 lv st h := k_nx (i := .goto 94) rfl rfl
theorem s_123_40 (d L n : Nat) (scr : Nat → Int32) (call : Nat → List Value → am_H → Option am_X) (lv : am_L) (st : List Value) (h : am_H) : am_f d scr L call 123 (n + 1) 40 lv st h = (match am_ld lv 2 with
    | some (.int x) => am_f d scr L call 123 n 41 lv (.int x :: st) h
    | _ => none) := k_li (i := .iload_n 2) rfl rfl rfl rfl
theorem s_123_41 (d L n : Nat) (scr : Nat → Int32) (call : Nat → List Value → am_H → Option am_X) (lv : am_L) (st : List Value) (h : am_H) : am_f d scr L call 123 (n + 1) 41 lv st h = am_f d scr L call 123 n 42 lv (.int 2 :: st) h := k_nx (i := .iconst 2) rfl rfl
theorem s_123_42 (d L n : Nat) (scr : Nat → Int32) (call : Nat → List Value → am_H → Option am_X) (lv : am_L) (st : List Value) (h : am_H) (x y : Int32) : am_f d scr L call 123 (n + 1) 42 lv (.int y :: .int x :: st) h = if ¬ x = y then am_f d scr L call 123 n 88 lv st h else am_f d scr L call 123 n 45 lv st h := k_ic_ne (o := 46) rfl ⟨by decide, rfl⟩
theorem s_123_45 (d L n : Nat) (scr : Nat → Int32) (call : Nat → List Value → am_H → Option am_X) (lv : am_L) (st : List Value) (h : am_H) : am_f d scr L call 123 (n + 1) 45 lv st h = (match am_ld lv 0 with
    | some (.ref x) => am_f d scr L call 123 n 46 lv (.ref x :: st) h
    | _ => none) := k_la (i := .aload_n 0) rfl rfl rfl rfl
theorem s_123_46 (d L n : Nat) (scr : Nat → Int32) (call : Nat → List Value → am_H → Option am_X) (lv : am_L) (st : List Value) (h : am_H) (a : Nat) : am_f d scr L call 123 (n + 1) 46 lv (.ref a :: st) h = (match am_get h a 8 59 with
    | some v => am_f d scr L call 123 n 49 lv (v :: st) h
    | none => none) := k_gf (k := 269) rfl rfl
theorem s_123_49 (d L n : Nat) (scr : Nat → Int32) (call : Nat → List Value → am_H → Option am_X) (lv : am_L) (st : List Value) (h : am_H) (x : Int32) : am_f d scr L call 123 (n + 1) 49 lv (.int x :: st) h = am_f d scr L call 123 n 50 (am_st1 lv 3 (.int x)) st h := k_nx (i := .istore_n 3) rfl rfl
theorem s_123_50 (d L n : Nat) (scr : Nat → Int32) (call : Nat → List Value → am_H → Option am_X) (lv : am_L) (st : List Value) (h : am_H) : am_f d scr L call 123 (n + 1) 50 lv st h = (match am_ld lv 0 with
    | some (.ref x) => am_f d scr L call 123 n 51 lv (.ref x :: st) h
    | _ => none) := k_la (i := .aload_n 0) rfl rfl rfl rfl
theorem s_123_51 (d L n : Nat) (scr : Nat → Int32) (call : Nat → List Value → am_H → Option am_X) (lv : am_L) (st : List Value) (h : am_H) (a : Nat) : am_f d scr L call 123 (n + 1) 51 lv (.ref a :: st) h = (match am_get h a 8 41 with
    | some v => am_f d scr L call 123 n 54 lv (v :: st) h
    | none => none) := k_gf (k := 90) rfl rfl
theorem s_123_54 (d L n : Nat) (scr : Nat → Int32) (call : Nat → List Value → am_H → Option am_X) (lv : am_L) (st : List Value) (h : am_H) : am_f d scr L call 123 (n + 1) 54 lv st h = (match am_ld lv 3 with
    | some (.int x) => am_f d scr L call 123 n 55 lv (.int x :: st) h
    | _ => none) := k_li (i := .iload_n 3) rfl rfl rfl rfl
theorem s_123_55 (d L n : Nat) (scr : Nat → Int32) (call : Nat → List Value → am_H → Option am_X) (lv : am_L) (st : List Value) (h : am_H) (a : Nat) (i : Int32) : am_f d scr L call 123 (n + 1) 55 lv (.int i :: .ref a :: st) h = (match am_ild scr L h a i with
    | some x => am_f d scr L call 123 n 56 lv (.int x :: st) h
    | none => none) := k_ia rfl
theorem s_123_56 (d L n : Nat) (scr : Nat → Int32) (call : Nat → List Value → am_H → Option am_X) (lv : am_L) (st : List Value) (h : am_H) : am_f d scr L call 123 (n + 1) 56 lv st h = (match am_ld lv 0 with
    | some (.ref x) => am_f d scr L call 123 n 57 lv (.ref x :: st) h
    | _ => none) := k_la (i := .aload_n 0) rfl rfl rfl rfl
theorem s_123_57 (d L n : Nat) (scr : Nat → Int32) (call : Nat → List Value → am_H → Option am_X) (lv : am_L) (st : List Value) (h : am_H) (a : Nat) : am_f d scr L call 123 (n + 1) 57 lv (.ref a :: st) h = (match am_get h a 8 11 with
    | some v => am_f d scr L call 123 n 60 lv (v :: st) h
    | none => none) := k_gf (k := 29) rfl rfl
theorem s_123_60 (d L n : Nat) (scr : Nat → Int32) (call : Nat → List Value → am_H → Option am_X) (lv : am_L) (st : List Value) (h : am_H) : am_f d scr L call 123 (n + 1) 60 lv st h = (match am_ld lv 1 with
    | some (.int x) => am_f d scr L call 123 n 61 lv (.int x :: st) h
    | _ => none) := k_li (i := .iload_n 1) rfl rfl rfl rfl
theorem s_123_61 (d L n : Nat) (scr : Nat → Int32) (call : Nat → List Value → am_H → Option am_X) (lv : am_L) (st : List Value) (h : am_H) (a : Nat) (i : Int32) : am_f d scr L call 123 (n + 1) 61 lv (.int i :: .ref a :: st) h = (match am_ild scr L h a i with
    | some x => am_f d scr L call 123 n 62 lv (.int x :: st) h
    | none => none) := k_ia rfl
theorem s_123_62 (d L n : Nat) (scr : Nat → Int32) (call : Nat → List Value → am_H → Option am_X) (lv : am_L) (st : List Value) (h : am_H) (x y : Int32) : am_f d scr L call 123 (n + 1) 62 lv (.int y :: .int x :: st) h = if x = y then am_f d scr L call 123 n 75 lv st h else am_f d scr L call 123 n 65 lv st h := k_ic_eq (o := 13) rfl ⟨by decide, rfl⟩
theorem s_123_65 (d L n : Nat) (scr : Nat → Int32) (call : Nat → List Value → am_H → Option am_X) (lv : am_L) (st : List Value) (h : am_H) : am_f d scr L call 123 (n + 1) 65 lv st h = (match am_ld lv 0 with
    | some (.ref x) => am_f d scr L call 123 n 66 lv (.ref x :: st) h
    | _ => none) := k_la (i := .aload_n 0) rfl rfl rfl rfl
theorem s_123_66 (d L n : Nat) (scr : Nat → Int32) (call : Nat → List Value → am_H → Option am_X) (lv : am_L) (st : List Value) (h : am_H) (a : Nat) : am_f d scr L call 123 (n + 1) 66 lv (.ref a :: st) h = (match am_get h a 8 43 with
    | some v => am_f d scr L call 123 n 69 lv (v :: st) h
    | none => none) := k_gf (k := 96) rfl rfl
theorem s_123_69 (d L n : Nat) (scr : Nat → Int32) (call : Nat → List Value → am_H → Option am_X) (lv : am_L) (st : List Value) (h : am_H) : am_f d scr L call 123 (n + 1) 69 lv st h = (match am_ld lv 3 with
    | some (.int x) => am_f d scr L call 123 n 70 lv (.int x :: st) h
    | _ => none) := k_li (i := .iload_n 3) rfl rfl rfl rfl
theorem s_123_70 (d L n : Nat) (scr : Nat → Int32) (call : Nat → List Value → am_H → Option am_X) (lv : am_L) (st : List Value) (h : am_H) (a : Nat) (i : Int32) : am_f d scr L call 123 (n + 1) 70 lv (.int i :: .ref a :: st) h = (match am_ild scr L h a i with
    | some x => am_f d scr L call 123 n 71 lv (.int x :: st) h
    | none => none) := k_ia rfl
theorem s_123_71 (d L n : Nat) (scr : Nat → Int32) (call : Nat → List Value → am_H → Option am_X) (lv : am_L) (st : List Value) (h : am_H) (x : Int32) : am_f d scr L call 123 (n + 1) 71 lv (.int x :: st) h = am_f d scr L call 123 n 72 (am_st1 lv 3 (.int x)) st h := k_nx (i := .istore_n 3) rfl rfl
theorem s_123_72 (d L n : Nat) (scr : Nat → Int32) (call : Nat → List Value → am_H → Option am_X) (lv : am_L) (st : List Value) (h : am_H) : am_f d scr L call 123 (n + 1) 72 lv st h = am_f d scr L call 123 n 50 lv st h := k_nx (i := .goto (-22)) rfl rfl
theorem s_123_75 (d L n : Nat) (scr : Nat → Int32) (call : Nat → List Value → am_H → Option am_X) (lv : am_L) (st : List Value) (h : am_H) : am_f d scr L call 123 (n + 1) 75 lv st h = (match am_ld lv 0 with
    | some (.ref x) => am_f d scr L call 123 n 76 lv (.ref x :: st) h
    | _ => none) := k_la (i := .aload_n 0) rfl rfl rfl rfl
theorem s_123_76 (d L n : Nat) (scr : Nat → Int32) (call : Nat → List Value → am_H → Option am_X) (lv : am_L) (st : List Value) (h : am_H) : am_f d scr L call 123 (n + 1) 76 lv st h = (match am_ld lv 0 with
    | some (.ref x) => am_f d scr L call 123 n 77 lv (.ref x :: st) h
    | _ => none) := k_la (i := .aload_n 0) rfl rfl rfl rfl
theorem s_123_77 (d L n : Nat) (scr : Nat → Int32) (call : Nat → List Value → am_H → Option am_X) (lv : am_L) (st : List Value) (h : am_H) (a : Nat) : am_f d scr L call 123 (n + 1) 77 lv (.ref a :: st) h = (match am_get h a 8 42 with
    | some v => am_f d scr L call 123 n 80 lv (v :: st) h
    | none => none) := k_gf (k := 93) rfl rfl
theorem s_123_80 (d L n : Nat) (scr : Nat → Int32) (call : Nat → List Value → am_H → Option am_X) (lv : am_L) (st : List Value) (h : am_H) : am_f d scr L call 123 (n + 1) 80 lv st h = (match am_ld lv 3 with
    | some (.int x) => am_f d scr L call 123 n 81 lv (.int x :: st) h
    | _ => none) := k_li (i := .iload_n 3) rfl rfl rfl rfl
theorem s_123_81 (d L n : Nat) (scr : Nat → Int32) (call : Nat → List Value → am_H → Option am_X) (lv : am_L) (st : List Value) (h : am_H) (a : Nat) (i : Int32) : am_f d scr L call 123 (n + 1) 81 lv (.int i :: .ref a :: st) h = (match am_ild scr L h a i with
    | some x => am_f d scr L call 123 n 82 lv (.int x :: st) h
    | none => none) := k_ia rfl
theorem s_123_82 (d L n : Nat) (scr : Nat → Int32) (call : Nat → List Value → am_H → Option am_X) (lv : am_L) (h : am_H) (o : Nat) (a0 : Int32)  : am_f d scr L call 123 (n + 1) 82 lv (.int a0 :: .ref o :: []) h = if am_at h o 8 = true then (match call 122 [.ref o, .int a0] h with
    | some (v, h', dk, dn) => am_add dk dn (am_f d scr L call 123 n 85 lv (v.toList ++ []) h')
    | none => none) else none := k_iv0 (k := 266) (as := [.int a0]) (r := []) rfl rfl rfl rfl (Nat.le_of_ble_eq_true rfl)
theorem s_123_85 (d L n : Nat) (scr : Nat → Int32) (call : Nat → List Value → am_H → Option am_X) (lv : am_L) (st : List Value) (h : am_H) : am_f d scr L call 123 (n + 1) 85 lv st h = am_f d scr L call 123 n 131 lv st h := k_nx (i := .goto 46) rfl rfl
theorem s_123_88 (d L n : Nat) (scr : Nat → Int32) (call : Nat → List Value → am_H → Option am_X) (lv : am_L) (st : List Value) (h : am_H) : am_f d scr L call 123 (n + 1) 88 lv st h = (match am_ld lv 2 with
    | some (.int x) => am_f d scr L call 123 n 89 lv (.int x :: st) h
    | _ => none) := k_li (i := .iload_n 2) rfl rfl rfl rfl
theorem s_123_89 (d L n : Nat) (scr : Nat → Int32) (call : Nat → List Value → am_H → Option am_X) (lv : am_L) (st : List Value) (h : am_H) : am_f d scr L call 123 (n + 1) 89 lv st h = am_f d scr L call 123 n 90 lv (.int 3 :: st) h := k_nx (i := .iconst 3) rfl rfl
theorem s_123_90 (d L n : Nat) (scr : Nat → Int32) (call : Nat → List Value → am_H → Option am_X) (lv : am_L) (st : List Value) (h : am_H) (x y : Int32) : am_f d scr L call 123 (n + 1) 90 lv (.int y :: .int x :: st) h = if ¬ x = y then am_f d scr L call 123 n 110 lv st h else am_f d scr L call 123 n 93 lv st h := k_ic_ne (o := 20) rfl ⟨by decide, rfl⟩
theorem s_123_93 (d L n : Nat) (scr : Nat → Int32) (call : Nat → List Value → am_H → Option am_X) (lv : am_L) (st : List Value) (h : am_H) : am_f d scr L call 123 (n + 1) 93 lv st h = (match am_ld lv 0 with
    | some (.ref x) => am_f d scr L call 123 n 94 lv (.ref x :: st) h
    | _ => none) := k_la (i := .aload_n 0) rfl rfl rfl rfl
theorem s_123_94 (d L n : Nat) (scr : Nat → Int32) (call : Nat → List Value → am_H → Option am_X) (lv : am_L) (st : List Value) (h : am_H) : am_f d scr L call 123 (n + 1) 94 lv st h = (match am_ld lv 0 with
    | some (.ref x) => am_f d scr L call 123 n 95 lv (.ref x :: st) h
    | _ => none) := k_la (i := .aload_n 0) rfl rfl rfl rfl
theorem s_123_95 (d L n : Nat) (scr : Nat → Int32) (call : Nat → List Value → am_H → Option am_X) (lv : am_L) (st : List Value) (h : am_H) : am_f d scr L call 123 (n + 1) 95 lv st h = am_f d scr L call 123 n 96 lv (.int 2 :: st) h := k_nx (i := .iconst 2) rfl rfl
theorem s_123_96 (d L n : Nat) (scr : Nat → Int32) (call : Nat → List Value → am_H → Option am_X) (lv : am_L) (st : List Value) (h : am_H) : am_f d scr L call 123 (n + 1) 96 lv st h = (match am_ld lv 1 with
    | some (.int x) => am_f d scr L call 123 n 97 lv (.int x :: st) h
    | _ => none) := k_li (i := .iload_n 1) rfl rfl rfl rfl
theorem s_123_97 (d L n : Nat) (scr : Nat → Int32) (call : Nat → List Value → am_H → Option am_X) (lv : am_L) (st : List Value) (h : am_H) : am_f d scr L call 123 (n + 1) 97 lv st h = (match am_ld lv 0 with
    | some (.ref x) => am_f d scr L call 123 n 98 lv (.ref x :: st) h
    | _ => none) := k_la (i := .aload_n 0) rfl rfl rfl rfl
theorem s_123_98 (d L n : Nat) (scr : Nat → Int32) (call : Nat → List Value → am_H → Option am_X) (lv : am_L) (st : List Value) (h : am_H) (a : Nat) : am_f d scr L call 123 (n + 1) 98 lv (.ref a :: st) h = (match am_get h a 8 59 with
    | some v => am_f d scr L call 123 n 101 lv (v :: st) h
    | none => none) := k_gf (k := 269) rfl rfl
theorem s_123_101 (d L n : Nat) (scr : Nat → Int32) (call : Nat → List Value → am_H → Option am_X) (lv : am_L) (h : am_H) (o : Nat) (a0 : Int32) (a1 : Int32) (a2 : Int32) (r0 : Nat) : am_f d scr L call 123 (n + 1) 101 lv (.int a2 :: .int a1 :: .int a0 :: .ref o :: .ref r0 :: []) h = if am_at h o 8 = true then (match call 112 [.ref o, .int a0, .int a1, .int a2] h with
    | some (v, h', dk, dn) => am_add dk dn (am_f d scr L call 123 n 104 lv (v.toList ++ [.ref r0]) h')
    | none => none) else none := k_iv0 (k := 231) (as := [.int a0, .int a1, .int a2]) (r := [.ref r0]) rfl rfl rfl rfl (Nat.le_of_ble_eq_true rfl)
theorem s_123_104 (d L n : Nat) (scr : Nat → Int32) (call : Nat → List Value → am_H → Option am_X) (lv : am_L) (h : am_H) (o : Nat) (a0 : Int32)  : am_f d scr L call 123 (n + 1) 104 lv (.int a0 :: .ref o :: []) h = if am_at h o 8 = true then (match call 122 [.ref o, .int a0] h with
    | some (v, h', dk, dn) => am_add dk dn (am_f d scr L call 123 n 107 lv (v.toList ++ []) h')
    | none => none) else none := k_iv0 (k := 266) (as := [.int a0]) (r := []) rfl rfl rfl rfl (Nat.le_of_ble_eq_true rfl)
theorem s_123_107 (d L n : Nat) (scr : Nat → Int32) (call : Nat → List Value → am_H → Option am_X) (lv : am_L) (st : List Value) (h : am_H) : am_f d scr L call 123 (n + 1) 107 lv st h = am_f d scr L call 123 n 131 lv st h := k_nx (i := .goto 24) rfl rfl
theorem s_123_110 (d L n : Nat) (scr : Nat → Int32) (call : Nat → List Value → am_H → Option am_X) (lv : am_L) (st : List Value) (h : am_H) : am_f d scr L call 123 (n + 1) 110 lv st h = (match am_ld lv 0 with
    | some (.ref x) => am_f d scr L call 123 n 111 lv (.ref x :: st) h
    | _ => none) := k_la (i := .aload_n 0) rfl rfl rfl rfl
theorem s_123_111 (d L n : Nat) (scr : Nat → Int32) (call : Nat → List Value → am_H → Option am_X) (lv : am_L) (st : List Value) (h : am_H) : am_f d scr L call 123 (n + 1) 111 lv st h = (match am_ld lv 1 with
    | some (.int x) => am_f d scr L call 123 n 112 lv (.int x :: st) h
    | _ => none) := k_li (i := .iload_n 1) rfl rfl rfl rfl
theorem s_123_112 (d L n : Nat) (scr : Nat → Int32) (call : Nat → List Value → am_H → Option am_X) (lv : am_L) (st : List Value) (h : am_H) : am_f d scr L call 123 (n + 1) 112 lv st h = am_f d scr L call 123 n 113 lv (.int 1 :: st) h := k_nx (i := .iconst 1) rfl rfl
theorem s_123_113 (d L n : Nat) (scr : Nat → Int32) (call : Nat → List Value → am_H → Option am_X) (lv : am_L) (st : List Value) (h : am_H) : am_f d scr L call 123 (n + 1) 113 lv st h = (match am_ld lv 0 with
    | some (.ref x) => am_f d scr L call 123 n 114 lv (.ref x :: st) h
    | _ => none) := k_la (i := .aload_n 0) rfl rfl rfl rfl
theorem s_123_114 (d L n : Nat) (scr : Nat → Int32) (call : Nat → List Value → am_H → Option am_X) (lv : am_L) (st : List Value) (h : am_H) (a : Nat) : am_f d scr L call 123 (n + 1) 114 lv (.ref a :: st) h = (match am_get h a 8 59 with
    | some v => am_f d scr L call 123 n 117 lv (v :: st) h
    | none => none) := k_gf (k := 269) rfl rfl
theorem s_123_117 (d L n : Nat) (scr : Nat → Int32) (call : Nat → List Value → am_H → Option am_X) (lv : am_L) (st : List Value) (h : am_H) : am_f d scr L call 123 (n + 1) 117 lv st h = am_f d scr L call 123 n 118 lv (.int 0 :: st) h := k_nx (i := .iconst 0) rfl rfl
theorem s_123_118 (d L n : Nat) (scr : Nat → Int32) (call : Nat → List Value → am_H → Option am_X) (lv : am_L) (h : am_H) (o : Nat) (a0 : Int32) (a1 : Int32) (a2 : Int32) (a3 : Int32)  : am_f d scr L call 123 (n + 1) 118 lv (.int a3 :: .int a2 :: .int a1 :: .int a0 :: .ref o :: []) h = if am_at h o 8 = true then (match call 121 [.ref o, .int a0, .int a1, .int a2, .int a3] h with
    | some (v, h', dk, dn) => am_add dk dn (am_f d scr L call 123 n 121 lv (v.toList ++ []) h')
    | none => none) else none := k_iv0 (k := 272) (as := [.int a0, .int a1, .int a2, .int a3]) (r := []) rfl rfl rfl rfl (Nat.le_of_ble_eq_true rfl)
theorem s_123_121 (d L n : Nat) (scr : Nat → Int32) (call : Nat → List Value → am_H → Option am_X) (lv : am_L) (st : List Value) (h : am_H) : am_f d scr L call 123 (n + 1) 121 lv st h = (match am_ld lv 0 with
    | some (.ref x) => am_f d scr L call 123 n 122 lv (.ref x :: st) h
    | _ => none) := k_la (i := .aload_n 0) rfl rfl rfl rfl
theorem s_123_122 (d L n : Nat) (scr : Nat → Int32) (call : Nat → List Value → am_H → Option am_X) (lv : am_L) (st : List Value) (h : am_H) : am_f d scr L call 123 (n + 1) 122 lv st h = (match am_ld lv 0 with
    | some (.ref x) => am_f d scr L call 123 n 123 lv (.ref x :: st) h
    | _ => none) := k_la (i := .aload_n 0) rfl rfl rfl rfl
theorem s_123_123 (d L n : Nat) (scr : Nat → Int32) (call : Nat → List Value → am_H → Option am_X) (lv : am_L) (st : List Value) (h : am_H) (a : Nat) : am_f d scr L call 123 (n + 1) 123 lv (.ref a :: st) h = (match am_get h a 8 14 with
    | some v => am_f d scr L call 123 n 126 lv (v :: st) h
    | none => none) := k_gf (k := 38) rfl rfl
theorem s_123_126 (d L n : Nat) (scr : Nat → Int32) (call : Nat → List Value → am_H → Option am_X) (lv : am_L) (st : List Value) (h : am_H) : am_f d scr L call 123 (n + 1) 126 lv st h = (match am_ld lv 1 with
    | some (.int x) => am_f d scr L call 123 n 127 lv (.int x :: st) h
    | _ => none) := k_li (i := .iload_n 1) rfl rfl rfl rfl
theorem s_123_127 (d L n : Nat) (scr : Nat → Int32) (call : Nat → List Value → am_H → Option am_X) (lv : am_L) (st : List Value) (h : am_H) (a : Nat) (i : Int32) : am_f d scr L call 123 (n + 1) 127 lv (.int i :: .ref a :: st) h = (match am_ild scr L h a i with
    | some x => am_f d scr L call 123 n 128 lv (.int x :: st) h
    | none => none) := k_ia rfl
theorem s_123_128 (d L n : Nat) (scr : Nat → Int32) (call : Nat → List Value → am_H → Option am_X) (lv : am_L) (st : List Value) (h : am_H) (x : Int32) (a : Nat) : am_f d scr L call 123 (n + 1) 128 lv (.int x :: .ref a :: st) h = (match am_put h a 8 58 (.int x) with
    | some h' => am_f d scr L call 123 n 131 lv st h'
    | none => none) := k_pf (k := 260) rfl rfl rfl
theorem s_123_131 (d L n : Nat) (scr : Nat → Int32) (call : Nat → List Value → am_H → Option am_X) (lv : am_L) (h : am_H) : am_f d scr L call 123 (n + 1) 131 lv [] h = some (none, h, 0, 0) := k_vr rfl rfl
-- 124: BlameDeskModel.labelOf(I)I
theorem s_124_0 (d L n : Nat) (scr : Nat → Int32) (call : Nat → List Value → am_H → Option am_X) (lv : am_L) (st : List Value) (h : am_H) : am_f d scr L call 124 (n + 1) 0 lv st h = am_f d scr L call 124 n 1 lv (.int 2 :: st) h := k_nx (i := .iconst 2) rfl rfl
theorem s_124_1 (d L n : Nat) (scr : Nat → Int32) (call : Nat → List Value → am_H → Option am_X) (lv : am_L) (st : List Value) (h : am_H) : am_f d scr L call 124 (n + 1) 1 lv st h = (match am_ld lv 0 with
    | some (.ref x) => am_f d scr L call 124 n 2 lv (.ref x :: st) h
    | _ => none) := k_la (i := .aload_n 0) rfl rfl rfl rfl
theorem s_124_2 (d L n : Nat) (scr : Nat → Int32) (call : Nat → List Value → am_H → Option am_X) (lv : am_L) (st : List Value) (h : am_H) (a : Nat) : am_f d scr L call 124 (n + 1) 2 lv (.ref a :: st) h = (match am_get h a 8 10 with
    | some v => am_f d scr L call 124 n 5 lv (v :: st) h
    | none => none) := k_gf (k := 26) rfl rfl
theorem s_124_5 (d L n : Nat) (scr : Nat → Int32) (call : Nat → List Value → am_H → Option am_X) (lv : am_L) (st : List Value) (h : am_H) : am_f d scr L call 124 (n + 1) 5 lv st h = (match am_ld lv 1 with
    | some (.int x) => am_f d scr L call 124 n 6 lv (.int x :: st) h
    | _ => none) := k_li (i := .iload_n 1) rfl rfl rfl rfl
theorem s_124_6 (d L n : Nat) (scr : Nat → Int32) (call : Nat → List Value → am_H → Option am_X) (lv : am_L) (st : List Value) (h : am_H) (a : Nat) (i : Int32) : am_f d scr L call 124 (n + 1) 6 lv (.int i :: .ref a :: st) h = (match am_ild scr L h a i with
    | some x => am_f d scr L call 124 n 7 lv (.int x :: st) h
    | none => none) := k_ia rfl
theorem s_124_7 (d L n : Nat) (scr : Nat → Int32) (call : Nat → List Value → am_H → Option am_X) (lv : am_L) (st : List Value) (h : am_H) (x y : Int32) : am_f d scr L call 124 (n + 1) 7 lv (.int y :: .int x :: st) h = am_f d scr L call 124 n 8 lv (.int (x * y) :: st) h := k_nx (i := .imul) rfl rfl
theorem s_124_8 (d L n : Nat) (scr : Nat → Int32) (call : Nat → List Value → am_H → Option am_X) (lv : am_L) (h : am_H) (x : Int32) : am_f d scr L call 124 (n + 1) 8 lv [.int x] h = some (some (.int x), h, 0, 0) := k_ir rfl rfl
-- 125: BlameDeskModel.aimA(II)I
theorem s_125_0 (d L n : Nat) (scr : Nat → Int32) (call : Nat → List Value → am_H → Option am_X) (lv : am_L) (st : List Value) (h : am_H) : am_f d scr L call 125 (n + 1) 0 lv st h = (match am_ld lv 0 with
    | some (.ref x) => am_f d scr L call 125 n 1 lv (.ref x :: st) h
    | _ => none) := k_la (i := .aload_n 0) rfl rfl rfl rfl
theorem s_125_1 (d L n : Nat) (scr : Nat → Int32) (call : Nat → List Value → am_H → Option am_X) (lv : am_L) (st : List Value) (h : am_H) (a : Nat) : am_f d scr L call 125 (n + 1) 1 lv (.ref a :: st) h = (match am_get h a 8 9 with
    | some v => am_f d scr L call 125 n 4 lv (v :: st) h
    | none => none) := k_gf (k := 23) rfl rfl
theorem s_125_4 (d L n : Nat) (scr : Nat → Int32) (call : Nat → List Value → am_H → Option am_X) (lv : am_L) (st : List Value) (h : am_H) : am_f d scr L call 125 (n + 1) 4 lv st h = (match am_ld lv 1 with
    | some (.int x) => am_f d scr L call 125 n 5 lv (.int x :: st) h
    | _ => none) := k_li (i := .iload_n 1) rfl rfl rfl rfl
theorem s_125_5 (d L n : Nat) (scr : Nat → Int32) (call : Nat → List Value → am_H → Option am_X) (lv : am_L) (st : List Value) (h : am_H) (a : Nat) (i : Int32) : am_f d scr L call 125 (n + 1) 5 lv (.int i :: .ref a :: st) h = (match am_ild scr L h a i with
    | some x => am_f d scr L call 125 n 6 lv (.int x :: st) h
    | none => none) := k_ia rfl
theorem s_125_6 (d L n : Nat) (scr : Nat → Int32) (call : Nat → List Value → am_H → Option am_X) (lv : am_L) (st : List Value) (h : am_H) (x : Int32) : am_f d scr L call 125 (n + 1) 6 lv (.int x :: st) h = am_f d scr L call 125 n 7 (am_st1 lv 3 (.int x)) st h := k_nx (i := .istore_n 3) rfl rfl
theorem s_125_7 (d L n : Nat) (scr : Nat → Int32) (call : Nat → List Value → am_H → Option am_X) (lv : am_L) (st : List Value) (h : am_H) : am_f d scr L call 125 (n + 1) 7 lv st h = (match am_ld lv 3 with
    | some (.int x) => am_f d scr L call 125 n 8 lv (.int x :: st) h
    | _ => none) := k_li (i := .iload_n 3) rfl rfl rfl rfl
theorem s_125_8 (d L n : Nat) (scr : Nat → Int32) (call : Nat → List Value → am_H → Option am_X) (lv : am_L) (st : List Value) (h : am_H) : am_f d scr L call 125 (n + 1) 8 lv st h = am_f d scr L call 125 n 9 lv (.int 4 :: st) h := k_nx (i := .iconst 4) rfl rfl
theorem s_125_9 (d L n : Nat) (scr : Nat → Int32) (call : Nat → List Value → am_H → Option am_X) (lv : am_L) (st : List Value) (h : am_H) (x y : Int32) : am_f d scr L call 125 (n + 1) 9 lv (.int y :: .int x :: st) h = if ¬ x = y then am_f d scr L call 125 n 26 lv st h else am_f d scr L call 125 n 12 lv st h := k_ic_ne (o := 17) rfl ⟨by decide, rfl⟩
theorem s_125_12 (d L n : Nat) (scr : Nat → Int32) (call : Nat → List Value → am_H → Option am_X) (lv : am_L) (st : List Value) (h : am_H) : am_f d scr L call 125 (n + 1) 12 lv st h = (match am_ld lv 2 with
    | some (.int x) => am_f d scr L call 125 n 13 lv (.int x :: st) h
    | _ => none) := k_li (i := .iload_n 2) rfl rfl rfl rfl
theorem s_125_13 (d L n : Nat) (scr : Nat → Int32) (call : Nat → List Value → am_H → Option am_X) (lv : am_L) (st : List Value) (h : am_H) : am_f d scr L call 125 (n + 1) 13 lv st h = am_f d scr L call 125 n 14 lv (.int 2 :: st) h := k_nx (i := .iconst 2) rfl rfl
theorem s_125_14 (d L n : Nat) (scr : Nat → Int32) (call : Nat → List Value → am_H → Option am_X) (lv : am_L) (st : List Value) (h : am_H) (x y : Int32) : am_f d scr L call 125 (n + 1) 14 lv (.int y :: .int x :: st) h = if ¬ x = y then am_f d scr L call 125 n 24 lv st h else am_f d scr L call 125 n 17 lv st h := k_ic_ne (o := 10) rfl ⟨by decide, rfl⟩
theorem s_125_17 (d L n : Nat) (scr : Nat → Int32) (call : Nat → List Value → am_H → Option am_X) (lv : am_L) (st : List Value) (h : am_H) : am_f d scr L call 125 (n + 1) 17 lv st h = (match am_ld lv 0 with
    | some (.ref x) => am_f d scr L call 125 n 18 lv (.ref x :: st) h
    | _ => none) := k_la (i := .aload_n 0) rfl rfl rfl rfl
theorem s_125_18 (d L n : Nat) (scr : Nat → Int32) (call : Nat → List Value → am_H → Option am_X) (lv : am_L) (st : List Value) (h : am_H) (a : Nat) : am_f d scr L call 125 (n + 1) 18 lv (.ref a :: st) h = (match am_get h a 8 6 with
    | some v => am_f d scr L call 125 n 21 lv (v :: st) h
    | none => none) := k_gf (k := 126) rfl rfl
theorem s_125_21 (d L n : Nat) (scr : Nat → Int32) (call : Nat → List Value → am_H → Option am_X) (lv : am_L) (st : List Value) (h : am_H) : am_f d scr L call 125 (n + 1) 21 lv st h = am_f d scr L call 125 n 25 lv st h := k_nx (i := .goto 4) rfl rfl
theorem s_125_24 (d L n : Nat) (scr : Nat → Int32) (call : Nat → List Value → am_H → Option am_X) (lv : am_L) (st : List Value) (h : am_H) : am_f d scr L call 125 (n + 1) 24 lv st h = (match am_ld lv 2 with
    | some (.int x) => am_f d scr L call 125 n 25 lv (.int x :: st) h
    | _ => none) := k_li (i := .iload_n 2) rfl rfl rfl rfl
theorem s_125_25 (d L n : Nat) (scr : Nat → Int32) (call : Nat → List Value → am_H → Option am_X) (lv : am_L) (h : am_H) (x : Int32) : am_f d scr L call 125 (n + 1) 25 lv [.int x] h = some (some (.int x), h, 0, 0) := k_ir rfl rfl
theorem s_125_26 (d L n : Nat) (scr : Nat → Int32) (call : Nat → List Value → am_H → Option am_X) (lv : am_L) (st : List Value) (h : am_H) : am_f d scr L call 125 (n + 1) 26 lv st h = (match am_ld lv 3 with
    | some (.int x) => am_f d scr L call 125 n 27 lv (.int x :: st) h
    | _ => none) := k_li (i := .iload_n 3) rfl rfl rfl rfl
theorem s_125_27 (d L n : Nat) (scr : Nat → Int32) (call : Nat → List Value → am_H → Option am_X) (lv : am_L) (st : List Value) (h : am_H) : am_f d scr L call 125 (n + 1) 27 lv st h = am_f d scr L call 125 n 28 lv (.int 5 :: st) h := k_nx (i := .iconst 5) rfl rfl
theorem s_125_28 (d L n : Nat) (scr : Nat → Int32) (call : Nat → List Value → am_H → Option am_X) (lv : am_L) (st : List Value) (h : am_H) (x y : Int32) : am_f d scr L call 125 (n + 1) 28 lv (.int y :: .int x :: st) h = if x = y then am_f d scr L call 125 n 37 lv st h else am_f d scr L call 125 n 31 lv st h := k_ic_eq (o := 9) rfl ⟨by decide, rfl⟩
theorem s_125_31 (d L n : Nat) (scr : Nat → Int32) (call : Nat → List Value → am_H → Option am_X) (lv : am_L) (st : List Value) (h : am_H) : am_f d scr L call 125 (n + 1) 31 lv st h = (match am_ld lv 3 with
    | some (.int x) => am_f d scr L call 125 n 32 lv (.int x :: st) h
    | _ => none) := k_li (i := .iload_n 3) rfl rfl rfl rfl
theorem s_125_32 (d L n : Nat) (scr : Nat → Int32) (call : Nat → List Value → am_H → Option am_X) (lv : am_L) (st : List Value) (h : am_H) : am_f d scr L call 125 (n + 1) 32 lv st h = am_f d scr L call 125 n 34 lv (.int 11 :: st) h := k_nx (i := .bipush 11) rfl rfl
theorem s_125_34 (d L n : Nat) (scr : Nat → Int32) (call : Nat → List Value → am_H → Option am_X) (lv : am_L) (st : List Value) (h : am_H) (x y : Int32) : am_f d scr L call 125 (n + 1) 34 lv (.int y :: .int x :: st) h = if ¬ x = y then am_f d scr L call 125 n 51 lv st h else am_f d scr L call 125 n 37 lv st h := k_ic_ne (o := 17) rfl ⟨by decide, rfl⟩
theorem s_125_37 (d L n : Nat) (scr : Nat → Int32) (call : Nat → List Value → am_H → Option am_X) (lv : am_L) (st : List Value) (h : am_H) : am_f d scr L call 125 (n + 1) 37 lv st h = (match am_ld lv 2 with
    | some (.int x) => am_f d scr L call 125 n 38 lv (.int x :: st) h
    | _ => none) := k_li (i := .iload_n 2) rfl rfl rfl rfl
theorem s_125_38 (d L n : Nat) (scr : Nat → Int32) (call : Nat → List Value → am_H → Option am_X) (lv : am_L) (st : List Value) (h : am_H) : am_f d scr L call 125 (n + 1) 38 lv st h = am_f d scr L call 125 n 39 lv (.int 2 :: st) h := k_nx (i := .iconst 2) rfl rfl
theorem s_125_39 (d L n : Nat) (scr : Nat → Int32) (call : Nat → List Value → am_H → Option am_X) (lv : am_L) (st : List Value) (h : am_H) (x y : Int32) : am_f d scr L call 125 (n + 1) 39 lv (.int y :: .int x :: st) h = if ¬ x = y then am_f d scr L call 125 n 49 lv st h else am_f d scr L call 125 n 42 lv st h := k_ic_ne (o := 10) rfl ⟨by decide, rfl⟩
theorem s_125_42 (d L n : Nat) (scr : Nat → Int32) (call : Nat → List Value → am_H → Option am_X) (lv : am_L) (st : List Value) (h : am_H) : am_f d scr L call 125 (n + 1) 42 lv st h = (match am_ld lv 0 with
    | some (.ref x) => am_f d scr L call 125 n 43 lv (.ref x :: st) h
    | _ => none) := k_la (i := .aload_n 0) rfl rfl rfl rfl
theorem s_125_43 (d L n : Nat) (scr : Nat → Int32) (call : Nat → List Value → am_H → Option am_X) (lv : am_L) (st : List Value) (h : am_H) (a : Nat) : am_f d scr L call 125 (n + 1) 43 lv (.ref a :: st) h = (match am_get h a 8 7 with
    | some v => am_f d scr L call 125 n 46 lv (v :: st) h
    | none => none) := k_gf (k := 129) rfl rfl
theorem s_125_46 (d L n : Nat) (scr : Nat → Int32) (call : Nat → List Value → am_H → Option am_X) (lv : am_L) (st : List Value) (h : am_H) : am_f d scr L call 125 (n + 1) 46 lv st h = am_f d scr L call 125 n 50 lv st h := k_nx (i := .goto 4) rfl rfl
theorem s_125_49 (d L n : Nat) (scr : Nat → Int32) (call : Nat → List Value → am_H → Option am_X) (lv : am_L) (st : List Value) (h : am_H) : am_f d scr L call 125 (n + 1) 49 lv st h = (match am_ld lv 2 with
    | some (.int x) => am_f d scr L call 125 n 50 lv (.int x :: st) h
    | _ => none) := k_li (i := .iload_n 2) rfl rfl rfl rfl
theorem s_125_50 (d L n : Nat) (scr : Nat → Int32) (call : Nat → List Value → am_H → Option am_X) (lv : am_L) (h : am_H) (x : Int32) : am_f d scr L call 125 (n + 1) 50 lv [.int x] h = some (some (.int x), h, 0, 0) := k_ir rfl rfl
theorem s_125_51 (d L n : Nat) (scr : Nat → Int32) (call : Nat → List Value → am_H → Option am_X) (lv : am_L) (st : List Value) (h : am_H) : am_f d scr L call 125 (n + 1) 51 lv st h = (match am_ld lv 3 with
    | some (.int x) => am_f d scr L call 125 n 52 lv (.int x :: st) h
    | _ => none) := k_li (i := .iload_n 3) rfl rfl rfl rfl
theorem s_125_52 (d L n : Nat) (scr : Nat → Int32) (call : Nat → List Value → am_H → Option am_X) (lv : am_L) (st : List Value) (h : am_H) : am_f d scr L call 125 (n + 1) 52 lv st h = am_f d scr L call 125 n 54 lv (.int 9 :: st) h := k_nx (i := .bipush 9) rfl rfl
theorem s_125_54 (d L n : Nat) (scr : Nat → Int32) (call : Nat → List Value → am_H → Option am_X) (lv : am_L) (st : List Value) (h : am_H) (x y : Int32) : am_f d scr L call 125 (n + 1) 54 lv (.int y :: .int x :: st) h = if ¬ x = y then am_f d scr L call 125 n 61 lv st h else am_f d scr L call 125 n 57 lv st h := k_ic_ne (o := 7) rfl ⟨by decide, rfl⟩
theorem s_125_57 (d L n : Nat) (scr : Nat → Int32) (call : Nat → List Value → am_H → Option am_X) (lv : am_L) (st : List Value) (h : am_H) : am_f d scr L call 125 (n + 1) 57 lv st h = am_f d scr L call 125 n 58 lv (.int 1 :: st) h := k_nx (i := .iconst 1) rfl rfl
theorem s_125_58 (d L n : Nat) (scr : Nat → Int32) (call : Nat → List Value → am_H → Option am_X) (lv : am_L) (st : List Value) (h : am_H) : am_f d scr L call 125 (n + 1) 58 lv st h = am_f d scr L call 125 n 87 lv st h := k_nx (i := .goto 29) rfl rfl
theorem s_125_61 (d L n : Nat) (scr : Nat → Int32) (call : Nat → List Value → am_H → Option am_X) (lv : am_L) (st : List Value) (h : am_H) : am_f d scr L call 125 (n + 1) 61 lv st h = (match am_ld lv 3 with
    | some (.int x) => am_f d scr L call 125 n 62 lv (.int x :: st) h
    | _ => none) := k_li (i := .iload_n 3) rfl rfl rfl rfl
theorem s_125_62 (d L n : Nat) (scr : Nat → Int32) (call : Nat → List Value → am_H → Option am_X) (lv : am_L) (st : List Value) (h : am_H) : am_f d scr L call 125 (n + 1) 62 lv st h = am_f d scr L call 125 n 64 lv (.int 12 :: st) h := k_nx (i := .bipush 12) rfl rfl
theorem s_125_64 (d L n : Nat) (scr : Nat → Int32) (call : Nat → List Value → am_H → Option am_X) (lv : am_L) (st : List Value) (h : am_H) (x y : Int32) : am_f d scr L call 125 (n + 1) 64 lv (.int y :: .int x :: st) h = if ¬ x = y then am_f d scr L call 125 n 76 lv st h else am_f d scr L call 125 n 67 lv st h := k_ic_ne (o := 12) rfl ⟨by decide, rfl⟩
theorem s_125_67 (d L n : Nat) (scr : Nat → Int32) (call : Nat → List Value → am_H → Option am_X) (lv : am_L) (st : List Value) (h : am_H) : am_f d scr L call 125 (n + 1) 67 lv st h = (match am_ld lv 0 with
    | some (.ref x) => am_f d scr L call 125 n 68 lv (.ref x :: st) h
    | _ => none) := k_la (i := .aload_n 0) rfl rfl rfl rfl
theorem s_125_68 (d L n : Nat) (scr : Nat → Int32) (call : Nat → List Value → am_H → Option am_X) (lv : am_L) (st : List Value) (h : am_H) (a : Nat) : am_f d scr L call 125 (n + 1) 68 lv (.ref a :: st) h = (match am_get h a 8 12 with
    | some v => am_f d scr L call 125 n 71 lv (v :: st) h
    | none => none) := k_gf (k := 32) rfl rfl
theorem s_125_71 (d L n : Nat) (scr : Nat → Int32) (call : Nat → List Value → am_H → Option am_X) (lv : am_L) (st : List Value) (h : am_H) : am_f d scr L call 125 (n + 1) 71 lv st h = (match am_ld lv 1 with
    | some (.int x) => am_f d scr L call 125 n 72 lv (.int x :: st) h
    | _ => none) := k_li (i := .iload_n 1) rfl rfl rfl rfl
theorem s_125_72 (d L n : Nat) (scr : Nat → Int32) (call : Nat → List Value → am_H → Option am_X) (lv : am_L) (st : List Value) (h : am_H) (a : Nat) (i : Int32) : am_f d scr L call 125 (n + 1) 72 lv (.int i :: .ref a :: st) h = (match am_ild scr L h a i with
    | some x => am_f d scr L call 125 n 73 lv (.int x :: st) h
    | none => none) := k_ia rfl
theorem s_125_73 (d L n : Nat) (scr : Nat → Int32) (call : Nat → List Value → am_H → Option am_X) (lv : am_L) (st : List Value) (h : am_H) : am_f d scr L call 125 (n + 1) 73 lv st h = am_f d scr L call 125 n 87 lv st h := k_nx (i := .goto 14) rfl rfl
theorem s_125_76 (d L n : Nat) (scr : Nat → Int32) (call : Nat → List Value → am_H → Option am_X) (lv : am_L) (st : List Value) (h : am_H) : am_f d scr L call 125 (n + 1) 76 lv st h = (match am_ld lv 3 with
    | some (.int x) => am_f d scr L call 125 n 77 lv (.int x :: st) h
    | _ => none) := k_li (i := .iload_n 3) rfl rfl rfl rfl
theorem s_125_77 (d L n : Nat) (scr : Nat → Int32) (call : Nat → List Value → am_H → Option am_X) (lv : am_L) (st : List Value) (h : am_H) : am_f d scr L call 125 (n + 1) 77 lv st h = am_f d scr L call 125 n 79 lv (.int 10 :: st) h := k_nx (i := .bipush 10) rfl rfl
theorem s_125_79 (d L n : Nat) (scr : Nat → Int32) (call : Nat → List Value → am_H → Option am_X) (lv : am_L) (st : List Value) (h : am_H) (x y : Int32) : am_f d scr L call 125 (n + 1) 79 lv (.int y :: .int x :: st) h = if ¬ x = y then am_f d scr L call 125 n 86 lv st h else am_f d scr L call 125 n 82 lv st h := k_ic_ne (o := 7) rfl ⟨by decide, rfl⟩
theorem s_125_82 (d L n : Nat) (scr : Nat → Int32) (call : Nat → List Value → am_H → Option am_X) (lv : am_L) (st : List Value) (h : am_H) : am_f d scr L call 125 (n + 1) 82 lv st h = (match am_ld lv 2 with
    | some (.int x) => am_f d scr L call 125 n 83 lv (.int x :: st) h
    | _ => none) := k_li (i := .iload_n 2) rfl rfl rfl rfl
theorem s_125_83 (d L n : Nat) (scr : Nat → Int32) (call : Nat → List Value → am_H → Option am_X) (lv : am_L) (st : List Value) (h : am_H) : am_f d scr L call 125 (n + 1) 83 lv st h = am_f d scr L call 125 n 87 lv st h := k_nx (i := .goto 4) rfl rfl
theorem s_125_86 (d L n : Nat) (scr : Nat → Int32) (call : Nat → List Value → am_H → Option am_X) (lv : am_L) (st : List Value) (h : am_H) : am_f d scr L call 125 (n + 1) 86 lv st h = am_f d scr L call 125 n 87 lv (.int 0 :: st) h := k_nx (i := .iconst 0) rfl rfl
theorem s_125_87 (d L n : Nat) (scr : Nat → Int32) (call : Nat → List Value → am_H → Option am_X) (lv : am_L) (h : am_H) (x : Int32) : am_f d scr L call 125 (n + 1) 87 lv [.int x] h = some (some (.int x), h, 0, 0) := k_ir rfl rfl
-- 126: BlameDeskModel.aimB(II)I
theorem s_126_0 (d L n : Nat) (scr : Nat → Int32) (call : Nat → List Value → am_H → Option am_X) (lv : am_L) (st : List Value) (h : am_H) : am_f d scr L call 126 (n + 1) 0 lv st h = (match am_ld lv 0 with
    | some (.ref x) => am_f d scr L call 126 n 1 lv (.ref x :: st) h
    | _ => none) := k_la (i := .aload_n 0) rfl rfl rfl rfl
theorem s_126_1 (d L n : Nat) (scr : Nat → Int32) (call : Nat → List Value → am_H → Option am_X) (lv : am_L) (st : List Value) (h : am_H) (a : Nat) : am_f d scr L call 126 (n + 1) 1 lv (.ref a :: st) h = (match am_get h a 8 9 with
    | some v => am_f d scr L call 126 n 4 lv (v :: st) h
    | none => none) := k_gf (k := 23) rfl rfl
theorem s_126_4 (d L n : Nat) (scr : Nat → Int32) (call : Nat → List Value → am_H → Option am_X) (lv : am_L) (st : List Value) (h : am_H) : am_f d scr L call 126 (n + 1) 4 lv st h = (match am_ld lv 1 with
    | some (.int x) => am_f d scr L call 126 n 5 lv (.int x :: st) h
    | _ => none) := k_li (i := .iload_n 1) rfl rfl rfl rfl
theorem s_126_5 (d L n : Nat) (scr : Nat → Int32) (call : Nat → List Value → am_H → Option am_X) (lv : am_L) (st : List Value) (h : am_H) (a : Nat) (i : Int32) : am_f d scr L call 126 (n + 1) 5 lv (.int i :: .ref a :: st) h = (match am_ild scr L h a i with
    | some x => am_f d scr L call 126 n 6 lv (.int x :: st) h
    | none => none) := k_ia rfl
theorem s_126_6 (d L n : Nat) (scr : Nat → Int32) (call : Nat → List Value → am_H → Option am_X) (lv : am_L) (st : List Value) (h : am_H) (x : Int32) : am_f d scr L call 126 (n + 1) 6 lv (.int x :: st) h = am_f d scr L call 126 n 7 (am_st1 lv 3 (.int x)) st h := k_nx (i := .istore_n 3) rfl rfl
theorem s_126_7 (d L n : Nat) (scr : Nat → Int32) (call : Nat → List Value → am_H → Option am_X) (lv : am_L) (st : List Value) (h : am_H) : am_f d scr L call 126 (n + 1) 7 lv st h = (match am_ld lv 3 with
    | some (.int x) => am_f d scr L call 126 n 8 lv (.int x :: st) h
    | _ => none) := k_li (i := .iload_n 3) rfl rfl rfl rfl
theorem s_126_8 (d L n : Nat) (scr : Nat → Int32) (call : Nat → List Value → am_H → Option am_X) (lv : am_L) (st : List Value) (h : am_H) : am_f d scr L call 126 (n + 1) 8 lv st h = am_f d scr L call 126 n 9 lv (.int 4 :: st) h := k_nx (i := .iconst 4) rfl rfl
theorem s_126_9 (d L n : Nat) (scr : Nat → Int32) (call : Nat → List Value → am_H → Option am_X) (lv : am_L) (st : List Value) (h : am_H) (x y : Int32) : am_f d scr L call 126 (n + 1) 9 lv (.int y :: .int x :: st) h = if x = y then am_f d scr L call 126 n 17 lv st h else am_f d scr L call 126 n 12 lv st h := k_ic_eq (o := 8) rfl ⟨by decide, rfl⟩
theorem s_126_12 (d L n : Nat) (scr : Nat → Int32) (call : Nat → List Value → am_H → Option am_X) (lv : am_L) (st : List Value) (h : am_H) : am_f d scr L call 126 (n + 1) 12 lv st h = (match am_ld lv 3 with
    | some (.int x) => am_f d scr L call 126 n 13 lv (.int x :: st) h
    | _ => none) := k_li (i := .iload_n 3) rfl rfl rfl rfl
theorem s_126_13 (d L n : Nat) (scr : Nat → Int32) (call : Nat → List Value → am_H → Option am_X) (lv : am_L) (st : List Value) (h : am_H) : am_f d scr L call 126 (n + 1) 13 lv st h = am_f d scr L call 126 n 14 lv (.int 5 :: st) h := k_nx (i := .iconst 5) rfl rfl
theorem s_126_14 (d L n : Nat) (scr : Nat → Int32) (call : Nat → List Value → am_H → Option am_X) (lv : am_L) (st : List Value) (h : am_H) (x y : Int32) : am_f d scr L call 126 (n + 1) 14 lv (.int y :: .int x :: st) h = if ¬ x = y then am_f d scr L call 126 n 35 lv st h else am_f d scr L call 126 n 17 lv st h := k_ic_ne (o := 21) rfl ⟨by decide, rfl⟩
theorem s_126_17 (d L n : Nat) (scr : Nat → Int32) (call : Nat → List Value → am_H → Option am_X) (lv : am_L) (st : List Value) (h : am_H) : am_f d scr L call 126 (n + 1) 17 lv st h = (match am_ld lv 2 with
    | some (.int x) => am_f d scr L call 126 n 18 lv (.int x :: st) h
    | _ => none) := k_li (i := .iload_n 2) rfl rfl rfl rfl
theorem s_126_18 (d L n : Nat) (scr : Nat → Int32) (call : Nat → List Value → am_H → Option am_X) (lv : am_L) (st : List Value) (h : am_H) : am_f d scr L call 126 (n + 1) 18 lv st h = am_f d scr L call 126 n 19 lv (.int 2 :: st) h := k_nx (i := .iconst 2) rfl rfl
theorem s_126_19 (d L n : Nat) (scr : Nat → Int32) (call : Nat → List Value → am_H → Option am_X) (lv : am_L) (st : List Value) (h : am_H) (x y : Int32) : am_f d scr L call 126 (n + 1) 19 lv (.int y :: .int x :: st) h = if ¬ x = y then am_f d scr L call 126 n 26 lv st h else am_f d scr L call 126 n 22 lv st h := k_ic_ne (o := 7) rfl ⟨by decide, rfl⟩
theorem s_126_22 (d L n : Nat) (scr : Nat → Int32) (call : Nat → List Value → am_H → Option am_X) (lv : am_L) (st : List Value) (h : am_H) : am_f d scr L call 126 (n + 1) 22 lv st h = am_f d scr L call 126 n 23 lv (.int 2 :: st) h := k_nx (i := .iconst 2) rfl rfl
theorem s_126_23 (d L n : Nat) (scr : Nat → Int32) (call : Nat → List Value → am_H → Option am_X) (lv : am_L) (st : List Value) (h : am_H) : am_f d scr L call 126 (n + 1) 23 lv st h = am_f d scr L call 126 n 36 lv st h := k_nx (i := .goto 13) rfl rfl
theorem s_126_26 (d L n : Nat) (scr : Nat → Int32) (call : Nat → List Value → am_H → Option am_X) (lv : am_L) (st : List Value) (h : am_H) : am_f d scr L call 126 (n + 1) 26 lv st h = (match am_ld lv 0 with
    | some (.ref x) => am_f d scr L call 126 n 27 lv (.ref x :: st) h
    | _ => none) := k_la (i := .aload_n 0) rfl rfl rfl rfl
theorem s_126_27 (d L n : Nat) (scr : Nat → Int32) (call : Nat → List Value → am_H → Option am_X) (lv : am_L) (st : List Value) (h : am_H) (a : Nat) : am_f d scr L call 126 (n + 1) 27 lv (.ref a :: st) h = (match am_get h a 8 4 with
    | some v => am_f d scr L call 126 n 30 lv (v :: st) h
    | none => none) := k_gf (k := 17) rfl rfl
theorem s_126_30 (d L n : Nat) (scr : Nat → Int32) (call : Nat → List Value → am_H → Option am_X) (lv : am_L) (st : List Value) (h : am_H) : am_f d scr L call 126 (n + 1) 30 lv st h = (match am_ld lv 2 with
    | some (.int x) => am_f d scr L call 126 n 31 lv (.int x :: st) h
    | _ => none) := k_li (i := .iload_n 2) rfl rfl rfl rfl
theorem s_126_31 (d L n : Nat) (scr : Nat → Int32) (call : Nat → List Value → am_H → Option am_X) (lv : am_L) (st : List Value) (h : am_H) (a : Nat) (i : Int32) : am_f d scr L call 126 (n + 1) 31 lv (.int i :: .ref a :: st) h = (match am_ild scr L h a i with
    | some x => am_f d scr L call 126 n 32 lv (.int x :: st) h
    | none => none) := k_ia rfl
theorem s_126_32 (d L n : Nat) (scr : Nat → Int32) (call : Nat → List Value → am_H → Option am_X) (lv : am_L) (st : List Value) (h : am_H) : am_f d scr L call 126 (n + 1) 32 lv st h = am_f d scr L call 126 n 36 lv st h := k_nx (i := .goto 4) rfl rfl
theorem s_126_35 (d L n : Nat) (scr : Nat → Int32) (call : Nat → List Value → am_H → Option am_X) (lv : am_L) (st : List Value) (h : am_H) : am_f d scr L call 126 (n + 1) 35 lv st h = am_f d scr L call 126 n 36 lv (.int 0 :: st) h := k_nx (i := .iconst 0) rfl rfl
theorem s_126_36 (d L n : Nat) (scr : Nat → Int32) (call : Nat → List Value → am_H → Option am_X) (lv : am_L) (h : am_H) (x : Int32) : am_f d scr L call 126 (n + 1) 36 lv [.int x] h = some (some (.int x), h, 0, 0) := k_ir rfl rfl
-- 127: BlameDeskModel.first(II)V
theorem s_127_0 (d L n : Nat) (scr : Nat → Int32) (call : Nat → List Value → am_H → Option am_X) (lv : am_L) (st : List Value) (h : am_H) : am_f d scr L call 127 (n + 1) 0 lv st h = (match am_ld lv 0 with
    | some (.ref x) => am_f d scr L call 127 n 1 lv (.ref x :: st) h
    | _ => none) := k_la (i := .aload_n 0) rfl rfl rfl rfl
theorem s_127_1 (d L n : Nat) (scr : Nat → Int32) (call : Nat → List Value → am_H → Option am_X) (lv : am_L) (st : List Value) (h : am_H) (a : Nat) : am_f d scr L call 127 (n + 1) 1 lv (.ref a :: st) h = (match am_get h a 8 9 with
    | some v => am_f d scr L call 127 n 4 lv (v :: st) h
    | none => none) := k_gf (k := 23) rfl rfl
theorem s_127_4 (d L n : Nat) (scr : Nat → Int32) (call : Nat → List Value → am_H → Option am_X) (lv : am_L) (st : List Value) (h : am_H) : am_f d scr L call 127 (n + 1) 4 lv st h = (match am_ld lv 1 with
    | some (.int x) => am_f d scr L call 127 n 5 lv (.int x :: st) h
    | _ => none) := k_li (i := .iload_n 1) rfl rfl rfl rfl
theorem s_127_5 (d L n : Nat) (scr : Nat → Int32) (call : Nat → List Value → am_H → Option am_X) (lv : am_L) (st : List Value) (h : am_H) (a : Nat) (i : Int32) : am_f d scr L call 127 (n + 1) 5 lv (.int i :: .ref a :: st) h = (match am_ild scr L h a i with
    | some x => am_f d scr L call 127 n 6 lv (.int x :: st) h
    | none => none) := k_ia rfl
theorem s_127_6 (d L n : Nat) (scr : Nat → Int32) (call : Nat → List Value → am_H → Option am_X) (lv : am_L) (st : List Value) (h : am_H) (x : Int32) : am_f d scr L call 127 (n + 1) 6 lv (.int x :: st) h = am_f d scr L call 127 n 7 (am_st1 lv 3 (.int x)) st h := k_nx (i := .istore_n 3) rfl rfl
theorem s_127_7 (d L n : Nat) (scr : Nat → Int32) (call : Nat → List Value → am_H → Option am_X) (lv : am_L) (st : List Value) (h : am_H) : am_f d scr L call 127 (n + 1) 7 lv st h = (match am_ld lv 0 with
    | some (.ref x) => am_f d scr L call 127 n 8 lv (.ref x :: st) h
    | _ => none) := k_la (i := .aload_n 0) rfl rfl rfl rfl
theorem s_127_8 (d L n : Nat) (scr : Nat → Int32) (call : Nat → List Value → am_H → Option am_X) (lv : am_L) (st : List Value) (h : am_H) (a : Nat) : am_f d scr L call 127 (n + 1) 8 lv (.ref a :: st) h = (match am_get h a 8 61 with
    | some v => am_f d scr L call 127 n 11 lv (v :: st) h
    | none => none) := k_gf (k := 117) rfl rfl
theorem s_127_11 (d L n : Nat) (scr : Nat → Int32) (call : Nat → List Value → am_H → Option am_X) (lv : am_L) (st : List Value) (h : am_H) : am_f d scr L call 127 (n + 1) 11 lv st h = (match am_ld lv 0 with
    | some (.ref x) => am_f d scr L call 127 n 12 lv (.ref x :: st) h
    | _ => none) := k_la (i := .aload_n 0) rfl rfl rfl rfl
theorem s_127_12 (d L n : Nat) (scr : Nat → Int32) (call : Nat → List Value → am_H → Option am_X) (lv : am_L) (st : List Value) (h : am_H) (a : Nat) : am_f d scr L call 127 (n + 1) 12 lv (.ref a :: st) h = (match am_get h a 8 14 with
    | some v => am_f d scr L call 127 n 15 lv (v :: st) h
    | none => none) := k_gf (k := 38) rfl rfl
theorem s_127_15 (d L n : Nat) (scr : Nat → Int32) (call : Nat → List Value → am_H → Option am_X) (lv : am_L) (st : List Value) (h : am_H) : am_f d scr L call 127 (n + 1) 15 lv st h = (match am_ld lv 1 with
    | some (.int x) => am_f d scr L call 127 n 16 lv (.int x :: st) h
    | _ => none) := k_li (i := .iload_n 1) rfl rfl rfl rfl
theorem s_127_16 (d L n : Nat) (scr : Nat → Int32) (call : Nat → List Value → am_H → Option am_X) (lv : am_L) (st : List Value) (h : am_H) (a : Nat) (i : Int32) : am_f d scr L call 127 (n + 1) 16 lv (.int i :: .ref a :: st) h = (match am_ild scr L h a i with
    | some x => am_f d scr L call 127 n 17 lv (.int x :: st) h
    | none => none) := k_ia rfl
theorem s_127_17 (d L n : Nat) (scr : Nat → Int32) (call : Nat → List Value → am_H → Option am_X) (lv : am_L) (st : List Value) (h : am_H) (a : Nat) (i : Int32) : am_f d scr L call 127 (n + 1) 17 lv (.int i :: .ref a :: st) h = (match am_ild scr L h a i with
    | some x => am_f d scr L call 127 n 18 lv (.int x :: st) h
    | none => none) := k_ia rfl
theorem s_127_18 (d L n : Nat) (scr : Nat → Int32) (call : Nat → List Value → am_H → Option am_X) (lv : am_L) (st : List Value) (h : am_H) (x : Int32) : am_f d scr L call 127 (n + 1) 18 lv (.int x :: st) h = am_f d scr L call 127 n 20 (am_st1 lv 4 (.int x)) st h := k_nx (i := .istore 4) rfl rfl
theorem s_127_20 (d L n : Nat) (scr : Nat → Int32) (call : Nat → List Value → am_H → Option am_X) (lv : am_L) (st : List Value) (h : am_H) : am_f d scr L call 127 (n + 1) 20 lv st h = (match am_ld lv 0 with
    | some (.ref x) => am_f d scr L call 127 n 21 lv (.ref x :: st) h
    | _ => none) := k_la (i := .aload_n 0) rfl rfl rfl rfl
theorem s_127_21 (d L n : Nat) (scr : Nat → Int32) (call : Nat → List Value → am_H → Option am_X) (lv : am_L) (st : List Value) (h : am_H) : am_f d scr L call 127 (n + 1) 21 lv st h = (match am_ld lv 0 with
    | some (.ref x) => am_f d scr L call 127 n 22 lv (.ref x :: st) h
    | _ => none) := k_la (i := .aload_n 0) rfl rfl rfl rfl
theorem s_127_22 (d L n : Nat) (scr : Nat → Int32) (call : Nat → List Value → am_H → Option am_X) (lv : am_L) (st : List Value) (h : am_H) (a : Nat) : am_f d scr L call 127 (n + 1) 22 lv (.ref a :: st) h = (match am_get h a 8 60 with
    | some v => am_f d scr L call 127 n 25 lv (v :: st) h
    | none => none) := k_gf (k := 263) rfl rfl
theorem s_127_25 (d L n : Nat) (scr : Nat → Int32) (call : Nat → List Value → am_H → Option am_X) (lv : am_L) (st : List Value) (h : am_H) : am_f d scr L call 127 (n + 1) 25 lv st h = (match am_ld lv 4 with
    | some (.int x) => am_f d scr L call 127 n 27 lv (.int x :: st) h
    | _ => none) := k_li (i := .iload 4) rfl rfl rfl rfl
theorem s_127_27 (d L n : Nat) (scr : Nat → Int32) (call : Nat → List Value → am_H → Option am_X) (lv : am_L) (st : List Value) (h : am_H) : am_f d scr L call 127 (n + 1) 27 lv st h = (match am_ld lv 0 with
    | some (.ref x) => am_f d scr L call 127 n 28 lv (.ref x :: st) h
    | _ => none) := k_la (i := .aload_n 0) rfl rfl rfl rfl
theorem s_127_28 (d L n : Nat) (scr : Nat → Int32) (call : Nat → List Value → am_H → Option am_X) (lv : am_L) (st : List Value) (h : am_H) : am_f d scr L call 127 (n + 1) 28 lv st h = (match am_ld lv 1 with
    | some (.int x) => am_f d scr L call 127 n 29 lv (.int x :: st) h
    | _ => none) := k_li (i := .iload_n 1) rfl rfl rfl rfl
theorem s_127_29 (d L n : Nat) (scr : Nat → Int32) (call : Nat → List Value → am_H → Option am_X) (lv : am_L) (st : List Value) (h : am_H) : am_f d scr L call 127 (n + 1) 29 lv st h = (match am_ld lv 4 with
    | some (.int x) => am_f d scr L call 127 n 31 lv (.int x :: st) h
    | _ => none) := k_li (i := .iload 4) rfl rfl rfl rfl
theorem s_127_31 (d L n : Nat) (scr : Nat → Int32) (call : Nat → List Value → am_H → Option am_X) (lv : am_L) (h : am_H) (o : Nat) (a0 : Int32) (a1 : Int32) (r0 : Int32) (r1 : Int32) (r2 : Nat) : am_f d scr L call 127 (n + 1) 31 lv (.int a1 :: .int a0 :: .ref o :: .int r0 :: .int r1 :: .ref r2 :: []) h = if am_at h o 8 = true then (match call 125 [.ref o, .int a0, .int a1] h with
    | some (v, h', dk, dn) => am_add dk dn (am_f d scr L call 127 n 34 lv (v.toList ++ [.int r0, .int r1, .ref r2]) h')
    | none => none) else none := k_iv0 (k := 276) (as := [.int a0, .int a1]) (r := [.int r0, .int r1, .ref r2]) rfl rfl rfl rfl (Nat.le_of_ble_eq_true rfl)
theorem s_127_34 (d L n : Nat) (scr : Nat → Int32) (call : Nat → List Value → am_H → Option am_X) (lv : am_L) (st : List Value) (h : am_H) : am_f d scr L call 127 (n + 1) 34 lv st h = (match am_ld lv 0 with
    | some (.ref x) => am_f d scr L call 127 n 35 lv (.ref x :: st) h
    | _ => none) := k_la (i := .aload_n 0) rfl rfl rfl rfl
theorem s_127_35 (d L n : Nat) (scr : Nat → Int32) (call : Nat → List Value → am_H → Option am_X) (lv : am_L) (st : List Value) (h : am_H) : am_f d scr L call 127 (n + 1) 35 lv st h = (match am_ld lv 1 with
    | some (.int x) => am_f d scr L call 127 n 36 lv (.int x :: st) h
    | _ => none) := k_li (i := .iload_n 1) rfl rfl rfl rfl
theorem s_127_36 (d L n : Nat) (scr : Nat → Int32) (call : Nat → List Value → am_H → Option am_X) (lv : am_L) (h : am_H) (o : Nat) (a0 : Int32) (r0 : Int32) (r1 : Int32) (r2 : Int32) (r3 : Nat) : am_f d scr L call 127 (n + 1) 36 lv (.int a0 :: .ref o :: .int r0 :: .int r1 :: .int r2 :: .ref r3 :: []) h = if am_at h o 8 = true then (match call 124 [.ref o, .int a0] h with
    | some (v, h', dk, dn) => am_add dk dn (am_f d scr L call 127 n 39 lv (v.toList ++ [.int r0, .int r1, .int r2, .ref r3]) h')
    | none => none) else none := k_iv0 (k := 279) (as := [.int a0]) (r := [.int r0, .int r1, .int r2, .ref r3]) rfl rfl rfl rfl (Nat.le_of_ble_eq_true rfl)
theorem s_127_39 (d L n : Nat) (scr : Nat → Int32) (call : Nat → List Value → am_H → Option am_X) (lv : am_L) (h : am_H) (o : Nat) (a0 : Int32) (a1 : Int32) (a2 : Int32) (a3 : Int32)  : am_f d scr L call 127 (n + 1) 39 lv (.int a3 :: .int a2 :: .int a1 :: .int a0 :: .ref o :: []) h = if am_at h o 8 = true then (match call 114 [.ref o, .int a0, .int a1, .int a2, .int a3] h with
    | some (v, h', dk, dn) => am_add dk dn (am_f d scr L call 127 n 42 lv (v.toList ++ []) h')
    | none => none) else none := k_iv0 (k := 241) (as := [.int a0, .int a1, .int a2, .int a3]) (r := []) rfl rfl rfl rfl (Nat.le_of_ble_eq_true rfl)
theorem s_127_42 (d L n : Nat) (scr : Nat → Int32) (call : Nat → List Value → am_H → Option am_X) (lv : am_L) (st : List Value) (h : am_H) (x : Int32) : am_f d scr L call 127 (n + 1) 42 lv (.int x :: st) h = am_f d scr L call 127 n 44 (am_st1 lv 5 (.int x)) st h := k_nx (i := .istore 5) rfl rfl
theorem s_127_44 (d L n : Nat) (scr : Nat → Int32) (call : Nat → List Value → am_H → Option am_X) (lv : am_L) (st : List Value) (h : am_H) : am_f d scr L call 127 (n + 1) 44 lv st h = (match am_ld lv 0 with
    | some (.ref x) => am_f d scr L call 127 n 45 lv (.ref x :: st) h
    | _ => none) := k_la (i := .aload_n 0) rfl rfl rfl rfl
theorem s_127_45 (d L n : Nat) (scr : Nat → Int32) (call : Nat → List Value → am_H → Option am_X) (lv : am_L) (st : List Value) (h : am_H) (a : Nat) : am_f d scr L call 127 (n + 1) 45 lv (.ref a :: st) h = (match am_get h a 8 51 with
    | some v => am_f d scr L call 127 n 48 lv (v :: st) h
    | none => none) := k_gf (k := 216) rfl rfl
theorem s_127_48 (d L n : Nat) (scr : Nat → Int32) (call : Nat → List Value → am_H → Option am_X) (lv : am_L) (st : List Value) (h : am_H) (x : Int32) : am_f d scr L call 127 (n + 1) 48 lv (.int x :: st) h = if x = 0 then am_f d scr L call 127 n 52 lv st h else am_f d scr L call 127 n 51 lv st h := k_if_eq (o := 4) rfl ⟨by decide, rfl⟩
theorem s_127_51 (d L n : Nat) (scr : Nat → Int32) (call : Nat → List Value → am_H → Option am_X) (lv : am_L) (h : am_H) : am_f d scr L call 127 (n + 1) 51 lv [] h = some (none, h, 0, 0) := k_vr rfl rfl
theorem s_127_52 (d L n : Nat) (scr : Nat → Int32) (call : Nat → List Value → am_H → Option am_X) (lv : am_L) (st : List Value) (h : am_H) : am_f d scr L call 127 (n + 1) 52 lv st h = (match am_ld lv 3 with
    | some (.int x) => am_f d scr L call 127 n 53 lv (.int x :: st) h
    | _ => none) := k_li (i := .iload_n 3) rfl rfl rfl rfl
theorem s_127_53 (d L n : Nat) (scr : Nat → Int32) (call : Nat → List Value → am_H → Option am_X) (lv : am_L) (st : List Value) (h : am_H) : am_f d scr L call 127 (n + 1) 53 lv st h = am_f d scr L call 127 n 55 lv (.int 8 :: st) h := k_nx (i := .bipush 8) rfl rfl
theorem s_127_55 (d L n : Nat) (scr : Nat → Int32) (call : Nat → List Value → am_H → Option am_X) (lv : am_L) (st : List Value) (h : am_H) (x y : Int32) : am_f d scr L call 127 (n + 1) 55 lv (.int y :: .int x :: st) h = if y < x then am_f d scr L call 127 n 85 lv st h else am_f d scr L call 127 n 58 lv st h := k_ic_gt (o := 30) rfl ⟨by decide, rfl⟩
theorem s_127_58 (d L n : Nat) (scr : Nat → Int32) (call : Nat → List Value → am_H → Option am_X) (lv : am_L) (st : List Value) (h : am_H) : am_f d scr L call 127 (n + 1) 58 lv st h = (match am_ld lv 0 with
    | some (.ref x) => am_f d scr L call 127 n 59 lv (.ref x :: st) h
    | _ => none) := k_la (i := .aload_n 0) rfl rfl rfl rfl
theorem s_127_59 (d L n : Nat) (scr : Nat → Int32) (call : Nat → List Value → am_H → Option am_X) (lv : am_L) (st : List Value) (h : am_H) : am_f d scr L call 127 (n + 1) 59 lv st h = (match am_ld lv 1 with
    | some (.int x) => am_f d scr L call 127 n 60 lv (.int x :: st) h
    | _ => none) := k_li (i := .iload_n 1) rfl rfl rfl rfl
theorem s_127_60 (d L n : Nat) (scr : Nat → Int32) (call : Nat → List Value → am_H → Option am_X) (lv : am_L) (st : List Value) (h : am_H) : am_f d scr L call 127 (n + 1) 60 lv st h = am_f d scr L call 127 n 61 lv (.int 2 :: st) h := k_nx (i := .iconst 2) rfl rfl
theorem s_127_61 (d L n : Nat) (scr : Nat → Int32) (call : Nat → List Value → am_H → Option am_X) (lv : am_L) (st : List Value) (h : am_H) : am_f d scr L call 127 (n + 1) 61 lv st h = (match am_ld lv 2 with
    | some (.int x) => am_f d scr L call 127 n 62 lv (.int x :: st) h
    | _ => none) := k_li (i := .iload_n 2) rfl rfl rfl rfl
theorem s_127_62 (d L n : Nat) (scr : Nat → Int32) (call : Nat → List Value → am_H → Option am_X) (lv : am_L) (st : List Value) (h : am_H) : am_f d scr L call 127 (n + 1) 62 lv st h = (match am_ld lv 5 with
    | some (.int x) => am_f d scr L call 127 n 64 lv (.int x :: st) h
    | _ => none) := k_li (i := .iload 5) rfl rfl rfl rfl
theorem s_127_64 (d L n : Nat) (scr : Nat → Int32) (call : Nat → List Value → am_H → Option am_X) (lv : am_L) (h : am_H) (o : Nat) (a0 : Int32) (a1 : Int32) (a2 : Int32) (a3 : Int32)  : am_f d scr L call 127 (n + 1) 64 lv (.int a3 :: .int a2 :: .int a1 :: .int a0 :: .ref o :: []) h = if am_at h o 8 = true then (match call 121 [.ref o, .int a0, .int a1, .int a2, .int a3] h with
    | some (v, h', dk, dn) => am_add dk dn (am_f d scr L call 127 n 67 lv (v.toList ++ []) h')
    | none => none) else none := k_iv0 (k := 272) (as := [.int a0, .int a1, .int a2, .int a3]) (r := []) rfl rfl rfl rfl (Nat.le_of_ble_eq_true rfl)
theorem s_127_67 (d L n : Nat) (scr : Nat → Int32) (call : Nat → List Value → am_H → Option am_X) (lv : am_L) (st : List Value) (h : am_H) : am_f d scr L call 127 (n + 1) 67 lv st h = (match am_ld lv 0 with
    | some (.ref x) => am_f d scr L call 127 n 68 lv (.ref x :: st) h
    | _ => none) := k_la (i := .aload_n 0) rfl rfl rfl rfl
theorem s_127_68 (d L n : Nat) (scr : Nat → Int32) (call : Nat → List Value → am_H → Option am_X) (lv : am_L) (st : List Value) (h : am_H) : am_f d scr L call 127 (n + 1) 68 lv st h = (match am_ld lv 0 with
    | some (.ref x) => am_f d scr L call 127 n 69 lv (.ref x :: st) h
    | _ => none) := k_la (i := .aload_n 0) rfl rfl rfl rfl
theorem s_127_69 (d L n : Nat) (scr : Nat → Int32) (call : Nat → List Value → am_H → Option am_X) (lv : am_L) (st : List Value) (h : am_H) (a : Nat) : am_f d scr L call 127 (n + 1) 69 lv (.ref a :: st) h = (match am_get h a 8 15 with
    | some v => am_f d scr L call 127 n 72 lv (v :: st) h
    | none => none) := k_gf (k := 41) rfl rfl
theorem s_127_72 (d L n : Nat) (scr : Nat → Int32) (call : Nat → List Value → am_H → Option am_X) (lv : am_L) (st : List Value) (h : am_H) : am_f d scr L call 127 (n + 1) 72 lv st h = (match am_ld lv 1 with
    | some (.int x) => am_f d scr L call 127 n 73 lv (.int x :: st) h
    | _ => none) := k_li (i := .iload_n 1) rfl rfl rfl rfl
theorem s_127_73 (d L n : Nat) (scr : Nat → Int32) (call : Nat → List Value → am_H → Option am_X) (lv : am_L) (st : List Value) (h : am_H) (a : Nat) (i : Int32) : am_f d scr L call 127 (n + 1) 73 lv (.int i :: .ref a :: st) h = (match am_ild scr L h a i with
    | some x => am_f d scr L call 127 n 74 lv (.int x :: st) h
    | none => none) := k_ia rfl
theorem s_127_74 (d L n : Nat) (scr : Nat → Int32) (call : Nat → List Value → am_H → Option am_X) (lv : am_L) (st : List Value) (h : am_H) (x : Int32) (a : Nat) : am_f d scr L call 127 (n + 1) 74 lv (.int x :: .ref a :: st) h = (match am_put h a 8 58 (.int x) with
    | some h' => am_f d scr L call 127 n 77 lv st h'
    | none => none) := k_pf (k := 260) rfl rfl rfl
theorem s_127_77 (d L n : Nat) (scr : Nat → Int32) (call : Nat → List Value → am_H → Option am_X) (lv : am_L) (st : List Value) (h : am_H) : am_f d scr L call 127 (n + 1) 77 lv st h = (match am_ld lv 0 with
    | some (.ref x) => am_f d scr L call 127 n 78 lv (.ref x :: st) h
    | _ => none) := k_la (i := .aload_n 0) rfl rfl rfl rfl
theorem s_127_78 (d L n : Nat) (scr : Nat → Int32) (call : Nat → List Value → am_H → Option am_X) (lv : am_L) (st : List Value) (h : am_H) : am_f d scr L call 127 (n + 1) 78 lv st h = (match am_ld lv 2 with
    | some (.int x) => am_f d scr L call 127 n 79 lv (.int x :: st) h
    | _ => none) := k_li (i := .iload_n 2) rfl rfl rfl rfl
theorem s_127_79 (d L n : Nat) (scr : Nat → Int32) (call : Nat → List Value → am_H → Option am_X) (lv : am_L) (st : List Value) (h : am_H) (x : Int32) (a : Nat) : am_f d scr L call 127 (n + 1) 79 lv (.int x :: .ref a :: st) h = (match am_put h a 8 59 (.int x) with
    | some h' => am_f d scr L call 127 n 82 lv st h'
    | none => none) := k_pf (k := 269) rfl rfl rfl
theorem s_127_82 (d L n : Nat) (scr : Nat → Int32) (call : Nat → List Value → am_H → Option am_X) (lv : am_L) (st : List Value) (h : am_H) : am_f d scr L call 127 (n + 1) 82 lv st h = am_f d scr L call 127 n 292 lv st h := k_nx (i := .goto 210) rfl rfl
theorem s_127_85 (d L n : Nat) (scr : Nat → Int32) (call : Nat → List Value → am_H → Option am_X) (lv : am_L) (st : List Value) (h : am_H) : am_f d scr L call 127 (n + 1) 85 lv st h = (match am_ld lv 3 with
    | some (.int x) => am_f d scr L call 127 n 86 lv (.int x :: st) h
    | _ => none) := k_li (i := .iload_n 3) rfl rfl rfl rfl
theorem s_127_86 (d L n : Nat) (scr : Nat → Int32) (call : Nat → List Value → am_H → Option am_X) (lv : am_L) (st : List Value) (h : am_H) : am_f d scr L call 127 (n + 1) 86 lv st h = am_f d scr L call 127 n 88 lv (.int 9 :: st) h := k_nx (i := .bipush 9) rfl rfl
theorem s_127_88 (d L n : Nat) (scr : Nat → Int32) (call : Nat → List Value → am_H → Option am_X) (lv : am_L) (st : List Value) (h : am_H) (x y : Int32) : am_f d scr L call 127 (n + 1) 88 lv (.int y :: .int x :: st) h = if ¬ x = y then am_f d scr L call 127 n 154 lv st h else am_f d scr L call 127 n 91 lv st h := k_ic_ne (o := 66) rfl ⟨by decide, rfl⟩
theorem s_127_91 (d L n : Nat) (scr : Nat → Int32) (call : Nat → List Value → am_H → Option am_X) (lv : am_L) (st : List Value) (h : am_H) : am_f d scr L call 127 (n + 1) 91 lv st h = (match am_ld lv 0 with
    | some (.ref x) => am_f d scr L call 127 n 92 lv (.ref x :: st) h
    | _ => none) := k_la (i := .aload_n 0) rfl rfl rfl rfl
theorem s_127_92 (d L n : Nat) (scr : Nat → Int32) (call : Nat → List Value → am_H → Option am_X) (lv : am_L) (st : List Value) (h : am_H) (a : Nat) : am_f d scr L call 127 (n + 1) 92 lv (.ref a :: st) h = (match am_get h a 8 33 with
    | some v => am_f d scr L call 127 n 95 lv (v :: st) h
    | none => none) := k_gf (k := 72) rfl rfl
theorem s_127_95 (d L n : Nat) (scr : Nat → Int32) (call : Nat → List Value → am_H → Option am_X) (lv : am_L) (st : List Value) (h : am_H) : am_f d scr L call 127 (n + 1) 95 lv st h = (match am_ld lv 5 with
    | some (.int x) => am_f d scr L call 127 n 97 lv (.int x :: st) h
    | _ => none) := k_li (i := .iload 5) rfl rfl rfl rfl
theorem s_127_97 (d L n : Nat) (scr : Nat → Int32) (call : Nat → List Value → am_H → Option am_X) (lv : am_L) (st : List Value) (h : am_H) (a : Nat) (i : Int32) : am_f d scr L call 127 (n + 1) 97 lv (.int i :: .ref a :: st) h = (match am_ild scr L h a i with
    | some x => am_f d scr L call 127 n 98 lv (.int x :: st) h
    | none => none) := k_ia rfl
theorem s_127_98 (d L n : Nat) (scr : Nat → Int32) (call : Nat → List Value → am_H → Option am_X) (lv : am_L) (st : List Value) (h : am_H) : am_f d scr L call 127 (n + 1) 98 lv st h = am_f d scr L call 127 n 99 lv (.int 1 :: st) h := k_nx (i := .iconst 1) rfl rfl
theorem s_127_99 (d L n : Nat) (scr : Nat → Int32) (call : Nat → List Value → am_H → Option am_X) (lv : am_L) (st : List Value) (h : am_H) (x y : Int32) : am_f d scr L call 127 (n + 1) 99 lv (.int y :: .int x :: st) h = if ¬ x = y then am_f d scr L call 127 n 106 lv st h else am_f d scr L call 127 n 102 lv st h := k_ic_ne (o := 7) rfl ⟨by decide, rfl⟩
theorem s_127_102 (d L n : Nat) (scr : Nat → Int32) (call : Nat → List Value → am_H → Option am_X) (lv : am_L) (st : List Value) (h : am_H) : am_f d scr L call 127 (n + 1) 102 lv st h = am_f d scr L call 127 n 103 lv (.int 1 :: st) h := k_nx (i := .iconst 1) rfl rfl
theorem s_127_103 (d L n : Nat) (scr : Nat → Int32) (call : Nat → List Value → am_H → Option am_X) (lv : am_L) (st : List Value) (h : am_H) : am_f d scr L call 127 (n + 1) 103 lv st h = am_f d scr L call 127 n 107 lv st h := k_nx (i := .goto 4) rfl rfl
theorem s_127_106 (d L n : Nat) (scr : Nat → Int32) (call : Nat → List Value → am_H → Option am_X) (lv : am_L) (st : List Value) (h : am_H) : am_f d scr L call 127 (n + 1) 106 lv st h = am_f d scr L call 127 n 107 lv (.int 0 :: st) h := k_nx (i := .iconst 0) rfl rfl
theorem s_127_107 (d L n : Nat) (scr : Nat → Int32) (call : Nat → List Value → am_H → Option am_X) (lv : am_L) (st : List Value) (h : am_H) (x : Int32) : am_f d scr L call 127 (n + 1) 107 lv (.int x :: st) h = am_f d scr L call 127 n 109 (am_st1 lv 6 (.int x)) st h := k_nx (i := .istore 6) rfl rfl
theorem s_127_109 (d L n : Nat) (scr : Nat → Int32) (call : Nat → List Value → am_H → Option am_X) (lv : am_L) (st : List Value) (h : am_H) : am_f d scr L call 127 (n + 1) 109 lv st h = (match am_ld lv 6 with
    | some (.int x) => am_f d scr L call 127 n 111 lv (.int x :: st) h
    | _ => none) := k_li (i := .iload 6) rfl rfl rfl rfl
theorem s_127_111 (d L n : Nat) (scr : Nat → Int32) (call : Nat → List Value → am_H → Option am_X) (lv : am_L) (st : List Value) (h : am_H) (x : Int32) : am_f d scr L call 127 (n + 1) 111 lv (.int x :: st) h = if ¬ x = 0 then am_f d scr L call 127 n 122 lv st h else am_f d scr L call 127 n 114 lv st h := k_if_ne (o := 11) rfl ⟨by decide, rfl⟩
theorem s_127_114 (d L n : Nat) (scr : Nat → Int32) (call : Nat → List Value → am_H → Option am_X) (lv : am_L) (st : List Value) (h : am_H) : am_f d scr L call 127 (n + 1) 114 lv st h = (match am_ld lv 0 with
    | some (.ref x) => am_f d scr L call 127 n 115 lv (.ref x :: st) h
    | _ => none) := k_la (i := .aload_n 0) rfl rfl rfl rfl
theorem s_127_115 (d L n : Nat) (scr : Nat → Int32) (call : Nat → List Value → am_H → Option am_X) (lv : am_L) (st : List Value) (h : am_H) : am_f d scr L call 127 (n + 1) 115 lv st h = (match am_ld lv 1 with
    | some (.int x) => am_f d scr L call 127 n 116 lv (.int x :: st) h
    | _ => none) := k_li (i := .iload_n 1) rfl rfl rfl rfl
theorem s_127_116 (d L n : Nat) (scr : Nat → Int32) (call : Nat → List Value → am_H → Option am_X) (lv : am_L) (st : List Value) (h : am_H) : am_f d scr L call 127 (n + 1) 116 lv st h = am_f d scr L call 127 n 117 lv (.int 3 :: st) h := k_nx (i := .iconst 3) rfl rfl
theorem s_127_117 (d L n : Nat) (scr : Nat → Int32) (call : Nat → List Value → am_H → Option am_X) (lv : am_L) (st : List Value) (h : am_H) : am_f d scr L call 127 (n + 1) 117 lv st h = (match am_ld lv 2 with
    | some (.int x) => am_f d scr L call 127 n 118 lv (.int x :: st) h
    | _ => none) := k_li (i := .iload_n 2) rfl rfl rfl rfl
theorem s_127_118 (d L n : Nat) (scr : Nat → Int32) (call : Nat → List Value → am_H → Option am_X) (lv : am_L) (st : List Value) (h : am_H) : am_f d scr L call 127 (n + 1) 118 lv st h = am_f d scr L call 127 n 119 lv (.int 0 :: st) h := k_nx (i := .iconst 0) rfl rfl
theorem s_127_119 (d L n : Nat) (scr : Nat → Int32) (call : Nat → List Value → am_H → Option am_X) (lv : am_L) (h : am_H) (o : Nat) (a0 : Int32) (a1 : Int32) (a2 : Int32) (a3 : Int32)  : am_f d scr L call 127 (n + 1) 119 lv (.int a3 :: .int a2 :: .int a1 :: .int a0 :: .ref o :: []) h = if am_at h o 8 = true then (match call 121 [.ref o, .int a0, .int a1, .int a2, .int a3] h with
    | some (v, h', dk, dn) => am_add dk dn (am_f d scr L call 127 n 122 lv (v.toList ++ []) h')
    | none => none) else none := k_iv0 (k := 272) (as := [.int a0, .int a1, .int a2, .int a3]) (r := []) rfl rfl rfl rfl (Nat.le_of_ble_eq_true rfl)
theorem s_127_122 (d L n : Nat) (scr : Nat → Int32) (call : Nat → List Value → am_H → Option am_X) (lv : am_L) (st : List Value) (h : am_H) : am_f d scr L call 127 (n + 1) 122 lv st h = (match am_ld lv 0 with
    | some (.ref x) => am_f d scr L call 127 n 123 lv (.ref x :: st) h
    | _ => none) := k_la (i := .aload_n 0) rfl rfl rfl rfl
theorem s_127_123 (d L n : Nat) (scr : Nat → Int32) (call : Nat → List Value → am_H → Option am_X) (lv : am_L) (st : List Value) (h : am_H) : am_f d scr L call 127 (n + 1) 123 lv st h = (match am_ld lv 6 with
    | some (.int x) => am_f d scr L call 127 n 125 lv (.int x :: st) h
    | _ => none) := k_li (i := .iload 6) rfl rfl rfl rfl
theorem s_127_125 (d L n : Nat) (scr : Nat → Int32) (call : Nat → List Value → am_H → Option am_X) (lv : am_L) (st : List Value) (h : am_H) (x : Int32) : am_f d scr L call 127 (n + 1) 125 lv (.int x :: st) h = if x = 0 then am_f d scr L call 127 n 137 lv st h else am_f d scr L call 127 n 128 lv st h := k_if_eq (o := 12) rfl ⟨by decide, rfl⟩
theorem s_127_128 (d L n : Nat) (scr : Nat → Int32) (call : Nat → List Value → am_H → Option am_X) (lv : am_L) (st : List Value) (h : am_H) : am_f d scr L call 127 (n + 1) 128 lv st h = (match am_ld lv 0 with
    | some (.ref x) => am_f d scr L call 127 n 129 lv (.ref x :: st) h
    | _ => none) := k_la (i := .aload_n 0) rfl rfl rfl rfl
theorem s_127_129 (d L n : Nat) (scr : Nat → Int32) (call : Nat → List Value → am_H → Option am_X) (lv : am_L) (st : List Value) (h : am_H) (a : Nat) : am_f d scr L call 127 (n + 1) 129 lv (.ref a :: st) h = (match am_get h a 8 15 with
    | some v => am_f d scr L call 127 n 132 lv (v :: st) h
    | none => none) := k_gf (k := 41) rfl rfl
theorem s_127_132 (d L n : Nat) (scr : Nat → Int32) (call : Nat → List Value → am_H → Option am_X) (lv : am_L) (st : List Value) (h : am_H) : am_f d scr L call 127 (n + 1) 132 lv st h = (match am_ld lv 1 with
    | some (.int x) => am_f d scr L call 127 n 133 lv (.int x :: st) h
    | _ => none) := k_li (i := .iload_n 1) rfl rfl rfl rfl
theorem s_127_133 (d L n : Nat) (scr : Nat → Int32) (call : Nat → List Value → am_H → Option am_X) (lv : am_L) (st : List Value) (h : am_H) (a : Nat) (i : Int32) : am_f d scr L call 127 (n + 1) 133 lv (.int i :: .ref a :: st) h = (match am_ild scr L h a i with
    | some x => am_f d scr L call 127 n 134 lv (.int x :: st) h
    | none => none) := k_ia rfl
theorem s_127_134 (d L n : Nat) (scr : Nat → Int32) (call : Nat → List Value → am_H → Option am_X) (lv : am_L) (st : List Value) (h : am_H) : am_f d scr L call 127 (n + 1) 134 lv st h = am_f d scr L call 127 n 143 lv st h := k_nx (i := .goto 9) rfl rfl
theorem s_127_137 (d L n : Nat) (scr : Nat → Int32) (call : Nat → List Value → am_H → Option am_X) (lv : am_L) (st : List Value) (h : am_H) : am_f d scr L call 127 (n + 1) 137 lv st h = (match am_ld lv 0 with
    | some (.ref x) => am_f d scr L call 127 n 138 lv (.ref x :: st) h
    | _ => none) := k_la (i := .aload_n 0) rfl rfl rfl rfl
theorem s_127_138 (d L n : Nat) (scr : Nat → Int32) (call : Nat → List Value → am_H → Option am_X) (lv : am_L) (st : List Value) (h : am_H) (a : Nat) : am_f d scr L call 127 (n + 1) 138 lv (.ref a :: st) h = (match am_get h a 8 16 with
    | some v => am_f d scr L call 127 n 141 lv (v :: st) h
    | none => none) := k_gf (k := 44) rfl rfl
theorem s_127_141 (d L n : Nat) (scr : Nat → Int32) (call : Nat → List Value → am_H → Option am_X) (lv : am_L) (st : List Value) (h : am_H) : am_f d scr L call 127 (n + 1) 141 lv st h = (match am_ld lv 1 with
    | some (.int x) => am_f d scr L call 127 n 142 lv (.int x :: st) h
    | _ => none) := k_li (i := .iload_n 1) rfl rfl rfl rfl
set_option maxRecDepth 100000 in
theorem s_127_142 (d L n : Nat) (scr : Nat → Int32) (call : Nat → List Value → am_H → Option am_X) (lv : am_L) (st : List Value) (h : am_H) (a : Nat) (i : Int32) : am_f d scr L call 127 (n + 1) 142 lv (.int i :: .ref a :: st) h = (match am_ild scr L h a i with
    | some x => am_f d scr L call 127 n 143 lv (.int x :: st) h
    | none => none) := k_ia rfl
set_option maxRecDepth 100000 in
theorem s_127_143 (d L n : Nat) (scr : Nat → Int32) (call : Nat → List Value → am_H → Option am_X) (lv : am_L) (st : List Value) (h : am_H) (x : Int32) (a : Nat) : am_f d scr L call 127 (n + 1) 143 lv (.int x :: .ref a :: st) h = (match am_put h a 8 58 (.int x) with
    | some h' => am_f d scr L call 127 n 146 lv st h'
    | none => none) := k_pf (k := 260) rfl rfl rfl
set_option maxRecDepth 100000 in
theorem s_127_146 (d L n : Nat) (scr : Nat → Int32) (call : Nat → List Value → am_H → Option am_X) (lv : am_L) (st : List Value) (h : am_H) : am_f d scr L call 127 (n + 1) 146 lv st h = (match am_ld lv 0 with
    | some (.ref x) => am_f d scr L call 127 n 147 lv (.ref x :: st) h
    | _ => none) := k_la (i := .aload_n 0) rfl rfl rfl rfl
set_option maxRecDepth 100000 in
theorem s_127_147 (d L n : Nat) (scr : Nat → Int32) (call : Nat → List Value → am_H → Option am_X) (lv : am_L) (st : List Value) (h : am_H) : am_f d scr L call 127 (n + 1) 147 lv st h = (match am_ld lv 2 with
    | some (.int x) => am_f d scr L call 127 n 148 lv (.int x :: st) h
    | _ => none) := k_li (i := .iload_n 2) rfl rfl rfl rfl
set_option maxRecDepth 100000 in
theorem s_127_148 (d L n : Nat) (scr : Nat → Int32) (call : Nat → List Value → am_H → Option am_X) (lv : am_L) (st : List Value) (h : am_H) (x : Int32) (a : Nat) : am_f d scr L call 127 (n + 1) 148 lv (.int x :: .ref a :: st) h = (match am_put h a 8 59 (.int x) with
    | some h' => am_f d scr L call 127 n 151 lv st h'
    | none => none) := k_pf (k := 269) rfl rfl rfl
set_option maxRecDepth 100000 in
theorem s_127_151 (d L n : Nat) (scr : Nat → Int32) (call : Nat → List Value → am_H → Option am_X) (lv : am_L) (st : List Value) (h : am_H) : am_f d scr L call 127 (n + 1) 151 lv st h = am_f d scr L call 127 n 292 lv st h := k_nx (i := .goto 141) rfl rfl
set_option maxRecDepth 100000 in
theorem s_127_154 (d L n : Nat) (scr : Nat → Int32) (call : Nat → List Value → am_H → Option am_X) (lv : am_L) (st : List Value) (h : am_H) : am_f d scr L call 127 (n + 1) 154 lv st h = (match am_ld lv 3 with
    | some (.int x) => am_f d scr L call 127 n 155 lv (.int x :: st) h
    | _ => none) := k_li (i := .iload_n 3) rfl rfl rfl rfl
set_option maxRecDepth 100000 in
theorem s_127_155 (d L n : Nat) (scr : Nat → Int32) (call : Nat → List Value → am_H → Option am_X) (lv : am_L) (st : List Value) (h : am_H) : am_f d scr L call 127 (n + 1) 155 lv st h = am_f d scr L call 127 n 157 lv (.int 10 :: st) h := k_nx (i := .bipush 10) rfl rfl
set_option maxRecDepth 100000 in
theorem s_127_157 (d L n : Nat) (scr : Nat → Int32) (call : Nat → List Value → am_H → Option am_X) (lv : am_L) (st : List Value) (h : am_H) (x y : Int32) : am_f d scr L call 127 (n + 1) 157 lv (.int y :: .int x :: st) h = if ¬ x = y then am_f d scr L call 127 n 215 lv st h else am_f d scr L call 127 n 160 lv st h := k_ic_ne (o := 58) rfl ⟨by decide, rfl⟩
set_option maxRecDepth 100000 in
theorem s_127_160 (d L n : Nat) (scr : Nat → Int32) (call : Nat → List Value → am_H → Option am_X) (lv : am_L) (st : List Value) (h : am_H) : am_f d scr L call 127 (n + 1) 160 lv st h = (match am_ld lv 0 with
    | some (.ref x) => am_f d scr L call 127 n 161 lv (.ref x :: st) h
    | _ => none) := k_la (i := .aload_n 0) rfl rfl rfl rfl
set_option maxRecDepth 100000 in
theorem s_127_161 (d L n : Nat) (scr : Nat → Int32) (call : Nat → List Value → am_H → Option am_X) (lv : am_L) (st : List Value) (h : am_H) (a : Nat) : am_f d scr L call 127 (n + 1) 161 lv (.ref a :: st) h = (match am_get h a 8 49 with
    | some v => am_f d scr L call 127 n 164 lv (v :: st) h
    | none => none) := k_gf (k := 248) rfl rfl
set_option maxRecDepth 100000 in
theorem s_127_164 (d L n : Nat) (scr : Nat → Int32) (call : Nat → List Value → am_H → Option am_X) (lv : am_L) (st : List Value) (h : am_H) : am_f d scr L call 127 (n + 1) 164 lv st h = am_f d scr L call 127 n 166 lv (.int 40 :: st) h := k_nx (i := .bipush 40) rfl rfl
set_option maxRecDepth 100000 in
theorem s_127_166 (d L n : Nat) (scr : Nat → Int32) (call : Nat → List Value → am_H → Option am_X) (lv : am_L) (st : List Value) (h : am_H) (x y : Int32) : am_f d scr L call 127 (n + 1) 166 lv (.int y :: .int x :: st) h = if ¬ x = y then am_f d scr L call 127 n 175 lv st h else am_f d scr L call 127 n 169 lv st h := k_ic_ne (o := 9) rfl ⟨by decide, rfl⟩
set_option maxRecDepth 100000 in
theorem s_127_169 (d L n : Nat) (scr : Nat → Int32) (call : Nat → List Value → am_H → Option am_X) (lv : am_L) (st : List Value) (h : am_H) : am_f d scr L call 127 (n + 1) 169 lv st h = (match am_ld lv 0 with
    | some (.ref x) => am_f d scr L call 127 n 170 lv (.ref x :: st) h
    | _ => none) := k_la (i := .aload_n 0) rfl rfl rfl rfl
set_option maxRecDepth 100000 in
theorem s_127_170 (d L n : Nat) (scr : Nat → Int32) (call : Nat → List Value → am_H → Option am_X) (lv : am_L) (st : List Value) (h : am_H) : am_f d scr L call 127 (n + 1) 170 lv st h = am_f d scr L call 127 n 171 lv (.int 4 :: st) h := k_nx (i := .iconst 4) rfl rfl
set_option maxRecDepth 100000 in
theorem s_127_171 (d L n : Nat) (scr : Nat → Int32) (call : Nat → List Value → am_H → Option am_X) (lv : am_L) (h : am_H) (o : Nat) (a0 : Int32)  : am_f d scr L call 127 (n + 1) 171 lv (.int a0 :: .ref o :: []) h = if am_at h o 8 = true then (match call 113 [.ref o, .int a0] h with
    | some (v, h', dk, dn) => am_add dk dn (am_f d scr L call 127 n 174 lv (v.toList ++ []) h')
    | none => none) else none := k_iv0 (k := 225) (as := [.int a0]) (r := []) rfl rfl rfl rfl (Nat.le_of_ble_eq_true rfl)
set_option maxRecDepth 100000 in
theorem s_127_174 (d L n : Nat) (scr : Nat → Int32) (call : Nat → List Value → am_H → Option am_X) (lv : am_L) (h : am_H) : am_f d scr L call 127 (n + 1) 174 lv [] h = some (none, h, 0, 0) := k_vr rfl rfl
set_option maxRecDepth 100000 in
theorem s_127_175 (d L n : Nat) (scr : Nat → Int32) (call : Nat → List Value → am_H → Option am_X) (lv : am_L) (st : List Value) (h : am_H) : am_f d scr L call 127 (n + 1) 175 lv st h = (match am_ld lv 0 with
    | some (.ref x) => am_f d scr L call 127 n 176 lv (.ref x :: st) h
    | _ => none) := k_la (i := .aload_n 0) rfl rfl rfl rfl
set_option maxRecDepth 100000 in
theorem s_127_176 (d L n : Nat) (scr : Nat → Int32) (call : Nat → List Value → am_H → Option am_X) (lv : am_L) (st : List Value) (h : am_H) (a : Nat) : am_f d scr L call 127 (n + 1) 176 lv (.ref a :: st) h = (match am_get h a 8 50 with
    | some v => am_f d scr L call 127 n 179 lv (v :: st) h
    | none => none) := k_gf (k := 111) rfl rfl
set_option maxRecDepth 100000 in
theorem s_127_179 (d L n : Nat) (scr : Nat → Int32) (call : Nat → List Value → am_H → Option am_X) (lv : am_L) (st : List Value) (h : am_H) : am_f d scr L call 127 (n + 1) 179 lv st h = (match am_ld lv 0 with
    | some (.ref x) => am_f d scr L call 127 n 180 lv (.ref x :: st) h
    | _ => none) := k_la (i := .aload_n 0) rfl rfl rfl rfl
set_option maxRecDepth 100000 in
theorem s_127_180 (d L n : Nat) (scr : Nat → Int32) (call : Nat → List Value → am_H → Option am_X) (lv : am_L) (st : List Value) (h : am_H) (a : Nat) : am_f d scr L call 127 (n + 1) 180 lv (.ref a :: st) h = (match am_get h a 8 49 with
    | some v => am_f d scr L call 127 n 183 lv (v :: st) h
    | none => none) := k_gf (k := 248) rfl rfl
set_option maxRecDepth 100000 in
theorem s_127_183 (d L n : Nat) (scr : Nat → Int32) (call : Nat → List Value → am_H → Option am_X) (lv : am_L) (st : List Value) (h : am_H) : am_f d scr L call 127 (n + 1) 183 lv st h = (match am_ld lv 5 with
    | some (.int x) => am_f d scr L call 127 n 185 lv (.int x :: st) h
    | _ => none) := k_li (i := .iload 5) rfl rfl rfl rfl
set_option maxRecDepth 100000 in
theorem s_127_185 (d L n : Nat) (scr : Nat → Int32) (call : Nat → List Value → am_H → Option am_X) (lv : am_L) (st : List Value) (h : am_H) (a : Nat) (i : Int32) (x : Int32) : am_f d scr L call 127 (n + 1) 185 lv (.int x :: .int i :: .ref a :: st) h = (match am_ist h a i x with
    | some h' => am_f d scr L call 127 n 186 lv st h'
    | none => none) := k_is rfl
set_option maxRecDepth 100000 in
theorem s_127_186 (d L n : Nat) (scr : Nat → Int32) (call : Nat → List Value → am_H → Option am_X) (lv : am_L) (st : List Value) (h : am_H) : am_f d scr L call 127 (n + 1) 186 lv st h = (match am_ld lv 0 with
    | some (.ref x) => am_f d scr L call 127 n 187 lv (.ref x :: st) h
    | _ => none) := k_la (i := .aload_n 0) rfl rfl rfl rfl
set_option maxRecDepth 100000 in
theorem s_127_187 (d L n : Nat) (scr : Nat → Int32) (call : Nat → List Value → am_H → Option am_X) (lv : am_L) (st : List Value) (h : am_H) (x : Nat) : am_f d scr L call 127 (n + 1) 187 lv (.ref x :: st) h = am_f d scr L call 127 n 188 lv (.ref x :: .ref x :: st) h := k_nx (i := .dup) rfl rfl
set_option maxRecDepth 100000 in
theorem s_127_188 (d L n : Nat) (scr : Nat → Int32) (call : Nat → List Value → am_H → Option am_X) (lv : am_L) (st : List Value) (h : am_H) (a : Nat) : am_f d scr L call 127 (n + 1) 188 lv (.ref a :: st) h = (match am_get h a 8 49 with
    | some v => am_f d scr L call 127 n 191 lv (v :: st) h
    | none => none) := k_gf (k := 248) rfl rfl
set_option maxRecDepth 100000 in
theorem s_127_191 (d L n : Nat) (scr : Nat → Int32) (call : Nat → List Value → am_H → Option am_X) (lv : am_L) (st : List Value) (h : am_H) : am_f d scr L call 127 (n + 1) 191 lv st h = am_f d scr L call 127 n 192 lv (.int 1 :: st) h := k_nx (i := .iconst 1) rfl rfl
set_option maxRecDepth 100000 in
theorem s_127_192 (d L n : Nat) (scr : Nat → Int32) (call : Nat → List Value → am_H → Option am_X) (lv : am_L) (st : List Value) (h : am_H) (x y : Int32) : am_f d scr L call 127 (n + 1) 192 lv (.int y :: .int x :: st) h = am_f d scr L call 127 n 193 lv (.int (x + y) :: st) h := k_nx (i := .iadd) rfl rfl
set_option maxRecDepth 100000 in
theorem s_127_193 (d L n : Nat) (scr : Nat → Int32) (call : Nat → List Value → am_H → Option am_X) (lv : am_L) (st : List Value) (h : am_H) (x : Int32) (a : Nat) : am_f d scr L call 127 (n + 1) 193 lv (.int x :: .ref a :: st) h = (match am_put h a 8 49 (.int x) with
    | some h' => am_f d scr L call 127 n 196 lv st h'
    | none => none) := k_pf (k := 248) rfl rfl rfl
set_option maxRecDepth 100000 in
theorem s_127_196 (d L n : Nat) (scr : Nat → Int32) (call : Nat → List Value → am_H → Option am_X) (lv : am_L) (st : List Value) (h : am_H) : am_f d scr L call 127 (n + 1) 196 lv st h = (match am_ld lv 0 with
    | some (.ref x) => am_f d scr L call 127 n 197 lv (.ref x :: st) h
    | _ => none) := k_la (i := .aload_n 0) rfl rfl rfl rfl
set_option maxRecDepth 100000 in
theorem s_127_197 (d L n : Nat) (scr : Nat → Int32) (call : Nat → List Value → am_H → Option am_X) (lv : am_L) (st : List Value) (h : am_H) : am_f d scr L call 127 (n + 1) 197 lv st h = (match am_ld lv 0 with
    | some (.ref x) => am_f d scr L call 127 n 198 lv (.ref x :: st) h
    | _ => none) := k_la (i := .aload_n 0) rfl rfl rfl rfl
set_option maxRecDepth 100000 in
theorem s_127_198 (d L n : Nat) (scr : Nat → Int32) (call : Nat → List Value → am_H → Option am_X) (lv : am_L) (st : List Value) (h : am_H) : am_f d scr L call 127 (n + 1) 198 lv st h = am_f d scr L call 127 n 199 lv (.int 3 :: st) h := k_nx (i := .iconst 3) rfl rfl
set_option maxRecDepth 100000 in
theorem s_127_199 (d L n : Nat) (scr : Nat → Int32) (call : Nat → List Value → am_H → Option am_X) (lv : am_L) (st : List Value) (h : am_H) : am_f d scr L call 127 (n + 1) 199 lv st h = (match am_ld lv 0 with
    | some (.ref x) => am_f d scr L call 127 n 200 lv (.ref x :: st) h
    | _ => none) := k_la (i := .aload_n 0) rfl rfl rfl rfl
set_option maxRecDepth 100000 in
theorem s_127_200 (d L n : Nat) (scr : Nat → Int32) (call : Nat → List Value → am_H → Option am_X) (lv : am_L) (st : List Value) (h : am_H) (a : Nat) : am_f d scr L call 127 (n + 1) 200 lv (.ref a :: st) h = (match am_get h a 8 49 with
    | some v => am_f d scr L call 127 n 203 lv (v :: st) h
    | none => none) := k_gf (k := 248) rfl rfl
set_option maxRecDepth 100000 in
theorem s_127_203 (d L n : Nat) (scr : Nat → Int32) (call : Nat → List Value → am_H → Option am_X) (lv : am_L) (st : List Value) (h : am_H) : am_f d scr L call 127 (n + 1) 203 lv st h = am_f d scr L call 127 n 204 lv (.int 1 :: st) h := k_nx (i := .iconst 1) rfl rfl
set_option maxRecDepth 100000 in
theorem s_127_204 (d L n : Nat) (scr : Nat → Int32) (call : Nat → List Value → am_H → Option am_X) (lv : am_L) (st : List Value) (h : am_H) (x y : Int32) : am_f d scr L call 127 (n + 1) 204 lv (.int y :: .int x :: st) h = am_f d scr L call 127 n 205 lv (.int (x - y) :: st) h := k_nx (i := .isub) rfl rfl
set_option maxRecDepth 100000 in
theorem s_127_205 (d L n : Nat) (scr : Nat → Int32) (call : Nat → List Value → am_H → Option am_X) (lv : am_L) (st : List Value) (h : am_H) : am_f d scr L call 127 (n + 1) 205 lv st h = am_f d scr L call 127 n 206 lv (.int 0 :: st) h := k_nx (i := .iconst 0) rfl rfl
set_option maxRecDepth 100000 in
theorem s_127_206 (d L n : Nat) (scr : Nat → Int32) (call : Nat → List Value → am_H → Option am_X) (lv : am_L) (h : am_H) (o : Nat) (a0 : Int32) (a1 : Int32) (a2 : Int32) (r0 : Nat) : am_f d scr L call 127 (n + 1) 206 lv (.int a2 :: .int a1 :: .int a0 :: .ref o :: .ref r0 :: []) h = if am_at h o 8 = true then (match call 112 [.ref o, .int a0, .int a1, .int a2] h with
    | some (v, h', dk, dn) => am_add dk dn (am_f d scr L call 127 n 209 lv (v.toList ++ [.ref r0]) h')
    | none => none) else none := k_iv0 (k := 231) (as := [.int a0, .int a1, .int a2]) (r := [.ref r0]) rfl rfl rfl rfl (Nat.le_of_ble_eq_true rfl)
set_option maxRecDepth 100000 in
theorem s_127_209 (d L n : Nat) (scr : Nat → Int32) (call : Nat → List Value → am_H → Option am_X) (lv : am_L) (h : am_H) (o : Nat) (a0 : Int32)  : am_f d scr L call 127 (n + 1) 209 lv (.int a0 :: .ref o :: []) h = if am_at h o 8 = true then (match call 122 [.ref o, .int a0] h with
    | some (v, h', dk, dn) => am_add dk dn (am_f d scr L call 127 n 212 lv (v.toList ++ []) h')
    | none => none) else none := k_iv0 (k := 266) (as := [.int a0]) (r := []) rfl rfl rfl rfl (Nat.le_of_ble_eq_true rfl)
set_option maxRecDepth 100000 in
theorem s_127_212 (d L n : Nat) (scr : Nat → Int32) (call : Nat → List Value → am_H → Option am_X) (lv : am_L) (st : List Value) (h : am_H) : am_f d scr L call 127 (n + 1) 212 lv st h = am_f d scr L call 127 n 292 lv st h := k_nx (i := .goto 80) rfl rfl
set_option maxRecDepth 100000 in
theorem s_127_215 (d L n : Nat) (scr : Nat → Int32) (call : Nat → List Value → am_H → Option am_X) (lv : am_L) (st : List Value) (h : am_H) : am_f d scr L call 127 (n + 1) 215 lv st h = (match am_ld lv 3 with
    | some (.int x) => am_f d scr L call 127 n 216 lv (.int x :: st) h
    | _ => none) := k_li (i := .iload_n 3) rfl rfl rfl rfl
set_option maxRecDepth 100000 in
theorem s_127_216 (d L n : Nat) (scr : Nat → Int32) (call : Nat → List Value → am_H → Option am_X) (lv : am_L) (st : List Value) (h : am_H) : am_f d scr L call 127 (n + 1) 216 lv st h = am_f d scr L call 127 n 218 lv (.int 11 :: st) h := k_nx (i := .bipush 11) rfl rfl
set_option maxRecDepth 100000 in
theorem s_127_218 (d L n : Nat) (scr : Nat → Int32) (call : Nat → List Value → am_H → Option am_X) (lv : am_L) (st : List Value) (h : am_H) (x y : Int32) : am_f d scr L call 127 (n + 1) 218 lv (.int y :: .int x :: st) h = if ¬ x = y then am_f d scr L call 127 n 251 lv st h else am_f d scr L call 127 n 221 lv st h := k_ic_ne (o := 33) rfl ⟨by decide, rfl⟩
set_option maxRecDepth 100000 in
theorem s_127_221 (d L n : Nat) (scr : Nat → Int32) (call : Nat → List Value → am_H → Option am_X) (lv : am_L) (st : List Value) (h : am_H) : am_f d scr L call 127 (n + 1) 221 lv st h = (match am_ld lv 0 with
    | some (.ref x) => am_f d scr L call 127 n 222 lv (.ref x :: st) h
    | _ => none) := k_la (i := .aload_n 0) rfl rfl rfl rfl
set_option maxRecDepth 100000 in
theorem s_127_222 (d L n : Nat) (scr : Nat → Int32) (call : Nat → List Value → am_H → Option am_X) (lv : am_L) (st : List Value) (h : am_H) : am_f d scr L call 127 (n + 1) 222 lv st h = (match am_ld lv 0 with
    | some (.ref x) => am_f d scr L call 127 n 223 lv (.ref x :: st) h
    | _ => none) := k_la (i := .aload_n 0) rfl rfl rfl rfl
set_option maxRecDepth 100000 in
theorem s_127_223 (d L n : Nat) (scr : Nat → Int32) (call : Nat → List Value → am_H → Option am_X) (lv : am_L) (st : List Value) (h : am_H) : am_f d scr L call 127 (n + 1) 223 lv st h = (match am_ld lv 5 with
    | some (.int x) => am_f d scr L call 127 n 225 lv (.int x :: st) h
    | _ => none) := k_li (i := .iload 5) rfl rfl rfl rfl
set_option maxRecDepth 100000 in
theorem s_127_225 (d L n : Nat) (scr : Nat → Int32) (call : Nat → List Value → am_H → Option am_X) (lv : am_L) (st : List Value) (h : am_H) : am_f d scr L call 127 (n + 1) 225 lv st h = (match am_ld lv 0 with
    | some (.ref x) => am_f d scr L call 127 n 226 lv (.ref x :: st) h
    | _ => none) := k_la (i := .aload_n 0) rfl rfl rfl rfl
set_option maxRecDepth 100000 in
theorem s_127_226 (d L n : Nat) (scr : Nat → Int32) (call : Nat → List Value → am_H → Option am_X) (lv : am_L) (st : List Value) (h : am_H) (a : Nat) : am_f d scr L call 127 (n + 1) 226 lv (.ref a :: st) h = (match am_get h a 8 50 with
    | some v => am_f d scr L call 127 n 229 lv (v :: st) h
    | none => none) := k_gf (k := 111) rfl rfl
set_option maxRecDepth 100000 in
theorem s_127_229 (d L n : Nat) (scr : Nat → Int32) (call : Nat → List Value → am_H → Option am_X) (lv : am_L) (st : List Value) (h : am_H) : am_f d scr L call 127 (n + 1) 229 lv st h = (match am_ld lv 0 with
    | some (.ref x) => am_f d scr L call 127 n 230 lv (.ref x :: st) h
    | _ => none) := k_la (i := .aload_n 0) rfl rfl rfl rfl
set_option maxRecDepth 100000 in
theorem s_127_230 (d L n : Nat) (scr : Nat → Int32) (call : Nat → List Value → am_H → Option am_X) (lv : am_L) (st : List Value) (h : am_H) (a : Nat) : am_f d scr L call 127 (n + 1) 230 lv (.ref a :: st) h = (match am_get h a 8 33 with
    | some v => am_f d scr L call 127 n 233 lv (v :: st) h
    | none => none) := k_gf (k := 72) rfl rfl
set_option maxRecDepth 100000 in
theorem s_127_233 (d L n : Nat) (scr : Nat → Int32) (call : Nat → List Value → am_H → Option am_X) (lv : am_L) (st : List Value) (h : am_H) : am_f d scr L call 127 (n + 1) 233 lv st h = (match am_ld lv 0 with
    | some (.ref x) => am_f d scr L call 127 n 234 lv (.ref x :: st) h
    | _ => none) := k_la (i := .aload_n 0) rfl rfl rfl rfl
set_option maxRecDepth 100000 in
theorem s_127_234 (d L n : Nat) (scr : Nat → Int32) (call : Nat → List Value → am_H → Option am_X) (lv : am_L) (st : List Value) (h : am_H) : am_f d scr L call 127 (n + 1) 234 lv st h = (match am_ld lv 5 with
    | some (.int x) => am_f d scr L call 127 n 236 lv (.int x :: st) h
    | _ => none) := k_li (i := .iload 5) rfl rfl rfl rfl
set_option maxRecDepth 100000 in
theorem s_127_236 (d L n : Nat) (scr : Nat → Int32) (call : Nat → List Value → am_H → Option am_X) (lv : am_L) (h : am_H) (o : Nat) (a0 : Int32) (r0 : Nat) (r1 : Nat) (r2 : Int32) (r3 : Nat) (r4 : Nat) : am_f d scr L call 127 (n + 1) 236 lv (.int a0 :: .ref o :: .ref r0 :: .ref r1 :: .int r2 :: .ref r3 :: .ref r4 :: []) h = if am_at h o 8 = true then (match call 115 [.ref o, .int a0] h with
    | some (v, h', dk, dn) => am_add dk dn (am_f d scr L call 127 n 239 lv (v.toList ++ [.ref r0, .ref r1, .int r2, .ref r3, .ref r4]) h')
    | none => none) else none := k_iv0 (k := 282) (as := [.int a0]) (r := [.ref r0, .ref r1, .int r2, .ref r3, .ref r4]) rfl rfl rfl rfl (Nat.le_of_ble_eq_true rfl)
set_option maxRecDepth 100000 in
theorem s_127_239 (d L n : Nat) (scr : Nat → Int32) (call : Nat → List Value → am_H → Option am_X) (lv : am_L) (st : List Value) (h : am_H) (a : Nat) (i : Int32) : am_f d scr L call 127 (n + 1) 239 lv (.int i :: .ref a :: st) h = (match am_ild scr L h a i with
    | some x => am_f d scr L call 127 n 240 lv (.int x :: st) h
    | none => none) := k_ia rfl
set_option maxRecDepth 100000 in
theorem s_127_240 (d L n : Nat) (scr : Nat → Int32) (call : Nat → List Value → am_H → Option am_X) (lv : am_L) (st : List Value) (h : am_H) (a : Nat) (i : Int32) : am_f d scr L call 127 (n + 1) 240 lv (.int i :: .ref a :: st) h = (match am_ild scr L h a i with
    | some x => am_f d scr L call 127 n 241 lv (.int x :: st) h
    | none => none) := k_ia rfl
set_option maxRecDepth 100000 in
theorem s_127_241 (d L n : Nat) (scr : Nat → Int32) (call : Nat → List Value → am_H → Option am_X) (lv : am_L) (st : List Value) (h : am_H) : am_f d scr L call 127 (n + 1) 241 lv st h = am_f d scr L call 127 n 242 lv (.int 0 :: st) h := k_nx (i := .iconst 0) rfl rfl
set_option maxRecDepth 100000 in
theorem s_127_242 (d L n : Nat) (scr : Nat → Int32) (call : Nat → List Value → am_H → Option am_X) (lv : am_L) (h : am_H) (o : Nat) (a0 : Int32) (a1 : Int32) (a2 : Int32) (r0 : Nat) : am_f d scr L call 127 (n + 1) 242 lv (.int a2 :: .int a1 :: .int a0 :: .ref o :: .ref r0 :: []) h = if am_at h o 8 = true then (match call 119 [.ref o, .int a0, .int a1, .int a2] h with
    | some (v, h', dk, dn) => am_add dk dn (am_f d scr L call 127 n 245 lv (v.toList ++ [.ref r0]) h')
    | none => none) else none := k_iv0 (k := 285) (as := [.int a0, .int a1, .int a2]) (r := [.ref r0]) rfl rfl rfl rfl (Nat.le_of_ble_eq_true rfl)
set_option maxRecDepth 100000 in
theorem s_127_245 (d L n : Nat) (scr : Nat → Int32) (call : Nat → List Value → am_H → Option am_X) (lv : am_L) (h : am_H) (o : Nat) (a0 : Int32)  : am_f d scr L call 127 (n + 1) 245 lv (.int a0 :: .ref o :: []) h = if am_at h o 8 = true then (match call 122 [.ref o, .int a0] h with
    | some (v, h', dk, dn) => am_add dk dn (am_f d scr L call 127 n 248 lv (v.toList ++ []) h')
    | none => none) else none := k_iv0 (k := 266) (as := [.int a0]) (r := []) rfl rfl rfl rfl (Nat.le_of_ble_eq_true rfl)
set_option maxRecDepth 100000 in
theorem s_127_248 (d L n : Nat) (scr : Nat → Int32) (call : Nat → List Value → am_H → Option am_X) (lv : am_L) (st : List Value) (h : am_H) : am_f d scr L call 127 (n + 1) 248 lv st h = am_f d scr L call 127 n 292 lv st h := k_nx (i := .goto 44) rfl rfl
set_option maxRecDepth 100000 in
theorem s_127_251 (d L n : Nat) (scr : Nat → Int32) (call : Nat → List Value → am_H → Option am_X) (lv : am_L) (st : List Value) (h : am_H) : am_f d scr L call 127 (n + 1) 251 lv st h = (match am_ld lv 3 with
    | some (.int x) => am_f d scr L call 127 n 252 lv (.int x :: st) h
    | _ => none) := k_li (i := .iload_n 3) rfl rfl rfl rfl
set_option maxRecDepth 100000 in
theorem s_127_252 (d L n : Nat) (scr : Nat → Int32) (call : Nat → List Value → am_H → Option am_X) (lv : am_L) (st : List Value) (h : am_H) : am_f d scr L call 127 (n + 1) 252 lv st h = am_f d scr L call 127 n 254 lv (.int 13 :: st) h := k_nx (i := .bipush 13) rfl rfl
set_option maxRecDepth 100000 in
theorem s_127_254 (d L n : Nat) (scr : Nat → Int32) (call : Nat → List Value → am_H → Option am_X) (lv : am_L) (st : List Value) (h : am_H) (x y : Int32) : am_f d scr L call 127 (n + 1) 254 lv (.int y :: .int x :: st) h = if ¬ x = y then am_f d scr L call 127 n 286 lv st h else am_f d scr L call 127 n 257 lv st h := k_ic_ne (o := 32) rfl ⟨by decide, rfl⟩
set_option maxRecDepth 100000 in
theorem s_127_257 (d L n : Nat) (scr : Nat → Int32) (call : Nat → List Value → am_H → Option am_X) (lv : am_L) (st : List Value) (h : am_H) : am_f d scr L call 127 (n + 1) 257 lv st h = (match am_ld lv 0 with
    | some (.ref x) => am_f d scr L call 127 n 258 lv (.ref x :: st) h
    | _ => none) := k_la (i := .aload_n 0) rfl rfl rfl rfl
set_option maxRecDepth 100000 in
theorem s_127_258 (d L n : Nat) (scr : Nat → Int32) (call : Nat → List Value → am_H → Option am_X) (lv : am_L) (st : List Value) (h : am_H) (a : Nat) : am_f d scr L call 127 (n + 1) 258 lv (.ref a :: st) h = (match am_get h a 8 57 with
    | some v => am_f d scr L call 127 n 261 lv (v :: st) h
    | none => none) := k_gf (k := 114) rfl rfl
set_option maxRecDepth 100000 in
theorem s_127_261 (d L n : Nat) (scr : Nat → Int32) (call : Nat → List Value → am_H → Option am_X) (lv : am_L) (st : List Value) (h : am_H) : am_f d scr L call 127 (n + 1) 261 lv st h = (match am_ld lv 0 with
    | some (.ref x) => am_f d scr L call 127 n 262 lv (.ref x :: st) h
    | _ => none) := k_la (i := .aload_n 0) rfl rfl rfl rfl
set_option maxRecDepth 100000 in
theorem s_127_262 (d L n : Nat) (scr : Nat → Int32) (call : Nat → List Value → am_H → Option am_X) (lv : am_L) (st : List Value) (h : am_H) (a : Nat) : am_f d scr L call 127 (n + 1) 262 lv (.ref a :: st) h = (match am_get h a 8 56 with
    | some v => am_f d scr L call 127 n 265 lv (v :: st) h
    | none => none) := k_gf (k := 251) rfl rfl
set_option maxRecDepth 100000 in
theorem s_127_265 (d L n : Nat) (scr : Nat → Int32) (call : Nat → List Value → am_H → Option am_X) (lv : am_L) (st : List Value) (h : am_H) : am_f d scr L call 127 (n + 1) 265 lv st h = am_f d scr L call 127 n 267 lv (.int 16 :: st) h := k_nx (i := .bipush 16) rfl rfl
set_option maxRecDepth 100000 in
theorem s_127_267 (d L n : Nat) (scr : Nat → Int32) (call : Nat → List Value → am_H → Option am_X) (lv : am_L) (st : List Value) (h : am_H) (x y : Int32) : am_f d scr L call 127 (n + 1) 267 lv (.int y :: .int x :: st) h = if y = 0 then none else am_f d scr L call 127 n 268 lv (.int (x - x / y * y) :: st) h := k_dz (f := fun x y => x - x / y * y) (i := .irem) rfl rfl rfl rfl
set_option maxRecDepth 100000 in
theorem s_127_268 (d L n : Nat) (scr : Nat → Int32) (call : Nat → List Value → am_H → Option am_X) (lv : am_L) (st : List Value) (h : am_H) : am_f d scr L call 127 (n + 1) 268 lv st h = (match am_ld lv 0 with
    | some (.ref x) => am_f d scr L call 127 n 269 lv (.ref x :: st) h
    | _ => none) := k_la (i := .aload_n 0) rfl rfl rfl rfl
set_option maxRecDepth 100000 in
theorem s_127_269 (d L n : Nat) (scr : Nat → Int32) (call : Nat → List Value → am_H → Option am_X) (lv : am_L) (st : List Value) (h : am_H) (a : Nat) : am_f d scr L call 127 (n + 1) 269 lv (.ref a :: st) h = (match am_get h a 8 33 with
    | some v => am_f d scr L call 127 n 272 lv (v :: st) h
    | none => none) := k_gf (k := 72) rfl rfl
set_option maxRecDepth 100000 in
theorem s_127_272 (d L n : Nat) (scr : Nat → Int32) (call : Nat → List Value → am_H → Option am_X) (lv : am_L) (st : List Value) (h : am_H) : am_f d scr L call 127 (n + 1) 272 lv st h = (match am_ld lv 5 with
    | some (.int x) => am_f d scr L call 127 n 274 lv (.int x :: st) h
    | _ => none) := k_li (i := .iload 5) rfl rfl rfl rfl
set_option maxRecDepth 100000 in
theorem s_127_274 (d L n : Nat) (scr : Nat → Int32) (call : Nat → List Value → am_H → Option am_X) (lv : am_L) (st : List Value) (h : am_H) (a : Nat) (i : Int32) : am_f d scr L call 127 (n + 1) 274 lv (.int i :: .ref a :: st) h = (match am_ild scr L h a i with
    | some x => am_f d scr L call 127 n 275 lv (.int x :: st) h
    | none => none) := k_ia rfl
set_option maxRecDepth 100000 in
theorem s_127_275 (d L n : Nat) (scr : Nat → Int32) (call : Nat → List Value → am_H → Option am_X) (lv : am_L) (st : List Value) (h : am_H) (a : Nat) (i : Int32) (x : Int32) : am_f d scr L call 127 (n + 1) 275 lv (.int x :: .int i :: .ref a :: st) h = (match am_ist h a i x with
    | some h' => am_f d scr L call 127 n 276 lv st h'
    | none => none) := k_is rfl
set_option maxRecDepth 100000 in
theorem s_127_276 (d L n : Nat) (scr : Nat → Int32) (call : Nat → List Value → am_H → Option am_X) (lv : am_L) (st : List Value) (h : am_H) : am_f d scr L call 127 (n + 1) 276 lv st h = (match am_ld lv 0 with
    | some (.ref x) => am_f d scr L call 127 n 277 lv (.ref x :: st) h
    | _ => none) := k_la (i := .aload_n 0) rfl rfl rfl rfl
set_option maxRecDepth 100000 in
theorem s_127_277 (d L n : Nat) (scr : Nat → Int32) (call : Nat → List Value → am_H → Option am_X) (lv : am_L) (st : List Value) (h : am_H) (x : Nat) : am_f d scr L call 127 (n + 1) 277 lv (.ref x :: st) h = am_f d scr L call 127 n 278 lv (.ref x :: .ref x :: st) h := k_nx (i := .dup) rfl rfl
set_option maxRecDepth 100000 in
theorem s_127_278 (d L n : Nat) (scr : Nat → Int32) (call : Nat → List Value → am_H → Option am_X) (lv : am_L) (st : List Value) (h : am_H) (a : Nat) : am_f d scr L call 127 (n + 1) 278 lv (.ref a :: st) h = (match am_get h a 8 56 with
    | some v => am_f d scr L call 127 n 281 lv (v :: st) h
    | none => none) := k_gf (k := 251) rfl rfl
set_option maxRecDepth 100000 in
theorem s_127_281 (d L n : Nat) (scr : Nat → Int32) (call : Nat → List Value → am_H → Option am_X) (lv : am_L) (st : List Value) (h : am_H) : am_f d scr L call 127 (n + 1) 281 lv st h = am_f d scr L call 127 n 282 lv (.int 1 :: st) h := k_nx (i := .iconst 1) rfl rfl
set_option maxRecDepth 100000 in
theorem s_127_282 (d L n : Nat) (scr : Nat → Int32) (call : Nat → List Value → am_H → Option am_X) (lv : am_L) (st : List Value) (h : am_H) (x y : Int32) : am_f d scr L call 127 (n + 1) 282 lv (.int y :: .int x :: st) h = am_f d scr L call 127 n 283 lv (.int (x + y) :: st) h := k_nx (i := .iadd) rfl rfl
set_option maxRecDepth 100000 in
theorem s_127_283 (d L n : Nat) (scr : Nat → Int32) (call : Nat → List Value → am_H → Option am_X) (lv : am_L) (st : List Value) (h : am_H) (x : Int32) (a : Nat) : am_f d scr L call 127 (n + 1) 283 lv (.int x :: .ref a :: st) h = (match am_put h a 8 56 (.int x) with
    | some h' => am_f d scr L call 127 n 286 lv st h'
    | none => none) := k_pf (k := 251) rfl rfl rfl
set_option maxRecDepth 100000 in
theorem s_127_286 (d L n : Nat) (scr : Nat → Int32) (call : Nat → List Value → am_H → Option am_X) (lv : am_L) (st : List Value) (h : am_H) : am_f d scr L call 127 (n + 1) 286 lv st h = (match am_ld lv 0 with
    | some (.ref x) => am_f d scr L call 127 n 287 lv (.ref x :: st) h
    | _ => none) := k_la (i := .aload_n 0) rfl rfl rfl rfl
set_option maxRecDepth 100000 in
theorem s_127_287 (d L n : Nat) (scr : Nat → Int32) (call : Nat → List Value → am_H → Option am_X) (lv : am_L) (st : List Value) (h : am_H) : am_f d scr L call 127 (n + 1) 287 lv st h = (match am_ld lv 5 with
    | some (.int x) => am_f d scr L call 127 n 289 lv (.int x :: st) h
    | _ => none) := k_li (i := .iload 5) rfl rfl rfl rfl
set_option maxRecDepth 100000 in
theorem s_127_289 (d L n : Nat) (scr : Nat → Int32) (call : Nat → List Value → am_H → Option am_X) (lv : am_L) (h : am_H) (o : Nat) (a0 : Int32)  : am_f d scr L call 127 (n + 1) 289 lv (.int a0 :: .ref o :: []) h = if am_at h o 8 = true then (match call 122 [.ref o, .int a0] h with
    | some (v, h', dk, dn) => am_add dk dn (am_f d scr L call 127 n 292 lv (v.toList ++ []) h')
    | none => none) else none := k_iv0 (k := 266) (as := [.int a0]) (r := []) rfl rfl rfl rfl (Nat.le_of_ble_eq_true rfl)
set_option maxRecDepth 100000 in
theorem s_127_292 (d L n : Nat) (scr : Nat → Int32) (call : Nat → List Value → am_H → Option am_X) (lv : am_L) (h : am_H) : am_f d scr L call 127 (n + 1) 292 lv [] h = some (none, h, 0, 0) := k_vr rfl rfl
-- 128: BlameDeskModel.second(II)V
theorem s_128_0 (d L n : Nat) (scr : Nat → Int32) (call : Nat → List Value → am_H → Option am_X) (lv : am_L) (st : List Value) (h : am_H) : am_f d scr L call 128 (n + 1) 0 lv st h = (match am_ld lv 0 with
    | some (.ref x) => am_f d scr L call 128 n 1 lv (.ref x :: st) h
    | _ => none) := k_la (i := .aload_n 0) rfl rfl rfl rfl
theorem s_128_1 (d L n : Nat) (scr : Nat → Int32) (call : Nat → List Value → am_H → Option am_X) (lv : am_L) (st : List Value) (h : am_H) (a : Nat) : am_f d scr L call 128 (n + 1) 1 lv (.ref a :: st) h = (match am_get h a 8 9 with
    | some v => am_f d scr L call 128 n 4 lv (v :: st) h
    | none => none) := k_gf (k := 23) rfl rfl
theorem s_128_4 (d L n : Nat) (scr : Nat → Int32) (call : Nat → List Value → am_H → Option am_X) (lv : am_L) (st : List Value) (h : am_H) : am_f d scr L call 128 (n + 1) 4 lv st h = (match am_ld lv 1 with
    | some (.int x) => am_f d scr L call 128 n 5 lv (.int x :: st) h
    | _ => none) := k_li (i := .iload_n 1) rfl rfl rfl rfl
theorem s_128_5 (d L n : Nat) (scr : Nat → Int32) (call : Nat → List Value → am_H → Option am_X) (lv : am_L) (st : List Value) (h : am_H) (a : Nat) (i : Int32) : am_f d scr L call 128 (n + 1) 5 lv (.int i :: .ref a :: st) h = (match am_ild scr L h a i with
    | some x => am_f d scr L call 128 n 6 lv (.int x :: st) h
    | none => none) := k_ia rfl
theorem s_128_6 (d L n : Nat) (scr : Nat → Int32) (call : Nat → List Value → am_H → Option am_X) (lv : am_L) (st : List Value) (h : am_H) (x : Int32) : am_f d scr L call 128 (n + 1) 6 lv (.int x :: st) h = am_f d scr L call 128 n 7 (am_st1 lv 3 (.int x)) st h := k_nx (i := .istore_n 3) rfl rfl
theorem s_128_7 (d L n : Nat) (scr : Nat → Int32) (call : Nat → List Value → am_H → Option am_X) (lv : am_L) (st : List Value) (h : am_H) : am_f d scr L call 128 (n + 1) 7 lv st h = (match am_ld lv 0 with
    | some (.ref x) => am_f d scr L call 128 n 8 lv (.ref x :: st) h
    | _ => none) := k_la (i := .aload_n 0) rfl rfl rfl rfl
theorem s_128_8 (d L n : Nat) (scr : Nat → Int32) (call : Nat → List Value → am_H → Option am_X) (lv : am_L) (st : List Value) (h : am_H) (a : Nat) : am_f d scr L call 128 (n + 1) 8 lv (.ref a :: st) h = (match am_get h a 8 61 with
    | some v => am_f d scr L call 128 n 11 lv (v :: st) h
    | none => none) := k_gf (k := 117) rfl rfl
theorem s_128_11 (d L n : Nat) (scr : Nat → Int32) (call : Nat → List Value → am_H → Option am_X) (lv : am_L) (st : List Value) (h : am_H) : am_f d scr L call 128 (n + 1) 11 lv st h = (match am_ld lv 0 with
    | some (.ref x) => am_f d scr L call 128 n 12 lv (.ref x :: st) h
    | _ => none) := k_la (i := .aload_n 0) rfl rfl rfl rfl
theorem s_128_12 (d L n : Nat) (scr : Nat → Int32) (call : Nat → List Value → am_H → Option am_X) (lv : am_L) (st : List Value) (h : am_H) (a : Nat) : am_f d scr L call 128 (n + 1) 12 lv (.ref a :: st) h = (match am_get h a 8 14 with
    | some v => am_f d scr L call 128 n 15 lv (v :: st) h
    | none => none) := k_gf (k := 38) rfl rfl
theorem s_128_15 (d L n : Nat) (scr : Nat → Int32) (call : Nat → List Value → am_H → Option am_X) (lv : am_L) (st : List Value) (h : am_H) : am_f d scr L call 128 (n + 1) 15 lv st h = (match am_ld lv 1 with
    | some (.int x) => am_f d scr L call 128 n 16 lv (.int x :: st) h
    | _ => none) := k_li (i := .iload_n 1) rfl rfl rfl rfl
theorem s_128_16 (d L n : Nat) (scr : Nat → Int32) (call : Nat → List Value → am_H → Option am_X) (lv : am_L) (st : List Value) (h : am_H) (a : Nat) (i : Int32) : am_f d scr L call 128 (n + 1) 16 lv (.int i :: .ref a :: st) h = (match am_ild scr L h a i with
    | some x => am_f d scr L call 128 n 17 lv (.int x :: st) h
    | none => none) := k_ia rfl
theorem s_128_17 (d L n : Nat) (scr : Nat → Int32) (call : Nat → List Value → am_H → Option am_X) (lv : am_L) (st : List Value) (h : am_H) (a : Nat) (i : Int32) : am_f d scr L call 128 (n + 1) 17 lv (.int i :: .ref a :: st) h = (match am_ild scr L h a i with
    | some x => am_f d scr L call 128 n 18 lv (.int x :: st) h
    | none => none) := k_ia rfl
theorem s_128_18 (d L n : Nat) (scr : Nat → Int32) (call : Nat → List Value → am_H → Option am_X) (lv : am_L) (st : List Value) (h : am_H) (x : Int32) : am_f d scr L call 128 (n + 1) 18 lv (.int x :: st) h = am_f d scr L call 128 n 20 (am_st1 lv 4 (.int x)) st h := k_nx (i := .istore 4) rfl rfl
theorem s_128_20 (d L n : Nat) (scr : Nat → Int32) (call : Nat → List Value → am_H → Option am_X) (lv : am_L) (st : List Value) (h : am_H) : am_f d scr L call 128 (n + 1) 20 lv st h = (match am_ld lv 0 with
    | some (.ref x) => am_f d scr L call 128 n 21 lv (.ref x :: st) h
    | _ => none) := k_la (i := .aload_n 0) rfl rfl rfl rfl
theorem s_128_21 (d L n : Nat) (scr : Nat → Int32) (call : Nat → List Value → am_H → Option am_X) (lv : am_L) (st : List Value) (h : am_H) : am_f d scr L call 128 (n + 1) 21 lv st h = (match am_ld lv 0 with
    | some (.ref x) => am_f d scr L call 128 n 22 lv (.ref x :: st) h
    | _ => none) := k_la (i := .aload_n 0) rfl rfl rfl rfl
theorem s_128_22 (d L n : Nat) (scr : Nat → Int32) (call : Nat → List Value → am_H → Option am_X) (lv : am_L) (st : List Value) (h : am_H) (a : Nat) : am_f d scr L call 128 (n + 1) 22 lv (.ref a :: st) h = (match am_get h a 8 60 with
    | some v => am_f d scr L call 128 n 25 lv (v :: st) h
    | none => none) := k_gf (k := 263) rfl rfl
theorem s_128_25 (d L n : Nat) (scr : Nat → Int32) (call : Nat → List Value → am_H → Option am_X) (lv : am_L) (st : List Value) (h : am_H) : am_f d scr L call 128 (n + 1) 25 lv st h = (match am_ld lv 0 with
    | some (.ref x) => am_f d scr L call 128 n 26 lv (.ref x :: st) h
    | _ => none) := k_la (i := .aload_n 0) rfl rfl rfl rfl
theorem s_128_26 (d L n : Nat) (scr : Nat → Int32) (call : Nat → List Value → am_H → Option am_X) (lv : am_L) (st : List Value) (h : am_H) (a : Nat) : am_f d scr L call 128 (n + 1) 26 lv (.ref a :: st) h = (match am_get h a 8 61 with
    | some v => am_f d scr L call 128 n 29 lv (v :: st) h
    | none => none) := k_gf (k := 117) rfl rfl
theorem s_128_29 (d L n : Nat) (scr : Nat → Int32) (call : Nat → List Value → am_H → Option am_X) (lv : am_L) (st : List Value) (h : am_H) : am_f d scr L call 128 (n + 1) 29 lv st h = (match am_ld lv 0 with
    | some (.ref x) => am_f d scr L call 128 n 30 lv (.ref x :: st) h
    | _ => none) := k_la (i := .aload_n 0) rfl rfl rfl rfl
theorem s_128_30 (d L n : Nat) (scr : Nat → Int32) (call : Nat → List Value → am_H → Option am_X) (lv : am_L) (st : List Value) (h : am_H) (a : Nat) : am_f d scr L call 128 (n + 1) 30 lv (.ref a :: st) h = (match am_get h a 8 15 with
    | some v => am_f d scr L call 128 n 33 lv (v :: st) h
    | none => none) := k_gf (k := 41) rfl rfl
theorem s_128_33 (d L n : Nat) (scr : Nat → Int32) (call : Nat → List Value → am_H → Option am_X) (lv : am_L) (st : List Value) (h : am_H) : am_f d scr L call 128 (n + 1) 33 lv st h = (match am_ld lv 1 with
    | some (.int x) => am_f d scr L call 128 n 34 lv (.int x :: st) h
    | _ => none) := k_li (i := .iload_n 1) rfl rfl rfl rfl
theorem s_128_34 (d L n : Nat) (scr : Nat → Int32) (call : Nat → List Value → am_H → Option am_X) (lv : am_L) (st : List Value) (h : am_H) (a : Nat) (i : Int32) : am_f d scr L call 128 (n + 1) 34 lv (.int i :: .ref a :: st) h = (match am_ild scr L h a i with
    | some x => am_f d scr L call 128 n 35 lv (.int x :: st) h
    | none => none) := k_ia rfl
theorem s_128_35 (d L n : Nat) (scr : Nat → Int32) (call : Nat → List Value → am_H → Option am_X) (lv : am_L) (st : List Value) (h : am_H) (a : Nat) (i : Int32) : am_f d scr L call 128 (n + 1) 35 lv (.int i :: .ref a :: st) h = (match am_ild scr L h a i with
    | some x => am_f d scr L call 128 n 36 lv (.int x :: st) h
    | none => none) := k_ia rfl
theorem s_128_36 (d L n : Nat) (scr : Nat → Int32) (call : Nat → List Value → am_H → Option am_X) (lv : am_L) (st : List Value) (h : am_H) : am_f d scr L call 128 (n + 1) 36 lv st h = (match am_ld lv 0 with
    | some (.ref x) => am_f d scr L call 128 n 37 lv (.ref x :: st) h
    | _ => none) := k_la (i := .aload_n 0) rfl rfl rfl rfl
theorem s_128_37 (d L n : Nat) (scr : Nat → Int32) (call : Nat → List Value → am_H → Option am_X) (lv : am_L) (st : List Value) (h : am_H) : am_f d scr L call 128 (n + 1) 37 lv st h = (match am_ld lv 1 with
    | some (.int x) => am_f d scr L call 128 n 38 lv (.int x :: st) h
    | _ => none) := k_li (i := .iload_n 1) rfl rfl rfl rfl
theorem s_128_38 (d L n : Nat) (scr : Nat → Int32) (call : Nat → List Value → am_H → Option am_X) (lv : am_L) (st : List Value) (h : am_H) : am_f d scr L call 128 (n + 1) 38 lv st h = (match am_ld lv 4 with
    | some (.int x) => am_f d scr L call 128 n 40 lv (.int x :: st) h
    | _ => none) := k_li (i := .iload 4) rfl rfl rfl rfl
theorem s_128_40 (d L n : Nat) (scr : Nat → Int32) (call : Nat → List Value → am_H → Option am_X) (lv : am_L) (h : am_H) (o : Nat) (a0 : Int32) (a1 : Int32) (r0 : Int32) (r1 : Int32) (r2 : Nat) : am_f d scr L call 128 (n + 1) 40 lv (.int a1 :: .int a0 :: .ref o :: .int r0 :: .int r1 :: .ref r2 :: []) h = if am_at h o 8 = true then (match call 126 [.ref o, .int a0, .int a1] h with
    | some (v, h', dk, dn) => am_add dk dn (am_f d scr L call 128 n 43 lv (v.toList ++ [.int r0, .int r1, .ref r2]) h')
    | none => none) else none := k_iv0 (k := 289) (as := [.int a0, .int a1]) (r := [.int r0, .int r1, .ref r2]) rfl rfl rfl rfl (Nat.le_of_ble_eq_true rfl)
theorem s_128_43 (d L n : Nat) (scr : Nat → Int32) (call : Nat → List Value → am_H → Option am_X) (lv : am_L) (st : List Value) (h : am_H) : am_f d scr L call 128 (n + 1) 43 lv st h = (match am_ld lv 0 with
    | some (.ref x) => am_f d scr L call 128 n 44 lv (.ref x :: st) h
    | _ => none) := k_la (i := .aload_n 0) rfl rfl rfl rfl
theorem s_128_44 (d L n : Nat) (scr : Nat → Int32) (call : Nat → List Value → am_H → Option am_X) (lv : am_L) (st : List Value) (h : am_H) : am_f d scr L call 128 (n + 1) 44 lv st h = (match am_ld lv 1 with
    | some (.int x) => am_f d scr L call 128 n 45 lv (.int x :: st) h
    | _ => none) := k_li (i := .iload_n 1) rfl rfl rfl rfl
theorem s_128_45 (d L n : Nat) (scr : Nat → Int32) (call : Nat → List Value → am_H → Option am_X) (lv : am_L) (h : am_H) (o : Nat) (a0 : Int32) (r0 : Int32) (r1 : Int32) (r2 : Int32) (r3 : Nat) : am_f d scr L call 128 (n + 1) 45 lv (.int a0 :: .ref o :: .int r0 :: .int r1 :: .int r2 :: .ref r3 :: []) h = if am_at h o 8 = true then (match call 124 [.ref o, .int a0] h with
    | some (v, h', dk, dn) => am_add dk dn (am_f d scr L call 128 n 48 lv (v.toList ++ [.int r0, .int r1, .int r2, .ref r3]) h')
    | none => none) else none := k_iv0 (k := 279) (as := [.int a0]) (r := [.int r0, .int r1, .int r2, .ref r3]) rfl rfl rfl rfl (Nat.le_of_ble_eq_true rfl)
theorem s_128_48 (d L n : Nat) (scr : Nat → Int32) (call : Nat → List Value → am_H → Option am_X) (lv : am_L) (h : am_H) (o : Nat) (a0 : Int32) (a1 : Int32) (a2 : Int32) (a3 : Int32)  : am_f d scr L call 128 (n + 1) 48 lv (.int a3 :: .int a2 :: .int a1 :: .int a0 :: .ref o :: []) h = if am_at h o 8 = true then (match call 114 [.ref o, .int a0, .int a1, .int a2, .int a3] h with
    | some (v, h', dk, dn) => am_add dk dn (am_f d scr L call 128 n 51 lv (v.toList ++ []) h')
    | none => none) else none := k_iv0 (k := 241) (as := [.int a0, .int a1, .int a2, .int a3]) (r := []) rfl rfl rfl rfl (Nat.le_of_ble_eq_true rfl)
theorem s_128_51 (d L n : Nat) (scr : Nat → Int32) (call : Nat → List Value → am_H → Option am_X) (lv : am_L) (st : List Value) (h : am_H) (x : Int32) : am_f d scr L call 128 (n + 1) 51 lv (.int x :: st) h = am_f d scr L call 128 n 53 (am_st1 lv 5 (.int x)) st h := k_nx (i := .istore 5) rfl rfl
theorem s_128_53 (d L n : Nat) (scr : Nat → Int32) (call : Nat → List Value → am_H → Option am_X) (lv : am_L) (st : List Value) (h : am_H) : am_f d scr L call 128 (n + 1) 53 lv st h = (match am_ld lv 0 with
    | some (.ref x) => am_f d scr L call 128 n 54 lv (.ref x :: st) h
    | _ => none) := k_la (i := .aload_n 0) rfl rfl rfl rfl
theorem s_128_54 (d L n : Nat) (scr : Nat → Int32) (call : Nat → List Value → am_H → Option am_X) (lv : am_L) (st : List Value) (h : am_H) (a : Nat) : am_f d scr L call 128 (n + 1) 54 lv (.ref a :: st) h = (match am_get h a 8 51 with
    | some v => am_f d scr L call 128 n 57 lv (v :: st) h
    | none => none) := k_gf (k := 216) rfl rfl
theorem s_128_57 (d L n : Nat) (scr : Nat → Int32) (call : Nat → List Value → am_H → Option am_X) (lv : am_L) (st : List Value) (h : am_H) (x : Int32) : am_f d scr L call 128 (n + 1) 57 lv (.int x :: st) h = if x = 0 then am_f d scr L call 128 n 61 lv st h else am_f d scr L call 128 n 60 lv st h := k_if_eq (o := 4) rfl ⟨by decide, rfl⟩
theorem s_128_60 (d L n : Nat) (scr : Nat → Int32) (call : Nat → List Value → am_H → Option am_X) (lv : am_L) (h : am_H) : am_f d scr L call 128 (n + 1) 60 lv [] h = some (none, h, 0, 0) := k_vr rfl rfl
theorem s_128_61 (d L n : Nat) (scr : Nat → Int32) (call : Nat → List Value → am_H → Option am_X) (lv : am_L) (st : List Value) (h : am_H) : am_f d scr L call 128 (n + 1) 61 lv st h = (match am_ld lv 3 with
    | some (.int x) => am_f d scr L call 128 n 62 lv (.int x :: st) h
    | _ => none) := k_li (i := .iload_n 3) rfl rfl rfl rfl
theorem s_128_62 (d L n : Nat) (scr : Nat → Int32) (call : Nat → List Value → am_H → Option am_X) (lv : am_L) (st : List Value) (h : am_H) : am_f d scr L call 128 (n + 1) 62 lv st h = am_f d scr L call 128 n 63 lv (.int 4 :: st) h := k_nx (i := .iconst 4) rfl rfl
theorem s_128_63 (d L n : Nat) (scr : Nat → Int32) (call : Nat → List Value → am_H → Option am_X) (lv : am_L) (st : List Value) (h : am_H) (x y : Int32) : am_f d scr L call 128 (n + 1) 63 lv (.int y :: .int x :: st) h = if ¬ x = y then am_f d scr L call 128 n 76 lv st h else am_f d scr L call 128 n 66 lv st h := k_ic_ne (o := 13) rfl ⟨by decide, rfl⟩
theorem s_128_66 (d L n : Nat) (scr : Nat → Int32) (call : Nat → List Value → am_H → Option am_X) (lv : am_L) (st : List Value) (h : am_H) : am_f d scr L call 128 (n + 1) 66 lv st h = (match am_ld lv 0 with
    | some (.ref x) => am_f d scr L call 128 n 67 lv (.ref x :: st) h
    | _ => none) := k_la (i := .aload_n 0) rfl rfl rfl rfl
theorem s_128_67 (d L n : Nat) (scr : Nat → Int32) (call : Nat → List Value → am_H → Option am_X) (lv : am_L) (st : List Value) (h : am_H) : am_f d scr L call 128 (n + 1) 67 lv st h = (match am_ld lv 2 with
    | some (.int x) => am_f d scr L call 128 n 68 lv (.int x :: st) h
    | _ => none) := k_li (i := .iload_n 2) rfl rfl rfl rfl
theorem s_128_68 (d L n : Nat) (scr : Nat → Int32) (call : Nat → List Value → am_H → Option am_X) (lv : am_L) (st : List Value) (h : am_H) : am_f d scr L call 128 (n + 1) 68 lv st h = (match am_ld lv 5 with
    | some (.int x) => am_f d scr L call 128 n 70 lv (.int x :: st) h
    | _ => none) := k_li (i := .iload 5) rfl rfl rfl rfl
theorem s_128_70 (d L n : Nat) (scr : Nat → Int32) (call : Nat → List Value → am_H → Option am_X) (lv : am_L) (h : am_H) (o : Nat) (a0 : Int32) (a1 : Int32)  : am_f d scr L call 128 (n + 1) 70 lv (.int a1 :: .int a0 :: .ref o :: []) h = if am_at h o 8 = true then (match call 129 [.ref o, .int a0, .int a1] h with
    | some (v, h', dk, dn) => am_add dk dn (am_f d scr L call 128 n 73 lv (v.toList ++ []) h')
    | none => none) else none := k_iv0 (k := 292) (as := [.int a0, .int a1]) (r := []) rfl rfl rfl rfl (Nat.le_of_ble_eq_true rfl)
theorem s_128_73 (d L n : Nat) (scr : Nat → Int32) (call : Nat → List Value → am_H → Option am_X) (lv : am_L) (st : List Value) (h : am_H) : am_f d scr L call 128 (n + 1) 73 lv st h = am_f d scr L call 128 n 203 lv st h := k_nx (i := .goto 130) rfl rfl
theorem s_128_76 (d L n : Nat) (scr : Nat → Int32) (call : Nat → List Value → am_H → Option am_X) (lv : am_L) (st : List Value) (h : am_H) : am_f d scr L call 128 (n + 1) 76 lv st h = (match am_ld lv 3 with
    | some (.int x) => am_f d scr L call 128 n 77 lv (.int x :: st) h
    | _ => none) := k_li (i := .iload_n 3) rfl rfl rfl rfl
theorem s_128_77 (d L n : Nat) (scr : Nat → Int32) (call : Nat → List Value → am_H → Option am_X) (lv : am_L) (st : List Value) (h : am_H) : am_f d scr L call 128 (n + 1) 77 lv st h = am_f d scr L call 128 n 78 lv (.int 5 :: st) h := k_nx (i := .iconst 5) rfl rfl
theorem s_128_78 (d L n : Nat) (scr : Nat → Int32) (call : Nat → List Value → am_H → Option am_X) (lv : am_L) (st : List Value) (h : am_H) (x y : Int32) : am_f d scr L call 128 (n + 1) 78 lv (.int y :: .int x :: st) h = if ¬ x = y then am_f d scr L call 128 n 116 lv st h else am_f d scr L call 128 n 81 lv st h := k_ic_ne (o := 38) rfl ⟨by decide, rfl⟩
theorem s_128_81 (d L n : Nat) (scr : Nat → Int32) (call : Nat → List Value → am_H → Option am_X) (lv : am_L) (st : List Value) (h : am_H) : am_f d scr L call 128 (n + 1) 81 lv st h = (match am_ld lv 0 with
    | some (.ref x) => am_f d scr L call 128 n 82 lv (.ref x :: st) h
    | _ => none) := k_la (i := .aload_n 0) rfl rfl rfl rfl
theorem s_128_82 (d L n : Nat) (scr : Nat → Int32) (call : Nat → List Value → am_H → Option am_X) (lv : am_L) (st : List Value) (h : am_H) : am_f d scr L call 128 (n + 1) 82 lv st h = (match am_ld lv 2 with
    | some (.int x) => am_f d scr L call 128 n 83 lv (.int x :: st) h
    | _ => none) := k_li (i := .iload_n 2) rfl rfl rfl rfl
theorem s_128_83 (d L n : Nat) (scr : Nat → Int32) (call : Nat → List Value → am_H → Option am_X) (lv : am_L) (st : List Value) (h : am_H) : am_f d scr L call 128 (n + 1) 83 lv st h = (match am_ld lv 5 with
    | some (.int x) => am_f d scr L call 128 n 85 lv (.int x :: st) h
    | _ => none) := k_li (i := .iload 5) rfl rfl rfl rfl
theorem s_128_85 (d L n : Nat) (scr : Nat → Int32) (call : Nat → List Value → am_H → Option am_X) (lv : am_L) (h : am_H) (o : Nat) (a0 : Int32) (a1 : Int32)  : am_f d scr L call 128 (n + 1) 85 lv (.int a1 :: .int a0 :: .ref o :: []) h = if am_at h o 8 = true then (match call 118 [.ref o, .int a0, .int a1] h with
    | some (v, h', dk, dn) => am_add dk dn (am_f d scr L call 128 n 88 lv (v.toList ++ []) h')
    | none => none) else none := k_iv0 (k := 296) (as := [.int a0, .int a1]) (r := []) rfl rfl rfl rfl (Nat.le_of_ble_eq_true rfl)
theorem s_128_88 (d L n : Nat) (scr : Nat → Int32) (call : Nat → List Value → am_H → Option am_X) (lv : am_L) (st : List Value) (h : am_H) (x : Int32) : am_f d scr L call 128 (n + 1) 88 lv (.int x :: st) h = am_f d scr L call 128 n 90 (am_st1 lv 6 (.int x)) st h := k_nx (i := .istore 6) rfl rfl
theorem s_128_90 (d L n : Nat) (scr : Nat → Int32) (call : Nat → List Value → am_H → Option am_X) (lv : am_L) (st : List Value) (h : am_H) : am_f d scr L call 128 (n + 1) 90 lv st h = (match am_ld lv 0 with
    | some (.ref x) => am_f d scr L call 128 n 91 lv (.ref x :: st) h
    | _ => none) := k_la (i := .aload_n 0) rfl rfl rfl rfl
theorem s_128_91 (d L n : Nat) (scr : Nat → Int32) (call : Nat → List Value → am_H → Option am_X) (lv : am_L) (st : List Value) (h : am_H) (a : Nat) : am_f d scr L call 128 (n + 1) 91 lv (.ref a :: st) h = (match am_get h a 8 50 with
    | some v => am_f d scr L call 128 n 94 lv (v :: st) h
    | none => none) := k_gf (k := 111) rfl rfl
theorem s_128_94 (d L n : Nat) (scr : Nat → Int32) (call : Nat → List Value → am_H → Option am_X) (lv : am_L) (st : List Value) (h : am_H) : am_f d scr L call 128 (n + 1) 94 lv st h = (match am_ld lv 0 with
    | some (.ref x) => am_f d scr L call 128 n 95 lv (.ref x :: st) h
    | _ => none) := k_la (i := .aload_n 0) rfl rfl rfl rfl
theorem s_128_95 (d L n : Nat) (scr : Nat → Int32) (call : Nat → List Value → am_H → Option am_X) (lv : am_L) (st : List Value) (h : am_H) (a : Nat) : am_f d scr L call 128 (n + 1) 95 lv (.ref a :: st) h = (match am_get h a 8 33 with
    | some v => am_f d scr L call 128 n 98 lv (v :: st) h
    | none => none) := k_gf (k := 72) rfl rfl
theorem s_128_98 (d L n : Nat) (scr : Nat → Int32) (call : Nat → List Value → am_H → Option am_X) (lv : am_L) (st : List Value) (h : am_H) : am_f d scr L call 128 (n + 1) 98 lv st h = (match am_ld lv 0 with
    | some (.ref x) => am_f d scr L call 128 n 99 lv (.ref x :: st) h
    | _ => none) := k_la (i := .aload_n 0) rfl rfl rfl rfl
theorem s_128_99 (d L n : Nat) (scr : Nat → Int32) (call : Nat → List Value → am_H → Option am_X) (lv : am_L) (st : List Value) (h : am_H) : am_f d scr L call 128 (n + 1) 99 lv st h = (match am_ld lv 2 with
    | some (.int x) => am_f d scr L call 128 n 100 lv (.int x :: st) h
    | _ => none) := k_li (i := .iload_n 2) rfl rfl rfl rfl
theorem s_128_100 (d L n : Nat) (scr : Nat → Int32) (call : Nat → List Value → am_H → Option am_X) (lv : am_L) (h : am_H) (o : Nat) (a0 : Int32) (r0 : Nat) (r1 : Nat) : am_f d scr L call 128 (n + 1) 100 lv (.int a0 :: .ref o :: .ref r0 :: .ref r1 :: []) h = if am_at h o 8 = true then (match call 115 [.ref o, .int a0] h with
    | some (v, h', dk, dn) => am_add dk dn (am_f d scr L call 128 n 103 lv (v.toList ++ [.ref r0, .ref r1]) h')
    | none => none) else none := k_iv0 (k := 282) (as := [.int a0]) (r := [.ref r0, .ref r1]) rfl rfl rfl rfl (Nat.le_of_ble_eq_true rfl)
theorem s_128_103 (d L n : Nat) (scr : Nat → Int32) (call : Nat → List Value → am_H → Option am_X) (lv : am_L) (st : List Value) (h : am_H) (a : Nat) (i : Int32) : am_f d scr L call 128 (n + 1) 103 lv (.int i :: .ref a :: st) h = (match am_ild scr L h a i with
    | some x => am_f d scr L call 128 n 104 lv (.int x :: st) h
    | none => none) := k_ia rfl
theorem s_128_104 (d L n : Nat) (scr : Nat → Int32) (call : Nat → List Value → am_H → Option am_X) (lv : am_L) (st : List Value) (h : am_H) : am_f d scr L call 128 (n + 1) 104 lv st h = (match am_ld lv 6 with
    | some (.int x) => am_f d scr L call 128 n 106 lv (.int x :: st) h
    | _ => none) := k_li (i := .iload 6) rfl rfl rfl rfl
theorem s_128_106 (d L n : Nat) (scr : Nat → Int32) (call : Nat → List Value → am_H → Option am_X) (lv : am_L) (st : List Value) (h : am_H) (a : Nat) (i : Int32) (x : Int32) : am_f d scr L call 128 (n + 1) 106 lv (.int x :: .int i :: .ref a :: st) h = (match am_ist h a i x with
    | some h' => am_f d scr L call 128 n 107 lv st h'
    | none => none) := k_is rfl
theorem s_128_107 (d L n : Nat) (scr : Nat → Int32) (call : Nat → List Value → am_H → Option am_X) (lv : am_L) (st : List Value) (h : am_H) : am_f d scr L call 128 (n + 1) 107 lv st h = (match am_ld lv 0 with
    | some (.ref x) => am_f d scr L call 128 n 108 lv (.ref x :: st) h
    | _ => none) := k_la (i := .aload_n 0) rfl rfl rfl rfl
theorem s_128_108 (d L n : Nat) (scr : Nat → Int32) (call : Nat → List Value → am_H → Option am_X) (lv : am_L) (st : List Value) (h : am_H) : am_f d scr L call 128 (n + 1) 108 lv st h = (match am_ld lv 5 with
    | some (.int x) => am_f d scr L call 128 n 110 lv (.int x :: st) h
    | _ => none) := k_li (i := .iload 5) rfl rfl rfl rfl
theorem s_128_110 (d L n : Nat) (scr : Nat → Int32) (call : Nat → List Value → am_H → Option am_X) (lv : am_L) (h : am_H) (o : Nat) (a0 : Int32)  : am_f d scr L call 128 (n + 1) 110 lv (.int a0 :: .ref o :: []) h = if am_at h o 8 = true then (match call 122 [.ref o, .int a0] h with
    | some (v, h', dk, dn) => am_add dk dn (am_f d scr L call 128 n 113 lv (v.toList ++ []) h')
    | none => none) else none := k_iv0 (k := 266) (as := [.int a0]) (r := []) rfl rfl rfl rfl (Nat.le_of_ble_eq_true rfl)
theorem s_128_113 (d L n : Nat) (scr : Nat → Int32) (call : Nat → List Value → am_H → Option am_X) (lv : am_L) (st : List Value) (h : am_H) : am_f d scr L call 128 (n + 1) 113 lv st h = am_f d scr L call 128 n 203 lv st h := k_nx (i := .goto 90) rfl rfl
theorem s_128_116 (d L n : Nat) (scr : Nat → Int32) (call : Nat → List Value → am_H → Option am_X) (lv : am_L) (st : List Value) (h : am_H) : am_f d scr L call 128 (n + 1) 116 lv st h = (match am_ld lv 3 with
    | some (.int x) => am_f d scr L call 128 n 117 lv (.int x :: st) h
    | _ => none) := k_li (i := .iload_n 3) rfl rfl rfl rfl
theorem s_128_117 (d L n : Nat) (scr : Nat → Int32) (call : Nat → List Value → am_H → Option am_X) (lv : am_L) (st : List Value) (h : am_H) : am_f d scr L call 128 (n + 1) 117 lv st h = am_f d scr L call 128 n 119 lv (.int 8 :: st) h := k_nx (i := .bipush 8) rfl rfl
theorem s_128_119 (d L n : Nat) (scr : Nat → Int32) (call : Nat → List Value → am_H → Option am_X) (lv : am_L) (st : List Value) (h : am_H) (x y : Int32) : am_f d scr L call 128 (n + 1) 119 lv (.int y :: .int x :: st) h = if ¬ x = y then am_f d scr L call 128 n 156 lv st h else am_f d scr L call 128 n 122 lv st h := k_ic_ne (o := 37) rfl ⟨by decide, rfl⟩
theorem s_128_122 (d L n : Nat) (scr : Nat → Int32) (call : Nat → List Value → am_H → Option am_X) (lv : am_L) (st : List Value) (h : am_H) : am_f d scr L call 128 (n + 1) 122 lv st h = (match am_ld lv 0 with
    | some (.ref x) => am_f d scr L call 128 n 123 lv (.ref x :: st) h
    | _ => none) := k_la (i := .aload_n 0) rfl rfl rfl rfl
theorem s_128_123 (d L n : Nat) (scr : Nat → Int32) (call : Nat → List Value → am_H → Option am_X) (lv : am_L) (st : List Value) (h : am_H) : am_f d scr L call 128 (n + 1) 123 lv st h = (match am_ld lv 0 with
    | some (.ref x) => am_f d scr L call 128 n 124 lv (.ref x :: st) h
    | _ => none) := k_la (i := .aload_n 0) rfl rfl rfl rfl
theorem s_128_124 (d L n : Nat) (scr : Nat → Int32) (call : Nat → List Value → am_H → Option am_X) (lv : am_L) (st : List Value) (h : am_H) : am_f d scr L call 128 (n + 1) 124 lv st h = am_f d scr L call 128 n 125 lv (.int 1 :: st) h := k_nx (i := .iconst 1) rfl rfl
theorem s_128_125 (d L n : Nat) (scr : Nat → Int32) (call : Nat → List Value → am_H → Option am_X) (lv : am_L) (st : List Value) (h : am_H) : am_f d scr L call 128 (n + 1) 125 lv st h = (match am_ld lv 0 with
    | some (.ref x) => am_f d scr L call 128 n 126 lv (.ref x :: st) h
    | _ => none) := k_la (i := .aload_n 0) rfl rfl rfl rfl
theorem s_128_126 (d L n : Nat) (scr : Nat → Int32) (call : Nat → List Value → am_H → Option am_X) (lv : am_L) (st : List Value) (h : am_H) (a : Nat) : am_f d scr L call 128 (n + 1) 126 lv (.ref a :: st) h = (match am_get h a 8 33 with
    | some v => am_f d scr L call 128 n 129 lv (v :: st) h
    | none => none) := k_gf (k := 72) rfl rfl
theorem s_128_129 (d L n : Nat) (scr : Nat → Int32) (call : Nat → List Value → am_H → Option am_X) (lv : am_L) (st : List Value) (h : am_H) : am_f d scr L call 128 (n + 1) 129 lv st h = (match am_ld lv 2 with
    | some (.int x) => am_f d scr L call 128 n 130 lv (.int x :: st) h
    | _ => none) := k_li (i := .iload_n 2) rfl rfl rfl rfl
theorem s_128_130 (d L n : Nat) (scr : Nat → Int32) (call : Nat → List Value → am_H → Option am_X) (lv : am_L) (st : List Value) (h : am_H) (a : Nat) (i : Int32) : am_f d scr L call 128 (n + 1) 130 lv (.int i :: .ref a :: st) h = (match am_ild scr L h a i with
    | some x => am_f d scr L call 128 n 131 lv (.int x :: st) h
    | none => none) := k_ia rfl
theorem s_128_131 (d L n : Nat) (scr : Nat → Int32) (call : Nat → List Value → am_H → Option am_X) (lv : am_L) (st : List Value) (h : am_H) : am_f d scr L call 128 (n + 1) 131 lv st h = (match am_ld lv 0 with
    | some (.ref x) => am_f d scr L call 128 n 132 lv (.ref x :: st) h
    | _ => none) := k_la (i := .aload_n 0) rfl rfl rfl rfl
theorem s_128_132 (d L n : Nat) (scr : Nat → Int32) (call : Nat → List Value → am_H → Option am_X) (lv : am_L) (st : List Value) (h : am_H) (a : Nat) : am_f d scr L call 128 (n + 1) 132 lv (.ref a :: st) h = (match am_get h a 8 33 with
    | some v => am_f d scr L call 128 n 135 lv (v :: st) h
    | none => none) := k_gf (k := 72) rfl rfl
theorem s_128_135 (d L n : Nat) (scr : Nat → Int32) (call : Nat → List Value → am_H → Option am_X) (lv : am_L) (st : List Value) (h : am_H) : am_f d scr L call 128 (n + 1) 135 lv st h = (match am_ld lv 5 with
    | some (.int x) => am_f d scr L call 128 n 137 lv (.int x :: st) h
    | _ => none) := k_li (i := .iload 5) rfl rfl rfl rfl
theorem s_128_137 (d L n : Nat) (scr : Nat → Int32) (call : Nat → List Value → am_H → Option am_X) (lv : am_L) (st : List Value) (h : am_H) (a : Nat) (i : Int32) : am_f d scr L call 128 (n + 1) 137 lv (.int i :: .ref a :: st) h = (match am_ild scr L h a i with
    | some x => am_f d scr L call 128 n 138 lv (.int x :: st) h
    | none => none) := k_ia rfl
theorem s_128_138 (d L n : Nat) (scr : Nat → Int32) (call : Nat → List Value → am_H → Option am_X) (lv : am_L) (st : List Value) (h : am_H) (x y : Int32) : am_f d scr L call 128 (n + 1) 138 lv (.int y :: .int x :: st) h = if y ≤ x then am_f d scr L call 128 n 145 lv st h else am_f d scr L call 128 n 141 lv st h := k_ic_ge (o := 7) rfl ⟨by decide, rfl⟩
set_option maxRecDepth 100000 in
theorem s_128_141 (d L n : Nat) (scr : Nat → Int32) (call : Nat → List Value → am_H → Option am_X) (lv : am_L) (st : List Value) (h : am_H) : am_f d scr L call 128 (n + 1) 141 lv st h = am_f d scr L call 128 n 142 lv (.int 1 :: st) h := k_nx (i := .iconst 1) rfl rfl
set_option maxRecDepth 100000 in
theorem s_128_142 (d L n : Nat) (scr : Nat → Int32) (call : Nat → List Value → am_H → Option am_X) (lv : am_L) (st : List Value) (h : am_H) : am_f d scr L call 128 (n + 1) 142 lv st h = am_f d scr L call 128 n 146 lv st h := k_nx (i := .goto 4) rfl rfl
set_option maxRecDepth 100000 in
theorem s_128_145 (d L n : Nat) (scr : Nat → Int32) (call : Nat → List Value → am_H → Option am_X) (lv : am_L) (st : List Value) (h : am_H) : am_f d scr L call 128 (n + 1) 145 lv st h = am_f d scr L call 128 n 146 lv (.int 0 :: st) h := k_nx (i := .iconst 0) rfl rfl
set_option maxRecDepth 100000 in
theorem s_128_146 (d L n : Nat) (scr : Nat → Int32) (call : Nat → List Value → am_H → Option am_X) (lv : am_L) (st : List Value) (h : am_H) : am_f d scr L call 128 (n + 1) 146 lv st h = am_f d scr L call 128 n 147 lv (.int 0 :: st) h := k_nx (i := .iconst 0) rfl rfl
set_option maxRecDepth 100000 in
theorem s_128_147 (d L n : Nat) (scr : Nat → Int32) (call : Nat → List Value → am_H → Option am_X) (lv : am_L) (h : am_H) (o : Nat) (a0 : Int32) (a1 : Int32) (a2 : Int32) (r0 : Nat) : am_f d scr L call 128 (n + 1) 147 lv (.int a2 :: .int a1 :: .int a0 :: .ref o :: .ref r0 :: []) h = if am_at h o 8 = true then (match call 112 [.ref o, .int a0, .int a1, .int a2] h with
    | some (v, h', dk, dn) => am_add dk dn (am_f d scr L call 128 n 150 lv (v.toList ++ [.ref r0]) h')
    | none => none) else none := k_iv0 (k := 231) (as := [.int a0, .int a1, .int a2]) (r := [.ref r0]) rfl rfl rfl rfl (Nat.le_of_ble_eq_true rfl)
set_option maxRecDepth 100000 in
theorem s_128_150 (d L n : Nat) (scr : Nat → Int32) (call : Nat → List Value → am_H → Option am_X) (lv : am_L) (h : am_H) (o : Nat) (a0 : Int32)  : am_f d scr L call 128 (n + 1) 150 lv (.int a0 :: .ref o :: []) h = if am_at h o 8 = true then (match call 122 [.ref o, .int a0] h with
    | some (v, h', dk, dn) => am_add dk dn (am_f d scr L call 128 n 153 lv (v.toList ++ []) h')
    | none => none) else none := k_iv0 (k := 266) (as := [.int a0]) (r := []) rfl rfl rfl rfl (Nat.le_of_ble_eq_true rfl)
set_option maxRecDepth 100000 in
theorem s_128_153 (d L n : Nat) (scr : Nat → Int32) (call : Nat → List Value → am_H → Option am_X) (lv : am_L) (st : List Value) (h : am_H) : am_f d scr L call 128 (n + 1) 153 lv st h = am_f d scr L call 128 n 203 lv st h := k_nx (i := .goto 50) rfl rfl
set_option maxRecDepth 100000 in
theorem s_128_156 (d L n : Nat) (scr : Nat → Int32) (call : Nat → List Value → am_H → Option am_X) (lv : am_L) (st : List Value) (h : am_H) : am_f d scr L call 128 (n + 1) 156 lv st h = (match am_ld lv 0 with
    | some (.ref x) => am_f d scr L call 128 n 157 lv (.ref x :: st) h
    | _ => none) := k_la (i := .aload_n 0) rfl rfl rfl rfl
set_option maxRecDepth 100000 in
theorem s_128_157 (d L n : Nat) (scr : Nat → Int32) (call : Nat → List Value → am_H → Option am_X) (lv : am_L) (st : List Value) (h : am_H) : am_f d scr L call 128 (n + 1) 157 lv st h = (match am_ld lv 0 with
    | some (.ref x) => am_f d scr L call 128 n 158 lv (.ref x :: st) h
    | _ => none) := k_la (i := .aload_n 0) rfl rfl rfl rfl
set_option maxRecDepth 100000 in
theorem s_128_158 (d L n : Nat) (scr : Nat → Int32) (call : Nat → List Value → am_H → Option am_X) (lv : am_L) (st : List Value) (h : am_H) : am_f d scr L call 128 (n + 1) 158 lv st h = am_f d scr L call 128 n 159 lv (.int 0 :: st) h := k_nx (i := .iconst 0) rfl rfl
set_option maxRecDepth 100000 in
theorem s_128_159 (d L n : Nat) (scr : Nat → Int32) (call : Nat → List Value → am_H → Option am_X) (lv : am_L) (st : List Value) (h : am_H) : am_f d scr L call 128 (n + 1) 159 lv st h = (match am_ld lv 3 with
    | some (.int x) => am_f d scr L call 128 n 160 lv (.int x :: st) h
    | _ => none) := k_li (i := .iload_n 3) rfl rfl rfl rfl
set_option maxRecDepth 100000 in
theorem s_128_160 (d L n : Nat) (scr : Nat → Int32) (call : Nat → List Value → am_H → Option am_X) (lv : am_L) (st : List Value) (h : am_H) : am_f d scr L call 128 (n + 1) 160 lv st h = am_f d scr L call 128 n 162 lv (.int 6 :: st) h := k_nx (i := .bipush 6) rfl rfl
set_option maxRecDepth 100000 in
theorem s_128_162 (d L n : Nat) (scr : Nat → Int32) (call : Nat → List Value → am_H → Option am_X) (lv : am_L) (st : List Value) (h : am_H) (x y : Int32) : am_f d scr L call 128 (n + 1) 162 lv (.int y :: .int x :: st) h = if ¬ x = y then am_f d scr L call 128 n 182 lv st h else am_f d scr L call 128 n 165 lv st h := k_ic_ne (o := 20) rfl ⟨by decide, rfl⟩
set_option maxRecDepth 100000 in
theorem s_128_165 (d L n : Nat) (scr : Nat → Int32) (call : Nat → List Value → am_H → Option am_X) (lv : am_L) (st : List Value) (h : am_H) : am_f d scr L call 128 (n + 1) 165 lv st h = (match am_ld lv 0 with
    | some (.ref x) => am_f d scr L call 128 n 166 lv (.ref x :: st) h
    | _ => none) := k_la (i := .aload_n 0) rfl rfl rfl rfl
set_option maxRecDepth 100000 in
theorem s_128_166 (d L n : Nat) (scr : Nat → Int32) (call : Nat → List Value → am_H → Option am_X) (lv : am_L) (st : List Value) (h : am_H) (a : Nat) : am_f d scr L call 128 (n + 1) 166 lv (.ref a :: st) h = (match am_get h a 8 33 with
    | some v => am_f d scr L call 128 n 169 lv (v :: st) h
    | none => none) := k_gf (k := 72) rfl rfl
set_option maxRecDepth 100000 in
theorem s_128_169 (d L n : Nat) (scr : Nat → Int32) (call : Nat → List Value → am_H → Option am_X) (lv : am_L) (st : List Value) (h : am_H) : am_f d scr L call 128 (n + 1) 169 lv st h = (match am_ld lv 2 with
    | some (.int x) => am_f d scr L call 128 n 170 lv (.int x :: st) h
    | _ => none) := k_li (i := .iload_n 2) rfl rfl rfl rfl
set_option maxRecDepth 100000 in
theorem s_128_170 (d L n : Nat) (scr : Nat → Int32) (call : Nat → List Value → am_H → Option am_X) (lv : am_L) (st : List Value) (h : am_H) (a : Nat) (i : Int32) : am_f d scr L call 128 (n + 1) 170 lv (.int i :: .ref a :: st) h = (match am_ild scr L h a i with
    | some x => am_f d scr L call 128 n 171 lv (.int x :: st) h
    | none => none) := k_ia rfl
set_option maxRecDepth 100000 in
theorem s_128_171 (d L n : Nat) (scr : Nat → Int32) (call : Nat → List Value → am_H → Option am_X) (lv : am_L) (st : List Value) (h : am_H) : am_f d scr L call 128 (n + 1) 171 lv st h = (match am_ld lv 0 with
    | some (.ref x) => am_f d scr L call 128 n 172 lv (.ref x :: st) h
    | _ => none) := k_la (i := .aload_n 0) rfl rfl rfl rfl
set_option maxRecDepth 100000 in
theorem s_128_172 (d L n : Nat) (scr : Nat → Int32) (call : Nat → List Value → am_H → Option am_X) (lv : am_L) (st : List Value) (h : am_H) (a : Nat) : am_f d scr L call 128 (n + 1) 172 lv (.ref a :: st) h = (match am_get h a 8 33 with
    | some v => am_f d scr L call 128 n 175 lv (v :: st) h
    | none => none) := k_gf (k := 72) rfl rfl
set_option maxRecDepth 100000 in
theorem s_128_175 (d L n : Nat) (scr : Nat → Int32) (call : Nat → List Value → am_H → Option am_X) (lv : am_L) (st : List Value) (h : am_H) : am_f d scr L call 128 (n + 1) 175 lv st h = (match am_ld lv 5 with
    | some (.int x) => am_f d scr L call 128 n 177 lv (.int x :: st) h
    | _ => none) := k_li (i := .iload 5) rfl rfl rfl rfl
set_option maxRecDepth 100000 in
theorem s_128_177 (d L n : Nat) (scr : Nat → Int32) (call : Nat → List Value → am_H → Option am_X) (lv : am_L) (st : List Value) (h : am_H) (a : Nat) (i : Int32) : am_f d scr L call 128 (n + 1) 177 lv (.int i :: .ref a :: st) h = (match am_ild scr L h a i with
    | some x => am_f d scr L call 128 n 178 lv (.int x :: st) h
    | none => none) := k_ia rfl
set_option maxRecDepth 100000 in
theorem s_128_178 (d L n : Nat) (scr : Nat → Int32) (call : Nat → List Value → am_H → Option am_X) (lv : am_L) (st : List Value) (h : am_H) (x y : Int32) : am_f d scr L call 128 (n + 1) 178 lv (.int y :: .int x :: st) h = am_f d scr L call 128 n 179 lv (.int (x + y) :: st) h := k_nx (i := .iadd) rfl rfl
set_option maxRecDepth 100000 in
theorem s_128_179 (d L n : Nat) (scr : Nat → Int32) (call : Nat → List Value → am_H → Option am_X) (lv : am_L) (st : List Value) (h : am_H) : am_f d scr L call 128 (n + 1) 179 lv st h = am_f d scr L call 128 n 196 lv st h := k_nx (i := .goto 17) rfl rfl
set_option maxRecDepth 100000 in
theorem s_128_182 (d L n : Nat) (scr : Nat → Int32) (call : Nat → List Value → am_H → Option am_X) (lv : am_L) (st : List Value) (h : am_H) : am_f d scr L call 128 (n + 1) 182 lv st h = (match am_ld lv 0 with
    | some (.ref x) => am_f d scr L call 128 n 183 lv (.ref x :: st) h
    | _ => none) := k_la (i := .aload_n 0) rfl rfl rfl rfl
set_option maxRecDepth 100000 in
theorem s_128_183 (d L n : Nat) (scr : Nat → Int32) (call : Nat → List Value → am_H → Option am_X) (lv : am_L) (st : List Value) (h : am_H) (a : Nat) : am_f d scr L call 128 (n + 1) 183 lv (.ref a :: st) h = (match am_get h a 8 33 with
    | some v => am_f d scr L call 128 n 186 lv (v :: st) h
    | none => none) := k_gf (k := 72) rfl rfl
set_option maxRecDepth 100000 in
theorem s_128_186 (d L n : Nat) (scr : Nat → Int32) (call : Nat → List Value → am_H → Option am_X) (lv : am_L) (st : List Value) (h : am_H) : am_f d scr L call 128 (n + 1) 186 lv st h = (match am_ld lv 2 with
    | some (.int x) => am_f d scr L call 128 n 187 lv (.int x :: st) h
    | _ => none) := k_li (i := .iload_n 2) rfl rfl rfl rfl
set_option maxRecDepth 100000 in
theorem s_128_187 (d L n : Nat) (scr : Nat → Int32) (call : Nat → List Value → am_H → Option am_X) (lv : am_L) (st : List Value) (h : am_H) (a : Nat) (i : Int32) : am_f d scr L call 128 (n + 1) 187 lv (.int i :: .ref a :: st) h = (match am_ild scr L h a i with
    | some x => am_f d scr L call 128 n 188 lv (.int x :: st) h
    | none => none) := k_ia rfl
set_option maxRecDepth 100000 in
theorem s_128_188 (d L n : Nat) (scr : Nat → Int32) (call : Nat → List Value → am_H → Option am_X) (lv : am_L) (st : List Value) (h : am_H) : am_f d scr L call 128 (n + 1) 188 lv st h = (match am_ld lv 0 with
    | some (.ref x) => am_f d scr L call 128 n 189 lv (.ref x :: st) h
    | _ => none) := k_la (i := .aload_n 0) rfl rfl rfl rfl
set_option maxRecDepth 100000 in
theorem s_128_189 (d L n : Nat) (scr : Nat → Int32) (call : Nat → List Value → am_H → Option am_X) (lv : am_L) (st : List Value) (h : am_H) (a : Nat) : am_f d scr L call 128 (n + 1) 189 lv (.ref a :: st) h = (match am_get h a 8 33 with
    | some v => am_f d scr L call 128 n 192 lv (v :: st) h
    | none => none) := k_gf (k := 72) rfl rfl
set_option maxRecDepth 100000 in
theorem s_128_192 (d L n : Nat) (scr : Nat → Int32) (call : Nat → List Value → am_H → Option am_X) (lv : am_L) (st : List Value) (h : am_H) : am_f d scr L call 128 (n + 1) 192 lv st h = (match am_ld lv 5 with
    | some (.int x) => am_f d scr L call 128 n 194 lv (.int x :: st) h
    | _ => none) := k_li (i := .iload 5) rfl rfl rfl rfl
set_option maxRecDepth 100000 in
theorem s_128_194 (d L n : Nat) (scr : Nat → Int32) (call : Nat → List Value → am_H → Option am_X) (lv : am_L) (st : List Value) (h : am_H) (a : Nat) (i : Int32) : am_f d scr L call 128 (n + 1) 194 lv (.int i :: .ref a :: st) h = (match am_ild scr L h a i with
    | some x => am_f d scr L call 128 n 195 lv (.int x :: st) h
    | none => none) := k_ia rfl
set_option maxRecDepth 100000 in
theorem s_128_195 (d L n : Nat) (scr : Nat → Int32) (call : Nat → List Value → am_H → Option am_X) (lv : am_L) (st : List Value) (h : am_H) (x y : Int32) : am_f d scr L call 128 (n + 1) 195 lv (.int y :: .int x :: st) h = am_f d scr L call 128 n 196 lv (.int (x - y) :: st) h := k_nx (i := .isub) rfl rfl
set_option maxRecDepth 100000 in
theorem s_128_196 (d L n : Nat) (scr : Nat → Int32) (call : Nat → List Value → am_H → Option am_X) (lv : am_L) (st : List Value) (h : am_H) : am_f d scr L call 128 (n + 1) 196 lv st h = am_f d scr L call 128 n 197 lv (.int 0 :: st) h := k_nx (i := .iconst 0) rfl rfl
set_option maxRecDepth 100000 in
theorem s_128_197 (d L n : Nat) (scr : Nat → Int32) (call : Nat → List Value → am_H → Option am_X) (lv : am_L) (h : am_H) (o : Nat) (a0 : Int32) (a1 : Int32) (a2 : Int32) (r0 : Nat) : am_f d scr L call 128 (n + 1) 197 lv (.int a2 :: .int a1 :: .int a0 :: .ref o :: .ref r0 :: []) h = if am_at h o 8 = true then (match call 112 [.ref o, .int a0, .int a1, .int a2] h with
    | some (v, h', dk, dn) => am_add dk dn (am_f d scr L call 128 n 200 lv (v.toList ++ [.ref r0]) h')
    | none => none) else none := k_iv0 (k := 231) (as := [.int a0, .int a1, .int a2]) (r := [.ref r0]) rfl rfl rfl rfl (Nat.le_of_ble_eq_true rfl)
set_option maxRecDepth 100000 in
theorem s_128_200 (d L n : Nat) (scr : Nat → Int32) (call : Nat → List Value → am_H → Option am_X) (lv : am_L) (h : am_H) (o : Nat) (a0 : Int32)  : am_f d scr L call 128 (n + 1) 200 lv (.int a0 :: .ref o :: []) h = if am_at h o 8 = true then (match call 122 [.ref o, .int a0] h with
    | some (v, h', dk, dn) => am_add dk dn (am_f d scr L call 128 n 203 lv (v.toList ++ []) h')
    | none => none) else none := k_iv0 (k := 266) (as := [.int a0]) (r := []) rfl rfl rfl rfl (Nat.le_of_ble_eq_true rfl)
set_option maxRecDepth 100000 in
theorem s_128_203 (d L n : Nat) (scr : Nat → Int32) (call : Nat → List Value → am_H → Option am_X) (lv : am_L) (h : am_H) : am_f d scr L call 128 (n + 1) 203 lv [] h = some (none, h, 0, 0) := k_vr rfl rfl
-- 129: BlameDeskModel.call(II)V
theorem s_129_0 (d L n : Nat) (scr : Nat → Int32) (call : Nat → List Value → am_H → Option am_X) (lv : am_L) (st : List Value) (h : am_H) : am_f d scr L call 129 (n + 1) 0 lv st h = (match am_ld lv 0 with
    | some (.ref x) => am_f d scr L call 129 n 1 lv (.ref x :: st) h
    | _ => none) := k_la (i := .aload_n 0) rfl rfl rfl rfl
theorem s_129_1 (d L n : Nat) (scr : Nat → Int32) (call : Nat → List Value → am_H → Option am_X) (lv : am_L) (st : List Value) (h : am_H) : am_f d scr L call 129 (n + 1) 1 lv st h = (match am_ld lv 1 with
    | some (.int x) => am_f d scr L call 129 n 2 lv (.int x :: st) h
    | _ => none) := k_li (i := .iload_n 1) rfl rfl rfl rfl
theorem s_129_2 (d L n : Nat) (scr : Nat → Int32) (call : Nat → List Value → am_H → Option am_X) (lv : am_L) (st : List Value) (h : am_H) : am_f d scr L call 129 (n + 1) 2 lv st h = (match am_ld lv 2 with
    | some (.int x) => am_f d scr L call 129 n 3 lv (.int x :: st) h
    | _ => none) := k_li (i := .iload_n 2) rfl rfl rfl rfl
theorem s_129_3 (d L n : Nat) (scr : Nat → Int32) (call : Nat → List Value → am_H → Option am_X) (lv : am_L) (h : am_H) (o : Nat) (a0 : Int32) (a1 : Int32)  : am_f d scr L call 129 (n + 1) 3 lv (.int a1 :: .int a0 :: .ref o :: []) h = if am_at h o 8 = true then (match call 118 [.ref o, .int a0, .int a1] h with
    | some (v, h', dk, dn) => am_add dk dn (am_f d scr L call 129 n 6 lv (v.toList ++ []) h')
    | none => none) else none := k_iv0 (k := 296) (as := [.int a0, .int a1]) (r := []) rfl rfl rfl rfl (Nat.le_of_ble_eq_true rfl)
theorem s_129_6 (d L n : Nat) (scr : Nat → Int32) (call : Nat → List Value → am_H → Option am_X) (lv : am_L) (st : List Value) (h : am_H) (x : Int32) : am_f d scr L call 129 (n + 1) 6 lv (.int x :: st) h = am_f d scr L call 129 n 7 (am_st1 lv 3 (.int x)) st h := k_nx (i := .istore_n 3) rfl rfl
theorem s_129_7 (d L n : Nat) (scr : Nat → Int32) (call : Nat → List Value → am_H → Option am_X) (lv : am_L) (st : List Value) (h : am_H) : am_f d scr L call 129 (n + 1) 7 lv st h = (match am_ld lv 0 with
    | some (.ref x) => am_f d scr L call 129 n 8 lv (.ref x :: st) h
    | _ => none) := k_la (i := .aload_n 0) rfl rfl rfl rfl
theorem s_129_8 (d L n : Nat) (scr : Nat → Int32) (call : Nat → List Value → am_H → Option am_X) (lv : am_L) (st : List Value) (h : am_H) (a : Nat) : am_f d scr L call 129 (n + 1) 8 lv (.ref a :: st) h = (match am_get h a 8 51 with
    | some v => am_f d scr L call 129 n 11 lv (v :: st) h
    | none => none) := k_gf (k := 216) rfl rfl
theorem s_129_11 (d L n : Nat) (scr : Nat → Int32) (call : Nat → List Value → am_H → Option am_X) (lv : am_L) (st : List Value) (h : am_H) (x : Int32) : am_f d scr L call 129 (n + 1) 11 lv (.int x :: st) h = if x = 0 then am_f d scr L call 129 n 15 lv st h else am_f d scr L call 129 n 14 lv st h := k_if_eq (o := 4) rfl ⟨by decide, rfl⟩
theorem s_129_14 (d L n : Nat) (scr : Nat → Int32) (call : Nat → List Value → am_H → Option am_X) (lv : am_L) (h : am_H) : am_f d scr L call 129 (n + 1) 14 lv [] h = some (none, h, 0, 0) := k_vr rfl rfl
theorem s_129_15 (d L n : Nat) (scr : Nat → Int32) (call : Nat → List Value → am_H → Option am_X) (lv : am_L) (st : List Value) (h : am_H) : am_f d scr L call 129 (n + 1) 15 lv st h = (match am_ld lv 0 with
    | some (.ref x) => am_f d scr L call 129 n 16 lv (.ref x :: st) h
    | _ => none) := k_la (i := .aload_n 0) rfl rfl rfl rfl
theorem s_129_16 (d L n : Nat) (scr : Nat → Int32) (call : Nat → List Value → am_H → Option am_X) (lv : am_L) (st : List Value) (h : am_H) (a : Nat) : am_f d scr L call 129 (n + 1) 16 lv (.ref a :: st) h = (match am_get h a 8 53 with
    | some v => am_f d scr L call 129 n 19 lv (v :: st) h
    | none => none) := k_gf (k := 245) rfl rfl
theorem s_129_19 (d L n : Nat) (scr : Nat → Int32) (call : Nat → List Value → am_H → Option am_X) (lv : am_L) (st : List Value) (h : am_H) : am_f d scr L call 129 (n + 1) 19 lv st h = (match am_ld lv 0 with
    | some (.ref x) => am_f d scr L call 129 n 20 lv (.ref x :: st) h
    | _ => none) := k_la (i := .aload_n 0) rfl rfl rfl rfl
theorem s_129_20 (d L n : Nat) (scr : Nat → Int32) (call : Nat → List Value → am_H → Option am_X) (lv : am_L) (st : List Value) (h : am_H) (a : Nat) : am_f d scr L call 129 (n + 1) 20 lv (.ref a :: st) h = (match am_get h a 8 52 with
    | some v => am_f d scr L call 129 n 23 lv (v :: st) h
    | none => none) := k_gf (k := 299) rfl rfl
theorem s_129_23 (d L n : Nat) (scr : Nat → Int32) (call : Nat → List Value → am_H → Option am_X) (lv : am_L) (st : List Value) (h : am_H) (x y : Int32) : am_f d scr L call 129 (n + 1) 23 lv (.int y :: .int x :: st) h = if ¬ x = y then am_f d scr L call 129 n 32 lv st h else am_f d scr L call 129 n 26 lv st h := k_ic_ne (o := 9) rfl ⟨by decide, rfl⟩
theorem s_129_26 (d L n : Nat) (scr : Nat → Int32) (call : Nat → List Value → am_H → Option am_X) (lv : am_L) (st : List Value) (h : am_H) : am_f d scr L call 129 (n + 1) 26 lv st h = (match am_ld lv 0 with
    | some (.ref x) => am_f d scr L call 129 n 27 lv (.ref x :: st) h
    | _ => none) := k_la (i := .aload_n 0) rfl rfl rfl rfl
theorem s_129_27 (d L n : Nat) (scr : Nat → Int32) (call : Nat → List Value → am_H → Option am_X) (lv : am_L) (st : List Value) (h : am_H) : am_f d scr L call 129 (n + 1) 27 lv st h = am_f d scr L call 129 n 28 lv (.int 3 :: st) h := k_nx (i := .iconst 3) rfl rfl
theorem s_129_28 (d L n : Nat) (scr : Nat → Int32) (call : Nat → List Value → am_H → Option am_X) (lv : am_L) (h : am_H) (o : Nat) (a0 : Int32)  : am_f d scr L call 129 (n + 1) 28 lv (.int a0 :: .ref o :: []) h = if am_at h o 8 = true then (match call 113 [.ref o, .int a0] h with
    | some (v, h', dk, dn) => am_add dk dn (am_f d scr L call 129 n 31 lv (v.toList ++ []) h')
    | none => none) else none := k_iv0 (k := 225) (as := [.int a0]) (r := []) rfl rfl rfl rfl (Nat.le_of_ble_eq_true rfl)
theorem s_129_31 (d L n : Nat) (scr : Nat → Int32) (call : Nat → List Value → am_H → Option am_X) (lv : am_L) (h : am_H) : am_f d scr L call 129 (n + 1) 31 lv [] h = some (none, h, 0, 0) := k_vr rfl rfl
theorem s_129_32 (d L n : Nat) (scr : Nat → Int32) (call : Nat → List Value → am_H → Option am_X) (lv : am_L) (st : List Value) (h : am_H) : am_f d scr L call 129 (n + 1) 32 lv st h = (match am_ld lv 0 with
    | some (.ref x) => am_f d scr L call 129 n 33 lv (.ref x :: st) h
    | _ => none) := k_la (i := .aload_n 0) rfl rfl rfl rfl
theorem s_129_33 (d L n : Nat) (scr : Nat → Int32) (call : Nat → List Value → am_H → Option am_X) (lv : am_L) (st : List Value) (h : am_H) (x : Nat) : am_f d scr L call 129 (n + 1) 33 lv (.ref x :: st) h = am_f d scr L call 129 n 34 lv (.ref x :: .ref x :: st) h := k_nx (i := .dup) rfl rfl
theorem s_129_34 (d L n : Nat) (scr : Nat → Int32) (call : Nat → List Value → am_H → Option am_X) (lv : am_L) (st : List Value) (h : am_H) (a : Nat) : am_f d scr L call 129 (n + 1) 34 lv (.ref a :: st) h = (match am_get h a 8 53 with
    | some v => am_f d scr L call 129 n 37 lv (v :: st) h
    | none => none) := k_gf (k := 245) rfl rfl
theorem s_129_37 (d L n : Nat) (scr : Nat → Int32) (call : Nat → List Value → am_H → Option am_X) (lv : am_L) (st : List Value) (h : am_H) : am_f d scr L call 129 (n + 1) 37 lv st h = am_f d scr L call 129 n 38 lv (.int 1 :: st) h := k_nx (i := .iconst 1) rfl rfl
theorem s_129_38 (d L n : Nat) (scr : Nat → Int32) (call : Nat → List Value → am_H → Option am_X) (lv : am_L) (st : List Value) (h : am_H) (x y : Int32) : am_f d scr L call 129 (n + 1) 38 lv (.int y :: .int x :: st) h = am_f d scr L call 129 n 39 lv (.int (x + y) :: st) h := k_nx (i := .iadd) rfl rfl
theorem s_129_39 (d L n : Nat) (scr : Nat → Int32) (call : Nat → List Value → am_H → Option am_X) (lv : am_L) (st : List Value) (h : am_H) (x : Int32) (a : Nat) : am_f d scr L call 129 (n + 1) 39 lv (.int x :: .ref a :: st) h = (match am_put h a 8 53 (.int x) with
    | some h' => am_f d scr L call 129 n 42 lv st h'
    | none => none) := k_pf (k := 245) rfl rfl rfl
theorem s_129_42 (d L n : Nat) (scr : Nat → Int32) (call : Nat → List Value → am_H → Option am_X) (lv : am_L) (st : List Value) (h : am_H) : am_f d scr L call 129 (n + 1) 42 lv st h = (match am_ld lv 0 with
    | some (.ref x) => am_f d scr L call 129 n 43 lv (.ref x :: st) h
    | _ => none) := k_la (i := .aload_n 0) rfl rfl rfl rfl
theorem s_129_43 (d L n : Nat) (scr : Nat → Int32) (call : Nat → List Value → am_H → Option am_X) (lv : am_L) (st : List Value) (h : am_H) (a : Nat) : am_f d scr L call 129 (n + 1) 43 lv (.ref a :: st) h = (match am_get h a 8 32 with
    | some v => am_f d scr L call 129 n 46 lv (v :: st) h
    | none => none) := k_gf (k := 69) rfl rfl
theorem s_129_46 (d L n : Nat) (scr : Nat → Int32) (call : Nat → List Value → am_H → Option am_X) (lv : am_L) (st : List Value) (h : am_H) : am_f d scr L call 129 (n + 1) 46 lv st h = (match am_ld lv 1 with
    | some (.int x) => am_f d scr L call 129 n 47 lv (.int x :: st) h
    | _ => none) := k_li (i := .iload_n 1) rfl rfl rfl rfl
theorem s_129_47 (d L n : Nat) (scr : Nat → Int32) (call : Nat → List Value → am_H → Option am_X) (lv : am_L) (st : List Value) (h : am_H) (a : Nat) (i : Int32) : am_f d scr L call 129 (n + 1) 47 lv (.int i :: .ref a :: st) h = (match am_ild scr L h a i with
    | some x => am_f d scr L call 129 n 48 lv (.int x :: st) h
    | none => none) := k_ia rfl
theorem s_129_48 (d L n : Nat) (scr : Nat → Int32) (call : Nat → List Value → am_H → Option am_X) (lv : am_L) (st : List Value) (h : am_H) : am_f d scr L call 129 (n + 1) 48 lv st h = am_f d scr L call 129 n 49 lv (.int 4 :: st) h := k_nx (i := .iconst 4) rfl rfl
theorem s_129_49 (d L n : Nat) (scr : Nat → Int32) (call : Nat → List Value → am_H → Option am_X) (lv : am_L) (st : List Value) (h : am_H) (x y : Int32) : am_f d scr L call 129 (n + 1) 49 lv (.int y :: .int x :: st) h = if ¬ x = y then am_f d scr L call 129 n 60 lv st h else am_f d scr L call 129 n 52 lv st h := k_ic_ne (o := 11) rfl ⟨by decide, rfl⟩
theorem s_129_52 (d L n : Nat) (scr : Nat → Int32) (call : Nat → List Value → am_H → Option am_X) (lv : am_L) (st : List Value) (h : am_H) : am_f d scr L call 129 (n + 1) 52 lv st h = (match am_ld lv 0 with
    | some (.ref x) => am_f d scr L call 129 n 53 lv (.ref x :: st) h
    | _ => none) := k_la (i := .aload_n 0) rfl rfl rfl rfl
theorem s_129_53 (d L n : Nat) (scr : Nat → Int32) (call : Nat → List Value → am_H → Option am_X) (lv : am_L) (st : List Value) (h : am_H) : am_f d scr L call 129 (n + 1) 53 lv st h = am_f d scr L call 129 n 54 lv (.int (-1) :: st) h := k_nx (i := .iconst (-1)) rfl rfl
theorem s_129_54 (d L n : Nat) (scr : Nat → Int32) (call : Nat → List Value → am_H → Option am_X) (lv : am_L) (st : List Value) (h : am_H) : am_f d scr L call 129 (n + 1) 54 lv st h = am_f d scr L call 129 n 55 lv (.int 0 :: st) h := k_nx (i := .iconst 0) rfl rfl
theorem s_129_55 (d L n : Nat) (scr : Nat → Int32) (call : Nat → List Value → am_H → Option am_X) (lv : am_L) (st : List Value) (h : am_H) : am_f d scr L call 129 (n + 1) 55 lv st h = am_f d scr L call 129 n 56 lv (.int 0 :: st) h := k_nx (i := .iconst 0) rfl rfl
theorem s_129_56 (d L n : Nat) (scr : Nat → Int32) (call : Nat → List Value → am_H → Option am_X) (lv : am_L) (st : List Value) (h : am_H) : am_f d scr L call 129 (n + 1) 56 lv st h = (match am_ld lv 1 with
    | some (.int x) => am_f d scr L call 129 n 57 lv (.int x :: st) h
    | _ => none) := k_li (i := .iload_n 1) rfl rfl rfl rfl
theorem s_129_57 (d L n : Nat) (scr : Nat → Int32) (call : Nat → List Value → am_H → Option am_X) (lv : am_L) (h : am_H) (o : Nat) (a0 : Int32) (a1 : Int32) (a2 : Int32) (a3 : Int32)  : am_f d scr L call 129 (n + 1) 57 lv (.int a3 :: .int a2 :: .int a1 :: .int a0 :: .ref o :: []) h = if am_at h o 8 = true then (match call 121 [.ref o, .int a0, .int a1, .int a2, .int a3] h with
    | some (v, h', dk, dn) => am_add dk dn (am_f d scr L call 129 n 60 lv (v.toList ++ []) h')
    | none => none) else none := k_iv0 (k := 272) (as := [.int a0, .int a1, .int a2, .int a3]) (r := []) rfl rfl rfl rfl (Nat.le_of_ble_eq_true rfl)
theorem s_129_60 (d L n : Nat) (scr : Nat → Int32) (call : Nat → List Value → am_H → Option am_X) (lv : am_L) (st : List Value) (h : am_H) : am_f d scr L call 129 (n + 1) 60 lv st h = (match am_ld lv 0 with
    | some (.ref x) => am_f d scr L call 129 n 61 lv (.ref x :: st) h
    | _ => none) := k_la (i := .aload_n 0) rfl rfl rfl rfl
theorem s_129_61 (d L n : Nat) (scr : Nat → Int32) (call : Nat → List Value → am_H → Option am_X) (lv : am_L) (st : List Value) (h : am_H) : am_f d scr L call 129 (n + 1) 61 lv st h = (match am_ld lv 1 with
    | some (.int x) => am_f d scr L call 129 n 62 lv (.int x :: st) h
    | _ => none) := k_li (i := .iload_n 1) rfl rfl rfl rfl
theorem s_129_62 (d L n : Nat) (scr : Nat → Int32) (call : Nat → List Value → am_H → Option am_X) (lv : am_L) (h : am_H) (o : Nat) (a0 : Int32)  : am_f d scr L call 129 (n + 1) 62 lv (.int a0 :: .ref o :: []) h = if am_at h o 8 = true then (match call 115 [.ref o, .int a0] h with
    | some (v, h', dk, dn) => am_add dk dn (am_f d scr L call 129 n 65 lv (v.toList ++ []) h')
    | none => none) else none := k_iv0 (k := 282) (as := [.int a0]) (r := []) rfl rfl rfl rfl (Nat.le_of_ble_eq_true rfl)
theorem s_129_65 (d L n : Nat) (scr : Nat → Int32) (call : Nat → List Value → am_H → Option am_X) (lv : am_L) (st : List Value) (h : am_H) (x : Int32) : am_f d scr L call 129 (n + 1) 65 lv (.int x :: st) h = am_f d scr L call 129 n 67 (am_st1 lv 4 (.int x)) st h := k_nx (i := .istore 4) rfl rfl
theorem s_129_67 (d L n : Nat) (scr : Nat → Int32) (call : Nat → List Value → am_H → Option am_X) (lv : am_L) (st : List Value) (h : am_H) : am_f d scr L call 129 (n + 1) 67 lv st h = (match am_ld lv 0 with
    | some (.ref x) => am_f d scr L call 129 n 68 lv (.ref x :: st) h
    | _ => none) := k_la (i := .aload_n 0) rfl rfl rfl rfl
theorem s_129_68 (d L n : Nat) (scr : Nat → Int32) (call : Nat → List Value → am_H → Option am_X) (lv : am_L) (st : List Value) (h : am_H) (x : Nat) : am_f d scr L call 129 (n + 1) 68 lv (.ref x :: st) h = am_f d scr L call 129 n 69 lv (.ref x :: .ref x :: st) h := k_nx (i := .dup) rfl rfl
theorem s_129_69 (d L n : Nat) (scr : Nat → Int32) (call : Nat → List Value → am_H → Option am_X) (lv : am_L) (st : List Value) (h : am_H) (a : Nat) : am_f d scr L call 129 (n + 1) 69 lv (.ref a :: st) h = (match am_get h a 8 40 with
    | some v => am_f d scr L call 129 n 72 lv (v :: st) h
    | none => none) := k_gf (k := 254) rfl rfl
theorem s_129_72 (d L n : Nat) (scr : Nat → Int32) (call : Nat → List Value → am_H → Option am_X) (lv : am_L) (st : List Value) (h : am_H) : am_f d scr L call 129 (n + 1) 72 lv st h = am_f d scr L call 129 n 73 lv (.int 1 :: st) h := k_nx (i := .iconst 1) rfl rfl
theorem s_129_73 (d L n : Nat) (scr : Nat → Int32) (call : Nat → List Value → am_H → Option am_X) (lv : am_L) (st : List Value) (h : am_H) (x y : Int32) : am_f d scr L call 129 (n + 1) 73 lv (.int y :: .int x :: st) h = am_f d scr L call 129 n 74 lv (.int (x + y) :: st) h := k_nx (i := .iadd) rfl rfl
theorem s_129_74 (d L n : Nat) (scr : Nat → Int32) (call : Nat → List Value → am_H → Option am_X) (lv : am_L) (st : List Value) (h : am_H) (x : Int32) (a : Nat) : am_f d scr L call 129 (n + 1) 74 lv (.int x :: .ref a :: st) h = (match am_put h a 8 40 (.int x) with
    | some h' => am_f d scr L call 129 n 77 lv st h'
    | none => none) := k_pf (k := 254) rfl rfl rfl
theorem s_129_77 (d L n : Nat) (scr : Nat → Int32) (call : Nat → List Value → am_H → Option am_X) (lv : am_L) (st : List Value) (h : am_H) : am_f d scr L call 129 (n + 1) 77 lv st h = (match am_ld lv 0 with
    | some (.ref x) => am_f d scr L call 129 n 78 lv (.ref x :: st) h
    | _ => none) := k_la (i := .aload_n 0) rfl rfl rfl rfl
theorem s_129_78 (d L n : Nat) (scr : Nat → Int32) (call : Nat → List Value → am_H → Option am_X) (lv : am_L) (st : List Value) (h : am_H) (a : Nat) : am_f d scr L call 129 (n + 1) 78 lv (.ref a :: st) h = (match am_get h a 8 41 with
    | some v => am_f d scr L call 129 n 81 lv (v :: st) h
    | none => none) := k_gf (k := 90) rfl rfl
theorem s_129_81 (d L n : Nat) (scr : Nat → Int32) (call : Nat → List Value → am_H → Option am_X) (lv : am_L) (st : List Value) (h : am_H) : am_f d scr L call 129 (n + 1) 81 lv st h = (match am_ld lv 0 with
    | some (.ref x) => am_f d scr L call 129 n 82 lv (.ref x :: st) h
    | _ => none) := k_la (i := .aload_n 0) rfl rfl rfl rfl
theorem s_129_82 (d L n : Nat) (scr : Nat → Int32) (call : Nat → List Value → am_H → Option am_X) (lv : am_L) (st : List Value) (h : am_H) (a : Nat) : am_f d scr L call 129 (n + 1) 82 lv (.ref a :: st) h = (match am_get h a 8 40 with
    | some v => am_f d scr L call 129 n 85 lv (v :: st) h
    | none => none) := k_gf (k := 254) rfl rfl
theorem s_129_85 (d L n : Nat) (scr : Nat → Int32) (call : Nat → List Value → am_H → Option am_X) (lv : am_L) (st : List Value) (h : am_H) : am_f d scr L call 129 (n + 1) 85 lv st h = (match am_ld lv 0 with
    | some (.ref x) => am_f d scr L call 129 n 86 lv (.ref x :: st) h
    | _ => none) := k_la (i := .aload_n 0) rfl rfl rfl rfl
theorem s_129_86 (d L n : Nat) (scr : Nat → Int32) (call : Nat → List Value → am_H → Option am_X) (lv : am_L) (st : List Value) (h : am_H) (a : Nat) : am_f d scr L call 129 (n + 1) 86 lv (.ref a :: st) h = (match am_get h a 8 11 with
    | some v => am_f d scr L call 129 n 89 lv (v :: st) h
    | none => none) := k_gf (k := 29) rfl rfl
theorem s_129_89 (d L n : Nat) (scr : Nat → Int32) (call : Nat → List Value → am_H → Option am_X) (lv : am_L) (st : List Value) (h : am_H) : am_f d scr L call 129 (n + 1) 89 lv st h = (match am_ld lv 0 with
    | some (.ref x) => am_f d scr L call 129 n 90 lv (.ref x :: st) h
    | _ => none) := k_la (i := .aload_n 0) rfl rfl rfl rfl
theorem s_129_90 (d L n : Nat) (scr : Nat → Int32) (call : Nat → List Value → am_H → Option am_X) (lv : am_L) (st : List Value) (h : am_H) (a : Nat) : am_f d scr L call 129 (n + 1) 90 lv (.ref a :: st) h = (match am_get h a 8 33 with
    | some v => am_f d scr L call 129 n 93 lv (v :: st) h
    | none => none) := k_gf (k := 72) rfl rfl
theorem s_129_93 (d L n : Nat) (scr : Nat → Int32) (call : Nat → List Value → am_H → Option am_X) (lv : am_L) (st : List Value) (h : am_H) : am_f d scr L call 129 (n + 1) 93 lv st h = (match am_ld lv 4 with
    | some (.int x) => am_f d scr L call 129 n 95 lv (.int x :: st) h
    | _ => none) := k_li (i := .iload 4) rfl rfl rfl rfl
theorem s_129_95 (d L n : Nat) (scr : Nat → Int32) (call : Nat → List Value → am_H → Option am_X) (lv : am_L) (st : List Value) (h : am_H) (a : Nat) (i : Int32) : am_f d scr L call 129 (n + 1) 95 lv (.int i :: .ref a :: st) h = (match am_ild scr L h a i with
    | some x => am_f d scr L call 129 n 96 lv (.int x :: st) h
    | none => none) := k_ia rfl
theorem s_129_96 (d L n : Nat) (scr : Nat → Int32) (call : Nat → List Value → am_H → Option am_X) (lv : am_L) (st : List Value) (h : am_H) (a : Nat) (i : Int32) : am_f d scr L call 129 (n + 1) 96 lv (.int i :: .ref a :: st) h = (match am_ild scr L h a i with
    | some x => am_f d scr L call 129 n 97 lv (.int x :: st) h
    | none => none) := k_ia rfl
theorem s_129_97 (d L n : Nat) (scr : Nat → Int32) (call : Nat → List Value → am_H → Option am_X) (lv : am_L) (st : List Value) (h : am_H) (a : Nat) (i : Int32) (x : Int32) : am_f d scr L call 129 (n + 1) 97 lv (.int x :: .int i :: .ref a :: st) h = (match am_ist h a i x with
    | some h' => am_f d scr L call 129 n 98 lv st h'
    | none => none) := k_is rfl
theorem s_129_98 (d L n : Nat) (scr : Nat → Int32) (call : Nat → List Value → am_H → Option am_X) (lv : am_L) (st : List Value) (h : am_H) : am_f d scr L call 129 (n + 1) 98 lv st h = (match am_ld lv 0 with
    | some (.ref x) => am_f d scr L call 129 n 99 lv (.ref x :: st) h
    | _ => none) := k_la (i := .aload_n 0) rfl rfl rfl rfl
theorem s_129_99 (d L n : Nat) (scr : Nat → Int32) (call : Nat → List Value → am_H → Option am_X) (lv : am_L) (st : List Value) (h : am_H) (a : Nat) : am_f d scr L call 129 (n + 1) 99 lv (.ref a :: st) h = (match am_get h a 8 42 with
    | some v => am_f d scr L call 129 n 102 lv (v :: st) h
    | none => none) := k_gf (k := 93) rfl rfl
theorem s_129_102 (d L n : Nat) (scr : Nat → Int32) (call : Nat → List Value → am_H → Option am_X) (lv : am_L) (st : List Value) (h : am_H) : am_f d scr L call 129 (n + 1) 102 lv st h = (match am_ld lv 0 with
    | some (.ref x) => am_f d scr L call 129 n 103 lv (.ref x :: st) h
    | _ => none) := k_la (i := .aload_n 0) rfl rfl rfl rfl
theorem s_129_103 (d L n : Nat) (scr : Nat → Int32) (call : Nat → List Value → am_H → Option am_X) (lv : am_L) (st : List Value) (h : am_H) (a : Nat) : am_f d scr L call 129 (n + 1) 103 lv (.ref a :: st) h = (match am_get h a 8 40 with
    | some v => am_f d scr L call 129 n 106 lv (v :: st) h
    | none => none) := k_gf (k := 254) rfl rfl
theorem s_129_106 (d L n : Nat) (scr : Nat → Int32) (call : Nat → List Value → am_H → Option am_X) (lv : am_L) (st : List Value) (h : am_H) : am_f d scr L call 129 (n + 1) 106 lv st h = (match am_ld lv 3 with
    | some (.int x) => am_f d scr L call 129 n 107 lv (.int x :: st) h
    | _ => none) := k_li (i := .iload_n 3) rfl rfl rfl rfl
theorem s_129_107 (d L n : Nat) (scr : Nat → Int32) (call : Nat → List Value → am_H → Option am_X) (lv : am_L) (st : List Value) (h : am_H) (a : Nat) (i : Int32) (x : Int32) : am_f d scr L call 129 (n + 1) 107 lv (.int x :: .int i :: .ref a :: st) h = (match am_ist h a i x with
    | some h' => am_f d scr L call 129 n 108 lv st h'
    | none => none) := k_is rfl
theorem s_129_108 (d L n : Nat) (scr : Nat → Int32) (call : Nat → List Value → am_H → Option am_X) (lv : am_L) (st : List Value) (h : am_H) : am_f d scr L call 129 (n + 1) 108 lv st h = (match am_ld lv 0 with
    | some (.ref x) => am_f d scr L call 129 n 109 lv (.ref x :: st) h
    | _ => none) := k_la (i := .aload_n 0) rfl rfl rfl rfl
theorem s_129_109 (d L n : Nat) (scr : Nat → Int32) (call : Nat → List Value → am_H → Option am_X) (lv : am_L) (st : List Value) (h : am_H) (a : Nat) : am_f d scr L call 129 (n + 1) 109 lv (.ref a :: st) h = (match am_get h a 8 43 with
    | some v => am_f d scr L call 129 n 112 lv (v :: st) h
    | none => none) := k_gf (k := 96) rfl rfl
theorem s_129_112 (d L n : Nat) (scr : Nat → Int32) (call : Nat → List Value → am_H → Option am_X) (lv : am_L) (st : List Value) (h : am_H) : am_f d scr L call 129 (n + 1) 112 lv st h = (match am_ld lv 0 with
    | some (.ref x) => am_f d scr L call 129 n 113 lv (.ref x :: st) h
    | _ => none) := k_la (i := .aload_n 0) rfl rfl rfl rfl
theorem s_129_113 (d L n : Nat) (scr : Nat → Int32) (call : Nat → List Value → am_H → Option am_X) (lv : am_L) (st : List Value) (h : am_H) (a : Nat) : am_f d scr L call 129 (n + 1) 113 lv (.ref a :: st) h = (match am_get h a 8 40 with
    | some v => am_f d scr L call 129 n 116 lv (v :: st) h
    | none => none) := k_gf (k := 254) rfl rfl
theorem s_129_116 (d L n : Nat) (scr : Nat → Int32) (call : Nat → List Value → am_H → Option am_X) (lv : am_L) (st : List Value) (h : am_H) : am_f d scr L call 129 (n + 1) 116 lv st h = (match am_ld lv 0 with
    | some (.ref x) => am_f d scr L call 129 n 117 lv (.ref x :: st) h
    | _ => none) := k_la (i := .aload_n 0) rfl rfl rfl rfl
theorem s_129_117 (d L n : Nat) (scr : Nat → Int32) (call : Nat → List Value → am_H → Option am_X) (lv : am_L) (st : List Value) (h : am_H) (a : Nat) : am_f d scr L call 129 (n + 1) 117 lv (.ref a :: st) h = (match am_get h a 8 34 with
    | some v => am_f d scr L call 129 n 120 lv (v :: st) h
    | none => none) := k_gf (k := 75) rfl rfl
theorem s_129_120 (d L n : Nat) (scr : Nat → Int32) (call : Nat → List Value → am_H → Option am_X) (lv : am_L) (st : List Value) (h : am_H) : am_f d scr L call 129 (n + 1) 120 lv st h = (match am_ld lv 4 with
    | some (.int x) => am_f d scr L call 129 n 122 lv (.int x :: st) h
    | _ => none) := k_li (i := .iload 4) rfl rfl rfl rfl
theorem s_129_122 (d L n : Nat) (scr : Nat → Int32) (call : Nat → List Value → am_H → Option am_X) (lv : am_L) (st : List Value) (h : am_H) (a : Nat) (i : Int32) : am_f d scr L call 129 (n + 1) 122 lv (.int i :: .ref a :: st) h = (match am_ild scr L h a i with
    | some x => am_f d scr L call 129 n 123 lv (.int x :: st) h
    | none => none) := k_ia rfl
theorem s_129_123 (d L n : Nat) (scr : Nat → Int32) (call : Nat → List Value → am_H → Option am_X) (lv : am_L) (st : List Value) (h : am_H) (a : Nat) (i : Int32) (x : Int32) : am_f d scr L call 129 (n + 1) 123 lv (.int x :: .int i :: .ref a :: st) h = (match am_ist h a i x with
    | some h' => am_f d scr L call 129 n 124 lv st h'
    | none => none) := k_is rfl
theorem s_129_124 (d L n : Nat) (scr : Nat → Int32) (call : Nat → List Value → am_H → Option am_X) (lv : am_L) (st : List Value) (h : am_H) : am_f d scr L call 129 (n + 1) 124 lv st h = (match am_ld lv 0 with
    | some (.ref x) => am_f d scr L call 129 n 125 lv (.ref x :: st) h
    | _ => none) := k_la (i := .aload_n 0) rfl rfl rfl rfl
theorem s_129_125 (d L n : Nat) (scr : Nat → Int32) (call : Nat → List Value → am_H → Option am_X) (lv : am_L) (st : List Value) (h : am_H) : am_f d scr L call 129 (n + 1) 125 lv st h = (match am_ld lv 0 with
    | some (.ref x) => am_f d scr L call 129 n 126 lv (.ref x :: st) h
    | _ => none) := k_la (i := .aload_n 0) rfl rfl rfl rfl
theorem s_129_126 (d L n : Nat) (scr : Nat → Int32) (call : Nat → List Value → am_H → Option am_X) (lv : am_L) (st : List Value) (h : am_H) (a : Nat) : am_f d scr L call 129 (n + 1) 126 lv (.ref a :: st) h = (match am_get h a 8 14 with
    | some v => am_f d scr L call 129 n 129 lv (v :: st) h
    | none => none) := k_gf (k := 38) rfl rfl
theorem s_129_129 (d L n : Nat) (scr : Nat → Int32) (call : Nat → List Value → am_H → Option am_X) (lv : am_L) (st : List Value) (h : am_H) : am_f d scr L call 129 (n + 1) 129 lv st h = (match am_ld lv 0 with
    | some (.ref x) => am_f d scr L call 129 n 130 lv (.ref x :: st) h
    | _ => none) := k_la (i := .aload_n 0) rfl rfl rfl rfl
theorem s_129_130 (d L n : Nat) (scr : Nat → Int32) (call : Nat → List Value → am_H → Option am_X) (lv : am_L) (st : List Value) (h : am_H) (a : Nat) : am_f d scr L call 129 (n + 1) 130 lv (.ref a :: st) h = (match am_get h a 8 33 with
    | some v => am_f d scr L call 129 n 133 lv (v :: st) h
    | none => none) := k_gf (k := 72) rfl rfl
theorem s_129_133 (d L n : Nat) (scr : Nat → Int32) (call : Nat → List Value → am_H → Option am_X) (lv : am_L) (st : List Value) (h : am_H) : am_f d scr L call 129 (n + 1) 133 lv st h = (match am_ld lv 4 with
    | some (.int x) => am_f d scr L call 129 n 135 lv (.int x :: st) h
    | _ => none) := k_li (i := .iload 4) rfl rfl rfl rfl
theorem s_129_135 (d L n : Nat) (scr : Nat → Int32) (call : Nat → List Value → am_H → Option am_X) (lv : am_L) (st : List Value) (h : am_H) (a : Nat) (i : Int32) : am_f d scr L call 129 (n + 1) 135 lv (.int i :: .ref a :: st) h = (match am_ild scr L h a i with
    | some x => am_f d scr L call 129 n 136 lv (.int x :: st) h
    | none => none) := k_ia rfl
theorem s_129_136 (d L n : Nat) (scr : Nat → Int32) (call : Nat → List Value → am_H → Option am_X) (lv : am_L) (st : List Value) (h : am_H) (a : Nat) (i : Int32) : am_f d scr L call 129 (n + 1) 136 lv (.int i :: .ref a :: st) h = (match am_ild scr L h a i with
    | some x => am_f d scr L call 129 n 137 lv (.int x :: st) h
    | none => none) := k_ia rfl
set_option maxRecDepth 100000 in
theorem s_129_137 (d L n : Nat) (scr : Nat → Int32) (call : Nat → List Value → am_H → Option am_X) (lv : am_L) (st : List Value) (h : am_H) (x : Int32) (a : Nat) : am_f d scr L call 129 (n + 1) 137 lv (.int x :: .ref a :: st) h = (match am_put h a 8 58 (.int x) with
    | some h' => am_f d scr L call 129 n 140 lv st h'
    | none => none) := k_pf (k := 260) rfl rfl rfl
set_option maxRecDepth 100000 in
theorem s_129_140 (d L n : Nat) (scr : Nat → Int32) (call : Nat → List Value → am_H → Option am_X) (lv : am_L) (st : List Value) (h : am_H) : am_f d scr L call 129 (n + 1) 140 lv st h = (match am_ld lv 0 with
    | some (.ref x) => am_f d scr L call 129 n 141 lv (.ref x :: st) h
    | _ => none) := k_la (i := .aload_n 0) rfl rfl rfl rfl
set_option maxRecDepth 100000 in
theorem s_129_141 (d L n : Nat) (scr : Nat → Int32) (call : Nat → List Value → am_H → Option am_X) (lv : am_L) (st : List Value) (h : am_H) : am_f d scr L call 129 (n + 1) 141 lv st h = (match am_ld lv 0 with
    | some (.ref x) => am_f d scr L call 129 n 142 lv (.ref x :: st) h
    | _ => none) := k_la (i := .aload_n 0) rfl rfl rfl rfl
set_option maxRecDepth 100000 in
theorem s_129_142 (d L n : Nat) (scr : Nat → Int32) (call : Nat → List Value → am_H → Option am_X) (lv : am_L) (st : List Value) (h : am_H) (a : Nat) : am_f d scr L call 129 (n + 1) 142 lv (.ref a :: st) h = (match am_get h a 8 40 with
    | some v => am_f d scr L call 129 n 145 lv (v :: st) h
    | none => none) := k_gf (k := 254) rfl rfl
set_option maxRecDepth 100000 in
theorem s_129_145 (d L n : Nat) (scr : Nat → Int32) (call : Nat → List Value → am_H → Option am_X) (lv : am_L) (st : List Value) (h : am_H) (x : Int32) (a : Nat) : am_f d scr L call 129 (n + 1) 145 lv (.int x :: .ref a :: st) h = (match am_put h a 8 59 (.int x) with
    | some h' => am_f d scr L call 129 n 148 lv st h'
    | none => none) := k_pf (k := 269) rfl rfl rfl
set_option maxRecDepth 100000 in
theorem s_129_148 (d L n : Nat) (scr : Nat → Int32) (call : Nat → List Value → am_H → Option am_X) (lv : am_L) (h : am_H) : am_f d scr L call 129 (n + 1) 148 lv [] h = some (none, h, 0, 0) := k_vr rfl rfl
-- 130: BlameDeskModel.come()V
theorem s_130_0 (d L n : Nat) (scr : Nat → Int32) (call : Nat → List Value → am_H → Option am_X) (lv : am_L) (st : List Value) (h : am_H) : am_f d scr L call 130 (n + 1) 0 lv st h = (match am_ld lv 0 with
    | some (.ref x) => am_f d scr L call 130 n 1 lv (.ref x :: st) h
    | _ => none) := k_la (i := .aload_n 0) rfl rfl rfl rfl
theorem s_130_1 (d L n : Nat) (scr : Nat → Int32) (call : Nat → List Value → am_H → Option am_X) (lv : am_L) (st : List Value) (h : am_H) (a : Nat) : am_f d scr L call 130 (n + 1) 1 lv (.ref a :: st) h = (match am_get h a 8 44 with
    | some v => am_f d scr L call 130 n 4 lv (v :: st) h
    | none => none) := k_gf (k := 257) rfl rfl
theorem s_130_4 (d L n : Nat) (scr : Nat → Int32) (call : Nat → List Value → am_H → Option am_X) (lv : am_L) (st : List Value) (h : am_H) (x : Int32) : am_f d scr L call 130 (n + 1) 4 lv (.int x :: st) h = if ¬ x = 0 then am_f d scr L call 130 n 21 lv st h else am_f d scr L call 130 n 7 lv st h := k_if_ne (o := 17) rfl ⟨by decide, rfl⟩
theorem s_130_7 (d L n : Nat) (scr : Nat → Int32) (call : Nat → List Value → am_H → Option am_X) (lv : am_L) (st : List Value) (h : am_H) : am_f d scr L call 130 (n + 1) 7 lv st h = (match am_ld lv 0 with
    | some (.ref x) => am_f d scr L call 130 n 8 lv (.ref x :: st) h
    | _ => none) := k_la (i := .aload_n 0) rfl rfl rfl rfl
theorem s_130_8 (d L n : Nat) (scr : Nat → Int32) (call : Nat → List Value → am_H → Option am_X) (lv : am_L) (st : List Value) (h : am_H) : am_f d scr L call 130 (n + 1) 8 lv st h = (match am_ld lv 0 with
    | some (.ref x) => am_f d scr L call 130 n 9 lv (.ref x :: st) h
    | _ => none) := k_la (i := .aload_n 0) rfl rfl rfl rfl
theorem s_130_9 (d L n : Nat) (scr : Nat → Int32) (call : Nat → List Value → am_H → Option am_X) (lv : am_L) (st : List Value) (h : am_H) (a : Nat) : am_f d scr L call 130 (n + 1) 9 lv (.ref a :: st) h = (match am_get h a 8 60 with
    | some v => am_f d scr L call 130 n 12 lv (v :: st) h
    | none => none) := k_gf (k := 263) rfl rfl
theorem s_130_12 (d L n : Nat) (scr : Nat → Int32) (call : Nat → List Value → am_H → Option am_X) (lv : am_L) (st : List Value) (h : am_H) (x : Int32) (a : Nat) : am_f d scr L call 130 (n + 1) 12 lv (.int x :: .ref a :: st) h = (match am_put h a 8 55 (.int x) with
    | some h' => am_f d scr L call 130 n 15 lv st h'
    | none => none) := k_pf (k := 302) rfl rfl rfl
theorem s_130_15 (d L n : Nat) (scr : Nat → Int32) (call : Nat → List Value → am_H → Option am_X) (lv : am_L) (st : List Value) (h : am_H) : am_f d scr L call 130 (n + 1) 15 lv st h = (match am_ld lv 0 with
    | some (.ref x) => am_f d scr L call 130 n 16 lv (.ref x :: st) h
    | _ => none) := k_la (i := .aload_n 0) rfl rfl rfl rfl
theorem s_130_16 (d L n : Nat) (scr : Nat → Int32) (call : Nat → List Value → am_H → Option am_X) (lv : am_L) (st : List Value) (h : am_H) : am_f d scr L call 130 (n + 1) 16 lv st h = am_f d scr L call 130 n 17 lv (.int 1 :: st) h := k_nx (i := .iconst 1) rfl rfl
theorem s_130_17 (d L n : Nat) (scr : Nat → Int32) (call : Nat → List Value → am_H → Option am_X) (lv : am_L) (h : am_H) (o : Nat) (a0 : Int32)  : am_f d scr L call 130 (n + 1) 17 lv (.int a0 :: .ref o :: []) h = if am_at h o 8 = true then (match call 113 [.ref o, .int a0] h with
    | some (v, h', dk, dn) => am_add dk dn (am_f d scr L call 130 n 20 lv (v.toList ++ []) h')
    | none => none) else none := k_iv0 (k := 225) (as := [.int a0]) (r := []) rfl rfl rfl rfl (Nat.le_of_ble_eq_true rfl)
theorem s_130_20 (d L n : Nat) (scr : Nat → Int32) (call : Nat → List Value → am_H → Option am_X) (lv : am_L) (h : am_H) : am_f d scr L call 130 (n + 1) 20 lv [] h = some (none, h, 0, 0) := k_vr rfl rfl
theorem s_130_21 (d L n : Nat) (scr : Nat → Int32) (call : Nat → List Value → am_H → Option am_X) (lv : am_L) (st : List Value) (h : am_H) : am_f d scr L call 130 (n + 1) 21 lv st h = (match am_ld lv 0 with
    | some (.ref x) => am_f d scr L call 130 n 22 lv (.ref x :: st) h
    | _ => none) := k_la (i := .aload_n 0) rfl rfl rfl rfl
theorem s_130_22 (d L n : Nat) (scr : Nat → Int32) (call : Nat → List Value → am_H → Option am_X) (lv : am_L) (st : List Value) (h : am_H) (x : Nat) : am_f d scr L call 130 (n + 1) 22 lv (.ref x :: st) h = am_f d scr L call 130 n 23 lv (.ref x :: .ref x :: st) h := k_nx (i := .dup) rfl rfl
theorem s_130_23 (d L n : Nat) (scr : Nat → Int32) (call : Nat → List Value → am_H → Option am_X) (lv : am_L) (st : List Value) (h : am_H) (a : Nat) : am_f d scr L call 130 (n + 1) 23 lv (.ref a :: st) h = (match am_get h a 8 44 with
    | some v => am_f d scr L call 130 n 26 lv (v :: st) h
    | none => none) := k_gf (k := 257) rfl rfl
theorem s_130_26 (d L n : Nat) (scr : Nat → Int32) (call : Nat → List Value → am_H → Option am_X) (lv : am_L) (st : List Value) (h : am_H) : am_f d scr L call 130 (n + 1) 26 lv st h = am_f d scr L call 130 n 27 lv (.int 1 :: st) h := k_nx (i := .iconst 1) rfl rfl
theorem s_130_27 (d L n : Nat) (scr : Nat → Int32) (call : Nat → List Value → am_H → Option am_X) (lv : am_L) (st : List Value) (h : am_H) (x y : Int32) : am_f d scr L call 130 (n + 1) 27 lv (.int y :: .int x :: st) h = am_f d scr L call 130 n 28 lv (.int (x - y) :: st) h := k_nx (i := .isub) rfl rfl
theorem s_130_28 (d L n : Nat) (scr : Nat → Int32) (call : Nat → List Value → am_H → Option am_X) (lv : am_L) (st : List Value) (h : am_H) (x : Int32) (a : Nat) : am_f d scr L call 130 (n + 1) 28 lv (.int x :: .ref a :: st) h = (match am_put h a 8 44 (.int x) with
    | some h' => am_f d scr L call 130 n 31 lv st h'
    | none => none) := k_pf (k := 257) rfl rfl rfl
theorem s_130_31 (d L n : Nat) (scr : Nat → Int32) (call : Nat → List Value → am_H → Option am_X) (lv : am_L) (st : List Value) (h : am_H) : am_f d scr L call 130 (n + 1) 31 lv st h = (match am_ld lv 0 with
    | some (.ref x) => am_f d scr L call 130 n 32 lv (.ref x :: st) h
    | _ => none) := k_la (i := .aload_n 0) rfl rfl rfl rfl
theorem s_130_32 (d L n : Nat) (scr : Nat → Int32) (call : Nat → List Value → am_H → Option am_X) (lv : am_L) (st : List Value) (h : am_H) (a : Nat) : am_f d scr L call 130 (n + 1) 32 lv (.ref a :: st) h = (match am_get h a 8 45 with
    | some v => am_f d scr L call 130 n 35 lv (v :: st) h
    | none => none) := k_gf (k := 99) rfl rfl
theorem s_130_35 (d L n : Nat) (scr : Nat → Int32) (call : Nat → List Value → am_H → Option am_X) (lv : am_L) (st : List Value) (h : am_H) : am_f d scr L call 130 (n + 1) 35 lv st h = (match am_ld lv 0 with
    | some (.ref x) => am_f d scr L call 130 n 36 lv (.ref x :: st) h
    | _ => none) := k_la (i := .aload_n 0) rfl rfl rfl rfl
theorem s_130_36 (d L n : Nat) (scr : Nat → Int32) (call : Nat → List Value → am_H → Option am_X) (lv : am_L) (st : List Value) (h : am_H) (a : Nat) : am_f d scr L call 130 (n + 1) 36 lv (.ref a :: st) h = (match am_get h a 8 44 with
    | some v => am_f d scr L call 130 n 39 lv (v :: st) h
    | none => none) := k_gf (k := 257) rfl rfl
theorem s_130_39 (d L n : Nat) (scr : Nat → Int32) (call : Nat → List Value → am_H → Option am_X) (lv : am_L) (st : List Value) (h : am_H) (a : Nat) (i : Int32) : am_f d scr L call 130 (n + 1) 39 lv (.int i :: .ref a :: st) h = (match am_ild scr L h a i with
    | some x => am_f d scr L call 130 n 40 lv (.int x :: st) h
    | none => none) := k_ia rfl
theorem s_130_40 (d L n : Nat) (scr : Nat → Int32) (call : Nat → List Value → am_H → Option am_X) (lv : am_L) (st : List Value) (h : am_H) (x : Int32) : am_f d scr L call 130 (n + 1) 40 lv (.int x :: st) h = am_f d scr L call 130 n 41 (am_st1 lv 1 (.int x)) st h := k_nx (i := .istore_n 1) rfl rfl
theorem s_130_41 (d L n : Nat) (scr : Nat → Int32) (call : Nat → List Value → am_H → Option am_X) (lv : am_L) (st : List Value) (h : am_H) : am_f d scr L call 130 (n + 1) 41 lv st h = (match am_ld lv 0 with
    | some (.ref x) => am_f d scr L call 130 n 42 lv (.ref x :: st) h
    | _ => none) := k_la (i := .aload_n 0) rfl rfl rfl rfl
theorem s_130_42 (d L n : Nat) (scr : Nat → Int32) (call : Nat → List Value → am_H → Option am_X) (lv : am_L) (st : List Value) (h : am_H) (a : Nat) : am_f d scr L call 130 (n + 1) 42 lv (.ref a :: st) h = (match am_get h a 8 48 with
    | some v => am_f d scr L call 130 n 45 lv (v :: st) h
    | none => none) := k_gf (k := 108) rfl rfl
theorem s_130_45 (d L n : Nat) (scr : Nat → Int32) (call : Nat → List Value → am_H → Option am_X) (lv : am_L) (st : List Value) (h : am_H) : am_f d scr L call 130 (n + 1) 45 lv st h = (match am_ld lv 0 with
    | some (.ref x) => am_f d scr L call 130 n 46 lv (.ref x :: st) h
    | _ => none) := k_la (i := .aload_n 0) rfl rfl rfl rfl
theorem s_130_46 (d L n : Nat) (scr : Nat → Int32) (call : Nat → List Value → am_H → Option am_X) (lv : am_L) (st : List Value) (h : am_H) (a : Nat) : am_f d scr L call 130 (n + 1) 46 lv (.ref a :: st) h = (match am_get h a 8 44 with
    | some v => am_f d scr L call 130 n 49 lv (v :: st) h
    | none => none) := k_gf (k := 257) rfl rfl
theorem s_130_49 (d L n : Nat) (scr : Nat → Int32) (call : Nat → List Value → am_H → Option am_X) (lv : am_L) (st : List Value) (h : am_H) (a : Nat) (i : Int32) : am_f d scr L call 130 (n + 1) 49 lv (.int i :: .ref a :: st) h = (match am_ild scr L h a i with
    | some x => am_f d scr L call 130 n 50 lv (.int x :: st) h
    | none => none) := k_ia rfl
theorem s_130_50 (d L n : Nat) (scr : Nat → Int32) (call : Nat → List Value → am_H → Option am_X) (lv : am_L) (st : List Value) (h : am_H) (x : Int32) : am_f d scr L call 130 (n + 1) 50 lv (.int x :: st) h = am_f d scr L call 130 n 51 (am_st1 lv 2 (.int x)) st h := k_nx (i := .istore_n 2) rfl rfl
theorem s_130_51 (d L n : Nat) (scr : Nat → Int32) (call : Nat → List Value → am_H → Option am_X) (lv : am_L) (st : List Value) (h : am_H) : am_f d scr L call 130 (n + 1) 51 lv st h = (match am_ld lv 0 with
    | some (.ref x) => am_f d scr L call 130 n 52 lv (.ref x :: st) h
    | _ => none) := k_la (i := .aload_n 0) rfl rfl rfl rfl
theorem s_130_52 (d L n : Nat) (scr : Nat → Int32) (call : Nat → List Value → am_H → Option am_X) (lv : am_L) (st : List Value) (h : am_H) (a : Nat) : am_f d scr L call 130 (n + 1) 52 lv (.ref a :: st) h = (match am_get h a 8 46 with
    | some v => am_f d scr L call 130 n 55 lv (v :: st) h
    | none => none) := k_gf (k := 102) rfl rfl
theorem s_130_55 (d L n : Nat) (scr : Nat → Int32) (call : Nat → List Value → am_H → Option am_X) (lv : am_L) (st : List Value) (h : am_H) : am_f d scr L call 130 (n + 1) 55 lv st h = (match am_ld lv 0 with
    | some (.ref x) => am_f d scr L call 130 n 56 lv (.ref x :: st) h
    | _ => none) := k_la (i := .aload_n 0) rfl rfl rfl rfl
theorem s_130_56 (d L n : Nat) (scr : Nat → Int32) (call : Nat → List Value → am_H → Option am_X) (lv : am_L) (st : List Value) (h : am_H) (a : Nat) : am_f d scr L call 130 (n + 1) 56 lv (.ref a :: st) h = (match am_get h a 8 44 with
    | some v => am_f d scr L call 130 n 59 lv (v :: st) h
    | none => none) := k_gf (k := 257) rfl rfl
theorem s_130_59 (d L n : Nat) (scr : Nat → Int32) (call : Nat → List Value → am_H → Option am_X) (lv : am_L) (st : List Value) (h : am_H) (a : Nat) (i : Int32) : am_f d scr L call 130 (n + 1) 59 lv (.int i :: .ref a :: st) h = (match am_ild scr L h a i with
    | some x => am_f d scr L call 130 n 60 lv (.int x :: st) h
    | none => none) := k_ia rfl
theorem s_130_60 (d L n : Nat) (scr : Nat → Int32) (call : Nat → List Value → am_H → Option am_X) (lv : am_L) (st : List Value) (h : am_H) (x : Int32) : am_f d scr L call 130 (n + 1) 60 lv (.int x :: st) h = am_f d scr L call 130 n 61 (am_st1 lv 3 (.int x)) st h := k_nx (i := .istore_n 3) rfl rfl
theorem s_130_61 (d L n : Nat) (scr : Nat → Int32) (call : Nat → List Value → am_H → Option am_X) (lv : am_L) (st : List Value) (h : am_H) : am_f d scr L call 130 (n + 1) 61 lv st h = (match am_ld lv 1 with
    | some (.int x) => am_f d scr L call 130 n 62 lv (.int x :: st) h
    | _ => none) := k_li (i := .iload_n 1) rfl rfl rfl rfl
theorem s_130_62 (d L n : Nat) (scr : Nat → Int32) (call : Nat → List Value → am_H → Option am_X) (lv : am_L) (st : List Value) (h : am_H) (x : Int32) : am_f d scr L call 130 (n + 1) 62 lv (.int x :: st) h = if 0 ≤ x then am_f d scr L call 130 n 82 lv st h else am_f d scr L call 130 n 65 lv st h := k_if_ge (o := 20) rfl ⟨by decide, rfl⟩
theorem s_130_65 (d L n : Nat) (scr : Nat → Int32) (call : Nat → List Value → am_H → Option am_X) (lv : am_L) (st : List Value) (h : am_H) : am_f d scr L call 130 (n + 1) 65 lv st h = (match am_ld lv 0 with
    | some (.ref x) => am_f d scr L call 130 n 66 lv (.ref x :: st) h
    | _ => none) := k_la (i := .aload_n 0) rfl rfl rfl rfl
theorem s_130_66 (d L n : Nat) (scr : Nat → Int32) (call : Nat → List Value → am_H → Option am_X) (lv : am_L) (st : List Value) (h : am_H) : am_f d scr L call 130 (n + 1) 66 lv st h = (match am_ld lv 0 with
    | some (.ref x) => am_f d scr L call 130 n 67 lv (.ref x :: st) h
    | _ => none) := k_la (i := .aload_n 0) rfl rfl rfl rfl
theorem s_130_67 (d L n : Nat) (scr : Nat → Int32) (call : Nat → List Value → am_H → Option am_X) (lv : am_L) (st : List Value) (h : am_H) : am_f d scr L call 130 (n + 1) 67 lv st h = (match am_ld lv 2 with
    | some (.int x) => am_f d scr L call 130 n 68 lv (.int x :: st) h
    | _ => none) := k_li (i := .iload_n 2) rfl rfl rfl rfl
theorem s_130_68 (d L n : Nat) (scr : Nat → Int32) (call : Nat → List Value → am_H → Option am_X) (lv : am_L) (st : List Value) (h : am_H) : am_f d scr L call 130 (n + 1) 68 lv st h = (match am_ld lv 0 with
    | some (.ref x) => am_f d scr L call 130 n 69 lv (.ref x :: st) h
    | _ => none) := k_la (i := .aload_n 0) rfl rfl rfl rfl
theorem s_130_69 (d L n : Nat) (scr : Nat → Int32) (call : Nat → List Value → am_H → Option am_X) (lv : am_L) (st : List Value) (h : am_H) (a : Nat) : am_f d scr L call 130 (n + 1) 69 lv (.ref a :: st) h = (match am_get h a 8 60 with
    | some v => am_f d scr L call 130 n 72 lv (v :: st) h
    | none => none) := k_gf (k := 263) rfl rfl
theorem s_130_72 (d L n : Nat) (scr : Nat → Int32) (call : Nat → List Value → am_H → Option am_X) (lv : am_L) (st : List Value) (h : am_H) : am_f d scr L call 130 (n + 1) 72 lv st h = am_f d scr L call 130 n 73 lv (.int 1 :: st) h := k_nx (i := .iconst 1) rfl rfl
theorem s_130_73 (d L n : Nat) (scr : Nat → Int32) (call : Nat → List Value → am_H → Option am_X) (lv : am_L) (h : am_H) (o : Nat) (a0 : Int32) (a1 : Int32) (a2 : Int32) (r0 : Nat) : am_f d scr L call 130 (n + 1) 73 lv (.int a2 :: .int a1 :: .int a0 :: .ref o :: .ref r0 :: []) h = if am_at h o 8 = true then (match call 119 [.ref o, .int a0, .int a1, .int a2] h with
    | some (v, h', dk, dn) => am_add dk dn (am_f d scr L call 130 n 76 lv (v.toList ++ [.ref r0]) h')
    | none => none) else none := k_iv0 (k := 285) (as := [.int a0, .int a1, .int a2]) (r := [.ref r0]) rfl rfl rfl rfl (Nat.le_of_ble_eq_true rfl)
theorem s_130_76 (d L n : Nat) (scr : Nat → Int32) (call : Nat → List Value → am_H → Option am_X) (lv : am_L) (h : am_H) (o : Nat) (a0 : Int32)  : am_f d scr L call 130 (n + 1) 76 lv (.int a0 :: .ref o :: []) h = if am_at h o 8 = true then (match call 122 [.ref o, .int a0] h with
    | some (v, h', dk, dn) => am_add dk dn (am_f d scr L call 130 n 79 lv (v.toList ++ []) h')
    | none => none) else none := k_iv0 (k := 266) (as := [.int a0]) (r := []) rfl rfl rfl rfl (Nat.le_of_ble_eq_true rfl)
theorem s_130_79 (d L n : Nat) (scr : Nat → Int32) (call : Nat → List Value → am_H → Option am_X) (lv : am_L) (st : List Value) (h : am_H) : am_f d scr L call 130 (n + 1) 79 lv st h = am_f d scr L call 130 n 157 lv st h := k_nx (i := .goto 78) rfl rfl
theorem s_130_82 (d L n : Nat) (scr : Nat → Int32) (call : Nat → List Value → am_H → Option am_X) (lv : am_L) (st : List Value) (h : am_H) : am_f d scr L call 130 (n + 1) 82 lv st h = (match am_ld lv 3 with
    | some (.int x) => am_f d scr L call 130 n 83 lv (.int x :: st) h
    | _ => none) := k_li (i := .iload_n 3) rfl rfl rfl rfl
theorem s_130_83 (d L n : Nat) (scr : Nat → Int32) (call : Nat → List Value → am_H → Option am_X) (lv : am_L) (st : List Value) (h : am_H) : am_f d scr L call 130 (n + 1) 83 lv st h = am_f d scr L call 130 n 84 lv (.int 1 :: st) h := k_nx (i := .iconst 1) rfl rfl
theorem s_130_84 (d L n : Nat) (scr : Nat → Int32) (call : Nat → List Value → am_H → Option am_X) (lv : am_L) (st : List Value) (h : am_H) (x y : Int32) : am_f d scr L call 130 (n + 1) 84 lv (.int y :: .int x :: st) h = if ¬ x = y then am_f d scr L call 130 n 104 lv st h else am_f d scr L call 130 n 87 lv st h := k_ic_ne (o := 20) rfl ⟨by decide, rfl⟩
theorem s_130_87 (d L n : Nat) (scr : Nat → Int32) (call : Nat → List Value → am_H → Option am_X) (lv : am_L) (st : List Value) (h : am_H) : am_f d scr L call 130 (n + 1) 87 lv st h = (match am_ld lv 0 with
    | some (.ref x) => am_f d scr L call 130 n 88 lv (.ref x :: st) h
    | _ => none) := k_la (i := .aload_n 0) rfl rfl rfl rfl
theorem s_130_88 (d L n : Nat) (scr : Nat → Int32) (call : Nat → List Value → am_H → Option am_X) (lv : am_L) (st : List Value) (h : am_H) : am_f d scr L call 130 (n + 1) 88 lv st h = (match am_ld lv 1 with
    | some (.int x) => am_f d scr L call 130 n 89 lv (.int x :: st) h
    | _ => none) := k_li (i := .iload_n 1) rfl rfl rfl rfl
theorem s_130_89 (d L n : Nat) (scr : Nat → Int32) (call : Nat → List Value → am_H → Option am_X) (lv : am_L) (st : List Value) (h : am_H) : am_f d scr L call 130 (n + 1) 89 lv st h = (match am_ld lv 0 with
    | some (.ref x) => am_f d scr L call 130 n 90 lv (.ref x :: st) h
    | _ => none) := k_la (i := .aload_n 0) rfl rfl rfl rfl
theorem s_130_90 (d L n : Nat) (scr : Nat → Int32) (call : Nat → List Value → am_H → Option am_X) (lv : am_L) (st : List Value) (h : am_H) (a : Nat) : am_f d scr L call 130 (n + 1) 90 lv (.ref a :: st) h = (match am_get h a 8 47 with
    | some v => am_f d scr L call 130 n 93 lv (v :: st) h
    | none => none) := k_gf (k := 105) rfl rfl
theorem s_130_93 (d L n : Nat) (scr : Nat → Int32) (call : Nat → List Value → am_H → Option am_X) (lv : am_L) (st : List Value) (h : am_H) : am_f d scr L call 130 (n + 1) 93 lv st h = (match am_ld lv 0 with
    | some (.ref x) => am_f d scr L call 130 n 94 lv (.ref x :: st) h
    | _ => none) := k_la (i := .aload_n 0) rfl rfl rfl rfl
theorem s_130_94 (d L n : Nat) (scr : Nat → Int32) (call : Nat → List Value → am_H → Option am_X) (lv : am_L) (st : List Value) (h : am_H) (a : Nat) : am_f d scr L call 130 (n + 1) 94 lv (.ref a :: st) h = (match am_get h a 8 44 with
    | some v => am_f d scr L call 130 n 97 lv (v :: st) h
    | none => none) := k_gf (k := 257) rfl rfl
theorem s_130_97 (d L n : Nat) (scr : Nat → Int32) (call : Nat → List Value → am_H → Option am_X) (lv : am_L) (st : List Value) (h : am_H) (a : Nat) (i : Int32) : am_f d scr L call 130 (n + 1) 97 lv (.int i :: .ref a :: st) h = (match am_ild scr L h a i with
    | some x => am_f d scr L call 130 n 98 lv (.int x :: st) h
    | none => none) := k_ia rfl
theorem s_130_98 (d L n : Nat) (scr : Nat → Int32) (call : Nat → List Value → am_H → Option am_X) (lv : am_L) (h : am_H) (o : Nat) (a0 : Int32) (a1 : Int32)  : am_f d scr L call 130 (n + 1) 98 lv (.int a1 :: .int a0 :: .ref o :: []) h = if am_at h o 8 = true then (match call 127 [.ref o, .int a0, .int a1] h with
    | some (v, h', dk, dn) => am_add dk dn (am_f d scr L call 130 n 101 lv (v.toList ++ []) h')
    | none => none) else none := k_iv0 (k := 305) (as := [.int a0, .int a1]) (r := []) rfl rfl rfl rfl (Nat.le_of_ble_eq_true rfl)
theorem s_130_101 (d L n : Nat) (scr : Nat → Int32) (call : Nat → List Value → am_H → Option am_X) (lv : am_L) (st : List Value) (h : am_H) : am_f d scr L call 130 (n + 1) 101 lv st h = am_f d scr L call 130 n 157 lv st h := k_nx (i := .goto 56) rfl rfl
theorem s_130_104 (d L n : Nat) (scr : Nat → Int32) (call : Nat → List Value → am_H → Option am_X) (lv : am_L) (st : List Value) (h : am_H) : am_f d scr L call 130 (n + 1) 104 lv st h = (match am_ld lv 3 with
    | some (.int x) => am_f d scr L call 130 n 105 lv (.int x :: st) h
    | _ => none) := k_li (i := .iload_n 3) rfl rfl rfl rfl
theorem s_130_105 (d L n : Nat) (scr : Nat → Int32) (call : Nat → List Value → am_H → Option am_X) (lv : am_L) (st : List Value) (h : am_H) : am_f d scr L call 130 (n + 1) 105 lv st h = am_f d scr L call 130 n 106 lv (.int 2 :: st) h := k_nx (i := .iconst 2) rfl rfl
theorem s_130_106 (d L n : Nat) (scr : Nat → Int32) (call : Nat → List Value → am_H → Option am_X) (lv : am_L) (st : List Value) (h : am_H) (x y : Int32) : am_f d scr L call 130 (n + 1) 106 lv (.int y :: .int x :: st) h = if ¬ x = y then am_f d scr L call 130 n 118 lv st h else am_f d scr L call 130 n 109 lv st h := k_ic_ne (o := 12) rfl ⟨by decide, rfl⟩
theorem s_130_109 (d L n : Nat) (scr : Nat → Int32) (call : Nat → List Value → am_H → Option am_X) (lv : am_L) (st : List Value) (h : am_H) : am_f d scr L call 130 (n + 1) 109 lv st h = (match am_ld lv 0 with
    | some (.ref x) => am_f d scr L call 130 n 110 lv (.ref x :: st) h
    | _ => none) := k_la (i := .aload_n 0) rfl rfl rfl rfl
theorem s_130_110 (d L n : Nat) (scr : Nat → Int32) (call : Nat → List Value → am_H → Option am_X) (lv : am_L) (st : List Value) (h : am_H) : am_f d scr L call 130 (n + 1) 110 lv st h = (match am_ld lv 1 with
    | some (.int x) => am_f d scr L call 130 n 111 lv (.int x :: st) h
    | _ => none) := k_li (i := .iload_n 1) rfl rfl rfl rfl
theorem s_130_111 (d L n : Nat) (scr : Nat → Int32) (call : Nat → List Value → am_H → Option am_X) (lv : am_L) (st : List Value) (h : am_H) : am_f d scr L call 130 (n + 1) 111 lv st h = (match am_ld lv 2 with
    | some (.int x) => am_f d scr L call 130 n 112 lv (.int x :: st) h
    | _ => none) := k_li (i := .iload_n 2) rfl rfl rfl rfl
theorem s_130_112 (d L n : Nat) (scr : Nat → Int32) (call : Nat → List Value → am_H → Option am_X) (lv : am_L) (h : am_H) (o : Nat) (a0 : Int32) (a1 : Int32)  : am_f d scr L call 130 (n + 1) 112 lv (.int a1 :: .int a0 :: .ref o :: []) h = if am_at h o 8 = true then (match call 128 [.ref o, .int a0, .int a1] h with
    | some (v, h', dk, dn) => am_add dk dn (am_f d scr L call 130 n 115 lv (v.toList ++ []) h')
    | none => none) else none := k_iv0 (k := 308) (as := [.int a0, .int a1]) (r := []) rfl rfl rfl rfl (Nat.le_of_ble_eq_true rfl)
theorem s_130_115 (d L n : Nat) (scr : Nat → Int32) (call : Nat → List Value → am_H → Option am_X) (lv : am_L) (st : List Value) (h : am_H) : am_f d scr L call 130 (n + 1) 115 lv st h = am_f d scr L call 130 n 157 lv st h := k_nx (i := .goto 42) rfl rfl
theorem s_130_118 (d L n : Nat) (scr : Nat → Int32) (call : Nat → List Value → am_H → Option am_X) (lv : am_L) (st : List Value) (h : am_H) : am_f d scr L call 130 (n + 1) 118 lv st h = (match am_ld lv 0 with
    | some (.ref x) => am_f d scr L call 130 n 119 lv (.ref x :: st) h
    | _ => none) := k_la (i := .aload_n 0) rfl rfl rfl rfl
theorem s_130_119 (d L n : Nat) (scr : Nat → Int32) (call : Nat → List Value → am_H → Option am_X) (lv : am_L) (st : List Value) (h : am_H) : am_f d scr L call 130 (n + 1) 119 lv st h = (match am_ld lv 0 with
    | some (.ref x) => am_f d scr L call 130 n 120 lv (.ref x :: st) h
    | _ => none) := k_la (i := .aload_n 0) rfl rfl rfl rfl
theorem s_130_120 (d L n : Nat) (scr : Nat → Int32) (call : Nat → List Value → am_H → Option am_X) (lv : am_L) (st : List Value) (h : am_H) : am_f d scr L call 130 (n + 1) 120 lv st h = (match am_ld lv 0 with
    | some (.ref x) => am_f d scr L call 130 n 121 lv (.ref x :: st) h
    | _ => none) := k_la (i := .aload_n 0) rfl rfl rfl rfl
theorem s_130_121 (d L n : Nat) (scr : Nat → Int32) (call : Nat → List Value → am_H → Option am_X) (lv : am_L) (st : List Value) (h : am_H) (a : Nat) : am_f d scr L call 130 (n + 1) 121 lv (.ref a :: st) h = (match am_get h a 8 60 with
    | some v => am_f d scr L call 130 n 124 lv (v :: st) h
    | none => none) := k_gf (k := 263) rfl rfl
theorem s_130_124 (d L n : Nat) (scr : Nat → Int32) (call : Nat → List Value → am_H → Option am_X) (lv : am_L) (st : List Value) (h : am_H) : am_f d scr L call 130 (n + 1) 124 lv st h = (match am_ld lv 0 with
    | some (.ref x) => am_f d scr L call 130 n 125 lv (.ref x :: st) h
    | _ => none) := k_la (i := .aload_n 0) rfl rfl rfl rfl
theorem s_130_125 (d L n : Nat) (scr : Nat → Int32) (call : Nat → List Value → am_H → Option am_X) (lv : am_L) (st : List Value) (h : am_H) (a : Nat) : am_f d scr L call 130 (n + 1) 125 lv (.ref a :: st) h = (match am_get h a 8 61 with
    | some v => am_f d scr L call 130 n 128 lv (v :: st) h
    | none => none) := k_gf (k := 117) rfl rfl
theorem s_130_128 (d L n : Nat) (scr : Nat → Int32) (call : Nat → List Value → am_H → Option am_X) (lv : am_L) (st : List Value) (h : am_H) : am_f d scr L call 130 (n + 1) 128 lv st h = (match am_ld lv 0 with
    | some (.ref x) => am_f d scr L call 130 n 129 lv (.ref x :: st) h
    | _ => none) := k_la (i := .aload_n 0) rfl rfl rfl rfl
theorem s_130_129 (d L n : Nat) (scr : Nat → Int32) (call : Nat → List Value → am_H → Option am_X) (lv : am_L) (st : List Value) (h : am_H) (a : Nat) : am_f d scr L call 130 (n + 1) 129 lv (.ref a :: st) h = (match am_get h a 8 16 with
    | some v => am_f d scr L call 130 n 132 lv (v :: st) h
    | none => none) := k_gf (k := 44) rfl rfl
theorem s_130_132 (d L n : Nat) (scr : Nat → Int32) (call : Nat → List Value → am_H → Option am_X) (lv : am_L) (st : List Value) (h : am_H) : am_f d scr L call 130 (n + 1) 132 lv st h = (match am_ld lv 1 with
    | some (.int x) => am_f d scr L call 130 n 133 lv (.int x :: st) h
    | _ => none) := k_li (i := .iload_n 1) rfl rfl rfl rfl
theorem s_130_133 (d L n : Nat) (scr : Nat → Int32) (call : Nat → List Value → am_H → Option am_X) (lv : am_L) (st : List Value) (h : am_H) (a : Nat) (i : Int32) : am_f d scr L call 130 (n + 1) 133 lv (.int i :: .ref a :: st) h = (match am_ild scr L h a i with
    | some x => am_f d scr L call 130 n 134 lv (.int x :: st) h
    | none => none) := k_ia rfl
theorem s_130_134 (d L n : Nat) (scr : Nat → Int32) (call : Nat → List Value → am_H → Option am_X) (lv : am_L) (st : List Value) (h : am_H) (a : Nat) (i : Int32) : am_f d scr L call 130 (n + 1) 134 lv (.int i :: .ref a :: st) h = (match am_ild scr L h a i with
    | some x => am_f d scr L call 130 n 135 lv (.int x :: st) h
    | none => none) := k_ia rfl
theorem s_130_135 (d L n : Nat) (scr : Nat → Int32) (call : Nat → List Value → am_H → Option am_X) (lv : am_L) (st : List Value) (h : am_H) : am_f d scr L call 130 (n + 1) 135 lv st h = (match am_ld lv 0 with
    | some (.ref x) => am_f d scr L call 130 n 136 lv (.ref x :: st) h
    | _ => none) := k_la (i := .aload_n 0) rfl rfl rfl rfl
theorem s_130_136 (d L n : Nat) (scr : Nat → Int32) (call : Nat → List Value → am_H → Option am_X) (lv : am_L) (st : List Value) (h : am_H) (a : Nat) : am_f d scr L call 130 (n + 1) 136 lv (.ref a :: st) h = (match am_get h a 8 61 with
    | some v => am_f d scr L call 130 n 139 lv (v :: st) h
    | none => none) := k_gf (k := 117) rfl rfl
theorem s_130_139 (d L n : Nat) (scr : Nat → Int32) (call : Nat → List Value → am_H → Option am_X) (lv : am_L) (st : List Value) (h : am_H) : am_f d scr L call 130 (n + 1) 139 lv st h = (match am_ld lv 0 with
    | some (.ref x) => am_f d scr L call 130 n 140 lv (.ref x :: st) h
    | _ => none) := k_la (i := .aload_n 0) rfl rfl rfl rfl
theorem s_130_140 (d L n : Nat) (scr : Nat → Int32) (call : Nat → List Value → am_H → Option am_X) (lv : am_L) (st : List Value) (h : am_H) (a : Nat) : am_f d scr L call 130 (n + 1) 140 lv (.ref a :: st) h = (match am_get h a 8 15 with
    | some v => am_f d scr L call 130 n 143 lv (v :: st) h
    | none => none) := k_gf (k := 41) rfl rfl
set_option maxRecDepth 100000 in
theorem s_130_143 (d L n : Nat) (scr : Nat → Int32) (call : Nat → List Value → am_H → Option am_X) (lv : am_L) (st : List Value) (h : am_H) : am_f d scr L call 130 (n + 1) 143 lv st h = (match am_ld lv 1 with
    | some (.int x) => am_f d scr L call 130 n 144 lv (.int x :: st) h
    | _ => none) := k_li (i := .iload_n 1) rfl rfl rfl rfl
set_option maxRecDepth 100000 in
theorem s_130_144 (d L n : Nat) (scr : Nat → Int32) (call : Nat → List Value → am_H → Option am_X) (lv : am_L) (st : List Value) (h : am_H) (a : Nat) (i : Int32) : am_f d scr L call 130 (n + 1) 144 lv (.int i :: .ref a :: st) h = (match am_ild scr L h a i with
    | some x => am_f d scr L call 130 n 145 lv (.int x :: st) h
    | none => none) := k_ia rfl
set_option maxRecDepth 100000 in
theorem s_130_145 (d L n : Nat) (scr : Nat → Int32) (call : Nat → List Value → am_H → Option am_X) (lv : am_L) (st : List Value) (h : am_H) (a : Nat) (i : Int32) : am_f d scr L call 130 (n + 1) 145 lv (.int i :: .ref a :: st) h = (match am_ild scr L h a i with
    | some x => am_f d scr L call 130 n 146 lv (.int x :: st) h
    | none => none) := k_ia rfl
set_option maxRecDepth 100000 in
theorem s_130_146 (d L n : Nat) (scr : Nat → Int32) (call : Nat → List Value → am_H → Option am_X) (lv : am_L) (st : List Value) (h : am_H) : am_f d scr L call 130 (n + 1) 146 lv st h = (match am_ld lv 0 with
    | some (.ref x) => am_f d scr L call 130 n 147 lv (.ref x :: st) h
    | _ => none) := k_la (i := .aload_n 0) rfl rfl rfl rfl
set_option maxRecDepth 100000 in
theorem s_130_147 (d L n : Nat) (scr : Nat → Int32) (call : Nat → List Value → am_H → Option am_X) (lv : am_L) (st : List Value) (h : am_H) : am_f d scr L call 130 (n + 1) 147 lv st h = (match am_ld lv 1 with
    | some (.int x) => am_f d scr L call 130 n 148 lv (.int x :: st) h
    | _ => none) := k_li (i := .iload_n 1) rfl rfl rfl rfl
set_option maxRecDepth 100000 in
theorem s_130_148 (d L n : Nat) (scr : Nat → Int32) (call : Nat → List Value → am_H → Option am_X) (lv : am_L) (h : am_H) (o : Nat) (a0 : Int32) (r0 : Int32) (r1 : Int32) (r2 : Int32) (r3 : Nat) (r4 : Nat) : am_f d scr L call 130 (n + 1) 148 lv (.int a0 :: .ref o :: .int r0 :: .int r1 :: .int r2 :: .ref r3 :: .ref r4 :: []) h = if am_at h o 8 = true then (match call 124 [.ref o, .int a0] h with
    | some (v, h', dk, dn) => am_add dk dn (am_f d scr L call 130 n 151 lv (v.toList ++ [.int r0, .int r1, .int r2, .ref r3, .ref r4]) h')
    | none => none) else none := k_iv0 (k := 279) (as := [.int a0]) (r := [.int r0, .int r1, .int r2, .ref r3, .ref r4]) rfl rfl rfl rfl (Nat.le_of_ble_eq_true rfl)
set_option maxRecDepth 100000 in
theorem s_130_151 (d L n : Nat) (scr : Nat → Int32) (call : Nat → List Value → am_H → Option am_X) (lv : am_L) (h : am_H) (o : Nat) (a0 : Int32) (a1 : Int32) (a2 : Int32) (a3 : Int32) (r0 : Nat) : am_f d scr L call 130 (n + 1) 151 lv (.int a3 :: .int a2 :: .int a1 :: .int a0 :: .ref o :: .ref r0 :: []) h = if am_at h o 8 = true then (match call 114 [.ref o, .int a0, .int a1, .int a2, .int a3] h with
    | some (v, h', dk, dn) => am_add dk dn (am_f d scr L call 130 n 154 lv (v.toList ++ [.ref r0]) h')
    | none => none) else none := k_iv0 (k := 241) (as := [.int a0, .int a1, .int a2, .int a3]) (r := [.ref r0]) rfl rfl rfl rfl (Nat.le_of_ble_eq_true rfl)
set_option maxRecDepth 100000 in
theorem s_130_154 (d L n : Nat) (scr : Nat → Int32) (call : Nat → List Value → am_H → Option am_X) (lv : am_L) (h : am_H) (o : Nat) (a0 : Int32)  : am_f d scr L call 130 (n + 1) 154 lv (.int a0 :: .ref o :: []) h = if am_at h o 8 = true then (match call 122 [.ref o, .int a0] h with
    | some (v, h', dk, dn) => am_add dk dn (am_f d scr L call 130 n 157 lv (v.toList ++ []) h')
    | none => none) else none := k_iv0 (k := 266) (as := [.int a0]) (r := []) rfl rfl rfl rfl (Nat.le_of_ble_eq_true rfl)
set_option maxRecDepth 100000 in
theorem s_130_157 (d L n : Nat) (scr : Nat → Int32) (call : Nat → List Value → am_H → Option am_X) (lv : am_L) (h : am_H) : am_f d scr L call 130 (n + 1) 157 lv [] h = some (none, h, 0, 0) := k_vr rfl rfl
-- 131: BlameDeskModel.run(I)I
theorem s_131_0 (d L n : Nat) (scr : Nat → Int32) (call : Nat → List Value → am_H → Option am_X) (lv : am_L) (st : List Value) (h : am_H) : am_f d scr L call 131 (n + 1) 0 lv st h = (match am_ld lv 0 with
    | some (.ref x) => am_f d scr L call 131 n 1 lv (.ref x :: st) h
    | _ => none) := k_la (i := .aload_n 0) rfl rfl rfl rfl
theorem s_131_1 (d L n : Nat) (scr : Nat → Int32) (call : Nat → List Value → am_H → Option am_X) (lv : am_L) (st : List Value) (h : am_H) (a : Nat) : am_f d scr L call 131 (n + 1) 1 lv (.ref a :: st) h = (match am_get h a 8 25 with
    | some v => am_f d scr L call 131 n 4 lv (v :: st) h
    | none => none) := k_gf (k := 200) rfl rfl
theorem s_131_4 (d L n : Nat) (scr : Nat → Int32) (call : Nat → List Value → am_H → Option am_X) (lv : am_L) (st : List Value) (h : am_H) (x : Int32) : am_f d scr L call 131 (n + 1) 4 lv (.int x :: st) h = if x = 0 then am_f d scr L call 131 n 17 lv st h else am_f d scr L call 131 n 7 lv st h := k_if_eq (o := 13) rfl ⟨by decide, rfl⟩
theorem s_131_7 (d L n : Nat) (scr : Nat → Int32) (call : Nat → List Value → am_H → Option am_X) (lv : am_L) (st : List Value) (h : am_H) : am_f d scr L call 131 (n + 1) 7 lv st h = (match am_ld lv 1 with
    | some (.int x) => am_f d scr L call 131 n 8 lv (.int x :: st) h
    | _ => none) := k_li (i := .iload_n 1) rfl rfl rfl rfl
theorem s_131_8 (d L n : Nat) (scr : Nat → Int32) (call : Nat → List Value → am_H → Option am_X) (lv : am_L) (st : List Value) (h : am_H) (x : Int32) : am_f d scr L call 131 (n + 1) 8 lv (.int x :: st) h = if x < 0 then am_f d scr L call 131 n 17 lv st h else am_f d scr L call 131 n 11 lv st h := k_if_lt (o := 9) rfl ⟨by decide, rfl⟩
theorem s_131_11 (d L n : Nat) (scr : Nat → Int32) (call : Nat → List Value → am_H → Option am_X) (lv : am_L) (st : List Value) (h : am_H) : am_f d scr L call 131 (n + 1) 11 lv st h = (match am_ld lv 1 with
    | some (.int x) => am_f d scr L call 131 n 12 lv (.int x :: st) h
    | _ => none) := k_li (i := .iload_n 1) rfl rfl rfl rfl
theorem s_131_12 (d L n : Nat) (scr : Nat → Int32) (call : Nat → List Value → am_H → Option am_X) (lv : am_L) (st : List Value) (h : am_H) : am_f d scr L call 131 (n + 1) 12 lv st h = am_f d scr L call 131 n 14 lv (.int 40 :: st) h := k_nx (i := .bipush 40) rfl rfl
theorem s_131_14 (d L n : Nat) (scr : Nat → Int32) (call : Nat → List Value → am_H → Option am_X) (lv : am_L) (st : List Value) (h : am_H) (x y : Int32) : am_f d scr L call 131 (n + 1) 14 lv (.int y :: .int x :: st) h = if x ≤ y then am_f d scr L call 131 n 19 lv st h else am_f d scr L call 131 n 17 lv st h := k_ic_le (o := 5) rfl ⟨by decide, rfl⟩
theorem s_131_17 (d L n : Nat) (scr : Nat → Int32) (call : Nat → List Value → am_H → Option am_X) (lv : am_L) (st : List Value) (h : am_H) : am_f d scr L call 131 (n + 1) 17 lv st h = am_f d scr L call 131 n 18 lv (.int (-1) :: st) h := k_nx (i := .iconst (-1)) rfl rfl
theorem s_131_18 (d L n : Nat) (scr : Nat → Int32) (call : Nat → List Value → am_H → Option am_X) (lv : am_L) (h : am_H) (x : Int32) : am_f d scr L call 131 (n + 1) 18 lv [.int x] h = some (some (.int x), h, 0, 0) := k_ir rfl rfl
theorem s_131_19 (d L n : Nat) (scr : Nat → Int32) (call : Nat → List Value → am_H → Option am_X) (lv : am_L) (st : List Value) (h : am_H) : am_f d scr L call 131 (n + 1) 19 lv st h = (match am_ld lv 0 with
    | some (.ref x) => am_f d scr L call 131 n 20 lv (.ref x :: st) h
    | _ => none) := k_la (i := .aload_n 0) rfl rfl rfl rfl
theorem s_131_20 (d L n : Nat) (scr : Nat → Int32) (call : Nat → List Value → am_H → Option am_X) (lv : am_L) (h : am_H) (o : Nat)   : am_f d scr L call 131 (n + 1) 20 lv (.ref o :: []) h = if am_at h o 8 = true then (match call 120 [.ref o] h with
    | some (v, h', dk, dn) => am_add dk dn (am_f d scr L call 131 n 23 lv (v.toList ++ []) h')
    | none => none) else none := k_iv0 (k := 197) (as := []) (r := []) rfl rfl rfl rfl (Nat.le_of_ble_eq_true rfl)
theorem s_131_23 (d L n : Nat) (scr : Nat → Int32) (call : Nat → List Value → am_H → Option am_X) (lv : am_L) (st : List Value) (h : am_H) : am_f d scr L call 131 (n + 1) 23 lv st h = (match am_ld lv 0 with
    | some (.ref x) => am_f d scr L call 131 n 24 lv (.ref x :: st) h
    | _ => none) := k_la (i := .aload_n 0) rfl rfl rfl rfl
theorem s_131_24 (d L n : Nat) (scr : Nat → Int32) (call : Nat → List Value → am_H → Option am_X) (lv : am_L) (st : List Value) (h : am_H) : am_f d scr L call 131 (n + 1) 24 lv st h = (match am_ld lv 1 with
    | some (.int x) => am_f d scr L call 131 n 25 lv (.int x :: st) h
    | _ => none) := k_li (i := .iload_n 1) rfl rfl rfl rfl
theorem s_131_25 (d L n : Nat) (scr : Nat → Int32) (call : Nat → List Value → am_H → Option am_X) (lv : am_L) (st : List Value) (h : am_H) (x : Int32) (a : Nat) : am_f d scr L call 131 (n + 1) 25 lv (.int x :: .ref a :: st) h = (match am_put h a 8 52 (.int x) with
    | some h' => am_f d scr L call 131 n 28 lv st h'
    | none => none) := k_pf (k := 299) rfl rfl rfl
theorem s_131_28 (d L n : Nat) (scr : Nat → Int32) (call : Nat → List Value → am_H → Option am_X) (lv : am_L) (st : List Value) (h : am_H) : am_f d scr L call 131 (n + 1) 28 lv st h = (match am_ld lv 0 with
    | some (.ref x) => am_f d scr L call 131 n 29 lv (.ref x :: st) h
    | _ => none) := k_la (i := .aload_n 0) rfl rfl rfl rfl
theorem s_131_29 (d L n : Nat) (scr : Nat → Int32) (call : Nat → List Value → am_H → Option am_X) (lv : am_L) (st : List Value) (h : am_H) : am_f d scr L call 131 (n + 1) 29 lv st h = (match am_ld lv 0 with
    | some (.ref x) => am_f d scr L call 131 n 30 lv (.ref x :: st) h
    | _ => none) := k_la (i := .aload_n 0) rfl rfl rfl rfl
theorem s_131_30 (d L n : Nat) (scr : Nat → Int32) (call : Nat → List Value → am_H → Option am_X) (lv : am_L) (st : List Value) (h : am_H) (a : Nat) : am_f d scr L call 131 (n + 1) 30 lv (.ref a :: st) h = (match am_get h a 8 26 with
    | some v => am_f d scr L call 131 n 33 lv (v :: st) h
    | none => none) := k_gf (k := 184) rfl rfl
theorem s_131_33 (d L n : Nat) (scr : Nat → Int32) (call : Nat → List Value → am_H → Option am_X) (lv : am_L) (st : List Value) (h : am_H) (x : Int32) (a : Nat) : am_f d scr L call 131 (n + 1) 33 lv (.int x :: .ref a :: st) h = (match am_put h a 8 58 (.int x) with
    | some h' => am_f d scr L call 131 n 36 lv st h'
    | none => none) := k_pf (k := 260) rfl rfl rfl
theorem s_131_36 (d L n : Nat) (scr : Nat → Int32) (call : Nat → List Value → am_H → Option am_X) (lv : am_L) (st : List Value) (h : am_H) : am_f d scr L call 131 (n + 1) 36 lv st h = (match am_ld lv 0 with
    | some (.ref x) => am_f d scr L call 131 n 37 lv (.ref x :: st) h
    | _ => none) := k_la (i := .aload_n 0) rfl rfl rfl rfl
theorem s_131_37 (d L n : Nat) (scr : Nat → Int32) (call : Nat → List Value → am_H → Option am_X) (lv : am_L) (st : List Value) (h : am_H) : am_f d scr L call 131 (n + 1) 37 lv st h = am_f d scr L call 131 n 38 lv (.int 0 :: st) h := k_nx (i := .iconst 0) rfl rfl
theorem s_131_38 (d L n : Nat) (scr : Nat → Int32) (call : Nat → List Value → am_H → Option am_X) (lv : am_L) (st : List Value) (h : am_H) (x : Int32) (a : Nat) : am_f d scr L call 131 (n + 1) 38 lv (.int x :: .ref a :: st) h = (match am_put h a 8 59 (.int x) with
    | some h' => am_f d scr L call 131 n 41 lv st h'
    | none => none) := k_pf (k := 269) rfl rfl rfl
theorem s_131_41 (d L n : Nat) (scr : Nat → Int32) (call : Nat → List Value → am_H → Option am_X) (lv : am_L) (st : List Value) (h : am_H) : am_f d scr L call 131 (n + 1) 41 lv st h = am_f d scr L call 131 n 42 lv (.int 0 :: st) h := k_nx (i := .iconst 0) rfl rfl
theorem s_131_42 (d L n : Nat) (scr : Nat → Int32) (call : Nat → List Value → am_H → Option am_X) (lv : am_L) (st : List Value) (h : am_H) (x : Int32) : am_f d scr L call 131 (n + 1) 42 lv (.int x :: st) h = am_f d scr L call 131 n 43 (am_st1 lv 2 (.int x)) st h := k_nx (i := .istore_n 2) rfl rfl
theorem s_131_43 (d L n : Nat) (scr : Nat → Int32) (call : Nat → List Value → am_H → Option am_X) (lv : am_L) (st : List Value) (h : am_H) : am_f d scr L call 131 (n + 1) 43 lv st h = (match am_ld lv 2 with
    | some (.int x) => am_f d scr L call 131 n 44 lv (.int x :: st) h
    | _ => none) := k_li (i := .iload_n 2) rfl rfl rfl rfl
theorem s_131_44 (d L n : Nat) (scr : Nat → Int32) (call : Nat → List Value → am_H → Option am_X) (lv : am_L) (st : List Value) (h : am_H) : am_f d scr L call 131 (n + 1) 44 lv st h = am_f d scr L call 131 n 47 lv (.int 100000 :: st) h := k_nx (i := .ldc_w 311) rfl rfl
theorem s_131_47 (d L n : Nat) (scr : Nat → Int32) (call : Nat → List Value → am_H → Option am_X) (lv : am_L) (st : List Value) (h : am_H) (x y : Int32) : am_f d scr L call 131 (n + 1) 47 lv (.int y :: .int x :: st) h = if y ≤ x then am_f d scr L call 131 n 81 lv st h else am_f d scr L call 131 n 50 lv st h := k_ic_ge (o := 34) rfl ⟨by decide, rfl⟩
theorem s_131_50 (d L n : Nat) (scr : Nat → Int32) (call : Nat → List Value → am_H → Option am_X) (lv : am_L) (st : List Value) (h : am_H) : am_f d scr L call 131 (n + 1) 50 lv st h = (match am_ld lv 0 with
    | some (.ref x) => am_f d scr L call 131 n 51 lv (.ref x :: st) h
    | _ => none) := k_la (i := .aload_n 0) rfl rfl rfl rfl
theorem s_131_51 (d L n : Nat) (scr : Nat → Int32) (call : Nat → List Value → am_H → Option am_X) (lv : am_L) (st : List Value) (h : am_H) (a : Nat) : am_f d scr L call 131 (n + 1) 51 lv (.ref a :: st) h = (match am_get h a 8 51 with
    | some v => am_f d scr L call 131 n 54 lv (v :: st) h
    | none => none) := k_gf (k := 216) rfl rfl
theorem s_131_54 (d L n : Nat) (scr : Nat → Int32) (call : Nat → List Value → am_H → Option am_X) (lv : am_L) (st : List Value) (h : am_H) (x : Int32) : am_f d scr L call 131 (n + 1) 54 lv (.int x :: st) h = if ¬ x = 0 then am_f d scr L call 131 n 81 lv st h else am_f d scr L call 131 n 57 lv st h := k_if_ne (o := 27) rfl ⟨by decide, rfl⟩
theorem s_131_57 (d L n : Nat) (scr : Nat → Int32) (call : Nat → List Value → am_H → Option am_X) (lv : am_L) (st : List Value) (h : am_H) : am_f d scr L call 131 (n + 1) 57 lv st h = (match am_ld lv 0 with
    | some (.ref x) => am_f d scr L call 131 n 58 lv (.ref x :: st) h
    | _ => none) := k_la (i := .aload_n 0) rfl rfl rfl rfl
theorem s_131_58 (d L n : Nat) (scr : Nat → Int32) (call : Nat → List Value → am_H → Option am_X) (lv : am_L) (st : List Value) (h : am_H) (a : Nat) : am_f d scr L call 131 (n + 1) 58 lv (.ref a :: st) h = (match am_get h a 8 58 with
    | some v => am_f d scr L call 131 n 61 lv (v :: st) h
    | none => none) := k_gf (k := 260) rfl rfl
theorem s_131_61 (d L n : Nat) (scr : Nat → Int32) (call : Nat → List Value → am_H → Option am_X) (lv : am_L) (st : List Value) (h : am_H) (x : Int32) : am_f d scr L call 131 (n + 1) 61 lv (.int x :: st) h = if x < 0 then am_f d scr L call 131 n 71 lv st h else am_f d scr L call 131 n 64 lv st h := k_if_lt (o := 10) rfl ⟨by decide, rfl⟩
theorem s_131_64 (d L n : Nat) (scr : Nat → Int32) (call : Nat → List Value → am_H → Option am_X) (lv : am_L) (st : List Value) (h : am_H) : am_f d scr L call 131 (n + 1) 64 lv st h = (match am_ld lv 0 with
    | some (.ref x) => am_f d scr L call 131 n 65 lv (.ref x :: st) h
    | _ => none) := k_la (i := .aload_n 0) rfl rfl rfl rfl
theorem s_131_65 (d L n : Nat) (scr : Nat → Int32) (call : Nat → List Value → am_H → Option am_X) (lv : am_L) (h : am_H) (o : Nat)   : am_f d scr L call 131 (n + 1) 65 lv (.ref o :: []) h = if am_at h o 8 = true then (match call 123 [.ref o] h with
    | some (v, h', dk, dn) => am_add dk dn (am_f d scr L call 131 n 68 lv (v.toList ++ []) h')
    | none => none) else none := k_iv0 (k := 312) (as := []) (r := []) rfl rfl rfl rfl (Nat.le_of_ble_eq_true rfl)
theorem s_131_68 (d L n : Nat) (scr : Nat → Int32) (call : Nat → List Value → am_H → Option am_X) (lv : am_L) (st : List Value) (h : am_H) : am_f d scr L call 131 (n + 1) 68 lv st h = am_f d scr L call 131 n 75 lv st h := k_nx (i := .goto 7) rfl rfl
theorem s_131_71 (d L n : Nat) (scr : Nat → Int32) (call : Nat → List Value → am_H → Option am_X) (lv : am_L) (st : List Value) (h : am_H) : am_f d scr L call 131 (n + 1) 71 lv st h = (match am_ld lv 0 with
    | some (.ref x) => am_f d scr L call 131 n 72 lv (.ref x :: st) h
    | _ => none) := k_la (i := .aload_n 0) rfl rfl rfl rfl
theorem s_131_72 (d L n : Nat) (scr : Nat → Int32) (call : Nat → List Value → am_H → Option am_X) (lv : am_L) (h : am_H) (o : Nat)   : am_f d scr L call 131 (n + 1) 72 lv (.ref o :: []) h = if am_at h o 8 = true then (match call 130 [.ref o] h with
    | some (v, h', dk, dn) => am_add dk dn (am_f d scr L call 131 n 75 lv (v.toList ++ []) h')
    | none => none) else none := k_iv0 (k := 315) (as := []) (r := []) rfl rfl rfl rfl (Nat.le_of_ble_eq_true rfl)
theorem s_131_75 (d L n : Nat) (scr : Nat → Int32) (call : Nat → List Value → am_H → Option am_X) (lv : am_L) (st : List Value) (h : am_H) : am_f d scr L call 131 (n + 1) 75 lv st h = (match am_ld lv 2 with
    | some (.int x) => am_f d scr L call 131 n 78 (am_st1 lv 2 (.int (x + 1))) st h
    | _ => none) := k_iinc (k := 2) (c := 1) rfl rfl (Nat.le_of_ble_eq_true rfl)
theorem s_131_78 (d L n : Nat) (scr : Nat → Int32) (call : Nat → List Value → am_H → Option am_X) (lv : am_L) (st : List Value) (h : am_H) : am_f d scr L call 131 (n + 1) 78 lv st h = am_f d scr L call 131 n 43 lv st h := k_nx (i := .goto (-35)) rfl rfl
theorem s_131_81 (d L n : Nat) (scr : Nat → Int32) (call : Nat → List Value → am_H → Option am_X) (lv : am_L) (st : List Value) (h : am_H) : am_f d scr L call 131 (n + 1) 81 lv st h = (match am_ld lv 0 with
    | some (.ref x) => am_f d scr L call 131 n 82 lv (.ref x :: st) h
    | _ => none) := k_la (i := .aload_n 0) rfl rfl rfl rfl
theorem s_131_82 (d L n : Nat) (scr : Nat → Int32) (call : Nat → List Value → am_H → Option am_X) (lv : am_L) (st : List Value) (h : am_H) (a : Nat) : am_f d scr L call 131 (n + 1) 82 lv (.ref a :: st) h = (match am_get h a 8 51 with
    | some v => am_f d scr L call 131 n 85 lv (v :: st) h
    | none => none) := k_gf (k := 216) rfl rfl
theorem s_131_85 (d L n : Nat) (scr : Nat → Int32) (call : Nat → List Value → am_H → Option am_X) (lv : am_L) (h : am_H) (x : Int32) : am_f d scr L call 131 (n + 1) 85 lv [.int x] h = some (some (.int x), h, 0, 0) := k_ir rfl rfl
-- 132: BlameDeskModel.position()I
theorem s_132_0 (d L n : Nat) (scr : Nat → Int32) (call : Nat → List Value → am_H → Option am_X) (lv : am_L) (st : List Value) (h : am_H) : am_f d scr L call 132 (n + 1) 0 lv st h = (match am_ld lv 0 with
    | some (.ref x) => am_f d scr L call 132 n 1 lv (.ref x :: st) h
    | _ => none) := k_la (i := .aload_n 0) rfl rfl rfl rfl
theorem s_132_1 (d L n : Nat) (scr : Nat → Int32) (call : Nat → List Value → am_H → Option am_X) (lv : am_L) (st : List Value) (h : am_H) (a : Nat) : am_f d scr L call 132 (n + 1) 1 lv (.ref a :: st) h = (match am_get h a 8 27 with
    | some v => am_f d scr L call 132 n 4 lv (v :: st) h
    | none => none) := k_gf (k := 59) rfl rfl
theorem s_132_4 (d L n : Nat) (scr : Nat → Int32) (call : Nat → List Value → am_H → Option am_X) (lv : am_L) (h : am_H) (x : Int32) : am_f d scr L call 132 (n + 1) 4 lv [.int x] h = some (some (.int x), h, 0, 0) := k_ir rfl rfl
-- 133: BlameDeskModel.type(I)I
theorem s_133_0 (d L n : Nat) (scr : Nat → Int32) (call : Nat → List Value → am_H → Option am_X) (lv : am_L) (st : List Value) (h : am_H) : am_f d scr L call 133 (n + 1) 0 lv st h = (match am_ld lv 1 with
    | some (.int x) => am_f d scr L call 133 n 1 lv (.int x :: st) h
    | _ => none) := k_li (i := .iload_n 1) rfl rfl rfl rfl
theorem s_133_1 (d L n : Nat) (scr : Nat → Int32) (call : Nat → List Value → am_H → Option am_X) (lv : am_L) (st : List Value) (h : am_H) (x : Int32) : am_f d scr L call 133 (n + 1) 1 lv (.int x :: st) h = if x < 0 then am_f d scr L call 133 n 21 lv st h else am_f d scr L call 133 n 4 lv st h := k_if_lt (o := 20) rfl ⟨by decide, rfl⟩
theorem s_133_4 (d L n : Nat) (scr : Nat → Int32) (call : Nat → List Value → am_H → Option am_X) (lv : am_L) (st : List Value) (h : am_H) : am_f d scr L call 133 (n + 1) 4 lv st h = (match am_ld lv 1 with
    | some (.int x) => am_f d scr L call 133 n 5 lv (.int x :: st) h
    | _ => none) := k_li (i := .iload_n 1) rfl rfl rfl rfl
theorem s_133_5 (d L n : Nat) (scr : Nat → Int32) (call : Nat → List Value → am_H → Option am_X) (lv : am_L) (st : List Value) (h : am_H) : am_f d scr L call 133 (n + 1) 5 lv st h = (match am_ld lv 0 with
    | some (.ref x) => am_f d scr L call 133 n 6 lv (.ref x :: st) h
    | _ => none) := k_la (i := .aload_n 0) rfl rfl rfl rfl
theorem s_133_6 (d L n : Nat) (scr : Nat → Int32) (call : Nat → List Value → am_H → Option am_X) (lv : am_L) (st : List Value) (h : am_H) (a : Nat) : am_f d scr L call 133 (n + 1) 6 lv (.ref a :: st) h = (match am_get h a 8 28 with
    | some v => am_f d scr L call 133 n 9 lv (v :: st) h
    | none => none) := k_gf (k := 132) rfl rfl
theorem s_133_9 (d L n : Nat) (scr : Nat → Int32) (call : Nat → List Value → am_H → Option am_X) (lv : am_L) (st : List Value) (h : am_H) (x y : Int32) : am_f d scr L call 133 (n + 1) 9 lv (.int y :: .int x :: st) h = if y ≤ x then am_f d scr L call 133 n 21 lv st h else am_f d scr L call 133 n 12 lv st h := k_ic_ge (o := 12) rfl ⟨by decide, rfl⟩
theorem s_133_12 (d L n : Nat) (scr : Nat → Int32) (call : Nat → List Value → am_H → Option am_X) (lv : am_L) (st : List Value) (h : am_H) : am_f d scr L call 133 (n + 1) 12 lv st h = (match am_ld lv 0 with
    | some (.ref x) => am_f d scr L call 133 n 13 lv (.ref x :: st) h
    | _ => none) := k_la (i := .aload_n 0) rfl rfl rfl rfl
theorem s_133_13 (d L n : Nat) (scr : Nat → Int32) (call : Nat → List Value → am_H → Option am_X) (lv : am_L) (st : List Value) (h : am_H) (a : Nat) : am_f d scr L call 133 (n + 1) 13 lv (.ref a :: st) h = (match am_get h a 8 29 with
    | some v => am_f d scr L call 133 n 16 lv (v :: st) h
    | none => none) := k_gf (k := 63) rfl rfl
theorem s_133_16 (d L n : Nat) (scr : Nat → Int32) (call : Nat → List Value → am_H → Option am_X) (lv : am_L) (st : List Value) (h : am_H) : am_f d scr L call 133 (n + 1) 16 lv st h = (match am_ld lv 1 with
    | some (.int x) => am_f d scr L call 133 n 17 lv (.int x :: st) h
    | _ => none) := k_li (i := .iload_n 1) rfl rfl rfl rfl
theorem s_133_17 (d L n : Nat) (scr : Nat → Int32) (call : Nat → List Value → am_H → Option am_X) (lv : am_L) (st : List Value) (h : am_H) (a : Nat) (i : Int32) : am_f d scr L call 133 (n + 1) 17 lv (.int i :: .ref a :: st) h = (match am_cld h a i with
    | some x => am_f d scr L call 133 n 18 lv (.int x :: st) h
    | none => none) := k_ca rfl
theorem s_133_18 (d L n : Nat) (scr : Nat → Int32) (call : Nat → List Value → am_H → Option am_X) (lv : am_L) (st : List Value) (h : am_H) : am_f d scr L call 133 (n + 1) 18 lv st h = am_f d scr L call 133 n 22 lv st h := k_nx (i := .goto 4) rfl rfl
theorem s_133_21 (d L n : Nat) (scr : Nat → Int32) (call : Nat → List Value → am_H → Option am_X) (lv : am_L) (st : List Value) (h : am_H) : am_f d scr L call 133 (n + 1) 21 lv st h = am_f d scr L call 133 n 22 lv (.int (-1) :: st) h := k_nx (i := .iconst (-1)) rfl rfl
theorem s_133_22 (d L n : Nat) (scr : Nat → Int32) (call : Nat → List Value → am_H → Option am_X) (lv : am_L) (h : am_H) (x : Int32) : am_f d scr L call 133 (n + 1) 22 lv [.int x] h = some (some (.int x), h, 0, 0) := k_ir rfl rfl
-- 134: BlameDeskModel.result(I)I
theorem s_134_0 (d L n : Nat) (scr : Nat → Int32) (call : Nat → List Value → am_H → Option am_X) (lv : am_L) (st : List Value) (h : am_H) : am_f d scr L call 134 (n + 1) 0 lv st h = (match am_ld lv 0 with
    | some (.ref x) => am_f d scr L call 134 n 1 lv (.ref x :: st) h
    | _ => none) := k_la (i := .aload_n 0) rfl rfl rfl rfl
theorem s_134_1 (d L n : Nat) (scr : Nat → Int32) (call : Nat → List Value → am_H → Option am_X) (lv : am_L) (st : List Value) (h : am_H) (a : Nat) : am_f d scr L call 134 (n + 1) 1 lv (.ref a :: st) h = (match am_get h a 8 51 with
    | some v => am_f d scr L call 134 n 4 lv (v :: st) h
    | none => none) := k_gf (k := 216) rfl rfl
theorem s_134_4 (d L n : Nat) (scr : Nat → Int32) (call : Nat → List Value → am_H → Option am_X) (lv : am_L) (st : List Value) (h : am_H) : am_f d scr L call 134 (n + 1) 4 lv st h = am_f d scr L call 134 n 5 lv (.int 1 :: st) h := k_nx (i := .iconst 1) rfl rfl
theorem s_134_5 (d L n : Nat) (scr : Nat → Int32) (call : Nat → List Value → am_H → Option am_X) (lv : am_L) (st : List Value) (h : am_H) (x y : Int32) : am_f d scr L call 134 (n + 1) 5 lv (.int y :: .int x :: st) h = if ¬ x = y then am_f d scr L call 134 n 17 lv st h else am_f d scr L call 134 n 8 lv st h := k_ic_ne (o := 12) rfl ⟨by decide, rfl⟩
theorem s_134_8 (d L n : Nat) (scr : Nat → Int32) (call : Nat → List Value → am_H → Option am_X) (lv : am_L) (st : List Value) (h : am_H) : am_f d scr L call 134 (n + 1) 8 lv st h = (match am_ld lv 1 with
    | some (.int x) => am_f d scr L call 134 n 9 lv (.int x :: st) h
    | _ => none) := k_li (i := .iload_n 1) rfl rfl rfl rfl
theorem s_134_9 (d L n : Nat) (scr : Nat → Int32) (call : Nat → List Value → am_H → Option am_X) (lv : am_L) (st : List Value) (h : am_H) (x : Int32) : am_f d scr L call 134 (n + 1) 9 lv (.int x :: st) h = if x < 0 then am_f d scr L call 134 n 17 lv st h else am_f d scr L call 134 n 12 lv st h := k_if_lt (o := 8) rfl ⟨by decide, rfl⟩
theorem s_134_12 (d L n : Nat) (scr : Nat → Int32) (call : Nat → List Value → am_H → Option am_X) (lv : am_L) (st : List Value) (h : am_H) : am_f d scr L call 134 (n + 1) 12 lv st h = (match am_ld lv 1 with
    | some (.int x) => am_f d scr L call 134 n 13 lv (.int x :: st) h
    | _ => none) := k_li (i := .iload_n 1) rfl rfl rfl rfl
theorem s_134_13 (d L n : Nat) (scr : Nat → Int32) (call : Nat → List Value → am_H → Option am_X) (lv : am_L) (st : List Value) (h : am_H) : am_f d scr L call 134 (n + 1) 13 lv st h = am_f d scr L call 134 n 14 lv (.int 2 :: st) h := k_nx (i := .iconst 2) rfl rfl
theorem s_134_14 (d L n : Nat) (scr : Nat → Int32) (call : Nat → List Value → am_H → Option am_X) (lv : am_L) (st : List Value) (h : am_H) (x y : Int32) : am_f d scr L call 134 (n + 1) 14 lv (.int y :: .int x :: st) h = if x ≤ y then am_f d scr L call 134 n 19 lv st h else am_f d scr L call 134 n 17 lv st h := k_ic_le (o := 5) rfl ⟨by decide, rfl⟩
theorem s_134_17 (d L n : Nat) (scr : Nat → Int32) (call : Nat → List Value → am_H → Option am_X) (lv : am_L) (st : List Value) (h : am_H) : am_f d scr L call 134 (n + 1) 17 lv st h = am_f d scr L call 134 n 18 lv (.int (-1) :: st) h := k_nx (i := .iconst (-1)) rfl rfl
theorem s_134_18 (d L n : Nat) (scr : Nat → Int32) (call : Nat → List Value → am_H → Option am_X) (lv : am_L) (h : am_H) (x : Int32) : am_f d scr L call 134 (n + 1) 18 lv [.int x] h = some (some (.int x), h, 0, 0) := k_ir rfl rfl
theorem s_134_19 (d L n : Nat) (scr : Nat → Int32) (call : Nat → List Value → am_H → Option am_X) (lv : am_L) (st : List Value) (h : am_H) : am_f d scr L call 134 (n + 1) 19 lv st h = (match am_ld lv 0 with
    | some (.ref x) => am_f d scr L call 134 n 20 lv (.ref x :: st) h
    | _ => none) := k_la (i := .aload_n 0) rfl rfl rfl rfl
theorem s_134_20 (d L n : Nat) (scr : Nat → Int32) (call : Nat → List Value → am_H → Option am_X) (lv : am_L) (st : List Value) (h : am_H) : am_f d scr L call 134 (n + 1) 20 lv st h = (match am_ld lv 0 with
    | some (.ref x) => am_f d scr L call 134 n 21 lv (.ref x :: st) h
    | _ => none) := k_la (i := .aload_n 0) rfl rfl rfl rfl
theorem s_134_21 (d L n : Nat) (scr : Nat → Int32) (call : Nat → List Value → am_H → Option am_X) (lv : am_L) (st : List Value) (h : am_H) (a : Nat) : am_f d scr L call 134 (n + 1) 21 lv (.ref a :: st) h = (match am_get h a 8 32 with
    | some v => am_f d scr L call 134 n 24 lv (v :: st) h
    | none => none) := k_gf (k := 69) rfl rfl
theorem s_134_24 (d L n : Nat) (scr : Nat → Int32) (call : Nat → List Value → am_H → Option am_X) (lv : am_L) (st : List Value) (h : am_H) : am_f d scr L call 134 (n + 1) 24 lv st h = (match am_ld lv 0 with
    | some (.ref x) => am_f d scr L call 134 n 25 lv (.ref x :: st) h
    | _ => none) := k_la (i := .aload_n 0) rfl rfl rfl rfl
theorem s_134_25 (d L n : Nat) (scr : Nat → Int32) (call : Nat → List Value → am_H → Option am_X) (lv : am_L) (st : List Value) (h : am_H) (a : Nat) : am_f d scr L call 134 (n + 1) 25 lv (.ref a :: st) h = (match am_get h a 8 55 with
    | some v => am_f d scr L call 134 n 28 lv (v :: st) h
    | none => none) := k_gf (k := 302) rfl rfl
theorem s_134_28 (d L n : Nat) (scr : Nat → Int32) (call : Nat → List Value → am_H → Option am_X) (lv : am_L) (st : List Value) (h : am_H) (a : Nat) (i : Int32) : am_f d scr L call 134 (n + 1) 28 lv (.int i :: .ref a :: st) h = (match am_ild scr L h a i with
    | some x => am_f d scr L call 134 n 29 lv (.int x :: st) h
    | none => none) := k_ia rfl
theorem s_134_29 (d L n : Nat) (scr : Nat → Int32) (call : Nat → List Value → am_H → Option am_X) (lv : am_L) (st : List Value) (h : am_H) : am_f d scr L call 134 (n + 1) 29 lv st h = am_f d scr L call 134 n 31 lv (.int 6 :: st) h := k_nx (i := .bipush 6) rfl rfl
theorem s_134_31 (d L n : Nat) (scr : Nat → Int32) (call : Nat → List Value → am_H → Option am_X) (lv : am_L) (st : List Value) (h : am_H) (x y : Int32) : am_f d scr L call 134 (n + 1) 31 lv (.int y :: .int x :: st) h = if ¬ x = y then am_f d scr L call 134 n 46 lv st h else am_f d scr L call 134 n 34 lv st h := k_ic_ne (o := 15) rfl ⟨by decide, rfl⟩
theorem s_134_34 (d L n : Nat) (scr : Nat → Int32) (call : Nat → List Value → am_H → Option am_X) (lv : am_L) (st : List Value) (h : am_H) : am_f d scr L call 134 (n + 1) 34 lv st h = (match am_ld lv 0 with
    | some (.ref x) => am_f d scr L call 134 n 35 lv (.ref x :: st) h
    | _ => none) := k_la (i := .aload_n 0) rfl rfl rfl rfl
theorem s_134_35 (d L n : Nat) (scr : Nat → Int32) (call : Nat → List Value → am_H → Option am_X) (lv : am_L) (st : List Value) (h : am_H) (a : Nat) : am_f d scr L call 134 (n + 1) 35 lv (.ref a :: st) h = (match am_get h a 8 33 with
    | some v => am_f d scr L call 134 n 38 lv (v :: st) h
    | none => none) := k_gf (k := 72) rfl rfl
theorem s_134_38 (d L n : Nat) (scr : Nat → Int32) (call : Nat → List Value → am_H → Option am_X) (lv : am_L) (st : List Value) (h : am_H) : am_f d scr L call 134 (n + 1) 38 lv st h = (match am_ld lv 0 with
    | some (.ref x) => am_f d scr L call 134 n 39 lv (.ref x :: st) h
    | _ => none) := k_la (i := .aload_n 0) rfl rfl rfl rfl
theorem s_134_39 (d L n : Nat) (scr : Nat → Int32) (call : Nat → List Value → am_H → Option am_X) (lv : am_L) (st : List Value) (h : am_H) (a : Nat) : am_f d scr L call 134 (n + 1) 39 lv (.ref a :: st) h = (match am_get h a 8 55 with
    | some v => am_f d scr L call 134 n 42 lv (v :: st) h
    | none => none) := k_gf (k := 302) rfl rfl
theorem s_134_42 (d L n : Nat) (scr : Nat → Int32) (call : Nat → List Value → am_H → Option am_X) (lv : am_L) (st : List Value) (h : am_H) (a : Nat) (i : Int32) : am_f d scr L call 134 (n + 1) 42 lv (.int i :: .ref a :: st) h = (match am_ild scr L h a i with
    | some x => am_f d scr L call 134 n 43 lv (.int x :: st) h
    | none => none) := k_ia rfl
theorem s_134_43 (d L n : Nat) (scr : Nat → Int32) (call : Nat → List Value → am_H → Option am_X) (lv : am_L) (st : List Value) (h : am_H) : am_f d scr L call 134 (n + 1) 43 lv st h = am_f d scr L call 134 n 50 lv st h := k_nx (i := .goto 7) rfl rfl
theorem s_134_46 (d L n : Nat) (scr : Nat → Int32) (call : Nat → List Value → am_H → Option am_X) (lv : am_L) (st : List Value) (h : am_H) : am_f d scr L call 134 (n + 1) 46 lv st h = (match am_ld lv 0 with
    | some (.ref x) => am_f d scr L call 134 n 47 lv (.ref x :: st) h
    | _ => none) := k_la (i := .aload_n 0) rfl rfl rfl rfl
theorem s_134_47 (d L n : Nat) (scr : Nat → Int32) (call : Nat → List Value → am_H → Option am_X) (lv : am_L) (st : List Value) (h : am_H) (a : Nat) : am_f d scr L call 134 (n + 1) 47 lv (.ref a :: st) h = (match am_get h a 8 55 with
    | some v => am_f d scr L call 134 n 50 lv (v :: st) h
    | none => none) := k_gf (k := 302) rfl rfl
theorem s_134_50 (d L n : Nat) (scr : Nat → Int32) (call : Nat → List Value → am_H → Option am_X) (lv : am_L) (h : am_H) (o : Nat) (a0 : Int32)  : am_f d scr L call 134 (n + 1) 50 lv (.int a0 :: .ref o :: []) h = if am_at h o 8 = true then (match call 115 [.ref o, .int a0] h with
    | some (v, h', dk, dn) => am_add dk dn (am_f d scr L call 134 n 53 lv (v.toList ++ []) h')
    | none => none) else none := k_iv0 (k := 282) (as := [.int a0]) (r := []) rfl rfl rfl rfl (Nat.le_of_ble_eq_true rfl)
theorem s_134_53 (d L n : Nat) (scr : Nat → Int32) (call : Nat → List Value → am_H → Option am_X) (lv : am_L) (st : List Value) (h : am_H) (x : Int32) : am_f d scr L call 134 (n + 1) 53 lv (.int x :: st) h = am_f d scr L call 134 n 54 (am_st1 lv 2 (.int x)) st h := k_nx (i := .istore_n 2) rfl rfl
theorem s_134_54 (d L n : Nat) (scr : Nat → Int32) (call : Nat → List Value → am_H → Option am_X) (lv : am_L) (st : List Value) (h : am_H) : am_f d scr L call 134 (n + 1) 54 lv st h = (match am_ld lv 1 with
    | some (.int x) => am_f d scr L call 134 n 55 lv (.int x :: st) h
    | _ => none) := k_li (i := .iload_n 1) rfl rfl rfl rfl
theorem s_134_55 (d L n : Nat) (scr : Nat → Int32) (call : Nat → List Value → am_H → Option am_X) (lv : am_L) (st : List Value) (h : am_H) (x : Int32) : am_f d scr L call 134 (n + 1) 55 lv (.int x :: st) h = if ¬ x = 0 then am_f d scr L call 134 n 67 lv st h else am_f d scr L call 134 n 58 lv st h := k_if_ne (o := 12) rfl ⟨by decide, rfl⟩
theorem s_134_58 (d L n : Nat) (scr : Nat → Int32) (call : Nat → List Value → am_H → Option am_X) (lv : am_L) (st : List Value) (h : am_H) : am_f d scr L call 134 (n + 1) 58 lv st h = (match am_ld lv 0 with
    | some (.ref x) => am_f d scr L call 134 n 59 lv (.ref x :: st) h
    | _ => none) := k_la (i := .aload_n 0) rfl rfl rfl rfl
theorem s_134_59 (d L n : Nat) (scr : Nat → Int32) (call : Nat → List Value → am_H → Option am_X) (lv : am_L) (st : List Value) (h : am_H) (a : Nat) : am_f d scr L call 134 (n + 1) 59 lv (.ref a :: st) h = (match am_get h a 8 32 with
    | some v => am_f d scr L call 134 n 62 lv (v :: st) h
    | none => none) := k_gf (k := 69) rfl rfl
theorem s_134_62 (d L n : Nat) (scr : Nat → Int32) (call : Nat → List Value → am_H → Option am_X) (lv : am_L) (st : List Value) (h : am_H) : am_f d scr L call 134 (n + 1) 62 lv st h = (match am_ld lv 2 with
    | some (.int x) => am_f d scr L call 134 n 63 lv (.int x :: st) h
    | _ => none) := k_li (i := .iload_n 2) rfl rfl rfl rfl
theorem s_134_63 (d L n : Nat) (scr : Nat → Int32) (call : Nat → List Value → am_H → Option am_X) (lv : am_L) (st : List Value) (h : am_H) (a : Nat) (i : Int32) : am_f d scr L call 134 (n + 1) 63 lv (.int i :: .ref a :: st) h = (match am_ild scr L h a i with
    | some x => am_f d scr L call 134 n 64 lv (.int x :: st) h
    | none => none) := k_ia rfl
theorem s_134_64 (d L n : Nat) (scr : Nat → Int32) (call : Nat → List Value → am_H → Option am_X) (lv : am_L) (st : List Value) (h : am_H) : am_f d scr L call 134 (n + 1) 64 lv st h = am_f d scr L call 134 n 114 lv st h := k_nx (i := .goto 50) rfl rfl
theorem s_134_67 (d L n : Nat) (scr : Nat → Int32) (call : Nat → List Value → am_H → Option am_X) (lv : am_L) (st : List Value) (h : am_H) : am_f d scr L call 134 (n + 1) 67 lv st h = (match am_ld lv 1 with
    | some (.int x) => am_f d scr L call 134 n 68 lv (.int x :: st) h
    | _ => none) := k_li (i := .iload_n 1) rfl rfl rfl rfl
theorem s_134_68 (d L n : Nat) (scr : Nat → Int32) (call : Nat → List Value → am_H → Option am_X) (lv : am_L) (st : List Value) (h : am_H) : am_f d scr L call 134 (n + 1) 68 lv st h = am_f d scr L call 134 n 69 lv (.int 1 :: st) h := k_nx (i := .iconst 1) rfl rfl
theorem s_134_69 (d L n : Nat) (scr : Nat → Int32) (call : Nat → List Value → am_H → Option am_X) (lv : am_L) (st : List Value) (h : am_H) (x y : Int32) : am_f d scr L call 134 (n + 1) 69 lv (.int y :: .int x :: st) h = if ¬ x = y then am_f d scr L call 134 n 95 lv st h else am_f d scr L call 134 n 72 lv st h := k_ic_ne (o := 26) rfl ⟨by decide, rfl⟩
theorem s_134_72 (d L n : Nat) (scr : Nat → Int32) (call : Nat → List Value → am_H → Option am_X) (lv : am_L) (st : List Value) (h : am_H) : am_f d scr L call 134 (n + 1) 72 lv st h = (match am_ld lv 0 with
    | some (.ref x) => am_f d scr L call 134 n 73 lv (.ref x :: st) h
    | _ => none) := k_la (i := .aload_n 0) rfl rfl rfl rfl
theorem s_134_73 (d L n : Nat) (scr : Nat → Int32) (call : Nat → List Value → am_H → Option am_X) (lv : am_L) (st : List Value) (h : am_H) (a : Nat) : am_f d scr L call 134 (n + 1) 73 lv (.ref a :: st) h = (match am_get h a 8 32 with
    | some v => am_f d scr L call 134 n 76 lv (v :: st) h
    | none => none) := k_gf (k := 69) rfl rfl
theorem s_134_76 (d L n : Nat) (scr : Nat → Int32) (call : Nat → List Value → am_H → Option am_X) (lv : am_L) (st : List Value) (h : am_H) : am_f d scr L call 134 (n + 1) 76 lv st h = (match am_ld lv 2 with
    | some (.int x) => am_f d scr L call 134 n 77 lv (.int x :: st) h
    | _ => none) := k_li (i := .iload_n 2) rfl rfl rfl rfl
theorem s_134_77 (d L n : Nat) (scr : Nat → Int32) (call : Nat → List Value → am_H → Option am_X) (lv : am_L) (st : List Value) (h : am_H) (a : Nat) (i : Int32) : am_f d scr L call 134 (n + 1) 77 lv (.int i :: .ref a :: st) h = (match am_ild scr L h a i with
    | some x => am_f d scr L call 134 n 78 lv (.int x :: st) h
    | none => none) := k_ia rfl
theorem s_134_78 (d L n : Nat) (scr : Nat → Int32) (call : Nat → List Value → am_H → Option am_X) (lv : am_L) (st : List Value) (h : am_H) : am_f d scr L call 134 (n + 1) 78 lv st h = am_f d scr L call 134 n 79 lv (.int 2 :: st) h := k_nx (i := .iconst 2) rfl rfl
theorem s_134_79 (d L n : Nat) (scr : Nat → Int32) (call : Nat → List Value → am_H → Option am_X) (lv : am_L) (st : List Value) (h : am_H) (x y : Int32) : am_f d scr L call 134 (n + 1) 79 lv (.int y :: .int x :: st) h = if y ≤ x then am_f d scr L call 134 n 91 lv st h else am_f d scr L call 134 n 82 lv st h := k_ic_ge (o := 12) rfl ⟨by decide, rfl⟩
theorem s_134_82 (d L n : Nat) (scr : Nat → Int32) (call : Nat → List Value → am_H → Option am_X) (lv : am_L) (st : List Value) (h : am_H) : am_f d scr L call 134 (n + 1) 82 lv st h = (match am_ld lv 0 with
    | some (.ref x) => am_f d scr L call 134 n 83 lv (.ref x :: st) h
    | _ => none) := k_la (i := .aload_n 0) rfl rfl rfl rfl
theorem s_134_83 (d L n : Nat) (scr : Nat → Int32) (call : Nat → List Value → am_H → Option am_X) (lv : am_L) (st : List Value) (h : am_H) (a : Nat) : am_f d scr L call 134 (n + 1) 83 lv (.ref a :: st) h = (match am_get h a 8 33 with
    | some v => am_f d scr L call 134 n 86 lv (v :: st) h
    | none => none) := k_gf (k := 72) rfl rfl
theorem s_134_86 (d L n : Nat) (scr : Nat → Int32) (call : Nat → List Value → am_H → Option am_X) (lv : am_L) (st : List Value) (h : am_H) : am_f d scr L call 134 (n + 1) 86 lv st h = (match am_ld lv 2 with
    | some (.int x) => am_f d scr L call 134 n 87 lv (.int x :: st) h
    | _ => none) := k_li (i := .iload_n 2) rfl rfl rfl rfl
theorem s_134_87 (d L n : Nat) (scr : Nat → Int32) (call : Nat → List Value → am_H → Option am_X) (lv : am_L) (st : List Value) (h : am_H) (a : Nat) (i : Int32) : am_f d scr L call 134 (n + 1) 87 lv (.int i :: .ref a :: st) h = (match am_ild scr L h a i with
    | some x => am_f d scr L call 134 n 88 lv (.int x :: st) h
    | none => none) := k_ia rfl
theorem s_134_88 (d L n : Nat) (scr : Nat → Int32) (call : Nat → List Value → am_H → Option am_X) (lv : am_L) (st : List Value) (h : am_H) : am_f d scr L call 134 (n + 1) 88 lv st h = am_f d scr L call 134 n 114 lv st h := k_nx (i := .goto 26) rfl rfl
theorem s_134_91 (d L n : Nat) (scr : Nat → Int32) (call : Nat → List Value → am_H → Option am_X) (lv : am_L) (st : List Value) (h : am_H) : am_f d scr L call 134 (n + 1) 91 lv st h = am_f d scr L call 134 n 92 lv (.int 0 :: st) h := k_nx (i := .iconst 0) rfl rfl
theorem s_134_92 (d L n : Nat) (scr : Nat → Int32) (call : Nat → List Value → am_H → Option am_X) (lv : am_L) (st : List Value) (h : am_H) : am_f d scr L call 134 (n + 1) 92 lv st h = am_f d scr L call 134 n 114 lv st h := k_nx (i := .goto 22) rfl rfl
theorem s_134_95 (d L n : Nat) (scr : Nat → Int32) (call : Nat → List Value → am_H → Option am_X) (lv : am_L) (st : List Value) (h : am_H) : am_f d scr L call 134 (n + 1) 95 lv st h = (match am_ld lv 0 with
    | some (.ref x) => am_f d scr L call 134 n 96 lv (.ref x :: st) h
    | _ => none) := k_la (i := .aload_n 0) rfl rfl rfl rfl
theorem s_134_96 (d L n : Nat) (scr : Nat → Int32) (call : Nat → List Value → am_H → Option am_X) (lv : am_L) (st : List Value) (h : am_H) (a : Nat) : am_f d scr L call 134 (n + 1) 96 lv (.ref a :: st) h = (match am_get h a 8 32 with
    | some v => am_f d scr L call 134 n 99 lv (v :: st) h
    | none => none) := k_gf (k := 69) rfl rfl
theorem s_134_99 (d L n : Nat) (scr : Nat → Int32) (call : Nat → List Value → am_H → Option am_X) (lv : am_L) (st : List Value) (h : am_H) : am_f d scr L call 134 (n + 1) 99 lv st h = (match am_ld lv 0 with
    | some (.ref x) => am_f d scr L call 134 n 100 lv (.ref x :: st) h
    | _ => none) := k_la (i := .aload_n 0) rfl rfl rfl rfl
theorem s_134_100 (d L n : Nat) (scr : Nat → Int32) (call : Nat → List Value → am_H → Option am_X) (lv : am_L) (st : List Value) (h : am_H) (a : Nat) : am_f d scr L call 134 (n + 1) 100 lv (.ref a :: st) h = (match am_get h a 8 55 with
    | some v => am_f d scr L call 134 n 103 lv (v :: st) h
    | none => none) := k_gf (k := 302) rfl rfl
theorem s_134_103 (d L n : Nat) (scr : Nat → Int32) (call : Nat → List Value → am_H → Option am_X) (lv : am_L) (st : List Value) (h : am_H) (a : Nat) (i : Int32) : am_f d scr L call 134 (n + 1) 103 lv (.int i :: .ref a :: st) h = (match am_ild scr L h a i with
    | some x => am_f d scr L call 134 n 104 lv (.int x :: st) h
    | none => none) := k_ia rfl
theorem s_134_104 (d L n : Nat) (scr : Nat → Int32) (call : Nat → List Value → am_H → Option am_X) (lv : am_L) (st : List Value) (h : am_H) : am_f d scr L call 134 (n + 1) 104 lv st h = am_f d scr L call 134 n 106 lv (.int 6 :: st) h := k_nx (i := .bipush 6) rfl rfl
theorem s_134_106 (d L n : Nat) (scr : Nat → Int32) (call : Nat → List Value → am_H → Option am_X) (lv : am_L) (st : List Value) (h : am_H) (x y : Int32) : am_f d scr L call 134 (n + 1) 106 lv (.int y :: .int x :: st) h = if ¬ x = y then am_f d scr L call 134 n 113 lv st h else am_f d scr L call 134 n 109 lv st h := k_ic_ne (o := 7) rfl ⟨by decide, rfl⟩
theorem s_134_109 (d L n : Nat) (scr : Nat → Int32) (call : Nat → List Value → am_H → Option am_X) (lv : am_L) (st : List Value) (h : am_H) : am_f d scr L call 134 (n + 1) 109 lv st h = am_f d scr L call 134 n 110 lv (.int 1 :: st) h := k_nx (i := .iconst 1) rfl rfl
theorem s_134_110 (d L n : Nat) (scr : Nat → Int32) (call : Nat → List Value → am_H → Option am_X) (lv : am_L) (st : List Value) (h : am_H) : am_f d scr L call 134 (n + 1) 110 lv st h = am_f d scr L call 134 n 114 lv st h := k_nx (i := .goto 4) rfl rfl
theorem s_134_113 (d L n : Nat) (scr : Nat → Int32) (call : Nat → List Value → am_H → Option am_X) (lv : am_L) (st : List Value) (h : am_H) : am_f d scr L call 134 (n + 1) 113 lv st h = am_f d scr L call 134 n 114 lv (.int 0 :: st) h := k_nx (i := .iconst 0) rfl rfl
theorem s_134_114 (d L n : Nat) (scr : Nat → Int32) (call : Nat → List Value → am_H → Option am_X) (lv : am_L) (h : am_H) (x : Int32) : am_f d scr L call 134 (n + 1) 114 lv [.int x] h = some (some (.int x), h, 0, 0) := k_ir rfl rfl
-- 135: BlameDeskModel.blamed()I
theorem s_135_0 (d L n : Nat) (scr : Nat → Int32) (call : Nat → List Value → am_H → Option am_X) (lv : am_L) (st : List Value) (h : am_H) : am_f d scr L call 135 (n + 1) 0 lv st h = (match am_ld lv 0 with
    | some (.ref x) => am_f d scr L call 135 n 1 lv (.ref x :: st) h
    | _ => none) := k_la (i := .aload_n 0) rfl rfl rfl rfl
theorem s_135_1 (d L n : Nat) (scr : Nat → Int32) (call : Nat → List Value → am_H → Option am_X) (lv : am_L) (st : List Value) (h : am_H) (a : Nat) : am_f d scr L call 135 (n + 1) 1 lv (.ref a :: st) h = (match am_get h a 8 51 with
    | some v => am_f d scr L call 135 n 4 lv (v :: st) h
    | none => none) := k_gf (k := 216) rfl rfl
theorem s_135_4 (d L n : Nat) (scr : Nat → Int32) (call : Nat → List Value → am_H → Option am_X) (lv : am_L) (st : List Value) (h : am_H) : am_f d scr L call 135 (n + 1) 4 lv st h = am_f d scr L call 135 n 5 lv (.int 2 :: st) h := k_nx (i := .iconst 2) rfl rfl
theorem s_135_5 (d L n : Nat) (scr : Nat → Int32) (call : Nat → List Value → am_H → Option am_X) (lv : am_L) (st : List Value) (h : am_H) (x y : Int32) : am_f d scr L call 135 (n + 1) 5 lv (.int y :: .int x :: st) h = if ¬ x = y then am_f d scr L call 135 n 15 lv st h else am_f d scr L call 135 n 8 lv st h := k_ic_ne (o := 10) rfl ⟨by decide, rfl⟩
theorem s_135_8 (d L n : Nat) (scr : Nat → Int32) (call : Nat → List Value → am_H → Option am_X) (lv : am_L) (st : List Value) (h : am_H) : am_f d scr L call 135 (n + 1) 8 lv st h = (match am_ld lv 0 with
    | some (.ref x) => am_f d scr L call 135 n 9 lv (.ref x :: st) h
    | _ => none) := k_la (i := .aload_n 0) rfl rfl rfl rfl
theorem s_135_9 (d L n : Nat) (scr : Nat → Int32) (call : Nat → List Value → am_H → Option am_X) (lv : am_L) (st : List Value) (h : am_H) (a : Nat) : am_f d scr L call 135 (n + 1) 9 lv (.ref a :: st) h = (match am_get h a 8 54 with
    | some v => am_f d scr L call 135 n 12 lv (v :: st) h
    | none => none) := k_gf (k := 222) rfl rfl
theorem s_135_12 (d L n : Nat) (scr : Nat → Int32) (call : Nat → List Value → am_H → Option am_X) (lv : am_L) (st : List Value) (h : am_H) : am_f d scr L call 135 (n + 1) 12 lv st h = am_f d scr L call 135 n 16 lv st h := k_nx (i := .goto 4) rfl rfl
theorem s_135_15 (d L n : Nat) (scr : Nat → Int32) (call : Nat → List Value → am_H → Option am_X) (lv : am_L) (st : List Value) (h : am_H) : am_f d scr L call 135 (n + 1) 15 lv st h = am_f d scr L call 135 n 16 lv (.int (-1) :: st) h := k_nx (i := .iconst (-1)) rfl rfl
theorem s_135_16 (d L n : Nat) (scr : Nat → Int32) (call : Nat → List Value → am_H → Option am_X) (lv : am_L) (h : am_H) (x : Int32) : am_f d scr L call 135 (n + 1) 16 lv [.int x] h = some (some (.int x), h, 0, 0) := k_ir rfl rfl
-- 136: BlameDeskModel.output(I)I
theorem s_136_0 (d L n : Nat) (scr : Nat → Int32) (call : Nat → List Value → am_H → Option am_X) (lv : am_L) (st : List Value) (h : am_H) : am_f d scr L call 136 (n + 1) 0 lv st h = (match am_ld lv 1 with
    | some (.int x) => am_f d scr L call 136 n 1 lv (.int x :: st) h
    | _ => none) := k_li (i := .iload_n 1) rfl rfl rfl rfl
theorem s_136_1 (d L n : Nat) (scr : Nat → Int32) (call : Nat → List Value → am_H → Option am_X) (lv : am_L) (st : List Value) (h : am_H) : am_f d scr L call 136 (n + 1) 1 lv st h = am_f d scr L call 136 n 2 lv (.int (-1) :: st) h := k_nx (i := .iconst (-1)) rfl rfl
theorem s_136_2 (d L n : Nat) (scr : Nat → Int32) (call : Nat → List Value → am_H → Option am_X) (lv : am_L) (st : List Value) (h : am_H) (x y : Int32) : am_f d scr L call 136 (n + 1) 2 lv (.int y :: .int x :: st) h = if ¬ x = y then am_f d scr L call 136 n 12 lv st h else am_f d scr L call 136 n 5 lv st h := k_ic_ne (o := 10) rfl ⟨by decide, rfl⟩
theorem s_136_5 (d L n : Nat) (scr : Nat → Int32) (call : Nat → List Value → am_H → Option am_X) (lv : am_L) (st : List Value) (h : am_H) : am_f d scr L call 136 (n + 1) 5 lv st h = (match am_ld lv 0 with
    | some (.ref x) => am_f d scr L call 136 n 6 lv (.ref x :: st) h
    | _ => none) := k_la (i := .aload_n 0) rfl rfl rfl rfl
theorem s_136_6 (d L n : Nat) (scr : Nat → Int32) (call : Nat → List Value → am_H → Option am_X) (lv : am_L) (st : List Value) (h : am_H) (a : Nat) : am_f d scr L call 136 (n + 1) 6 lv (.ref a :: st) h = (match am_get h a 8 56 with
    | some v => am_f d scr L call 136 n 9 lv (v :: st) h
    | none => none) := k_gf (k := 251) rfl rfl
theorem s_136_9 (d L n : Nat) (scr : Nat → Int32) (call : Nat → List Value → am_H → Option am_X) (lv : am_L) (st : List Value) (h : am_H) : am_f d scr L call 136 (n + 1) 9 lv st h = am_f d scr L call 136 n 50 lv st h := k_nx (i := .goto 41) rfl rfl
theorem s_136_12 (d L n : Nat) (scr : Nat → Int32) (call : Nat → List Value → am_H → Option am_X) (lv : am_L) (st : List Value) (h : am_H) : am_f d scr L call 136 (n + 1) 12 lv st h = (match am_ld lv 1 with
    | some (.int x) => am_f d scr L call 136 n 13 lv (.int x :: st) h
    | _ => none) := k_li (i := .iload_n 1) rfl rfl rfl rfl
theorem s_136_13 (d L n : Nat) (scr : Nat → Int32) (call : Nat → List Value → am_H → Option am_X) (lv : am_L) (st : List Value) (h : am_H) (x : Int32) : am_f d scr L call 136 (n + 1) 13 lv (.int x :: st) h = if x < 0 then am_f d scr L call 136 n 30 lv st h else am_f d scr L call 136 n 16 lv st h := k_if_lt (o := 17) rfl ⟨by decide, rfl⟩
theorem s_136_16 (d L n : Nat) (scr : Nat → Int32) (call : Nat → List Value → am_H → Option am_X) (lv : am_L) (st : List Value) (h : am_H) : am_f d scr L call 136 (n + 1) 16 lv st h = (match am_ld lv 1 with
    | some (.int x) => am_f d scr L call 136 n 17 lv (.int x :: st) h
    | _ => none) := k_li (i := .iload_n 1) rfl rfl rfl rfl
theorem s_136_17 (d L n : Nat) (scr : Nat → Int32) (call : Nat → List Value → am_H → Option am_X) (lv : am_L) (st : List Value) (h : am_H) : am_f d scr L call 136 (n + 1) 17 lv st h = am_f d scr L call 136 n 19 lv (.int 15 :: st) h := k_nx (i := .bipush 15) rfl rfl
theorem s_136_19 (d L n : Nat) (scr : Nat → Int32) (call : Nat → List Value → am_H → Option am_X) (lv : am_L) (st : List Value) (h : am_H) (x y : Int32) : am_f d scr L call 136 (n + 1) 19 lv (.int y :: .int x :: st) h = if y < x then am_f d scr L call 136 n 30 lv st h else am_f d scr L call 136 n 22 lv st h := k_ic_gt (o := 11) rfl ⟨by decide, rfl⟩
theorem s_136_22 (d L n : Nat) (scr : Nat → Int32) (call : Nat → List Value → am_H → Option am_X) (lv : am_L) (st : List Value) (h : am_H) : am_f d scr L call 136 (n + 1) 22 lv st h = (match am_ld lv 1 with
    | some (.int x) => am_f d scr L call 136 n 23 lv (.int x :: st) h
    | _ => none) := k_li (i := .iload_n 1) rfl rfl rfl rfl
theorem s_136_23 (d L n : Nat) (scr : Nat → Int32) (call : Nat → List Value → am_H → Option am_X) (lv : am_L) (st : List Value) (h : am_H) : am_f d scr L call 136 (n + 1) 23 lv st h = (match am_ld lv 0 with
    | some (.ref x) => am_f d scr L call 136 n 24 lv (.ref x :: st) h
    | _ => none) := k_la (i := .aload_n 0) rfl rfl rfl rfl
theorem s_136_24 (d L n : Nat) (scr : Nat → Int32) (call : Nat → List Value → am_H → Option am_X) (lv : am_L) (st : List Value) (h : am_H) (a : Nat) : am_f d scr L call 136 (n + 1) 24 lv (.ref a :: st) h = (match am_get h a 8 56 with
    | some v => am_f d scr L call 136 n 27 lv (v :: st) h
    | none => none) := k_gf (k := 251) rfl rfl
theorem s_136_27 (d L n : Nat) (scr : Nat → Int32) (call : Nat → List Value → am_H → Option am_X) (lv : am_L) (st : List Value) (h : am_H) (x y : Int32) : am_f d scr L call 136 (n + 1) 27 lv (.int y :: .int x :: st) h = if x < y then am_f d scr L call 136 n 34 lv st h else am_f d scr L call 136 n 30 lv st h := k_ic_lt (o := 7) rfl ⟨by decide, rfl⟩
theorem s_136_30 (d L n : Nat) (scr : Nat → Int32) (call : Nat → List Value → am_H → Option am_X) (lv : am_L) (st : List Value) (h : am_H) : am_f d scr L call 136 (n + 1) 30 lv st h = am_f d scr L call 136 n 31 lv (.int 0 :: st) h := k_nx (i := .iconst 0) rfl rfl
theorem s_136_31 (d L n : Nat) (scr : Nat → Int32) (call : Nat → List Value → am_H → Option am_X) (lv : am_L) (st : List Value) (h : am_H) : am_f d scr L call 136 (n + 1) 31 lv st h = am_f d scr L call 136 n 50 lv st h := k_nx (i := .goto 19) rfl rfl
theorem s_136_34 (d L n : Nat) (scr : Nat → Int32) (call : Nat → List Value → am_H → Option am_X) (lv : am_L) (st : List Value) (h : am_H) : am_f d scr L call 136 (n + 1) 34 lv st h = (match am_ld lv 0 with
    | some (.ref x) => am_f d scr L call 136 n 35 lv (.ref x :: st) h
    | _ => none) := k_la (i := .aload_n 0) rfl rfl rfl rfl
theorem s_136_35 (d L n : Nat) (scr : Nat → Int32) (call : Nat → List Value → am_H → Option am_X) (lv : am_L) (st : List Value) (h : am_H) (a : Nat) : am_f d scr L call 136 (n + 1) 35 lv (.ref a :: st) h = (match am_get h a 8 57 with
    | some v => am_f d scr L call 136 n 38 lv (v :: st) h
    | none => none) := k_gf (k := 114) rfl rfl
theorem s_136_38 (d L n : Nat) (scr : Nat → Int32) (call : Nat → List Value → am_H → Option am_X) (lv : am_L) (st : List Value) (h : am_H) : am_f d scr L call 136 (n + 1) 38 lv st h = (match am_ld lv 0 with
    | some (.ref x) => am_f d scr L call 136 n 39 lv (.ref x :: st) h
    | _ => none) := k_la (i := .aload_n 0) rfl rfl rfl rfl
theorem s_136_39 (d L n : Nat) (scr : Nat → Int32) (call : Nat → List Value → am_H → Option am_X) (lv : am_L) (st : List Value) (h : am_H) (a : Nat) : am_f d scr L call 136 (n + 1) 39 lv (.ref a :: st) h = (match am_get h a 8 56 with
    | some v => am_f d scr L call 136 n 42 lv (v :: st) h
    | none => none) := k_gf (k := 251) rfl rfl
theorem s_136_42 (d L n : Nat) (scr : Nat → Int32) (call : Nat → List Value → am_H → Option am_X) (lv : am_L) (st : List Value) (h : am_H) : am_f d scr L call 136 (n + 1) 42 lv st h = am_f d scr L call 136 n 43 lv (.int 1 :: st) h := k_nx (i := .iconst 1) rfl rfl
theorem s_136_43 (d L n : Nat) (scr : Nat → Int32) (call : Nat → List Value → am_H → Option am_X) (lv : am_L) (st : List Value) (h : am_H) (x y : Int32) : am_f d scr L call 136 (n + 1) 43 lv (.int y :: .int x :: st) h = am_f d scr L call 136 n 44 lv (.int (x - y) :: st) h := k_nx (i := .isub) rfl rfl
theorem s_136_44 (d L n : Nat) (scr : Nat → Int32) (call : Nat → List Value → am_H → Option am_X) (lv : am_L) (st : List Value) (h : am_H) : am_f d scr L call 136 (n + 1) 44 lv st h = (match am_ld lv 1 with
    | some (.int x) => am_f d scr L call 136 n 45 lv (.int x :: st) h
    | _ => none) := k_li (i := .iload_n 1) rfl rfl rfl rfl
theorem s_136_45 (d L n : Nat) (scr : Nat → Int32) (call : Nat → List Value → am_H → Option am_X) (lv : am_L) (st : List Value) (h : am_H) (x y : Int32) : am_f d scr L call 136 (n + 1) 45 lv (.int y :: .int x :: st) h = am_f d scr L call 136 n 46 lv (.int (x - y) :: st) h := k_nx (i := .isub) rfl rfl
theorem s_136_46 (d L n : Nat) (scr : Nat → Int32) (call : Nat → List Value → am_H → Option am_X) (lv : am_L) (st : List Value) (h : am_H) : am_f d scr L call 136 (n + 1) 46 lv st h = am_f d scr L call 136 n 48 lv (.int 16 :: st) h := k_nx (i := .bipush 16) rfl rfl
theorem s_136_48 (d L n : Nat) (scr : Nat → Int32) (call : Nat → List Value → am_H → Option am_X) (lv : am_L) (st : List Value) (h : am_H) (x y : Int32) : am_f d scr L call 136 (n + 1) 48 lv (.int y :: .int x :: st) h = if y = 0 then none else am_f d scr L call 136 n 49 lv (.int (x - x / y * y) :: st) h := k_dz (f := fun x y => x - x / y * y) (i := .irem) rfl rfl rfl rfl
theorem s_136_49 (d L n : Nat) (scr : Nat → Int32) (call : Nat → List Value → am_H → Option am_X) (lv : am_L) (st : List Value) (h : am_H) (a : Nat) (i : Int32) : am_f d scr L call 136 (n + 1) 49 lv (.int i :: .ref a :: st) h = (match am_ild scr L h a i with
    | some x => am_f d scr L call 136 n 50 lv (.int x :: st) h
    | none => none) := k_ia rfl
theorem s_136_50 (d L n : Nat) (scr : Nat → Int32) (call : Nat → List Value → am_H → Option am_X) (lv : am_L) (h : am_H) (x : Int32) : am_f d scr L call 136 (n + 1) 50 lv [.int x] h = some (some (.int x), h, 0, 0) := k_ir rfl rfl
-- 137: BlameDeskModel.calls()I
theorem s_137_0 (d L n : Nat) (scr : Nat → Int32) (call : Nat → List Value → am_H → Option am_X) (lv : am_L) (st : List Value) (h : am_H) : am_f d scr L call 137 (n + 1) 0 lv st h = (match am_ld lv 0 with
    | some (.ref x) => am_f d scr L call 137 n 1 lv (.ref x :: st) h
    | _ => none) := k_la (i := .aload_n 0) rfl rfl rfl rfl
theorem s_137_1 (d L n : Nat) (scr : Nat → Int32) (call : Nat → List Value → am_H → Option am_X) (lv : am_L) (st : List Value) (h : am_H) (a : Nat) : am_f d scr L call 137 (n + 1) 1 lv (.ref a :: st) h = (match am_get h a 8 53 with
    | some v => am_f d scr L call 137 n 4 lv (v :: st) h
    | none => none) := k_gf (k := 245) rfl rfl
theorem s_137_4 (d L n : Nat) (scr : Nat → Int32) (call : Nat → List Value → am_H → Option am_X) (lv : am_L) (h : am_H) (x : Int32) : am_f d scr L call 137 (n + 1) 4 lv [.int x] h = some (some (.int x), h, 0, 0) := k_ir rfl rfl
-- 138: BlameDeskModel.stored()I
theorem s_138_0 (d L n : Nat) (scr : Nat → Int32) (call : Nat → List Value → am_H → Option am_X) (lv : am_L) (st : List Value) (h : am_H) : am_f d scr L call 138 (n + 1) 0 lv st h = (match am_ld lv 0 with
    | some (.ref x) => am_f d scr L call 138 n 1 lv (.ref x :: st) h
    | _ => none) := k_la (i := .aload_n 0) rfl rfl rfl rfl
theorem s_138_1 (d L n : Nat) (scr : Nat → Int32) (call : Nat → List Value → am_H → Option am_X) (lv : am_L) (st : List Value) (h : am_H) (a : Nat) : am_f d scr L call 138 (n + 1) 1 lv (.ref a :: st) h = (match am_get h a 8 49 with
    | some v => am_f d scr L call 138 n 4 lv (v :: st) h
    | none => none) := k_gf (k := 248) rfl rfl
theorem s_138_4 (d L n : Nat) (scr : Nat → Int32) (call : Nat → List Value → am_H → Option am_X) (lv : am_L) (h : am_H) (x : Int32) : am_f d scr L call 138 (n + 1) 4 lv [.int x] h = some (some (.int x), h, 0, 0) := k_ir rfl rfl
