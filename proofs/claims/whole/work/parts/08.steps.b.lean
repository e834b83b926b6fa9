/-! Steps of BlameDesk$Value, BlameDesk$Casts, BlameDesk$Checker: a row an instruction, by program. -/
-- 12: BlameDesk$Casts.<init>(LBlameDesk$Types;)V
theorem s_12_0 (d L n : Nat) (scr : Nat → Int32) (call : Nat → List Value → am_H → Option am_X) (lv : am_L) (st : List Value) (h : am_H) : am_f d scr L call 12 (n + 1) 0 lv st h = (match am_ld lv 0 with
    | some (.ref x) => am_f d scr L call 12 n 1 lv (.ref x :: st) h
    | _ => none) := k_la (i := .aload_n 0) rfl rfl rfl rfl
theorem s_12_1 (d L n a : Nat) (scr : Nat → Int32) (call : Nat → List Value → am_H → Option am_X) (lv : am_L) (h : am_H)  : am_f (d + 1) scr L call 12 (n + 1) 1 lv (.ref a :: []) h = am_f (d + 1) scr L call 12 n 4 lv [] h := k_ob (k := 3) rfl rfl (Nat.le_of_ble_eq_true rfl)
theorem s_12_4 (d L n : Nat) (scr : Nat → Int32) (call : Nat → List Value → am_H → Option am_X) (lv : am_L) (st : List Value) (h : am_H) : am_f d scr L call 12 (n + 1) 4 lv st h = (match am_ld lv 0 with
    | some (.ref x) => am_f d scr L call 12 n 5 lv (.ref x :: st) h
    | _ => none) := k_la (i := .aload_n 0) rfl rfl rfl rfl
theorem s_12_5 (d L n : Nat) (scr : Nat → Int32) (call : Nat → List Value → am_H → Option am_X) (lv : am_L) (st : List Value) (h : am_H) : am_f d scr L call 12 (n + 1) 5 lv st h = (match am_ld lv 1 with
    | some (.ref x) => am_f d scr L call 12 n 6 lv (.ref x :: st) h
    | _ => none) := k_la (i := .aload_n 1) rfl rfl rfl rfl
theorem s_12_6 (d L n : Nat) (scr : Nat → Int32) (call : Nat → List Value → am_H → Option am_X) (lv : am_L) (st : List Value) (h : am_H) (x : Nat) (a : Nat) : am_f d scr L call 12 (n + 1) 6 lv (.ref x :: .ref a :: st) h = (match am_put h a 1 0 (.ref x) with
    | some h' => am_f d scr L call 12 n 9 lv st h'
    | none => none) := k_pf (k := 9) rfl rfl rfl
theorem s_12_9 (d L n : Nat) (scr : Nat → Int32) (call : Nat → List Value → am_H → Option am_X) (lv : am_L) (st : List Value) (h : am_H) : am_f d scr L call 12 (n + 1) 9 lv st h = (match am_ld lv 0 with
    | some (.ref x) => am_f d scr L call 12 n 10 lv (.ref x :: st) h
    | _ => none) := k_la (i := .aload_n 0) rfl rfl rfl rfl
theorem s_12_10 (d L n : Nat) (scr : Nat → Int32) (call : Nat → List Value → am_H → Option am_X) (lv : am_L) (st : List Value) (h : am_H) : am_f d scr L call 12 (n + 1) 10 lv st h = am_f d scr L call 12 n 13 lv (.int 200 :: st) h := k_nx (i := .sipush 200) rfl rfl
theorem s_12_15 (d L n : Nat) (scr : Nat → Int32) (call : Nat → List Value → am_H → Option am_X) (lv : am_L) (st : List Value) (h : am_H) (x : Nat) (a : Nat) : am_f d scr L call 12 (n + 1) 15 lv (.ref x :: .ref a :: st) h = (match am_put h a 1 1 (.ref x) with
    | some h' => am_f d scr L call 12 n 18 lv st h'
    | none => none) := k_pf (k := 15) rfl rfl rfl
theorem s_12_18 (d L n : Nat) (scr : Nat → Int32) (call : Nat → List Value → am_H → Option am_X) (lv : am_L) (st : List Value) (h : am_H) : am_f d scr L call 12 (n + 1) 18 lv st h = (match am_ld lv 0 with
    | some (.ref x) => am_f d scr L call 12 n 19 lv (.ref x :: st) h
    | _ => none) := k_la (i := .aload_n 0) rfl rfl rfl rfl
theorem s_12_19 (d L n : Nat) (scr : Nat → Int32) (call : Nat → List Value → am_H → Option am_X) (lv : am_L) (st : List Value) (h : am_H) : am_f d scr L call 12 (n + 1) 19 lv st h = am_f d scr L call 12 n 22 lv (.int 200 :: st) h := k_nx (i := .sipush 200) rfl rfl
theorem s_12_24 (d L n : Nat) (scr : Nat → Int32) (call : Nat → List Value → am_H → Option am_X) (lv : am_L) (st : List Value) (h : am_H) (x : Nat) (a : Nat) : am_f d scr L call 12 (n + 1) 24 lv (.ref x :: .ref a :: st) h = (match am_put h a 1 2 (.ref x) with
    | some h' => am_f d scr L call 12 n 27 lv st h'
    | none => none) := k_pf (k := 19) rfl rfl rfl
theorem s_12_27 (d L n : Nat) (scr : Nat → Int32) (call : Nat → List Value → am_H → Option am_X) (lv : am_L) (st : List Value) (h : am_H) : am_f d scr L call 12 (n + 1) 27 lv st h = (match am_ld lv 0 with
    | some (.ref x) => am_f d scr L call 12 n 28 lv (.ref x :: st) h
    | _ => none) := k_la (i := .aload_n 0) rfl rfl rfl rfl
theorem s_12_28 (d L n : Nat) (scr : Nat → Int32) (call : Nat → List Value → am_H → Option am_X) (lv : am_L) (st : List Value) (h : am_H) : am_f d scr L call 12 (n + 1) 28 lv st h = am_f d scr L call 12 n 31 lv (.int 200 :: st) h := k_nx (i := .sipush 200) rfl rfl
theorem s_12_33 (d L n : Nat) (scr : Nat → Int32) (call : Nat → List Value → am_H → Option am_X) (lv : am_L) (st : List Value) (h : am_H) (x : Nat) (a : Nat) : am_f d scr L call 12 (n + 1) 33 lv (.ref x :: .ref a :: st) h = (match am_put h a 1 3 (.ref x) with
    | some h' => am_f d scr L call 12 n 36 lv st h'
    | none => none) := k_pf (k := 23) rfl rfl rfl
theorem s_12_36 (d L n : Nat) (scr : Nat → Int32) (call : Nat → List Value → am_H → Option am_X) (lv : am_L) (st : List Value) (h : am_H) : am_f d scr L call 12 (n + 1) 36 lv st h = (match am_ld lv 0 with
    | some (.ref x) => am_f d scr L call 12 n 37 lv (.ref x :: st) h
    | _ => none) := k_la (i := .aload_n 0) rfl rfl rfl rfl
theorem s_12_37 (d L n : Nat) (scr : Nat → Int32) (call : Nat → List Value → am_H → Option am_X) (lv : am_L) (st : List Value) (h : am_H) : am_f d scr L call 12 (n + 1) 37 lv st h = am_f d scr L call 12 n 40 lv (.int 200 :: st) h := k_nx (i := .sipush 200) rfl rfl
theorem s_12_42 (d L n : Nat) (scr : Nat → Int32) (call : Nat → List Value → am_H → Option am_X) (lv : am_L) (st : List Value) (h : am_H) (x : Nat) (a : Nat) : am_f d scr L call 12 (n + 1) 42 lv (.ref x :: .ref a :: st) h = (match am_put h a 1 4 (.ref x) with
    | some h' => am_f d scr L call 12 n 45 lv st h'
    | none => none) := k_pf (k := 26) rfl rfl rfl
theorem s_12_45 (d L n : Nat) (scr : Nat → Int32) (call : Nat → List Value → am_H → Option am_X) (lv : am_L) (st : List Value) (h : am_H) : am_f d scr L call 12 (n + 1) 45 lv st h = (match am_ld lv 0 with
    | some (.ref x) => am_f d scr L call 12 n 46 lv (.ref x :: st) h
    | _ => none) := k_la (i := .aload_n 0) rfl rfl rfl rfl
theorem s_12_46 (d L n : Nat) (scr : Nat → Int32) (call : Nat → List Value → am_H → Option am_X) (lv : am_L) (st : List Value) (h : am_H) : am_f d scr L call 12 (n + 1) 46 lv st h = am_f d scr L call 12 n 49 lv (.int 200 :: st) h := k_nx (i := .sipush 200) rfl rfl
theorem s_12_51 (d L n : Nat) (scr : Nat → Int32) (call : Nat → List Value → am_H → Option am_X) (lv : am_L) (st : List Value) (h : am_H) (x : Nat) (a : Nat) : am_f d scr L call 12 (n + 1) 51 lv (.ref x :: .ref a :: st) h = (match am_put h a 1 5 (.ref x) with
    | some h' => am_f d scr L call 12 n 54 lv st h'
    | none => none) := k_pf (k := 29) rfl rfl rfl
theorem s_12_54 (d L n : Nat) (scr : Nat → Int32) (call : Nat → List Value → am_H → Option am_X) (lv : am_L) (st : List Value) (h : am_H) : am_f d scr L call 12 (n + 1) 54 lv st h = (match am_ld lv 0 with
    | some (.ref x) => am_f d scr L call 12 n 55 lv (.ref x :: st) h
    | _ => none) := k_la (i := .aload_n 0) rfl rfl rfl rfl
theorem s_12_55 (d L n : Nat) (scr : Nat → Int32) (call : Nat → List Value → am_H → Option am_X) (lv : am_L) (st : List Value) (h : am_H) : am_f d scr L call 12 (n + 1) 55 lv st h = am_f d scr L call 12 n 56 lv (.int 0 :: st) h := k_nx (i := .iconst 0) rfl rfl
theorem s_12_56 (d L n : Nat) (scr : Nat → Int32) (call : Nat → List Value → am_H → Option am_X) (lv : am_L) (st : List Value) (h : am_H) (x : Int32) (a : Nat) : am_f d scr L call 12 (n + 1) 56 lv (.int x :: .ref a :: st) h = (match am_put h a 1 6 (.int x) with
    | some h' => am_f d scr L call 12 n 59 lv st h'
    | none => none) := k_pf (k := 32) rfl rfl rfl
theorem s_12_59 (d L n : Nat) (scr : Nat → Int32) (call : Nat → List Value → am_H → Option am_X) (lv : am_L) (st : List Value) (h : am_H) : am_f d scr L call 12 (n + 1) 59 lv st h = (match am_ld lv 0 with
    | some (.ref x) => am_f d scr L call 12 n 60 lv (.ref x :: st) h
    | _ => none) := k_la (i := .aload_n 0) rfl rfl rfl rfl
theorem s_12_60 (d L n : Nat) (scr : Nat → Int32) (call : Nat → List Value → am_H → Option am_X) (lv : am_L) (st : List Value) (h : am_H) : am_f d scr L call 12 (n + 1) 60 lv st h = am_f d scr L call 12 n 62 lv (.int 6 :: st) h := k_nx (i := .bipush 6) rfl rfl
theorem s_12_62 (d L n : Nat) (scr : Nat → Int32) (call : Nat → List Value → am_H → Option am_X) (lv : am_L) (st : List Value) (h : am_H) (x : Int32) (a : Nat) : am_f d scr L call 12 (n + 1) 62 lv (.int x :: .ref a :: st) h = (match am_put h a 1 7 (.int x) with
    | some h' => am_f d scr L call 12 n 65 lv st h'
    | none => none) := k_pf (k := 38) rfl rfl rfl
theorem s_12_65 (d L n : Nat) (scr : Nat → Int32) (call : Nat → List Value → am_H → Option am_X) (lv : am_L) (st : List Value) (h : am_H) : am_f d scr L call 12 (n + 1) 65 lv st h = (match am_ld lv 0 with
    | some (.ref x) => am_f d scr L call 12 n 66 lv (.ref x :: st) h
    | _ => none) := k_la (i := .aload_n 0) rfl rfl rfl rfl
theorem s_12_66 (d L n : Nat) (scr : Nat → Int32) (call : Nat → List Value → am_H → Option am_X) (lv : am_L) (st : List Value) (h : am_H) : am_f d scr L call 12 (n + 1) 66 lv st h = am_f d scr L call 12 n 67 lv (.int (-1) :: st) h := k_nx (i := .iconst (-1)) rfl rfl
theorem s_12_67 (d L n : Nat) (scr : Nat → Int32) (call : Nat → List Value → am_H → Option am_X) (lv : am_L) (st : List Value) (h : am_H) (x : Int32) (a : Nat) : am_f d scr L call 12 (n + 1) 67 lv (.int x :: .ref a :: st) h = (match am_put h a 1 8 (.int x) with
    | some h' => am_f d scr L call 12 n 70 lv st h'
    | none => none) := k_pf (k := 41) rfl rfl rfl
theorem s_12_70 (d L n : Nat) (scr : Nat → Int32) (call : Nat → List Value → am_H → Option am_X) (lv : am_L) (h : am_H) : am_f d scr L call 12 (n + 1) 70 lv [] h = some (none, h, 0, 0) := k_vr rfl rfl
-- 13: BlameDesk$Casts.start()V
theorem s_13_0 (d L n : Nat) (scr : Nat → Int32) (call : Nat → List Value → am_H → Option am_X) (lv : am_L) (st : List Value) (h : am_H) : am_f d scr L call 13 (n + 1) 0 lv st h = (match am_ld lv 0 with
    | some (.ref x) => am_f d scr L call 13 n 1 lv (.ref x :: st) h
    | _ => none) := k_la (i := .aload_n 0) rfl rfl rfl rfl
theorem s_13_1 (d L n : Nat) (scr : Nat → Int32) (call : Nat → List Value → am_H → Option am_X) (lv : am_L) (st : List Value) (h : am_H) : am_f d scr L call 13 (n + 1) 1 lv st h = am_f d scr L call 13 n 2 lv (.int 0 :: st) h := k_nx (i := .iconst 0) rfl rfl
theorem s_13_2 (d L n : Nat) (scr : Nat → Int32) (call : Nat → List Value → am_H → Option am_X) (lv : am_L) (st : List Value) (h : am_H) (x : Int32) (a : Nat) : am_f d scr L call 13 (n + 1) 2 lv (.int x :: .ref a :: st) h = (match am_put h a 1 6 (.int x) with
    | some h' => am_f d scr L call 13 n 5 lv st h'
    | none => none) := k_pf (k := 32) rfl rfl rfl
theorem s_13_5 (d L n : Nat) (scr : Nat → Int32) (call : Nat → List Value → am_H → Option am_X) (lv : am_L) (st : List Value) (h : am_H) : am_f d scr L call 13 (n + 1) 5 lv st h = (match am_ld lv 0 with
    | some (.ref x) => am_f d scr L call 13 n 6 lv (.ref x :: st) h
    | _ => none) := k_la (i := .aload_n 0) rfl rfl rfl rfl
theorem s_13_6 (d L n : Nat) (scr : Nat → Int32) (call : Nat → List Value → am_H → Option am_X) (lv : am_L) (st : List Value) (h : am_H) : am_f d scr L call 13 (n + 1) 6 lv st h = am_f d scr L call 13 n 8 lv (.int 6 :: st) h := k_nx (i := .bipush 6) rfl rfl
theorem s_13_8 (d L n : Nat) (scr : Nat → Int32) (call : Nat → List Value → am_H → Option am_X) (lv : am_L) (st : List Value) (h : am_H) (x : Int32) (a : Nat) : am_f d scr L call 13 (n + 1) 8 lv (.int x :: .ref a :: st) h = (match am_put h a 1 7 (.int x) with
    | some h' => am_f d scr L call 13 n 11 lv st h'
    | none => none) := k_pf (k := 38) rfl rfl rfl
theorem s_13_11 (d L n : Nat) (scr : Nat → Int32) (call : Nat → List Value → am_H → Option am_X) (lv : am_L) (st : List Value) (h : am_H) : am_f d scr L call 13 (n + 1) 11 lv st h = (match am_ld lv 0 with
    | some (.ref x) => am_f d scr L call 13 n 12 lv (.ref x :: st) h
    | _ => none) := k_la (i := .aload_n 0) rfl rfl rfl rfl
theorem s_13_12 (d L n : Nat) (scr : Nat → Int32) (call : Nat → List Value → am_H → Option am_X) (lv : am_L) (st : List Value) (h : am_H) : am_f d scr L call 13 (n + 1) 12 lv st h = am_f d scr L call 13 n 13 lv (.int (-1) :: st) h := k_nx (i := .iconst (-1)) rfl rfl
theorem s_13_13 (d L n : Nat) (scr : Nat → Int32) (call : Nat → List Value → am_H → Option am_X) (lv : am_L) (st : List Value) (h : am_H) (x : Int32) (a : Nat) : am_f d scr L call 13 (n + 1) 13 lv (.int x :: .ref a :: st) h = (match am_put h a 1 8 (.int x) with
    | some h' => am_f d scr L call 13 n 16 lv st h'
    | none => none) := k_pf (k := 41) rfl rfl rfl
theorem s_13_16 (d L n : Nat) (scr : Nat → Int32) (call : Nat → List Value → am_H → Option am_X) (lv : am_L) (h : am_H) : am_f d scr L call 13 (n + 1) 16 lv [] h = some (none, h, 0, 0) := k_vr rfl rfl
-- 14: BlameDesk$Casts.cast(JIII)J
theorem s_14_0 (d L n : Nat) (scr : Nat → Int32) (call : Nat → List Value → am_H → Option am_X) (lv : am_L) (st : List Value) (h : am_H) : am_f d scr L call 14 (n + 1) 0 lv st h = (match am_ld lv 3 with
    | some (.int x) => am_f d scr L call 14 n 1 lv (.int x :: st) h
    | _ => none) := k_li (i := .iload_n 3) rfl rfl rfl rfl
theorem s_14_1 (d L n : Nat) (scr : Nat → Int32) (call : Nat → List Value → am_H → Option am_X) (lv : am_L) (st : List Value) (h : am_H) : am_f d scr L call 14 (n + 1) 1 lv st h = (match am_ld lv 4 with
    | some (.int x) => am_f d scr L call 14 n 3 lv (.int x :: st) h
    | _ => none) := k_li (i := .iload 4) rfl rfl rfl rfl
theorem s_14_3 (d L n : Nat) (scr : Nat → Int32) (call : Nat → List Value → am_H → Option am_X) (lv : am_L) (st : List Value) (h : am_H) (x y : Int32) : am_f d scr L call 14 (n + 1) 3 lv (.int y :: .int x :: st) h = if ¬ x = y then am_f d scr L call 14 n 8 lv st h else am_f d scr L call 14 n 6 lv st h := k_ic_ne (o := 5) rfl ⟨by decide, rfl⟩
theorem s_14_6 (d L n : Nat) (scr : Nat → Int32) (call : Nat → List Value → am_H → Option am_X) (lv : am_L) (st : List Value) (h : am_H) : am_f d scr L call 14 (n + 1) 6 lv st h = (match am_ld lv 1 with
    | some (.long x) => am_f d scr L call 14 n 7 lv (.long x :: st) h
    | _ => none) := k_ll (i := .lload_n 1) rfl rfl rfl rfl
theorem s_14_7 (d L n : Nat) (scr : Nat → Int32) (call : Nat → List Value → am_H → Option am_X) (lv : am_L) (h : am_H) (x : Int64) : am_f d scr L call 14 (n + 1) 7 lv [.long x] h = some (some (.long x), h, 0, 0) := k_jr rfl rfl
theorem s_14_8 (d L n : Nat) (scr : Nat → Int32) (call : Nat → List Value → am_H → Option am_X) (lv : am_L) (st : List Value) (h : am_H) : am_f d scr L call 14 (n + 1) 8 lv st h = (match am_ld lv 4 with
    | some (.int x) => am_f d scr L call 14 n 10 lv (.int x :: st) h
    | _ => none) := k_li (i := .iload 4) rfl rfl rfl rfl
theorem s_14_10 (d L n : Nat) (scr : Nat → Int32) (call : Nat → List Value → am_H → Option am_X) (lv : am_L) (st : List Value) (h : am_H) (x : Int32) : am_f d scr L call 14 (n + 1) 10 lv (.int x :: st) h = if ¬ x = 0 then am_f d scr L call 14 n 33 lv st h else am_f d scr L call 14 n 13 lv st h := k_if_ne (o := 23) rfl ⟨by decide, rfl⟩
theorem s_14_13 (d L n : Nat) (scr : Nat → Int32) (call : Nat → List Value → am_H → Option am_X) (lv : am_L) (st : List Value) (h : am_H) : am_f d scr L call 14 (n + 1) 13 lv st h = (match am_ld lv 0 with
    | some (.ref x) => am_f d scr L call 14 n 14 lv (.ref x :: st) h
    | _ => none) := k_la (i := .aload_n 0) rfl rfl rfl rfl
theorem s_14_14 (d L n : Nat) (scr : Nat → Int32) (call : Nat → List Value → am_H → Option am_X) (lv : am_L) (st : List Value) (h : am_H) : am_f d scr L call 14 (n + 1) 14 lv st h = (match am_ld lv 1 with
    | some (.long x) => am_f d scr L call 14 n 15 lv (.long x :: st) h
    | _ => none) := k_ll (i := .lload_n 1) rfl rfl rfl rfl
theorem s_14_15 (d L n : Nat) (scr : Nat → Int32) (call : Nat → List Value → am_H → Option am_X) (lv : am_L) (st : List Value) (h : am_H) : am_f d scr L call 14 (n + 1) 15 lv st h = (match am_ld lv 3 with
    | some (.int x) => am_f d scr L call 14 n 16 lv (.int x :: st) h
    | _ => none) := k_li (i := .iload_n 3) rfl rfl rfl rfl
theorem s_14_16 (d L n : Nat) (scr : Nat → Int32) (call : Nat → List Value → am_H → Option am_X) (lv : am_L) (st : List Value) (h : am_H) : am_f d scr L call 14 (n + 1) 16 lv st h = (match am_ld lv 0 with
    | some (.ref x) => am_f d scr L call 14 n 17 lv (.ref x :: st) h
    | _ => none) := k_la (i := .aload_n 0) rfl rfl rfl rfl
theorem s_14_17 (d L n : Nat) (scr : Nat → Int32) (call : Nat → List Value → am_H → Option am_X) (lv : am_L) (st : List Value) (h : am_H) (a : Nat) : am_f d scr L call 14 (n + 1) 17 lv (.ref a :: st) h = (match am_get h a 1 0 with
    | some v => am_f d scr L call 14 n 20 lv (v :: st) h
    | none => none) := k_gf (k := 9) rfl rfl
theorem s_14_20 (d L n : Nat) (scr : Nat → Int32) (call : Nat → List Value → am_H → Option am_X) (lv : am_L) (st : List Value) (h : am_H) : am_f d scr L call 14 (n + 1) 20 lv st h = (match am_ld lv 3 with
    | some (.int x) => am_f d scr L call 14 n 21 lv (.int x :: st) h
    | _ => none) := k_li (i := .iload_n 3) rfl rfl rfl rfl
theorem s_14_21 (d L n : Nat) (scr : Nat → Int32) (call : Nat → List Value → am_H → Option am_X) (lv : am_L) (h : am_H) (o : Nat) (a0 : Int32) (r0 : Int32) (r1 : Int64) (r2 : Nat) : am_f d scr L call 14 (n + 1) 21 lv (.int a0 :: .ref o :: .int r0 :: .long r1 :: .ref r2 :: []) h = if am_at h o 7 = true then (match call 80 [.ref o, .int a0] h with
    | some (v, h', dk, dn) => am_add dk dn (am_f d scr L call 14 n 24 lv (v.toList ++ [.int r0, .long r1, .ref r2]) h')
    | none => none) else none := k_iv0 (k := 44) (as := [.int a0]) (r := [.int r0, .long r1, .ref r2]) rfl rfl rfl rfl (Nat.le_of_ble_eq_true rfl)
theorem s_14_24 (d L n : Nat) (scr : Nat → Int32) (call : Nat → List Value → am_H → Option am_X) (lv : am_L) (st : List Value) (h : am_H) : am_f d scr L call 14 (n + 1) 24 lv st h = (match am_ld lv 5 with
    | some (.int x) => am_f d scr L call 14 n 26 lv (.int x :: st) h
    | _ => none) := k_li (i := .iload 5) rfl rfl rfl rfl
theorem s_14_26 (d L n : Nat) (scr : Nat → Int32) (call : Nat → List Value → am_H → Option am_X) (lv : am_L) (h : am_H) (o : Nat) (a0 : Int64) (a1 : Int32) (a2 : Int32) (a3 : Int32)  : am_f d scr L call 14 (n + 1) 26 lv (.int a3 :: .int a2 :: .int a1 :: .long a0 :: .ref o :: []) h = if am_at h o 1 = true then (match call 15 [.ref o, .long a0, .int a1, .int a2, .int a3] h with
    | some (v, h', dk, dn) => am_add dk dn (am_f d scr L call 14 n 29 lv (v.toList ++ []) h')
    | none => none) else none := k_iv0 (k := 50) (as := [.long a0, .int a1, .int a2, .int a3]) (r := []) rfl rfl rfl rfl (Nat.le_of_ble_eq_true rfl)
theorem s_14_29 (d L n : Nat) (scr : Nat → Int32) (call : Nat → List Value → am_H → Option am_X) (lv : am_L) (h : am_H) (a0 : Int64)  : am_f d scr L call 14 (n + 1) 29 lv (.long a0 :: []) h = (match call 90 [.long a0] h with
    | some (v, h', dk, dn) => am_add dk dn (am_f d scr L call 14 n 32 lv (v.toList ++ []) h')
    | none => none) := k_iv1 (k := 54) (as := [.long a0]) (r := []) rfl rfl rfl rfl (Nat.le_of_ble_eq_true rfl)
theorem s_14_32 (d L n : Nat) (scr : Nat → Int32) (call : Nat → List Value → am_H → Option am_X) (lv : am_L) (h : am_H) (x : Int64) : am_f d scr L call 14 (n + 1) 32 lv [.long x] h = some (some (.long x), h, 0, 0) := k_jr rfl rfl
theorem s_14_33 (d L n : Nat) (scr : Nat → Int32) (call : Nat → List Value → am_H → Option am_X) (lv : am_L) (st : List Value) (h : am_H) : am_f d scr L call 14 (n + 1) 33 lv st h = (match am_ld lv 3 with
    | some (.int x) => am_f d scr L call 14 n 34 lv (.int x :: st) h
    | _ => none) := k_li (i := .iload_n 3) rfl rfl rfl rfl
theorem s_14_34 (d L n : Nat) (scr : Nat → Int32) (call : Nat → List Value → am_H → Option am_X) (lv : am_L) (st : List Value) (h : am_H) (x : Int32) : am_f d scr L call 14 (n + 1) 34 lv (.int x :: st) h = if x = 0 then am_f d scr L call 14 n 48 lv st h else am_f d scr L call 14 n 37 lv st h := k_if_eq (o := 14) rfl ⟨by decide, rfl⟩
theorem s_14_37 (d L n : Nat) (scr : Nat → Int32) (call : Nat → List Value → am_H → Option am_X) (lv : am_L) (st : List Value) (h : am_H) : am_f d scr L call 14 (n + 1) 37 lv st h = (match am_ld lv 0 with
    | some (.ref x) => am_f d scr L call 14 n 38 lv (.ref x :: st) h
    | _ => none) := k_la (i := .aload_n 0) rfl rfl rfl rfl
theorem s_14_38 (d L n : Nat) (scr : Nat → Int32) (call : Nat → List Value → am_H → Option am_X) (lv : am_L) (st : List Value) (h : am_H) : am_f d scr L call 14 (n + 1) 38 lv st h = (match am_ld lv 1 with
    | some (.long x) => am_f d scr L call 14 n 39 lv (.long x :: st) h
    | _ => none) := k_ll (i := .lload_n 1) rfl rfl rfl rfl
theorem s_14_39 (d L n : Nat) (scr : Nat → Int32) (call : Nat → List Value → am_H → Option am_X) (lv : am_L) (st : List Value) (h : am_H) : am_f d scr L call 14 (n + 1) 39 lv st h = (match am_ld lv 3 with
    | some (.int x) => am_f d scr L call 14 n 40 lv (.int x :: st) h
    | _ => none) := k_li (i := .iload_n 3) rfl rfl rfl rfl
theorem s_14_40 (d L n : Nat) (scr : Nat → Int32) (call : Nat → List Value → am_H → Option am_X) (lv : am_L) (st : List Value) (h : am_H) : am_f d scr L call 14 (n + 1) 40 lv st h = (match am_ld lv 4 with
    | some (.int x) => am_f d scr L call 14 n 42 lv (.int x :: st) h
    | _ => none) := k_li (i := .iload 4) rfl rfl rfl rfl
theorem s_14_42 (d L n : Nat) (scr : Nat → Int32) (call : Nat → List Value → am_H → Option am_X) (lv : am_L) (st : List Value) (h : am_H) : am_f d scr L call 14 (n + 1) 42 lv st h = (match am_ld lv 5 with
    | some (.int x) => am_f d scr L call 14 n 44 lv (.int x :: st) h
    | _ => none) := k_li (i := .iload 5) rfl rfl rfl rfl
theorem s_14_44 (d L n : Nat) (scr : Nat → Int32) (call : Nat → List Value → am_H → Option am_X) (lv : am_L) (h : am_H) (o : Nat) (a0 : Int64) (a1 : Int32) (a2 : Int32) (a3 : Int32)  : am_f d scr L call 14 (n + 1) 44 lv (.int a3 :: .int a2 :: .int a1 :: .long a0 :: .ref o :: []) h = if am_at h o 1 = true then (match call 15 [.ref o, .long a0, .int a1, .int a2, .int a3] h with
    | some (v, h', dk, dn) => am_add dk dn (am_f d scr L call 14 n 47 lv (v.toList ++ []) h')
    | none => none) else none := k_iv0 (k := 50) (as := [.long a0, .int a1, .int a2, .int a3]) (r := []) rfl rfl rfl rfl (Nat.le_of_ble_eq_true rfl)
theorem s_14_47 (d L n : Nat) (scr : Nat → Int32) (call : Nat → List Value → am_H → Option am_X) (lv : am_L) (h : am_H) (x : Int64) : am_f d scr L call 14 (n + 1) 47 lv [.long x] h = some (some (.long x), h, 0, 0) := k_jr rfl rfl
theorem s_14_48 (d L n : Nat) (scr : Nat → Int32) (call : Nat → List Value → am_H → Option am_X) (lv : am_L) (st : List Value) (h : am_H) : am_f d scr L call 14 (n + 1) 48 lv st h = (match am_ld lv 1 with
    | some (.long x) => am_f d scr L call 14 n 49 lv (.long x :: st) h
    | _ => none) := k_ll (i := .lload_n 1) rfl rfl rfl rfl
theorem s_14_49 (d L n : Nat) (scr : Nat → Int32) (call : Nat → List Value → am_H → Option am_X) (lv : am_L) (h : am_H) (a0 : Int64)  : am_f d scr L call 14 (n + 1) 49 lv (.long a0 :: []) h = (match call 92 [.long a0] h with
    | some (v, h', dk, dn) => am_add dk dn (am_f d scr L call 14 n 52 lv (v.toList ++ []) h')
    | none => none) := k_iv1 (k := 60) (as := [.long a0]) (r := []) rfl rfl rfl rfl (Nat.le_of_ble_eq_true rfl)
theorem s_14_52 (d L n : Nat) (scr : Nat → Int32) (call : Nat → List Value → am_H → Option am_X) (lv : am_L) (st : List Value) (h : am_H) (x : Int32) : am_f d scr L call 14 (n + 1) 52 lv (.int x :: st) h = am_f d scr L call 14 n 54 (am_st1 lv 6 (.int x)) st h := k_nx (i := .istore 6) rfl rfl
theorem s_14_54 (d L n : Nat) (scr : Nat → Int32) (call : Nat → List Value → am_H → Option am_X) (lv : am_L) (st : List Value) (h : am_H) : am_f d scr L call 14 (n + 1) 54 lv st h = (match am_ld lv 6 with
    | some (.int x) => am_f d scr L call 14 n 56 lv (.int x :: st) h
    | _ => none) := k_li (i := .iload 6) rfl rfl rfl rfl
theorem s_14_56 (d L n : Nat) (scr : Nat → Int32) (call : Nat → List Value → am_H → Option am_X) (lv : am_L) (st : List Value) (h : am_H) : am_f d scr L call 14 (n + 1) 56 lv st h = (match am_ld lv 0 with
    | some (.ref x) => am_f d scr L call 14 n 57 lv (.ref x :: st) h
    | _ => none) := k_la (i := .aload_n 0) rfl rfl rfl rfl
theorem s_14_57 (d L n : Nat) (scr : Nat → Int32) (call : Nat → List Value → am_H → Option am_X) (lv : am_L) (st : List Value) (h : am_H) (a : Nat) : am_f d scr L call 14 (n + 1) 57 lv (.ref a :: st) h = (match am_get h a 1 0 with
    | some v => am_f d scr L call 14 n 60 lv (v :: st) h
    | none => none) := k_gf (k := 9) rfl rfl
theorem s_14_60 (d L n : Nat) (scr : Nat → Int32) (call : Nat → List Value → am_H → Option am_X) (lv : am_L) (st : List Value) (h : am_H) : am_f d scr L call 14 (n + 1) 60 lv st h = (match am_ld lv 4 with
    | some (.int x) => am_f d scr L call 14 n 62 lv (.int x :: st) h
    | _ => none) := k_li (i := .iload 4) rfl rfl rfl rfl
theorem s_14_62 (d L n : Nat) (scr : Nat → Int32) (call : Nat → List Value → am_H → Option am_X) (lv : am_L) (h : am_H) (o : Nat) (a0 : Int32) (r0 : Int32) : am_f d scr L call 14 (n + 1) 62 lv (.int a0 :: .ref o :: .int r0 :: []) h = if am_at h o 7 = true then (match call 80 [.ref o, .int a0] h with
    | some (v, h', dk, dn) => am_add dk dn (am_f d scr L call 14 n 65 lv (v.toList ++ [.int r0]) h')
    | none => none) else none := k_iv0 (k := 44) (as := [.int a0]) (r := [.int r0]) rfl rfl rfl rfl (Nat.le_of_ble_eq_true rfl)
theorem s_14_65 (d L n : Nat) (scr : Nat → Int32) (call : Nat → List Value → am_H → Option am_X) (lv : am_L) (st : List Value) (h : am_H) (x y : Int32) : am_f d scr L call 14 (n + 1) 65 lv (.int y :: .int x :: st) h = if x = y then am_f d scr L call 14 n 81 lv st h else am_f d scr L call 14 n 68 lv st h := k_ic_eq (o := 16) rfl ⟨by decide, rfl⟩
theorem s_14_68 (d L n : Nat) (scr : Nat → Int32) (call : Nat → List Value → am_H → Option am_X) (lv : am_L) (st : List Value) (h : am_H) : am_f d scr L call 14 (n + 1) 68 lv st h = (match am_ld lv 0 with
    | some (.ref x) => am_f d scr L call 14 n 69 lv (.ref x :: st) h
    | _ => none) := k_la (i := .aload_n 0) rfl rfl rfl rfl
theorem s_14_69 (d L n : Nat) (scr : Nat → Int32) (call : Nat → List Value → am_H → Option am_X) (lv : am_L) (st : List Value) (h : am_H) : am_f d scr L call 14 (n + 1) 69 lv st h = am_f d scr L call 14 n 70 lv (.int 2 :: st) h := k_nx (i := .iconst 2) rfl rfl
theorem s_14_70 (d L n : Nat) (scr : Nat → Int32) (call : Nat → List Value → am_H → Option am_X) (lv : am_L) (st : List Value) (h : am_H) (x : Int32) (a : Nat) : am_f d scr L call 14 (n + 1) 70 lv (.int x :: .ref a :: st) h = (match am_put h a 1 7 (.int x) with
    | some h' => am_f d scr L call 14 n 73 lv st h'
    | none => none) := k_pf (k := 38) rfl rfl rfl
theorem s_14_73 (d L n : Nat) (scr : Nat → Int32) (call : Nat → List Value → am_H → Option am_X) (lv : am_L) (st : List Value) (h : am_H) : am_f d scr L call 14 (n + 1) 73 lv st h = (match am_ld lv 0 with
    | some (.ref x) => am_f d scr L call 14 n 74 lv (.ref x :: st) h
    | _ => none) := k_la (i := .aload_n 0) rfl rfl rfl rfl
theorem s_14_74 (d L n : Nat) (scr : Nat → Int32) (call : Nat → List Value → am_H → Option am_X) (lv : am_L) (st : List Value) (h : am_H) : am_f d scr L call 14 (n + 1) 74 lv st h = (match am_ld lv 5 with
    | some (.int x) => am_f d scr L call 14 n 76 lv (.int x :: st) h
    | _ => none) := k_li (i := .iload 5) rfl rfl rfl rfl
theorem s_14_76 (d L n : Nat) (scr : Nat → Int32) (call : Nat → List Value → am_H → Option am_X) (lv : am_L) (st : List Value) (h : am_H) (x : Int32) (a : Nat) : am_f d scr L call 14 (n + 1) 76 lv (.int x :: .ref a :: st) h = (match am_put h a 1 8 (.int x) with
    | some h' => am_f d scr L call 14 n 79 lv st h'
    | none => none) := k_pf (k := 41) rfl rfl rfl
theorem s_14_79 (d L n : Nat) (scr : Nat → Int32) (call : Nat → List Value → am_H → Option am_X) (lv : am_L) (st : List Value) (h : am_H) : am_f d scr L call 14 (n + 1) 79 lv st h = (match am_ld lv 1 with
    | some (.long x) => am_f d scr L call 14 n 80 lv (.long x :: st) h
    | _ => none) := k_ll (i := .lload_n 1) rfl rfl rfl rfl
theorem s_14_80 (d L n : Nat) (scr : Nat → Int32) (call : Nat → List Value → am_H → Option am_X) (lv : am_L) (h : am_H) (x : Int64) : am_f d scr L call 14 (n + 1) 80 lv [.long x] h = some (some (.long x), h, 0, 0) := k_jr rfl rfl
theorem s_14_81 (d L n : Nat) (scr : Nat → Int32) (call : Nat → List Value → am_H → Option am_X) (lv : am_L) (st : List Value) (h : am_H) : am_f d scr L call 14 (n + 1) 81 lv st h = (match am_ld lv 0 with
    | some (.ref x) => am_f d scr L call 14 n 82 lv (.ref x :: st) h
    | _ => none) := k_la (i := .aload_n 0) rfl rfl rfl rfl
theorem s_14_82 (d L n : Nat) (scr : Nat → Int32) (call : Nat → List Value → am_H → Option am_X) (lv : am_L) (st : List Value) (h : am_H) : am_f d scr L call 14 (n + 1) 82 lv st h = (match am_ld lv 1 with
    | some (.long x) => am_f d scr L call 14 n 83 lv (.long x :: st) h
    | _ => none) := k_ll (i := .lload_n 1) rfl rfl rfl rfl
theorem s_14_83 (d L n : Nat) (scr : Nat → Int32) (call : Nat → List Value → am_H → Option am_X) (lv : am_L) (h : am_H) (a0 : Int64) (r0 : Nat) : am_f d scr L call 14 (n + 1) 83 lv (.long a0 :: .ref r0 :: []) h = (match call 91 [.long a0] h with
    | some (v, h', dk, dn) => am_add dk dn (am_f d scr L call 14 n 86 lv (v.toList ++ [.ref r0]) h')
    | none => none) := k_iv1 (k := 63) (as := [.long a0]) (r := [.ref r0]) rfl rfl rfl rfl (Nat.le_of_ble_eq_true rfl)
theorem s_14_86 (d L n : Nat) (scr : Nat → Int32) (call : Nat → List Value → am_H → Option am_X) (lv : am_L) (st : List Value) (h : am_H) : am_f d scr L call 14 (n + 1) 86 lv st h = (match am_ld lv 6 with
    | some (.int x) => am_f d scr L call 14 n 88 lv (.int x :: st) h
    | _ => none) := k_li (i := .iload 6) rfl rfl rfl rfl
theorem s_14_88 (d L n : Nat) (scr : Nat → Int32) (call : Nat → List Value → am_H → Option am_X) (lv : am_L) (st : List Value) (h : am_H) : am_f d scr L call 14 (n + 1) 88 lv st h = (match am_ld lv 4 with
    | some (.int x) => am_f d scr L call 14 n 90 lv (.int x :: st) h
    | _ => none) := k_li (i := .iload 4) rfl rfl rfl rfl
theorem s_14_90 (d L n : Nat) (scr : Nat → Int32) (call : Nat → List Value → am_H → Option am_X) (lv : am_L) (st : List Value) (h : am_H) : am_f d scr L call 14 (n + 1) 90 lv st h = (match am_ld lv 5 with
    | some (.int x) => am_f d scr L call 14 n 92 lv (.int x :: st) h
    | _ => none) := k_li (i := .iload 5) rfl rfl rfl rfl
theorem s_14_92 (d L n : Nat) (scr : Nat → Int32) (call : Nat → List Value → am_H → Option am_X) (lv : am_L) (h : am_H) (o : Nat) (a0 : Int64) (a1 : Int32) (a2 : Int32) (a3 : Int32)  : am_f d scr L call 14 (n + 1) 92 lv (.int a3 :: .int a2 :: .int a1 :: .long a0 :: .ref o :: []) h = if am_at h o 1 = true then (match call 15 [.ref o, .long a0, .int a1, .int a2, .int a3] h with
    | some (v, h', dk, dn) => am_add dk dn (am_f d scr L call 14 n 95 lv (v.toList ++ []) h')
    | none => none) else none := k_iv0 (k := 50) (as := [.long a0, .int a1, .int a2, .int a3]) (r := []) rfl rfl rfl rfl (Nat.le_of_ble_eq_true rfl)
theorem s_14_95 (d L n : Nat) (scr : Nat → Int32) (call : Nat → List Value → am_H → Option am_X) (lv : am_L) (h : am_H) (x : Int64) : am_f d scr L call 14 (n + 1) 95 lv [.long x] h = some (some (.long x), h, 0, 0) := k_jr rfl rfl
-- 15: BlameDesk$Casts.around(JIII)J
theorem s_15_0 (d L n : Nat) (scr : Nat → Int32) (call : Nat → List Value → am_H → Option am_X) (lv : am_L) (st : List Value) (h : am_H) : am_f d scr L call 15 (n + 1) 0 lv st h = (match am_ld lv 3 with
    | some (.int x) => am_f d scr L call 15 n 1 lv (.int x :: st) h
    | _ => none) := k_li (i := .iload_n 3) rfl rfl rfl rfl
theorem s_15_1 (d L n : Nat) (scr : Nat → Int32) (call : Nat → List Value → am_H → Option am_X) (lv : am_L) (st : List Value) (h : am_H) : am_f d scr L call 15 (n + 1) 1 lv st h = (match am_ld lv 4 with
    | some (.int x) => am_f d scr L call 15 n 3 lv (.int x :: st) h
    | _ => none) := k_li (i := .iload 4) rfl rfl rfl rfl
theorem s_15_3 (d L n : Nat) (scr : Nat → Int32) (call : Nat → List Value → am_H → Option am_X) (lv : am_L) (st : List Value) (h : am_H) (x y : Int32) : am_f d scr L call 15 (n + 1) 3 lv (.int y :: .int x :: st) h = if ¬ x = y then am_f d scr L call 15 n 8 lv st h else am_f d scr L call 15 n 6 lv st h := k_ic_ne (o := 5) rfl ⟨by decide, rfl⟩
theorem s_15_6 (d L n : Nat) (scr : Nat → Int32) (call : Nat → List Value → am_H → Option am_X) (lv : am_L) (st : List Value) (h : am_H) : am_f d scr L call 15 (n + 1) 6 lv st h = (match am_ld lv 1 with
    | some (.long x) => am_f d scr L call 15 n 7 lv (.long x :: st) h
    | _ => none) := k_ll (i := .lload_n 1) rfl rfl rfl rfl
theorem s_15_7 (d L n : Nat) (scr : Nat → Int32) (call : Nat → List Value → am_H → Option am_X) (lv : am_L) (h : am_H) (x : Int64) : am_f d scr L call 15 (n + 1) 7 lv [.long x] h = some (some (.long x), h, 0, 0) := k_jr rfl rfl
theorem s_15_8 (d L n : Nat) (scr : Nat → Int32) (call : Nat → List Value → am_H → Option am_X) (lv : am_L) (st : List Value) (h : am_H) : am_f d scr L call 15 (n + 1) 8 lv st h = (match am_ld lv 0 with
    | some (.ref x) => am_f d scr L call 15 n 9 lv (.ref x :: st) h
    | _ => none) := k_la (i := .aload_n 0) rfl rfl rfl rfl
theorem s_15_9 (d L n : Nat) (scr : Nat → Int32) (call : Nat → List Value → am_H → Option am_X) (lv : am_L) (st : List Value) (h : am_H) (a : Nat) : am_f d scr L call 15 (n + 1) 9 lv (.ref a :: st) h = (match am_get h a 1 6 with
    | some v => am_f d scr L call 15 n 12 lv (v :: st) h
    | none => none) := k_gf (k := 32) rfl rfl
theorem s_15_12 (d L n : Nat) (scr : Nat → Int32) (call : Nat → List Value → am_H → Option am_X) (lv : am_L) (st : List Value) (h : am_H) : am_f d scr L call 15 (n + 1) 12 lv st h = am_f d scr L call 15 n 15 lv (.int 200 :: st) h := k_nx (i := .sipush 200) rfl rfl
theorem s_15_15 (d L n : Nat) (scr : Nat → Int32) (call : Nat → List Value → am_H → Option am_X) (lv : am_L) (st : List Value) (h : am_H) (x y : Int32) : am_f d scr L call 15 (n + 1) 15 lv (.int y :: .int x :: st) h = if x < y then am_f d scr L call 15 n 25 lv st h else am_f d scr L call 15 n 18 lv st h := k_ic_lt (o := 10) rfl ⟨by decide, rfl⟩
theorem s_15_18 (d L n : Nat) (scr : Nat → Int32) (call : Nat → List Value → am_H → Option am_X) (lv : am_L) (st : List Value) (h : am_H) : am_f d scr L call 15 (n + 1) 18 lv st h = (match am_ld lv 0 with
    | some (.ref x) => am_f d scr L call 15 n 19 lv (.ref x :: st) h
    | _ => none) := k_la (i := .aload_n 0) rfl rfl rfl rfl
theorem s_15_19 (d L n : Nat) (scr : Nat → Int32) (call : Nat → List Value → am_H → Option am_X) (lv : am_L) (st : List Value) (h : am_H) : am_f d scr L call 15 (n + 1) 19 lv st h = am_f d scr L call 15 n 20 lv (.int 4 :: st) h := k_nx (i := .iconst 4) rfl rfl
theorem s_15_20 (d L n : Nat) (scr : Nat → Int32) (call : Nat → List Value → am_H → Option am_X) (lv : am_L) (st : List Value) (h : am_H) (x : Int32) (a : Nat) : am_f d scr L call 15 (n + 1) 20 lv (.int x :: .ref a :: st) h = (match am_put h a 1 7 (.int x) with
    | some h' => am_f d scr L call 15 n 23 lv st h'
    | none => none) := k_pf (k := 38) rfl rfl rfl
theorem s_15_23 (d L n : Nat) (scr : Nat → Int32) (call : Nat → List Value → am_H → Option am_X) (lv : am_L) (st : List Value) (h : am_H) : am_f d scr L call 15 (n + 1) 23 lv st h = (match am_ld lv 1 with
    | some (.long x) => am_f d scr L call 15 n 24 lv (.long x :: st) h
    | _ => none) := k_ll (i := .lload_n 1) rfl rfl rfl rfl
theorem s_15_24 (d L n : Nat) (scr : Nat → Int32) (call : Nat → List Value → am_H → Option am_X) (lv : am_L) (h : am_H) (x : Int64) : am_f d scr L call 15 (n + 1) 24 lv [.long x] h = some (some (.long x), h, 0, 0) := k_jr rfl rfl
theorem s_15_25 (d L n : Nat) (scr : Nat → Int32) (call : Nat → List Value → am_H → Option am_X) (lv : am_L) (st : List Value) (h : am_H) : am_f d scr L call 15 (n + 1) 25 lv st h = (match am_ld lv 0 with
    | some (.ref x) => am_f d scr L call 15 n 26 lv (.ref x :: st) h
    | _ => none) := k_la (i := .aload_n 0) rfl rfl rfl rfl
theorem s_15_26 (d L n : Nat) (scr : Nat → Int32) (call : Nat → List Value → am_H → Option am_X) (lv : am_L) (st : List Value) (h : am_H) (a : Nat) : am_f d scr L call 15 (n + 1) 26 lv (.ref a :: st) h = (match am_get h a 1 1 with
    | some v => am_f d scr L call 15 n 29 lv (v :: st) h
    | none => none) := k_gf (k := 15) rfl rfl
theorem s_15_29 (d L n : Nat) (scr : Nat → Int32) (call : Nat → List Value → am_H → Option am_X) (lv : am_L) (st : List Value) (h : am_H) : am_f d scr L call 15 (n + 1) 29 lv st h = (match am_ld lv 0 with
    | some (.ref x) => am_f d scr L call 15 n 30 lv (.ref x :: st) h
    | _ => none) := k_la (i := .aload_n 0) rfl rfl rfl rfl
theorem s_15_30 (d L n : Nat) (scr : Nat → Int32) (call : Nat → List Value → am_H → Option am_X) (lv : am_L) (st : List Value) (h : am_H) (a : Nat) : am_f d scr L call 15 (n + 1) 30 lv (.ref a :: st) h = (match am_get h a 1 6 with
    | some v => am_f d scr L call 15 n 33 lv (v :: st) h
    | none => none) := k_gf (k := 32) rfl rfl
theorem s_15_33 (d L n : Nat) (scr : Nat → Int32) (call : Nat → List Value → am_H → Option am_X) (lv : am_L) (st : List Value) (h : am_H) : am_f d scr L call 15 (n + 1) 33 lv st h = (match am_ld lv 1 with
    | some (.long x) => am_f d scr L call 15 n 34 lv (.long x :: st) h
    | _ => none) := k_ll (i := .lload_n 1) rfl rfl rfl rfl
theorem s_15_34 (d L n : Nat) (scr : Nat → Int32) (call : Nat → List Value → am_H → Option am_X) (lv : am_L) (st : List Value) (h : am_H) (a : Nat) (i : Int32) (x : Int64) : am_f d scr L call 15 (n + 1) 34 lv (.long x :: .int i :: .ref a :: st) h = (match am_lst h a i x with
    | some h' => am_f d scr L call 15 n 35 lv st h'
    | none => none) := k_js rfl
theorem s_15_35 (d L n : Nat) (scr : Nat → Int32) (call : Nat → List Value → am_H → Option am_X) (lv : am_L) (st : List Value) (h : am_H) : am_f d scr L call 15 (n + 1) 35 lv st h = (match am_ld lv 0 with
    | some (.ref x) => am_f d scr L call 15 n 36 lv (.ref x :: st) h
    | _ => none) := k_la (i := .aload_n 0) rfl rfl rfl rfl
theorem s_15_36 (d L n : Nat) (scr : Nat → Int32) (call : Nat → List Value → am_H → Option am_X) (lv : am_L) (st : List Value) (h : am_H) (a : Nat) : am_f d scr L call 15 (n + 1) 36 lv (.ref a :: st) h = (match am_get h a 1 2 with
    | some v => am_f d scr L call 15 n 39 lv (v :: st) h
    | none => none) := k_gf (k := 19) rfl rfl
theorem s_15_39 (d L n : Nat) (scr : Nat → Int32) (call : Nat → List Value → am_H → Option am_X) (lv : am_L) (st : List Value) (h : am_H) : am_f d scr L call 15 (n + 1) 39 lv st h = (match am_ld lv 0 with
    | some (.ref x) => am_f d scr L call 15 n 40 lv (.ref x :: st) h
    | _ => none) := k_la (i := .aload_n 0) rfl rfl rfl rfl
theorem s_15_40 (d L n : Nat) (scr : Nat → Int32) (call : Nat → List Value → am_H → Option am_X) (lv : am_L) (st : List Value) (h : am_H) (a : Nat) : am_f d scr L call 15 (n + 1) 40 lv (.ref a :: st) h = (match am_get h a 1 6 with
    | some v => am_f d scr L call 15 n 43 lv (v :: st) h
    | none => none) := k_gf (k := 32) rfl rfl
theorem s_15_43 (d L n : Nat) (scr : Nat → Int32) (call : Nat → List Value → am_H → Option am_X) (lv : am_L) (st : List Value) (h : am_H) : am_f d scr L call 15 (n + 1) 43 lv st h = (match am_ld lv 3 with
    | some (.int x) => am_f d scr L call 15 n 44 lv (.int x :: st) h
    | _ => none) := k_li (i := .iload_n 3) rfl rfl rfl rfl
theorem s_15_44 (d L n : Nat) (scr : Nat → Int32) (call : Nat → List Value → am_H → Option am_X) (lv : am_L) (st : List Value) (h : am_H) (a : Nat) (i : Int32) (x : Int32) : am_f d scr L call 15 (n + 1) 44 lv (.int x :: .int i :: .ref a :: st) h = (match am_ist h a i x with
    | some h' => am_f d scr L call 15 n 45 lv st h'
    | none => none) := k_is rfl
theorem s_15_45 (d L n : Nat) (scr : Nat → Int32) (call : Nat → List Value → am_H → Option am_X) (lv : am_L) (st : List Value) (h : am_H) : am_f d scr L call 15 (n + 1) 45 lv st h = (match am_ld lv 0 with
    | some (.ref x) => am_f d scr L call 15 n 46 lv (.ref x :: st) h
    | _ => none) := k_la (i := .aload_n 0) rfl rfl rfl rfl
theorem s_15_46 (d L n : Nat) (scr : Nat → Int32) (call : Nat → List Value → am_H → Option am_X) (lv : am_L) (st : List Value) (h : am_H) (a : Nat) : am_f d scr L call 15 (n + 1) 46 lv (.ref a :: st) h = (match am_get h a 1 3 with
    | some v => am_f d scr L call 15 n 49 lv (v :: st) h
    | none => none) := k_gf (k := 23) rfl rfl
theorem s_15_49 (d L n : Nat) (scr : Nat → Int32) (call : Nat → List Value → am_H → Option am_X) (lv : am_L) (st : List Value) (h : am_H) : am_f d scr L call 15 (n + 1) 49 lv st h = (match am_ld lv 0 with
    | some (.ref x) => am_f d scr L call 15 n 50 lv (.ref x :: st) h
    | _ => none) := k_la (i := .aload_n 0) rfl rfl rfl rfl
theorem s_15_50 (d L n : Nat) (scr : Nat → Int32) (call : Nat → List Value → am_H → Option am_X) (lv : am_L) (st : List Value) (h : am_H) (a : Nat) : am_f d scr L call 15 (n + 1) 50 lv (.ref a :: st) h = (match am_get h a 1 6 with
    | some v => am_f d scr L call 15 n 53 lv (v :: st) h
    | none => none) := k_gf (k := 32) rfl rfl
theorem s_15_53 (d L n : Nat) (scr : Nat → Int32) (call : Nat → List Value → am_H → Option am_X) (lv : am_L) (st : List Value) (h : am_H) : am_f d scr L call 15 (n + 1) 53 lv st h = (match am_ld lv 4 with
    | some (.int x) => am_f d scr L call 15 n 55 lv (.int x :: st) h
    | _ => none) := k_li (i := .iload 4) rfl rfl rfl rfl
theorem s_15_55 (d L n : Nat) (scr : Nat → Int32) (call : Nat → List Value → am_H → Option am_X) (lv : am_L) (st : List Value) (h : am_H) (a : Nat) (i : Int32) (x : Int32) : am_f d scr L call 15 (n + 1) 55 lv (.int x :: .int i :: .ref a :: st) h = (match am_ist h a i x with
    | some h' => am_f d scr L call 15 n 56 lv st h'
    | none => none) := k_is rfl
theorem s_15_56 (d L n : Nat) (scr : Nat → Int32) (call : Nat → List Value → am_H → Option am_X) (lv : am_L) (st : List Value) (h : am_H) : am_f d scr L call 15 (n + 1) 56 lv st h = (match am_ld lv 0 with
    | some (.ref x) => am_f d scr L call 15 n 57 lv (.ref x :: st) h
    | _ => none) := k_la (i := .aload_n 0) rfl rfl rfl rfl
theorem s_15_57 (d L n : Nat) (scr : Nat → Int32) (call : Nat → List Value → am_H → Option am_X) (lv : am_L) (st : List Value) (h : am_H) (a : Nat) : am_f d scr L call 15 (n + 1) 57 lv (.ref a :: st) h = (match am_get h a 1 4 with
    | some v => am_f d scr L call 15 n 60 lv (v :: st) h
    | none => none) := k_gf (k := 26) rfl rfl
theorem s_15_60 (d L n : Nat) (scr : Nat → Int32) (call : Nat → List Value → am_H → Option am_X) (lv : am_L) (st : List Value) (h : am_H) : am_f d scr L call 15 (n + 1) 60 lv st h = (match am_ld lv 0 with
    | some (.ref x) => am_f d scr L call 15 n 61 lv (.ref x :: st) h
    | _ => none) := k_la (i := .aload_n 0) rfl rfl rfl rfl
theorem s_15_61 (d L n : Nat) (scr : Nat → Int32) (call : Nat → List Value → am_H → Option am_X) (lv : am_L) (st : List Value) (h : am_H) (a : Nat) : am_f d scr L call 15 (n + 1) 61 lv (.ref a :: st) h = (match am_get h a 1 6 with
    | some v => am_f d scr L call 15 n 64 lv (v :: st) h
    | none => none) := k_gf (k := 32) rfl rfl
theorem s_15_64 (d L n : Nat) (scr : Nat → Int32) (call : Nat → List Value → am_H → Option am_X) (lv : am_L) (st : List Value) (h : am_H) : am_f d scr L call 15 (n + 1) 64 lv st h = (match am_ld lv 5 with
    | some (.int x) => am_f d scr L call 15 n 66 lv (.int x :: st) h
    | _ => none) := k_li (i := .iload 5) rfl rfl rfl rfl
theorem s_15_66 (d L n : Nat) (scr : Nat → Int32) (call : Nat → List Value → am_H → Option am_X) (lv : am_L) (st : List Value) (h : am_H) (a : Nat) (i : Int32) (x : Int32) : am_f d scr L call 15 (n + 1) 66 lv (.int x :: .int i :: .ref a :: st) h = (match am_ist h a i x with
    | some h' => am_f d scr L call 15 n 67 lv st h'
    | none => none) := k_is rfl
theorem s_15_67 (d L n : Nat) (scr : Nat → Int32) (call : Nat → List Value → am_H → Option am_X) (lv : am_L) (st : List Value) (h : am_H) : am_f d scr L call 15 (n + 1) 67 lv st h = (match am_ld lv 0 with
    | some (.ref x) => am_f d scr L call 15 n 68 lv (.ref x :: st) h
    | _ => none) := k_la (i := .aload_n 0) rfl rfl rfl rfl
theorem s_15_68 (d L n : Nat) (scr : Nat → Int32) (call : Nat → List Value → am_H → Option am_X) (lv : am_L) (st : List Value) (h : am_H) (x : Nat) : am_f d scr L call 15 (n + 1) 68 lv (.ref x :: st) h = am_f d scr L call 15 n 69 lv (.ref x :: .ref x :: st) h := k_nx (i := .dup) rfl rfl
theorem s_15_69 (d L n : Nat) (scr : Nat → Int32) (call : Nat → List Value → am_H → Option am_X) (lv : am_L) (st : List Value) (h : am_H) (a : Nat) : am_f d scr L call 15 (n + 1) 69 lv (.ref a :: st) h = (match am_get h a 1 6 with
    | some v => am_f d scr L call 15 n 72 lv (v :: st) h
    | none => none) := k_gf (k := 32) rfl rfl
theorem s_15_72 (d L n : Nat) (scr : Nat → Int32) (call : Nat → List Value → am_H → Option am_X) (lv : am_L) (st : List Value) (h : am_H) : am_f d scr L call 15 (n + 1) 72 lv st h = am_f d scr L call 15 n 73 lv (.int 1 :: st) h := k_nx (i := .iconst 1) rfl rfl
theorem s_15_73 (d L n : Nat) (scr : Nat → Int32) (call : Nat → List Value → am_H → Option am_X) (lv : am_L) (st : List Value) (h : am_H) (x y : Int32) : am_f d scr L call 15 (n + 1) 73 lv (.int y :: .int x :: st) h = am_f d scr L call 15 n 74 lv (.int (x + y) :: st) h := k_nx (i := .iadd) rfl rfl
theorem s_15_74 (d L n : Nat) (scr : Nat → Int32) (call : Nat → List Value → am_H → Option am_X) (lv : am_L) (st : List Value) (h : am_H) (x : Int32) (a : Nat) : am_f d scr L call 15 (n + 1) 74 lv (.int x :: .ref a :: st) h = (match am_put h a 1 6 (.int x) with
    | some h' => am_f d scr L call 15 n 77 lv st h'
    | none => none) := k_pf (k := 32) rfl rfl rfl
theorem s_15_77 (d L n : Nat) (scr : Nat → Int32) (call : Nat → List Value → am_H → Option am_X) (lv : am_L) (st : List Value) (h : am_H) : am_f d scr L call 15 (n + 1) 77 lv st h = (match am_ld lv 1 with
    | some (.long x) => am_f d scr L call 15 n 78 lv (.long x :: st) h
    | _ => none) := k_ll (i := .lload_n 1) rfl rfl rfl rfl
theorem s_15_78 (d L n : Nat) (scr : Nat → Int32) (call : Nat → List Value → am_H → Option am_X) (lv : am_L) (h : am_H) (a0 : Int64)  : am_f d scr L call 15 (n + 1) 78 lv (.long a0 :: []) h = (match call 86 [.long a0] h with
    | some (v, h', dk, dn) => am_add dk dn (am_f d scr L call 15 n 81 lv (v.toList ++ []) h')
    | none => none) := k_iv1 (k := 66) (as := [.long a0]) (r := []) rfl rfl rfl rfl (Nat.le_of_ble_eq_true rfl)
theorem s_15_81 (d L n : Nat) (scr : Nat → Int32) (call : Nat → List Value → am_H → Option am_X) (lv : am_L) (st : List Value) (h : am_H) : am_f d scr L call 15 (n + 1) 81 lv st h = (match am_ld lv 0 with
    | some (.ref x) => am_f d scr L call 15 n 82 lv (.ref x :: st) h
    | _ => none) := k_la (i := .aload_n 0) rfl rfl rfl rfl
theorem s_15_82 (d L n : Nat) (scr : Nat → Int32) (call : Nat → List Value → am_H → Option am_X) (lv : am_L) (st : List Value) (h : am_H) (a : Nat) : am_f d scr L call 15 (n + 1) 82 lv (.ref a :: st) h = (match am_get h a 1 6 with
    | some v => am_f d scr L call 15 n 85 lv (v :: st) h
    | none => none) := k_gf (k := 32) rfl rfl
theorem s_15_85 (d L n : Nat) (scr : Nat → Int32) (call : Nat → List Value → am_H → Option am_X) (lv : am_L) (st : List Value) (h : am_H) : am_f d scr L call 15 (n + 1) 85 lv st h = am_f d scr L call 15 n 86 lv (.int 1 :: st) h := k_nx (i := .iconst 1) rfl rfl
theorem s_15_86 (d L n : Nat) (scr : Nat → Int32) (call : Nat → List Value → am_H → Option am_X) (lv : am_L) (st : List Value) (h : am_H) (x y : Int32) : am_f d scr L call 15 (n + 1) 86 lv (.int y :: .int x :: st) h = am_f d scr L call 15 n 87 lv (.int (x - y) :: st) h := k_nx (i := .isub) rfl rfl
theorem s_15_87 (d L n : Nat) (scr : Nat → Int32) (call : Nat → List Value → am_H → Option am_X) (lv : am_L) (h : am_H) (a0 : Int32) (a1 : Int32)  : am_f d scr L call 15 (n + 1) 87 lv (.int a1 :: .int a0 :: []) h = (match call 85 [.int a0, .int a1] h with
    | some (v, h', dk, dn) => am_add dk dn (am_f d scr L call 15 n 90 lv (v.toList ++ []) h')
    | none => none) := k_iv1 (k := 69) (as := [.int a0, .int a1]) (r := []) rfl rfl rfl rfl (Nat.le_of_ble_eq_true rfl)
theorem s_15_90 (d L n : Nat) (scr : Nat → Int32) (call : Nat → List Value → am_H → Option am_X) (lv : am_L) (h : am_H) (x : Int64) : am_f d scr L call 15 (n + 1) 90 lv [.long x] h = some (some (.long x), h, 0, 0) := k_jr rfl rfl
-- 16: BlameDesk$Casts.core(J)J
theorem s_16_0 (d L n : Nat) (scr : Nat → Int32) (call : Nat → List Value → am_H → Option am_X) (lv : am_L) (st : List Value) (h : am_H) : am_f d scr L call 16 (n + 1) 0 lv st h = (match am_ld lv 1 with
    | some (.long x) => am_f d scr L call 16 n 1 lv (.long x :: st) h
    | _ => none) := k_ll (i := .lload_n 1) rfl rfl rfl rfl
theorem s_16_1 (d L n : Nat) (scr : Nat → Int32) (call : Nat → List Value → am_H → Option am_X) (lv : am_L) (st : List Value) (h : am_H) (x : Int64) : am_f d scr L call 16 (n + 1) 1 lv (.long x :: st) h = am_f d scr L call 16 n 2 (am_st2 lv 3 (.long x)) st h := k_nx (i := .lstore_n 3) rfl rfl
theorem s_16_2 (d L n : Nat) (scr : Nat → Int32) (call : Nat → List Value → am_H → Option am_X) (lv : am_L) (st : List Value) (h : am_H) : am_f d scr L call 16 (n + 1) 2 lv st h = am_f d scr L call 16 n 3 lv (.int 0 :: st) h := k_nx (i := .iconst 0) rfl rfl
theorem s_16_3 (d L n : Nat) (scr : Nat → Int32) (call : Nat → List Value → am_H → Option am_X) (lv : am_L) (st : List Value) (h : am_H) (x : Int32) : am_f d scr L call 16 (n + 1) 3 lv (.int x :: st) h = am_f d scr L call 16 n 5 (am_st1 lv 5 (.int x)) st h := k_nx (i := .istore 5) rfl rfl
theorem s_16_5 (d L n : Nat) (scr : Nat → Int32) (call : Nat → List Value → am_H → Option am_X) (lv : am_L) (st : List Value) (h : am_H) : am_f d scr L call 16 (n + 1) 5 lv st h = (match am_ld lv 5 with
    | some (.int x) => am_f d scr L call 16 n 7 lv (.int x :: st) h
    | _ => none) := k_li (i := .iload 5) rfl rfl rfl rfl
theorem s_16_7 (d L n : Nat) (scr : Nat → Int32) (call : Nat → List Value → am_H → Option am_X) (lv : am_L) (st : List Value) (h : am_H) : am_f d scr L call 16 (n + 1) 7 lv st h = am_f d scr L call 16 n 10 lv (.int 200 :: st) h := k_nx (i := .sipush 200) rfl rfl
theorem s_16_10 (d L n : Nat) (scr : Nat → Int32) (call : Nat → List Value → am_H → Option am_X) (lv : am_L) (st : List Value) (h : am_H) (x y : Int32) : am_f d scr L call 16 (n + 1) 10 lv (.int y :: .int x :: st) h = if y ≤ x then am_f d scr L call 16 n 36 lv st h else am_f d scr L call 16 n 13 lv st h := k_ic_ge (o := 26) rfl ⟨by decide, rfl⟩
theorem s_16_13 (d L n : Nat) (scr : Nat → Int32) (call : Nat → List Value → am_H → Option am_X) (lv : am_L) (st : List Value) (h : am_H) : am_f d scr L call 16 (n + 1) 13 lv st h = (match am_ld lv 3 with
    | some (.long x) => am_f d scr L call 16 n 14 lv (.long x :: st) h
    | _ => none) := k_ll (i := .lload_n 3) rfl rfl rfl rfl
theorem s_16_14 (d L n : Nat) (scr : Nat → Int32) (call : Nat → List Value → am_H → Option am_X) (lv : am_L) (h : am_H) (a0 : Int64)  : am_f d scr L call 16 (n + 1) 14 lv (.long a0 :: []) h = (match call 88 [.long a0] h with
    | some (v, h', dk, dn) => am_add dk dn (am_f d scr L call 16 n 17 lv (v.toList ++ []) h')
    | none => none) := k_iv1 (k := 73) (as := [.long a0]) (r := []) rfl rfl rfl rfl (Nat.le_of_ble_eq_true rfl)
theorem s_16_17 (d L n : Nat) (scr : Nat → Int32) (call : Nat → List Value → am_H → Option am_X) (lv : am_L) (st : List Value) (h : am_H) (x : Int32) : am_f d scr L call 16 (n + 1) 17 lv (.int x :: st) h = if x = 0 then am_f d scr L call 16 n 36 lv st h else am_f d scr L call 16 n 20 lv st h := k_if_eq (o := 19) rfl ⟨by decide, rfl⟩
theorem s_16_20 (d L n : Nat) (scr : Nat → Int32) (call : Nat → List Value → am_H → Option am_X) (lv : am_L) (st : List Value) (h : am_H) : am_f d scr L call 16 (n + 1) 20 lv st h = (match am_ld lv 0 with
    | some (.ref x) => am_f d scr L call 16 n 21 lv (.ref x :: st) h
    | _ => none) := k_la (i := .aload_n 0) rfl rfl rfl rfl
theorem s_16_21 (d L n : Nat) (scr : Nat → Int32) (call : Nat → List Value → am_H → Option am_X) (lv : am_L) (st : List Value) (h : am_H) (a : Nat) : am_f d scr L call 16 (n + 1) 21 lv (.ref a :: st) h = (match am_get h a 1 1 with
    | some v => am_f d scr L call 16 n 24 lv (v :: st) h
    | none => none) := k_gf (k := 15) rfl rfl
theorem s_16_24 (d L n : Nat) (scr : Nat → Int32) (call : Nat → List Value → am_H → Option am_X) (lv : am_L) (st : List Value) (h : am_H) : am_f d scr L call 16 (n + 1) 24 lv st h = (match am_ld lv 3 with
    | some (.long x) => am_f d scr L call 16 n 25 lv (.long x :: st) h
    | _ => none) := k_ll (i := .lload_n 3) rfl rfl rfl rfl
theorem s_16_25 (d L n : Nat) (scr : Nat → Int32) (call : Nat → List Value → am_H → Option am_X) (lv : am_L) (h : am_H) (a0 : Int64) (r0 : Nat) : am_f d scr L call 16 (n + 1) 25 lv (.long a0 :: .ref r0 :: []) h = (match call 87 [.long a0] h with
    | some (v, h', dk, dn) => am_add dk dn (am_f d scr L call 16 n 28 lv (v.toList ++ [.ref r0]) h')
    | none => none) := k_iv1 (k := 77) (as := [.long a0]) (r := [.ref r0]) rfl rfl rfl rfl (Nat.le_of_ble_eq_true rfl)
theorem s_16_28 (d L n : Nat) (scr : Nat → Int32) (call : Nat → List Value → am_H → Option am_X) (lv : am_L) (st : List Value) (h : am_H) (a : Nat) (i : Int32) : am_f d scr L call 16 (n + 1) 28 lv (.int i :: .ref a :: st) h = (match am_lld h a i with
    | some x => am_f d scr L call 16 n 29 lv (.long x :: st) h
    | none => none) := k_ja rfl
theorem s_16_29 (d L n : Nat) (scr : Nat → Int32) (call : Nat → List Value → am_H → Option am_X) (lv : am_L) (st : List Value) (h : am_H) (x : Int64) : am_f d scr L call 16 (n + 1) 29 lv (.long x :: st) h = am_f d scr L call 16 n 30 (am_st2 lv 3 (.long x)) st h := k_nx (i := .lstore_n 3) rfl rfl
theorem s_16_30 (d L n : Nat) (scr : Nat → Int32) (call : Nat → List Value → am_H → Option am_X) (lv : am_L) (st : List Value) (h : am_H) : am_f d scr L call 16 (n + 1) 30 lv st h = (match am_ld lv 5 with
    | some (.int x) => am_f d scr L call 16 n 33 (am_st1 lv 5 (.int (x + 1))) st h
    | _ => none) := k_iinc (k := 5) (c := 1) rfl rfl (Nat.le_of_ble_eq_true rfl)
theorem s_16_33 (d L n : Nat) (scr : Nat → Int32) (call : Nat → List Value → am_H → Option am_X) (lv : am_L) (st : List Value) (h : am_H) : am_f d scr L call 16 (n + 1) 33 lv st h = am_f d scr L call 16 n 5 lv st h := k_nx (i := .goto (-28)) rfl rfl
theorem s_16_36 (d L n : Nat) (scr : Nat → Int32) (call : Nat → List Value → am_H → Option am_X) (lv : am_L) (st : List Value) (h : am_H) : am_f d scr L call 16 (n + 1) 36 lv st h = (match am_ld lv 3 with
    | some (.long x) => am_f d scr L call 16 n 37 lv (.long x :: st) h
    | _ => none) := k_ll (i := .lload_n 3) rfl rfl rfl rfl
theorem s_16_37 (d L n : Nat) (scr : Nat → Int32) (call : Nat → List Value → am_H → Option am_X) (lv : am_L) (h : am_H) (x : Int64) : am_f d scr L call 16 (n + 1) 37 lv [.long x] h = some (some (.long x), h, 0, 0) := k_jr rfl rfl
-- 17: BlameDesk$Casts.inward(JJ)J
theorem s_17_0 (d L n : Nat) (scr : Nat → Int32) (call : Nat → List Value → am_H → Option am_X) (lv : am_L) (st : List Value) (h : am_H) : am_f d scr L call 17 (n + 1) 0 lv st h = (match am_ld lv 1 with
    | some (.long x) => am_f d scr L call 17 n 1 lv (.long x :: st) h
    | _ => none) := k_ll (i := .lload_n 1) rfl rfl rfl rfl
theorem s_17_1 (d L n : Nat) (scr : Nat → Int32) (call : Nat → List Value → am_H → Option am_X) (lv : am_L) (st : List Value) (h : am_H) (x : Int64) : am_f d scr L call 17 (n + 1) 1 lv (.long x :: st) h = am_f d scr L call 17 n 3 (am_st2 lv 5 (.long x)) st h := k_nx (i := .lstore 5) rfl rfl
theorem s_17_3 (d L n : Nat) (scr : Nat → Int32) (call : Nat → List Value → am_H → Option am_X) (lv : am_L) (st : List Value) (h : am_H) : am_f d scr L call 17 (n + 1) 3 lv st h = (match am_ld lv 3 with
    | some (.long x) => am_f d scr L call 17 n 4 lv (.long x :: st) h
    | _ => none) := k_ll (i := .lload_n 3) rfl rfl rfl rfl
theorem s_17_4 (d L n : Nat) (scr : Nat → Int32) (call : Nat → List Value → am_H → Option am_X) (lv : am_L) (st : List Value) (h : am_H) (x : Int64) : am_f d scr L call 17 (n + 1) 4 lv (.long x :: st) h = am_f d scr L call 17 n 6 (am_st2 lv 7 (.long x)) st h := k_nx (i := .lstore 7) rfl rfl
theorem s_17_6 (d L n : Nat) (scr : Nat → Int32) (call : Nat → List Value → am_H → Option am_X) (lv : am_L) (st : List Value) (h : am_H) : am_f d scr L call 17 (n + 1) 6 lv st h = am_f d scr L call 17 n 7 lv (.int 0 :: st) h := k_nx (i := .iconst 0) rfl rfl
theorem s_17_7 (d L n : Nat) (scr : Nat → Int32) (call : Nat → List Value → am_H → Option am_X) (lv : am_L) (st : List Value) (h : am_H) (x : Int32) : am_f d scr L call 17 (n + 1) 7 lv (.int x :: st) h = am_f d scr L call 17 n 9 (am_st1 lv 9 (.int x)) st h := k_nx (i := .istore 9) rfl rfl
theorem s_17_9 (d L n : Nat) (scr : Nat → Int32) (call : Nat → List Value → am_H → Option am_X) (lv : am_L) (st : List Value) (h : am_H) : am_f d scr L call 17 (n + 1) 9 lv st h = (match am_ld lv 9 with
    | some (.int x) => am_f d scr L call 17 n 11 lv (.int x :: st) h
    | _ => none) := k_li (i := .iload 9) rfl rfl rfl rfl
theorem s_17_11 (d L n : Nat) (scr : Nat → Int32) (call : Nat → List Value → am_H → Option am_X) (lv : am_L) (st : List Value) (h : am_H) : am_f d scr L call 17 (n + 1) 11 lv st h = am_f d scr L call 17 n 14 lv (.int 200 :: st) h := k_nx (i := .sipush 200) rfl rfl
theorem s_17_14 (d L n : Nat) (scr : Nat → Int32) (call : Nat → List Value → am_H → Option am_X) (lv : am_L) (st : List Value) (h : am_H) (x y : Int32) : am_f d scr L call 17 (n + 1) 14 lv (.int y :: .int x :: st) h = if y ≤ x then am_f d scr L call 17 n 103 lv st h else am_f d scr L call 17 n 17 lv st h := k_ic_ge (o := 89) rfl ⟨by decide, rfl⟩
theorem s_17_17 (d L n : Nat) (scr : Nat → Int32) (call : Nat → List Value → am_H → Option am_X) (lv : am_L) (st : List Value) (h : am_H) : am_f d scr L call 17 (n + 1) 17 lv st h = (match am_ld lv 0 with
    | some (.ref x) => am_f d scr L call 17 n 18 lv (.ref x :: st) h
    | _ => none) := k_la (i := .aload_n 0) rfl rfl rfl rfl
theorem s_17_18 (d L n : Nat) (scr : Nat → Int32) (call : Nat → List Value → am_H → Option am_X) (lv : am_L) (st : List Value) (h : am_H) (a : Nat) : am_f d scr L call 17 (n + 1) 18 lv (.ref a :: st) h = (match am_get h a 1 7 with
    | some v => am_f d scr L call 17 n 21 lv (v :: st) h
    | none => none) := k_gf (k := 38) rfl rfl
theorem s_17_21 (d L n : Nat) (scr : Nat → Int32) (call : Nat → List Value → am_H → Option am_X) (lv : am_L) (st : List Value) (h : am_H) : am_f d scr L call 17 (n + 1) 21 lv st h = am_f d scr L call 17 n 23 lv (.int 6 :: st) h := k_nx (i := .bipush 6) rfl rfl
theorem s_17_23 (d L n : Nat) (scr : Nat → Int32) (call : Nat → List Value → am_H → Option am_X) (lv : am_L) (st : List Value) (h : am_H) (x y : Int32) : am_f d scr L call 17 (n + 1) 23 lv (.int y :: .int x :: st) h = if ¬ x = y then am_f d scr L call 17 n 103 lv st h else am_f d scr L call 17 n 26 lv st h := k_ic_ne (o := 80) rfl ⟨by decide, rfl⟩
theorem s_17_26 (d L n : Nat) (scr : Nat → Int32) (call : Nat → List Value → am_H → Option am_X) (lv : am_L) (st : List Value) (h : am_H) : am_f d scr L call 17 (n + 1) 26 lv st h = (match am_ld lv 5 with
    | some (.long x) => am_f d scr L call 17 n 28 lv (.long x :: st) h
    | _ => none) := k_ll (i := .lload 5) rfl rfl rfl rfl
theorem s_17_28 (d L n : Nat) (scr : Nat → Int32) (call : Nat → List Value → am_H → Option am_X) (lv : am_L) (h : am_H) (a0 : Int64)  : am_f d scr L call 17 (n + 1) 28 lv (.long a0 :: []) h = (match call 88 [.long a0] h with
    | some (v, h', dk, dn) => am_add dk dn (am_f d scr L call 17 n 31 lv (v.toList ++ []) h')
    | none => none) := k_iv1 (k := 73) (as := [.long a0]) (r := []) rfl rfl rfl rfl (Nat.le_of_ble_eq_true rfl)
theorem s_17_31 (d L n : Nat) (scr : Nat → Int32) (call : Nat → List Value → am_H → Option am_X) (lv : am_L) (st : List Value) (h : am_H) (x : Int32) : am_f d scr L call 17 (n + 1) 31 lv (.int x :: st) h = if x = 0 then am_f d scr L call 17 n 103 lv st h else am_f d scr L call 17 n 34 lv st h := k_if_eq (o := 72) rfl ⟨by decide, rfl⟩
theorem s_17_34 (d L n : Nat) (scr : Nat → Int32) (call : Nat → List Value → am_H → Option am_X) (lv : am_L) (st : List Value) (h : am_H) : am_f d scr L call 17 (n + 1) 34 lv st h = (match am_ld lv 5 with
    | some (.long x) => am_f d scr L call 17 n 36 lv (.long x :: st) h
    | _ => none) := k_ll (i := .lload 5) rfl rfl rfl rfl
theorem s_17_36 (d L n : Nat) (scr : Nat → Int32) (call : Nat → List Value → am_H → Option am_X) (lv : am_L) (h : am_H) (a0 : Int64)  : am_f d scr L call 17 (n + 1) 36 lv (.long a0 :: []) h = (match call 87 [.long a0] h with
    | some (v, h', dk, dn) => am_add dk dn (am_f d scr L call 17 n 39 lv (v.toList ++ []) h')
    | none => none) := k_iv1 (k := 77) (as := [.long a0]) (r := []) rfl rfl rfl rfl (Nat.le_of_ble_eq_true rfl)
theorem s_17_39 (d L n : Nat) (scr : Nat → Int32) (call : Nat → List Value → am_H → Option am_X) (lv : am_L) (st : List Value) (h : am_H) (x : Int32) : am_f d scr L call 17 (n + 1) 39 lv (.int x :: st) h = am_f d scr L call 17 n 41 (am_st1 lv 10 (.int x)) st h := k_nx (i := .istore 10) rfl rfl
theorem s_17_41 (d L n : Nat) (scr : Nat → Int32) (call : Nat → List Value → am_H → Option am_X) (lv : am_L) (st : List Value) (h : am_H) : am_f d scr L call 17 (n + 1) 41 lv st h = (match am_ld lv 0 with
    | some (.ref x) => am_f d scr L call 17 n 42 lv (.ref x :: st) h
    | _ => none) := k_la (i := .aload_n 0) rfl rfl rfl rfl
theorem s_17_42 (d L n : Nat) (scr : Nat → Int32) (call : Nat → List Value → am_H → Option am_X) (lv : am_L) (st : List Value) (h : am_H) : am_f d scr L call 17 (n + 1) 42 lv st h = (match am_ld lv 7 with
    | some (.long x) => am_f d scr L call 17 n 44 lv (.long x :: st) h
    | _ => none) := k_ll (i := .lload 7) rfl rfl rfl rfl
theorem s_17_44 (d L n : Nat) (scr : Nat → Int32) (call : Nat → List Value → am_H → Option am_X) (lv : am_L) (st : List Value) (h : am_H) : am_f d scr L call 17 (n + 1) 44 lv st h = (match am_ld lv 0 with
    | some (.ref x) => am_f d scr L call 17 n 45 lv (.ref x :: st) h
    | _ => none) := k_la (i := .aload_n 0) rfl rfl rfl rfl
theorem s_17_45 (d L n : Nat) (scr : Nat → Int32) (call : Nat → List Value → am_H → Option am_X) (lv : am_L) (st : List Value) (h : am_H) (a : Nat) : am_f d scr L call 17 (n + 1) 45 lv (.ref a :: st) h = (match am_get h a 1 0 with
    | some v => am_f d scr L call 17 n 48 lv (v :: st) h
    | none => none) := k_gf (k := 9) rfl rfl
theorem s_17_48 (d L n : Nat) (scr : Nat → Int32) (call : Nat → List Value → am_H → Option am_X) (lv : am_L) (st : List Value) (h : am_H) (a : Nat) : am_f d scr L call 17 (n + 1) 48 lv (.ref a :: st) h = (match am_get h a 7 1 with
    | some v => am_f d scr L call 17 n 51 lv (v :: st) h
    | none => none) := k_gf (k := 80) rfl rfl
theorem s_17_51 (d L n : Nat) (scr : Nat → Int32) (call : Nat → List Value → am_H → Option am_X) (lv : am_L) (st : List Value) (h : am_H) : am_f d scr L call 17 (n + 1) 51 lv st h = (match am_ld lv 0 with
    | some (.ref x) => am_f d scr L call 17 n 52 lv (.ref x :: st) h
    | _ => none) := k_la (i := .aload_n 0) rfl rfl rfl rfl
theorem s_17_52 (d L n : Nat) (scr : Nat → Int32) (call : Nat → List Value → am_H → Option am_X) (lv : am_L) (st : List Value) (h : am_H) (a : Nat) : am_f d scr L call 17 (n + 1) 52 lv (.ref a :: st) h = (match am_get h a 1 3 with
    | some v => am_f d scr L call 17 n 55 lv (v :: st) h
    | none => none) := k_gf (k := 23) rfl rfl
theorem s_17_55 (d L n : Nat) (scr : Nat → Int32) (call : Nat → List Value → am_H → Option am_X) (lv : am_L) (st : List Value) (h : am_H) : am_f d scr L call 17 (n + 1) 55 lv st h = (match am_ld lv 10 with
    | some (.int x) => am_f d scr L call 17 n 57 lv (.int x :: st) h
    | _ => none) := k_li (i := .iload 10) rfl rfl rfl rfl
theorem s_17_57 (d L n : Nat) (scr : Nat → Int32) (call : Nat → List Value → am_H → Option am_X) (lv : am_L) (st : List Value) (h : am_H) (a : Nat) (i : Int32) : am_f d scr L call 17 (n + 1) 57 lv (.int i :: .ref a :: st) h = (match am_ild scr L h a i with
    | some x => am_f d scr L call 17 n 58 lv (.int x :: st) h
    | none => none) := k_ia rfl
theorem s_17_58 (d L n : Nat) (scr : Nat → Int32) (call : Nat → List Value → am_H → Option am_X) (lv : am_L) (st : List Value) (h : am_H) (a : Nat) (i : Int32) : am_f d scr L call 17 (n + 1) 58 lv (.int i :: .ref a :: st) h = (match am_ild scr L h a i with
    | some x => am_f d scr L call 17 n 59 lv (.int x :: st) h
    | none => none) := k_ia rfl
theorem s_17_59 (d L n : Nat) (scr : Nat → Int32) (call : Nat → List Value → am_H → Option am_X) (lv : am_L) (st : List Value) (h : am_H) : am_f d scr L call 17 (n + 1) 59 lv st h = (match am_ld lv 0 with
    | some (.ref x) => am_f d scr L call 17 n 60 lv (.ref x :: st) h
    | _ => none) := k_la (i := .aload_n 0) rfl rfl rfl rfl
theorem s_17_60 (d L n : Nat) (scr : Nat → Int32) (call : Nat → List Value → am_H → Option am_X) (lv : am_L) (st : List Value) (h : am_H) (a : Nat) : am_f d scr L call 17 (n + 1) 60 lv (.ref a :: st) h = (match am_get h a 1 0 with
    | some v => am_f d scr L call 17 n 63 lv (v :: st) h
    | none => none) := k_gf (k := 9) rfl rfl
theorem s_17_63 (d L n : Nat) (scr : Nat → Int32) (call : Nat → List Value → am_H → Option am_X) (lv : am_L) (st : List Value) (h : am_H) (a : Nat) : am_f d scr L call 17 (n + 1) 63 lv (.ref a :: st) h = (match am_get h a 7 1 with
    | some v => am_f d scr L call 17 n 66 lv (v :: st) h
    | none => none) := k_gf (k := 80) rfl rfl
theorem s_17_66 (d L n : Nat) (scr : Nat → Int32) (call : Nat → List Value → am_H → Option am_X) (lv : am_L) (st : List Value) (h : am_H) : am_f d scr L call 17 (n + 1) 66 lv st h = (match am_ld lv 0 with
    | some (.ref x) => am_f d scr L call 17 n 67 lv (.ref x :: st) h
    | _ => none) := k_la (i := .aload_n 0) rfl rfl rfl rfl
theorem s_17_67 (d L n : Nat) (scr : Nat → Int32) (call : Nat → List Value → am_H → Option am_X) (lv : am_L) (st : List Value) (h : am_H) (a : Nat) : am_f d scr L call 17 (n + 1) 67 lv (.ref a :: st) h = (match am_get h a 1 2 with
    | some v => am_f d scr L call 17 n 70 lv (v :: st) h
    | none => none) := k_gf (k := 19) rfl rfl
theorem s_17_70 (d L n : Nat) (scr : Nat → Int32) (call : Nat → List Value → am_H → Option am_X) (lv : am_L) (st : List Value) (h : am_H) : am_f d scr L call 17 (n + 1) 70 lv st h = (match am_ld lv 10 with
    | some (.int x) => am_f d scr L call 17 n 72 lv (.int x :: st) h
    | _ => none) := k_li (i := .iload 10) rfl rfl rfl rfl
theorem s_17_72 (d L n : Nat) (scr : Nat → Int32) (call : Nat → List Value → am_H → Option am_X) (lv : am_L) (st : List Value) (h : am_H) (a : Nat) (i : Int32) : am_f d scr L call 17 (n + 1) 72 lv (.int i :: .ref a :: st) h = (match am_ild scr L h a i with
    | some x => am_f d scr L call 17 n 73 lv (.int x :: st) h
    | none => none) := k_ia rfl
theorem s_17_73 (d L n : Nat) (scr : Nat → Int32) (call : Nat → List Value → am_H → Option am_X) (lv : am_L) (st : List Value) (h : am_H) (a : Nat) (i : Int32) : am_f d scr L call 17 (n + 1) 73 lv (.int i :: .ref a :: st) h = (match am_ild scr L h a i with
    | some x => am_f d scr L call 17 n 74 lv (.int x :: st) h
    | none => none) := k_ia rfl
theorem s_17_74 (d L n : Nat) (scr : Nat → Int32) (call : Nat → List Value → am_H → Option am_X) (lv : am_L) (st : List Value) (h : am_H) : am_f d scr L call 17 (n + 1) 74 lv st h = (match am_ld lv 0 with
    | some (.ref x) => am_f d scr L call 17 n 75 lv (.ref x :: st) h
    | _ => none) := k_la (i := .aload_n 0) rfl rfl rfl rfl
theorem s_17_75 (d L n : Nat) (scr : Nat → Int32) (call : Nat → List Value → am_H → Option am_X) (lv : am_L) (st : List Value) (h : am_H) (a : Nat) : am_f d scr L call 17 (n + 1) 75 lv (.ref a :: st) h = (match am_get h a 1 4 with
    | some v => am_f d scr L call 17 n 78 lv (v :: st) h
    | none => none) := k_gf (k := 26) rfl rfl
theorem s_17_78 (d L n : Nat) (scr : Nat → Int32) (call : Nat → List Value → am_H → Option am_X) (lv : am_L) (st : List Value) (h : am_H) : am_f d scr L call 17 (n + 1) 78 lv st h = (match am_ld lv 10 with
    | some (.int x) => am_f d scr L call 17 n 80 lv (.int x :: st) h
    | _ => none) := k_li (i := .iload 10) rfl rfl rfl rfl
theorem s_17_80 (d L n : Nat) (scr : Nat → Int32) (call : Nat → List Value → am_H → Option am_X) (lv : am_L) (st : List Value) (h : am_H) (a : Nat) (i : Int32) : am_f d scr L call 17 (n + 1) 80 lv (.int i :: .ref a :: st) h = (match am_ild scr L h a i with
    | some x => am_f d scr L call 17 n 81 lv (.int x :: st) h
    | none => none) := k_ia rfl
theorem s_17_81 (d L n : Nat) (scr : Nat → Int32) (call : Nat → List Value → am_H → Option am_X) (lv : am_L) (st : List Value) (h : am_H) : am_f d scr L call 17 (n + 1) 81 lv st h = am_f d scr L call 17 n 82 lv (.int 1 :: st) h := k_nx (i := .iconst 1) rfl rfl
theorem s_17_82 (d L n : Nat) (scr : Nat → Int32) (call : Nat → List Value → am_H → Option am_X) (lv : am_L) (st : List Value) (h : am_H) (x y : Int32) : am_f d scr L call 17 (n + 1) 82 lv (.int y :: .int x :: st) h = am_f d scr L call 17 n 83 lv (.int (x ^^^ y) :: st) h := k_nx (i := .ixor) rfl rfl
theorem s_17_83 (d L n : Nat) (scr : Nat → Int32) (call : Nat → List Value → am_H → Option am_X) (lv : am_L) (h : am_H) (o : Nat) (a0 : Int64) (a1 : Int32) (a2 : Int32) (a3 : Int32)  : am_f d scr L call 17 (n + 1) 83 lv (.int a3 :: .int a2 :: .int a1 :: .long a0 :: .ref o :: []) h = if am_at h o 1 = true then (match call 14 [.ref o, .long a0, .int a1, .int a2, .int a3] h with
    | some (v, h', dk, dn) => am_add dk dn (am_f d scr L call 17 n 86 lv (v.toList ++ []) h')
    | none => none) else none := k_iv0 (k := 83) (as := [.long a0, .int a1, .int a2, .int a3]) (r := []) rfl rfl rfl rfl (Nat.le_of_ble_eq_true rfl)
theorem s_17_86 (d L n : Nat) (scr : Nat → Int32) (call : Nat → List Value → am_H → Option am_X) (lv : am_L) (st : List Value) (h : am_H) (x : Int64) : am_f d scr L call 17 (n + 1) 86 lv (.long x :: st) h = am_f d scr L call 17 n 88 (am_st2 lv 7 (.long x)) st h := k_nx (i := .lstore 7) rfl rfl
theorem s_17_88 (d L n : Nat) (scr : Nat → Int32) (call : Nat → List Value → am_H → Option am_X) (lv : am_L) (st : List Value) (h : am_H) : am_f d scr L call 17 (n + 1) 88 lv st h = (match am_ld lv 0 with
    | some (.ref x) => am_f d scr L call 17 n 89 lv (.ref x :: st) h
    | _ => none) := k_la (i := .aload_n 0) rfl rfl rfl rfl
theorem s_17_89 (d L n : Nat) (scr : Nat → Int32) (call : Nat → List Value → am_H → Option am_X) (lv : am_L) (st : List Value) (h : am_H) (a : Nat) : am_f d scr L call 17 (n + 1) 89 lv (.ref a :: st) h = (match am_get h a 1 1 with
    | some v => am_f d scr L call 17 n 92 lv (v :: st) h
    | none => none) := k_gf (k := 15) rfl rfl
theorem s_17_92 (d L n : Nat) (scr : Nat → Int32) (call : Nat → List Value → am_H → Option am_X) (lv : am_L) (st : List Value) (h : am_H) : am_f d scr L call 17 (n + 1) 92 lv st h = (match am_ld lv 10 with
    | some (.int x) => am_f d scr L call 17 n 94 lv (.int x :: st) h
    | _ => none) := k_li (i := .iload 10) rfl rfl rfl rfl
theorem s_17_94 (d L n : Nat) (scr : Nat → Int32) (call : Nat → List Value → am_H → Option am_X) (lv : am_L) (st : List Value) (h : am_H) (a : Nat) (i : Int32) : am_f d scr L call 17 (n + 1) 94 lv (.int i :: .ref a :: st) h = (match am_lld h a i with
    | some x => am_f d scr L call 17 n 95 lv (.long x :: st) h
    | none => none) := k_ja rfl
theorem s_17_95 (d L n : Nat) (scr : Nat → Int32) (call : Nat → List Value → am_H → Option am_X) (lv : am_L) (st : List Value) (h : am_H) (x : Int64) : am_f d scr L call 17 (n + 1) 95 lv (.long x :: st) h = am_f d scr L call 17 n 97 (am_st2 lv 5 (.long x)) st h := k_nx (i := .lstore 5) rfl rfl
theorem s_17_97 (d L n : Nat) (scr : Nat → Int32) (call : Nat → List Value → am_H → Option am_X) (lv : am_L) (st : List Value) (h : am_H) : am_f d scr L call 17 (n + 1) 97 lv st h = (match am_ld lv 9 with
    | some (.int x) => am_f d scr L call 17 n 100 (am_st1 lv 9 (.int (x + 1))) st h
    | _ => none) := k_iinc (k := 9) (c := 1) rfl rfl (Nat.le_of_ble_eq_true rfl)
theorem s_17_100 (d L n : Nat) (scr : Nat → Int32) (call : Nat → List Value → am_H → Option am_X) (lv : am_L) (st : List Value) (h : am_H) : am_f d scr L call 17 (n + 1) 100 lv st h = am_f d scr L call 17 n 9 lv st h := k_nx (i := .goto (-91)) rfl rfl
theorem s_17_103 (d L n : Nat) (scr : Nat → Int32) (call : Nat → List Value → am_H → Option am_X) (lv : am_L) (st : List Value) (h : am_H) : am_f d scr L call 17 (n + 1) 103 lv st h = (match am_ld lv 7 with
    | some (.long x) => am_f d scr L call 17 n 105 lv (.long x :: st) h
    | _ => none) := k_ll (i := .lload 7) rfl rfl rfl rfl
theorem s_17_105 (d L n : Nat) (scr : Nat → Int32) (call : Nat → List Value → am_H → Option am_X) (lv : am_L) (h : am_H) (x : Int64) : am_f d scr L call 17 (n + 1) 105 lv [.long x] h = some (some (.long x), h, 0, 0) := k_jr rfl rfl
-- 18: BlameDesk$Casts.outward(JJ)J
theorem s_18_0 (d L n : Nat) (scr : Nat → Int32) (call : Nat → List Value → am_H → Option am_X) (lv : am_L) (st : List Value) (h : am_H) : am_f d scr L call 18 (n + 1) 0 lv st h = am_f d scr L call 18 n 1 lv (.int 0 :: st) h := k_nx (i := .iconst 0) rfl rfl
theorem s_18_1 (d L n : Nat) (scr : Nat → Int32) (call : Nat → List Value → am_H → Option am_X) (lv : am_L) (st : List Value) (h : am_H) (x : Int32) : am_f d scr L call 18 (n + 1) 1 lv (.int x :: st) h = am_f d scr L call 18 n 3 (am_st1 lv 5 (.int x)) st h := k_nx (i := .istore 5) rfl rfl
theorem s_18_3 (d L n : Nat) (scr : Nat → Int32) (call : Nat → List Value → am_H → Option am_X) (lv : am_L) (st : List Value) (h : am_H) : am_f d scr L call 18 (n + 1) 3 lv st h = (match am_ld lv 1 with
    | some (.long x) => am_f d scr L call 18 n 4 lv (.long x :: st) h
    | _ => none) := k_ll (i := .lload_n 1) rfl rfl rfl rfl
theorem s_18_4 (d L n : Nat) (scr : Nat → Int32) (call : Nat → List Value → am_H → Option am_X) (lv : am_L) (st : List Value) (h : am_H) (x : Int64) : am_f d scr L call 18 (n + 1) 4 lv (.long x :: st) h = am_f d scr L call 18 n 6 (am_st2 lv 6 (.long x)) st h := k_nx (i := .lstore 6) rfl rfl
theorem s_18_6 (d L n : Nat) (scr : Nat → Int32) (call : Nat → List Value → am_H → Option am_X) (lv : am_L) (st : List Value) (h : am_H) : am_f d scr L call 18 (n + 1) 6 lv st h = (match am_ld lv 5 with
    | some (.int x) => am_f d scr L call 18 n 8 lv (.int x :: st) h
    | _ => none) := k_li (i := .iload 5) rfl rfl rfl rfl
theorem s_18_8 (d L n : Nat) (scr : Nat → Int32) (call : Nat → List Value → am_H → Option am_X) (lv : am_L) (st : List Value) (h : am_H) : am_f d scr L call 18 (n + 1) 8 lv st h = am_f d scr L call 18 n 11 lv (.int 200 :: st) h := k_nx (i := .sipush 200) rfl rfl
theorem s_18_11 (d L n : Nat) (scr : Nat → Int32) (call : Nat → List Value → am_H → Option am_X) (lv : am_L) (st : List Value) (h : am_H) (x y : Int32) : am_f d scr L call 18 (n + 1) 11 lv (.int y :: .int x :: st) h = if y ≤ x then am_f d scr L call 18 n 54 lv st h else am_f d scr L call 18 n 14 lv st h := k_ic_ge (o := 43) rfl ⟨by decide, rfl⟩
theorem s_18_14 (d L n : Nat) (scr : Nat → Int32) (call : Nat → List Value → am_H → Option am_X) (lv : am_L) (st : List Value) (h : am_H) : am_f d scr L call 18 (n + 1) 14 lv st h = (match am_ld lv 6 with
    | some (.long x) => am_f d scr L call 18 n 16 lv (.long x :: st) h
    | _ => none) := k_ll (i := .lload 6) rfl rfl rfl rfl
theorem s_18_16 (d L n : Nat) (scr : Nat → Int32) (call : Nat → List Value → am_H → Option am_X) (lv : am_L) (h : am_H) (a0 : Int64)  : am_f d scr L call 18 (n + 1) 16 lv (.long a0 :: []) h = (match call 88 [.long a0] h with
    | some (v, h', dk, dn) => am_add dk dn (am_f d scr L call 18 n 19 lv (v.toList ++ []) h')
    | none => none) := k_iv1 (k := 73) (as := [.long a0]) (r := []) rfl rfl rfl rfl (Nat.le_of_ble_eq_true rfl)
theorem s_18_19 (d L n : Nat) (scr : Nat → Int32) (call : Nat → List Value → am_H → Option am_X) (lv : am_L) (st : List Value) (h : am_H) (x : Int32) : am_f d scr L call 18 (n + 1) 19 lv (.int x :: st) h = if x = 0 then am_f d scr L call 18 n 54 lv st h else am_f d scr L call 18 n 22 lv st h := k_if_eq (o := 35) rfl ⟨by decide, rfl⟩
theorem s_18_22 (d L n : Nat) (scr : Nat → Int32) (call : Nat → List Value → am_H → Option am_X) (lv : am_L) (st : List Value) (h : am_H) : am_f d scr L call 18 (n + 1) 22 lv st h = (match am_ld lv 0 with
    | some (.ref x) => am_f d scr L call 18 n 23 lv (.ref x :: st) h
    | _ => none) := k_la (i := .aload_n 0) rfl rfl rfl rfl
theorem s_18_23 (d L n : Nat) (scr : Nat → Int32) (call : Nat → List Value → am_H → Option am_X) (lv : am_L) (st : List Value) (h : am_H) (a : Nat) : am_f d scr L call 18 (n + 1) 23 lv (.ref a :: st) h = (match am_get h a 1 5 with
    | some v => am_f d scr L call 18 n 26 lv (v :: st) h
    | none => none) := k_gf (k := 29) rfl rfl
theorem s_18_26 (d L n : Nat) (scr : Nat → Int32) (call : Nat → List Value → am_H → Option am_X) (lv : am_L) (st : List Value) (h : am_H) : am_f d scr L call 18 (n + 1) 26 lv st h = (match am_ld lv 5 with
    | some (.int x) => am_f d scr L call 18 n 28 lv (.int x :: st) h
    | _ => none) := k_li (i := .iload 5) rfl rfl rfl rfl
theorem s_18_28 (d L n : Nat) (scr : Nat → Int32) (call : Nat → List Value → am_H → Option am_X) (lv : am_L) (st : List Value) (h : am_H) : am_f d scr L call 18 (n + 1) 28 lv st h = (match am_ld lv 6 with
    | some (.long x) => am_f d scr L call 18 n 30 lv (.long x :: st) h
    | _ => none) := k_ll (i := .lload 6) rfl rfl rfl rfl
theorem s_18_30 (d L n : Nat) (scr : Nat → Int32) (call : Nat → List Value → am_H → Option am_X) (lv : am_L) (h : am_H) (a0 : Int64) (r0 : Int32) (r1 : Nat) : am_f d scr L call 18 (n + 1) 30 lv (.long a0 :: .int r0 :: .ref r1 :: []) h = (match call 87 [.long a0] h with
    | some (v, h', dk, dn) => am_add dk dn (am_f d scr L call 18 n 33 lv (v.toList ++ [.int r0, .ref r1]) h')
    | none => none) := k_iv1 (k := 77) (as := [.long a0]) (r := [.int r0, .ref r1]) rfl rfl rfl rfl (Nat.le_of_ble_eq_true rfl)
theorem s_18_33 (d L n : Nat) (scr : Nat → Int32) (call : Nat → List Value → am_H → Option am_X) (lv : am_L) (st : List Value) (h : am_H) (a : Nat) (i : Int32) (x : Int32) : am_f d scr L call 18 (n + 1) 33 lv (.int x :: .int i :: .ref a :: st) h = (match am_ist h a i x with
    | some h' => am_f d scr L call 18 n 34 lv st h'
    | none => none) := k_is rfl
theorem s_18_34 (d L n : Nat) (scr : Nat → Int32) (call : Nat → List Value → am_H → Option am_X) (lv : am_L) (st : List Value) (h : am_H) : am_f d scr L call 18 (n + 1) 34 lv st h = (match am_ld lv 0 with
    | some (.ref x) => am_f d scr L call 18 n 35 lv (.ref x :: st) h
    | _ => none) := k_la (i := .aload_n 0) rfl rfl rfl rfl
theorem s_18_35 (d L n : Nat) (scr : Nat → Int32) (call : Nat → List Value → am_H → Option am_X) (lv : am_L) (st : List Value) (h : am_H) (a : Nat) : am_f d scr L call 18 (n + 1) 35 lv (.ref a :: st) h = (match am_get h a 1 1 with
    | some v => am_f d scr L call 18 n 38 lv (v :: st) h
    | none => none) := k_gf (k := 15) rfl rfl
theorem s_18_38 (d L n : Nat) (scr : Nat → Int32) (call : Nat → List Value → am_H → Option am_X) (lv : am_L) (st : List Value) (h : am_H) : am_f d scr L call 18 (n + 1) 38 lv st h = (match am_ld lv 0 with
    | some (.ref x) => am_f d scr L call 18 n 39 lv (.ref x :: st) h
    | _ => none) := k_la (i := .aload_n 0) rfl rfl rfl rfl
theorem s_18_39 (d L n : Nat) (scr : Nat → Int32) (call : Nat → List Value → am_H → Option am_X) (lv : am_L) (st : List Value) (h : am_H) (a : Nat) : am_f d scr L call 18 (n + 1) 39 lv (.ref a :: st) h = (match am_get h a 1 5 with
    | some v => am_f d scr L call 18 n 42 lv (v :: st) h
    | none => none) := k_gf (k := 29) rfl rfl
theorem s_18_42 (d L n : Nat) (scr : Nat → Int32) (call : Nat → List Value → am_H → Option am_X) (lv : am_L) (st : List Value) (h : am_H) : am_f d scr L call 18 (n + 1) 42 lv st h = (match am_ld lv 5 with
    | some (.int x) => am_f d scr L call 18 n 44 lv (.int x :: st) h
    | _ => none) := k_li (i := .iload 5) rfl rfl rfl rfl
theorem s_18_44 (d L n : Nat) (scr : Nat → Int32) (call : Nat → List Value → am_H → Option am_X) (lv : am_L) (st : List Value) (h : am_H) (a : Nat) (i : Int32) : am_f d scr L call 18 (n + 1) 44 lv (.int i :: .ref a :: st) h = (match am_ild scr L h a i with
    | some x => am_f d scr L call 18 n 45 lv (.int x :: st) h
    | none => none) := k_ia rfl
theorem s_18_45 (d L n : Nat) (scr : Nat → Int32) (call : Nat → List Value → am_H → Option am_X) (lv : am_L) (st : List Value) (h : am_H) (a : Nat) (i : Int32) : am_f d scr L call 18 (n + 1) 45 lv (.int i :: .ref a :: st) h = (match am_lld h a i with
    | some x => am_f d scr L call 18 n 46 lv (.long x :: st) h
    | none => none) := k_ja rfl
theorem s_18_46 (d L n : Nat) (scr : Nat → Int32) (call : Nat → List Value → am_H → Option am_X) (lv : am_L) (st : List Value) (h : am_H) (x : Int64) : am_f d scr L call 18 (n + 1) 46 lv (.long x :: st) h = am_f d scr L call 18 n 48 (am_st2 lv 6 (.long x)) st h := k_nx (i := .lstore 6) rfl rfl
theorem s_18_48 (d L n : Nat) (scr : Nat → Int32) (call : Nat → List Value → am_H → Option am_X) (lv : am_L) (st : List Value) (h : am_H) : am_f d scr L call 18 (n + 1) 48 lv st h = (match am_ld lv 5 with
    | some (.int x) => am_f d scr L call 18 n 51 (am_st1 lv 5 (.int (x + 1))) st h
    | _ => none) := k_iinc (k := 5) (c := 1) rfl rfl (Nat.le_of_ble_eq_true rfl)
theorem s_18_51 (d L n : Nat) (scr : Nat → Int32) (call : Nat → List Value → am_H → Option am_X) (lv : am_L) (st : List Value) (h : am_H) : am_f d scr L call 18 (n + 1) 51 lv st h = am_f d scr L call 18 n 6 lv st h := k_nx (i := .goto (-45)) rfl rfl
theorem s_18_54 (d L n : Nat) (scr : Nat → Int32) (call : Nat → List Value → am_H → Option am_X) (lv : am_L) (st : List Value) (h : am_H) : am_f d scr L call 18 (n + 1) 54 lv st h = (match am_ld lv 3 with
    | some (.long x) => am_f d scr L call 18 n 55 lv (.long x :: st) h
    | _ => none) := k_ll (i := .lload_n 3) rfl rfl rfl rfl
theorem s_18_55 (d L n : Nat) (scr : Nat → Int32) (call : Nat → List Value → am_H → Option am_X) (lv : am_L) (st : List Value) (h : am_H) (x : Int64) : am_f d scr L call 18 (n + 1) 55 lv (.long x :: st) h = am_f d scr L call 18 n 57 (am_st2 lv 8 (.long x)) st h := k_nx (i := .lstore 8) rfl rfl
theorem s_18_57 (d L n : Nat) (scr : Nat → Int32) (call : Nat → List Value → am_H → Option am_X) (lv : am_L) (st : List Value) (h : am_H) : am_f d scr L call 18 (n + 1) 57 lv st h = (match am_ld lv 5 with
    | some (.int x) => am_f d scr L call 18 n 59 lv (.int x :: st) h
    | _ => none) := k_li (i := .iload 5) rfl rfl rfl rfl
theorem s_18_59 (d L n : Nat) (scr : Nat → Int32) (call : Nat → List Value → am_H → Option am_X) (lv : am_L) (st : List Value) (h : am_H) : am_f d scr L call 18 (n + 1) 59 lv st h = am_f d scr L call 18 n 60 lv (.int 1 :: st) h := k_nx (i := .iconst 1) rfl rfl
theorem s_18_60 (d L n : Nat) (scr : Nat → Int32) (call : Nat → List Value → am_H → Option am_X) (lv : am_L) (st : List Value) (h : am_H) (x y : Int32) : am_f d scr L call 18 (n + 1) 60 lv (.int y :: .int x :: st) h = am_f d scr L call 18 n 61 lv (.int (x - y) :: st) h := k_nx (i := .isub) rfl rfl
theorem s_18_61 (d L n : Nat) (scr : Nat → Int32) (call : Nat → List Value → am_H → Option am_X) (lv : am_L) (st : List Value) (h : am_H) (x : Int32) : am_f d scr L call 18 (n + 1) 61 lv (.int x :: st) h = am_f d scr L call 18 n 63 (am_st1 lv 10 (.int x)) st h := k_nx (i := .istore 10) rfl rfl
theorem s_18_63 (d L n : Nat) (scr : Nat → Int32) (call : Nat → List Value → am_H → Option am_X) (lv : am_L) (st : List Value) (h : am_H) : am_f d scr L call 18 (n + 1) 63 lv st h = (match am_ld lv 10 with
    | some (.int x) => am_f d scr L call 18 n 65 lv (.int x :: st) h
    | _ => none) := k_li (i := .iload 10) rfl rfl rfl rfl
theorem s_18_65 (d L n : Nat) (scr : Nat → Int32) (call : Nat → List Value → am_H → Option am_X) (lv : am_L) (st : List Value) (h : am_H) (x : Int32) : am_f d scr L call 18 (n + 1) 65 lv (.int x :: st) h = if x < 0 then am_f d scr L call 18 n 137 lv st h else am_f d scr L call 18 n 68 lv st h := k_if_lt (o := 72) rfl ⟨by decide, rfl⟩
theorem s_18_68 (d L n : Nat) (scr : Nat → Int32) (call : Nat → List Value → am_H → Option am_X) (lv : am_L) (st : List Value) (h : am_H) : am_f d scr L call 18 (n + 1) 68 lv st h = (match am_ld lv 0 with
    | some (.ref x) => am_f d scr L call 18 n 69 lv (.ref x :: st) h
    | _ => none) := k_la (i := .aload_n 0) rfl rfl rfl rfl
theorem s_18_69 (d L n : Nat) (scr : Nat → Int32) (call : Nat → List Value → am_H → Option am_X) (lv : am_L) (st : List Value) (h : am_H) (a : Nat) : am_f d scr L call 18 (n + 1) 69 lv (.ref a :: st) h = (match am_get h a 1 7 with
    | some v => am_f d scr L call 18 n 72 lv (v :: st) h
    | none => none) := k_gf (k := 38) rfl rfl
theorem s_18_72 (d L n : Nat) (scr : Nat → Int32) (call : Nat → List Value → am_H → Option am_X) (lv : am_L) (st : List Value) (h : am_H) : am_f d scr L call 18 (n + 1) 72 lv st h = am_f d scr L call 18 n 74 lv (.int 6 :: st) h := k_nx (i := .bipush 6) rfl rfl
theorem s_18_74 (d L n : Nat) (scr : Nat → Int32) (call : Nat → List Value → am_H → Option am_X) (lv : am_L) (st : List Value) (h : am_H) (x y : Int32) : am_f d scr L call 18 (n + 1) 74 lv (.int y :: .int x :: st) h = if ¬ x = y then am_f d scr L call 18 n 137 lv st h else am_f d scr L call 18 n 77 lv st h := k_ic_ne (o := 63) rfl ⟨by decide, rfl⟩
theorem s_18_77 (d L n : Nat) (scr : Nat → Int32) (call : Nat → List Value → am_H → Option am_X) (lv : am_L) (st : List Value) (h : am_H) : am_f d scr L call 18 (n + 1) 77 lv st h = (match am_ld lv 0 with
    | some (.ref x) => am_f d scr L call 18 n 78 lv (.ref x :: st) h
    | _ => none) := k_la (i := .aload_n 0) rfl rfl rfl rfl
theorem s_18_78 (d L n : Nat) (scr : Nat → Int32) (call : Nat → List Value → am_H → Option am_X) (lv : am_L) (st : List Value) (h : am_H) (a : Nat) : am_f d scr L call 18 (n + 1) 78 lv (.ref a :: st) h = (match am_get h a 1 5 with
    | some v => am_f d scr L call 18 n 81 lv (v :: st) h
    | none => none) := k_gf (k := 29) rfl rfl
theorem s_18_81 (d L n : Nat) (scr : Nat → Int32) (call : Nat → List Value → am_H → Option am_X) (lv : am_L) (st : List Value) (h : am_H) : am_f d scr L call 18 (n + 1) 81 lv st h = (match am_ld lv 10 with
    | some (.int x) => am_f d scr L call 18 n 83 lv (.int x :: st) h
    | _ => none) := k_li (i := .iload 10) rfl rfl rfl rfl
theorem s_18_83 (d L n : Nat) (scr : Nat → Int32) (call : Nat → List Value → am_H → Option am_X) (lv : am_L) (st : List Value) (h : am_H) (a : Nat) (i : Int32) : am_f d scr L call 18 (n + 1) 83 lv (.int i :: .ref a :: st) h = (match am_ild scr L h a i with
    | some x => am_f d scr L call 18 n 84 lv (.int x :: st) h
    | none => none) := k_ia rfl
theorem s_18_84 (d L n : Nat) (scr : Nat → Int32) (call : Nat → List Value → am_H → Option am_X) (lv : am_L) (st : List Value) (h : am_H) (x : Int32) : am_f d scr L call 18 (n + 1) 84 lv (.int x :: st) h = am_f d scr L call 18 n 86 (am_st1 lv 11 (.int x)) st h := k_nx (i := .istore 11) rfl rfl
theorem s_18_86 (d L n : Nat) (scr : Nat → Int32) (call : Nat → List Value → am_H → Option am_X) (lv : am_L) (st : List Value) (h : am_H) : am_f d scr L call 18 (n + 1) 86 lv st h = (match am_ld lv 0 with
    | some (.ref x) => am_f d scr L call 18 n 87 lv (.ref x :: st) h
    | _ => none) := k_la (i := .aload_n 0) rfl rfl rfl rfl
theorem s_18_87 (d L n : Nat) (scr : Nat → Int32) (call : Nat → List Value → am_H → Option am_X) (lv : am_L) (st : List Value) (h : am_H) : am_f d scr L call 18 (n + 1) 87 lv st h = (match am_ld lv 8 with
    | some (.long x) => am_f d scr L call 18 n 89 lv (.long x :: st) h
    | _ => none) := k_ll (i := .lload 8) rfl rfl rfl rfl
theorem s_18_89 (d L n : Nat) (scr : Nat → Int32) (call : Nat → List Value → am_H → Option am_X) (lv : am_L) (st : List Value) (h : am_H) : am_f d scr L call 18 (n + 1) 89 lv st h = (match am_ld lv 0 with
    | some (.ref x) => am_f d scr L call 18 n 90 lv (.ref x :: st) h
    | _ => none) := k_la (i := .aload_n 0) rfl rfl rfl rfl
theorem s_18_90 (d L n : Nat) (scr : Nat → Int32) (call : Nat → List Value → am_H → Option am_X) (lv : am_L) (st : List Value) (h : am_H) (a : Nat) : am_f d scr L call 18 (n + 1) 90 lv (.ref a :: st) h = (match am_get h a 1 0 with
    | some v => am_f d scr L call 18 n 93 lv (v :: st) h
    | none => none) := k_gf (k := 9) rfl rfl
theorem s_18_93 (d L n : Nat) (scr : Nat → Int32) (call : Nat → List Value → am_H → Option am_X) (lv : am_L) (st : List Value) (h : am_H) (a : Nat) : am_f d scr L call 18 (n + 1) 93 lv (.ref a :: st) h = (match am_get h a 7 2 with
    | some v => am_f d scr L call 18 n 96 lv (v :: st) h
    | none => none) := k_gf (k := 86) rfl rfl
theorem s_18_96 (d L n : Nat) (scr : Nat → Int32) (call : Nat → List Value → am_H → Option am_X) (lv : am_L) (st : List Value) (h : am_H) : am_f d scr L call 18 (n + 1) 96 lv st h = (match am_ld lv 0 with
    | some (.ref x) => am_f d scr L call 18 n 97 lv (.ref x :: st) h
    | _ => none) := k_la (i := .aload_n 0) rfl rfl rfl rfl
theorem s_18_97 (d L n : Nat) (scr : Nat → Int32) (call : Nat → List Value → am_H → Option am_X) (lv : am_L) (st : List Value) (h : am_H) (a : Nat) : am_f d scr L call 18 (n + 1) 97 lv (.ref a :: st) h = (match am_get h a 1 2 with
    | some v => am_f d scr L call 18 n 100 lv (v :: st) h
    | none => none) := k_gf (k := 19) rfl rfl
theorem s_18_100 (d L n : Nat) (scr : Nat → Int32) (call : Nat → List Value → am_H → Option am_X) (lv : am_L) (st : List Value) (h : am_H) : am_f d scr L call 18 (n + 1) 100 lv st h = (match am_ld lv 11 with
    | some (.int x) => am_f d scr L call 18 n 102 lv (.int x :: st) h
    | _ => none) := k_li (i := .iload 11) rfl rfl rfl rfl
theorem s_18_102 (d L n : Nat) (scr : Nat → Int32) (call : Nat → List Value → am_H → Option am_X) (lv : am_L) (st : List Value) (h : am_H) (a : Nat) (i : Int32) : am_f d scr L call 18 (n + 1) 102 lv (.int i :: .ref a :: st) h = (match am_ild scr L h a i with
    | some x => am_f d scr L call 18 n 103 lv (.int x :: st) h
    | none => none) := k_ia rfl
theorem s_18_103 (d L n : Nat) (scr : Nat → Int32) (call : Nat → List Value → am_H → Option am_X) (lv : am_L) (st : List Value) (h : am_H) (a : Nat) (i : Int32) : am_f d scr L call 18 (n + 1) 103 lv (.int i :: .ref a :: st) h = (match am_ild scr L h a i with
    | some x => am_f d scr L call 18 n 104 lv (.int x :: st) h
    | none => none) := k_ia rfl
theorem s_18_104 (d L n : Nat) (scr : Nat → Int32) (call : Nat → List Value → am_H → Option am_X) (lv : am_L) (st : List Value) (h : am_H) : am_f d scr L call 18 (n + 1) 104 lv st h = (match am_ld lv 0 with
    | some (.ref x) => am_f d scr L call 18 n 105 lv (.ref x :: st) h
    | _ => none) := k_la (i := .aload_n 0) rfl rfl rfl rfl
theorem s_18_105 (d L n : Nat) (scr : Nat → Int32) (call : Nat → List Value → am_H → Option am_X) (lv : am_L) (st : List Value) (h : am_H) (a : Nat) : am_f d scr L call 18 (n + 1) 105 lv (.ref a :: st) h = (match am_get h a 1 0 with
    | some v => am_f d scr L call 18 n 108 lv (v :: st) h
    | none => none) := k_gf (k := 9) rfl rfl
theorem s_18_108 (d L n : Nat) (scr : Nat → Int32) (call : Nat → List Value → am_H → Option am_X) (lv : am_L) (st : List Value) (h : am_H) (a : Nat) : am_f d scr L call 18 (n + 1) 108 lv (.ref a :: st) h = (match am_get h a 7 2 with
    | some v => am_f d scr L call 18 n 111 lv (v :: st) h
    | none => none) := k_gf (k := 86) rfl rfl
theorem s_18_111 (d L n : Nat) (scr : Nat → Int32) (call : Nat → List Value → am_H → Option am_X) (lv : am_L) (st : List Value) (h : am_H) : am_f d scr L call 18 (n + 1) 111 lv st h = (match am_ld lv 0 with
    | some (.ref x) => am_f d scr L call 18 n 112 lv (.ref x :: st) h
    | _ => none) := k_la (i := .aload_n 0) rfl rfl rfl rfl
theorem s_18_112 (d L n : Nat) (scr : Nat → Int32) (call : Nat → List Value → am_H → Option am_X) (lv : am_L) (st : List Value) (h : am_H) (a : Nat) : am_f d scr L call 18 (n + 1) 112 lv (.ref a :: st) h = (match am_get h a 1 3 with
    | some v => am_f d scr L call 18 n 115 lv (v :: st) h
    | none => none) := k_gf (k := 23) rfl rfl
theorem s_18_115 (d L n : Nat) (scr : Nat → Int32) (call : Nat → List Value → am_H → Option am_X) (lv : am_L) (st : List Value) (h : am_H) : am_f d scr L call 18 (n + 1) 115 lv st h = (match am_ld lv 11 with
    | some (.int x) => am_f d scr L call 18 n 117 lv (.int x :: st) h
    | _ => none) := k_li (i := .iload 11) rfl rfl rfl rfl
theorem s_18_117 (d L n : Nat) (scr : Nat → Int32) (call : Nat → List Value → am_H → Option am_X) (lv : am_L) (st : List Value) (h : am_H) (a : Nat) (i : Int32) : am_f d scr L call 18 (n + 1) 117 lv (.int i :: .ref a :: st) h = (match am_ild scr L h a i with
    | some x => am_f d scr L call 18 n 118 lv (.int x :: st) h
    | none => none) := k_ia rfl
theorem s_18_118 (d L n : Nat) (scr : Nat → Int32) (call : Nat → List Value → am_H → Option am_X) (lv : am_L) (st : List Value) (h : am_H) (a : Nat) (i : Int32) : am_f d scr L call 18 (n + 1) 118 lv (.int i :: .ref a :: st) h = (match am_ild scr L h a i with
    | some x => am_f d scr L call 18 n 119 lv (.int x :: st) h
    | none => none) := k_ia rfl
theorem s_18_119 (d L n : Nat) (scr : Nat → Int32) (call : Nat → List Value → am_H → Option am_X) (lv : am_L) (st : List Value) (h : am_H) : am_f d scr L call 18 (n + 1) 119 lv st h = (match am_ld lv 0 with
    | some (.ref x) => am_f d scr L call 18 n 120 lv (.ref x :: st) h
    | _ => none) := k_la (i := .aload_n 0) rfl rfl rfl rfl
theorem s_18_120 (d L n : Nat) (scr : Nat → Int32) (call : Nat → List Value → am_H → Option am_X) (lv : am_L) (st : List Value) (h : am_H) (a : Nat) : am_f d scr L call 18 (n + 1) 120 lv (.ref a :: st) h = (match am_get h a 1 4 with
    | some v => am_f d scr L call 18 n 123 lv (v :: st) h
    | none => none) := k_gf (k := 26) rfl rfl
theorem s_18_123 (d L n : Nat) (scr : Nat → Int32) (call : Nat → List Value → am_H → Option am_X) (lv : am_L) (st : List Value) (h : am_H) : am_f d scr L call 18 (n + 1) 123 lv st h = (match am_ld lv 11 with
    | some (.int x) => am_f d scr L call 18 n 125 lv (.int x :: st) h
    | _ => none) := k_li (i := .iload 11) rfl rfl rfl rfl
theorem s_18_125 (d L n : Nat) (scr : Nat → Int32) (call : Nat → List Value → am_H → Option am_X) (lv : am_L) (st : List Value) (h : am_H) (a : Nat) (i : Int32) : am_f d scr L call 18 (n + 1) 125 lv (.int i :: .ref a :: st) h = (match am_ild scr L h a i with
    | some x => am_f d scr L call 18 n 126 lv (.int x :: st) h
    | none => none) := k_ia rfl
theorem s_18_126 (d L n : Nat) (scr : Nat → Int32) (call : Nat → List Value → am_H → Option am_X) (lv : am_L) (h : am_H) (o : Nat) (a0 : Int64) (a1 : Int32) (a2 : Int32) (a3 : Int32)  : am_f d scr L call 18 (n + 1) 126 lv (.int a3 :: .int a2 :: .int a1 :: .long a0 :: .ref o :: []) h = if am_at h o 1 = true then (match call 14 [.ref o, .long a0, .int a1, .int a2, .int a3] h with
    | some (v, h', dk, dn) => am_add dk dn (am_f d scr L call 18 n 129 lv (v.toList ++ []) h')
    | none => none) else none := k_iv0 (k := 83) (as := [.long a0, .int a1, .int a2, .int a3]) (r := []) rfl rfl rfl rfl (Nat.le_of_ble_eq_true rfl)
theorem s_18_129 (d L n : Nat) (scr : Nat → Int32) (call : Nat → List Value → am_H → Option am_X) (lv : am_L) (st : List Value) (h : am_H) (x : Int64) : am_f d scr L call 18 (n + 1) 129 lv (.long x :: st) h = am_f d scr L call 18 n 131 (am_st2 lv 8 (.long x)) st h := k_nx (i := .lstore 8) rfl rfl
theorem s_18_131 (d L n : Nat) (scr : Nat → Int32) (call : Nat → List Value → am_H → Option am_X) (lv : am_L) (st : List Value) (h : am_H) : am_f d scr L call 18 (n + 1) 131 lv st h = (match am_ld lv 10 with
    | some (.int x) => am_f d scr L call 18 n 134 (am_st1 lv 10 (.int (x + (-1)))) st h
    | _ => none) := k_iinc (k := 10) (c := (-1)) rfl rfl (Nat.le_of_ble_eq_true rfl)
theorem s_18_134 (d L n : Nat) (scr : Nat → Int32) (call : Nat → List Value → am_H → Option am_X) (lv : am_L) (st : List Value) (h : am_H) : am_f d scr L call 18 (n + 1) 134 lv st h = am_f d scr L call 18 n 63 lv st h := k_nx (i := .goto (-71)) rfl rfl
theorem s_18_137 (d L n : Nat) (scr : Nat → Int32) (call : Nat → List Value → am_H → Option am_X) (lv : am_L) (st : List Value) (h : am_H) : am_f d scr L call 18 (n + 1) 137 lv st h = (match am_ld lv 8 with
    | some (.long x) => am_f d scr L call 18 n 139 lv (.long x :: st) h
    | _ => none) := k_ll (i := .lload 8) rfl rfl rfl rfl
theorem s_18_139 (d L n : Nat) (scr : Nat → Int32) (call : Nat → List Value → am_H → Option am_X) (lv : am_L) (h : am_H) (x : Int64) : am_f d scr L call 18 (n + 1) 139 lv [.long x] h = some (some (.long x), h, 0, 0) := k_jr rfl rfl
-- 19: BlameDesk$Checker.<init>(LBlameDesk$Program;)V
theorem s_19_0 (d L n : Nat) (scr : Nat → Int32) (call : Nat → List Value → am_H → Option am_X) (lv : am_L) (st : List Value) (h : am_H) : am_f d scr L call 19 (n + 1) 0 lv st h = (match am_ld lv 0 with
    | some (.ref x) => am_f d scr L call 19 n 1 lv (.ref x :: st) h
    | _ => none) := k_la (i := .aload_n 0) rfl rfl rfl rfl
theorem s_19_1 (d L n a : Nat) (scr : Nat → Int32) (call : Nat → List Value → am_H → Option am_X) (lv : am_L) (h : am_H)  : am_f (d + 1) scr L call 19 (n + 1) 1 lv (.ref a :: []) h = am_f (d + 1) scr L call 19 n 4 lv [] h := k_ob (k := 3) rfl rfl (Nat.le_of_ble_eq_true rfl)
theorem s_19_4 (d L n : Nat) (scr : Nat → Int32) (call : Nat → List Value → am_H → Option am_X) (lv : am_L) (st : List Value) (h : am_H) : am_f d scr L call 19 (n + 1) 4 lv st h = (match am_ld lv 0 with
    | some (.ref x) => am_f d scr L call 19 n 5 lv (.ref x :: st) h
    | _ => none) := k_la (i := .aload_n 0) rfl rfl rfl rfl
theorem s_19_5 (d L n : Nat) (scr : Nat → Int32) (call : Nat → List Value → am_H → Option am_X) (lv : am_L) (st : List Value) (h : am_H) : am_f d scr L call 19 (n + 1) 5 lv st h = (match am_ld lv 1 with
    | some (.ref x) => am_f d scr L call 19 n 6 lv (.ref x :: st) h
    | _ => none) := k_la (i := .aload_n 1) rfl rfl rfl rfl
theorem s_19_6 (d L n : Nat) (scr : Nat → Int32) (call : Nat → List Value → am_H → Option am_X) (lv : am_L) (st : List Value) (h : am_H) (x : Nat) (a : Nat) : am_f d scr L call 19 (n + 1) 6 lv (.ref x :: .ref a :: st) h = (match am_put h a 2 0 (.ref x) with
    | some h' => am_f d scr L call 19 n 9 lv st h'
    | none => none) := k_pf (k := 9) rfl rfl rfl
theorem s_19_9 (d L n : Nat) (scr : Nat → Int32) (call : Nat → List Value → am_H → Option am_X) (lv : am_L) (st : List Value) (h : am_H) : am_f d scr L call 19 (n + 1) 9 lv st h = (match am_ld lv 0 with
    | some (.ref x) => am_f d scr L call 19 n 10 lv (.ref x :: st) h
    | _ => none) := k_la (i := .aload_n 0) rfl rfl rfl rfl
theorem s_19_10 (d L n : Nat) (scr : Nat → Int32) (call : Nat → List Value → am_H → Option am_X) (lv : am_L) (st : List Value) (h : am_H) : am_f d scr L call 19 (n + 1) 10 lv st h = (match am_ld lv 1 with
    | some (.ref x) => am_f d scr L call 19 n 11 lv (.ref x :: st) h
    | _ => none) := k_la (i := .aload_n 1) rfl rfl rfl rfl
theorem s_19_11 (d L n : Nat) (scr : Nat → Int32) (call : Nat → List Value → am_H → Option am_X) (lv : am_L) (st : List Value) (h : am_H) (a : Nat) : am_f d scr L call 19 (n + 1) 11 lv (.ref a :: st) h = (match am_get h a 5 0 with
    | some v => am_f d scr L call 19 n 14 lv (v :: st) h
    | none => none) := k_gf (k := 15) rfl rfl
theorem s_19_14 (d L n : Nat) (scr : Nat → Int32) (call : Nat → List Value → am_H → Option am_X) (lv : am_L) (st : List Value) (h : am_H) (x : Nat) (a : Nat) : am_f d scr L call 19 (n + 1) 14 lv (.ref x :: .ref a :: st) h = (match am_put h a 2 1 (.ref x) with
    | some h' => am_f d scr L call 19 n 17 lv st h'
    | none => none) := k_pf (k := 21) rfl rfl rfl
theorem s_19_17 (d L n : Nat) (scr : Nat → Int32) (call : Nat → List Value → am_H → Option am_X) (lv : am_L) (h : am_H) : am_f d scr L call 19 (n + 1) 17 lv [] h = some (none, h, 0, 0) := k_vr rfl rfl
-- 20: BlameDesk$Checker.firstError()I
theorem s_20_0 (d L n : Nat) (scr : Nat → Int32) (call : Nat → List Value → am_H → Option am_X) (lv : am_L) (st : List Value) (h : am_H) : am_f d scr L call 20 (n + 1) 0 lv st h = am_f d scr L call 20 n 1 lv (.int 0 :: st) h := k_nx (i := .iconst 0) rfl rfl
theorem s_20_1 (d L n : Nat) (scr : Nat → Int32) (call : Nat → List Value → am_H → Option am_X) (lv : am_L) (st : List Value) (h : am_H) (x : Int32) : am_f d scr L call 20 (n + 1) 1 lv (.int x :: st) h = am_f d scr L call 20 n 2 (am_st1 lv 1 (.int x)) st h := k_nx (i := .istore_n 1) rfl rfl
theorem s_20_2 (d L n : Nat) (scr : Nat → Int32) (call : Nat → List Value → am_H → Option am_X) (lv : am_L) (st : List Value) (h : am_H) : am_f d scr L call 20 (n + 1) 2 lv st h = (match am_ld lv 1 with
    | some (.int x) => am_f d scr L call 20 n 3 lv (.int x :: st) h
    | _ => none) := k_li (i := .iload_n 1) rfl rfl rfl rfl
theorem s_20_3 (d L n : Nat) (scr : Nat → Int32) (call : Nat → List Value → am_H → Option am_X) (lv : am_L) (st : List Value) (h : am_H) : am_f d scr L call 20 (n + 1) 3 lv st h = (match am_ld lv 0 with
    | some (.ref x) => am_f d scr L call 20 n 4 lv (.ref x :: st) h
    | _ => none) := k_la (i := .aload_n 0) rfl rfl rfl rfl
theorem s_20_4 (d L n : Nat) (scr : Nat → Int32) (call : Nat → List Value → am_H → Option am_X) (lv : am_L) (st : List Value) (h : am_H) (a : Nat) : am_f d scr L call 20 (n + 1) 4 lv (.ref a :: st) h = (match am_get h a 2 0 with
    | some v => am_f d scr L call 20 n 7 lv (v :: st) h
    | none => none) := k_gf (k := 9) rfl rfl
theorem s_20_7 (d L n : Nat) (scr : Nat → Int32) (call : Nat → List Value → am_H → Option am_X) (lv : am_L) (st : List Value) (h : am_H) (a : Nat) : am_f d scr L call 20 (n + 1) 7 lv (.ref a :: st) h = (match am_get h a 5 12 with
    | some v => am_f d scr L call 20 n 10 lv (v :: st) h
    | none => none) := k_gf (k := 22) rfl rfl
theorem s_20_10 (d L n : Nat) (scr : Nat → Int32) (call : Nat → List Value → am_H → Option am_X) (lv : am_L) (st : List Value) (h : am_H) (x y : Int32) : am_f d scr L call 20 (n + 1) 10 lv (.int y :: .int x :: st) h = if y ≤ x then am_f d scr L call 20 n 40 lv st h else am_f d scr L call 20 n 13 lv st h := k_ic_ge (o := 30) rfl ⟨by decide, rfl⟩
theorem s_20_13 (d L n : Nat) (scr : Nat → Int32) (call : Nat → List Value → am_H → Option am_X) (lv : am_L) (st : List Value) (h : am_H) : am_f d scr L call 20 (n + 1) 13 lv st h = (match am_ld lv 0 with
    | some (.ref x) => am_f d scr L call 20 n 14 lv (.ref x :: st) h
    | _ => none) := k_la (i := .aload_n 0) rfl rfl rfl rfl
theorem s_20_14 (d L n : Nat) (scr : Nat → Int32) (call : Nat → List Value → am_H → Option am_X) (lv : am_L) (st : List Value) (h : am_H) : am_f d scr L call 20 (n + 1) 14 lv st h = (match am_ld lv 0 with
    | some (.ref x) => am_f d scr L call 20 n 15 lv (.ref x :: st) h
    | _ => none) := k_la (i := .aload_n 0) rfl rfl rfl rfl
theorem s_20_15 (d L n : Nat) (scr : Nat → Int32) (call : Nat → List Value → am_H → Option am_X) (lv : am_L) (st : List Value) (h : am_H) (a : Nat) : am_f d scr L call 20 (n + 1) 15 lv (.ref a :: st) h = (match am_get h a 2 0 with
    | some v => am_f d scr L call 20 n 18 lv (v :: st) h
    | none => none) := k_gf (k := 9) rfl rfl
theorem s_20_18 (d L n : Nat) (scr : Nat → Int32) (call : Nat → List Value → am_H → Option am_X) (lv : am_L) (st : List Value) (h : am_H) (a : Nat) : am_f d scr L call 20 (n + 1) 18 lv (.ref a :: st) h = (match am_get h a 5 11 with
    | some v => am_f d scr L call 20 n 21 lv (v :: st) h
    | none => none) := k_gf (k := 26) rfl rfl
theorem s_20_21 (d L n : Nat) (scr : Nat → Int32) (call : Nat → List Value → am_H → Option am_X) (lv : am_L) (st : List Value) (h : am_H) : am_f d scr L call 20 (n + 1) 21 lv st h = (match am_ld lv 1 with
    | some (.int x) => am_f d scr L call 20 n 22 lv (.int x :: st) h
    | _ => none) := k_li (i := .iload_n 1) rfl rfl rfl rfl
theorem s_20_22 (d L n : Nat) (scr : Nat → Int32) (call : Nat → List Value → am_H → Option am_X) (lv : am_L) (st : List Value) (h : am_H) (a : Nat) (i : Int32) : am_f d scr L call 20 (n + 1) 22 lv (.int i :: .ref a :: st) h = (match am_ild scr L h a i with
    | some x => am_f d scr L call 20 n 23 lv (.int x :: st) h
    | none => none) := k_ia rfl
theorem s_20_23 (d L n : Nat) (scr : Nat → Int32) (call : Nat → List Value → am_H → Option am_X) (lv : am_L) (h : am_H) (o : Nat) (a0 : Int32)  : am_f d scr L call 20 (n + 1) 23 lv (.int a0 :: .ref o :: []) h = if am_at h o 2 = true then (match call 21 [.ref o, .int a0] h with
    | some (v, h', dk, dn) => am_add dk dn (am_f d scr L call 20 n 26 lv (v.toList ++ []) h')
    | none => none) else none := k_iv0 (k := 30) (as := [.int a0]) (r := []) rfl rfl rfl rfl (Nat.le_of_ble_eq_true rfl)
theorem s_20_26 (d L n : Nat) (scr : Nat → Int32) (call : Nat → List Value → am_H → Option am_X) (lv : am_L) (st : List Value) (h : am_H) (x : Int32) : am_f d scr L call 20 (n + 1) 26 lv (.int x :: st) h = am_f d scr L call 20 n 27 (am_st1 lv 2 (.int x)) st h := k_nx (i := .istore_n 2) rfl rfl
theorem s_20_27 (d L n : Nat) (scr : Nat → Int32) (call : Nat → List Value → am_H → Option am_X) (lv : am_L) (st : List Value) (h : am_H) : am_f d scr L call 20 (n + 1) 27 lv st h = (match am_ld lv 2 with
    | some (.int x) => am_f d scr L call 20 n 28 lv (.int x :: st) h
    | _ => none) := k_li (i := .iload_n 2) rfl rfl rfl rfl
theorem s_20_28 (d L n : Nat) (scr : Nat → Int32) (call : Nat → List Value → am_H → Option am_X) (lv : am_L) (st : List Value) (h : am_H) : am_f d scr L call 20 (n + 1) 28 lv st h = am_f d scr L call 20 n 29 lv (.int (-1) :: st) h := k_nx (i := .iconst (-1)) rfl rfl
theorem s_20_29 (d L n : Nat) (scr : Nat → Int32) (call : Nat → List Value → am_H → Option am_X) (lv : am_L) (st : List Value) (h : am_H) (x y : Int32) : am_f d scr L call 20 (n + 1) 29 lv (.int y :: .int x :: st) h = if x = y then am_f d scr L call 20 n 34 lv st h else am_f d scr L call 20 n 32 lv st h := k_ic_eq (o := 5) rfl ⟨by decide, rfl⟩
theorem s_20_32 (d L n : Nat) (scr : Nat → Int32) (call : Nat → List Value → am_H → Option am_X) (lv : am_L) (st : List Value) (h : am_H) : am_f d scr L call 20 (n + 1) 32 lv st h = (match am_ld lv 2 with
    | some (.int x) => am_f d scr L call 20 n 33 lv (.int x :: st) h
    | _ => none) := k_li (i := .iload_n 2) rfl rfl rfl rfl
theorem s_20_33 (d L n : Nat) (scr : Nat → Int32) (call : Nat → List Value → am_H → Option am_X) (lv : am_L) (h : am_H) (x : Int32) : am_f d scr L call 20 (n + 1) 33 lv [.int x] h = some (some (.int x), h, 0, 0) := k_ir rfl rfl
theorem s_20_34 (d L n : Nat) (scr : Nat → Int32) (call : Nat → List Value → am_H → Option am_X) (lv : am_L) (st : List Value) (h : am_H) : am_f d scr L call 20 (n + 1) 34 lv st h = (match am_ld lv 1 with
    | some (.int x) => am_f d scr L call 20 n 37 (am_st1 lv 1 (.int (x + 1))) st h
    | _ => none) := k_iinc (k := 1) (c := 1) rfl rfl (Nat.le_of_ble_eq_true rfl)
theorem s_20_37 (d L n : Nat) (scr : Nat → Int32) (call : Nat → List Value → am_H → Option am_X) (lv : am_L) (st : List Value) (h : am_H) : am_f d scr L call 20 (n + 1) 37 lv st h = am_f d scr L call 20 n 2 lv st h := k_nx (i := .goto (-35)) rfl rfl
theorem s_20_40 (d L n : Nat) (scr : Nat → Int32) (call : Nat → List Value → am_H → Option am_X) (lv : am_L) (st : List Value) (h : am_H) : am_f d scr L call 20 (n + 1) 40 lv st h = am_f d scr L call 20 n 41 lv (.int (-1) :: st) h := k_nx (i := .iconst (-1)) rfl rfl
theorem s_20_41 (d L n : Nat) (scr : Nat → Int32) (call : Nat → List Value → am_H → Option am_X) (lv : am_L) (h : am_H) (x : Int32) : am_f d scr L call 20 (n + 1) 41 lv [.int x] h = some (some (.int x), h, 0, 0) := k_ir rfl rfl
-- 21: BlameDesk$Checker.errorIn(I)I
theorem s_21_0 (d L n : Nat) (scr : Nat → Int32) (call : Nat → List Value → am_H → Option am_X) (lv : am_L) (st : List Value) (h : am_H) : am_f d scr L call 21 (n + 1) 0 lv st h = (match am_ld lv 0 with
    | some (.ref x) => am_f d scr L call 21 n 1 lv (.ref x :: st) h
    | _ => none) := k_la (i := .aload_n 0) rfl rfl rfl rfl
theorem s_21_1 (d L n : Nat) (scr : Nat → Int32) (call : Nat → List Value → am_H → Option am_X) (lv : am_L) (st : List Value) (h : am_H) (a : Nat) : am_f d scr L call 21 (n + 1) 1 lv (.ref a :: st) h = (match am_get h a 2 0 with
    | some v => am_f d scr L call 21 n 4 lv (v :: st) h
    | none => none) := k_gf (k := 9) rfl rfl
theorem s_21_4 (d L n : Nat) (scr : Nat → Int32) (call : Nat → List Value → am_H → Option am_X) (lv : am_L) (st : List Value) (h : am_H) (a : Nat) : am_f d scr L call 21 (n + 1) 4 lv (.ref a :: st) h = (match am_get h a 5 3 with
    | some v => am_f d scr L call 21 n 7 lv (v :: st) h
    | none => none) := k_gf (k := 34) rfl rfl
theorem s_21_7 (d L n : Nat) (scr : Nat → Int32) (call : Nat → List Value → am_H → Option am_X) (lv : am_L) (st : List Value) (h : am_H) : am_f d scr L call 21 (n + 1) 7 lv st h = (match am_ld lv 1 with
    | some (.int x) => am_f d scr L call 21 n 8 lv (.int x :: st) h
    | _ => none) := k_li (i := .iload_n 1) rfl rfl rfl rfl
theorem s_21_8 (d L n : Nat) (scr : Nat → Int32) (call : Nat → List Value → am_H → Option am_X) (lv : am_L) (st : List Value) (h : am_H) (a : Nat) (i : Int32) : am_f d scr L call 21 (n + 1) 8 lv (.int i :: .ref a :: st) h = (match am_ild scr L h a i with
    | some x => am_f d scr L call 21 n 9 lv (.int x :: st) h
    | none => none) := k_ia rfl
theorem s_21_9 (d L n : Nat) (scr : Nat → Int32) (call : Nat → List Value → am_H → Option am_X) (lv : am_L) (st : List Value) (h : am_H) (x : Int32) : am_f d scr L call 21 (n + 1) 9 lv (.int x :: st) h = am_f d scr L call 21 n 10 (am_st1 lv 2 (.int x)) st h := k_nx (i := .istore_n 2) rfl rfl
theorem s_21_10 (d L n : Nat) (scr : Nat → Int32) (call : Nat → List Value → am_H → Option am_X) (lv : am_L) (st : List Value) (h : am_H) : am_f d scr L call 21 (n + 1) 10 lv st h = (match am_ld lv 0 with
    | some (.ref x) => am_f d scr L call 21 n 11 lv (.ref x :: st) h
    | _ => none) := k_la (i := .aload_n 0) rfl rfl rfl rfl
theorem s_21_11 (d L n : Nat) (scr : Nat → Int32) (call : Nat → List Value → am_H → Option am_X) (lv : am_L) (st : List Value) (h : am_H) (a : Nat) : am_f d scr L call 21 (n + 1) 11 lv (.ref a :: st) h = (match am_get h a 2 0 with
    | some v => am_f d scr L call 21 n 14 lv (v :: st) h
    | none => none) := k_gf (k := 9) rfl rfl
theorem s_21_14 (d L n : Nat) (scr : Nat → Int32) (call : Nat → List Value → am_H → Option am_X) (lv : am_L) (st : List Value) (h : am_H) (a : Nat) : am_f d scr L call 21 (n + 1) 14 lv (.ref a :: st) h = (match am_get h a 5 1 with
    | some v => am_f d scr L call 21 n 17 lv (v :: st) h
    | none => none) := k_gf (k := 37) rfl rfl
theorem s_21_17 (d L n : Nat) (scr : Nat → Int32) (call : Nat → List Value → am_H → Option am_X) (lv : am_L) (st : List Value) (h : am_H) : am_f d scr L call 21 (n + 1) 17 lv st h = (match am_ld lv 1 with
    | some (.int x) => am_f d scr L call 21 n 18 lv (.int x :: st) h
    | _ => none) := k_li (i := .iload_n 1) rfl rfl rfl rfl
theorem s_21_18 (d L n : Nat) (scr : Nat → Int32) (call : Nat → List Value → am_H → Option am_X) (lv : am_L) (st : List Value) (h : am_H) (a : Nat) (i : Int32) : am_f d scr L call 21 (n + 1) 18 lv (.int i :: .ref a :: st) h = (match am_ild scr L h a i with
    | some x => am_f d scr L call 21 n 19 lv (.int x :: st) h
    | none => none) := k_ia rfl
set_option maxRecDepth 100000 in
theorem s_21_19 (d L n : Nat) (scr : Nat → Int32) (call : Nat → List Value → am_H → Option am_X) (lv : am_L) (st : List Value) (h : am_H) (x : Int32) : am_f d scr L call 21 (n + 1) 19 lv (.int x :: st) h = if x = 0 then am_f d scr L call 21 n 88 lv st h else if x = 1 then am_f d scr L call 21 n 95 lv st h else if x = 2 then am_f d scr L call 21 n 102 lv st h else if x = 3 then am_f d scr L call 21 n 108 lv st h else if x = 4 then am_f d scr L call 21 n 139 lv st h else if x = 5 then am_f d scr L call 21 n 146 lv st h else if x = 8 then am_f d scr L call 21 n 153 lv st h else if x = 9 then am_f d scr L call 21 n 160 lv st h else if x = 10 then am_f d scr L call 21 n 166 lv st h else if x = 11 then am_f d scr L call 21 n 188 lv st h else if x = 12 then am_f d scr L call 21 n 194 lv st h else if x = 13 then am_f d scr L call 21 n 224 lv st h else am_f d scr L call 21 n 238 lv st h := by
  by_cases h0 : x = 0
  · subst h0
    exact k_nx (i := .tableswitch 219 0 13 #[69, 76, 83, 89, 120, 127, 219, 219, 134, 141, 147, 169, 175, 205]) rfl rfl
  by_cases h1 : x = 1
  · subst h1
    exact k_nx (i := .tableswitch 219 0 13 #[69, 76, 83, 89, 120, 127, 219, 219, 134, 141, 147, 169, 175, 205]) rfl rfl
  by_cases h2 : x = 2
  · subst h2
    exact k_nx (i := .tableswitch 219 0 13 #[69, 76, 83, 89, 120, 127, 219, 219, 134, 141, 147, 169, 175, 205]) rfl rfl
  by_cases h3 : x = 3
  · subst h3
    exact k_nx (i := .tableswitch 219 0 13 #[69, 76, 83, 89, 120, 127, 219, 219, 134, 141, 147, 169, 175, 205]) rfl rfl
  by_cases h4 : x = 4
  · subst h4
    exact k_nx (i := .tableswitch 219 0 13 #[69, 76, 83, 89, 120, 127, 219, 219, 134, 141, 147, 169, 175, 205]) rfl rfl
  by_cases h5 : x = 5
  · subst h5
    exact k_nx (i := .tableswitch 219 0 13 #[69, 76, 83, 89, 120, 127, 219, 219, 134, 141, 147, 169, 175, 205]) rfl rfl
  by_cases h6 : x = 6
  · subst h6
    exact k_nx (i := .tableswitch 219 0 13 #[69, 76, 83, 89, 120, 127, 219, 219, 134, 141, 147, 169, 175, 205]) rfl rfl
  by_cases h7 : x = 7
  · subst h7
    exact k_nx (i := .tableswitch 219 0 13 #[69, 76, 83, 89, 120, 127, 219, 219, 134, 141, 147, 169, 175, 205]) rfl rfl
  by_cases h8 : x = 8
  · subst h8
    exact k_nx (i := .tableswitch 219 0 13 #[69, 76, 83, 89, 120, 127, 219, 219, 134, 141, 147, 169, 175, 205]) rfl rfl
  by_cases h9 : x = 9
  · subst h9
    exact k_nx (i := .tableswitch 219 0 13 #[69, 76, 83, 89, 120, 127, 219, 219, 134, 141, 147, 169, 175, 205]) rfl rfl
  by_cases h10 : x = 10
  · subst h10
    exact k_nx (i := .tableswitch 219 0 13 #[69, 76, 83, 89, 120, 127, 219, 219, 134, 141, 147, 169, 175, 205]) rfl rfl
  by_cases h11 : x = 11
  · subst h11
    exact k_nx (i := .tableswitch 219 0 13 #[69, 76, 83, 89, 120, 127, 219, 219, 134, 141, 147, 169, 175, 205]) rfl rfl
  by_cases h12 : x = 12
  · subst h12
    exact k_nx (i := .tableswitch 219 0 13 #[69, 76, 83, 89, 120, 127, 219, 219, 134, 141, 147, 169, 175, 205]) rfl rfl
  by_cases h13 : x = 13
  · subst h13
    exact k_nx (i := .tableswitch 219 0 13 #[69, 76, 83, 89, 120, 127, 219, 219, 134, 141, 147, 169, 175, 205]) rfl rfl
  have hn : x.toInt < 0 ∨ 13 < x.toInt := by
    have hh : ∀ k : Int32, ¬ x = k → ¬ x.toInt = k.toInt := fun k hk z => hk (Int32.toInt_inj.mp z)
    have g0 : ¬ x.toInt = 0 := hh 0 h0
    have g1 : ¬ x.toInt = 1 := hh 1 h1
    have g2 : ¬ x.toInt = 2 := hh 2 h2
    have g3 : ¬ x.toInt = 3 := hh 3 h3
    have g4 : ¬ x.toInt = 4 := hh 4 h4
    have g5 : ¬ x.toInt = 5 := hh 5 h5
    have g6 : ¬ x.toInt = 6 := hh 6 h6
    have g7 : ¬ x.toInt = 7 := hh 7 h7
    have g8 : ¬ x.toInt = 8 := hh 8 h8
    have g9 : ¬ x.toInt = 9 := hh 9 h9
    have g10 : ¬ x.toInt = 10 := hh 10 h10
    have g11 : ¬ x.toInt = 11 := hh 11 h11
    have g12 : ¬ x.toInt = 12 := hh 12 h12
    have g13 : ¬ x.toInt = 13 := hh 13 h13
    omega
  rw [if_neg h0, if_neg h1, if_neg h2, if_neg h3, if_neg h4, if_neg h5, if_neg h8, if_neg h9, if_neg h10, if_neg h11, if_neg h12, if_neg h13]
  refine k_nx (i := .tableswitch 219 0 13 #[69, 76, 83, 89, 120, 127, 219, 219, 134, 141, 147, 169, 175, 205]) rfl ?_
  simp only [am_s, if_pos hn]
  rfl
theorem s_21_88 (d L n : Nat) (scr : Nat → Int32) (call : Nat → List Value → am_H → Option am_X) (lv : am_L) (st : List Value) (h : am_H) : am_f d scr L call 21 (n + 1) 88 lv st h = (match am_ld lv 0 with
    | some (.ref x) => am_f d scr L call 21 n 89 lv (.ref x :: st) h
    | _ => none) := k_la (i := .aload_n 0) rfl rfl rfl rfl
theorem s_21_89 (d L n : Nat) (scr : Nat → Int32) (call : Nat → List Value → am_H → Option am_X) (lv : am_L) (st : List Value) (h : am_H) : am_f d scr L call 21 (n + 1) 89 lv st h = (match am_ld lv 1 with
    | some (.int x) => am_f d scr L call 21 n 90 lv (.int x :: st) h
    | _ => none) := k_li (i := .iload_n 1) rfl rfl rfl rfl
theorem s_21_90 (d L n : Nat) (scr : Nat → Int32) (call : Nat → List Value → am_H → Option am_X) (lv : am_L) (st : List Value) (h : am_H) : am_f d scr L call 21 (n + 1) 90 lv st h = am_f d scr L call 21 n 91 lv (.int 1 :: st) h := k_nx (i := .iconst 1) rfl rfl
theorem s_21_91 (d L n : Nat) (scr : Nat → Int32) (call : Nat → List Value → am_H → Option am_X) (lv : am_L) (h : am_H) (o : Nat) (a0 : Int32) (a1 : Int32)  : am_f d scr L call 21 (n + 1) 91 lv (.int a1 :: .int a0 :: .ref o :: []) h = if am_at h o 2 = true then (match call 22 [.ref o, .int a0, .int a1] h with
    | some (v, h', dk, dn) => am_add dk dn (am_f d scr L call 21 n 94 lv (v.toList ++ []) h')
    | none => none) else none := k_iv0 (k := 42) (as := [.int a0, .int a1]) (r := []) rfl rfl rfl rfl (Nat.le_of_ble_eq_true rfl)
theorem s_21_94 (d L n : Nat) (scr : Nat → Int32) (call : Nat → List Value → am_H → Option am_X) (lv : am_L) (h : am_H) (x : Int32) : am_f d scr L call 21 (n + 1) 94 lv [.int x] h = some (some (.int x), h, 0, 0) := k_ir rfl rfl
theorem s_21_95 (d L n : Nat) (scr : Nat → Int32) (call : Nat → List Value → am_H → Option am_X) (lv : am_L) (st : List Value) (h : am_H) : am_f d scr L call 21 (n + 1) 95 lv st h = (match am_ld lv 0 with
    | some (.ref x) => am_f d scr L call 21 n 96 lv (.ref x :: st) h
    | _ => none) := k_la (i := .aload_n 0) rfl rfl rfl rfl
theorem s_21_96 (d L n : Nat) (scr : Nat → Int32) (call : Nat → List Value → am_H → Option am_X) (lv : am_L) (st : List Value) (h : am_H) : am_f d scr L call 21 (n + 1) 96 lv st h = (match am_ld lv 1 with
    | some (.int x) => am_f d scr L call 21 n 97 lv (.int x :: st) h
    | _ => none) := k_li (i := .iload_n 1) rfl rfl rfl rfl
theorem s_21_97 (d L n : Nat) (scr : Nat → Int32) (call : Nat → List Value → am_H → Option am_X) (lv : am_L) (st : List Value) (h : am_H) : am_f d scr L call 21 (n + 1) 97 lv st h = am_f d scr L call 21 n 98 lv (.int 2 :: st) h := k_nx (i := .iconst 2) rfl rfl
theorem s_21_98 (d L n : Nat) (scr : Nat → Int32) (call : Nat → List Value → am_H → Option am_X) (lv : am_L) (h : am_H) (o : Nat) (a0 : Int32) (a1 : Int32)  : am_f d scr L call 21 (n + 1) 98 lv (.int a1 :: .int a0 :: .ref o :: []) h = if am_at h o 2 = true then (match call 22 [.ref o, .int a0, .int a1] h with
    | some (v, h', dk, dn) => am_add dk dn (am_f d scr L call 21 n 101 lv (v.toList ++ []) h')
    | none => none) else none := k_iv0 (k := 42) (as := [.int a0, .int a1]) (r := []) rfl rfl rfl rfl (Nat.le_of_ble_eq_true rfl)
theorem s_21_101 (d L n : Nat) (scr : Nat → Int32) (call : Nat → List Value → am_H → Option am_X) (lv : am_L) (h : am_H) (x : Int32) : am_f d scr L call 21 (n + 1) 101 lv [.int x] h = some (some (.int x), h, 0, 0) := k_ir rfl rfl
theorem s_21_102 (d L n : Nat) (scr : Nat → Int32) (call : Nat → List Value → am_H → Option am_X) (lv : am_L) (st : List Value) (h : am_H) : am_f d scr L call 21 (n + 1) 102 lv st h = (match am_ld lv 0 with
    | some (.ref x) => am_f d scr L call 21 n 103 lv (.ref x :: st) h
    | _ => none) := k_la (i := .aload_n 0) rfl rfl rfl rfl
theorem s_21_103 (d L n : Nat) (scr : Nat → Int32) (call : Nat → List Value → am_H → Option am_X) (lv : am_L) (st : List Value) (h : am_H) : am_f d scr L call 21 (n + 1) 103 lv st h = (match am_ld lv 1 with
    | some (.int x) => am_f d scr L call 21 n 104 lv (.int x :: st) h
    | _ => none) := k_li (i := .iload_n 1) rfl rfl rfl rfl
theorem s_21_104 (d L n : Nat) (scr : Nat → Int32) (call : Nat → List Value → am_H → Option am_X) (lv : am_L) (h : am_H) (o : Nat) (a0 : Int32)  : am_f d scr L call 21 (n + 1) 104 lv (.int a0 :: .ref o :: []) h = if am_at h o 2 = true then (match call 24 [.ref o, .int a0] h with
    | some (v, h', dk, dn) => am_add dk dn (am_f d scr L call 21 n 107 lv (v.toList ++ []) h')
    | none => none) else none := k_iv0 (k := 46) (as := [.int a0]) (r := []) rfl rfl rfl rfl (Nat.le_of_ble_eq_true rfl)
theorem s_21_107 (d L n : Nat) (scr : Nat → Int32) (call : Nat → List Value → am_H → Option am_X) (lv : am_L) (h : am_H) (x : Int32) : am_f d scr L call 21 (n + 1) 107 lv [.int x] h = some (some (.int x), h, 0, 0) := k_ir rfl rfl
theorem s_21_108 (d L n : Nat) (scr : Nat → Int32) (call : Nat → List Value → am_H → Option am_X) (lv : am_L) (st : List Value) (h : am_H) : am_f d scr L call 21 (n + 1) 108 lv st h = (match am_ld lv 0 with
    | some (.ref x) => am_f d scr L call 21 n 109 lv (.ref x :: st) h
    | _ => none) := k_la (i := .aload_n 0) rfl rfl rfl rfl
theorem s_21_109 (d L n : Nat) (scr : Nat → Int32) (call : Nat → List Value → am_H → Option am_X) (lv : am_L) (st : List Value) (h : am_H) : am_f d scr L call 21 (n + 1) 109 lv st h = (match am_ld lv 1 with
    | some (.int x) => am_f d scr L call 21 n 110 lv (.int x :: st) h
    | _ => none) := k_li (i := .iload_n 1) rfl rfl rfl rfl
theorem s_21_110 (d L n : Nat) (scr : Nat → Int32) (call : Nat → List Value → am_H → Option am_X) (lv : am_L) (st : List Value) (h : am_H) : am_f d scr L call 21 (n + 1) 110 lv st h = (match am_ld lv 0 with
    | some (.ref x) => am_f d scr L call 21 n 111 lv (.ref x :: st) h
    | _ => none) := k_la (i := .aload_n 0) rfl rfl rfl rfl
theorem s_21_111 (d L n : Nat) (scr : Nat → Int32) (call : Nat → List Value → am_H → Option am_X) (lv : am_L) (st : List Value) (h : am_H) (a : Nat) : am_f d scr L call 21 (n + 1) 111 lv (.ref a :: st) h = (match am_get h a 2 1 with
    | some v => am_f d scr L call 21 n 114 lv (v :: st) h
    | none => none) := k_gf (k := 21) rfl rfl
theorem s_21_114 (d L n : Nat) (scr : Nat → Int32) (call : Nat → List Value → am_H → Option am_X) (lv : am_L) (st : List Value) (h : am_H) : am_f d scr L call 21 (n + 1) 114 lv st h = (match am_ld lv 0 with
    | some (.ref x) => am_f d scr L call 21 n 115 lv (.ref x :: st) h
    | _ => none) := k_la (i := .aload_n 0) rfl rfl rfl rfl
theorem s_21_115 (d L n : Nat) (scr : Nat → Int32) (call : Nat → List Value → am_H → Option am_X) (lv : am_L) (st : List Value) (h : am_H) (a : Nat) : am_f d scr L call 21 (n + 1) 115 lv (.ref a :: st) h = (match am_get h a 2 0 with
    | some v => am_f d scr L call 21 n 118 lv (v :: st) h
    | none => none) := k_gf (k := 9) rfl rfl
theorem s_21_118 (d L n : Nat) (scr : Nat → Int32) (call : Nat → List Value → am_H → Option am_X) (lv : am_L) (st : List Value) (h : am_H) (a : Nat) : am_f d scr L call 21 (n + 1) 118 lv (.ref a :: st) h = (match am_get h a 5 7 with
    | some v => am_f d scr L call 21 n 121 lv (v :: st) h
    | none => none) := k_gf (k := 49) rfl rfl
theorem s_21_121 (d L n : Nat) (scr : Nat → Int32) (call : Nat → List Value → am_H → Option am_X) (lv : am_L) (st : List Value) (h : am_H) : am_f d scr L call 21 (n + 1) 121 lv st h = (match am_ld lv 1 with
    | some (.int x) => am_f d scr L call 21 n 122 lv (.int x :: st) h
    | _ => none) := k_li (i := .iload_n 1) rfl rfl rfl rfl
theorem s_21_122 (d L n : Nat) (scr : Nat → Int32) (call : Nat → List Value → am_H → Option am_X) (lv : am_L) (st : List Value) (h : am_H) (a : Nat) (i : Int32) : am_f d scr L call 21 (n + 1) 122 lv (.int i :: .ref a :: st) h = (match am_ild scr L h a i with
    | some x => am_f d scr L call 21 n 123 lv (.int x :: st) h
    | none => none) := k_ia rfl
theorem s_21_123 (d L n : Nat) (scr : Nat → Int32) (call : Nat → List Value → am_H → Option am_X) (lv : am_L) (st : List Value) (h : am_H) : am_f d scr L call 21 (n + 1) 123 lv st h = (match am_ld lv 0 with
    | some (.ref x) => am_f d scr L call 21 n 124 lv (.ref x :: st) h
    | _ => none) := k_la (i := .aload_n 0) rfl rfl rfl rfl
theorem s_21_124 (d L n : Nat) (scr : Nat → Int32) (call : Nat → List Value → am_H → Option am_X) (lv : am_L) (st : List Value) (h : am_H) (a : Nat) : am_f d scr L call 21 (n + 1) 124 lv (.ref a :: st) h = (match am_get h a 2 0 with
    | some v => am_f d scr L call 21 n 127 lv (v :: st) h
    | none => none) := k_gf (k := 9) rfl rfl
theorem s_21_127 (d L n : Nat) (scr : Nat → Int32) (call : Nat → List Value → am_H → Option am_X) (lv : am_L) (st : List Value) (h : am_H) (a : Nat) : am_f d scr L call 21 (n + 1) 127 lv (.ref a :: st) h = (match am_get h a 5 9 with
    | some v => am_f d scr L call 21 n 130 lv (v :: st) h
    | none => none) := k_gf (k := 52) rfl rfl
theorem s_21_130 (d L n : Nat) (scr : Nat → Int32) (call : Nat → List Value → am_H → Option am_X) (lv : am_L) (st : List Value) (h : am_H) : am_f d scr L call 21 (n + 1) 130 lv st h = (match am_ld lv 2 with
    | some (.int x) => am_f d scr L call 21 n 131 lv (.int x :: st) h
    | _ => none) := k_li (i := .iload_n 2) rfl rfl rfl rfl
theorem s_21_131 (d L n : Nat) (scr : Nat → Int32) (call : Nat → List Value → am_H → Option am_X) (lv : am_L) (st : List Value) (h : am_H) (a : Nat) (i : Int32) : am_f d scr L call 21 (n + 1) 131 lv (.int i :: .ref a :: st) h = (match am_ild scr L h a i with
    | some x => am_f d scr L call 21 n 132 lv (.int x :: st) h
    | none => none) := k_ia rfl
theorem s_21_132 (d L n : Nat) (scr : Nat → Int32) (call : Nat → List Value → am_H → Option am_X) (lv : am_L) (h : am_H) (o : Nat) (a0 : Int32) (a1 : Int32) (r0 : Int32) (r1 : Nat) : am_f d scr L call 21 (n + 1) 132 lv (.int a1 :: .int a0 :: .ref o :: .int r0 :: .ref r1 :: []) h = if am_at h o 7 = true then (match call 77 [.ref o, .int a0, .int a1] h with
    | some (v, h', dk, dn) => am_add dk dn (am_f d scr L call 21 n 135 lv (v.toList ++ [.int r0, .ref r1]) h')
    | none => none) else none := k_iv0 (k := 55) (as := [.int a0, .int a1]) (r := [.int r0, .ref r1]) rfl rfl rfl rfl (Nat.le_of_ble_eq_true rfl)
theorem s_21_135 (d L n : Nat) (scr : Nat → Int32) (call : Nat → List Value → am_H → Option am_X) (lv : am_L) (h : am_H) (o : Nat) (a0 : Int32) (a1 : Int32)  : am_f d scr L call 21 (n + 1) 135 lv (.int a1 :: .int a0 :: .ref o :: []) h = if am_at h o 2 = true then (match call 22 [.ref o, .int a0, .int a1] h with
    | some (v, h', dk, dn) => am_add dk dn (am_f d scr L call 21 n 138 lv (v.toList ++ []) h')
    | none => none) else none := k_iv0 (k := 42) (as := [.int a0, .int a1]) (r := []) rfl rfl rfl rfl (Nat.le_of_ble_eq_true rfl)
theorem s_21_138 (d L n : Nat) (scr : Nat → Int32) (call : Nat → List Value → am_H → Option am_X) (lv : am_L) (h : am_H) (x : Int32) : am_f d scr L call 21 (n + 1) 138 lv [.int x] h = some (some (.int x), h, 0, 0) := k_ir rfl rfl
theorem s_21_139 (d L n : Nat) (scr : Nat → Int32) (call : Nat → List Value → am_H → Option am_X) (lv : am_L) (st : List Value) (h : am_H) : am_f d scr L call 21 (n + 1) 139 lv st h = (match am_ld lv 0 with
    | some (.ref x) => am_f d scr L call 21 n 140 lv (.ref x :: st) h
    | _ => none) := k_la (i := .aload_n 0) rfl rfl rfl rfl
theorem s_21_140 (d L n : Nat) (scr : Nat → Int32) (call : Nat → List Value → am_H → Option am_X) (lv : am_L) (st : List Value) (h : am_H) : am_f d scr L call 21 (n + 1) 140 lv st h = (match am_ld lv 1 with
    | some (.int x) => am_f d scr L call 21 n 141 lv (.int x :: st) h
    | _ => none) := k_li (i := .iload_n 1) rfl rfl rfl rfl
theorem s_21_141 (d L n : Nat) (scr : Nat → Int32) (call : Nat → List Value → am_H → Option am_X) (lv : am_L) (st : List Value) (h : am_H) : am_f d scr L call 21 (n + 1) 141 lv st h = am_f d scr L call 21 n 142 lv (.int 3 :: st) h := k_nx (i := .iconst 3) rfl rfl
theorem s_21_142 (d L n : Nat) (scr : Nat → Int32) (call : Nat → List Value → am_H → Option am_X) (lv : am_L) (h : am_H) (o : Nat) (a0 : Int32) (a1 : Int32)  : am_f d scr L call 21 (n + 1) 142 lv (.int a1 :: .int a0 :: .ref o :: []) h = if am_at h o 2 = true then (match call 25 [.ref o, .int a0, .int a1] h with
    | some (v, h', dk, dn) => am_add dk dn (am_f d scr L call 21 n 145 lv (v.toList ++ []) h')
    | none => none) else none := k_iv0 (k := 58) (as := [.int a0, .int a1]) (r := []) rfl rfl rfl rfl (Nat.le_of_ble_eq_true rfl)
theorem s_21_145 (d L n : Nat) (scr : Nat → Int32) (call : Nat → List Value → am_H → Option am_X) (lv : am_L) (h : am_H) (x : Int32) : am_f d scr L call 21 (n + 1) 145 lv [.int x] h = some (some (.int x), h, 0, 0) := k_ir rfl rfl
theorem s_21_146 (d L n : Nat) (scr : Nat → Int32) (call : Nat → List Value → am_H → Option am_X) (lv : am_L) (st : List Value) (h : am_H) : am_f d scr L call 21 (n + 1) 146 lv st h = (match am_ld lv 0 with
    | some (.ref x) => am_f d scr L call 21 n 147 lv (.ref x :: st) h
    | _ => none) := k_la (i := .aload_n 0) rfl rfl rfl rfl
theorem s_21_147 (d L n : Nat) (scr : Nat → Int32) (call : Nat → List Value → am_H → Option am_X) (lv : am_L) (st : List Value) (h : am_H) : am_f d scr L call 21 (n + 1) 147 lv st h = (match am_ld lv 1 with
    | some (.int x) => am_f d scr L call 21 n 148 lv (.int x :: st) h
    | _ => none) := k_li (i := .iload_n 1) rfl rfl rfl rfl
theorem s_21_148 (d L n : Nat) (scr : Nat → Int32) (call : Nat → List Value → am_H → Option am_X) (lv : am_L) (st : List Value) (h : am_H) : am_f d scr L call 21 (n + 1) 148 lv st h = am_f d scr L call 21 n 149 lv (.int 4 :: st) h := k_nx (i := .iconst 4) rfl rfl
theorem s_21_149 (d L n : Nat) (scr : Nat → Int32) (call : Nat → List Value → am_H → Option am_X) (lv : am_L) (h : am_H) (o : Nat) (a0 : Int32) (a1 : Int32)  : am_f d scr L call 21 (n + 1) 149 lv (.int a1 :: .int a0 :: .ref o :: []) h = if am_at h o 2 = true then (match call 25 [.ref o, .int a0, .int a1] h with
    | some (v, h', dk, dn) => am_add dk dn (am_f d scr L call 21 n 152 lv (v.toList ++ []) h')
    | none => none) else none := k_iv0 (k := 58) (as := [.int a0, .int a1]) (r := []) rfl rfl rfl rfl (Nat.le_of_ble_eq_true rfl)
theorem s_21_152 (d L n : Nat) (scr : Nat → Int32) (call : Nat → List Value → am_H → Option am_X) (lv : am_L) (h : am_H) (x : Int32) : am_f d scr L call 21 (n + 1) 152 lv [.int x] h = some (some (.int x), h, 0, 0) := k_ir rfl rfl
theorem s_21_153 (d L n : Nat) (scr : Nat → Int32) (call : Nat → List Value → am_H → Option am_X) (lv : am_L) (st : List Value) (h : am_H) : am_f d scr L call 21 (n + 1) 153 lv st h = (match am_ld lv 0 with
    | some (.ref x) => am_f d scr L call 21 n 154 lv (.ref x :: st) h
    | _ => none) := k_la (i := .aload_n 0) rfl rfl rfl rfl
theorem s_21_154 (d L n : Nat) (scr : Nat → Int32) (call : Nat → List Value → am_H → Option am_X) (lv : am_L) (st : List Value) (h : am_H) : am_f d scr L call 21 (n + 1) 154 lv st h = (match am_ld lv 1 with
    | some (.int x) => am_f d scr L call 21 n 155 lv (.int x :: st) h
    | _ => none) := k_li (i := .iload_n 1) rfl rfl rfl rfl
theorem s_21_155 (d L n : Nat) (scr : Nat → Int32) (call : Nat → List Value → am_H → Option am_X) (lv : am_L) (st : List Value) (h : am_H) : am_f d scr L call 21 (n + 1) 155 lv st h = am_f d scr L call 21 n 156 lv (.int 2 :: st) h := k_nx (i := .iconst 2) rfl rfl
theorem s_21_156 (d L n : Nat) (scr : Nat → Int32) (call : Nat → List Value → am_H → Option am_X) (lv : am_L) (h : am_H) (o : Nat) (a0 : Int32) (a1 : Int32)  : am_f d scr L call 21 (n + 1) 156 lv (.int a1 :: .int a0 :: .ref o :: []) h = if am_at h o 2 = true then (match call 27 [.ref o, .int a0, .int a1] h with
    | some (v, h', dk, dn) => am_add dk dn (am_f d scr L call 21 n 159 lv (v.toList ++ []) h')
    | none => none) else none := k_iv0 (k := 61) (as := [.int a0, .int a1]) (r := []) rfl rfl rfl rfl (Nat.le_of_ble_eq_true rfl)
theorem s_21_159 (d L n : Nat) (scr : Nat → Int32) (call : Nat → List Value → am_H → Option am_X) (lv : am_L) (h : am_H) (x : Int32) : am_f d scr L call 21 (n + 1) 159 lv [.int x] h = some (some (.int x), h, 0, 0) := k_ir rfl rfl
theorem s_21_160 (d L n : Nat) (scr : Nat → Int32) (call : Nat → List Value → am_H → Option am_X) (lv : am_L) (st : List Value) (h : am_H) : am_f d scr L call 21 (n + 1) 160 lv st h = (match am_ld lv 0 with
    | some (.ref x) => am_f d scr L call 21 n 161 lv (.ref x :: st) h
    | _ => none) := k_la (i := .aload_n 0) rfl rfl rfl rfl
theorem s_21_161 (d L n : Nat) (scr : Nat → Int32) (call : Nat → List Value → am_H → Option am_X) (lv : am_L) (st : List Value) (h : am_H) : am_f d scr L call 21 (n + 1) 161 lv st h = (match am_ld lv 1 with
    | some (.int x) => am_f d scr L call 21 n 162 lv (.int x :: st) h
    | _ => none) := k_li (i := .iload_n 1) rfl rfl rfl rfl
theorem s_21_162 (d L n : Nat) (scr : Nat → Int32) (call : Nat → List Value → am_H → Option am_X) (lv : am_L) (h : am_H) (o : Nat) (a0 : Int32)  : am_f d scr L call 21 (n + 1) 162 lv (.int a0 :: .ref o :: []) h = if am_at h o 2 = true then (match call 28 [.ref o, .int a0] h with
    | some (v, h', dk, dn) => am_add dk dn (am_f d scr L call 21 n 165 lv (v.toList ++ []) h')
    | none => none) else none := k_iv0 (k := 64) (as := [.int a0]) (r := []) rfl rfl rfl rfl (Nat.le_of_ble_eq_true rfl)
theorem s_21_165 (d L n : Nat) (scr : Nat → Int32) (call : Nat → List Value → am_H → Option am_X) (lv : am_L) (h : am_H) (x : Int32) : am_f d scr L call 21 (n + 1) 165 lv [.int x] h = some (some (.int x), h, 0, 0) := k_ir rfl rfl
theorem s_21_166 (d L n : Nat) (scr : Nat → Int32) (call : Nat → List Value → am_H → Option am_X) (lv : am_L) (st : List Value) (h : am_H) : am_f d scr L call 21 (n + 1) 166 lv st h = (match am_ld lv 0 with
    | some (.ref x) => am_f d scr L call 21 n 167 lv (.ref x :: st) h
    | _ => none) := k_la (i := .aload_n 0) rfl rfl rfl rfl
theorem s_21_167 (d L n : Nat) (scr : Nat → Int32) (call : Nat → List Value → am_H → Option am_X) (lv : am_L) (st : List Value) (h : am_H) : am_f d scr L call 21 (n + 1) 167 lv st h = (match am_ld lv 1 with
    | some (.int x) => am_f d scr L call 21 n 168 lv (.int x :: st) h
    | _ => none) := k_li (i := .iload_n 1) rfl rfl rfl rfl
theorem s_21_168 (d L n : Nat) (scr : Nat → Int32) (call : Nat → List Value → am_H → Option am_X) (lv : am_L) (st : List Value) (h : am_H) : am_f d scr L call 21 (n + 1) 168 lv st h = (match am_ld lv 0 with
    | some (.ref x) => am_f d scr L call 21 n 169 lv (.ref x :: st) h
    | _ => none) := k_la (i := .aload_n 0) rfl rfl rfl rfl
theorem s_21_169 (d L n : Nat) (scr : Nat → Int32) (call : Nat → List Value → am_H → Option am_X) (lv : am_L) (st : List Value) (h : am_H) (a : Nat) : am_f d scr L call 21 (n + 1) 169 lv (.ref a :: st) h = (match am_get h a 2 1 with
    | some v => am_f d scr L call 21 n 172 lv (v :: st) h
    | none => none) := k_gf (k := 21) rfl rfl
theorem s_21_172 (d L n : Nat) (scr : Nat → Int32) (call : Nat → List Value → am_H → Option am_X) (lv : am_L) (st : List Value) (h : am_H) : am_f d scr L call 21 (n + 1) 172 lv st h = (match am_ld lv 0 with
    | some (.ref x) => am_f d scr L call 21 n 173 lv (.ref x :: st) h
    | _ => none) := k_la (i := .aload_n 0) rfl rfl rfl rfl
theorem s_21_173 (d L n : Nat) (scr : Nat → Int32) (call : Nat → List Value → am_H → Option am_X) (lv : am_L) (st : List Value) (h : am_H) (a : Nat) : am_f d scr L call 21 (n + 1) 173 lv (.ref a :: st) h = (match am_get h a 2 0 with
    | some v => am_f d scr L call 21 n 176 lv (v :: st) h
    | none => none) := k_gf (k := 9) rfl rfl
theorem s_21_176 (d L n : Nat) (scr : Nat → Int32) (call : Nat → List Value → am_H → Option am_X) (lv : am_L) (st : List Value) (h : am_H) (a : Nat) : am_f d scr L call 21 (n + 1) 176 lv (.ref a :: st) h = (match am_get h a 5 9 with
    | some v => am_f d scr L call 21 n 179 lv (v :: st) h
    | none => none) := k_gf (k := 52) rfl rfl
theorem s_21_179 (d L n : Nat) (scr : Nat → Int32) (call : Nat → List Value → am_H → Option am_X) (lv : am_L) (st : List Value) (h : am_H) : am_f d scr L call 21 (n + 1) 179 lv st h = (match am_ld lv 2 with
    | some (.int x) => am_f d scr L call 21 n 180 lv (.int x :: st) h
    | _ => none) := k_li (i := .iload_n 2) rfl rfl rfl rfl
theorem s_21_180 (d L n : Nat) (scr : Nat → Int32) (call : Nat → List Value → am_H → Option am_X) (lv : am_L) (st : List Value) (h : am_H) (a : Nat) (i : Int32) : am_f d scr L call 21 (n + 1) 180 lv (.int i :: .ref a :: st) h = (match am_ild scr L h a i with
    | some x => am_f d scr L call 21 n 181 lv (.int x :: st) h
    | none => none) := k_ia rfl
theorem s_21_181 (d L n : Nat) (scr : Nat → Int32) (call : Nat → List Value → am_H → Option am_X) (lv : am_L) (h : am_H) (o : Nat) (a0 : Int32) (r0 : Int32) (r1 : Nat) : am_f d scr L call 21 (n + 1) 181 lv (.int a0 :: .ref o :: .int r0 :: .ref r1 :: []) h = if am_at h o 7 = true then (match call 78 [.ref o, .int a0] h with
    | some (v, h', dk, dn) => am_add dk dn (am_f d scr L call 21 n 184 lv (v.toList ++ [.int r0, .ref r1]) h')
    | none => none) else none := k_iv0 (k := 67) (as := [.int a0]) (r := [.int r0, .ref r1]) rfl rfl rfl rfl (Nat.le_of_ble_eq_true rfl)
theorem s_21_184 (d L n : Nat) (scr : Nat → Int32) (call : Nat → List Value → am_H → Option am_X) (lv : am_L) (h : am_H) (o : Nat) (a0 : Int32) (a1 : Int32)  : am_f d scr L call 21 (n + 1) 184 lv (.int a1 :: .int a0 :: .ref o :: []) h = if am_at h o 2 = true then (match call 22 [.ref o, .int a0, .int a1] h with
    | some (v, h', dk, dn) => am_add dk dn (am_f d scr L call 21 n 187 lv (v.toList ++ []) h')
    | none => none) else none := k_iv0 (k := 42) (as := [.int a0, .int a1]) (r := []) rfl rfl rfl rfl (Nat.le_of_ble_eq_true rfl)
theorem s_21_187 (d L n : Nat) (scr : Nat → Int32) (call : Nat → List Value → am_H → Option am_X) (lv : am_L) (h : am_H) (x : Int32) : am_f d scr L call 21 (n + 1) 187 lv [.int x] h = some (some (.int x), h, 0, 0) := k_ir rfl rfl
theorem s_21_188 (d L n : Nat) (scr : Nat → Int32) (call : Nat → List Value → am_H → Option am_X) (lv : am_L) (st : List Value) (h : am_H) : am_f d scr L call 21 (n + 1) 188 lv st h = (match am_ld lv 0 with
    | some (.ref x) => am_f d scr L call 21 n 189 lv (.ref x :: st) h
    | _ => none) := k_la (i := .aload_n 0) rfl rfl rfl rfl
theorem s_21_189 (d L n : Nat) (scr : Nat → Int32) (call : Nat → List Value → am_H → Option am_X) (lv : am_L) (st : List Value) (h : am_H) : am_f d scr L call 21 (n + 1) 189 lv st h = (match am_ld lv 1 with
    | some (.int x) => am_f d scr L call 21 n 190 lv (.int x :: st) h
    | _ => none) := k_li (i := .iload_n 1) rfl rfl rfl rfl
theorem s_21_190 (d L n : Nat) (scr : Nat → Int32) (call : Nat → List Value → am_H → Option am_X) (lv : am_L) (h : am_H) (o : Nat) (a0 : Int32)  : am_f d scr L call 21 (n + 1) 190 lv (.int a0 :: .ref o :: []) h = if am_at h o 2 = true then (match call 26 [.ref o, .int a0] h with
    | some (v, h', dk, dn) => am_add dk dn (am_f d scr L call 21 n 193 lv (v.toList ++ []) h')
    | none => none) else none := k_iv0 (k := 70) (as := [.int a0]) (r := []) rfl rfl rfl rfl (Nat.le_of_ble_eq_true rfl)
theorem s_21_193 (d L n : Nat) (scr : Nat → Int32) (call : Nat → List Value → am_H → Option am_X) (lv : am_L) (h : am_H) (x : Int32) : am_f d scr L call 21 (n + 1) 193 lv [.int x] h = some (some (.int x), h, 0, 0) := k_ir rfl rfl
theorem s_21_194 (d L n : Nat) (scr : Nat → Int32) (call : Nat → List Value → am_H → Option am_X) (lv : am_L) (st : List Value) (h : am_H) : am_f d scr L call 21 (n + 1) 194 lv st h = (match am_ld lv 0 with
    | some (.ref x) => am_f d scr L call 21 n 195 lv (.ref x :: st) h
    | _ => none) := k_la (i := .aload_n 0) rfl rfl rfl rfl
theorem s_21_195 (d L n : Nat) (scr : Nat → Int32) (call : Nat → List Value → am_H → Option am_X) (lv : am_L) (st : List Value) (h : am_H) : am_f d scr L call 21 (n + 1) 195 lv st h = (match am_ld lv 1 with
    | some (.int x) => am_f d scr L call 21 n 196 lv (.int x :: st) h
    | _ => none) := k_li (i := .iload_n 1) rfl rfl rfl rfl
theorem s_21_196 (d L n : Nat) (scr : Nat → Int32) (call : Nat → List Value → am_H → Option am_X) (lv : am_L) (st : List Value) (h : am_H) : am_f d scr L call 21 (n + 1) 196 lv st h = (match am_ld lv 0 with
    | some (.ref x) => am_f d scr L call 21 n 197 lv (.ref x :: st) h
    | _ => none) := k_la (i := .aload_n 0) rfl rfl rfl rfl
set_option maxRecDepth 100000 in
theorem s_21_197 (d L n : Nat) (scr : Nat → Int32) (call : Nat → List Value → am_H → Option am_X) (lv : am_L) (st : List Value) (h : am_H) (a : Nat) : am_f d scr L call 21 (n + 1) 197 lv (.ref a :: st) h = (match am_get h a 2 0 with
    | some v => am_f d scr L call 21 n 200 lv (v :: st) h
    | none => none) := k_gf (k := 9) rfl rfl
set_option maxRecDepth 100000 in
theorem s_21_200 (d L n : Nat) (scr : Nat → Int32) (call : Nat → List Value → am_H → Option am_X) (lv : am_L) (st : List Value) (h : am_H) (a : Nat) : am_f d scr L call 21 (n + 1) 200 lv (.ref a :: st) h = (match am_get h a 5 7 with
    | some v => am_f d scr L call 21 n 203 lv (v :: st) h
    | none => none) := k_gf (k := 49) rfl rfl
set_option maxRecDepth 100000 in
theorem s_21_203 (d L n : Nat) (scr : Nat → Int32) (call : Nat → List Value → am_H → Option am_X) (lv : am_L) (st : List Value) (h : am_H) : am_f d scr L call 21 (n + 1) 203 lv st h = (match am_ld lv 1 with
    | some (.int x) => am_f d scr L call 21 n 204 lv (.int x :: st) h
    | _ => none) := k_li (i := .iload_n 1) rfl rfl rfl rfl
set_option maxRecDepth 100000 in
theorem s_21_204 (d L n : Nat) (scr : Nat → Int32) (call : Nat → List Value → am_H → Option am_X) (lv : am_L) (st : List Value) (h : am_H) (a : Nat) (i : Int32) : am_f d scr L call 21 (n + 1) 204 lv (.int i :: .ref a :: st) h = (match am_ild scr L h a i with
    | some x => am_f d scr L call 21 n 205 lv (.int x :: st) h
    | none => none) := k_ia rfl
set_option maxRecDepth 100000 in
theorem s_21_205 (d L n : Nat) (scr : Nat → Int32) (call : Nat → List Value → am_H → Option am_X) (lv : am_L) (h : am_H) (o : Nat) (a0 : Int32) (a1 : Int32)  : am_f d scr L call 21 (n + 1) 205 lv (.int a1 :: .int a0 :: .ref o :: []) h = if am_at h o 2 = true then (match call 22 [.ref o, .int a0, .int a1] h with
    | some (v, h', dk, dn) => am_add dk dn (am_f d scr L call 21 n 208 lv (v.toList ++ []) h')
    | none => none) else none := k_iv0 (k := 42) (as := [.int a0, .int a1]) (r := []) rfl rfl rfl rfl (Nat.le_of_ble_eq_true rfl)
set_option maxRecDepth 100000 in
theorem s_21_208 (d L n : Nat) (scr : Nat → Int32) (call : Nat → List Value → am_H → Option am_X) (lv : am_L) (st : List Value) (h : am_H) (x : Int32) : am_f d scr L call 21 (n + 1) 208 lv (.int x :: st) h = am_f d scr L call 21 n 209 lv st h := k_nx (i := .pop) rfl rfl
set_option maxRecDepth 100000 in
theorem s_21_209 (d L n : Nat) (scr : Nat → Int32) (call : Nat → List Value → am_H → Option am_X) (lv : am_L) (st : List Value) (h : am_H) : am_f d scr L call 21 (n + 1) 209 lv st h = (match am_ld lv 0 with
    | some (.ref x) => am_f d scr L call 21 n 210 lv (.ref x :: st) h
    | _ => none) := k_la (i := .aload_n 0) rfl rfl rfl rfl
set_option maxRecDepth 100000 in
theorem s_21_210 (d L n : Nat) (scr : Nat → Int32) (call : Nat → List Value → am_H → Option am_X) (lv : am_L) (st : List Value) (h : am_H) : am_f d scr L call 21 (n + 1) 210 lv st h = (match am_ld lv 2 with
    | some (.int x) => am_f d scr L call 21 n 211 lv (.int x :: st) h
    | _ => none) := k_li (i := .iload_n 2) rfl rfl rfl rfl
set_option maxRecDepth 100000 in
theorem s_21_211 (d L n : Nat) (scr : Nat → Int32) (call : Nat → List Value → am_H → Option am_X) (lv : am_L) (st : List Value) (h : am_H) : am_f d scr L call 21 (n + 1) 211 lv st h = (match am_ld lv 0 with
    | some (.ref x) => am_f d scr L call 21 n 212 lv (.ref x :: st) h
    | _ => none) := k_la (i := .aload_n 0) rfl rfl rfl rfl
set_option maxRecDepth 100000 in
theorem s_21_212 (d L n : Nat) (scr : Nat → Int32) (call : Nat → List Value → am_H → Option am_X) (lv : am_L) (st : List Value) (h : am_H) (a : Nat) : am_f d scr L call 21 (n + 1) 212 lv (.ref a :: st) h = (match am_get h a 2 0 with
    | some v => am_f d scr L call 21 n 215 lv (v :: st) h
    | none => none) := k_gf (k := 9) rfl rfl
set_option maxRecDepth 100000 in
theorem s_21_215 (d L n : Nat) (scr : Nat → Int32) (call : Nat → List Value → am_H → Option am_X) (lv : am_L) (st : List Value) (h : am_H) (a : Nat) : am_f d scr L call 21 (n + 1) 215 lv (.ref a :: st) h = (match am_get h a 5 7 with
    | some v => am_f d scr L call 21 n 218 lv (v :: st) h
    | none => none) := k_gf (k := 49) rfl rfl
set_option maxRecDepth 100000 in
theorem s_21_218 (d L n : Nat) (scr : Nat → Int32) (call : Nat → List Value → am_H → Option am_X) (lv : am_L) (st : List Value) (h : am_H) : am_f d scr L call 21 (n + 1) 218 lv st h = (match am_ld lv 1 with
    | some (.int x) => am_f d scr L call 21 n 219 lv (.int x :: st) h
    | _ => none) := k_li (i := .iload_n 1) rfl rfl rfl rfl
set_option maxRecDepth 100000 in
theorem s_21_219 (d L n : Nat) (scr : Nat → Int32) (call : Nat → List Value → am_H → Option am_X) (lv : am_L) (st : List Value) (h : am_H) (a : Nat) (i : Int32) : am_f d scr L call 21 (n + 1) 219 lv (.int i :: .ref a :: st) h = (match am_ild scr L h a i with
    | some x => am_f d scr L call 21 n 220 lv (.int x :: st) h
    | none => none) := k_ia rfl
set_option maxRecDepth 100000 in
theorem s_21_220 (d L n : Nat) (scr : Nat → Int32) (call : Nat → List Value → am_H → Option am_X) (lv : am_L) (h : am_H) (o : Nat) (a0 : Int32) (a1 : Int32)  : am_f d scr L call 21 (n + 1) 220 lv (.int a1 :: .int a0 :: .ref o :: []) h = if am_at h o 2 = true then (match call 23 [.ref o, .int a0, .int a1] h with
    | some (v, h', dk, dn) => am_add dk dn (am_f d scr L call 21 n 223 lv (v.toList ++ []) h')
    | none => none) else none := k_iv0 (k := 73) (as := [.int a0, .int a1]) (r := []) rfl rfl rfl rfl (Nat.le_of_ble_eq_true rfl)
set_option maxRecDepth 100000 in
theorem s_21_223 (d L n : Nat) (scr : Nat → Int32) (call : Nat → List Value → am_H → Option am_X) (lv : am_L) (h : am_H) (x : Int32) : am_f d scr L call 21 (n + 1) 223 lv [.int x] h = some (some (.int x), h, 0, 0) := k_ir rfl rfl
set_option maxRecDepth 100000 in
theorem s_21_224 (d L n : Nat) (scr : Nat → Int32) (call : Nat → List Value → am_H → Option am_X) (lv : am_L) (st : List Value) (h : am_H) : am_f d scr L call 21 (n + 1) 224 lv st h = (match am_ld lv 0 with
    | some (.ref x) => am_f d scr L call 21 n 225 lv (.ref x :: st) h
    | _ => none) := k_la (i := .aload_n 0) rfl rfl rfl rfl
set_option maxRecDepth 100000 in
theorem s_21_225 (d L n : Nat) (scr : Nat → Int32) (call : Nat → List Value → am_H → Option am_X) (lv : am_L) (st : List Value) (h : am_H) : am_f d scr L call 21 (n + 1) 225 lv st h = (match am_ld lv 1 with
    | some (.int x) => am_f d scr L call 21 n 226 lv (.int x :: st) h
    | _ => none) := k_li (i := .iload_n 1) rfl rfl rfl rfl
set_option maxRecDepth 100000 in
theorem s_21_226 (d L n : Nat) (scr : Nat → Int32) (call : Nat → List Value → am_H → Option am_X) (lv : am_L) (st : List Value) (h : am_H) : am_f d scr L call 21 (n + 1) 226 lv st h = am_f d scr L call 21 n 227 lv (.int 1 :: st) h := k_nx (i := .iconst 1) rfl rfl
set_option maxRecDepth 100000 in
theorem s_21_227 (d L n : Nat) (scr : Nat → Int32) (call : Nat → List Value → am_H → Option am_X) (lv : am_L) (h : am_H) (o : Nat) (a0 : Int32) (a1 : Int32)  : am_f d scr L call 21 (n + 1) 227 lv (.int a1 :: .int a0 :: .ref o :: []) h = if am_at h o 2 = true then (match call 22 [.ref o, .int a0, .int a1] h with
    | some (v, h', dk, dn) => am_add dk dn (am_f d scr L call 21 n 230 lv (v.toList ++ []) h')
    | none => none) else none := k_iv0 (k := 42) (as := [.int a0, .int a1]) (r := []) rfl rfl rfl rfl (Nat.le_of_ble_eq_true rfl)
set_option maxRecDepth 100000 in
theorem s_21_230 (d L n : Nat) (scr : Nat → Int32) (call : Nat → List Value → am_H → Option am_X) (lv : am_L) (st : List Value) (h : am_H) (x : Int32) : am_f d scr L call 21 (n + 1) 230 lv (.int x :: st) h = am_f d scr L call 21 n 231 lv st h := k_nx (i := .pop) rfl rfl
set_option maxRecDepth 100000 in
theorem s_21_231 (d L n : Nat) (scr : Nat → Int32) (call : Nat → List Value → am_H → Option am_X) (lv : am_L) (st : List Value) (h : am_H) : am_f d scr L call 21 (n + 1) 231 lv st h = (match am_ld lv 0 with
    | some (.ref x) => am_f d scr L call 21 n 232 lv (.ref x :: st) h
    | _ => none) := k_la (i := .aload_n 0) rfl rfl rfl rfl
set_option maxRecDepth 100000 in
theorem s_21_232 (d L n : Nat) (scr : Nat → Int32) (call : Nat → List Value → am_H → Option am_X) (lv : am_L) (st : List Value) (h : am_H) : am_f d scr L call 21 (n + 1) 232 lv st h = (match am_ld lv 2 with
    | some (.int x) => am_f d scr L call 21 n 233 lv (.int x :: st) h
    | _ => none) := k_li (i := .iload_n 2) rfl rfl rfl rfl
set_option maxRecDepth 100000 in
theorem s_21_233 (d L n : Nat) (scr : Nat → Int32) (call : Nat → List Value → am_H → Option am_X) (lv : am_L) (st : List Value) (h : am_H) : am_f d scr L call 21 (n + 1) 233 lv st h = am_f d scr L call 21 n 234 lv (.int 1 :: st) h := k_nx (i := .iconst 1) rfl rfl
set_option maxRecDepth 100000 in
theorem s_21_234 (d L n : Nat) (scr : Nat → Int32) (call : Nat → List Value → am_H → Option am_X) (lv : am_L) (h : am_H) (o : Nat) (a0 : Int32) (a1 : Int32)  : am_f d scr L call 21 (n + 1) 234 lv (.int a1 :: .int a0 :: .ref o :: []) h = if am_at h o 2 = true then (match call 23 [.ref o, .int a0, .int a1] h with
    | some (v, h', dk, dn) => am_add dk dn (am_f d scr L call 21 n 237 lv (v.toList ++ []) h')
    | none => none) else none := k_iv0 (k := 73) (as := [.int a0, .int a1]) (r := []) rfl rfl rfl rfl (Nat.le_of_ble_eq_true rfl)
set_option maxRecDepth 100000 in
theorem s_21_237 (d L n : Nat) (scr : Nat → Int32) (call : Nat → List Value → am_H → Option am_X) (lv : am_L) (h : am_H) (x : Int32) : am_f d scr L call 21 (n + 1) 237 lv [.int x] h = some (some (.int x), h, 0, 0) := k_ir rfl rfl
set_option maxRecDepth 100000 in
theorem s_21_238 (d L n : Nat) (scr : Nat → Int32) (call : Nat → List Value → am_H → Option am_X) (lv : am_L) (st : List Value) (h : am_H) : am_f d scr L call 21 (n + 1) 238 lv st h = (match am_ld lv 0 with
    | some (.ref x) => am_f d scr L call 21 n 239 lv (.ref x :: st) h
    | _ => none) := k_la (i := .aload_n 0) rfl rfl rfl rfl
set_option maxRecDepth 100000 in
theorem s_21_239 (d L n : Nat) (scr : Nat → Int32) (call : Nat → List Value → am_H → Option am_X) (lv : am_L) (st : List Value) (h : am_H) : am_f d scr L call 21 (n + 1) 239 lv st h = (match am_ld lv 1 with
    | some (.int x) => am_f d scr L call 21 n 240 lv (.int x :: st) h
    | _ => none) := k_li (i := .iload_n 1) rfl rfl rfl rfl
set_option maxRecDepth 100000 in
theorem s_21_240 (d L n : Nat) (scr : Nat → Int32) (call : Nat → List Value → am_H → Option am_X) (lv : am_L) (st : List Value) (h : am_H) : am_f d scr L call 21 (n + 1) 240 lv st h = am_f d scr L call 21 n 241 lv (.int 1 :: st) h := k_nx (i := .iconst 1) rfl rfl
set_option maxRecDepth 100000 in
theorem s_21_241 (d L n : Nat) (scr : Nat → Int32) (call : Nat → List Value → am_H → Option am_X) (lv : am_L) (h : am_H) (o : Nat) (a0 : Int32) (a1 : Int32)  : am_f d scr L call 21 (n + 1) 241 lv (.int a1 :: .int a0 :: .ref o :: []) h = if am_at h o 2 = true then (match call 27 [.ref o, .int a0, .int a1] h with
    | some (v, h', dk, dn) => am_add dk dn (am_f d scr L call 21 n 244 lv (v.toList ++ []) h')
    | none => none) else none := k_iv0 (k := 61) (as := [.int a0, .int a1]) (r := []) rfl rfl rfl rfl (Nat.le_of_ble_eq_true rfl)
set_option maxRecDepth 100000 in
theorem s_21_244 (d L n : Nat) (scr : Nat → Int32) (call : Nat → List Value → am_H → Option am_X) (lv : am_L) (h : am_H) (x : Int32) : am_f d scr L call 21 (n + 1) 244 lv [.int x] h = some (some (.int x), h, 0, 0) := k_ir rfl rfl
-- 22: BlameDesk$Checker.give(II)I
theorem s_22_0 (d L n : Nat) (scr : Nat → Int32) (call : Nat → List Value → am_H → Option am_X) (lv : am_L) (st : List Value) (h : am_H) : am_f d scr L call 22 (n + 1) 0 lv st h = (match am_ld lv 0 with
    | some (.ref x) => am_f d scr L call 22 n 1 lv (.ref x :: st) h
    | _ => none) := k_la (i := .aload_n 0) rfl rfl rfl rfl
theorem s_22_1 (d L n : Nat) (scr : Nat → Int32) (call : Nat → List Value → am_H → Option am_X) (lv : am_L) (st : List Value) (h : am_H) (a : Nat) : am_f d scr L call 22 (n + 1) 1 lv (.ref a :: st) h = (match am_get h a 2 0 with
    | some v => am_f d scr L call 22 n 4 lv (v :: st) h
    | none => none) := k_gf (k := 9) rfl rfl
theorem s_22_4 (d L n : Nat) (scr : Nat → Int32) (call : Nat → List Value → am_H → Option am_X) (lv : am_L) (st : List Value) (h : am_H) (a : Nat) : am_f d scr L call 22 (n + 1) 4 lv (.ref a :: st) h = (match am_get h a 5 9 with
    | some v => am_f d scr L call 22 n 7 lv (v :: st) h
    | none => none) := k_gf (k := 52) rfl rfl
theorem s_22_7 (d L n : Nat) (scr : Nat → Int32) (call : Nat → List Value → am_H → Option am_X) (lv : am_L) (st : List Value) (h : am_H) : am_f d scr L call 22 (n + 1) 7 lv st h = (match am_ld lv 1 with
    | some (.int x) => am_f d scr L call 22 n 8 lv (.int x :: st) h
    | _ => none) := k_li (i := .iload_n 1) rfl rfl rfl rfl
theorem s_22_8 (d L n : Nat) (scr : Nat → Int32) (call : Nat → List Value → am_H → Option am_X) (lv : am_L) (st : List Value) (h : am_H) : am_f d scr L call 22 (n + 1) 8 lv st h = (match am_ld lv 2 with
    | some (.int x) => am_f d scr L call 22 n 9 lv (.int x :: st) h
    | _ => none) := k_li (i := .iload_n 2) rfl rfl rfl rfl
theorem s_22_9 (d L n : Nat) (scr : Nat → Int32) (call : Nat → List Value → am_H → Option am_X) (lv : am_L) (st : List Value) (h : am_H) (a : Nat) (i : Int32) (x : Int32) : am_f d scr L call 22 (n + 1) 9 lv (.int x :: .int i :: .ref a :: st) h = (match am_ist h a i x with
    | some h' => am_f d scr L call 22 n 10 lv st h'
    | none => none) := k_is rfl
theorem s_22_10 (d L n : Nat) (scr : Nat → Int32) (call : Nat → List Value → am_H → Option am_X) (lv : am_L) (st : List Value) (h : am_H) : am_f d scr L call 22 (n + 1) 10 lv st h = (match am_ld lv 0 with
    | some (.ref x) => am_f d scr L call 22 n 11 lv (.ref x :: st) h
    | _ => none) := k_la (i := .aload_n 0) rfl rfl rfl rfl
theorem s_22_11 (d L n : Nat) (scr : Nat → Int32) (call : Nat → List Value → am_H → Option am_X) (lv : am_L) (st : List Value) (h : am_H) (a : Nat) : am_f d scr L call 22 (n + 1) 11 lv (.ref a :: st) h = (match am_get h a 2 0 with
    | some v => am_f d scr L call 22 n 14 lv (v :: st) h
    | none => none) := k_gf (k := 9) rfl rfl
theorem s_22_14 (d L n : Nat) (scr : Nat → Int32) (call : Nat → List Value → am_H → Option am_X) (lv : am_L) (st : List Value) (h : am_H) (a : Nat) : am_f d scr L call 22 (n + 1) 14 lv (.ref a :: st) h = (match am_get h a 5 10 with
    | some v => am_f d scr L call 22 n 17 lv (v :: st) h
    | none => none) := k_gf (k := 76) rfl rfl
theorem s_22_17 (d L n : Nat) (scr : Nat → Int32) (call : Nat → List Value → am_H → Option am_X) (lv : am_L) (st : List Value) (h : am_H) : am_f d scr L call 22 (n + 1) 17 lv st h = (match am_ld lv 1 with
    | some (.int x) => am_f d scr L call 22 n 18 lv (.int x :: st) h
    | _ => none) := k_li (i := .iload_n 1) rfl rfl rfl rfl
theorem s_22_18 (d L n : Nat) (scr : Nat → Int32) (call : Nat → List Value → am_H → Option am_X) (lv : am_L) (st : List Value) (h : am_H) : am_f d scr L call 22 (n + 1) 18 lv st h = (match am_ld lv 2 with
    | some (.int x) => am_f d scr L call 22 n 19 lv (.int x :: st) h
    | _ => none) := k_li (i := .iload_n 2) rfl rfl rfl rfl
theorem s_22_19 (d L n : Nat) (scr : Nat → Int32) (call : Nat → List Value → am_H → Option am_X) (lv : am_L) (st : List Value) (h : am_H) (a : Nat) (i : Int32) (x : Int32) : am_f d scr L call 22 (n + 1) 19 lv (.int x :: .int i :: .ref a :: st) h = (match am_ist h a i x with
    | some h' => am_f d scr L call 22 n 20 lv st h'
    | none => none) := k_is rfl
theorem s_22_20 (d L n : Nat) (scr : Nat → Int32) (call : Nat → List Value → am_H → Option am_X) (lv : am_L) (st : List Value) (h : am_H) : am_f d scr L call 22 (n + 1) 20 lv st h = am_f d scr L call 22 n 21 lv (.int (-1) :: st) h := k_nx (i := .iconst (-1)) rfl rfl
theorem s_22_21 (d L n : Nat) (scr : Nat → Int32) (call : Nat → List Value → am_H → Option am_X) (lv : am_L) (h : am_H) (x : Int32) : am_f d scr L call 22 (n + 1) 21 lv [.int x] h = some (some (.int x), h, 0, 0) := k_ir rfl rfl
-- 23: BlameDesk$Checker.require(II)I
theorem s_23_0 (d L n : Nat) (scr : Nat → Int32) (call : Nat → List Value → am_H → Option am_X) (lv : am_L) (st : List Value) (h : am_H) : am_f d scr L call 23 (n + 1) 0 lv st h = (match am_ld lv 0 with
    | some (.ref x) => am_f d scr L call 23 n 1 lv (.ref x :: st) h
    | _ => none) := k_la (i := .aload_n 0) rfl rfl rfl rfl
theorem s_23_1 (d L n : Nat) (scr : Nat → Int32) (call : Nat → List Value → am_H → Option am_X) (lv : am_L) (st : List Value) (h : am_H) (a : Nat) : am_f d scr L call 23 (n + 1) 1 lv (.ref a :: st) h = (match am_get h a 2 1 with
    | some v => am_f d scr L call 23 n 4 lv (v :: st) h
    | none => none) := k_gf (k := 21) rfl rfl
theorem s_23_4 (d L n : Nat) (scr : Nat → Int32) (call : Nat → List Value → am_H → Option am_X) (lv : am_L) (st : List Value) (h : am_H) : am_f d scr L call 23 (n + 1) 4 lv st h = (match am_ld lv 0 with
    | some (.ref x) => am_f d scr L call 23 n 5 lv (.ref x :: st) h
    | _ => none) := k_la (i := .aload_n 0) rfl rfl rfl rfl
theorem s_23_5 (d L n : Nat) (scr : Nat → Int32) (call : Nat → List Value → am_H → Option am_X) (lv : am_L) (st : List Value) (h : am_H) (a : Nat) : am_f d scr L call 23 (n + 1) 5 lv (.ref a :: st) h = (match am_get h a 2 0 with
    | some v => am_f d scr L call 23 n 8 lv (v :: st) h
    | none => none) := k_gf (k := 9) rfl rfl
theorem s_23_8 (d L n : Nat) (scr : Nat → Int32) (call : Nat → List Value → am_H → Option am_X) (lv : am_L) (st : List Value) (h : am_H) (a : Nat) : am_f d scr L call 23 (n + 1) 8 lv (.ref a :: st) h = (match am_get h a 5 9 with
    | some v => am_f d scr L call 23 n 11 lv (v :: st) h
    | none => none) := k_gf (k := 52) rfl rfl
theorem s_23_11 (d L n : Nat) (scr : Nat → Int32) (call : Nat → List Value → am_H → Option am_X) (lv : am_L) (st : List Value) (h : am_H) : am_f d scr L call 23 (n + 1) 11 lv st h = (match am_ld lv 1 with
    | some (.int x) => am_f d scr L call 23 n 12 lv (.int x :: st) h
    | _ => none) := k_li (i := .iload_n 1) rfl rfl rfl rfl
theorem s_23_12 (d L n : Nat) (scr : Nat → Int32) (call : Nat → List Value → am_H → Option am_X) (lv : am_L) (st : List Value) (h : am_H) (a : Nat) (i : Int32) : am_f d scr L call 23 (n + 1) 12 lv (.int i :: .ref a :: st) h = (match am_ild scr L h a i with
    | some x => am_f d scr L call 23 n 13 lv (.int x :: st) h
    | none => none) := k_ia rfl
theorem s_23_13 (d L n : Nat) (scr : Nat → Int32) (call : Nat → List Value → am_H → Option am_X) (lv : am_L) (st : List Value) (h : am_H) : am_f d scr L call 23 (n + 1) 13 lv st h = (match am_ld lv 2 with
    | some (.int x) => am_f d scr L call 23 n 14 lv (.int x :: st) h
    | _ => none) := k_li (i := .iload_n 2) rfl rfl rfl rfl
theorem s_23_14 (d L n : Nat) (scr : Nat → Int32) (call : Nat → List Value → am_H → Option am_X) (lv : am_L) (h : am_H) (o : Nat) (a0 : Int32) (a1 : Int32)  : am_f d scr L call 23 (n + 1) 14 lv (.int a1 :: .int a0 :: .ref o :: []) h = if am_at h o 7 = true then (match call 81 [.ref o, .int a0, .int a1] h with
    | some (v, h', dk, dn) => am_add dk dn (am_f d scr L call 23 n 17 lv (v.toList ++ []) h')
    | none => none) else none := k_iv0 (k := 79) (as := [.int a0, .int a1]) (r := []) rfl rfl rfl rfl (Nat.le_of_ble_eq_true rfl)
theorem s_23_17 (d L n : Nat) (scr : Nat → Int32) (call : Nat → List Value → am_H → Option am_X) (lv : am_L) (st : List Value) (h : am_H) (x : Int32) : am_f d scr L call 23 (n + 1) 17 lv (.int x :: st) h = if ¬ x = 0 then am_f d scr L call 23 n 22 lv st h else am_f d scr L call 23 n 20 lv st h := k_if_ne (o := 5) rfl ⟨by decide, rfl⟩
theorem s_23_20 (d L n : Nat) (scr : Nat → Int32) (call : Nat → List Value → am_H → Option am_X) (lv : am_L) (st : List Value) (h : am_H) : am_f d scr L call 23 (n + 1) 20 lv st h = (match am_ld lv 1 with
    | some (.int x) => am_f d scr L call 23 n 21 lv (.int x :: st) h
    | _ => none) := k_li (i := .iload_n 1) rfl rfl rfl rfl
theorem s_23_21 (d L n : Nat) (scr : Nat → Int32) (call : Nat → List Value → am_H → Option am_X) (lv : am_L) (h : am_H) (x : Int32) : am_f d scr L call 23 (n + 1) 21 lv [.int x] h = some (some (.int x), h, 0, 0) := k_ir rfl rfl
theorem s_23_22 (d L n : Nat) (scr : Nat → Int32) (call : Nat → List Value → am_H → Option am_X) (lv : am_L) (st : List Value) (h : am_H) : am_f d scr L call 23 (n + 1) 22 lv st h = (match am_ld lv 0 with
    | some (.ref x) => am_f d scr L call 23 n 23 lv (.ref x :: st) h
    | _ => none) := k_la (i := .aload_n 0) rfl rfl rfl rfl
theorem s_23_23 (d L n : Nat) (scr : Nat → Int32) (call : Nat → List Value → am_H → Option am_X) (lv : am_L) (st : List Value) (h : am_H) (a : Nat) : am_f d scr L call 23 (n + 1) 23 lv (.ref a :: st) h = (match am_get h a 2 0 with
    | some v => am_f d scr L call 23 n 26 lv (v :: st) h
    | none => none) := k_gf (k := 9) rfl rfl
theorem s_23_26 (d L n : Nat) (scr : Nat → Int32) (call : Nat → List Value → am_H → Option am_X) (lv : am_L) (st : List Value) (h : am_H) (a : Nat) : am_f d scr L call 23 (n + 1) 26 lv (.ref a :: st) h = (match am_get h a 5 10 with
    | some v => am_f d scr L call 23 n 29 lv (v :: st) h
    | none => none) := k_gf (k := 76) rfl rfl
theorem s_23_29 (d L n : Nat) (scr : Nat → Int32) (call : Nat → List Value → am_H → Option am_X) (lv : am_L) (st : List Value) (h : am_H) : am_f d scr L call 23 (n + 1) 29 lv st h = (match am_ld lv 1 with
    | some (.int x) => am_f d scr L call 23 n 30 lv (.int x :: st) h
    | _ => none) := k_li (i := .iload_n 1) rfl rfl rfl rfl
theorem s_23_30 (d L n : Nat) (scr : Nat → Int32) (call : Nat → List Value → am_H → Option am_X) (lv : am_L) (st : List Value) (h : am_H) : am_f d scr L call 23 (n + 1) 30 lv st h = (match am_ld lv 2 with
    | some (.int x) => am_f d scr L call 23 n 31 lv (.int x :: st) h
    | _ => none) := k_li (i := .iload_n 2) rfl rfl rfl rfl
theorem s_23_31 (d L n : Nat) (scr : Nat → Int32) (call : Nat → List Value → am_H → Option am_X) (lv : am_L) (st : List Value) (h : am_H) (a : Nat) (i : Int32) (x : Int32) : am_f d scr L call 23 (n + 1) 31 lv (.int x :: .int i :: .ref a :: st) h = (match am_ist h a i x with
    | some h' => am_f d scr L call 23 n 32 lv st h'
    | none => none) := k_is rfl
theorem s_23_32 (d L n : Nat) (scr : Nat → Int32) (call : Nat → List Value → am_H → Option am_X) (lv : am_L) (st : List Value) (h : am_H) : am_f d scr L call 23 (n + 1) 32 lv st h = am_f d scr L call 23 n 33 lv (.int (-1) :: st) h := k_nx (i := .iconst (-1)) rfl rfl
theorem s_23_33 (d L n : Nat) (scr : Nat → Int32) (call : Nat → List Value → am_H → Option am_X) (lv : am_L) (h : am_H) (x : Int32) : am_f d scr L call 23 (n + 1) 33 lv [.int x] h = some (some (.int x), h, 0, 0) := k_ir rfl rfl
-- 24: BlameDesk$Checker.errorInVariable(I)I
theorem s_24_0 (d L n : Nat) (scr : Nat → Int32) (call : Nat → List Value → am_H → Option am_X) (lv : am_L) (st : List Value) (h : am_H) : am_f d scr L call 24 (n + 1) 0 lv st h = am_f d scr L call 24 n 1 lv (.int 0 :: st) h := k_nx (i := .iconst 0) rfl rfl
theorem s_24_1 (d L n : Nat) (scr : Nat → Int32) (call : Nat → List Value → am_H → Option am_X) (lv : am_L) (st : List Value) (h : am_H) (x : Int32) : am_f d scr L call 24 (n + 1) 1 lv (.int x :: st) h = am_f d scr L call 24 n 2 (am_st1 lv 2 (.int x)) st h := k_nx (i := .istore_n 2) rfl rfl
theorem s_24_2 (d L n : Nat) (scr : Nat → Int32) (call : Nat → List Value → am_H → Option am_X) (lv : am_L) (st : List Value) (h : am_H) : am_f d scr L call 24 (n + 1) 2 lv st h = (match am_ld lv 0 with
    | some (.ref x) => am_f d scr L call 24 n 3 lv (.ref x :: st) h
    | _ => none) := k_la (i := .aload_n 0) rfl rfl rfl rfl
theorem s_24_3 (d L n : Nat) (scr : Nat → Int32) (call : Nat → List Value → am_H → Option am_X) (lv : am_L) (st : List Value) (h : am_H) (a : Nat) : am_f d scr L call 24 (n + 1) 3 lv (.ref a :: st) h = (match am_get h a 2 0 with
    | some v => am_f d scr L call 24 n 6 lv (v :: st) h
    | none => none) := k_gf (k := 9) rfl rfl
theorem s_24_6 (d L n : Nat) (scr : Nat → Int32) (call : Nat → List Value → am_H → Option am_X) (lv : am_L) (st : List Value) (h : am_H) (a : Nat) : am_f d scr L call 24 (n + 1) 6 lv (.ref a :: st) h = (match am_get h a 5 2 with
    | some v => am_f d scr L call 24 n 9 lv (v :: st) h
    | none => none) := k_gf (k := 83) rfl rfl
theorem s_24_9 (d L n : Nat) (scr : Nat → Int32) (call : Nat → List Value → am_H → Option am_X) (lv : am_L) (st : List Value) (h : am_H) : am_f d scr L call 24 (n + 1) 9 lv st h = (match am_ld lv 1 with
    | some (.int x) => am_f d scr L call 24 n 10 lv (.int x :: st) h
    | _ => none) := k_li (i := .iload_n 1) rfl rfl rfl rfl
theorem s_24_10 (d L n : Nat) (scr : Nat → Int32) (call : Nat → List Value → am_H → Option am_X) (lv : am_L) (st : List Value) (h : am_H) (a : Nat) (i : Int32) : am_f d scr L call 24 (n + 1) 10 lv (.int i :: .ref a :: st) h = (match am_ild scr L h a i with
    | some x => am_f d scr L call 24 n 11 lv (.int x :: st) h
    | none => none) := k_ia rfl
theorem s_24_11 (d L n : Nat) (scr : Nat → Int32) (call : Nat → List Value → am_H → Option am_X) (lv : am_L) (st : List Value) (h : am_H) (x : Int32) : am_f d scr L call 24 (n + 1) 11 lv (.int x :: st) h = am_f d scr L call 24 n 12 (am_st1 lv 3 (.int x)) st h := k_nx (i := .istore_n 3) rfl rfl
theorem s_24_12 (d L n : Nat) (scr : Nat → Int32) (call : Nat → List Value → am_H → Option am_X) (lv : am_L) (st : List Value) (h : am_H) : am_f d scr L call 24 (n + 1) 12 lv st h = am_f d scr L call 24 n 13 lv (.int 0 :: st) h := k_nx (i := .iconst 0) rfl rfl
theorem s_24_13 (d L n : Nat) (scr : Nat → Int32) (call : Nat → List Value → am_H → Option am_X) (lv : am_L) (st : List Value) (h : am_H) (x : Int32) : am_f d scr L call 24 (n + 1) 13 lv (.int x :: st) h = am_f d scr L call 24 n 15 (am_st1 lv 4 (.int x)) st h := k_nx (i := .istore 4) rfl rfl
theorem s_24_15 (d L n : Nat) (scr : Nat → Int32) (call : Nat → List Value → am_H → Option am_X) (lv : am_L) (st : List Value) (h : am_H) : am_f d scr L call 24 (n + 1) 15 lv st h = (match am_ld lv 4 with
    | some (.int x) => am_f d scr L call 24 n 17 lv (.int x :: st) h
    | _ => none) := k_li (i := .iload 4) rfl rfl rfl rfl
theorem s_24_17 (d L n : Nat) (scr : Nat → Int32) (call : Nat → List Value → am_H → Option am_X) (lv : am_L) (st : List Value) (h : am_H) : am_f d scr L call 24 (n + 1) 17 lv st h = am_f d scr L call 24 n 19 lv (.int 100 :: st) h := k_nx (i := .bipush 100) rfl rfl
theorem s_24_19 (d L n : Nat) (scr : Nat → Int32) (call : Nat → List Value → am_H → Option am_X) (lv : am_L) (st : List Value) (h : am_H) (x y : Int32) : am_f d scr L call 24 (n + 1) 19 lv (.int y :: .int x :: st) h = if y ≤ x then am_f d scr L call 24 n 105 lv st h else am_f d scr L call 24 n 22 lv st h := k_ic_ge (o := 86) rfl ⟨by decide, rfl⟩
theorem s_24_22 (d L n : Nat) (scr : Nat → Int32) (call : Nat → List Value → am_H → Option am_X) (lv : am_L) (st : List Value) (h : am_H) : am_f d scr L call 24 (n + 1) 22 lv st h = (match am_ld lv 3 with
    | some (.int x) => am_f d scr L call 24 n 23 lv (.int x :: st) h
    | _ => none) := k_li (i := .iload_n 3) rfl rfl rfl rfl
theorem s_24_23 (d L n : Nat) (scr : Nat → Int32) (call : Nat → List Value → am_H → Option am_X) (lv : am_L) (st : List Value) (h : am_H) : am_f d scr L call 24 (n + 1) 23 lv st h = am_f d scr L call 24 n 24 lv (.int (-1) :: st) h := k_nx (i := .iconst (-1)) rfl rfl
theorem s_24_24 (d L n : Nat) (scr : Nat → Int32) (call : Nat → List Value → am_H → Option am_X) (lv : am_L) (st : List Value) (h : am_H) (x y : Int32) : am_f d scr L call 24 (n + 1) 24 lv (.int y :: .int x :: st) h = if x = y then am_f d scr L call 24 n 105 lv st h else am_f d scr L call 24 n 27 lv st h := k_ic_eq (o := 81) rfl ⟨by decide, rfl⟩
theorem s_24_27 (d L n : Nat) (scr : Nat → Int32) (call : Nat → List Value → am_H → Option am_X) (lv : am_L) (st : List Value) (h : am_H) : am_f d scr L call 24 (n + 1) 27 lv st h = (match am_ld lv 0 with
    | some (.ref x) => am_f d scr L call 24 n 28 lv (.ref x :: st) h
    | _ => none) := k_la (i := .aload_n 0) rfl rfl rfl rfl
theorem s_24_28 (d L n : Nat) (scr : Nat → Int32) (call : Nat → List Value → am_H → Option am_X) (lv : am_L) (st : List Value) (h : am_H) (a : Nat) : am_f d scr L call 24 (n + 1) 28 lv (.ref a :: st) h = (match am_get h a 2 0 with
    | some v => am_f d scr L call 24 n 31 lv (v :: st) h
    | none => none) := k_gf (k := 9) rfl rfl
theorem s_24_31 (d L n : Nat) (scr : Nat → Int32) (call : Nat → List Value → am_H → Option am_X) (lv : am_L) (st : List Value) (h : am_H) (a : Nat) : am_f d scr L call 24 (n + 1) 31 lv (.ref a :: st) h = (match am_get h a 5 1 with
    | some v => am_f d scr L call 24 n 34 lv (v :: st) h
    | none => none) := k_gf (k := 37) rfl rfl
theorem s_24_34 (d L n : Nat) (scr : Nat → Int32) (call : Nat → List Value → am_H → Option am_X) (lv : am_L) (st : List Value) (h : am_H) : am_f d scr L call 24 (n + 1) 34 lv st h = (match am_ld lv 3 with
    | some (.int x) => am_f d scr L call 24 n 35 lv (.int x :: st) h
    | _ => none) := k_li (i := .iload_n 3) rfl rfl rfl rfl
theorem s_24_35 (d L n : Nat) (scr : Nat → Int32) (call : Nat → List Value → am_H → Option am_X) (lv : am_L) (st : List Value) (h : am_H) (a : Nat) (i : Int32) : am_f d scr L call 24 (n + 1) 35 lv (.int i :: .ref a :: st) h = (match am_ild scr L h a i with
    | some x => am_f d scr L call 24 n 36 lv (.int x :: st) h
    | none => none) := k_ia rfl
theorem s_24_36 (d L n : Nat) (scr : Nat → Int32) (call : Nat → List Value → am_H → Option am_X) (lv : am_L) (st : List Value) (h : am_H) : am_f d scr L call 24 (n + 1) 36 lv st h = am_f d scr L call 24 n 37 lv (.int 3 :: st) h := k_nx (i := .iconst 3) rfl rfl
theorem s_24_37 (d L n : Nat) (scr : Nat → Int32) (call : Nat → List Value → am_H → Option am_X) (lv : am_L) (st : List Value) (h : am_H) (x y : Int32) : am_f d scr L call 24 (n + 1) 37 lv (.int y :: .int x :: st) h = if ¬ x = y then am_f d scr L call 24 n 89 lv st h else am_f d scr L call 24 n 40 lv st h := k_ic_ne (o := 52) rfl ⟨by decide, rfl⟩
theorem s_24_40 (d L n : Nat) (scr : Nat → Int32) (call : Nat → List Value → am_H → Option am_X) (lv : am_L) (st : List Value) (h : am_H) : am_f d scr L call 24 (n + 1) 40 lv st h = (match am_ld lv 0 with
    | some (.ref x) => am_f d scr L call 24 n 41 lv (.ref x :: st) h
    | _ => none) := k_la (i := .aload_n 0) rfl rfl rfl rfl
theorem s_24_41 (d L n : Nat) (scr : Nat → Int32) (call : Nat → List Value → am_H → Option am_X) (lv : am_L) (st : List Value) (h : am_H) (a : Nat) : am_f d scr L call 24 (n + 1) 41 lv (.ref a :: st) h = (match am_get h a 2 0 with
    | some v => am_f d scr L call 24 n 44 lv (v :: st) h
    | none => none) := k_gf (k := 9) rfl rfl
theorem s_24_44 (d L n : Nat) (scr : Nat → Int32) (call : Nat → List Value → am_H → Option am_X) (lv : am_L) (st : List Value) (h : am_H) (a : Nat) : am_f d scr L call 24 (n + 1) 44 lv (.ref a :: st) h = (match am_get h a 5 6 with
    | some v => am_f d scr L call 24 n 47 lv (v :: st) h
    | none => none) := k_gf (k := 86) rfl rfl
theorem s_24_47 (d L n : Nat) (scr : Nat → Int32) (call : Nat → List Value → am_H → Option am_X) (lv : am_L) (st : List Value) (h : am_H) : am_f d scr L call 24 (n + 1) 47 lv st h = (match am_ld lv 3 with
    | some (.int x) => am_f d scr L call 24 n 48 lv (.int x :: st) h
    | _ => none) := k_li (i := .iload_n 3) rfl rfl rfl rfl
theorem s_24_48 (d L n : Nat) (scr : Nat → Int32) (call : Nat → List Value → am_H → Option am_X) (lv : am_L) (st : List Value) (h : am_H) (a : Nat) (i : Int32) : am_f d scr L call 24 (n + 1) 48 lv (.int i :: .ref a :: st) h = (match am_ild scr L h a i with
    | some x => am_f d scr L call 24 n 49 lv (.int x :: st) h
    | none => none) := k_ia rfl
theorem s_24_49 (d L n : Nat) (scr : Nat → Int32) (call : Nat → List Value → am_H → Option am_X) (lv : am_L) (st : List Value) (h : am_H) : am_f d scr L call 24 (n + 1) 49 lv st h = (match am_ld lv 0 with
    | some (.ref x) => am_f d scr L call 24 n 50 lv (.ref x :: st) h
    | _ => none) := k_la (i := .aload_n 0) rfl rfl rfl rfl
theorem s_24_50 (d L n : Nat) (scr : Nat → Int32) (call : Nat → List Value → am_H → Option am_X) (lv : am_L) (st : List Value) (h : am_H) (a : Nat) : am_f d scr L call 24 (n + 1) 50 lv (.ref a :: st) h = (match am_get h a 2 0 with
    | some v => am_f d scr L call 24 n 53 lv (v :: st) h
    | none => none) := k_gf (k := 9) rfl rfl
theorem s_24_53 (d L n : Nat) (scr : Nat → Int32) (call : Nat → List Value → am_H → Option am_X) (lv : am_L) (st : List Value) (h : am_H) (a : Nat) : am_f d scr L call 24 (n + 1) 53 lv (.ref a :: st) h = (match am_get h a 5 6 with
    | some v => am_f d scr L call 24 n 56 lv (v :: st) h
    | none => none) := k_gf (k := 86) rfl rfl
theorem s_24_56 (d L n : Nat) (scr : Nat → Int32) (call : Nat → List Value → am_H → Option am_X) (lv : am_L) (st : List Value) (h : am_H) : am_f d scr L call 24 (n + 1) 56 lv st h = (match am_ld lv 1 with
    | some (.int x) => am_f d scr L call 24 n 57 lv (.int x :: st) h
    | _ => none) := k_li (i := .iload_n 1) rfl rfl rfl rfl
theorem s_24_57 (d L n : Nat) (scr : Nat → Int32) (call : Nat → List Value → am_H → Option am_X) (lv : am_L) (st : List Value) (h : am_H) (a : Nat) (i : Int32) : am_f d scr L call 24 (n + 1) 57 lv (.int i :: .ref a :: st) h = (match am_ild scr L h a i with
    | some x => am_f d scr L call 24 n 58 lv (.int x :: st) h
    | none => none) := k_ia rfl
theorem s_24_58 (d L n : Nat) (scr : Nat → Int32) (call : Nat → List Value → am_H → Option am_X) (lv : am_L) (st : List Value) (h : am_H) (x y : Int32) : am_f d scr L call 24 (n + 1) 58 lv (.int y :: .int x :: st) h = if ¬ x = y then am_f d scr L call 24 n 86 lv st h else am_f d scr L call 24 n 61 lv st h := k_ic_ne (o := 28) rfl ⟨by decide, rfl⟩
theorem s_24_61 (d L n : Nat) (scr : Nat → Int32) (call : Nat → List Value → am_H → Option am_X) (lv : am_L) (st : List Value) (h : am_H) : am_f d scr L call 24 (n + 1) 61 lv st h = (match am_ld lv 0 with
    | some (.ref x) => am_f d scr L call 24 n 62 lv (.ref x :: st) h
    | _ => none) := k_la (i := .aload_n 0) rfl rfl rfl rfl
theorem s_24_62 (d L n : Nat) (scr : Nat → Int32) (call : Nat → List Value → am_H → Option am_X) (lv : am_L) (st : List Value) (h : am_H) (a : Nat) : am_f d scr L call 24 (n + 1) 62 lv (.ref a :: st) h = (match am_get h a 2 0 with
    | some v => am_f d scr L call 24 n 65 lv (v :: st) h
    | none => none) := k_gf (k := 9) rfl rfl
theorem s_24_65 (d L n : Nat) (scr : Nat → Int32) (call : Nat → List Value → am_H → Option am_X) (lv : am_L) (st : List Value) (h : am_H) (a : Nat) : am_f d scr L call 24 (n + 1) 65 lv (.ref a :: st) h = (match am_get h a 5 8 with
    | some v => am_f d scr L call 24 n 68 lv (v :: st) h
    | none => none) := k_gf (k := 89) rfl rfl
theorem s_24_68 (d L n : Nat) (scr : Nat → Int32) (call : Nat → List Value → am_H → Option am_X) (lv : am_L) (st : List Value) (h : am_H) : am_f d scr L call 24 (n + 1) 68 lv st h = (match am_ld lv 1 with
    | some (.int x) => am_f d scr L call 24 n 69 lv (.int x :: st) h
    | _ => none) := k_li (i := .iload_n 1) rfl rfl rfl rfl
theorem s_24_69 (d L n : Nat) (scr : Nat → Int32) (call : Nat → List Value → am_H → Option am_X) (lv : am_L) (st : List Value) (h : am_H) : am_f d scr L call 24 (n + 1) 69 lv st h = (match am_ld lv 2 with
    | some (.int x) => am_f d scr L call 24 n 70 lv (.int x :: st) h
    | _ => none) := k_li (i := .iload_n 2) rfl rfl rfl rfl
theorem s_24_70 (d L n : Nat) (scr : Nat → Int32) (call : Nat → List Value → am_H → Option am_X) (lv : am_L) (st : List Value) (h : am_H) (a : Nat) (i : Int32) (x : Int32) : am_f d scr L call 24 (n + 1) 70 lv (.int x :: .int i :: .ref a :: st) h = (match am_ist h a i x with
    | some h' => am_f d scr L call 24 n 71 lv st h'
    | none => none) := k_is rfl
theorem s_24_71 (d L n : Nat) (scr : Nat → Int32) (call : Nat → List Value → am_H → Option am_X) (lv : am_L) (st : List Value) (h : am_H) : am_f d scr L call 24 (n + 1) 71 lv st h = (match am_ld lv 0 with
    | some (.ref x) => am_f d scr L call 24 n 72 lv (.ref x :: st) h
    | _ => none) := k_la (i := .aload_n 0) rfl rfl rfl rfl
theorem s_24_72 (d L n : Nat) (scr : Nat → Int32) (call : Nat → List Value → am_H → Option am_X) (lv : am_L) (st : List Value) (h : am_H) : am_f d scr L call 24 (n + 1) 72 lv st h = (match am_ld lv 1 with
    | some (.int x) => am_f d scr L call 24 n 73 lv (.int x :: st) h
    | _ => none) := k_li (i := .iload_n 1) rfl rfl rfl rfl
theorem s_24_73 (d L n : Nat) (scr : Nat → Int32) (call : Nat → List Value → am_H → Option am_X) (lv : am_L) (st : List Value) (h : am_H) : am_f d scr L call 24 (n + 1) 73 lv st h = (match am_ld lv 0 with
    | some (.ref x) => am_f d scr L call 24 n 74 lv (.ref x :: st) h
    | _ => none) := k_la (i := .aload_n 0) rfl rfl rfl rfl
theorem s_24_74 (d L n : Nat) (scr : Nat → Int32) (call : Nat → List Value → am_H → Option am_X) (lv : am_L) (st : List Value) (h : am_H) (a : Nat) : am_f d scr L call 24 (n + 1) 74 lv (.ref a :: st) h = (match am_get h a 2 0 with
    | some v => am_f d scr L call 24 n 77 lv (v :: st) h
    | none => none) := k_gf (k := 9) rfl rfl
theorem s_24_77 (d L n : Nat) (scr : Nat → Int32) (call : Nat → List Value → am_H → Option am_X) (lv : am_L) (st : List Value) (h : am_H) (a : Nat) : am_f d scr L call 24 (n + 1) 77 lv (.ref a :: st) h = (match am_get h a 5 7 with
    | some v => am_f d scr L call 24 n 80 lv (v :: st) h
    | none => none) := k_gf (k := 49) rfl rfl
theorem s_24_80 (d L n : Nat) (scr : Nat → Int32) (call : Nat → List Value → am_H → Option am_X) (lv : am_L) (st : List Value) (h : am_H) : am_f d scr L call 24 (n + 1) 80 lv st h = (match am_ld lv 3 with
    | some (.int x) => am_f d scr L call 24 n 81 lv (.int x :: st) h
    | _ => none) := k_li (i := .iload_n 3) rfl rfl rfl rfl
theorem s_24_81 (d L n : Nat) (scr : Nat → Int32) (call : Nat → List Value → am_H → Option am_X) (lv : am_L) (st : List Value) (h : am_H) (a : Nat) (i : Int32) : am_f d scr L call 24 (n + 1) 81 lv (.int i :: .ref a :: st) h = (match am_ild scr L h a i with
    | some x => am_f d scr L call 24 n 82 lv (.int x :: st) h
    | none => none) := k_ia rfl
theorem s_24_82 (d L n : Nat) (scr : Nat → Int32) (call : Nat → List Value → am_H → Option am_X) (lv : am_L) (h : am_H) (o : Nat) (a0 : Int32) (a1 : Int32)  : am_f d scr L call 24 (n + 1) 82 lv (.int a1 :: .int a0 :: .ref o :: []) h = if am_at h o 2 = true then (match call 22 [.ref o, .int a0, .int a1] h with
    | some (v, h', dk, dn) => am_add dk dn (am_f d scr L call 24 n 85 lv (v.toList ++ []) h')
    | none => none) else none := k_iv0 (k := 42) (as := [.int a0, .int a1]) (r := []) rfl rfl rfl rfl (Nat.le_of_ble_eq_true rfl)
theorem s_24_85 (d L n : Nat) (scr : Nat → Int32) (call : Nat → List Value → am_H → Option am_X) (lv : am_L) (h : am_H) (x : Int32) : am_f d scr L call 24 (n + 1) 85 lv [.int x] h = some (some (.int x), h, 0, 0) := k_ir rfl rfl
theorem s_24_86 (d L n : Nat) (scr : Nat → Int32) (call : Nat → List Value → am_H → Option am_X) (lv : am_L) (st : List Value) (h : am_H) : am_f d scr L call 24 (n + 1) 86 lv st h = (match am_ld lv 2 with
    | some (.int x) => am_f d scr L call 24 n 89 (am_st1 lv 2 (.int (x + 1))) st h
    | _ => none) := k_iinc (k := 2) (c := 1) rfl rfl (Nat.le_of_ble_eq_true rfl)
theorem s_24_89 (d L n : Nat) (scr : Nat → Int32) (call : Nat → List Value → am_H → Option am_X) (lv : am_L) (st : List Value) (h : am_H) : am_f d scr L call 24 (n + 1) 89 lv st h = (match am_ld lv 0 with
    | some (.ref x) => am_f d scr L call 24 n 90 lv (.ref x :: st) h
    | _ => none) := k_la (i := .aload_n 0) rfl rfl rfl rfl
theorem s_24_90 (d L n : Nat) (scr : Nat → Int32) (call : Nat → List Value → am_H → Option am_X) (lv : am_L) (st : List Value) (h : am_H) (a : Nat) : am_f d scr L call 24 (n + 1) 90 lv (.ref a :: st) h = (match am_get h a 2 0 with
    | some v => am_f d scr L call 24 n 93 lv (v :: st) h
    | none => none) := k_gf (k := 9) rfl rfl
theorem s_24_93 (d L n : Nat) (scr : Nat → Int32) (call : Nat → List Value → am_H → Option am_X) (lv : am_L) (st : List Value) (h : am_H) (a : Nat) : am_f d scr L call 24 (n + 1) 93 lv (.ref a :: st) h = (match am_get h a 5 2 with
    | some v => am_f d scr L call 24 n 96 lv (v :: st) h
    | none => none) := k_gf (k := 83) rfl rfl
theorem s_24_96 (d L n : Nat) (scr : Nat → Int32) (call : Nat → List Value → am_H → Option am_X) (lv : am_L) (st : List Value) (h : am_H) : am_f d scr L call 24 (n + 1) 96 lv st h = (match am_ld lv 3 with
    | some (.int x) => am_f d scr L call 24 n 97 lv (.int x :: st) h
    | _ => none) := k_li (i := .iload_n 3) rfl rfl rfl rfl
theorem s_24_97 (d L n : Nat) (scr : Nat → Int32) (call : Nat → List Value → am_H → Option am_X) (lv : am_L) (st : List Value) (h : am_H) (a : Nat) (i : Int32) : am_f d scr L call 24 (n + 1) 97 lv (.int i :: .ref a :: st) h = (match am_ild scr L h a i with
    | some x => am_f d scr L call 24 n 98 lv (.int x :: st) h
    | none => none) := k_ia rfl
theorem s_24_98 (d L n : Nat) (scr : Nat → Int32) (call : Nat → List Value → am_H → Option am_X) (lv : am_L) (st : List Value) (h : am_H) (x : Int32) : am_f d scr L call 24 (n + 1) 98 lv (.int x :: st) h = am_f d scr L call 24 n 99 (am_st1 lv 3 (.int x)) st h := k_nx (i := .istore_n 3) rfl rfl
theorem s_24_99 (d L n : Nat) (scr : Nat → Int32) (call : Nat → List Value → am_H → Option am_X) (lv : am_L) (st : List Value) (h : am_H) : am_f d scr L call 24 (n + 1) 99 lv st h = (match am_ld lv 4 with
    | some (.int x) => am_f d scr L call 24 n 102 (am_st1 lv 4 (.int (x + 1))) st h
    | _ => none) := k_iinc (k := 4) (c := 1) rfl rfl (Nat.le_of_ble_eq_true rfl)
theorem s_24_102 (d L n : Nat) (scr : Nat → Int32) (call : Nat → List Value → am_H → Option am_X) (lv : am_L) (st : List Value) (h : am_H) : am_f d scr L call 24 (n + 1) 102 lv st h = am_f d scr L call 24 n 15 lv st h := k_nx (i := .goto (-87)) rfl rfl
theorem s_24_105 (d L n : Nat) (scr : Nat → Int32) (call : Nat → List Value → am_H → Option am_X) (lv : am_L) (st : List Value) (h : am_H) : am_f d scr L call 24 (n + 1) 105 lv st h = (match am_ld lv 1 with
    | some (.int x) => am_f d scr L call 24 n 106 lv (.int x :: st) h
    | _ => none) := k_li (i := .iload_n 1) rfl rfl rfl rfl
theorem s_24_106 (d L n : Nat) (scr : Nat → Int32) (call : Nat → List Value → am_H → Option am_X) (lv : am_L) (h : am_H) (x : Int32) : am_f d scr L call 24 (n + 1) 106 lv [.int x] h = some (some (.int x), h, 0, 0) := k_ir rfl rfl
-- 25: BlameDesk$Checker.errorInPair(II)I
theorem s_25_0 (d L n : Nat) (scr : Nat → Int32) (call : Nat → List Value → am_H → Option am_X) (lv : am_L) (st : List Value) (h : am_H) : am_f d scr L call 25 (n + 1) 0 lv st h = (match am_ld lv 0 with
    | some (.ref x) => am_f d scr L call 25 n 1 lv (.ref x :: st) h
    | _ => none) := k_la (i := .aload_n 0) rfl rfl rfl rfl
theorem s_25_1 (d L n : Nat) (scr : Nat → Int32) (call : Nat → List Value → am_H → Option am_X) (lv : am_L) (st : List Value) (h : am_H) (a : Nat) : am_f d scr L call 25 (n + 1) 1 lv (.ref a :: st) h = (match am_get h a 2 0 with
    | some v => am_f d scr L call 25 n 4 lv (v :: st) h
    | none => none) := k_gf (k := 9) rfl rfl
theorem s_25_4 (d L n : Nat) (scr : Nat → Int32) (call : Nat → List Value → am_H → Option am_X) (lv : am_L) (st : List Value) (h : am_H) (a : Nat) : am_f d scr L call 25 (n + 1) 4 lv (.ref a :: st) h = (match am_get h a 5 3 with
    | some v => am_f d scr L call 25 n 7 lv (v :: st) h
    | none => none) := k_gf (k := 34) rfl rfl
theorem s_25_7 (d L n : Nat) (scr : Nat → Int32) (call : Nat → List Value → am_H → Option am_X) (lv : am_L) (st : List Value) (h : am_H) : am_f d scr L call 25 (n + 1) 7 lv st h = (match am_ld lv 1 with
    | some (.int x) => am_f d scr L call 25 n 8 lv (.int x :: st) h
    | _ => none) := k_li (i := .iload_n 1) rfl rfl rfl rfl
theorem s_25_8 (d L n : Nat) (scr : Nat → Int32) (call : Nat → List Value → am_H → Option am_X) (lv : am_L) (st : List Value) (h : am_H) (a : Nat) (i : Int32) : am_f d scr L call 25 (n + 1) 8 lv (.int i :: .ref a :: st) h = (match am_ild scr L h a i with
    | some x => am_f d scr L call 25 n 9 lv (.int x :: st) h
    | none => none) := k_ia rfl
theorem s_25_9 (d L n : Nat) (scr : Nat → Int32) (call : Nat → List Value → am_H → Option am_X) (lv : am_L) (st : List Value) (h : am_H) (x : Int32) : am_f d scr L call 25 (n + 1) 9 lv (.int x :: st) h = am_f d scr L call 25 n 10 (am_st1 lv 3 (.int x)) st h := k_nx (i := .istore_n 3) rfl rfl
theorem s_25_10 (d L n : Nat) (scr : Nat → Int32) (call : Nat → List Value → am_H → Option am_X) (lv : am_L) (st : List Value) (h : am_H) : am_f d scr L call 25 (n + 1) 10 lv st h = (match am_ld lv 0 with
    | some (.ref x) => am_f d scr L call 25 n 11 lv (.ref x :: st) h
    | _ => none) := k_la (i := .aload_n 0) rfl rfl rfl rfl
theorem s_25_11 (d L n : Nat) (scr : Nat → Int32) (call : Nat → List Value → am_H → Option am_X) (lv : am_L) (st : List Value) (h : am_H) (a : Nat) : am_f d scr L call 25 (n + 1) 11 lv (.ref a :: st) h = (match am_get h a 2 0 with
    | some v => am_f d scr L call 25 n 14 lv (v :: st) h
    | none => none) := k_gf (k := 9) rfl rfl
theorem s_25_14 (d L n : Nat) (scr : Nat → Int32) (call : Nat → List Value → am_H → Option am_X) (lv : am_L) (st : List Value) (h : am_H) (a : Nat) : am_f d scr L call 25 (n + 1) 14 lv (.ref a :: st) h = (match am_get h a 5 4 with
    | some v => am_f d scr L call 25 n 17 lv (v :: st) h
    | none => none) := k_gf (k := 92) rfl rfl
theorem s_25_17 (d L n : Nat) (scr : Nat → Int32) (call : Nat → List Value → am_H → Option am_X) (lv : am_L) (st : List Value) (h : am_H) : am_f d scr L call 25 (n + 1) 17 lv st h = (match am_ld lv 1 with
    | some (.int x) => am_f d scr L call 25 n 18 lv (.int x :: st) h
    | _ => none) := k_li (i := .iload_n 1) rfl rfl rfl rfl
theorem s_25_18 (d L n : Nat) (scr : Nat → Int32) (call : Nat → List Value → am_H → Option am_X) (lv : am_L) (st : List Value) (h : am_H) (a : Nat) (i : Int32) : am_f d scr L call 25 (n + 1) 18 lv (.int i :: .ref a :: st) h = (match am_ild scr L h a i with
    | some x => am_f d scr L call 25 n 19 lv (.int x :: st) h
    | none => none) := k_ia rfl
theorem s_25_19 (d L n : Nat) (scr : Nat → Int32) (call : Nat → List Value → am_H → Option am_X) (lv : am_L) (st : List Value) (h : am_H) (x : Int32) : am_f d scr L call 25 (n + 1) 19 lv (.int x :: st) h = am_f d scr L call 25 n 21 (am_st1 lv 4 (.int x)) st h := k_nx (i := .istore 4) rfl rfl
theorem s_25_21 (d L n : Nat) (scr : Nat → Int32) (call : Nat → List Value → am_H → Option am_X) (lv : am_L) (st : List Value) (h : am_H) : am_f d scr L call 25 (n + 1) 21 lv st h = (match am_ld lv 0 with
    | some (.ref x) => am_f d scr L call 25 n 22 lv (.ref x :: st) h
    | _ => none) := k_la (i := .aload_n 0) rfl rfl rfl rfl
theorem s_25_22 (d L n : Nat) (scr : Nat → Int32) (call : Nat → List Value → am_H → Option am_X) (lv : am_L) (st : List Value) (h : am_H) (a : Nat) : am_f d scr L call 25 (n + 1) 22 lv (.ref a :: st) h = (match am_get h a 2 0 with
    | some v => am_f d scr L call 25 n 25 lv (v :: st) h
    | none => none) := k_gf (k := 9) rfl rfl
theorem s_25_25 (d L n : Nat) (scr : Nat → Int32) (call : Nat → List Value → am_H → Option am_X) (lv : am_L) (st : List Value) (h : am_H) (a : Nat) : am_f d scr L call 25 (n + 1) 25 lv (.ref a :: st) h = (match am_get h a 5 9 with
    | some v => am_f d scr L call 25 n 28 lv (v :: st) h
    | none => none) := k_gf (k := 52) rfl rfl
theorem s_25_28 (d L n : Nat) (scr : Nat → Int32) (call : Nat → List Value → am_H → Option am_X) (lv : am_L) (st : List Value) (h : am_H) : am_f d scr L call 25 (n + 1) 28 lv st h = (match am_ld lv 3 with
    | some (.int x) => am_f d scr L call 25 n 29 lv (.int x :: st) h
    | _ => none) := k_li (i := .iload_n 3) rfl rfl rfl rfl
theorem s_25_29 (d L n : Nat) (scr : Nat → Int32) (call : Nat → List Value → am_H → Option am_X) (lv : am_L) (st : List Value) (h : am_H) (a : Nat) (i : Int32) : am_f d scr L call 25 (n + 1) 29 lv (.int i :: .ref a :: st) h = (match am_ild scr L h a i with
    | some x => am_f d scr L call 25 n 30 lv (.int x :: st) h
    | none => none) := k_ia rfl
theorem s_25_30 (d L n : Nat) (scr : Nat → Int32) (call : Nat → List Value → am_H → Option am_X) (lv : am_L) (st : List Value) (h : am_H) (x : Int32) : am_f d scr L call 25 (n + 1) 30 lv (.int x :: st) h = am_f d scr L call 25 n 32 (am_st1 lv 5 (.int x)) st h := k_nx (i := .istore 5) rfl rfl
theorem s_25_32 (d L n : Nat) (scr : Nat → Int32) (call : Nat → List Value → am_H → Option am_X) (lv : am_L) (st : List Value) (h : am_H) : am_f d scr L call 25 (n + 1) 32 lv st h = (match am_ld lv 5 with
    | some (.int x) => am_f d scr L call 25 n 34 lv (.int x :: st) h
    | _ => none) := k_li (i := .iload 5) rfl rfl rfl rfl
theorem s_25_34 (d L n : Nat) (scr : Nat → Int32) (call : Nat → List Value → am_H → Option am_X) (lv : am_L) (st : List Value) (h : am_H) (x : Int32) : am_f d scr L call 25 (n + 1) 34 lv (.int x :: st) h = if ¬ x = 0 then am_f d scr L call 25 n 65 lv st h else am_f d scr L call 25 n 37 lv st h := k_if_ne (o := 31) rfl ⟨by decide, rfl⟩
theorem s_25_37 (d L n : Nat) (scr : Nat → Int32) (call : Nat → List Value → am_H → Option am_X) (lv : am_L) (st : List Value) (h : am_H) : am_f d scr L call 25 (n + 1) 37 lv st h = (match am_ld lv 0 with
    | some (.ref x) => am_f d scr L call 25 n 38 lv (.ref x :: st) h
    | _ => none) := k_la (i := .aload_n 0) rfl rfl rfl rfl
theorem s_25_38 (d L n : Nat) (scr : Nat → Int32) (call : Nat → List Value → am_H → Option am_X) (lv : am_L) (st : List Value) (h : am_H) (a : Nat) : am_f d scr L call 25 (n + 1) 38 lv (.ref a :: st) h = (match am_get h a 2 0 with
    | some v => am_f d scr L call 25 n 41 lv (v :: st) h
    | none => none) := k_gf (k := 9) rfl rfl
theorem s_25_41 (d L n : Nat) (scr : Nat → Int32) (call : Nat → List Value → am_H → Option am_X) (lv : am_L) (st : List Value) (h : am_H) (a : Nat) : am_f d scr L call 25 (n + 1) 41 lv (.ref a :: st) h = (match am_get h a 5 10 with
    | some v => am_f d scr L call 25 n 44 lv (v :: st) h
    | none => none) := k_gf (k := 76) rfl rfl
theorem s_25_44 (d L n : Nat) (scr : Nat → Int32) (call : Nat → List Value → am_H → Option am_X) (lv : am_L) (st : List Value) (h : am_H) : am_f d scr L call 25 (n + 1) 44 lv st h = (match am_ld lv 3 with
    | some (.int x) => am_f d scr L call 25 n 45 lv (.int x :: st) h
    | _ => none) := k_li (i := .iload_n 3) rfl rfl rfl rfl
theorem s_25_45 (d L n : Nat) (scr : Nat → Int32) (call : Nat → List Value → am_H → Option am_X) (lv : am_L) (st : List Value) (h : am_H) : am_f d scr L call 25 (n + 1) 45 lv st h = (match am_ld lv 2 with
    | some (.int x) => am_f d scr L call 25 n 46 lv (.int x :: st) h
    | _ => none) := k_li (i := .iload_n 2) rfl rfl rfl rfl
theorem s_25_46 (d L n : Nat) (scr : Nat → Int32) (call : Nat → List Value → am_H → Option am_X) (lv : am_L) (st : List Value) (h : am_H) (a : Nat) (i : Int32) (x : Int32) : am_f d scr L call 25 (n + 1) 46 lv (.int x :: .int i :: .ref a :: st) h = (match am_ist h a i x with
    | some h' => am_f d scr L call 25 n 47 lv st h'
    | none => none) := k_is rfl
theorem s_25_47 (d L n : Nat) (scr : Nat → Int32) (call : Nat → List Value → am_H → Option am_X) (lv : am_L) (st : List Value) (h : am_H) : am_f d scr L call 25 (n + 1) 47 lv st h = (match am_ld lv 0 with
    | some (.ref x) => am_f d scr L call 25 n 48 lv (.ref x :: st) h
    | _ => none) := k_la (i := .aload_n 0) rfl rfl rfl rfl
theorem s_25_48 (d L n : Nat) (scr : Nat → Int32) (call : Nat → List Value → am_H → Option am_X) (lv : am_L) (st : List Value) (h : am_H) (a : Nat) : am_f d scr L call 25 (n + 1) 48 lv (.ref a :: st) h = (match am_get h a 2 0 with
    | some v => am_f d scr L call 25 n 51 lv (v :: st) h
    | none => none) := k_gf (k := 9) rfl rfl
theorem s_25_51 (d L n : Nat) (scr : Nat → Int32) (call : Nat → List Value → am_H → Option am_X) (lv : am_L) (st : List Value) (h : am_H) (a : Nat) : am_f d scr L call 25 (n + 1) 51 lv (.ref a :: st) h = (match am_get h a 5 10 with
    | some v => am_f d scr L call 25 n 54 lv (v :: st) h
    | none => none) := k_gf (k := 76) rfl rfl
theorem s_25_54 (d L n : Nat) (scr : Nat → Int32) (call : Nat → List Value → am_H → Option am_X) (lv : am_L) (st : List Value) (h : am_H) : am_f d scr L call 25 (n + 1) 54 lv st h = (match am_ld lv 4 with
    | some (.int x) => am_f d scr L call 25 n 56 lv (.int x :: st) h
    | _ => none) := k_li (i := .iload 4) rfl rfl rfl rfl
theorem s_25_56 (d L n : Nat) (scr : Nat → Int32) (call : Nat → List Value → am_H → Option am_X) (lv : am_L) (st : List Value) (h : am_H) : am_f d scr L call 25 (n + 1) 56 lv st h = am_f d scr L call 25 n 57 lv (.int 0 :: st) h := k_nx (i := .iconst 0) rfl rfl
theorem s_25_57 (d L n : Nat) (scr : Nat → Int32) (call : Nat → List Value → am_H → Option am_X) (lv : am_L) (st : List Value) (h : am_H) (a : Nat) (i : Int32) (x : Int32) : am_f d scr L call 25 (n + 1) 57 lv (.int x :: .int i :: .ref a :: st) h = (match am_ist h a i x with
    | some h' => am_f d scr L call 25 n 58 lv st h'
    | none => none) := k_is rfl
theorem s_25_58 (d L n : Nat) (scr : Nat → Int32) (call : Nat → List Value → am_H → Option am_X) (lv : am_L) (st : List Value) (h : am_H) : am_f d scr L call 25 (n + 1) 58 lv st h = (match am_ld lv 0 with
    | some (.ref x) => am_f d scr L call 25 n 59 lv (.ref x :: st) h
    | _ => none) := k_la (i := .aload_n 0) rfl rfl rfl rfl
theorem s_25_59 (d L n : Nat) (scr : Nat → Int32) (call : Nat → List Value → am_H → Option am_X) (lv : am_L) (st : List Value) (h : am_H) : am_f d scr L call 25 (n + 1) 59 lv st h = (match am_ld lv 1 with
    | some (.int x) => am_f d scr L call 25 n 60 lv (.int x :: st) h
    | _ => none) := k_li (i := .iload_n 1) rfl rfl rfl rfl
theorem s_25_60 (d L n : Nat) (scr : Nat → Int32) (call : Nat → List Value → am_H → Option am_X) (lv : am_L) (st : List Value) (h : am_H) : am_f d scr L call 25 (n + 1) 60 lv st h = am_f d scr L call 25 n 61 lv (.int 0 :: st) h := k_nx (i := .iconst 0) rfl rfl
theorem s_25_61 (d L n : Nat) (scr : Nat → Int32) (call : Nat → List Value → am_H → Option am_X) (lv : am_L) (h : am_H) (o : Nat) (a0 : Int32) (a1 : Int32)  : am_f d scr L call 25 (n + 1) 61 lv (.int a1 :: .int a0 :: .ref o :: []) h = if am_at h o 2 = true then (match call 22 [.ref o, .int a0, .int a1] h with
    | some (v, h', dk, dn) => am_add dk dn (am_f d scr L call 25 n 64 lv (v.toList ++ []) h')
    | none => none) else none := k_iv0 (k := 42) (as := [.int a0, .int a1]) (r := []) rfl rfl rfl rfl (Nat.le_of_ble_eq_true rfl)
theorem s_25_64 (d L n : Nat) (scr : Nat → Int32) (call : Nat → List Value → am_H → Option am_X) (lv : am_L) (h : am_H) (x : Int32) : am_f d scr L call 25 (n + 1) 64 lv [.int x] h = some (some (.int x), h, 0, 0) := k_ir rfl rfl
theorem s_25_65 (d L n : Nat) (scr : Nat → Int32) (call : Nat → List Value → am_H → Option am_X) (lv : am_L) (st : List Value) (h : am_H) : am_f d scr L call 25 (n + 1) 65 lv st h = (match am_ld lv 0 with
    | some (.ref x) => am_f d scr L call 25 n 66 lv (.ref x :: st) h
    | _ => none) := k_la (i := .aload_n 0) rfl rfl rfl rfl
theorem s_25_66 (d L n : Nat) (scr : Nat → Int32) (call : Nat → List Value → am_H → Option am_X) (lv : am_L) (st : List Value) (h : am_H) (a : Nat) : am_f d scr L call 25 (n + 1) 66 lv (.ref a :: st) h = (match am_get h a 2 1 with
    | some v => am_f d scr L call 25 n 69 lv (v :: st) h
    | none => none) := k_gf (k := 21) rfl rfl
theorem s_25_69 (d L n : Nat) (scr : Nat → Int32) (call : Nat → List Value → am_H → Option am_X) (lv : am_L) (st : List Value) (h : am_H) (a : Nat) : am_f d scr L call 25 (n + 1) 69 lv (.ref a :: st) h = (match am_get h a 7 0 with
    | some v => am_f d scr L call 25 n 72 lv (v :: st) h
    | none => none) := k_gf (k := 95) rfl rfl
theorem s_25_72 (d L n : Nat) (scr : Nat → Int32) (call : Nat → List Value → am_H → Option am_X) (lv : am_L) (st : List Value) (h : am_H) : am_f d scr L call 25 (n + 1) 72 lv st h = (match am_ld lv 5 with
    | some (.int x) => am_f d scr L call 25 n 74 lv (.int x :: st) h
    | _ => none) := k_li (i := .iload 5) rfl rfl rfl rfl
theorem s_25_74 (d L n : Nat) (scr : Nat → Int32) (call : Nat → List Value → am_H → Option am_X) (lv : am_L) (st : List Value) (h : am_H) (a : Nat) (i : Int32) : am_f d scr L call 25 (n + 1) 74 lv (.int i :: .ref a :: st) h = (match am_ild scr L h a i with
    | some x => am_f d scr L call 25 n 75 lv (.int x :: st) h
    | none => none) := k_ia rfl
theorem s_25_75 (d L n : Nat) (scr : Nat → Int32) (call : Nat → List Value → am_H → Option am_X) (lv : am_L) (st : List Value) (h : am_H) : am_f d scr L call 25 (n + 1) 75 lv st h = (match am_ld lv 2 with
    | some (.int x) => am_f d scr L call 25 n 76 lv (.int x :: st) h
    | _ => none) := k_li (i := .iload_n 2) rfl rfl rfl rfl
theorem s_25_76 (d L n : Nat) (scr : Nat → Int32) (call : Nat → List Value → am_H → Option am_X) (lv : am_L) (st : List Value) (h : am_H) (x y : Int32) : am_f d scr L call 25 (n + 1) 76 lv (.int y :: .int x :: st) h = if x = y then am_f d scr L call 25 n 81 lv st h else am_f d scr L call 25 n 79 lv st h := k_ic_eq (o := 5) rfl ⟨by decide, rfl⟩
theorem s_25_79 (d L n : Nat) (scr : Nat → Int32) (call : Nat → List Value → am_H → Option am_X) (lv : am_L) (st : List Value) (h : am_H) : am_f d scr L call 25 (n + 1) 79 lv st h = (match am_ld lv 3 with
    | some (.int x) => am_f d scr L call 25 n 80 lv (.int x :: st) h
    | _ => none) := k_li (i := .iload_n 3) rfl rfl rfl rfl
theorem s_25_80 (d L n : Nat) (scr : Nat → Int32) (call : Nat → List Value → am_H → Option am_X) (lv : am_L) (h : am_H) (x : Int32) : am_f d scr L call 25 (n + 1) 80 lv [.int x] h = some (some (.int x), h, 0, 0) := k_ir rfl rfl
theorem s_25_81 (d L n : Nat) (scr : Nat → Int32) (call : Nat → List Value → am_H → Option am_X) (lv : am_L) (st : List Value) (h : am_H) : am_f d scr L call 25 (n + 1) 81 lv st h = (match am_ld lv 0 with
    | some (.ref x) => am_f d scr L call 25 n 82 lv (.ref x :: st) h
    | _ => none) := k_la (i := .aload_n 0) rfl rfl rfl rfl
theorem s_25_82 (d L n : Nat) (scr : Nat → Int32) (call : Nat → List Value → am_H → Option am_X) (lv : am_L) (st : List Value) (h : am_H) : am_f d scr L call 25 (n + 1) 82 lv st h = (match am_ld lv 1 with
    | some (.int x) => am_f d scr L call 25 n 83 lv (.int x :: st) h
    | _ => none) := k_li (i := .iload_n 1) rfl rfl rfl rfl
theorem s_25_83 (d L n : Nat) (scr : Nat → Int32) (call : Nat → List Value → am_H → Option am_X) (lv : am_L) (st : List Value) (h : am_H) : am_f d scr L call 25 (n + 1) 83 lv st h = (match am_ld lv 0 with
    | some (.ref x) => am_f d scr L call 25 n 84 lv (.ref x :: st) h
    | _ => none) := k_la (i := .aload_n 0) rfl rfl rfl rfl
theorem s_25_84 (d L n : Nat) (scr : Nat → Int32) (call : Nat → List Value → am_H → Option am_X) (lv : am_L) (st : List Value) (h : am_H) (a : Nat) : am_f d scr L call 25 (n + 1) 84 lv (.ref a :: st) h = (match am_get h a 2 1 with
    | some v => am_f d scr L call 25 n 87 lv (v :: st) h
    | none => none) := k_gf (k := 21) rfl rfl
theorem s_25_87 (d L n : Nat) (scr : Nat → Int32) (call : Nat → List Value → am_H → Option am_X) (lv : am_L) (st : List Value) (h : am_H) (a : Nat) : am_f d scr L call 25 (n + 1) 87 lv (.ref a :: st) h = (match am_get h a 7 2 with
    | some v => am_f d scr L call 25 n 90 lv (v :: st) h
    | none => none) := k_gf (k := 98) rfl rfl
theorem s_25_90 (d L n : Nat) (scr : Nat → Int32) (call : Nat → List Value → am_H → Option am_X) (lv : am_L) (st : List Value) (h : am_H) : am_f d scr L call 25 (n + 1) 90 lv st h = (match am_ld lv 5 with
    | some (.int x) => am_f d scr L call 25 n 92 lv (.int x :: st) h
    | _ => none) := k_li (i := .iload 5) rfl rfl rfl rfl
theorem s_25_92 (d L n : Nat) (scr : Nat → Int32) (call : Nat → List Value → am_H → Option am_X) (lv : am_L) (st : List Value) (h : am_H) (a : Nat) (i : Int32) : am_f d scr L call 25 (n + 1) 92 lv (.int i :: .ref a :: st) h = (match am_ild scr L h a i with
    | some x => am_f d scr L call 25 n 93 lv (.int x :: st) h
    | none => none) := k_ia rfl
theorem s_25_93 (d L n : Nat) (scr : Nat → Int32) (call : Nat → List Value → am_H → Option am_X) (lv : am_L) (h : am_H) (o : Nat) (a0 : Int32) (a1 : Int32)  : am_f d scr L call 25 (n + 1) 93 lv (.int a1 :: .int a0 :: .ref o :: []) h = if am_at h o 2 = true then (match call 22 [.ref o, .int a0, .int a1] h with
    | some (v, h', dk, dn) => am_add dk dn (am_f d scr L call 25 n 96 lv (v.toList ++ []) h')
    | none => none) else none := k_iv0 (k := 42) (as := [.int a0, .int a1]) (r := []) rfl rfl rfl rfl (Nat.le_of_ble_eq_true rfl)
theorem s_25_96 (d L n : Nat) (scr : Nat → Int32) (call : Nat → List Value → am_H → Option am_X) (lv : am_L) (st : List Value) (h : am_H) (x : Int32) : am_f d scr L call 25 (n + 1) 96 lv (.int x :: st) h = am_f d scr L call 25 n 97 lv st h := k_nx (i := .pop) rfl rfl
theorem s_25_97 (d L n : Nat) (scr : Nat → Int32) (call : Nat → List Value → am_H → Option am_X) (lv : am_L) (st : List Value) (h : am_H) : am_f d scr L call 25 (n + 1) 97 lv st h = (match am_ld lv 0 with
    | some (.ref x) => am_f d scr L call 25 n 98 lv (.ref x :: st) h
    | _ => none) := k_la (i := .aload_n 0) rfl rfl rfl rfl
theorem s_25_98 (d L n : Nat) (scr : Nat → Int32) (call : Nat → List Value → am_H → Option am_X) (lv : am_L) (st : List Value) (h : am_H) : am_f d scr L call 25 (n + 1) 98 lv st h = (match am_ld lv 4 with
    | some (.int x) => am_f d scr L call 25 n 100 lv (.int x :: st) h
    | _ => none) := k_li (i := .iload 4) rfl rfl rfl rfl
theorem s_25_100 (d L n : Nat) (scr : Nat → Int32) (call : Nat → List Value → am_H → Option am_X) (lv : am_L) (st : List Value) (h : am_H) : am_f d scr L call 25 (n + 1) 100 lv st h = (match am_ld lv 0 with
    | some (.ref x) => am_f d scr L call 25 n 101 lv (.ref x :: st) h
    | _ => none) := k_la (i := .aload_n 0) rfl rfl rfl rfl
theorem s_25_101 (d L n : Nat) (scr : Nat → Int32) (call : Nat → List Value → am_H → Option am_X) (lv : am_L) (st : List Value) (h : am_H) (a : Nat) : am_f d scr L call 25 (n + 1) 101 lv (.ref a :: st) h = (match am_get h a 2 1 with
    | some v => am_f d scr L call 25 n 104 lv (v :: st) h
    | none => none) := k_gf (k := 21) rfl rfl
theorem s_25_104 (d L n : Nat) (scr : Nat → Int32) (call : Nat → List Value → am_H → Option am_X) (lv : am_L) (st : List Value) (h : am_H) (a : Nat) : am_f d scr L call 25 (n + 1) 104 lv (.ref a :: st) h = (match am_get h a 7 1 with
    | some v => am_f d scr L call 25 n 107 lv (v :: st) h
    | none => none) := k_gf (k := 101) rfl rfl
theorem s_25_107 (d L n : Nat) (scr : Nat → Int32) (call : Nat → List Value → am_H → Option am_X) (lv : am_L) (st : List Value) (h : am_H) : am_f d scr L call 25 (n + 1) 107 lv st h = (match am_ld lv 5 with
    | some (.int x) => am_f d scr L call 25 n 109 lv (.int x :: st) h
    | _ => none) := k_li (i := .iload 5) rfl rfl rfl rfl
theorem s_25_109 (d L n : Nat) (scr : Nat → Int32) (call : Nat → List Value → am_H → Option am_X) (lv : am_L) (st : List Value) (h : am_H) (a : Nat) (i : Int32) : am_f d scr L call 25 (n + 1) 109 lv (.int i :: .ref a :: st) h = (match am_ild scr L h a i with
    | some x => am_f d scr L call 25 n 110 lv (.int x :: st) h
    | none => none) := k_ia rfl
theorem s_25_110 (d L n : Nat) (scr : Nat → Int32) (call : Nat → List Value → am_H → Option am_X) (lv : am_L) (h : am_H) (o : Nat) (a0 : Int32) (a1 : Int32)  : am_f d scr L call 25 (n + 1) 110 lv (.int a1 :: .int a0 :: .ref o :: []) h = if am_at h o 2 = true then (match call 23 [.ref o, .int a0, .int a1] h with
    | some (v, h', dk, dn) => am_add dk dn (am_f d scr L call 25 n 113 lv (v.toList ++ []) h')
    | none => none) else none := k_iv0 (k := 73) (as := [.int a0, .int a1]) (r := []) rfl rfl rfl rfl (Nat.le_of_ble_eq_true rfl)
theorem s_25_113 (d L n : Nat) (scr : Nat → Int32) (call : Nat → List Value → am_H → Option am_X) (lv : am_L) (h : am_H) (x : Int32) : am_f d scr L call 25 (n + 1) 113 lv [.int x] h = some (some (.int x), h, 0, 0) := k_ir rfl rfl
-- 26: BlameDesk$Checker.errorInRead(I)I
theorem s_26_0 (d L n : Nat) (scr : Nat → Int32) (call : Nat → List Value → am_H → Option am_X) (lv : am_L) (st : List Value) (h : am_H) : am_f d scr L call 26 (n + 1) 0 lv st h = (match am_ld lv 0 with
    | some (.ref x) => am_f d scr L call 26 n 1 lv (.ref x :: st) h
    | _ => none) := k_la (i := .aload_n 0) rfl rfl rfl rfl
theorem s_26_1 (d L n : Nat) (scr : Nat → Int32) (call : Nat → List Value → am_H → Option am_X) (lv : am_L) (st : List Value) (h : am_H) (a : Nat) : am_f d scr L call 26 (n + 1) 1 lv (.ref a :: st) h = (match am_get h a 2 0 with
    | some v => am_f d scr L call 26 n 4 lv (v :: st) h
    | none => none) := k_gf (k := 9) rfl rfl
theorem s_26_4 (d L n : Nat) (scr : Nat → Int32) (call : Nat → List Value → am_H → Option am_X) (lv : am_L) (st : List Value) (h : am_H) (a : Nat) : am_f d scr L call 26 (n + 1) 4 lv (.ref a :: st) h = (match am_get h a 5 3 with
    | some v => am_f d scr L call 26 n 7 lv (v :: st) h
    | none => none) := k_gf (k := 34) rfl rfl
theorem s_26_7 (d L n : Nat) (scr : Nat → Int32) (call : Nat → List Value → am_H → Option am_X) (lv : am_L) (st : List Value) (h : am_H) : am_f d scr L call 26 (n + 1) 7 lv st h = (match am_ld lv 1 with
    | some (.int x) => am_f d scr L call 26 n 8 lv (.int x :: st) h
    | _ => none) := k_li (i := .iload_n 1) rfl rfl rfl rfl
theorem s_26_8 (d L n : Nat) (scr : Nat → Int32) (call : Nat → List Value → am_H → Option am_X) (lv : am_L) (st : List Value) (h : am_H) (a : Nat) (i : Int32) : am_f d scr L call 26 (n + 1) 8 lv (.int i :: .ref a :: st) h = (match am_ild scr L h a i with
    | some x => am_f d scr L call 26 n 9 lv (.int x :: st) h
    | none => none) := k_ia rfl
theorem s_26_9 (d L n : Nat) (scr : Nat → Int32) (call : Nat → List Value → am_H → Option am_X) (lv : am_L) (st : List Value) (h : am_H) (x : Int32) : am_f d scr L call 26 (n + 1) 9 lv (.int x :: st) h = am_f d scr L call 26 n 10 (am_st1 lv 2 (.int x)) st h := k_nx (i := .istore_n 2) rfl rfl
theorem s_26_10 (d L n : Nat) (scr : Nat → Int32) (call : Nat → List Value → am_H → Option am_X) (lv : am_L) (st : List Value) (h : am_H) : am_f d scr L call 26 (n + 1) 10 lv st h = (match am_ld lv 0 with
    | some (.ref x) => am_f d scr L call 26 n 11 lv (.ref x :: st) h
    | _ => none) := k_la (i := .aload_n 0) rfl rfl rfl rfl
theorem s_26_11 (d L n : Nat) (scr : Nat → Int32) (call : Nat → List Value → am_H → Option am_X) (lv : am_L) (st : List Value) (h : am_H) (a : Nat) : am_f d scr L call 26 (n + 1) 11 lv (.ref a :: st) h = (match am_get h a 2 0 with
    | some v => am_f d scr L call 26 n 14 lv (v :: st) h
    | none => none) := k_gf (k := 9) rfl rfl
theorem s_26_14 (d L n : Nat) (scr : Nat → Int32) (call : Nat → List Value → am_H → Option am_X) (lv : am_L) (st : List Value) (h : am_H) (a : Nat) : am_f d scr L call 26 (n + 1) 14 lv (.ref a :: st) h = (match am_get h a 5 9 with
    | some v => am_f d scr L call 26 n 17 lv (v :: st) h
    | none => none) := k_gf (k := 52) rfl rfl
theorem s_26_17 (d L n : Nat) (scr : Nat → Int32) (call : Nat → List Value → am_H → Option am_X) (lv : am_L) (st : List Value) (h : am_H) : am_f d scr L call 26 (n + 1) 17 lv st h = (match am_ld lv 2 with
    | some (.int x) => am_f d scr L call 26 n 18 lv (.int x :: st) h
    | _ => none) := k_li (i := .iload_n 2) rfl rfl rfl rfl
theorem s_26_18 (d L n : Nat) (scr : Nat → Int32) (call : Nat → List Value → am_H → Option am_X) (lv : am_L) (st : List Value) (h : am_H) (a : Nat) (i : Int32) : am_f d scr L call 26 (n + 1) 18 lv (.int i :: .ref a :: st) h = (match am_ild scr L h a i with
    | some x => am_f d scr L call 26 n 19 lv (.int x :: st) h
    | none => none) := k_ia rfl
theorem s_26_19 (d L n : Nat) (scr : Nat → Int32) (call : Nat → List Value → am_H → Option am_X) (lv : am_L) (st : List Value) (h : am_H) (x : Int32) : am_f d scr L call 26 (n + 1) 19 lv (.int x :: st) h = am_f d scr L call 26 n 20 (am_st1 lv 3 (.int x)) st h := k_nx (i := .istore_n 3) rfl rfl
theorem s_26_20 (d L n : Nat) (scr : Nat → Int32) (call : Nat → List Value → am_H → Option am_X) (lv : am_L) (st : List Value) (h : am_H) : am_f d scr L call 26 (n + 1) 20 lv st h = (match am_ld lv 3 with
    | some (.int x) => am_f d scr L call 26 n 21 lv (.int x :: st) h
    | _ => none) := k_li (i := .iload_n 3) rfl rfl rfl rfl
theorem s_26_21 (d L n : Nat) (scr : Nat → Int32) (call : Nat → List Value → am_H → Option am_X) (lv : am_L) (st : List Value) (h : am_H) (x : Int32) : am_f d scr L call 26 (n + 1) 21 lv (.int x :: st) h = if ¬ x = 0 then am_f d scr L call 26 n 41 lv st h else am_f d scr L call 26 n 24 lv st h := k_if_ne (o := 20) rfl ⟨by decide, rfl⟩
theorem s_26_24 (d L n : Nat) (scr : Nat → Int32) (call : Nat → List Value → am_H → Option am_X) (lv : am_L) (st : List Value) (h : am_H) : am_f d scr L call 26 (n + 1) 24 lv st h = (match am_ld lv 0 with
    | some (.ref x) => am_f d scr L call 26 n 25 lv (.ref x :: st) h
    | _ => none) := k_la (i := .aload_n 0) rfl rfl rfl rfl
theorem s_26_25 (d L n : Nat) (scr : Nat → Int32) (call : Nat → List Value → am_H → Option am_X) (lv : am_L) (st : List Value) (h : am_H) (a : Nat) : am_f d scr L call 26 (n + 1) 25 lv (.ref a :: st) h = (match am_get h a 2 0 with
    | some v => am_f d scr L call 26 n 28 lv (v :: st) h
    | none => none) := k_gf (k := 9) rfl rfl
theorem s_26_28 (d L n : Nat) (scr : Nat → Int32) (call : Nat → List Value → am_H → Option am_X) (lv : am_L) (st : List Value) (h : am_H) (a : Nat) : am_f d scr L call 26 (n + 1) 28 lv (.ref a :: st) h = (match am_get h a 5 10 with
    | some v => am_f d scr L call 26 n 31 lv (v :: st) h
    | none => none) := k_gf (k := 76) rfl rfl
theorem s_26_31 (d L n : Nat) (scr : Nat → Int32) (call : Nat → List Value → am_H → Option am_X) (lv : am_L) (st : List Value) (h : am_H) : am_f d scr L call 26 (n + 1) 31 lv st h = (match am_ld lv 2 with
    | some (.int x) => am_f d scr L call 26 n 32 lv (.int x :: st) h
    | _ => none) := k_li (i := .iload_n 2) rfl rfl rfl rfl
theorem s_26_32 (d L n : Nat) (scr : Nat → Int32) (call : Nat → List Value → am_H → Option am_X) (lv : am_L) (st : List Value) (h : am_H) : am_f d scr L call 26 (n + 1) 32 lv st h = am_f d scr L call 26 n 33 lv (.int 4 :: st) h := k_nx (i := .iconst 4) rfl rfl
theorem s_26_33 (d L n : Nat) (scr : Nat → Int32) (call : Nat → List Value → am_H → Option am_X) (lv : am_L) (st : List Value) (h : am_H) (a : Nat) (i : Int32) (x : Int32) : am_f d scr L call 26 (n + 1) 33 lv (.int x :: .int i :: .ref a :: st) h = (match am_ist h a i x with
    | some h' => am_f d scr L call 26 n 34 lv st h'
    | none => none) := k_is rfl
theorem s_26_34 (d L n : Nat) (scr : Nat → Int32) (call : Nat → List Value → am_H → Option am_X) (lv : am_L) (st : List Value) (h : am_H) : am_f d scr L call 26 (n + 1) 34 lv st h = (match am_ld lv 0 with
    | some (.ref x) => am_f d scr L call 26 n 35 lv (.ref x :: st) h
    | _ => none) := k_la (i := .aload_n 0) rfl rfl rfl rfl
theorem s_26_35 (d L n : Nat) (scr : Nat → Int32) (call : Nat → List Value → am_H → Option am_X) (lv : am_L) (st : List Value) (h : am_H) : am_f d scr L call 26 (n + 1) 35 lv st h = (match am_ld lv 1 with
    | some (.int x) => am_f d scr L call 26 n 36 lv (.int x :: st) h
    | _ => none) := k_li (i := .iload_n 1) rfl rfl rfl rfl
theorem s_26_36 (d L n : Nat) (scr : Nat → Int32) (call : Nat → List Value → am_H → Option am_X) (lv : am_L) (st : List Value) (h : am_H) : am_f d scr L call 26 (n + 1) 36 lv st h = am_f d scr L call 26 n 37 lv (.int 0 :: st) h := k_nx (i := .iconst 0) rfl rfl
theorem s_26_37 (d L n : Nat) (scr : Nat → Int32) (call : Nat → List Value → am_H → Option am_X) (lv : am_L) (h : am_H) (o : Nat) (a0 : Int32) (a1 : Int32)  : am_f d scr L call 26 (n + 1) 37 lv (.int a1 :: .int a0 :: .ref o :: []) h = if am_at h o 2 = true then (match call 22 [.ref o, .int a0, .int a1] h with
    | some (v, h', dk, dn) => am_add dk dn (am_f d scr L call 26 n 40 lv (v.toList ++ []) h')
    | none => none) else none := k_iv0 (k := 42) (as := [.int a0, .int a1]) (r := []) rfl rfl rfl rfl (Nat.le_of_ble_eq_true rfl)
theorem s_26_40 (d L n : Nat) (scr : Nat → Int32) (call : Nat → List Value → am_H → Option am_X) (lv : am_L) (h : am_H) (x : Int32) : am_f d scr L call 26 (n + 1) 40 lv [.int x] h = some (some (.int x), h, 0, 0) := k_ir rfl rfl
theorem s_26_41 (d L n : Nat) (scr : Nat → Int32) (call : Nat → List Value → am_H → Option am_X) (lv : am_L) (st : List Value) (h : am_H) : am_f d scr L call 26 (n + 1) 41 lv st h = (match am_ld lv 0 with
    | some (.ref x) => am_f d scr L call 26 n 42 lv (.ref x :: st) h
    | _ => none) := k_la (i := .aload_n 0) rfl rfl rfl rfl
theorem s_26_42 (d L n : Nat) (scr : Nat → Int32) (call : Nat → List Value → am_H → Option am_X) (lv : am_L) (st : List Value) (h : am_H) (a : Nat) : am_f d scr L call 26 (n + 1) 42 lv (.ref a :: st) h = (match am_get h a 2 1 with
    | some v => am_f d scr L call 26 n 45 lv (v :: st) h
    | none => none) := k_gf (k := 21) rfl rfl
theorem s_26_45 (d L n : Nat) (scr : Nat → Int32) (call : Nat → List Value → am_H → Option am_X) (lv : am_L) (st : List Value) (h : am_H) (a : Nat) : am_f d scr L call 26 (n + 1) 45 lv (.ref a :: st) h = (match am_get h a 7 0 with
    | some v => am_f d scr L call 26 n 48 lv (v :: st) h
    | none => none) := k_gf (k := 95) rfl rfl
theorem s_26_48 (d L n : Nat) (scr : Nat → Int32) (call : Nat → List Value → am_H → Option am_X) (lv : am_L) (st : List Value) (h : am_H) : am_f d scr L call 26 (n + 1) 48 lv st h = (match am_ld lv 3 with
    | some (.int x) => am_f d scr L call 26 n 49 lv (.int x :: st) h
    | _ => none) := k_li (i := .iload_n 3) rfl rfl rfl rfl
theorem s_26_49 (d L n : Nat) (scr : Nat → Int32) (call : Nat → List Value → am_H → Option am_X) (lv : am_L) (st : List Value) (h : am_H) (a : Nat) (i : Int32) : am_f d scr L call 26 (n + 1) 49 lv (.int i :: .ref a :: st) h = (match am_ild scr L h a i with
    | some x => am_f d scr L call 26 n 50 lv (.int x :: st) h
    | none => none) := k_ia rfl
theorem s_26_50 (d L n : Nat) (scr : Nat → Int32) (call : Nat → List Value → am_H → Option am_X) (lv : am_L) (st : List Value) (h : am_H) : am_f d scr L call 26 (n + 1) 50 lv st h = am_f d scr L call 26 n 51 lv (.int 4 :: st) h := k_nx (i := .iconst 4) rfl rfl
theorem s_26_51 (d L n : Nat) (scr : Nat → Int32) (call : Nat → List Value → am_H → Option am_X) (lv : am_L) (st : List Value) (h : am_H) (x y : Int32) : am_f d scr L call 26 (n + 1) 51 lv (.int y :: .int x :: st) h = if ¬ x = y then am_f d scr L call 26 n 71 lv st h else am_f d scr L call 26 n 54 lv st h := k_ic_ne (o := 20) rfl ⟨by decide, rfl⟩
theorem s_26_54 (d L n : Nat) (scr : Nat → Int32) (call : Nat → List Value → am_H → Option am_X) (lv : am_L) (st : List Value) (h : am_H) : am_f d scr L call 26 (n + 1) 54 lv st h = (match am_ld lv 0 with
    | some (.ref x) => am_f d scr L call 26 n 55 lv (.ref x :: st) h
    | _ => none) := k_la (i := .aload_n 0) rfl rfl rfl rfl
theorem s_26_55 (d L n : Nat) (scr : Nat → Int32) (call : Nat → List Value → am_H → Option am_X) (lv : am_L) (st : List Value) (h : am_H) : am_f d scr L call 26 (n + 1) 55 lv st h = (match am_ld lv 1 with
    | some (.int x) => am_f d scr L call 26 n 56 lv (.int x :: st) h
    | _ => none) := k_li (i := .iload_n 1) rfl rfl rfl rfl
theorem s_26_56 (d L n : Nat) (scr : Nat → Int32) (call : Nat → List Value → am_H → Option am_X) (lv : am_L) (st : List Value) (h : am_H) : am_f d scr L call 26 (n + 1) 56 lv st h = (match am_ld lv 0 with
    | some (.ref x) => am_f d scr L call 26 n 57 lv (.ref x :: st) h
    | _ => none) := k_la (i := .aload_n 0) rfl rfl rfl rfl
theorem s_26_57 (d L n : Nat) (scr : Nat → Int32) (call : Nat → List Value → am_H → Option am_X) (lv : am_L) (st : List Value) (h : am_H) (a : Nat) : am_f d scr L call 26 (n + 1) 57 lv (.ref a :: st) h = (match am_get h a 2 1 with
    | some v => am_f d scr L call 26 n 60 lv (v :: st) h
    | none => none) := k_gf (k := 21) rfl rfl
theorem s_26_60 (d L n : Nat) (scr : Nat → Int32) (call : Nat → List Value → am_H → Option am_X) (lv : am_L) (st : List Value) (h : am_H) (a : Nat) : am_f d scr L call 26 (n + 1) 60 lv (.ref a :: st) h = (match am_get h a 7 2 with
    | some v => am_f d scr L call 26 n 63 lv (v :: st) h
    | none => none) := k_gf (k := 98) rfl rfl
theorem s_26_63 (d L n : Nat) (scr : Nat → Int32) (call : Nat → List Value → am_H → Option am_X) (lv : am_L) (st : List Value) (h : am_H) : am_f d scr L call 26 (n + 1) 63 lv st h = (match am_ld lv 3 with
    | some (.int x) => am_f d scr L call 26 n 64 lv (.int x :: st) h
    | _ => none) := k_li (i := .iload_n 3) rfl rfl rfl rfl
theorem s_26_64 (d L n : Nat) (scr : Nat → Int32) (call : Nat → List Value → am_H → Option am_X) (lv : am_L) (st : List Value) (h : am_H) (a : Nat) (i : Int32) : am_f d scr L call 26 (n + 1) 64 lv (.int i :: .ref a :: st) h = (match am_ild scr L h a i with
    | some x => am_f d scr L call 26 n 65 lv (.int x :: st) h
    | none => none) := k_ia rfl
theorem s_26_65 (d L n : Nat) (scr : Nat → Int32) (call : Nat → List Value → am_H → Option am_X) (lv : am_L) (h : am_H) (o : Nat) (a0 : Int32) (a1 : Int32)  : am_f d scr L call 26 (n + 1) 65 lv (.int a1 :: .int a0 :: .ref o :: []) h = if am_at h o 2 = true then (match call 22 [.ref o, .int a0, .int a1] h with
    | some (v, h', dk, dn) => am_add dk dn (am_f d scr L call 26 n 68 lv (v.toList ++ []) h')
    | none => none) else none := k_iv0 (k := 42) (as := [.int a0, .int a1]) (r := []) rfl rfl rfl rfl (Nat.le_of_ble_eq_true rfl)
theorem s_26_68 (d L n : Nat) (scr : Nat → Int32) (call : Nat → List Value → am_H → Option am_X) (lv : am_L) (st : List Value) (h : am_H) : am_f d scr L call 26 (n + 1) 68 lv st h = am_f d scr L call 26 n 72 lv st h := k_nx (i := .goto 4) rfl rfl
theorem s_26_71 (d L n : Nat) (scr : Nat → Int32) (call : Nat → List Value → am_H → Option am_X) (lv : am_L) (st : List Value) (h : am_H) : am_f d scr L call 26 (n + 1) 71 lv st h = (match am_ld lv 2 with
    | some (.int x) => am_f d scr L call 26 n 72 lv (.int x :: st) h
    | _ => none) := k_li (i := .iload_n 2) rfl rfl rfl rfl
theorem s_26_72 (d L n : Nat) (scr : Nat → Int32) (call : Nat → List Value → am_H → Option am_X) (lv : am_L) (h : am_H) (x : Int32) : am_f d scr L call 26 (n + 1) 72 lv [.int x] h = some (some (.int x), h, 0, 0) := k_ir rfl rfl
-- 27: BlameDesk$Checker.errorInOperation(II)I
theorem s_27_0 (d L n : Nat) (scr : Nat → Int32) (call : Nat → List Value → am_H → Option am_X) (lv : am_L) (st : List Value) (h : am_H) : am_f d scr L call 27 (n + 1) 0 lv st h = (match am_ld lv 0 with
    | some (.ref x) => am_f d scr L call 27 n 1 lv (.ref x :: st) h
    | _ => none) := k_la (i := .aload_n 0) rfl rfl rfl rfl
theorem s_27_1 (d L n : Nat) (scr : Nat → Int32) (call : Nat → List Value → am_H → Option am_X) (lv : am_L) (st : List Value) (h : am_H) : am_f d scr L call 27 (n + 1) 1 lv st h = (match am_ld lv 1 with
    | some (.int x) => am_f d scr L call 27 n 2 lv (.int x :: st) h
    | _ => none) := k_li (i := .iload_n 1) rfl rfl rfl rfl
theorem s_27_2 (d L n : Nat) (scr : Nat → Int32) (call : Nat → List Value → am_H → Option am_X) (lv : am_L) (st : List Value) (h : am_H) : am_f d scr L call 27 (n + 1) 2 lv st h = (match am_ld lv 2 with
    | some (.int x) => am_f d scr L call 27 n 3 lv (.int x :: st) h
    | _ => none) := k_li (i := .iload_n 2) rfl rfl rfl rfl
theorem s_27_3 (d L n : Nat) (scr : Nat → Int32) (call : Nat → List Value → am_H → Option am_X) (lv : am_L) (h : am_H) (o : Nat) (a0 : Int32) (a1 : Int32)  : am_f d scr L call 27 (n + 1) 3 lv (.int a1 :: .int a0 :: .ref o :: []) h = if am_at h o 2 = true then (match call 22 [.ref o, .int a0, .int a1] h with
    | some (v, h', dk, dn) => am_add dk dn (am_f d scr L call 27 n 6 lv (v.toList ++ []) h')
    | none => none) else none := k_iv0 (k := 42) (as := [.int a0, .int a1]) (r := []) rfl rfl rfl rfl (Nat.le_of_ble_eq_true rfl)
theorem s_27_6 (d L n : Nat) (scr : Nat → Int32) (call : Nat → List Value → am_H → Option am_X) (lv : am_L) (st : List Value) (h : am_H) (x : Int32) : am_f d scr L call 27 (n + 1) 6 lv (.int x :: st) h = am_f d scr L call 27 n 7 lv st h := k_nx (i := .pop) rfl rfl
theorem s_27_7 (d L n : Nat) (scr : Nat → Int32) (call : Nat → List Value → am_H → Option am_X) (lv : am_L) (st : List Value) (h : am_H) : am_f d scr L call 27 (n + 1) 7 lv st h = (match am_ld lv 0 with
    | some (.ref x) => am_f d scr L call 27 n 8 lv (.ref x :: st) h
    | _ => none) := k_la (i := .aload_n 0) rfl rfl rfl rfl
theorem s_27_8 (d L n : Nat) (scr : Nat → Int32) (call : Nat → List Value → am_H → Option am_X) (lv : am_L) (st : List Value) (h : am_H) : am_f d scr L call 27 (n + 1) 8 lv st h = (match am_ld lv 0 with
    | some (.ref x) => am_f d scr L call 27 n 9 lv (.ref x :: st) h
    | _ => none) := k_la (i := .aload_n 0) rfl rfl rfl rfl
theorem s_27_9 (d L n : Nat) (scr : Nat → Int32) (call : Nat → List Value → am_H → Option am_X) (lv : am_L) (st : List Value) (h : am_H) (a : Nat) : am_f d scr L call 27 (n + 1) 9 lv (.ref a :: st) h = (match am_get h a 2 0 with
    | some v => am_f d scr L call 27 n 12 lv (v :: st) h
    | none => none) := k_gf (k := 9) rfl rfl
theorem s_27_12 (d L n : Nat) (scr : Nat → Int32) (call : Nat → List Value → am_H → Option am_X) (lv : am_L) (st : List Value) (h : am_H) (a : Nat) : am_f d scr L call 27 (n + 1) 12 lv (.ref a :: st) h = (match am_get h a 5 3 with
    | some v => am_f d scr L call 27 n 15 lv (v :: st) h
    | none => none) := k_gf (k := 34) rfl rfl
theorem s_27_15 (d L n : Nat) (scr : Nat → Int32) (call : Nat → List Value → am_H → Option am_X) (lv : am_L) (st : List Value) (h : am_H) : am_f d scr L call 27 (n + 1) 15 lv st h = (match am_ld lv 1 with
    | some (.int x) => am_f d scr L call 27 n 16 lv (.int x :: st) h
    | _ => none) := k_li (i := .iload_n 1) rfl rfl rfl rfl
theorem s_27_16 (d L n : Nat) (scr : Nat → Int32) (call : Nat → List Value → am_H → Option am_X) (lv : am_L) (st : List Value) (h : am_H) (a : Nat) (i : Int32) : am_f d scr L call 27 (n + 1) 16 lv (.int i :: .ref a :: st) h = (match am_ild scr L h a i with
    | some x => am_f d scr L call 27 n 17 lv (.int x :: st) h
    | none => none) := k_ia rfl
theorem s_27_17 (d L n : Nat) (scr : Nat → Int32) (call : Nat → List Value → am_H → Option am_X) (lv : am_L) (st : List Value) (h : am_H) : am_f d scr L call 27 (n + 1) 17 lv st h = am_f d scr L call 27 n 18 lv (.int 1 :: st) h := k_nx (i := .iconst 1) rfl rfl
theorem s_27_18 (d L n : Nat) (scr : Nat → Int32) (call : Nat → List Value → am_H → Option am_X) (lv : am_L) (h : am_H) (o : Nat) (a0 : Int32) (a1 : Int32)  : am_f d scr L call 27 (n + 1) 18 lv (.int a1 :: .int a0 :: .ref o :: []) h = if am_at h o 2 = true then (match call 23 [.ref o, .int a0, .int a1] h with
    | some (v, h', dk, dn) => am_add dk dn (am_f d scr L call 27 n 21 lv (v.toList ++ []) h')
    | none => none) else none := k_iv0 (k := 73) (as := [.int a0, .int a1]) (r := []) rfl rfl rfl rfl (Nat.le_of_ble_eq_true rfl)
theorem s_27_21 (d L n : Nat) (scr : Nat → Int32) (call : Nat → List Value → am_H → Option am_X) (lv : am_L) (st : List Value) (h : am_H) (x : Int32) : am_f d scr L call 27 (n + 1) 21 lv (.int x :: st) h = am_f d scr L call 27 n 22 (am_st1 lv 3 (.int x)) st h := k_nx (i := .istore_n 3) rfl rfl
theorem s_27_22 (d L n : Nat) (scr : Nat → Int32) (call : Nat → List Value → am_H → Option am_X) (lv : am_L) (st : List Value) (h : am_H) : am_f d scr L call 27 (n + 1) 22 lv st h = (match am_ld lv 3 with
    | some (.int x) => am_f d scr L call 27 n 23 lv (.int x :: st) h
    | _ => none) := k_li (i := .iload_n 3) rfl rfl rfl rfl
theorem s_27_23 (d L n : Nat) (scr : Nat → Int32) (call : Nat → List Value → am_H → Option am_X) (lv : am_L) (st : List Value) (h : am_H) : am_f d scr L call 27 (n + 1) 23 lv st h = am_f d scr L call 27 n 24 lv (.int (-1) :: st) h := k_nx (i := .iconst (-1)) rfl rfl
theorem s_27_24 (d L n : Nat) (scr : Nat → Int32) (call : Nat → List Value → am_H → Option am_X) (lv : am_L) (st : List Value) (h : am_H) (x y : Int32) : am_f d scr L call 27 (n + 1) 24 lv (.int y :: .int x :: st) h = if x = y then am_f d scr L call 27 n 31 lv st h else am_f d scr L call 27 n 27 lv st h := k_ic_eq (o := 7) rfl ⟨by decide, rfl⟩
theorem s_27_27 (d L n : Nat) (scr : Nat → Int32) (call : Nat → List Value → am_H → Option am_X) (lv : am_L) (st : List Value) (h : am_H) : am_f d scr L call 27 (n + 1) 27 lv st h = (match am_ld lv 3 with
    | some (.int x) => am_f d scr L call 27 n 28 lv (.int x :: st) h
    | _ => none) := k_li (i := .iload_n 3) rfl rfl rfl rfl
theorem s_27_28 (d L n : Nat) (scr : Nat → Int32) (call : Nat → List Value → am_H → Option am_X) (lv : am_L) (st : List Value) (h : am_H) : am_f d scr L call 27 (n + 1) 28 lv st h = am_f d scr L call 27 n 45 lv st h := k_nx (i := .goto 17) rfl rfl
theorem s_27_31 (d L n : Nat) (scr : Nat → Int32) (call : Nat → List Value → am_H → Option am_X) (lv : am_L) (st : List Value) (h : am_H) : am_f d scr L call 27 (n + 1) 31 lv st h = (match am_ld lv 0 with
    | some (.ref x) => am_f d scr L call 27 n 32 lv (.ref x :: st) h
    | _ => none) := k_la (i := .aload_n 0) rfl rfl rfl rfl
theorem s_27_32 (d L n : Nat) (scr : Nat → Int32) (call : Nat → List Value → am_H → Option am_X) (lv : am_L) (st : List Value) (h : am_H) : am_f d scr L call 27 (n + 1) 32 lv st h = (match am_ld lv 0 with
    | some (.ref x) => am_f d scr L call 27 n 33 lv (.ref x :: st) h
    | _ => none) := k_la (i := .aload_n 0) rfl rfl rfl rfl
theorem s_27_33 (d L n : Nat) (scr : Nat → Int32) (call : Nat → List Value → am_H → Option am_X) (lv : am_L) (st : List Value) (h : am_H) (a : Nat) : am_f d scr L call 27 (n + 1) 33 lv (.ref a :: st) h = (match am_get h a 2 0 with
    | some v => am_f d scr L call 27 n 36 lv (v :: st) h
    | none => none) := k_gf (k := 9) rfl rfl
theorem s_27_36 (d L n : Nat) (scr : Nat → Int32) (call : Nat → List Value → am_H → Option am_X) (lv : am_L) (st : List Value) (h : am_H) (a : Nat) : am_f d scr L call 27 (n + 1) 36 lv (.ref a :: st) h = (match am_get h a 5 4 with
    | some v => am_f d scr L call 27 n 39 lv (v :: st) h
    | none => none) := k_gf (k := 92) rfl rfl
theorem s_27_39 (d L n : Nat) (scr : Nat → Int32) (call : Nat → List Value → am_H → Option am_X) (lv : am_L) (st : List Value) (h : am_H) : am_f d scr L call 27 (n + 1) 39 lv st h = (match am_ld lv 1 with
    | some (.int x) => am_f d scr L call 27 n 40 lv (.int x :: st) h
    | _ => none) := k_li (i := .iload_n 1) rfl rfl rfl rfl
theorem s_27_40 (d L n : Nat) (scr : Nat → Int32) (call : Nat → List Value → am_H → Option am_X) (lv : am_L) (st : List Value) (h : am_H) (a : Nat) (i : Int32) : am_f d scr L call 27 (n + 1) 40 lv (.int i :: .ref a :: st) h = (match am_ild scr L h a i with
    | some x => am_f d scr L call 27 n 41 lv (.int x :: st) h
    | none => none) := k_ia rfl
theorem s_27_41 (d L n : Nat) (scr : Nat → Int32) (call : Nat → List Value → am_H → Option am_X) (lv : am_L) (st : List Value) (h : am_H) : am_f d scr L call 27 (n + 1) 41 lv st h = am_f d scr L call 27 n 42 lv (.int 1 :: st) h := k_nx (i := .iconst 1) rfl rfl
theorem s_27_42 (d L n : Nat) (scr : Nat → Int32) (call : Nat → List Value → am_H → Option am_X) (lv : am_L) (h : am_H) (o : Nat) (a0 : Int32) (a1 : Int32)  : am_f d scr L call 27 (n + 1) 42 lv (.int a1 :: .int a0 :: .ref o :: []) h = if am_at h o 2 = true then (match call 23 [.ref o, .int a0, .int a1] h with
    | some (v, h', dk, dn) => am_add dk dn (am_f d scr L call 27 n 45 lv (v.toList ++ []) h')
    | none => none) else none := k_iv0 (k := 73) (as := [.int a0, .int a1]) (r := []) rfl rfl rfl rfl (Nat.le_of_ble_eq_true rfl)
theorem s_27_45 (d L n : Nat) (scr : Nat → Int32) (call : Nat → List Value → am_H → Option am_X) (lv : am_L) (h : am_H) (x : Int32) : am_f d scr L call 27 (n + 1) 45 lv [.int x] h = some (some (.int x), h, 0, 0) := k_ir rfl rfl
-- 28: BlameDesk$Checker.errorInChoice(I)I
theorem s_28_0 (d L n : Nat) (scr : Nat → Int32) (call : Nat → List Value → am_H → Option am_X) (lv : am_L) (st : List Value) (h : am_H) : am_f d scr L call 28 (n + 1) 0 lv st h = (match am_ld lv 0 with
    | some (.ref x) => am_f d scr L call 28 n 1 lv (.ref x :: st) h
    | _ => none) := k_la (i := .aload_n 0) rfl rfl rfl rfl
theorem s_28_1 (d L n : Nat) (scr : Nat → Int32) (call : Nat → List Value → am_H → Option am_X) (lv : am_L) (st : List Value) (h : am_H) (a : Nat) : am_f d scr L call 28 (n + 1) 1 lv (.ref a :: st) h = (match am_get h a 2 0 with
    | some v => am_f d scr L call 28 n 4 lv (v :: st) h
    | none => none) := k_gf (k := 9) rfl rfl
theorem s_28_4 (d L n : Nat) (scr : Nat → Int32) (call : Nat → List Value → am_H → Option am_X) (lv : am_L) (st : List Value) (h : am_H) (a : Nat) : am_f d scr L call 28 (n + 1) 4 lv (.ref a :: st) h = (match am_get h a 5 9 with
    | some v => am_f d scr L call 28 n 7 lv (v :: st) h
    | none => none) := k_gf (k := 52) rfl rfl
theorem s_28_7 (d L n : Nat) (scr : Nat → Int32) (call : Nat → List Value → am_H → Option am_X) (lv : am_L) (st : List Value) (h : am_H) : am_f d scr L call 28 (n + 1) 7 lv st h = (match am_ld lv 0 with
    | some (.ref x) => am_f d scr L call 28 n 8 lv (.ref x :: st) h
    | _ => none) := k_la (i := .aload_n 0) rfl rfl rfl rfl
theorem s_28_8 (d L n : Nat) (scr : Nat → Int32) (call : Nat → List Value → am_H → Option am_X) (lv : am_L) (st : List Value) (h : am_H) (a : Nat) : am_f d scr L call 28 (n + 1) 8 lv (.ref a :: st) h = (match am_get h a 2 0 with
    | some v => am_f d scr L call 28 n 11 lv (v :: st) h
    | none => none) := k_gf (k := 9) rfl rfl
theorem s_28_11 (d L n : Nat) (scr : Nat → Int32) (call : Nat → List Value → am_H → Option am_X) (lv : am_L) (st : List Value) (h : am_H) (a : Nat) : am_f d scr L call 28 (n + 1) 11 lv (.ref a :: st) h = (match am_get h a 5 4 with
    | some v => am_f d scr L call 28 n 14 lv (v :: st) h
    | none => none) := k_gf (k := 92) rfl rfl
theorem s_28_14 (d L n : Nat) (scr : Nat → Int32) (call : Nat → List Value → am_H → Option am_X) (lv : am_L) (st : List Value) (h : am_H) : am_f d scr L call 28 (n + 1) 14 lv st h = (match am_ld lv 1 with
    | some (.int x) => am_f d scr L call 28 n 15 lv (.int x :: st) h
    | _ => none) := k_li (i := .iload_n 1) rfl rfl rfl rfl
theorem s_28_15 (d L n : Nat) (scr : Nat → Int32) (call : Nat → List Value → am_H → Option am_X) (lv : am_L) (st : List Value) (h : am_H) (a : Nat) (i : Int32) : am_f d scr L call 28 (n + 1) 15 lv (.int i :: .ref a :: st) h = (match am_ild scr L h a i with
    | some x => am_f d scr L call 28 n 16 lv (.int x :: st) h
    | none => none) := k_ia rfl
theorem s_28_16 (d L n : Nat) (scr : Nat → Int32) (call : Nat → List Value → am_H → Option am_X) (lv : am_L) (st : List Value) (h : am_H) (a : Nat) (i : Int32) : am_f d scr L call 28 (n + 1) 16 lv (.int i :: .ref a :: st) h = (match am_ild scr L h a i with
    | some x => am_f d scr L call 28 n 17 lv (.int x :: st) h
    | none => none) := k_ia rfl
theorem s_28_17 (d L n : Nat) (scr : Nat → Int32) (call : Nat → List Value → am_H → Option am_X) (lv : am_L) (st : List Value) (h : am_H) (x : Int32) : am_f d scr L call 28 (n + 1) 17 lv (.int x :: st) h = am_f d scr L call 28 n 18 (am_st1 lv 2 (.int x)) st h := k_nx (i := .istore_n 2) rfl rfl
theorem s_28_18 (d L n : Nat) (scr : Nat → Int32) (call : Nat → List Value → am_H → Option am_X) (lv : am_L) (st : List Value) (h : am_H) : am_f d scr L call 28 (n + 1) 18 lv st h = (match am_ld lv 0 with
    | some (.ref x) => am_f d scr L call 28 n 19 lv (.ref x :: st) h
    | _ => none) := k_la (i := .aload_n 0) rfl rfl rfl rfl
theorem s_28_19 (d L n : Nat) (scr : Nat → Int32) (call : Nat → List Value → am_H → Option am_X) (lv : am_L) (st : List Value) (h : am_H) : am_f d scr L call 28 (n + 1) 19 lv st h = (match am_ld lv 1 with
    | some (.int x) => am_f d scr L call 28 n 20 lv (.int x :: st) h
    | _ => none) := k_li (i := .iload_n 1) rfl rfl rfl rfl
theorem s_28_20 (d L n : Nat) (scr : Nat → Int32) (call : Nat → List Value → am_H → Option am_X) (lv : am_L) (st : List Value) (h : am_H) : am_f d scr L call 28 (n + 1) 20 lv st h = (match am_ld lv 2 with
    | some (.int x) => am_f d scr L call 28 n 21 lv (.int x :: st) h
    | _ => none) := k_li (i := .iload_n 2) rfl rfl rfl rfl
theorem s_28_21 (d L n : Nat) (scr : Nat → Int32) (call : Nat → List Value → am_H → Option am_X) (lv : am_L) (h : am_H) (o : Nat) (a0 : Int32) (a1 : Int32)  : am_f d scr L call 28 (n + 1) 21 lv (.int a1 :: .int a0 :: .ref o :: []) h = if am_at h o 2 = true then (match call 22 [.ref o, .int a0, .int a1] h with
    | some (v, h', dk, dn) => am_add dk dn (am_f d scr L call 28 n 24 lv (v.toList ++ []) h')
    | none => none) else none := k_iv0 (k := 42) (as := [.int a0, .int a1]) (r := []) rfl rfl rfl rfl (Nat.le_of_ble_eq_true rfl)
theorem s_28_24 (d L n : Nat) (scr : Nat → Int32) (call : Nat → List Value → am_H → Option am_X) (lv : am_L) (st : List Value) (h : am_H) (x : Int32) : am_f d scr L call 28 (n + 1) 24 lv (.int x :: st) h = am_f d scr L call 28 n 25 lv st h := k_nx (i := .pop) rfl rfl
theorem s_28_25 (d L n : Nat) (scr : Nat → Int32) (call : Nat → List Value → am_H → Option am_X) (lv : am_L) (st : List Value) (h : am_H) : am_f d scr L call 28 (n + 1) 25 lv st h = (match am_ld lv 0 with
    | some (.ref x) => am_f d scr L call 28 n 26 lv (.ref x :: st) h
    | _ => none) := k_la (i := .aload_n 0) rfl rfl rfl rfl
theorem s_28_26 (d L n : Nat) (scr : Nat → Int32) (call : Nat → List Value → am_H → Option am_X) (lv : am_L) (st : List Value) (h : am_H) : am_f d scr L call 28 (n + 1) 26 lv st h = (match am_ld lv 0 with
    | some (.ref x) => am_f d scr L call 28 n 27 lv (.ref x :: st) h
    | _ => none) := k_la (i := .aload_n 0) rfl rfl rfl rfl
theorem s_28_27 (d L n : Nat) (scr : Nat → Int32) (call : Nat → List Value → am_H → Option am_X) (lv : am_L) (st : List Value) (h : am_H) (a : Nat) : am_f d scr L call 28 (n + 1) 27 lv (.ref a :: st) h = (match am_get h a 2 0 with
    | some v => am_f d scr L call 28 n 30 lv (v :: st) h
    | none => none) := k_gf (k := 9) rfl rfl
theorem s_28_30 (d L n : Nat) (scr : Nat → Int32) (call : Nat → List Value → am_H → Option am_X) (lv : am_L) (st : List Value) (h : am_H) (a : Nat) : am_f d scr L call 28 (n + 1) 30 lv (.ref a :: st) h = (match am_get h a 5 3 with
    | some v => am_f d scr L call 28 n 33 lv (v :: st) h
    | none => none) := k_gf (k := 34) rfl rfl
theorem s_28_33 (d L n : Nat) (scr : Nat → Int32) (call : Nat → List Value → am_H → Option am_X) (lv : am_L) (st : List Value) (h : am_H) : am_f d scr L call 28 (n + 1) 33 lv st h = (match am_ld lv 1 with
    | some (.int x) => am_f d scr L call 28 n 34 lv (.int x :: st) h
    | _ => none) := k_li (i := .iload_n 1) rfl rfl rfl rfl
theorem s_28_34 (d L n : Nat) (scr : Nat → Int32) (call : Nat → List Value → am_H → Option am_X) (lv : am_L) (st : List Value) (h : am_H) (a : Nat) (i : Int32) : am_f d scr L call 28 (n + 1) 34 lv (.int i :: .ref a :: st) h = (match am_ild scr L h a i with
    | some x => am_f d scr L call 28 n 35 lv (.int x :: st) h
    | none => none) := k_ia rfl
theorem s_28_35 (d L n : Nat) (scr : Nat → Int32) (call : Nat → List Value → am_H → Option am_X) (lv : am_L) (st : List Value) (h : am_H) : am_f d scr L call 28 (n + 1) 35 lv st h = am_f d scr L call 28 n 36 lv (.int 2 :: st) h := k_nx (i := .iconst 2) rfl rfl
theorem s_28_36 (d L n : Nat) (scr : Nat → Int32) (call : Nat → List Value → am_H → Option am_X) (lv : am_L) (h : am_H) (o : Nat) (a0 : Int32) (a1 : Int32)  : am_f d scr L call 28 (n + 1) 36 lv (.int a1 :: .int a0 :: .ref o :: []) h = if am_at h o 2 = true then (match call 23 [.ref o, .int a0, .int a1] h with
    | some (v, h', dk, dn) => am_add dk dn (am_f d scr L call 28 n 39 lv (v.toList ++ []) h')
    | none => none) else none := k_iv0 (k := 73) (as := [.int a0, .int a1]) (r := []) rfl rfl rfl rfl (Nat.le_of_ble_eq_true rfl)
theorem s_28_39 (d L n : Nat) (scr : Nat → Int32) (call : Nat → List Value → am_H → Option am_X) (lv : am_L) (st : List Value) (h : am_H) (x : Int32) : am_f d scr L call 28 (n + 1) 39 lv (.int x :: st) h = am_f d scr L call 28 n 40 (am_st1 lv 3 (.int x)) st h := k_nx (i := .istore_n 3) rfl rfl
theorem s_28_40 (d L n : Nat) (scr : Nat → Int32) (call : Nat → List Value → am_H → Option am_X) (lv : am_L) (st : List Value) (h : am_H) : am_f d scr L call 28 (n + 1) 40 lv st h = (match am_ld lv 3 with
    | some (.int x) => am_f d scr L call 28 n 41 lv (.int x :: st) h
    | _ => none) := k_li (i := .iload_n 3) rfl rfl rfl rfl
theorem s_28_41 (d L n : Nat) (scr : Nat → Int32) (call : Nat → List Value → am_H → Option am_X) (lv : am_L) (st : List Value) (h : am_H) : am_f d scr L call 28 (n + 1) 41 lv st h = am_f d scr L call 28 n 42 lv (.int (-1) :: st) h := k_nx (i := .iconst (-1)) rfl rfl
theorem s_28_42 (d L n : Nat) (scr : Nat → Int32) (call : Nat → List Value → am_H → Option am_X) (lv : am_L) (st : List Value) (h : am_H) (x y : Int32) : am_f d scr L call 28 (n + 1) 42 lv (.int y :: .int x :: st) h = if x = y then am_f d scr L call 28 n 49 lv st h else am_f d scr L call 28 n 45 lv st h := k_ic_eq (o := 7) rfl ⟨by decide, rfl⟩
theorem s_28_45 (d L n : Nat) (scr : Nat → Int32) (call : Nat → List Value → am_H → Option am_X) (lv : am_L) (st : List Value) (h : am_H) : am_f d scr L call 28 (n + 1) 45 lv st h = (match am_ld lv 3 with
    | some (.int x) => am_f d scr L call 28 n 46 lv (.int x :: st) h
    | _ => none) := k_li (i := .iload_n 3) rfl rfl rfl rfl
theorem s_28_46 (d L n : Nat) (scr : Nat → Int32) (call : Nat → List Value → am_H → Option am_X) (lv : am_L) (st : List Value) (h : am_H) : am_f d scr L call 28 (n + 1) 46 lv st h = am_f d scr L call 28 n 63 lv st h := k_nx (i := .goto 17) rfl rfl
theorem s_28_49 (d L n : Nat) (scr : Nat → Int32) (call : Nat → List Value → am_H → Option am_X) (lv : am_L) (st : List Value) (h : am_H) : am_f d scr L call 28 (n + 1) 49 lv st h = (match am_ld lv 0 with
    | some (.ref x) => am_f d scr L call 28 n 50 lv (.ref x :: st) h
    | _ => none) := k_la (i := .aload_n 0) rfl rfl rfl rfl
theorem s_28_50 (d L n : Nat) (scr : Nat → Int32) (call : Nat → List Value → am_H → Option am_X) (lv : am_L) (st : List Value) (h : am_H) : am_f d scr L call 28 (n + 1) 50 lv st h = (match am_ld lv 0 with
    | some (.ref x) => am_f d scr L call 28 n 51 lv (.ref x :: st) h
    | _ => none) := k_la (i := .aload_n 0) rfl rfl rfl rfl
theorem s_28_51 (d L n : Nat) (scr : Nat → Int32) (call : Nat → List Value → am_H → Option am_X) (lv : am_L) (st : List Value) (h : am_H) (a : Nat) : am_f d scr L call 28 (n + 1) 51 lv (.ref a :: st) h = (match am_get h a 2 0 with
    | some v => am_f d scr L call 28 n 54 lv (v :: st) h
    | none => none) := k_gf (k := 9) rfl rfl
theorem s_28_54 (d L n : Nat) (scr : Nat → Int32) (call : Nat → List Value → am_H → Option am_X) (lv : am_L) (st : List Value) (h : am_H) (a : Nat) : am_f d scr L call 28 (n + 1) 54 lv (.ref a :: st) h = (match am_get h a 5 5 with
    | some v => am_f d scr L call 28 n 57 lv (v :: st) h
    | none => none) := k_gf (k := 104) rfl rfl
theorem s_28_57 (d L n : Nat) (scr : Nat → Int32) (call : Nat → List Value → am_H → Option am_X) (lv : am_L) (st : List Value) (h : am_H) : am_f d scr L call 28 (n + 1) 57 lv st h = (match am_ld lv 1 with
    | some (.int x) => am_f d scr L call 28 n 58 lv (.int x :: st) h
    | _ => none) := k_li (i := .iload_n 1) rfl rfl rfl rfl
theorem s_28_58 (d L n : Nat) (scr : Nat → Int32) (call : Nat → List Value → am_H → Option am_X) (lv : am_L) (st : List Value) (h : am_H) (a : Nat) (i : Int32) : am_f d scr L call 28 (n + 1) 58 lv (.int i :: .ref a :: st) h = (match am_ild scr L h a i with
    | some x => am_f d scr L call 28 n 59 lv (.int x :: st) h
    | none => none) := k_ia rfl
theorem s_28_59 (d L n : Nat) (scr : Nat → Int32) (call : Nat → List Value → am_H → Option am_X) (lv : am_L) (st : List Value) (h : am_H) : am_f d scr L call 28 (n + 1) 59 lv st h = (match am_ld lv 2 with
    | some (.int x) => am_f d scr L call 28 n 60 lv (.int x :: st) h
    | _ => none) := k_li (i := .iload_n 2) rfl rfl rfl rfl
theorem s_28_60 (d L n : Nat) (scr : Nat → Int32) (call : Nat → List Value → am_H → Option am_X) (lv : am_L) (h : am_H) (o : Nat) (a0 : Int32) (a1 : Int32)  : am_f d scr L call 28 (n + 1) 60 lv (.int a1 :: .int a0 :: .ref o :: []) h = if am_at h o 2 = true then (match call 23 [.ref o, .int a0, .int a1] h with
    | some (v, h', dk, dn) => am_add dk dn (am_f d scr L call 28 n 63 lv (v.toList ++ []) h')
    | none => none) else none := k_iv0 (k := 73) (as := [.int a0, .int a1]) (r := []) rfl rfl rfl rfl (Nat.le_of_ble_eq_true rfl)
theorem s_28_63 (d L n : Nat) (scr : Nat → Int32) (call : Nat → List Value → am_H → Option am_X) (lv : am_L) (h : am_H) (x : Int32) : am_f d scr L call 28 (n + 1) 63 lv [.int x] h = some (some (.int x), h, 0, 0) := k_ir rfl rfl
-- 84: BlameDesk$Value.of(II)J
theorem s_84_0 (d L n : Nat) (scr : Nat → Int32) (call : Nat → List Value → am_H → Option am_X) (lv : am_L) (st : List Value) (h : am_H) : am_f d scr L call 84 (n + 1) 0 lv st h = (match am_ld lv 1 with
    | some (.int x) => am_f d scr L call 84 n 1 lv (.int x :: st) h
    | _ => none) := k_li (i := .iload_n 1) rfl rfl rfl rfl
theorem s_84_1 (d L n : Nat) (scr : Nat → Int32) (call : Nat → List Value → am_H → Option am_X) (lv : am_L) (st : List Value) (h : am_H) (x : Int32) : am_f d scr L call 84 (n + 1) 1 lv (.int x :: st) h = am_f d scr L call 84 n 2 lv (.long x.toInt64 :: st) h := k_nx (i := .i2l) rfl rfl
theorem s_84_2 (d L n : Nat) (scr : Nat → Int32) (call : Nat → List Value → am_H → Option am_X) (lv : am_L) (st : List Value) (h : am_H) : am_f d scr L call 84 (n + 1) 2 lv st h = am_f d scr L call 84 n 3 lv (.int 4 :: st) h := k_nx (i := .iconst 4) rfl rfl
theorem s_84_3 (d L n : Nat) (scr : Nat → Int32) (call : Nat → List Value → am_H → Option am_X) (lv : am_L) (st : List Value) (h : am_H) (x : Int64) (y : Int32) : am_f d scr L call 84 (n + 1) 3 lv (.int y :: .long x :: st) h = am_f d scr L call 84 n 4 lv (.long (x <<< (y.toInt64 &&& 63)) :: st) h := k_nx (i := .lshl) rfl rfl
theorem s_84_4 (d L n : Nat) (scr : Nat → Int32) (call : Nat → List Value → am_H → Option am_X) (lv : am_L) (st : List Value) (h : am_H) : am_f d scr L call 84 (n + 1) 4 lv st h = (match am_ld lv 0 with
    | some (.int x) => am_f d scr L call 84 n 5 lv (.int x :: st) h
    | _ => none) := k_li (i := .iload_n 0) rfl rfl rfl rfl
theorem s_84_5 (d L n : Nat) (scr : Nat → Int32) (call : Nat → List Value → am_H → Option am_X) (lv : am_L) (st : List Value) (h : am_H) (x : Int32) : am_f d scr L call 84 (n + 1) 5 lv (.int x :: st) h = am_f d scr L call 84 n 6 lv (.long x.toInt64 :: st) h := k_nx (i := .i2l) rfl rfl
theorem s_84_6 (d L n : Nat) (scr : Nat → Int32) (call : Nat → List Value → am_H → Option am_X) (lv : am_L) (st : List Value) (h : am_H) (x y : Int64) : am_f d scr L call 84 (n + 1) 6 lv (.long y :: .long x :: st) h = am_f d scr L call 84 n 7 lv (.long (x ||| y) :: st) h := k_nx (i := .lor) rfl rfl
theorem s_84_7 (d L n : Nat) (scr : Nat → Int32) (call : Nat → List Value → am_H → Option am_X) (lv : am_L) (h : am_H) (x : Int64) : am_f d scr L call 84 (n + 1) 7 lv [.long x] h = some (some (.long x), h, 0, 0) := k_jr rfl rfl
-- 85: BlameDesk$Value.ofCast(II)J
theorem s_85_0 (d L n : Nat) (scr : Nat → Int32) (call : Nat → List Value → am_H → Option am_X) (lv : am_L) (st : List Value) (h : am_H) : am_f d scr L call 85 (n + 1) 0 lv st h = (match am_ld lv 1 with
    | some (.int x) => am_f d scr L call 85 n 1 lv (.int x :: st) h
    | _ => none) := k_li (i := .iload_n 1) rfl rfl rfl rfl
theorem s_85_1 (d L n : Nat) (scr : Nat → Int32) (call : Nat → List Value → am_H → Option am_X) (lv : am_L) (st : List Value) (h : am_H) (x : Int32) : am_f d scr L call 85 (n + 1) 1 lv (.int x :: st) h = am_f d scr L call 85 n 2 lv (.long x.toInt64 :: st) h := k_nx (i := .i2l) rfl rfl
theorem s_85_2 (d L n : Nat) (scr : Nat → Int32) (call : Nat → List Value → am_H → Option am_X) (lv : am_L) (st : List Value) (h : am_H) : am_f d scr L call 85 (n + 1) 2 lv st h = am_f d scr L call 85 n 3 lv (.int 4 :: st) h := k_nx (i := .iconst 4) rfl rfl
theorem s_85_3 (d L n : Nat) (scr : Nat → Int32) (call : Nat → List Value → am_H → Option am_X) (lv : am_L) (st : List Value) (h : am_H) (x : Int64) (y : Int32) : am_f d scr L call 85 (n + 1) 3 lv (.int y :: .long x :: st) h = am_f d scr L call 85 n 4 lv (.long (x <<< (y.toInt64 &&& 63)) :: st) h := k_nx (i := .lshl) rfl rfl
theorem s_85_4 (d L n : Nat) (scr : Nat → Int32) (call : Nat → List Value → am_H → Option am_X) (lv : am_L) (st : List Value) (h : am_H) : am_f d scr L call 85 (n + 1) 4 lv st h = am_f d scr L call 85 n 7 lv (.long 4 :: st) h := k_nx (i := .ldc2_w 9) rfl rfl
theorem s_85_7 (d L n : Nat) (scr : Nat → Int32) (call : Nat → List Value → am_H → Option am_X) (lv : am_L) (st : List Value) (h : am_H) (x y : Int64) : am_f d scr L call 85 (n + 1) 7 lv (.long y :: .long x :: st) h = am_f d scr L call 85 n 8 lv (.long (x ||| y) :: st) h := k_nx (i := .lor) rfl rfl
theorem s_85_8 (d L n : Nat) (scr : Nat → Int32) (call : Nat → List Value → am_H → Option am_X) (lv : am_L) (st : List Value) (h : am_H) : am_f d scr L call 85 (n + 1) 8 lv st h = (match am_ld lv 0 with
    | some (.int x) => am_f d scr L call 85 n 9 lv (.int x :: st) h
    | _ => none) := k_li (i := .iload_n 0) rfl rfl rfl rfl
theorem s_85_9 (d L n : Nat) (scr : Nat → Int32) (call : Nat → List Value → am_H → Option am_X) (lv : am_L) (st : List Value) (h : am_H) (x : Int32) : am_f d scr L call 85 (n + 1) 9 lv (.int x :: st) h = am_f d scr L call 85 n 10 lv (.long x.toInt64 :: st) h := k_nx (i := .i2l) rfl rfl
theorem s_85_10 (d L n : Nat) (scr : Nat → Int32) (call : Nat → List Value → am_H → Option am_X) (lv : am_L) (st : List Value) (h : am_H) (x y : Int64) : am_f d scr L call 85 (n + 1) 10 lv (.long y :: .long x :: st) h = am_f d scr L call 85 n 11 lv (.long (x ||| y) :: st) h := k_nx (i := .lor) rfl rfl
theorem s_85_11 (d L n : Nat) (scr : Nat → Int32) (call : Nat → List Value → am_H → Option am_X) (lv : am_L) (h : am_H) (x : Int64) : am_f d scr L call 85 (n + 1) 11 lv [.long x] h = some (some (.long x), h, 0, 0) := k_jr rfl rfl
-- 86: BlameDesk$Value.kind(J)I
theorem s_86_0 (d L n : Nat) (scr : Nat → Int32) (call : Nat → List Value → am_H → Option am_X) (lv : am_L) (st : List Value) (h : am_H) : am_f d scr L call 86 (n + 1) 0 lv st h = (match am_ld lv 0 with
    | some (.long x) => am_f d scr L call 86 n 1 lv (.long x :: st) h
    | _ => none) := k_ll (i := .lload_n 0) rfl rfl rfl rfl
theorem s_86_1 (d L n : Nat) (scr : Nat → Int32) (call : Nat → List Value → am_H → Option am_X) (lv : am_L) (st : List Value) (h : am_H) : am_f d scr L call 86 (n + 1) 1 lv st h = am_f d scr L call 86 n 4 lv (.long 3 :: st) h := k_nx (i := .ldc2_w 11) rfl rfl
theorem s_86_4 (d L n : Nat) (scr : Nat → Int32) (call : Nat → List Value → am_H → Option am_X) (lv : am_L) (st : List Value) (h : am_H) (x y : Int64) : am_f d scr L call 86 (n + 1) 4 lv (.long y :: .long x :: st) h = am_f d scr L call 86 n 5 lv (.long (x &&& y) :: st) h := k_nx (i := .land) rfl rfl
theorem s_86_5 (d L n : Nat) (scr : Nat → Int32) (call : Nat → List Value → am_H → Option am_X) (lv : am_L) (st : List Value) (h : am_H) (x : Int64) : am_f d scr L call 86 (n + 1) 5 lv (.long x :: st) h = am_f d scr L call 86 n 6 lv (.int x.toInt32 :: st) h := k_nx (i := .l2i) rfl rfl
theorem s_86_6 (d L n : Nat) (scr : Nat → Int32) (call : Nat → List Value → am_H → Option am_X) (lv : am_L) (h : am_H) (x : Int32) : am_f d scr L call 86 (n + 1) 6 lv [.int x] h = some (some (.int x), h, 0, 0) := k_ir rfl rfl
-- 87: BlameDesk$Value.carried(J)I
theorem s_87_0 (d L n : Nat) (scr : Nat → Int32) (call : Nat → List Value → am_H → Option am_X) (lv : am_L) (st : List Value) (h : am_H) : am_f d scr L call 87 (n + 1) 0 lv st h = (match am_ld lv 0 with
    | some (.long x) => am_f d scr L call 87 n 1 lv (.long x :: st) h
    | _ => none) := k_ll (i := .lload_n 0) rfl rfl rfl rfl
theorem s_87_1 (d L n : Nat) (scr : Nat → Int32) (call : Nat → List Value → am_H → Option am_X) (lv : am_L) (st : List Value) (h : am_H) : am_f d scr L call 87 (n + 1) 1 lv st h = am_f d scr L call 87 n 2 lv (.int 4 :: st) h := k_nx (i := .iconst 4) rfl rfl
theorem s_87_2 (d L n : Nat) (scr : Nat → Int32) (call : Nat → List Value → am_H → Option am_X) (lv : am_L) (st : List Value) (h : am_H) (x : Int64) (y : Int32) : am_f d scr L call 87 (n + 1) 2 lv (.int y :: .long x :: st) h = am_f d scr L call 87 n 3 lv (.long (x >>> (y.toInt64 &&& 63)) :: st) h := k_nx (i := .lshr) rfl rfl
theorem s_87_3 (d L n : Nat) (scr : Nat → Int32) (call : Nat → List Value → am_H → Option am_X) (lv : am_L) (st : List Value) (h : am_H) (x : Int64) : am_f d scr L call 87 (n + 1) 3 lv (.long x :: st) h = am_f d scr L call 87 n 4 lv (.int x.toInt32 :: st) h := k_nx (i := .l2i) rfl rfl
theorem s_87_4 (d L n : Nat) (scr : Nat → Int32) (call : Nat → List Value → am_H → Option am_X) (lv : am_L) (h : am_H) (x : Int32) : am_f d scr L call 87 (n + 1) 4 lv [.int x] h = some (some (.int x), h, 0, 0) := k_ir rfl rfl
-- 88: BlameDesk$Value.isOfCast(J)Z
theorem s_88_0 (d L n : Nat) (scr : Nat → Int32) (call : Nat → List Value → am_H → Option am_X) (lv : am_L) (st : List Value) (h : am_H) : am_f d scr L call 88 (n + 1) 0 lv st h = (match am_ld lv 0 with
    | some (.long x) => am_f d scr L call 88 n 1 lv (.long x :: st) h
    | _ => none) := k_ll (i := .lload_n 0) rfl rfl rfl rfl
theorem s_88_1 (d L n : Nat) (scr : Nat → Int32) (call : Nat → List Value → am_H → Option am_X) (lv : am_L) (st : List Value) (h : am_H) : am_f d scr L call 88 (n + 1) 1 lv st h = am_f d scr L call 88 n 4 lv (.long 4 :: st) h := k_nx (i := .ldc2_w 9) rfl rfl
theorem s_88_4 (d L n : Nat) (scr : Nat → Int32) (call : Nat → List Value → am_H → Option am_X) (lv : am_L) (st : List Value) (h : am_H) (x y : Int64) : am_f d scr L call 88 (n + 1) 4 lv (.long y :: .long x :: st) h = am_f d scr L call 88 n 5 lv (.long (x &&& y) :: st) h := k_nx (i := .land) rfl rfl
theorem s_88_5 (d L n : Nat) (scr : Nat → Int32) (call : Nat → List Value → am_H → Option am_X) (lv : am_L) (st : List Value) (h : am_H) : am_f d scr L call 88 (n + 1) 5 lv st h = am_f d scr L call 88 n 6 lv (.long 0 :: st) h := k_nx (i := .lconst 0) rfl rfl
theorem s_88_6 (d L n : Nat) (scr : Nat → Int32) (call : Nat → List Value → am_H → Option am_X) (lv : am_L) (st : List Value) (h : am_H) (x y : Int64) : am_f d scr L call 88 (n + 1) 6 lv (.long y :: .long x :: st) h = am_f d scr L call 88 n 7 lv (.int (lg_cmp x y) :: st) h := k_nx (i := .lcmp) rfl rfl
theorem s_88_7 (d L n : Nat) (scr : Nat → Int32) (call : Nat → List Value → am_H → Option am_X) (lv : am_L) (st : List Value) (h : am_H) (x : Int32) : am_f d scr L call 88 (n + 1) 7 lv (.int x :: st) h = if x = 0 then am_f d scr L call 88 n 14 lv st h else am_f d scr L call 88 n 10 lv st h := k_if_eq (o := 7) rfl ⟨by decide, rfl⟩
theorem s_88_10 (d L n : Nat) (scr : Nat → Int32) (call : Nat → List Value → am_H → Option am_X) (lv : am_L) (st : List Value) (h : am_H) : am_f d scr L call 88 (n + 1) 10 lv st h = am_f d scr L call 88 n 11 lv (.int 1 :: st) h := k_nx (i := .iconst 1) rfl rfl
theorem s_88_11 (d L n : Nat) (scr : Nat → Int32) (call : Nat → List Value → am_H → Option am_X) (lv : am_L) (st : List Value) (h : am_H) : am_f d scr L call 88 (n + 1) 11 lv st h = am_f d scr L call 88 n 15 lv st h := k_nx (i := .goto 4) rfl rfl
theorem s_88_14 (d L n : Nat) (scr : Nat → Int32) (call : Nat → List Value → am_H → Option am_X) (lv : am_L) (st : List Value) (h : am_H) : am_f d scr L call 88 (n + 1) 14 lv st h = am_f d scr L call 88 n 15 lv (.int 0 :: st) h := k_nx (i := .iconst 0) rfl rfl
theorem s_88_15 (d L n : Nat) (scr : Nat → Int32) (call : Nat → List Value → am_H → Option am_X) (lv : am_L) (h : am_H) (x : Int32) : am_f d scr L call 88 (n + 1) 15 lv [.int x] h = if x = 0 ∨ x = 1 then some (some (.int x), h, 0, 0) else none := k_zr rfl rfl
-- 89: BlameDesk$Value.isTagged(J)Z
theorem s_89_0 (d L n : Nat) (scr : Nat → Int32) (call : Nat → List Value → am_H → Option am_X) (lv : am_L) (st : List Value) (h : am_H) : am_f d scr L call 89 (n + 1) 0 lv st h = (match am_ld lv 0 with
    | some (.long x) => am_f d scr L call 89 n 1 lv (.long x :: st) h
    | _ => none) := k_ll (i := .lload_n 0) rfl rfl rfl rfl
theorem s_89_1 (d L n : Nat) (scr : Nat → Int32) (call : Nat → List Value → am_H → Option am_X) (lv : am_L) (st : List Value) (h : am_H) : am_f d scr L call 89 (n + 1) 1 lv st h = am_f d scr L call 89 n 4 lv (.long 8 :: st) h := k_nx (i := .ldc2_w 13) rfl rfl
theorem s_89_4 (d L n : Nat) (scr : Nat → Int32) (call : Nat → List Value → am_H → Option am_X) (lv : am_L) (st : List Value) (h : am_H) (x y : Int64) : am_f d scr L call 89 (n + 1) 4 lv (.long y :: .long x :: st) h = am_f d scr L call 89 n 5 lv (.long (x &&& y) :: st) h := k_nx (i := .land) rfl rfl
theorem s_89_5 (d L n : Nat) (scr : Nat → Int32) (call : Nat → List Value → am_H → Option am_X) (lv : am_L) (st : List Value) (h : am_H) : am_f d scr L call 89 (n + 1) 5 lv st h = am_f d scr L call 89 n 6 lv (.long 0 :: st) h := k_nx (i := .lconst 0) rfl rfl
theorem s_89_6 (d L n : Nat) (scr : Nat → Int32) (call : Nat → List Value → am_H → Option am_X) (lv : am_L) (st : List Value) (h : am_H) (x y : Int64) : am_f d scr L call 89 (n + 1) 6 lv (.long y :: .long x :: st) h = am_f d scr L call 89 n 7 lv (.int (lg_cmp x y) :: st) h := k_nx (i := .lcmp) rfl rfl
theorem s_89_7 (d L n : Nat) (scr : Nat → Int32) (call : Nat → List Value → am_H → Option am_X) (lv : am_L) (st : List Value) (h : am_H) (x : Int32) : am_f d scr L call 89 (n + 1) 7 lv (.int x :: st) h = if x = 0 then am_f d scr L call 89 n 14 lv st h else am_f d scr L call 89 n 10 lv st h := k_if_eq (o := 7) rfl ⟨by decide, rfl⟩
theorem s_89_10 (d L n : Nat) (scr : Nat → Int32) (call : Nat → List Value → am_H → Option am_X) (lv : am_L) (st : List Value) (h : am_H) : am_f d scr L call 89 (n + 1) 10 lv st h = am_f d scr L call 89 n 11 lv (.int 1 :: st) h := k_nx (i := .iconst 1) rfl rfl
theorem s_89_11 (d L n : Nat) (scr : Nat → Int32) (call : Nat → List Value → am_H → Option am_X) (lv : am_L) (st : List Value) (h : am_H) : am_f d scr L call 89 (n + 1) 11 lv st h = am_f d scr L call 89 n 15 lv st h := k_nx (i := .goto 4) rfl rfl
theorem s_89_14 (d L n : Nat) (scr : Nat → Int32) (call : Nat → List Value → am_H → Option am_X) (lv : am_L) (st : List Value) (h : am_H) : am_f d scr L call 89 (n + 1) 14 lv st h = am_f d scr L call 89 n 15 lv (.int 0 :: st) h := k_nx (i := .iconst 0) rfl rfl
theorem s_89_15 (d L n : Nat) (scr : Nat → Int32) (call : Nat → List Value → am_H → Option am_X) (lv : am_L) (h : am_H) (x : Int32) : am_f d scr L call 89 (n + 1) 15 lv [.int x] h = if x = 0 ∨ x = 1 then some (some (.int x), h, 0, 0) else none := k_zr rfl rfl
-- 90: BlameDesk$Value.tagged(J)J
theorem s_90_0 (d L n : Nat) (scr : Nat → Int32) (call : Nat → List Value → am_H → Option am_X) (lv : am_L) (st : List Value) (h : am_H) : am_f d scr L call 90 (n + 1) 0 lv st h = (match am_ld lv 0 with
    | some (.long x) => am_f d scr L call 90 n 1 lv (.long x :: st) h
    | _ => none) := k_ll (i := .lload_n 0) rfl rfl rfl rfl
theorem s_90_1 (d L n : Nat) (scr : Nat → Int32) (call : Nat → List Value → am_H → Option am_X) (lv : am_L) (st : List Value) (h : am_H) : am_f d scr L call 90 (n + 1) 1 lv st h = am_f d scr L call 90 n 4 lv (.long 8 :: st) h := k_nx (i := .ldc2_w 13) rfl rfl
theorem s_90_4 (d L n : Nat) (scr : Nat → Int32) (call : Nat → List Value → am_H → Option am_X) (lv : am_L) (st : List Value) (h : am_H) (x y : Int64) : am_f d scr L call 90 (n + 1) 4 lv (.long y :: .long x :: st) h = am_f d scr L call 90 n 5 lv (.long (x ||| y) :: st) h := k_nx (i := .lor) rfl rfl
theorem s_90_5 (d L n : Nat) (scr : Nat → Int32) (call : Nat → List Value → am_H → Option am_X) (lv : am_L) (h : am_H) (x : Int64) : am_f d scr L call 90 (n + 1) 5 lv [.long x] h = some (some (.long x), h, 0, 0) := k_jr rfl rfl
-- 91: BlameDesk$Value.untagged(J)J
theorem s_91_0 (d L n : Nat) (scr : Nat → Int32) (call : Nat → List Value → am_H → Option am_X) (lv : am_L) (st : List Value) (h : am_H) : am_f d scr L call 91 (n + 1) 0 lv st h = (match am_ld lv 0 with
    | some (.long x) => am_f d scr L call 91 n 1 lv (.long x :: st) h
    | _ => none) := k_ll (i := .lload_n 0) rfl rfl rfl rfl
theorem s_91_1 (d L n : Nat) (scr : Nat → Int32) (call : Nat → List Value → am_H → Option am_X) (lv : am_L) (st : List Value) (h : am_H) : am_f d scr L call 91 (n + 1) 1 lv st h = am_f d scr L call 91 n 4 lv (.long (-9) :: st) h := k_nx (i := .ldc2_w 15) rfl rfl
theorem s_91_4 (d L n : Nat) (scr : Nat → Int32) (call : Nat → List Value → am_H → Option am_X) (lv : am_L) (st : List Value) (h : am_H) (x y : Int64) : am_f d scr L call 91 (n + 1) 4 lv (.long y :: .long x :: st) h = am_f d scr L call 91 n 5 lv (.long (x &&& y) :: st) h := k_nx (i := .land) rfl rfl
theorem s_91_5 (d L n : Nat) (scr : Nat → Int32) (call : Nat → List Value → am_H → Option am_X) (lv : am_L) (h : am_H) (x : Int64) : am_f d scr L call 91 (n + 1) 5 lv [.long x] h = some (some (.long x), h, 0, 0) := k_jr rfl rfl
-- 92: BlameDesk$Value.ground(J)I
theorem s_92_0 (d L n : Nat) (scr : Nat → Int32) (call : Nat → List Value → am_H → Option am_X) (lv : am_L) (st : List Value) (h : am_H) : am_f d scr L call 92 (n + 1) 0 lv st h = (match am_ld lv 0 with
    | some (.long x) => am_f d scr L call 92 n 1 lv (.long x :: st) h
    | _ => none) := k_ll (i := .lload_n 0) rfl rfl rfl rfl
theorem s_92_1 (d L n : Nat) (scr : Nat → Int32) (call : Nat → List Value → am_H → Option am_X) (lv : am_L) (h : am_H) (a0 : Int64)  : am_f d scr L call 92 (n + 1) 1 lv (.long a0 :: []) h = (match call 86 [.long a0] h with
    | some (v, h', dk, dn) => am_add dk dn (am_f d scr L call 92 n 4 lv (v.toList ++ []) h')
    | none => none) := k_iv1 (k := 17) (as := [.long a0]) (r := []) rfl rfl rfl rfl (Nat.le_of_ble_eq_true rfl)
theorem s_92_4 (d L n : Nat) (scr : Nat → Int32) (call : Nat → List Value → am_H → Option am_X) (lv : am_L) (st : List Value) (h : am_H) : am_f d scr L call 92 (n + 1) 4 lv st h = am_f d scr L call 92 n 5 lv (.int 1 :: st) h := k_nx (i := .iconst 1) rfl rfl
theorem s_92_5 (d L n : Nat) (scr : Nat → Int32) (call : Nat → List Value → am_H → Option am_X) (lv : am_L) (st : List Value) (h : am_H) (x y : Int32) : am_f d scr L call 92 (n + 1) 5 lv (.int y :: .int x :: st) h = am_f d scr L call 92 n 6 lv (.int (x + y) :: st) h := k_nx (i := .iadd) rfl rfl
theorem s_92_6 (d L n : Nat) (scr : Nat → Int32) (call : Nat → List Value → am_H → Option am_X) (lv : am_L) (h : am_H) (x : Int32) : am_f d scr L call 92 (n + 1) 6 lv [.int x] h = some (some (.int x), h, 0, 0) := k_ir rfl rfl
