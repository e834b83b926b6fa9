/-! Steps of BlameDesk$Machine: a row an instruction, by program. -/
-- 29: BlameDesk$Machine.<init>(LBlameDesk$Program;)V
theorem s_29_0 (d L n : Nat) (scr : Nat → Int32) (call : Nat → List Value → am_H → Option am_X) (lv : am_L) (st : List Value) (h : am_H) : am_f d scr L call 29 (n + 1) 0 lv st h = (match am_ld lv 0 with
    | some (.ref x) => am_f d scr L call 29 n 1 lv (.ref x :: st) h
    | _ => none) := k_la (i := .aload_n 0) rfl rfl rfl rfl
theorem s_29_1 (d L n a : Nat) (scr : Nat → Int32) (call : Nat → List Value → am_H → Option am_X) (lv : am_L) (h : am_H)  : am_f (d + 1) scr L call 29 (n + 1) 1 lv (.ref a :: []) h = am_f (d + 1) scr L call 29 n 4 lv [] h := k_ob (k := 7) rfl rfl (Nat.le_of_ble_eq_true rfl)
theorem s_29_4 (d L n : Nat) (scr : Nat → Int32) (call : Nat → List Value → am_H → Option am_X) (lv : am_L) (st : List Value) (h : am_H) : am_f d scr L call 29 (n + 1) 4 lv st h = (match am_ld lv 0 with
    | some (.ref x) => am_f d scr L call 29 n 5 lv (.ref x :: st) h
    | _ => none) := k_la (i := .aload_n 0) rfl rfl rfl rfl
theorem s_29_5 (d L n : Nat) (scr : Nat → Int32) (call : Nat → List Value → am_H → Option am_X) (lv : am_L) (st : List Value) (h : am_H) : am_f d scr L call 29 (n + 1) 5 lv st h = (match am_ld lv 1 with
    | some (.ref x) => am_f d scr L call 29 n 6 lv (.ref x :: st) h
    | _ => none) := k_la (i := .aload_n 1) rfl rfl rfl rfl
theorem s_29_6 (d L n : Nat) (scr : Nat → Int32) (call : Nat → List Value → am_H → Option am_X) (lv : am_L) (st : List Value) (h : am_H) (x : Nat) (a : Nat) : am_f d scr L call 29 (n + 1) 6 lv (.ref x :: .ref a :: st) h = (match am_put h a 3 0 (.ref x) with
    | some h' => am_f d scr L call 29 n 9 lv st h'
    | none => none) := k_pf (k := 13) rfl rfl rfl
theorem s_29_9 (d L n : Nat) (scr : Nat → Int32) (call : Nat → List Value → am_H → Option am_X) (lv : am_L) (st : List Value) (h : am_H) : am_f d scr L call 29 (n + 1) 9 lv st h = (match am_ld lv 0 with
    | some (.ref x) => am_f d scr L call 29 n 10 lv (.ref x :: st) h
    | _ => none) := k_la (i := .aload_n 0) rfl rfl rfl rfl
theorem s_29_10 (d L n : Nat) (scr : Nat → Int32) (call : Nat → List Value → am_H → Option am_X) (lv : am_L) (st : List Value) (h : am_H) : am_f d scr L call 29 (n + 1) 10 lv st h = am_add 1 9 (am_f d scr L call 29 n 13 lv (.ref (h.length + 1) :: st) (h ++ [.inr (1, pm_d1)])) := k_new (k := 17) (ci := 1) rfl rfl rfl rfl
theorem s_29_13 (d L n : Nat) (scr : Nat → Int32) (call : Nat → List Value → am_H → Option am_X) (lv : am_L) (st : List Value) (h : am_H) (x : Nat) : am_f d scr L call 29 (n + 1) 13 lv (.ref x :: st) h = am_f d scr L call 29 n 14 lv (.ref x :: .ref x :: st) h := k_nx (i := .dup) rfl rfl
theorem s_29_14 (d L n : Nat) (scr : Nat → Int32) (call : Nat → List Value → am_H → Option am_X) (lv : am_L) (st : List Value) (h : am_H) : am_f d scr L call 29 (n + 1) 14 lv st h = (match am_ld lv 1 with
    | some (.ref x) => am_f d scr L call 29 n 15 lv (.ref x :: st) h
    | _ => none) := k_la (i := .aload_n 1) rfl rfl rfl rfl
theorem s_29_15 (d L n : Nat) (scr : Nat → Int32) (call : Nat → List Value → am_H → Option am_X) (lv : am_L) (st : List Value) (h : am_H) (a : Nat) : am_f d scr L call 29 (n + 1) 15 lv (.ref a :: st) h = (match am_get h a 5 0 with
    | some v => am_f d scr L call 29 n 18 lv (v :: st) h
    | none => none) := k_gf (k := 19) rfl rfl
theorem s_29_18 (d L n : Nat) (scr : Nat → Int32) (call : Nat → List Value → am_H → Option am_X) (lv : am_L) (h : am_H) (o : Nat) (a0 : Nat) (r0 : Nat) (r1 : Nat) : am_f d scr L call 29 (n + 1) 18 lv (.ref a0 :: .ref o :: .ref r0 :: .ref r1 :: []) h = (match call 12 [.ref o, .ref a0] h with
    | some (v, h', dk, dn) => am_add dk dn (am_f d scr L call 29 n 21 lv (v.toList ++ [.ref r0, .ref r1]) h')
    | none => none) := k_iv2 (k := 25) (as := [.ref a0]) (r := [.ref r0, .ref r1]) rfl rfl rfl rfl rfl (Nat.le_of_ble_eq_true rfl)
theorem s_29_21 (d L n : Nat) (scr : Nat → Int32) (call : Nat → List Value → am_H → Option am_X) (lv : am_L) (st : List Value) (h : am_H) (x : Nat) (a : Nat) : am_f d scr L call 29 (n + 1) 21 lv (.ref x :: .ref a :: st) h = (match am_put h a 3 1 (.ref x) with
    | some h' => am_f d scr L call 29 n 24 lv st h'
    | none => none) := k_pf (k := 28) rfl rfl rfl
theorem s_29_24 (d L n : Nat) (scr : Nat → Int32) (call : Nat → List Value → am_H → Option am_X) (lv : am_L) (st : List Value) (h : am_H) : am_f d scr L call 29 (n + 1) 24 lv st h = (match am_ld lv 0 with
    | some (.ref x) => am_f d scr L call 29 n 25 lv (.ref x :: st) h
    | _ => none) := k_la (i := .aload_n 0) rfl rfl rfl rfl
theorem s_29_25 (d L n : Nat) (scr : Nat → Int32) (call : Nat → List Value → am_H → Option am_X) (lv : am_L) (st : List Value) (h : am_H) : am_f d scr L call 29 (n + 1) 25 lv st h = am_add 1 2 (am_f d scr L call 29 n 28 lv (.ref (h.length + 1) :: st) (h ++ [.inr (4, pm_d4)])) := k_new (k := 32) (ci := 4) rfl rfl rfl rfl
theorem s_29_28 (d L n : Nat) (scr : Nat → Int32) (call : Nat → List Value → am_H → Option am_X) (lv : am_L) (st : List Value) (h : am_H) (x : Nat) : am_f d scr L call 29 (n + 1) 28 lv (.ref x :: st) h = am_f d scr L call 29 n 29 lv (.ref x :: .ref x :: st) h := k_nx (i := .dup) rfl rfl
theorem s_29_29 (d L n : Nat) (scr : Nat → Int32) (call : Nat → List Value → am_H → Option am_X) (lv : am_L) (h : am_H) (o : Nat)  (r0 : Nat) (r1 : Nat) : am_f d scr L call 29 (n + 1) 29 lv (.ref o :: .ref r0 :: .ref r1 :: []) h = (match call 47 [.ref o] h with
    | some (v, h', dk, dn) => am_add dk dn (am_f d scr L call 29 n 32 lv (v.toList ++ [.ref r0, .ref r1]) h')
    | none => none) := k_iv2 (k := 34) (as := []) (r := [.ref r0, .ref r1]) rfl rfl rfl rfl rfl (Nat.le_of_ble_eq_true rfl)
theorem s_29_32 (d L n : Nat) (scr : Nat → Int32) (call : Nat → List Value → am_H → Option am_X) (lv : am_L) (st : List Value) (h : am_H) (x : Nat) (a : Nat) : am_f d scr L call 29 (n + 1) 32 lv (.ref x :: .ref a :: st) h = (match am_put h a 3 2 (.ref x) with
    | some h' => am_f d scr L call 29 n 35 lv st h'
    | none => none) := k_pf (k := 35) rfl rfl rfl
theorem s_29_35 (d L n : Nat) (scr : Nat → Int32) (call : Nat → List Value → am_H → Option am_X) (lv : am_L) (st : List Value) (h : am_H) : am_f d scr L call 29 (n + 1) 35 lv st h = (match am_ld lv 0 with
    | some (.ref x) => am_f d scr L call 29 n 36 lv (.ref x :: st) h
    | _ => none) := k_la (i := .aload_n 0) rfl rfl rfl rfl
theorem s_29_36 (d L n : Nat) (scr : Nat → Int32) (call : Nat → List Value → am_H → Option am_X) (lv : am_L) (st : List Value) (h : am_H) : am_f d scr L call 29 (n + 1) 36 lv st h = am_f d scr L call 29 n 39 lv (.int 820 :: st) h := k_nx (i := .sipush 820) rfl rfl
theorem s_29_41 (d L n : Nat) (scr : Nat → Int32) (call : Nat → List Value → am_H → Option am_X) (lv : am_L) (st : List Value) (h : am_H) (x : Nat) (a : Nat) : am_f d scr L call 29 (n + 1) 41 lv (.ref x :: .ref a :: st) h = (match am_put h a 3 3 (.ref x) with
    | some h' => am_f d scr L call 29 n 44 lv st h'
    | none => none) := k_pf (k := 39) rfl rfl rfl
theorem s_29_44 (d L n : Nat) (scr : Nat → Int32) (call : Nat → List Value → am_H → Option am_X) (lv : am_L) (st : List Value) (h : am_H) : am_f d scr L call 29 (n + 1) 44 lv st h = (match am_ld lv 0 with
    | some (.ref x) => am_f d scr L call 29 n 45 lv (.ref x :: st) h
    | _ => none) := k_la (i := .aload_n 0) rfl rfl rfl rfl
theorem s_29_45 (d L n : Nat) (scr : Nat → Int32) (call : Nat → List Value → am_H → Option am_X) (lv : am_L) (st : List Value) (h : am_H) : am_f d scr L call 29 (n + 1) 45 lv st h = am_f d scr L call 29 n 48 lv (.int 820 :: st) h := k_nx (i := .sipush 820) rfl rfl
theorem s_29_50 (d L n : Nat) (scr : Nat → Int32) (call : Nat → List Value → am_H → Option am_X) (lv : am_L) (st : List Value) (h : am_H) (x : Nat) (a : Nat) : am_f d scr L call 29 (n + 1) 50 lv (.ref x :: .ref a :: st) h = (match am_put h a 3 4 (.ref x) with
    | some h' => am_f d scr L call 29 n 53 lv st h'
    | none => none) := k_pf (k := 43) rfl rfl rfl
theorem s_29_53 (d L n : Nat) (scr : Nat → Int32) (call : Nat → List Value → am_H → Option am_X) (lv : am_L) (st : List Value) (h : am_H) : am_f d scr L call 29 (n + 1) 53 lv st h = (match am_ld lv 0 with
    | some (.ref x) => am_f d scr L call 29 n 54 lv (.ref x :: st) h
    | _ => none) := k_la (i := .aload_n 0) rfl rfl rfl rfl
theorem s_29_54 (d L n : Nat) (scr : Nat → Int32) (call : Nat → List Value → am_H → Option am_X) (lv : am_L) (st : List Value) (h : am_H) : am_f d scr L call 29 (n + 1) 54 lv st h = am_f d scr L call 29 n 57 lv (.int 820 :: st) h := k_nx (i := .sipush 820) rfl rfl
theorem s_29_59 (d L n : Nat) (scr : Nat → Int32) (call : Nat → List Value → am_H → Option am_X) (lv : am_L) (st : List Value) (h : am_H) (x : Nat) (a : Nat) : am_f d scr L call 29 (n + 1) 59 lv (.ref x :: .ref a :: st) h = (match am_put h a 3 5 (.ref x) with
    | some h' => am_f d scr L call 29 n 62 lv st h'
    | none => none) := k_pf (k := 46) rfl rfl rfl
theorem s_29_62 (d L n : Nat) (scr : Nat → Int32) (call : Nat → List Value → am_H → Option am_X) (lv : am_L) (st : List Value) (h : am_H) : am_f d scr L call 29 (n + 1) 62 lv st h = (match am_ld lv 0 with
    | some (.ref x) => am_f d scr L call 29 n 63 lv (.ref x :: st) h
    | _ => none) := k_la (i := .aload_n 0) rfl rfl rfl rfl
theorem s_29_63 (d L n : Nat) (scr : Nat → Int32) (call : Nat → List Value → am_H → Option am_X) (lv : am_L) (st : List Value) (h : am_H) : am_f d scr L call 29 (n + 1) 63 lv st h = am_f d scr L call 29 n 65 lv (.int 41 :: st) h := k_nx (i := .bipush 41) rfl rfl
theorem s_29_67 (d L n : Nat) (scr : Nat → Int32) (call : Nat → List Value → am_H → Option am_X) (lv : am_L) (st : List Value) (h : am_H) (x : Nat) (a : Nat) : am_f d scr L call 29 (n + 1) 67 lv (.ref x :: .ref a :: st) h = (match am_put h a 3 7 (.ref x) with
    | some h' => am_f d scr L call 29 n 70 lv st h'
    | none => none) := k_pf (k := 50) rfl rfl rfl
theorem s_29_70 (d L n : Nat) (scr : Nat → Int32) (call : Nat → List Value → am_H → Option am_X) (lv : am_L) (st : List Value) (h : am_H) : am_f d scr L call 29 (n + 1) 70 lv st h = (match am_ld lv 0 with
    | some (.ref x) => am_f d scr L call 29 n 71 lv (.ref x :: st) h
    | _ => none) := k_la (i := .aload_n 0) rfl rfl rfl rfl
theorem s_29_71 (d L n : Nat) (scr : Nat → Int32) (call : Nat → List Value → am_H → Option am_X) (lv : am_L) (st : List Value) (h : am_H) : am_f d scr L call 29 (n + 1) 71 lv st h = am_f d scr L call 29 n 73 lv (.int 41 :: st) h := k_nx (i := .bipush 41) rfl rfl
theorem s_29_75 (d L n : Nat) (scr : Nat → Int32) (call : Nat → List Value → am_H → Option am_X) (lv : am_L) (st : List Value) (h : am_H) (x : Nat) (a : Nat) : am_f d scr L call 29 (n + 1) 75 lv (.ref x :: .ref a :: st) h = (match am_put h a 3 8 (.ref x) with
    | some h' => am_f d scr L call 29 n 78 lv st h'
    | none => none) := k_pf (k := 53) rfl rfl rfl
theorem s_29_78 (d L n : Nat) (scr : Nat → Int32) (call : Nat → List Value → am_H → Option am_X) (lv : am_L) (st : List Value) (h : am_H) : am_f d scr L call 29 (n + 1) 78 lv st h = (match am_ld lv 0 with
    | some (.ref x) => am_f d scr L call 29 n 79 lv (.ref x :: st) h
    | _ => none) := k_la (i := .aload_n 0) rfl rfl rfl rfl
theorem s_29_79 (d L n : Nat) (scr : Nat → Int32) (call : Nat → List Value → am_H → Option am_X) (lv : am_L) (st : List Value) (h : am_H) : am_f d scr L call 29 (n + 1) 79 lv st h = am_f d scr L call 29 n 81 lv (.int 40 :: st) h := k_nx (i := .bipush 40) rfl rfl
theorem s_29_83 (d L n : Nat) (scr : Nat → Int32) (call : Nat → List Value → am_H → Option am_X) (lv : am_L) (st : List Value) (h : am_H) (x : Nat) (a : Nat) : am_f d scr L call 29 (n + 1) 83 lv (.ref x :: .ref a :: st) h = (match am_put h a 3 9 (.ref x) with
    | some h' => am_f d scr L call 29 n 86 lv st h'
    | none => none) := k_pf (k := 56) rfl rfl rfl
theorem s_29_86 (d L n : Nat) (scr : Nat → Int32) (call : Nat → List Value → am_H → Option am_X) (lv : am_L) (st : List Value) (h : am_H) : am_f d scr L call 29 (n + 1) 86 lv st h = (match am_ld lv 0 with
    | some (.ref x) => am_f d scr L call 29 n 87 lv (.ref x :: st) h
    | _ => none) := k_la (i := .aload_n 0) rfl rfl rfl rfl
theorem s_29_87 (d L n : Nat) (scr : Nat → Int32) (call : Nat → List Value → am_H → Option am_X) (lv : am_L) (st : List Value) (h : am_H) : am_f d scr L call 29 (n + 1) 87 lv st h = am_f d scr L call 29 n 88 lv (.int 5 :: st) h := k_nx (i := .iconst 5) rfl rfl
theorem s_29_88 (d L n : Nat) (scr : Nat → Int32) (call : Nat → List Value → am_H → Option am_X) (lv : am_L) (st : List Value) (h : am_H) (x : Int32) (a : Nat) : am_f d scr L call 29 (n + 1) 88 lv (.int x :: .ref a :: st) h = (match am_put h a 3 12 (.int x) with
    | some h' => am_f d scr L call 29 n 91 lv st h'
    | none => none) := k_pf (k := 59) rfl rfl rfl
theorem s_29_91 (d L n : Nat) (scr : Nat → Int32) (call : Nat → List Value → am_H → Option am_X) (lv : am_L) (h : am_H) : am_f d scr L call 29 (n + 1) 91 lv [] h = some (none, h, 0, 0) := k_vr rfl rfl
-- 30: BlameDesk$Machine.forget()V
theorem s_30_0 (d L n : Nat) (scr : Nat → Int32) (call : Nat → List Value → am_H → Option am_X) (lv : am_L) (st : List Value) (h : am_H) : am_f d scr L call 30 (n + 1) 0 lv st h = (match am_ld lv 0 with
    | some (.ref x) => am_f d scr L call 30 n 1 lv (.ref x :: st) h
    | _ => none) := k_la (i := .aload_n 0) rfl rfl rfl rfl
theorem s_30_1 (d L n : Nat) (scr : Nat → Int32) (call : Nat → List Value → am_H → Option am_X) (lv : am_L) (st : List Value) (h : am_H) (a : Nat) : am_f d scr L call 30 (n + 1) 1 lv (.ref a :: st) h = (match am_get h a 3 2 with
    | some v => am_f d scr L call 30 n 4 lv (v :: st) h
    | none => none) := k_gf (k := 35) rfl rfl
theorem s_30_4 (d L n : Nat) (scr : Nat → Int32) (call : Nat → List Value → am_H → Option am_X) (lv : am_L) (h : am_H) (o : Nat)   : am_f d scr L call 30 (n + 1) 4 lv (.ref o :: []) h = if am_at h o 4 = true then (match call 48 [.ref o] h with
    | some (v, h', dk, dn) => am_add dk dn (am_f d scr L call 30 n 7 lv (v.toList ++ []) h')
    | none => none) else none := k_iv0 (k := 63) (as := []) (r := []) rfl rfl rfl rfl (Nat.le_of_ble_eq_true rfl)
theorem s_30_7 (d L n : Nat) (scr : Nat → Int32) (call : Nat → List Value → am_H → Option am_X) (lv : am_L) (st : List Value) (h : am_H) : am_f d scr L call 30 (n + 1) 7 lv st h = (match am_ld lv 0 with
    | some (.ref x) => am_f d scr L call 30 n 8 lv (.ref x :: st) h
    | _ => none) := k_la (i := .aload_n 0) rfl rfl rfl rfl
theorem s_30_8 (d L n : Nat) (scr : Nat → Int32) (call : Nat → List Value → am_H → Option am_X) (lv : am_L) (st : List Value) (h : am_H) : am_f d scr L call 30 (n + 1) 8 lv st h = am_f d scr L call 30 n 9 lv (.int 0 :: st) h := k_nx (i := .iconst 0) rfl rfl
theorem s_30_9 (d L n : Nat) (scr : Nat → Int32) (call : Nat → List Value → am_H → Option am_X) (lv : am_L) (st : List Value) (h : am_H) (x : Int32) (a : Nat) : am_f d scr L call 30 (n + 1) 9 lv (.int x :: .ref a :: st) h = (match am_put h a 3 10 (.int x) with
    | some h' => am_f d scr L call 30 n 12 lv st h'
    | none => none) := k_pf (k := 66) rfl rfl rfl
theorem s_30_12 (d L n : Nat) (scr : Nat → Int32) (call : Nat → List Value → am_H → Option am_X) (lv : am_L) (st : List Value) (h : am_H) : am_f d scr L call 30 (n + 1) 12 lv st h = (match am_ld lv 0 with
    | some (.ref x) => am_f d scr L call 30 n 13 lv (.ref x :: st) h
    | _ => none) := k_la (i := .aload_n 0) rfl rfl rfl rfl
theorem s_30_13 (d L n : Nat) (scr : Nat → Int32) (call : Nat → List Value → am_H → Option am_X) (lv : am_L) (st : List Value) (h : am_H) : am_f d scr L call 30 (n + 1) 13 lv st h = am_f d scr L call 30 n 14 lv (.int 0 :: st) h := k_nx (i := .iconst 0) rfl rfl
theorem s_30_14 (d L n : Nat) (scr : Nat → Int32) (call : Nat → List Value → am_H → Option am_X) (lv : am_L) (st : List Value) (h : am_H) (x : Int32) (a : Nat) : am_f d scr L call 30 (n + 1) 14 lv (.int x :: .ref a :: st) h = (match am_put h a 3 11 (.int x) with
    | some h' => am_f d scr L call 30 n 17 lv st h'
    | none => none) := k_pf (k := 69) rfl rfl rfl
theorem s_30_17 (d L n : Nat) (scr : Nat → Int32) (call : Nat → List Value → am_H → Option am_X) (lv : am_L) (st : List Value) (h : am_H) : am_f d scr L call 30 (n + 1) 17 lv st h = (match am_ld lv 0 with
    | some (.ref x) => am_f d scr L call 30 n 18 lv (.ref x :: st) h
    | _ => none) := k_la (i := .aload_n 0) rfl rfl rfl rfl
theorem s_30_18 (d L n : Nat) (scr : Nat → Int32) (call : Nat → List Value → am_H → Option am_X) (lv : am_L) (st : List Value) (h : am_H) : am_f d scr L call 30 (n + 1) 18 lv st h = am_f d scr L call 30 n 19 lv (.int 5 :: st) h := k_nx (i := .iconst 5) rfl rfl
theorem s_30_19 (d L n : Nat) (scr : Nat → Int32) (call : Nat → List Value → am_H → Option am_X) (lv : am_L) (st : List Value) (h : am_H) (x : Int32) (a : Nat) : am_f d scr L call 30 (n + 1) 19 lv (.int x :: .ref a :: st) h = (match am_put h a 3 12 (.int x) with
    | some h' => am_f d scr L call 30 n 22 lv st h'
    | none => none) := k_pf (k := 59) rfl rfl rfl
theorem s_30_22 (d L n : Nat) (scr : Nat → Int32) (call : Nat → List Value → am_H → Option am_X) (lv : am_L) (h : am_H) : am_f d scr L call 30 (n + 1) 22 lv [] h = some (none, h, 0, 0) := k_vr rfl rfl
-- 31: BlameDesk$Machine.execute(I)I
theorem s_31_0 (d L n : Nat) (scr : Nat → Int32) (call : Nat → List Value → am_H → Option am_X) (lv : am_L) (st : List Value) (h : am_H) : am_f d scr L call 31 (n + 1) 0 lv st h = (match am_ld lv 0 with
    | some (.ref x) => am_f d scr L call 31 n 1 lv (.ref x :: st) h
    | _ => none) := k_la (i := .aload_n 0) rfl rfl rfl rfl
theorem s_31_1 (d L n : Nat) (scr : Nat → Int32) (call : Nat → List Value → am_H → Option am_X) (lv : am_L) (st : List Value) (h : am_H) : am_f d scr L call 31 (n + 1) 1 lv st h = (match am_ld lv 1 with
    | some (.int x) => am_f d scr L call 31 n 2 lv (.int x :: st) h
    | _ => none) := k_li (i := .iload_n 1) rfl rfl rfl rfl
theorem s_31_2 (d L n : Nat) (scr : Nat → Int32) (call : Nat → List Value → am_H → Option am_X) (lv : am_L) (h : am_H) (o : Nat) (a0 : Int32)  : am_f d scr L call 31 (n + 1) 2 lv (.int a0 :: .ref o :: []) h = if am_at h o 3 = true then (match call 32 [.ref o, .int a0] h with
    | some (v, h', dk, dn) => am_add dk dn (am_f d scr L call 31 n 5 lv (v.toList ++ []) h')
    | none => none) else none := k_iv0 (k := 72) (as := [.int a0]) (r := []) rfl rfl rfl rfl (Nat.le_of_ble_eq_true rfl)
theorem s_31_5 (d L n : Nat) (scr : Nat → Int32) (call : Nat → List Value → am_H → Option am_X) (lv : am_L) (st : List Value) (h : am_H) : am_f d scr L call 31 (n + 1) 5 lv st h = am_f d scr L call 31 n 6 lv (.int 0 :: st) h := k_nx (i := .iconst 0) rfl rfl
theorem s_31_6 (d L n : Nat) (scr : Nat → Int32) (call : Nat → List Value → am_H → Option am_X) (lv : am_L) (st : List Value) (h : am_H) (x : Int32) : am_f d scr L call 31 (n + 1) 6 lv (.int x :: st) h = am_f d scr L call 31 n 7 (am_st1 lv 2 (.int x)) st h := k_nx (i := .istore_n 2) rfl rfl
theorem s_31_7 (d L n : Nat) (scr : Nat → Int32) (call : Nat → List Value → am_H → Option am_X) (lv : am_L) (st : List Value) (h : am_H) : am_f d scr L call 31 (n + 1) 7 lv st h = (match am_ld lv 2 with
    | some (.int x) => am_f d scr L call 31 n 8 lv (.int x :: st) h
    | _ => none) := k_li (i := .iload_n 2) rfl rfl rfl rfl
theorem s_31_8 (d L n : Nat) (scr : Nat → Int32) (call : Nat → List Value → am_H → Option am_X) (lv : am_L) (st : List Value) (h : am_H) : am_f d scr L call 31 (n + 1) 8 lv st h = am_f d scr L call 31 n 10 lv (.int 1000000 :: st) h := k_nx (i := .ldc 76) rfl rfl
theorem s_31_10 (d L n : Nat) (scr : Nat → Int32) (call : Nat → List Value → am_H → Option am_X) (lv : am_L) (st : List Value) (h : am_H) (x y : Int32) : am_f d scr L call 31 (n + 1) 10 lv (.int y :: .int x :: st) h = if y ≤ x then am_f d scr L call 31 n 157 lv st h else am_f d scr L call 31 n 13 lv st h := k_ic_ge (o := 147) rfl ⟨by decide, rfl⟩
theorem s_31_13 (d L n : Nat) (scr : Nat → Int32) (call : Nat → List Value → am_H → Option am_X) (lv : am_L) (st : List Value) (h : am_H) : am_f d scr L call 31 (n + 1) 13 lv st h = (match am_ld lv 0 with
    | some (.ref x) => am_f d scr L call 31 n 14 lv (.ref x :: st) h
    | _ => none) := k_la (i := .aload_n 0) rfl rfl rfl rfl
theorem s_31_14 (d L n : Nat) (scr : Nat → Int32) (call : Nat → List Value → am_H → Option am_X) (lv : am_L) (st : List Value) (h : am_H) (a : Nat) : am_f d scr L call 31 (n + 1) 14 lv (.ref a :: st) h = (match am_get h a 3 12 with
    | some v => am_f d scr L call 31 n 17 lv (v :: st) h
    | none => none) := k_gf (k := 59) rfl rfl
theorem s_31_17 (d L n : Nat) (scr : Nat → Int32) (call : Nat → List Value → am_H → Option am_X) (lv : am_L) (st : List Value) (h : am_H) : am_f d scr L call 31 (n + 1) 17 lv st h = am_f d scr L call 31 n 19 lv (.int 6 :: st) h := k_nx (i := .bipush 6) rfl rfl
theorem s_31_19 (d L n : Nat) (scr : Nat → Int32) (call : Nat → List Value → am_H → Option am_X) (lv : am_L) (st : List Value) (h : am_H) (x y : Int32) : am_f d scr L call 31 (n + 1) 19 lv (.int y :: .int x :: st) h = if ¬ x = y then am_f d scr L call 31 n 157 lv st h else am_f d scr L call 31 n 22 lv st h := k_ic_ne (o := 138) rfl ⟨by decide, rfl⟩
theorem s_31_22 (d L n : Nat) (scr : Nat → Int32) (call : Nat → List Value → am_H → Option am_X) (lv : am_L) (st : List Value) (h : am_H) : am_f d scr L call 31 (n + 1) 22 lv st h = (match am_ld lv 0 with
    | some (.ref x) => am_f d scr L call 31 n 23 lv (.ref x :: st) h
    | _ => none) := k_la (i := .aload_n 0) rfl rfl rfl rfl
theorem s_31_23 (d L n : Nat) (scr : Nat → Int32) (call : Nat → List Value → am_H → Option am_X) (lv : am_L) (st : List Value) (h : am_H) (a : Nat) : am_f d scr L call 31 (n + 1) 23 lv (.ref a :: st) h = (match am_get h a 3 16 with
    | some v => am_f d scr L call 31 n 26 lv (v :: st) h
    | none => none) := k_gf (k := 77) rfl rfl
theorem s_31_26 (d L n : Nat) (scr : Nat → Int32) (call : Nat → List Value → am_H → Option am_X) (lv : am_L) (st : List Value) (h : am_H) (x : Int32) : am_f d scr L call 31 (n + 1) 26 lv (.int x :: st) h = if ¬ x = 0 then am_f d scr L call 31 n 36 lv st h else am_f d scr L call 31 n 29 lv st h := k_if_ne (o := 10) rfl ⟨by decide, rfl⟩
theorem s_31_29 (d L n : Nat) (scr : Nat → Int32) (call : Nat → List Value → am_H → Option am_X) (lv : am_L) (st : List Value) (h : am_H) : am_f d scr L call 31 (n + 1) 29 lv st h = (match am_ld lv 0 with
    | some (.ref x) => am_f d scr L call 31 n 30 lv (.ref x :: st) h
    | _ => none) := k_la (i := .aload_n 0) rfl rfl rfl rfl
theorem s_31_30 (d L n : Nat) (scr : Nat → Int32) (call : Nat → List Value → am_H → Option am_X) (lv : am_L) (h : am_H) (o : Nat)   : am_f d scr L call 31 (n + 1) 30 lv (.ref o :: []) h = if am_at h o 3 = true then (match call 34 [.ref o] h with
    | some (v, h', dk, dn) => am_add dk dn (am_f d scr L call 31 n 33 lv (v.toList ++ []) h')
    | none => none) else none := k_iv0 (k := 81) (as := []) (r := []) rfl rfl rfl rfl (Nat.le_of_ble_eq_true rfl)
theorem s_31_33 (d L n : Nat) (scr : Nat → Int32) (call : Nat → List Value → am_H → Option am_X) (lv : am_L) (st : List Value) (h : am_H) : am_f d scr L call 31 (n + 1) 33 lv st h = am_f d scr L call 31 n 128 lv st h := k_nx (i := .goto 95) rfl rfl
theorem s_31_36 (d L n : Nat) (scr : Nat → Int32) (call : Nat → List Value → am_H → Option am_X) (lv : am_L) (st : List Value) (h : am_H) : am_f d scr L call 31 (n + 1) 36 lv st h = (match am_ld lv 0 with
    | some (.ref x) => am_f d scr L call 31 n 37 lv (.ref x :: st) h
    | _ => none) := k_la (i := .aload_n 0) rfl rfl rfl rfl
theorem s_31_37 (d L n : Nat) (scr : Nat → Int32) (call : Nat → List Value → am_H → Option am_X) (lv : am_L) (st : List Value) (h : am_H) (a : Nat) : am_f d scr L call 31 (n + 1) 37 lv (.ref a :: st) h = (match am_get h a 3 6 with
    | some v => am_f d scr L call 31 n 40 lv (v :: st) h
    | none => none) := k_gf (k := 84) rfl rfl
theorem s_31_40 (d L n : Nat) (scr : Nat → Int32) (call : Nat → List Value → am_H → Option am_X) (lv : am_L) (st : List Value) (h : am_H) (x : Int32) : am_f d scr L call 31 (n + 1) 40 lv (.int x :: st) h = if ¬ x = 0 then am_f d scr L call 31 n 51 lv st h else am_f d scr L call 31 n 43 lv st h := k_if_ne (o := 11) rfl ⟨by decide, rfl⟩
theorem s_31_43 (d L n : Nat) (scr : Nat → Int32) (call : Nat → List Value → am_H → Option am_X) (lv : am_L) (st : List Value) (h : am_H) : am_f d scr L call 31 (n + 1) 43 lv st h = (match am_ld lv 0 with
    | some (.ref x) => am_f d scr L call 31 n 44 lv (.ref x :: st) h
    | _ => none) := k_la (i := .aload_n 0) rfl rfl rfl rfl
theorem s_31_44 (d L n : Nat) (scr : Nat → Int32) (call : Nat → List Value → am_H → Option am_X) (lv : am_L) (st : List Value) (h : am_H) : am_f d scr L call 31 (n + 1) 44 lv st h = am_f d scr L call 31 n 45 lv (.int 1 :: st) h := k_nx (i := .iconst 1) rfl rfl
theorem s_31_45 (d L n : Nat) (scr : Nat → Int32) (call : Nat → List Value → am_H → Option am_X) (lv : am_L) (st : List Value) (h : am_H) (x : Int32) (a : Nat) : am_f d scr L call 31 (n + 1) 45 lv (.int x :: .ref a :: st) h = (match am_put h a 3 12 (.int x) with
    | some h' => am_f d scr L call 31 n 48 lv st h'
    | none => none) := k_pf (k := 59) rfl rfl rfl
theorem s_31_48 (d L n : Nat) (scr : Nat → Int32) (call : Nat → List Value → am_H → Option am_X) (lv : am_L) (st : List Value) (h : am_H) : am_f d scr L call 31 (n + 1) 48 lv st h = am_f d scr L call 31 n 128 lv st h := k_nx (i := .goto 80) rfl rfl
theorem s_31_51 (d L n : Nat) (scr : Nat → Int32) (call : Nat → List Value → am_H → Option am_X) (lv : am_L) (st : List Value) (h : am_H) : am_f d scr L call 31 (n + 1) 51 lv st h = (match am_ld lv 0 with
    | some (.ref x) => am_f d scr L call 31 n 52 lv (.ref x :: st) h
    | _ => none) := k_la (i := .aload_n 0) rfl rfl rfl rfl
theorem s_31_52 (d L n : Nat) (scr : Nat → Int32) (call : Nat → List Value → am_H → Option am_X) (lv : am_L) (st : List Value) (h : am_H) (a : Nat) : am_f d scr L call 31 (n + 1) 52 lv (.ref a :: st) h = (match am_get h a 3 0 with
    | some v => am_f d scr L call 31 n 55 lv (v :: st) h
    | none => none) := k_gf (k := 13) rfl rfl
theorem s_31_55 (d L n : Nat) (scr : Nat → Int32) (call : Nat → List Value → am_H → Option am_X) (lv : am_L) (st : List Value) (h : am_H) (a : Nat) : am_f d scr L call 31 (n + 1) 55 lv (.ref a :: st) h = (match am_get h a 5 2 with
    | some v => am_f d scr L call 31 n 58 lv (v :: st) h
    | none => none) := k_gf (k := 87) rfl rfl
theorem s_31_58 (d L n : Nat) (scr : Nat → Int32) (call : Nat → List Value → am_H → Option am_X) (lv : am_L) (st : List Value) (h : am_H) : am_f d scr L call 31 (n + 1) 58 lv st h = (match am_ld lv 0 with
    | some (.ref x) => am_f d scr L call 31 n 59 lv (.ref x :: st) h
    | _ => none) := k_la (i := .aload_n 0) rfl rfl rfl rfl
theorem s_31_59 (d L n : Nat) (scr : Nat → Int32) (call : Nat → List Value → am_H → Option am_X) (lv : am_L) (st : List Value) (h : am_H) (a : Nat) : am_f d scr L call 31 (n + 1) 59 lv (.ref a :: st) h = (match am_get h a 3 14 with
    | some v => am_f d scr L call 31 n 62 lv (v :: st) h
    | none => none) := k_gf (k := 90) rfl rfl
theorem s_31_62 (d L n : Nat) (scr : Nat → Int32) (call : Nat → List Value → am_H → Option am_X) (lv : am_L) (st : List Value) (h : am_H) (a : Nat) (i : Int32) : am_f d scr L call 31 (n + 1) 62 lv (.int i :: .ref a :: st) h = (match am_ild scr L h a i with
    | some x => am_f d scr L call 31 n 63 lv (.int x :: st) h
    | none => none) := k_ia rfl
theorem s_31_63 (d L n : Nat) (scr : Nat → Int32) (call : Nat → List Value → am_H → Option am_X) (lv : am_L) (st : List Value) (h : am_H) : am_f d scr L call 31 (n + 1) 63 lv st h = (match am_ld lv 0 with
    | some (.ref x) => am_f d scr L call 31 n 64 lv (.ref x :: st) h
    | _ => none) := k_la (i := .aload_n 0) rfl rfl rfl rfl
theorem s_31_64 (d L n : Nat) (scr : Nat → Int32) (call : Nat → List Value → am_H → Option am_X) (lv : am_L) (st : List Value) (h : am_H) (a : Nat) : am_f d scr L call 31 (n + 1) 64 lv (.ref a :: st) h = (match am_get h a 3 3 with
    | some v => am_f d scr L call 31 n 67 lv (v :: st) h
    | none => none) := k_gf (k := 39) rfl rfl
theorem s_31_67 (d L n : Nat) (scr : Nat → Int32) (call : Nat → List Value → am_H → Option am_X) (lv : am_L) (st : List Value) (h : am_H) : am_f d scr L call 31 (n + 1) 67 lv st h = (match am_ld lv 0 with
    | some (.ref x) => am_f d scr L call 31 n 68 lv (.ref x :: st) h
    | _ => none) := k_la (i := .aload_n 0) rfl rfl rfl rfl
theorem s_31_68 (d L n : Nat) (scr : Nat → Int32) (call : Nat → List Value → am_H → Option am_X) (lv : am_L) (st : List Value) (h : am_H) (a : Nat) : am_f d scr L call 31 (n + 1) 68 lv (.ref a :: st) h = (match am_get h a 3 6 with
    | some v => am_f d scr L call 31 n 71 lv (v :: st) h
    | none => none) := k_gf (k := 84) rfl rfl
theorem s_31_71 (d L n : Nat) (scr : Nat → Int32) (call : Nat → List Value → am_H → Option am_X) (lv : am_L) (st : List Value) (h : am_H) : am_f d scr L call 31 (n + 1) 71 lv st h = am_f d scr L call 31 n 72 lv (.int 1 :: st) h := k_nx (i := .iconst 1) rfl rfl
theorem s_31_72 (d L n : Nat) (scr : Nat → Int32) (call : Nat → List Value → am_H → Option am_X) (lv : am_L) (st : List Value) (h : am_H) (x y : Int32) : am_f d scr L call 31 (n + 1) 72 lv (.int y :: .int x :: st) h = am_f d scr L call 31 n 73 lv (.int (x - y) :: st) h := k_nx (i := .isub) rfl rfl
theorem s_31_73 (d L n : Nat) (scr : Nat → Int32) (call : Nat → List Value → am_H → Option am_X) (lv : am_L) (st : List Value) (h : am_H) (a : Nat) (i : Int32) : am_f d scr L call 31 (n + 1) 73 lv (.int i :: .ref a :: st) h = (match am_ild scr L h a i with
    | some x => am_f d scr L call 31 n 74 lv (.int x :: st) h
    | none => none) := k_ia rfl
theorem s_31_74 (d L n : Nat) (scr : Nat → Int32) (call : Nat → List Value → am_H → Option am_X) (lv : am_L) (st : List Value) (h : am_H) (x y : Int32) : am_f d scr L call 31 (n + 1) 74 lv (.int y :: .int x :: st) h = if x = y then am_f d scr L call 31 n 84 lv st h else am_f d scr L call 31 n 77 lv st h := k_ic_eq (o := 10) rfl ⟨by decide, rfl⟩
theorem s_31_77 (d L n : Nat) (scr : Nat → Int32) (call : Nat → List Value → am_H → Option am_X) (lv : am_L) (st : List Value) (h : am_H) : am_f d scr L call 31 (n + 1) 77 lv st h = (match am_ld lv 0 with
    | some (.ref x) => am_f d scr L call 31 n 78 lv (.ref x :: st) h
    | _ => none) := k_la (i := .aload_n 0) rfl rfl rfl rfl
theorem s_31_78 (d L n : Nat) (scr : Nat → Int32) (call : Nat → List Value → am_H → Option am_X) (lv : am_L) (h : am_H) (o : Nat)   : am_f d scr L call 31 (n + 1) 78 lv (.ref o :: []) h = if am_at h o 3 = true then (match call 38 [.ref o] h with
    | some (v, h', dk, dn) => am_add dk dn (am_f d scr L call 31 n 81 lv (v.toList ++ []) h')
    | none => none) else none := k_iv0 (k := 93) (as := []) (r := []) rfl rfl rfl rfl (Nat.le_of_ble_eq_true rfl)
theorem s_31_81 (d L n : Nat) (scr : Nat → Int32) (call : Nat → List Value → am_H → Option am_X) (lv : am_L) (st : List Value) (h : am_H) : am_f d scr L call 31 (n + 1) 81 lv st h = am_f d scr L call 31 n 128 lv st h := k_nx (i := .goto 47) rfl rfl
theorem s_31_84 (d L n : Nat) (scr : Nat → Int32) (call : Nat → List Value → am_H → Option am_X) (lv : am_L) (st : List Value) (h : am_H) : am_f d scr L call 31 (n + 1) 84 lv st h = (match am_ld lv 0 with
    | some (.ref x) => am_f d scr L call 31 n 85 lv (.ref x :: st) h
    | _ => none) := k_la (i := .aload_n 0) rfl rfl rfl rfl
theorem s_31_85 (d L n : Nat) (scr : Nat → Int32) (call : Nat → List Value → am_H → Option am_X) (lv : am_L) (h : am_H) (o : Nat)   : am_f d scr L call 31 (n + 1) 85 lv (.ref o :: []) h = if am_at h o 3 = true then (match call 39 [.ref o] h with
    | some (v, h', dk, dn) => am_add dk dn (am_f d scr L call 31 n 88 lv (v.toList ++ []) h')
    | none => none) else none := k_iv0 (k := 96) (as := []) (r := []) rfl rfl rfl rfl (Nat.le_of_ble_eq_true rfl)
theorem s_31_88 (d L n : Nat) (scr : Nat → Int32) (call : Nat → List Value → am_H → Option am_X) (lv : am_L) (st : List Value) (h : am_H) (x : Int32) : am_f d scr L call 31 (n + 1) 88 lv (.int x :: st) h = if x = 0 then am_f d scr L call 31 n 128 lv st h else am_f d scr L call 31 n 91 lv st h := k_if_eq (o := 40) rfl ⟨by decide, rfl⟩
theorem s_31_91 (d L n : Nat) (scr : Nat → Int32) (call : Nat → List Value → am_H → Option am_X) (lv : am_L) (st : List Value) (h : am_H) : am_f d scr L call 31 (n + 1) 91 lv st h = (match am_ld lv 0 with
    | some (.ref x) => am_f d scr L call 31 n 92 lv (.ref x :: st) h
    | _ => none) := k_la (i := .aload_n 0) rfl rfl rfl rfl
theorem s_31_92 (d L n : Nat) (scr : Nat → Int32) (call : Nat → List Value → am_H → Option am_X) (lv : am_L) (st : List Value) (h : am_H) (a : Nat) : am_f d scr L call 31 (n + 1) 92 lv (.ref a :: st) h = (match am_get h a 3 14 with
    | some v => am_f d scr L call 31 n 95 lv (v :: st) h
    | none => none) := k_gf (k := 90) rfl rfl
theorem s_31_95 (d L n : Nat) (scr : Nat → Int32) (call : Nat → List Value → am_H → Option am_X) (lv : am_L) (st : List Value) (h : am_H) : am_f d scr L call 31 (n + 1) 95 lv st h = (match am_ld lv 0 with
    | some (.ref x) => am_f d scr L call 31 n 96 lv (.ref x :: st) h
    | _ => none) := k_la (i := .aload_n 0) rfl rfl rfl rfl
theorem s_31_96 (d L n : Nat) (scr : Nat → Int32) (call : Nat → List Value → am_H → Option am_X) (lv : am_L) (st : List Value) (h : am_H) (a : Nat) : am_f d scr L call 31 (n + 1) 96 lv (.ref a :: st) h = (match am_get h a 3 0 with
    | some v => am_f d scr L call 31 n 99 lv (v :: st) h
    | none => none) := k_gf (k := 13) rfl rfl
theorem s_31_99 (d L n : Nat) (scr : Nat → Int32) (call : Nat → List Value → am_H → Option am_X) (lv : am_L) (st : List Value) (h : am_H) (a : Nat) : am_f d scr L call 31 (n + 1) 99 lv (.ref a :: st) h = (match am_get h a 5 3 with
    | some v => am_f d scr L call 31 n 102 lv (v :: st) h
    | none => none) := k_gf (k := 100) rfl rfl
theorem s_31_102 (d L n : Nat) (scr : Nat → Int32) (call : Nat → List Value → am_H → Option am_X) (lv : am_L) (st : List Value) (h : am_H) : am_f d scr L call 31 (n + 1) 102 lv st h = (match am_ld lv 0 with
    | some (.ref x) => am_f d scr L call 31 n 103 lv (.ref x :: st) h
    | _ => none) := k_la (i := .aload_n 0) rfl rfl rfl rfl
theorem s_31_103 (d L n : Nat) (scr : Nat → Int32) (call : Nat → List Value → am_H → Option am_X) (lv : am_L) (st : List Value) (h : am_H) (a : Nat) : am_f d scr L call 31 (n + 1) 103 lv (.ref a :: st) h = (match am_get h a 3 3 with
    | some v => am_f d scr L call 31 n 106 lv (v :: st) h
    | none => none) := k_gf (k := 39) rfl rfl
theorem s_31_106 (d L n : Nat) (scr : Nat → Int32) (call : Nat → List Value → am_H → Option am_X) (lv : am_L) (st : List Value) (h : am_H) : am_f d scr L call 31 (n + 1) 106 lv st h = (match am_ld lv 0 with
    | some (.ref x) => am_f d scr L call 31 n 107 lv (.ref x :: st) h
    | _ => none) := k_la (i := .aload_n 0) rfl rfl rfl rfl
theorem s_31_107 (d L n : Nat) (scr : Nat → Int32) (call : Nat → List Value → am_H → Option am_X) (lv : am_L) (st : List Value) (h : am_H) (a : Nat) : am_f d scr L call 31 (n + 1) 107 lv (.ref a :: st) h = (match am_get h a 3 6 with
    | some v => am_f d scr L call 31 n 110 lv (v :: st) h
    | none => none) := k_gf (k := 84) rfl rfl
theorem s_31_110 (d L n : Nat) (scr : Nat → Int32) (call : Nat → List Value → am_H → Option am_X) (lv : am_L) (st : List Value) (h : am_H) : am_f d scr L call 31 (n + 1) 110 lv st h = am_f d scr L call 31 n 111 lv (.int 1 :: st) h := k_nx (i := .iconst 1) rfl rfl
theorem s_31_111 (d L n : Nat) (scr : Nat → Int32) (call : Nat → List Value → am_H → Option am_X) (lv : am_L) (st : List Value) (h : am_H) (x y : Int32) : am_f d scr L call 31 (n + 1) 111 lv (.int y :: .int x :: st) h = am_f d scr L call 31 n 112 lv (.int (x - y) :: st) h := k_nx (i := .isub) rfl rfl
theorem s_31_112 (d L n : Nat) (scr : Nat → Int32) (call : Nat → List Value → am_H → Option am_X) (lv : am_L) (st : List Value) (h : am_H) (a : Nat) (i : Int32) : am_f d scr L call 31 (n + 1) 112 lv (.int i :: .ref a :: st) h = (match am_ild scr L h a i with
    | some x => am_f d scr L call 31 n 113 lv (.int x :: st) h
    | none => none) := k_ia rfl
theorem s_31_113 (d L n : Nat) (scr : Nat → Int32) (call : Nat → List Value → am_H → Option am_X) (lv : am_L) (st : List Value) (h : am_H) (a : Nat) (i : Int32) : am_f d scr L call 31 (n + 1) 113 lv (.int i :: .ref a :: st) h = (match am_ild scr L h a i with
    | some x => am_f d scr L call 31 n 114 lv (.int x :: st) h
    | none => none) := k_ia rfl
theorem s_31_114 (d L n : Nat) (scr : Nat → Int32) (call : Nat → List Value → am_H → Option am_X) (lv : am_L) (st : List Value) (h : am_H) (x y : Int32) : am_f d scr L call 31 (n + 1) 114 lv (.int y :: .int x :: st) h = if ¬ x = y then am_f d scr L call 31 n 124 lv st h else am_f d scr L call 31 n 117 lv st h := k_ic_ne (o := 10) rfl ⟨by decide, rfl⟩
theorem s_31_117 (d L n : Nat) (scr : Nat → Int32) (call : Nat → List Value → am_H → Option am_X) (lv : am_L) (st : List Value) (h : am_H) : am_f d scr L call 31 (n + 1) 117 lv st h = (match am_ld lv 0 with
    | some (.ref x) => am_f d scr L call 31 n 118 lv (.ref x :: st) h
    | _ => none) := k_la (i := .aload_n 0) rfl rfl rfl rfl
theorem s_31_118 (d L n : Nat) (scr : Nat → Int32) (call : Nat → List Value → am_H → Option am_X) (lv : am_L) (h : am_H) (o : Nat)   : am_f d scr L call 31 (n + 1) 118 lv (.ref o :: []) h = if am_at h o 3 = true then (match call 40 [.ref o] h with
    | some (v, h', dk, dn) => am_add dk dn (am_f d scr L call 31 n 121 lv (v.toList ++ []) h')
    | none => none) else none := k_iv0 (k := 103) (as := []) (r := []) rfl rfl rfl rfl (Nat.le_of_ble_eq_true rfl)
theorem s_31_121 (d L n : Nat) (scr : Nat → Int32) (call : Nat → List Value → am_H → Option am_X) (lv : am_L) (st : List Value) (h : am_H) : am_f d scr L call 31 (n + 1) 121 lv st h = am_f d scr L call 31 n 128 lv st h := k_nx (i := .goto 7) rfl rfl
theorem s_31_124 (d L n : Nat) (scr : Nat → Int32) (call : Nat → List Value → am_H → Option am_X) (lv : am_L) (st : List Value) (h : am_H) : am_f d scr L call 31 (n + 1) 124 lv st h = (match am_ld lv 0 with
    | some (.ref x) => am_f d scr L call 31 n 125 lv (.ref x :: st) h
    | _ => none) := k_la (i := .aload_n 0) rfl rfl rfl rfl
theorem s_31_125 (d L n : Nat) (scr : Nat → Int32) (call : Nat → List Value → am_H → Option am_X) (lv : am_L) (h : am_H) (o : Nat)   : am_f d scr L call 31 (n + 1) 125 lv (.ref o :: []) h = if am_at h o 3 = true then (match call 41 [.ref o] h with
    | some (v, h', dk, dn) => am_add dk dn (am_f d scr L call 31 n 128 lv (v.toList ++ []) h')
    | none => none) else none := k_iv0 (k := 106) (as := []) (r := []) rfl rfl rfl rfl (Nat.le_of_ble_eq_true rfl)
theorem s_31_128 (d L n : Nat) (scr : Nat → Int32) (call : Nat → List Value → am_H → Option am_X) (lv : am_L) (st : List Value) (h : am_H) : am_f d scr L call 31 (n + 1) 128 lv st h = (match am_ld lv 0 with
    | some (.ref x) => am_f d scr L call 31 n 129 lv (.ref x :: st) h
    | _ => none) := k_la (i := .aload_n 0) rfl rfl rfl rfl
theorem s_31_129 (d L n : Nat) (scr : Nat → Int32) (call : Nat → List Value → am_H → Option am_X) (lv : am_L) (st : List Value) (h : am_H) (a : Nat) : am_f d scr L call 31 (n + 1) 129 lv (.ref a :: st) h = (match am_get h a 3 1 with
    | some v => am_f d scr L call 31 n 132 lv (v :: st) h
    | none => none) := k_gf (k := 28) rfl rfl
theorem s_31_132 (d L n : Nat) (scr : Nat → Int32) (call : Nat → List Value → am_H → Option am_X) (lv : am_L) (st : List Value) (h : am_H) (a : Nat) : am_f d scr L call 31 (n + 1) 132 lv (.ref a :: st) h = (match am_get h a 1 7 with
    | some v => am_f d scr L call 31 n 135 lv (v :: st) h
    | none => none) := k_gf (k := 109) rfl rfl
theorem s_31_135 (d L n : Nat) (scr : Nat → Int32) (call : Nat → List Value → am_H → Option am_X) (lv : am_L) (st : List Value) (h : am_H) : am_f d scr L call 31 (n + 1) 135 lv st h = am_f d scr L call 31 n 137 lv (.int 6 :: st) h := k_nx (i := .bipush 6) rfl rfl
theorem s_31_137 (d L n : Nat) (scr : Nat → Int32) (call : Nat → List Value → am_H → Option am_X) (lv : am_L) (st : List Value) (h : am_H) (x y : Int32) : am_f d scr L call 31 (n + 1) 137 lv (.int y :: .int x :: st) h = if x = y then am_f d scr L call 31 n 151 lv st h else am_f d scr L call 31 n 140 lv st h := k_ic_eq (o := 14) rfl ⟨by decide, rfl⟩
theorem s_31_140 (d L n : Nat) (scr : Nat → Int32) (call : Nat → List Value → am_H → Option am_X) (lv : am_L) (st : List Value) (h : am_H) : am_f d scr L call 31 (n + 1) 140 lv st h = (match am_ld lv 0 with
    | some (.ref x) => am_f d scr L call 31 n 141 lv (.ref x :: st) h
    | _ => none) := k_la (i := .aload_n 0) rfl rfl rfl rfl
theorem s_31_141 (d L n : Nat) (scr : Nat → Int32) (call : Nat → List Value → am_H → Option am_X) (lv : am_L) (st : List Value) (h : am_H) : am_f d scr L call 31 (n + 1) 141 lv st h = (match am_ld lv 0 with
    | some (.ref x) => am_f d scr L call 31 n 142 lv (.ref x :: st) h
    | _ => none) := k_la (i := .aload_n 0) rfl rfl rfl rfl
theorem s_31_142 (d L n : Nat) (scr : Nat → Int32) (call : Nat → List Value → am_H → Option am_X) (lv : am_L) (st : List Value) (h : am_H) (a : Nat) : am_f d scr L call 31 (n + 1) 142 lv (.ref a :: st) h = (match am_get h a 3 1 with
    | some v => am_f d scr L call 31 n 145 lv (v :: st) h
    | none => none) := k_gf (k := 28) rfl rfl
theorem s_31_145 (d L n : Nat) (scr : Nat → Int32) (call : Nat → List Value → am_H → Option am_X) (lv : am_L) (st : List Value) (h : am_H) (a : Nat) : am_f d scr L call 31 (n + 1) 145 lv (.ref a :: st) h = (match am_get h a 1 7 with
    | some v => am_f d scr L call 31 n 148 lv (v :: st) h
    | none => none) := k_gf (k := 109) rfl rfl
theorem s_31_148 (d L n : Nat) (scr : Nat → Int32) (call : Nat → List Value → am_H → Option am_X) (lv : am_L) (st : List Value) (h : am_H) (x : Int32) (a : Nat) : am_f d scr L call 31 (n + 1) 148 lv (.int x :: .ref a :: st) h = (match am_put h a 3 12 (.int x) with
    | some h' => am_f d scr L call 31 n 151 lv st h'
    | none => none) := k_pf (k := 59) rfl rfl rfl
theorem s_31_151 (d L n : Nat) (scr : Nat → Int32) (call : Nat → List Value → am_H → Option am_X) (lv : am_L) (st : List Value) (h : am_H) : am_f d scr L call 31 (n + 1) 151 lv st h = (match am_ld lv 2 with
    | some (.int x) => am_f d scr L call 31 n 154 (am_st1 lv 2 (.int (x + 1))) st h
    | _ => none) := k_iinc (k := 2) (c := 1) rfl rfl (Nat.le_of_ble_eq_true rfl)
theorem s_31_154 (d L n : Nat) (scr : Nat → Int32) (call : Nat → List Value → am_H → Option am_X) (lv : am_L) (st : List Value) (h : am_H) : am_f d scr L call 31 (n + 1) 154 lv st h = am_f d scr L call 31 n 7 lv st h := k_nx (i := .goto (-147)) rfl rfl
theorem s_31_157 (d L n : Nat) (scr : Nat → Int32) (call : Nat → List Value → am_H → Option am_X) (lv : am_L) (st : List Value) (h : am_H) : am_f d scr L call 31 (n + 1) 157 lv st h = (match am_ld lv 0 with
    | some (.ref x) => am_f d scr L call 31 n 158 lv (.ref x :: st) h
    | _ => none) := k_la (i := .aload_n 0) rfl rfl rfl rfl
theorem s_31_158 (d L n : Nat) (scr : Nat → Int32) (call : Nat → List Value → am_H → Option am_X) (lv : am_L) (st : List Value) (h : am_H) (a : Nat) : am_f d scr L call 31 (n + 1) 158 lv (.ref a :: st) h = (match am_get h a 3 12 with
    | some v => am_f d scr L call 31 n 161 lv (v :: st) h
    | none => none) := k_gf (k := 59) rfl rfl
theorem s_31_161 (d L n : Nat) (scr : Nat → Int32) (call : Nat → List Value → am_H → Option am_X) (lv : am_L) (st : List Value) (h : am_H) : am_f d scr L call 31 (n + 1) 161 lv st h = am_f d scr L call 31 n 163 lv (.int 6 :: st) h := k_nx (i := .bipush 6) rfl rfl
theorem s_31_163 (d L n : Nat) (scr : Nat → Int32) (call : Nat → List Value → am_H → Option am_X) (lv : am_L) (st : List Value) (h : am_H) (x y : Int32) : am_f d scr L call 31 (n + 1) 163 lv (.int y :: .int x :: st) h = if ¬ x = y then am_f d scr L call 31 n 171 lv st h else am_f d scr L call 31 n 166 lv st h := k_ic_ne (o := 8) rfl ⟨by decide, rfl⟩
theorem s_31_166 (d L n : Nat) (scr : Nat → Int32) (call : Nat → List Value → am_H → Option am_X) (lv : am_L) (st : List Value) (h : am_H) : am_f d scr L call 31 (n + 1) 166 lv st h = (match am_ld lv 0 with
    | some (.ref x) => am_f d scr L call 31 n 167 lv (.ref x :: st) h
    | _ => none) := k_la (i := .aload_n 0) rfl rfl rfl rfl
set_option maxRecDepth 100000 in
theorem s_31_167 (d L n : Nat) (scr : Nat → Int32) (call : Nat → List Value → am_H → Option am_X) (lv : am_L) (st : List Value) (h : am_H) : am_f d scr L call 31 (n + 1) 167 lv st h = am_f d scr L call 31 n 168 lv (.int 4 :: st) h := k_nx (i := .iconst 4) rfl rfl
set_option maxRecDepth 100000 in
theorem s_31_168 (d L n : Nat) (scr : Nat → Int32) (call : Nat → List Value → am_H → Option am_X) (lv : am_L) (st : List Value) (h : am_H) (x : Int32) (a : Nat) : am_f d scr L call 31 (n + 1) 168 lv (.int x :: .ref a :: st) h = (match am_put h a 3 12 (.int x) with
    | some h' => am_f d scr L call 31 n 171 lv st h'
    | none => none) := k_pf (k := 59) rfl rfl rfl
set_option maxRecDepth 100000 in
theorem s_31_171 (d L n : Nat) (scr : Nat → Int32) (call : Nat → List Value → am_H → Option am_X) (lv : am_L) (st : List Value) (h : am_H) : am_f d scr L call 31 (n + 1) 171 lv st h = (match am_ld lv 0 with
    | some (.ref x) => am_f d scr L call 31 n 172 lv (.ref x :: st) h
    | _ => none) := k_la (i := .aload_n 0) rfl rfl rfl rfl
set_option maxRecDepth 100000 in
theorem s_31_172 (d L n : Nat) (scr : Nat → Int32) (call : Nat → List Value → am_H → Option am_X) (lv : am_L) (st : List Value) (h : am_H) (a : Nat) : am_f d scr L call 31 (n + 1) 172 lv (.ref a :: st) h = (match am_get h a 3 12 with
    | some v => am_f d scr L call 31 n 175 lv (v :: st) h
    | none => none) := k_gf (k := 59) rfl rfl
set_option maxRecDepth 100000 in
theorem s_31_175 (d L n : Nat) (scr : Nat → Int32) (call : Nat → List Value → am_H → Option am_X) (lv : am_L) (h : am_H) (x : Int32) : am_f d scr L call 31 (n + 1) 175 lv [.int x] h = some (some (.int x), h, 0, 0) := k_ir rfl rfl
-- 32: BlameDesk$Machine.start(I)V
theorem s_32_0 (d L n : Nat) (scr : Nat → Int32) (call : Nat → List Value → am_H → Option am_X) (lv : am_L) (st : List Value) (h : am_H) : am_f d scr L call 32 (n + 1) 0 lv st h = (match am_ld lv 0 with
    | some (.ref x) => am_f d scr L call 32 n 1 lv (.ref x :: st) h
    | _ => none) := k_la (i := .aload_n 0) rfl rfl rfl rfl
theorem s_32_1 (d L n : Nat) (scr : Nat → Int32) (call : Nat → List Value → am_H → Option am_X) (lv : am_L) (h : am_H) (o : Nat)   : am_f d scr L call 32 (n + 1) 1 lv (.ref o :: []) h = if am_at h o 3 = true then (match call 30 [.ref o] h with
    | some (v, h', dk, dn) => am_add dk dn (am_f d scr L call 32 n 4 lv (v.toList ++ []) h')
    | none => none) else none := k_iv0 (k := 110) (as := []) (r := []) rfl rfl rfl rfl (Nat.le_of_ble_eq_true rfl)
theorem s_32_4 (d L n : Nat) (scr : Nat → Int32) (call : Nat → List Value → am_H → Option am_X) (lv : am_L) (st : List Value) (h : am_H) : am_f d scr L call 32 (n + 1) 4 lv st h = (match am_ld lv 0 with
    | some (.ref x) => am_f d scr L call 32 n 5 lv (.ref x :: st) h
    | _ => none) := k_la (i := .aload_n 0) rfl rfl rfl rfl
theorem s_32_5 (d L n : Nat) (scr : Nat → Int32) (call : Nat → List Value → am_H → Option am_X) (lv : am_L) (st : List Value) (h : am_H) (a : Nat) : am_f d scr L call 32 (n + 1) 5 lv (.ref a :: st) h = (match am_get h a 3 1 with
    | some v => am_f d scr L call 32 n 8 lv (v :: st) h
    | none => none) := k_gf (k := 28) rfl rfl
theorem s_32_8 (d L n : Nat) (scr : Nat → Int32) (call : Nat → List Value → am_H → Option am_X) (lv : am_L) (h : am_H) (o : Nat)   : am_f d scr L call 32 (n + 1) 8 lv (.ref o :: []) h = if am_at h o 1 = true then (match call 13 [.ref o] h with
    | some (v, h', dk, dn) => am_add dk dn (am_f d scr L call 32 n 11 lv (v.toList ++ []) h')
    | none => none) else none := k_iv0 (k := 113) (as := []) (r := []) rfl rfl rfl rfl (Nat.le_of_ble_eq_true rfl)
theorem s_32_11 (d L n : Nat) (scr : Nat → Int32) (call : Nat → List Value → am_H → Option am_X) (lv : am_L) (st : List Value) (h : am_H) : am_f d scr L call 32 (n + 1) 11 lv st h = (match am_ld lv 0 with
    | some (.ref x) => am_f d scr L call 32 n 12 lv (.ref x :: st) h
    | _ => none) := k_la (i := .aload_n 0) rfl rfl rfl rfl
theorem s_32_12 (d L n : Nat) (scr : Nat → Int32) (call : Nat → List Value → am_H → Option am_X) (lv : am_L) (st : List Value) (h : am_H) : am_f d scr L call 32 (n + 1) 12 lv st h = (match am_ld lv 1 with
    | some (.int x) => am_f d scr L call 32 n 13 lv (.int x :: st) h
    | _ => none) := k_li (i := .iload_n 1) rfl rfl rfl rfl
theorem s_32_13 (d L n : Nat) (scr : Nat → Int32) (call : Nat → List Value → am_H → Option am_X) (lv : am_L) (st : List Value) (h : am_H) (x : Int32) (a : Nat) : am_f d scr L call 32 (n + 1) 13 lv (.int x :: .ref a :: st) h = (match am_put h a 3 13 (.int x) with
    | some h' => am_f d scr L call 32 n 16 lv st h'
    | none => none) := k_pf (k := 115) rfl rfl rfl
theorem s_32_16 (d L n : Nat) (scr : Nat → Int32) (call : Nat → List Value → am_H → Option am_X) (lv : am_L) (st : List Value) (h : am_H) : am_f d scr L call 32 (n + 1) 16 lv st h = (match am_ld lv 0 with
    | some (.ref x) => am_f d scr L call 32 n 17 lv (.ref x :: st) h
    | _ => none) := k_la (i := .aload_n 0) rfl rfl rfl rfl
theorem s_32_17 (d L n : Nat) (scr : Nat → Int32) (call : Nat → List Value → am_H → Option am_X) (lv : am_L) (st : List Value) (h : am_H) : am_f d scr L call 32 (n + 1) 17 lv st h = am_f d scr L call 32 n 18 lv (.int 0 :: st) h := k_nx (i := .iconst 0) rfl rfl
theorem s_32_18 (d L n : Nat) (scr : Nat → Int32) (call : Nat → List Value → am_H → Option am_X) (lv : am_L) (st : List Value) (h : am_H) (x : Int32) (a : Nat) : am_f d scr L call 32 (n + 1) 18 lv (.int x :: .ref a :: st) h = (match am_put h a 3 6 (.int x) with
    | some h' => am_f d scr L call 32 n 21 lv st h'
    | none => none) := k_pf (k := 84) rfl rfl rfl
theorem s_32_21 (d L n : Nat) (scr : Nat → Int32) (call : Nat → List Value → am_H → Option am_X) (lv : am_L) (st : List Value) (h : am_H) : am_f d scr L call 32 (n + 1) 21 lv st h = (match am_ld lv 0 with
    | some (.ref x) => am_f d scr L call 32 n 22 lv (.ref x :: st) h
    | _ => none) := k_la (i := .aload_n 0) rfl rfl rfl rfl
theorem s_32_22 (d L n : Nat) (scr : Nat → Int32) (call : Nat → List Value → am_H → Option am_X) (lv : am_L) (st : List Value) (h : am_H) : am_f d scr L call 32 (n + 1) 22 lv st h = am_f d scr L call 32 n 23 lv (.int 0 :: st) h := k_nx (i := .iconst 0) rfl rfl
theorem s_32_23 (d L n : Nat) (scr : Nat → Int32) (call : Nat → List Value → am_H → Option am_X) (lv : am_L) (st : List Value) (h : am_H) (x : Int32) (a : Nat) : am_f d scr L call 32 (n + 1) 23 lv (.int x :: .ref a :: st) h = (match am_put h a 3 14 (.int x) with
    | some h' => am_f d scr L call 32 n 26 lv st h'
    | none => none) := k_pf (k := 90) rfl rfl rfl
theorem s_32_26 (d L n : Nat) (scr : Nat → Int32) (call : Nat → List Value → am_H → Option am_X) (lv : am_L) (st : List Value) (h : am_H) : am_f d scr L call 32 (n + 1) 26 lv st h = (match am_ld lv 0 with
    | some (.ref x) => am_f d scr L call 32 n 27 lv (.ref x :: st) h
    | _ => none) := k_la (i := .aload_n 0) rfl rfl rfl rfl
theorem s_32_27 (d L n : Nat) (scr : Nat → Int32) (call : Nat → List Value → am_H → Option am_X) (lv : am_L) (st : List Value) (h : am_H) : am_f d scr L call 32 (n + 1) 27 lv st h = am_f d scr L call 32 n 28 lv (.int 0 :: st) h := k_nx (i := .iconst 0) rfl rfl
theorem s_32_28 (d L n : Nat) (scr : Nat → Int32) (call : Nat → List Value → am_H → Option am_X) (lv : am_L) (st : List Value) (h : am_H) (x : Int32) (a : Nat) : am_f d scr L call 32 (n + 1) 28 lv (.int x :: .ref a :: st) h = (match am_put h a 3 15 (.int x) with
    | some h' => am_f d scr L call 32 n 31 lv st h'
    | none => none) := k_pf (k := 118) rfl rfl rfl
theorem s_32_31 (d L n : Nat) (scr : Nat → Int32) (call : Nat → List Value → am_H → Option am_X) (lv : am_L) (st : List Value) (h : am_H) : am_f d scr L call 32 (n + 1) 31 lv st h = (match am_ld lv 0 with
    | some (.ref x) => am_f d scr L call 32 n 32 lv (.ref x :: st) h
    | _ => none) := k_la (i := .aload_n 0) rfl rfl rfl rfl
theorem s_32_32 (d L n : Nat) (scr : Nat → Int32) (call : Nat → List Value → am_H → Option am_X) (lv : am_L) (st : List Value) (h : am_H) : am_f d scr L call 32 (n + 1) 32 lv st h = am_f d scr L call 32 n 33 lv (.int 0 :: st) h := k_nx (i := .iconst 0) rfl rfl
theorem s_32_33 (d L n : Nat) (scr : Nat → Int32) (call : Nat → List Value → am_H → Option am_X) (lv : am_L) (st : List Value) (h : am_H) (x : Int32) (a : Nat) : am_f d scr L call 32 (n + 1) 33 lv (.int x :: .ref a :: st) h = if x = 0 ∨ x = 1 then (match am_put h a 3 16 (.int x) with
    | some h' => am_f d scr L call 32 n 36 lv st h'
    | none => none) else none := k_pz (k := 77) rfl rfl
theorem s_32_36 (d L n : Nat) (scr : Nat → Int32) (call : Nat → List Value → am_H → Option am_X) (lv : am_L) (st : List Value) (h : am_H) : am_f d scr L call 32 (n + 1) 36 lv st h = (match am_ld lv 0 with
    | some (.ref x) => am_f d scr L call 32 n 37 lv (.ref x :: st) h
    | _ => none) := k_la (i := .aload_n 0) rfl rfl rfl rfl
theorem s_32_37 (d L n : Nat) (scr : Nat → Int32) (call : Nat → List Value → am_H → Option am_X) (lv : am_L) (st : List Value) (h : am_H) : am_f d scr L call 32 (n + 1) 37 lv st h = am_f d scr L call 32 n 39 lv (.int 6 :: st) h := k_nx (i := .bipush 6) rfl rfl
theorem s_32_39 (d L n : Nat) (scr : Nat → Int32) (call : Nat → List Value → am_H → Option am_X) (lv : am_L) (st : List Value) (h : am_H) (x : Int32) (a : Nat) : am_f d scr L call 32 (n + 1) 39 lv (.int x :: .ref a :: st) h = (match am_put h a 3 12 (.int x) with
    | some h' => am_f d scr L call 32 n 42 lv st h'
    | none => none) := k_pf (k := 59) rfl rfl rfl
theorem s_32_42 (d L n : Nat) (scr : Nat → Int32) (call : Nat → List Value → am_H → Option am_X) (lv : am_L) (h : am_H) : am_f d scr L call 32 (n + 1) 42 lv [] h = some (none, h, 0, 0) := k_vr rfl rfl
-- 33: BlameDesk$Machine.partOfResult(I)I
theorem s_33_0 (d L n : Nat) (scr : Nat → Int32) (call : Nat → List Value → am_H → Option am_X) (lv : am_L) (st : List Value) (h : am_H) : am_f d scr L call 33 (n + 1) 0 lv st h = (match am_ld lv 0 with
    | some (.ref x) => am_f d scr L call 33 n 1 lv (.ref x :: st) h
    | _ => none) := k_la (i := .aload_n 0) rfl rfl rfl rfl
theorem s_33_1 (d L n : Nat) (scr : Nat → Int32) (call : Nat → List Value → am_H → Option am_X) (lv : am_L) (st : List Value) (h : am_H) (a : Nat) : am_f d scr L call 33 (n + 1) 1 lv (.ref a :: st) h = (match am_get h a 3 12 with
    | some v => am_f d scr L call 33 n 4 lv (v :: st) h
    | none => none) := k_gf (k := 59) rfl rfl
theorem s_33_4 (d L n : Nat) (scr : Nat → Int32) (call : Nat → List Value → am_H → Option am_X) (lv : am_L) (st : List Value) (h : am_H) : am_f d scr L call 33 (n + 1) 4 lv st h = am_f d scr L call 33 n 5 lv (.int 1 :: st) h := k_nx (i := .iconst 1) rfl rfl
theorem s_33_5 (d L n : Nat) (scr : Nat → Int32) (call : Nat → List Value → am_H → Option am_X) (lv : am_L) (st : List Value) (h : am_H) (x y : Int32) : am_f d scr L call 33 (n + 1) 5 lv (.int y :: .int x :: st) h = if x = y then am_f d scr L call 33 n 10 lv st h else am_f d scr L call 33 n 8 lv st h := k_ic_eq (o := 5) rfl ⟨by decide, rfl⟩
theorem s_33_8 (d L n : Nat) (scr : Nat → Int32) (call : Nat → List Value → am_H → Option am_X) (lv : am_L) (st : List Value) (h : am_H) : am_f d scr L call 33 (n + 1) 8 lv st h = am_f d scr L call 33 n 9 lv (.int (-1) :: st) h := k_nx (i := .iconst (-1)) rfl rfl
theorem s_33_9 (d L n : Nat) (scr : Nat → Int32) (call : Nat → List Value → am_H → Option am_X) (lv : am_L) (h : am_H) (x : Int32) : am_f d scr L call 33 (n + 1) 9 lv [.int x] h = some (some (.int x), h, 0, 0) := k_ir rfl rfl
theorem s_33_10 (d L n : Nat) (scr : Nat → Int32) (call : Nat → List Value → am_H → Option am_X) (lv : am_L) (st : List Value) (h : am_H) : am_f d scr L call 33 (n + 1) 10 lv st h = (match am_ld lv 0 with
    | some (.ref x) => am_f d scr L call 33 n 11 lv (.ref x :: st) h
    | _ => none) := k_la (i := .aload_n 0) rfl rfl rfl rfl
theorem s_33_11 (d L n : Nat) (scr : Nat → Int32) (call : Nat → List Value → am_H → Option am_X) (lv : am_L) (st : List Value) (h : am_H) (a : Nat) : am_f d scr L call 33 (n + 1) 11 lv (.ref a :: st) h = (match am_get h a 3 17 with
    | some v => am_f d scr L call 33 n 14 lv (v :: st) h
    | none => none) := k_gf (k := 121) rfl rfl
theorem s_33_14 (d L n : Nat) (scr : Nat → Int32) (call : Nat → List Value → am_H → Option am_X) (lv : am_L) (h : am_H) (a0 : Int64)  : am_f d scr L call 33 (n + 1) 14 lv (.long a0 :: []) h = (match call 86 [.long a0] h with
    | some (v, h', dk, dn) => am_add dk dn (am_f d scr L call 33 n 17 lv (v.toList ++ []) h')
    | none => none) := k_iv1 (k := 125) (as := [.long a0]) (r := []) rfl rfl rfl rfl (Nat.le_of_ble_eq_true rfl)
theorem s_33_17 (d L n : Nat) (scr : Nat → Int32) (call : Nat → List Value → am_H → Option am_X) (lv : am_L) (st : List Value) (h : am_H) (x : Int32) : am_f d scr L call 33 (n + 1) 17 lv (.int x :: st) h = am_f d scr L call 33 n 18 (am_st1 lv 2 (.int x)) st h := k_nx (i := .istore_n 2) rfl rfl
theorem s_33_18 (d L n : Nat) (scr : Nat → Int32) (call : Nat → List Value → am_H → Option am_X) (lv : am_L) (st : List Value) (h : am_H) : am_f d scr L call 33 (n + 1) 18 lv st h = (match am_ld lv 1 with
    | some (.int x) => am_f d scr L call 33 n 19 lv (.int x :: st) h
    | _ => none) := k_li (i := .iload_n 1) rfl rfl rfl rfl
set_option maxRecDepth 100000 in
theorem s_33_19 (d L n : Nat) (scr : Nat → Int32) (call : Nat → List Value → am_H → Option am_X) (lv : am_L) (st : List Value) (h : am_H) (x : Int32) : am_f d scr L call 33 (n + 1) 19 lv (.int x :: st) h = if x = 0 then am_f d scr L call 33 n 44 lv st h else if x = 1 then am_f d scr L call 33 n 46 lv st h else if x = 2 then am_f d scr L call 33 n 67 lv st h else am_f d scr L call 33 n 83 lv st h := by
  by_cases h0 : x = 0
  · subst h0
    exact k_nx (i := .tableswitch 64 0 2 #[25, 27, 48]) rfl rfl
  by_cases h1 : x = 1
  · subst h1
    exact k_nx (i := .tableswitch 64 0 2 #[25, 27, 48]) rfl rfl
  by_cases h2 : x = 2
  · subst h2
    exact k_nx (i := .tableswitch 64 0 2 #[25, 27, 48]) rfl rfl
  have hn : x.toInt < 0 ∨ 2 < x.toInt := by
    have hh : ∀ k : Int32, ¬ x = k → ¬ x.toInt = k.toInt := fun k hk z => hk (Int32.toInt_inj.mp z)
    have g0 : ¬ x.toInt = 0 := hh 0 h0
    have g1 : ¬ x.toInt = 1 := hh 1 h1
    have g2 : ¬ x.toInt = 2 := hh 2 h2
    omega
  rw [if_neg h0, if_neg h1, if_neg h2]
  refine k_nx (i := .tableswitch 64 0 2 #[25, 27, 48]) rfl ?_
  simp only [am_s, if_pos hn]
  rfl
theorem s_33_44 (d L n : Nat) (scr : Nat → Int32) (call : Nat → List Value → am_H → Option am_X) (lv : am_L) (st : List Value) (h : am_H) : am_f d scr L call 33 (n + 1) 44 lv st h = (match am_ld lv 2 with
    | some (.int x) => am_f d scr L call 33 n 45 lv (.int x :: st) h
    | _ => none) := k_li (i := .iload_n 2) rfl rfl rfl rfl
theorem s_33_45 (d L n : Nat) (scr : Nat → Int32) (call : Nat → List Value → am_H → Option am_X) (lv : am_L) (h : am_H) (x : Int32) : am_f d scr L call 33 (n + 1) 45 lv [.int x] h = some (some (.int x), h, 0, 0) := k_ir rfl rfl
theorem s_33_46 (d L n : Nat) (scr : Nat → Int32) (call : Nat → List Value → am_H → Option am_X) (lv : am_L) (st : List Value) (h : am_H) : am_f d scr L call 33 (n + 1) 46 lv st h = (match am_ld lv 2 with
    | some (.int x) => am_f d scr L call 33 n 47 lv (.int x :: st) h
    | _ => none) := k_li (i := .iload_n 2) rfl rfl rfl rfl
theorem s_33_47 (d L n : Nat) (scr : Nat → Int32) (call : Nat → List Value → am_H → Option am_X) (lv : am_L) (st : List Value) (h : am_H) (x : Int32) : am_f d scr L call 33 (n + 1) 47 lv (.int x :: st) h = if x = 0 then am_f d scr L call 33 n 55 lv st h else am_f d scr L call 33 n 50 lv st h := k_if_eq (o := 8) rfl ⟨by decide, rfl⟩
theorem s_33_50 (d L n : Nat) (scr : Nat → Int32) (call : Nat → List Value → am_H → Option am_X) (lv : am_L) (st : List Value) (h : am_H) : am_f d scr L call 33 (n + 1) 50 lv st h = (match am_ld lv 2 with
    | some (.int x) => am_f d scr L call 33 n 51 lv (.int x :: st) h
    | _ => none) := k_li (i := .iload_n 2) rfl rfl rfl rfl
theorem s_33_51 (d L n : Nat) (scr : Nat → Int32) (call : Nat → List Value → am_H → Option am_X) (lv : am_L) (st : List Value) (h : am_H) : am_f d scr L call 33 (n + 1) 51 lv st h = am_f d scr L call 33 n 52 lv (.int 1 :: st) h := k_nx (i := .iconst 1) rfl rfl
theorem s_33_52 (d L n : Nat) (scr : Nat → Int32) (call : Nat → List Value → am_H → Option am_X) (lv : am_L) (st : List Value) (h : am_H) (x y : Int32) : am_f d scr L call 33 (n + 1) 52 lv (.int y :: .int x :: st) h = if ¬ x = y then am_f d scr L call 33 n 65 lv st h else am_f d scr L call 33 n 55 lv st h := k_ic_ne (o := 13) rfl ⟨by decide, rfl⟩
theorem s_33_55 (d L n : Nat) (scr : Nat → Int32) (call : Nat → List Value → am_H → Option am_X) (lv : am_L) (st : List Value) (h : am_H) : am_f d scr L call 33 (n + 1) 55 lv st h = (match am_ld lv 0 with
    | some (.ref x) => am_f d scr L call 33 n 56 lv (.ref x :: st) h
    | _ => none) := k_la (i := .aload_n 0) rfl rfl rfl rfl
theorem s_33_56 (d L n : Nat) (scr : Nat → Int32) (call : Nat → List Value → am_H → Option am_X) (lv : am_L) (st : List Value) (h : am_H) (a : Nat) : am_f d scr L call 33 (n + 1) 56 lv (.ref a :: st) h = (match am_get h a 3 17 with
    | some v => am_f d scr L call 33 n 59 lv (v :: st) h
    | none => none) := k_gf (k := 121) rfl rfl
theorem s_33_59 (d L n : Nat) (scr : Nat → Int32) (call : Nat → List Value → am_H → Option am_X) (lv : am_L) (h : am_H) (a0 : Int64)  : am_f d scr L call 33 (n + 1) 59 lv (.long a0 :: []) h = (match call 87 [.long a0] h with
    | some (v, h', dk, dn) => am_add dk dn (am_f d scr L call 33 n 62 lv (v.toList ++ []) h')
    | none => none) := k_iv1 (k := 131) (as := [.long a0]) (r := []) rfl rfl rfl rfl (Nat.le_of_ble_eq_true rfl)
theorem s_33_62 (d L n : Nat) (scr : Nat → Int32) (call : Nat → List Value → am_H → Option am_X) (lv : am_L) (st : List Value) (h : am_H) : am_f d scr L call 33 (n + 1) 62 lv st h = am_f d scr L call 33 n 66 lv st h := k_nx (i := .goto 4) rfl rfl
theorem s_33_65 (d L n : Nat) (scr : Nat → Int32) (call : Nat → List Value → am_H → Option am_X) (lv : am_L) (st : List Value) (h : am_H) : am_f d scr L call 33 (n + 1) 65 lv st h = am_f d scr L call 33 n 66 lv (.int 0 :: st) h := k_nx (i := .iconst 0) rfl rfl
theorem s_33_66 (d L n : Nat) (scr : Nat → Int32) (call : Nat → List Value → am_H → Option am_X) (lv : am_L) (h : am_H) (x : Int32) : am_f d scr L call 33 (n + 1) 66 lv [.int x] h = some (some (.int x), h, 0, 0) := k_ir rfl rfl
theorem s_33_67 (d L n : Nat) (scr : Nat → Int32) (call : Nat → List Value → am_H → Option am_X) (lv : am_L) (st : List Value) (h : am_H) : am_f d scr L call 33 (n + 1) 67 lv st h = (match am_ld lv 0 with
    | some (.ref x) => am_f d scr L call 33 n 68 lv (.ref x :: st) h
    | _ => none) := k_la (i := .aload_n 0) rfl rfl rfl rfl
theorem s_33_68 (d L n : Nat) (scr : Nat → Int32) (call : Nat → List Value → am_H → Option am_X) (lv : am_L) (st : List Value) (h : am_H) (a : Nat) : am_f d scr L call 33 (n + 1) 68 lv (.ref a :: st) h = (match am_get h a 3 17 with
    | some v => am_f d scr L call 33 n 71 lv (v :: st) h
    | none => none) := k_gf (k := 121) rfl rfl
theorem s_33_71 (d L n : Nat) (scr : Nat → Int32) (call : Nat → List Value → am_H → Option am_X) (lv : am_L) (h : am_H) (a0 : Int64)  : am_f d scr L call 33 (n + 1) 71 lv (.long a0 :: []) h = (match call 89 [.long a0] h with
    | some (v, h', dk, dn) => am_add dk dn (am_f d scr L call 33 n 74 lv (v.toList ++ []) h')
    | none => none) := k_iv1 (k := 134) (as := [.long a0]) (r := []) rfl rfl rfl rfl (Nat.le_of_ble_eq_true rfl)
theorem s_33_74 (d L n : Nat) (scr : Nat → Int32) (call : Nat → List Value → am_H → Option am_X) (lv : am_L) (st : List Value) (h : am_H) (x : Int32) : am_f d scr L call 33 (n + 1) 74 lv (.int x :: st) h = if x = 0 then am_f d scr L call 33 n 81 lv st h else am_f d scr L call 33 n 77 lv st h := k_if_eq (o := 7) rfl ⟨by decide, rfl⟩
theorem s_33_77 (d L n : Nat) (scr : Nat → Int32) (call : Nat → List Value → am_H → Option am_X) (lv : am_L) (st : List Value) (h : am_H) : am_f d scr L call 33 (n + 1) 77 lv st h = am_f d scr L call 33 n 78 lv (.int 1 :: st) h := k_nx (i := .iconst 1) rfl rfl
theorem s_33_78 (d L n : Nat) (scr : Nat → Int32) (call : Nat → List Value → am_H → Option am_X) (lv : am_L) (st : List Value) (h : am_H) : am_f d scr L call 33 (n + 1) 78 lv st h = am_f d scr L call 33 n 82 lv st h := k_nx (i := .goto 4) rfl rfl
theorem s_33_81 (d L n : Nat) (scr : Nat → Int32) (call : Nat → List Value → am_H → Option am_X) (lv : am_L) (st : List Value) (h : am_H) : am_f d scr L call 33 (n + 1) 81 lv st h = am_f d scr L call 33 n 82 lv (.int 0 :: st) h := k_nx (i := .iconst 0) rfl rfl
theorem s_33_82 (d L n : Nat) (scr : Nat → Int32) (call : Nat → List Value → am_H → Option am_X) (lv : am_L) (h : am_H) (x : Int32) : am_f d scr L call 33 (n + 1) 82 lv [.int x] h = some (some (.int x), h, 0, 0) := k_ir rfl rfl
theorem s_33_83 (d L n : Nat) (scr : Nat → Int32) (call : Nat → List Value → am_H → Option am_X) (lv : am_L) (st : List Value) (h : am_H) : am_f d scr L call 33 (n + 1) 83 lv st h = am_f d scr L call 33 n 84 lv (.int (-1) :: st) h := k_nx (i := .iconst (-1)) rfl rfl
theorem s_33_84 (d L n : Nat) (scr : Nat → Int32) (call : Nat → List Value → am_H → Option am_X) (lv : am_L) (h : am_H) (x : Int32) : am_f d scr L call 33 (n + 1) 84 lv [.int x] h = some (some (.int x), h, 0, 0) := k_ir rfl rfl
-- 34: BlameDesk$Machine.enter()V
theorem s_34_0 (d L n : Nat) (scr : Nat → Int32) (call : Nat → List Value → am_H → Option am_X) (lv : am_L) (st : List Value) (h : am_H) : am_f d scr L call 34 (n + 1) 0 lv st h = (match am_ld lv 0 with
    | some (.ref x) => am_f d scr L call 34 n 1 lv (.ref x :: st) h
    | _ => none) := k_la (i := .aload_n 0) rfl rfl rfl rfl
theorem s_34_1 (d L n : Nat) (scr : Nat → Int32) (call : Nat → List Value → am_H → Option am_X) (lv : am_L) (st : List Value) (h : am_H) (a : Nat) : am_f d scr L call 34 (n + 1) 1 lv (.ref a :: st) h = (match am_get h a 3 0 with
    | some v => am_f d scr L call 34 n 4 lv (v :: st) h
    | none => none) := k_gf (k := 13) rfl rfl
theorem s_34_4 (d L n : Nat) (scr : Nat → Int32) (call : Nat → List Value → am_H → Option am_X) (lv : am_L) (st : List Value) (h : am_H) (a : Nat) : am_f d scr L call 34 (n + 1) 4 lv (.ref a :: st) h = (match am_get h a 5 1 with
    | some v => am_f d scr L call 34 n 7 lv (v :: st) h
    | none => none) := k_gf (k := 138) rfl rfl
theorem s_34_7 (d L n : Nat) (scr : Nat → Int32) (call : Nat → List Value → am_H → Option am_X) (lv : am_L) (st : List Value) (h : am_H) : am_f d scr L call 34 (n + 1) 7 lv st h = (match am_ld lv 0 with
    | some (.ref x) => am_f d scr L call 34 n 8 lv (.ref x :: st) h
    | _ => none) := k_la (i := .aload_n 0) rfl rfl rfl rfl
theorem s_34_8 (d L n : Nat) (scr : Nat → Int32) (call : Nat → List Value → am_H → Option am_X) (lv : am_L) (st : List Value) (h : am_H) (a : Nat) : am_f d scr L call 34 (n + 1) 8 lv (.ref a :: st) h = (match am_get h a 3 14 with
    | some v => am_f d scr L call 34 n 11 lv (v :: st) h
    | none => none) := k_gf (k := 90) rfl rfl
theorem s_34_11 (d L n : Nat) (scr : Nat → Int32) (call : Nat → List Value → am_H → Option am_X) (lv : am_L) (st : List Value) (h : am_H) (a : Nat) (i : Int32) : am_f d scr L call 34 (n + 1) 11 lv (.int i :: .ref a :: st) h = (match am_ild scr L h a i with
    | some x => am_f d scr L call 34 n 12 lv (.int x :: st) h
    | none => none) := k_ia rfl
set_option maxRecDepth 100000 in
theorem s_34_12 (d L n : Nat) (scr : Nat → Int32) (call : Nat → List Value → am_H → Option am_X) (lv : am_L) (st : List Value) (h : am_H) (x : Int32) : am_f d scr L call 34 (n + 1) 12 lv (.int x :: st) h = if x = 0 then am_f d scr L call 34 n 44 lv st h else if x = 1 then am_f d scr L call 34 n 67 lv st h else if x = 2 then am_f d scr L call 34 n 90 lv st h else if x = 3 then am_f d scr L call 34 n 113 lv st h else am_f d scr L call 34 n 136 lv st h := by
  by_cases h0 : x = 0
  · subst h0
    exact k_nx (i := .tableswitch 124 0 3 #[32, 55, 78, 101]) rfl rfl
  by_cases h1 : x = 1
  · subst h1
    exact k_nx (i := .tableswitch 124 0 3 #[32, 55, 78, 101]) rfl rfl
  by_cases h2 : x = 2
  · subst h2
    exact k_nx (i := .tableswitch 124 0 3 #[32, 55, 78, 101]) rfl rfl
  by_cases h3 : x = 3
  · subst h3
    exact k_nx (i := .tableswitch 124 0 3 #[32, 55, 78, 101]) rfl rfl
  have hn : x.toInt < 0 ∨ 3 < x.toInt := by
    have hh : ∀ k : Int32, ¬ x = k → ¬ x.toInt = k.toInt := fun k hk z => hk (Int32.toInt_inj.mp z)
    have g0 : ¬ x.toInt = 0 := hh 0 h0
    have g1 : ¬ x.toInt = 1 := hh 1 h1
    have g2 : ¬ x.toInt = 2 := hh 2 h2
    have g3 : ¬ x.toInt = 3 := hh 3 h3
    omega
  rw [if_neg h0, if_neg h1, if_neg h2, if_neg h3]
  refine k_nx (i := .tableswitch 124 0 3 #[32, 55, 78, 101]) rfl ?_
  simp only [am_s, if_pos hn]
  rfl
theorem s_34_44 (d L n : Nat) (scr : Nat → Int32) (call : Nat → List Value → am_H → Option am_X) (lv : am_L) (st : List Value) (h : am_H) : am_f d scr L call 34 (n + 1) 44 lv st h = (match am_ld lv 0 with
    | some (.ref x) => am_f d scr L call 34 n 45 lv (.ref x :: st) h
    | _ => none) := k_la (i := .aload_n 0) rfl rfl rfl rfl
theorem s_34_45 (d L n : Nat) (scr : Nat → Int32) (call : Nat → List Value → am_H → Option am_X) (lv : am_L) (st : List Value) (h : am_H) : am_f d scr L call 34 (n + 1) 45 lv st h = am_f d scr L call 34 n 46 lv (.int 0 :: st) h := k_nx (i := .iconst 0) rfl rfl
theorem s_34_46 (d L n : Nat) (scr : Nat → Int32) (call : Nat → List Value → am_H → Option am_X) (lv : am_L) (st : List Value) (h : am_H) : am_f d scr L call 34 (n + 1) 46 lv st h = (match am_ld lv 0 with
    | some (.ref x) => am_f d scr L call 34 n 47 lv (.ref x :: st) h
    | _ => none) := k_la (i := .aload_n 0) rfl rfl rfl rfl
theorem s_34_47 (d L n : Nat) (scr : Nat → Int32) (call : Nat → List Value → am_H → Option am_X) (lv : am_L) (st : List Value) (h : am_H) (a : Nat) : am_f d scr L call 34 (n + 1) 47 lv (.ref a :: st) h = (match am_get h a 3 0 with
    | some v => am_f d scr L call 34 n 50 lv (v :: st) h
    | none => none) := k_gf (k := 13) rfl rfl
theorem s_34_50 (d L n : Nat) (scr : Nat → Int32) (call : Nat → List Value → am_H → Option am_X) (lv : am_L) (st : List Value) (h : am_H) (a : Nat) : am_f d scr L call 34 (n + 1) 50 lv (.ref a :: st) h = (match am_get h a 5 6 with
    | some v => am_f d scr L call 34 n 53 lv (v :: st) h
    | none => none) := k_gf (k := 141) rfl rfl
theorem s_34_53 (d L n : Nat) (scr : Nat → Int32) (call : Nat → List Value → am_H → Option am_X) (lv : am_L) (st : List Value) (h : am_H) : am_f d scr L call 34 (n + 1) 53 lv st h = (match am_ld lv 0 with
    | some (.ref x) => am_f d scr L call 34 n 54 lv (.ref x :: st) h
    | _ => none) := k_la (i := .aload_n 0) rfl rfl rfl rfl
theorem s_34_54 (d L n : Nat) (scr : Nat → Int32) (call : Nat → List Value → am_H → Option am_X) (lv : am_L) (st : List Value) (h : am_H) (a : Nat) : am_f d scr L call 34 (n + 1) 54 lv (.ref a :: st) h = (match am_get h a 3 14 with
    | some v => am_f d scr L call 34 n 57 lv (v :: st) h
    | none => none) := k_gf (k := 90) rfl rfl
theorem s_34_57 (d L n : Nat) (scr : Nat → Int32) (call : Nat → List Value → am_H → Option am_X) (lv : am_L) (st : List Value) (h : am_H) (a : Nat) (i : Int32) : am_f d scr L call 34 (n + 1) 57 lv (.int i :: .ref a :: st) h = (match am_ild scr L h a i with
    | some x => am_f d scr L call 34 n 58 lv (.int x :: st) h
    | none => none) := k_ia rfl
theorem s_34_58 (d L n : Nat) (scr : Nat → Int32) (call : Nat → List Value → am_H → Option am_X) (lv : am_L) (h : am_H) (a0 : Int32) (a1 : Int32) (r0 : Nat) : am_f d scr L call 34 (n + 1) 58 lv (.int a1 :: .int a0 :: .ref r0 :: []) h = (match call 84 [.int a0, .int a1] h with
    | some (v, h', dk, dn) => am_add dk dn (am_f d scr L call 34 n 61 lv (v.toList ++ [.ref r0]) h')
    | none => none) := k_iv1 (k := 144) (as := [.int a0, .int a1]) (r := [.ref r0]) rfl rfl rfl rfl (Nat.le_of_ble_eq_true rfl)
theorem s_34_61 (d L n : Nat) (scr : Nat → Int32) (call : Nat → List Value → am_H → Option am_X) (lv : am_L) (h : am_H) (o : Nat) (a0 : Int64)  : am_f d scr L call 34 (n + 1) 61 lv (.long a0 :: .ref o :: []) h = if am_at h o 3 = true then (match call 35 [.ref o, .long a0] h with
    | some (v, h', dk, dn) => am_add dk dn (am_f d scr L call 34 n 64 lv (v.toList ++ []) h')
    | none => none) else none := k_iv0 (k := 148) (as := [.long a0]) (r := []) rfl rfl rfl rfl (Nat.le_of_ble_eq_true rfl)
theorem s_34_64 (d L n : Nat) (scr : Nat → Int32) (call : Nat → List Value → am_H → Option am_X) (lv : am_L) (st : List Value) (h : am_H) : am_f d scr L call 34 (n + 1) 64 lv st h = am_f d scr L call 34 n 140 lv st h := k_nx (i := .goto 76) rfl rfl
theorem s_34_67 (d L n : Nat) (scr : Nat → Int32) (call : Nat → List Value → am_H → Option am_X) (lv : am_L) (st : List Value) (h : am_H) : am_f d scr L call 34 (n + 1) 67 lv st h = (match am_ld lv 0 with
    | some (.ref x) => am_f d scr L call 34 n 68 lv (.ref x :: st) h
    | _ => none) := k_la (i := .aload_n 0) rfl rfl rfl rfl
theorem s_34_68 (d L n : Nat) (scr : Nat → Int32) (call : Nat → List Value → am_H → Option am_X) (lv : am_L) (st : List Value) (h : am_H) : am_f d scr L call 34 (n + 1) 68 lv st h = am_f d scr L call 34 n 69 lv (.int 1 :: st) h := k_nx (i := .iconst 1) rfl rfl
theorem s_34_69 (d L n : Nat) (scr : Nat → Int32) (call : Nat → List Value → am_H → Option am_X) (lv : am_L) (st : List Value) (h : am_H) : am_f d scr L call 34 (n + 1) 69 lv st h = (match am_ld lv 0 with
    | some (.ref x) => am_f d scr L call 34 n 70 lv (.ref x :: st) h
    | _ => none) := k_la (i := .aload_n 0) rfl rfl rfl rfl
theorem s_34_70 (d L n : Nat) (scr : Nat → Int32) (call : Nat → List Value → am_H → Option am_X) (lv : am_L) (st : List Value) (h : am_H) (a : Nat) : am_f d scr L call 34 (n + 1) 70 lv (.ref a :: st) h = (match am_get h a 3 0 with
    | some v => am_f d scr L call 34 n 73 lv (v :: st) h
    | none => none) := k_gf (k := 13) rfl rfl
theorem s_34_73 (d L n : Nat) (scr : Nat → Int32) (call : Nat → List Value → am_H → Option am_X) (lv : am_L) (st : List Value) (h : am_H) (a : Nat) : am_f d scr L call 34 (n + 1) 73 lv (.ref a :: st) h = (match am_get h a 5 6 with
    | some v => am_f d scr L call 34 n 76 lv (v :: st) h
    | none => none) := k_gf (k := 141) rfl rfl
theorem s_34_76 (d L n : Nat) (scr : Nat → Int32) (call : Nat → List Value → am_H → Option am_X) (lv : am_L) (st : List Value) (h : am_H) : am_f d scr L call 34 (n + 1) 76 lv st h = (match am_ld lv 0 with
    | some (.ref x) => am_f d scr L call 34 n 77 lv (.ref x :: st) h
    | _ => none) := k_la (i := .aload_n 0) rfl rfl rfl rfl
theorem s_34_77 (d L n : Nat) (scr : Nat → Int32) (call : Nat → List Value → am_H → Option am_X) (lv : am_L) (st : List Value) (h : am_H) (a : Nat) : am_f d scr L call 34 (n + 1) 77 lv (.ref a :: st) h = (match am_get h a 3 14 with
    | some v => am_f d scr L call 34 n 80 lv (v :: st) h
    | none => none) := k_gf (k := 90) rfl rfl
theorem s_34_80 (d L n : Nat) (scr : Nat → Int32) (call : Nat → List Value → am_H → Option am_X) (lv : am_L) (st : List Value) (h : am_H) (a : Nat) (i : Int32) : am_f d scr L call 34 (n + 1) 80 lv (.int i :: .ref a :: st) h = (match am_ild scr L h a i with
    | some x => am_f d scr L call 34 n 81 lv (.int x :: st) h
    | none => none) := k_ia rfl
theorem s_34_81 (d L n : Nat) (scr : Nat → Int32) (call : Nat → List Value → am_H → Option am_X) (lv : am_L) (h : am_H) (a0 : Int32) (a1 : Int32) (r0 : Nat) : am_f d scr L call 34 (n + 1) 81 lv (.int a1 :: .int a0 :: .ref r0 :: []) h = (match call 84 [.int a0, .int a1] h with
    | some (v, h', dk, dn) => am_add dk dn (am_f d scr L call 34 n 84 lv (v.toList ++ [.ref r0]) h')
    | none => none) := k_iv1 (k := 144) (as := [.int a0, .int a1]) (r := [.ref r0]) rfl rfl rfl rfl (Nat.le_of_ble_eq_true rfl)
theorem s_34_84 (d L n : Nat) (scr : Nat → Int32) (call : Nat → List Value → am_H → Option am_X) (lv : am_L) (h : am_H) (o : Nat) (a0 : Int64)  : am_f d scr L call 34 (n + 1) 84 lv (.long a0 :: .ref o :: []) h = if am_at h o 3 = true then (match call 35 [.ref o, .long a0] h with
    | some (v, h', dk, dn) => am_add dk dn (am_f d scr L call 34 n 87 lv (v.toList ++ []) h')
    | none => none) else none := k_iv0 (k := 148) (as := [.long a0]) (r := []) rfl rfl rfl rfl (Nat.le_of_ble_eq_true rfl)
theorem s_34_87 (d L n : Nat) (scr : Nat → Int32) (call : Nat → List Value → am_H → Option am_X) (lv : am_L) (st : List Value) (h : am_H) : am_f d scr L call 34 (n + 1) 87 lv st h = am_f d scr L call 34 n 140 lv st h := k_nx (i := .goto 53) rfl rfl
theorem s_34_90 (d L n : Nat) (scr : Nat → Int32) (call : Nat → List Value → am_H → Option am_X) (lv : am_L) (st : List Value) (h : am_H) : am_f d scr L call 34 (n + 1) 90 lv st h = (match am_ld lv 0 with
    | some (.ref x) => am_f d scr L call 34 n 91 lv (.ref x :: st) h
    | _ => none) := k_la (i := .aload_n 0) rfl rfl rfl rfl
theorem s_34_91 (d L n : Nat) (scr : Nat → Int32) (call : Nat → List Value → am_H → Option am_X) (lv : am_L) (st : List Value) (h : am_H) : am_f d scr L call 34 (n + 1) 91 lv st h = (match am_ld lv 0 with
    | some (.ref x) => am_f d scr L call 34 n 92 lv (.ref x :: st) h
    | _ => none) := k_la (i := .aload_n 0) rfl rfl rfl rfl
theorem s_34_92 (d L n : Nat) (scr : Nat → Int32) (call : Nat → List Value → am_H → Option am_X) (lv : am_L) (st : List Value) (h : am_H) : am_f d scr L call 34 (n + 1) 92 lv st h = (match am_ld lv 0 with
    | some (.ref x) => am_f d scr L call 34 n 93 lv (.ref x :: st) h
    | _ => none) := k_la (i := .aload_n 0) rfl rfl rfl rfl
theorem s_34_93 (d L n : Nat) (scr : Nat → Int32) (call : Nat → List Value → am_H → Option am_X) (lv : am_L) (st : List Value) (h : am_H) (a : Nat) : am_f d scr L call 34 (n + 1) 93 lv (.ref a :: st) h = (match am_get h a 3 0 with
    | some v => am_f d scr L call 34 n 96 lv (v :: st) h
    | none => none) := k_gf (k := 13) rfl rfl
theorem s_34_96 (d L n : Nat) (scr : Nat → Int32) (call : Nat → List Value → am_H → Option am_X) (lv : am_L) (st : List Value) (h : am_H) (a : Nat) : am_f d scr L call 34 (n + 1) 96 lv (.ref a :: st) h = (match am_get h a 5 8 with
    | some v => am_f d scr L call 34 n 99 lv (v :: st) h
    | none => none) := k_gf (k := 152) rfl rfl
theorem s_34_99 (d L n : Nat) (scr : Nat → Int32) (call : Nat → List Value → am_H → Option am_X) (lv : am_L) (st : List Value) (h : am_H) : am_f d scr L call 34 (n + 1) 99 lv st h = (match am_ld lv 0 with
    | some (.ref x) => am_f d scr L call 34 n 100 lv (.ref x :: st) h
    | _ => none) := k_la (i := .aload_n 0) rfl rfl rfl rfl
theorem s_34_100 (d L n : Nat) (scr : Nat → Int32) (call : Nat → List Value → am_H → Option am_X) (lv : am_L) (st : List Value) (h : am_H) (a : Nat) : am_f d scr L call 34 (n + 1) 100 lv (.ref a :: st) h = (match am_get h a 3 14 with
    | some v => am_f d scr L call 34 n 103 lv (v :: st) h
    | none => none) := k_gf (k := 90) rfl rfl
theorem s_34_103 (d L n : Nat) (scr : Nat → Int32) (call : Nat → List Value → am_H → Option am_X) (lv : am_L) (st : List Value) (h : am_H) (a : Nat) (i : Int32) : am_f d scr L call 34 (n + 1) 103 lv (.int i :: .ref a :: st) h = (match am_ild scr L h a i with
    | some x => am_f d scr L call 34 n 104 lv (.int x :: st) h
    | none => none) := k_ia rfl
theorem s_34_104 (d L n : Nat) (scr : Nat → Int32) (call : Nat → List Value → am_H → Option am_X) (lv : am_L) (h : am_H) (o : Nat) (a0 : Int32) (r0 : Nat) : am_f d scr L call 34 (n + 1) 104 lv (.int a0 :: .ref o :: .ref r0 :: []) h = if am_at h o 3 = true then (match call 36 [.ref o, .int a0] h with
    | some (v, h', dk, dn) => am_add dk dn (am_f d scr L call 34 n 107 lv (v.toList ++ [.ref r0]) h')
    | none => none) else none := k_iv0 (k := 155) (as := [.int a0]) (r := [.ref r0]) rfl rfl rfl rfl (Nat.le_of_ble_eq_true rfl)
theorem s_34_107 (d L n : Nat) (scr : Nat → Int32) (call : Nat → List Value → am_H → Option am_X) (lv : am_L) (h : am_H) (o : Nat) (a0 : Int64)  : am_f d scr L call 34 (n + 1) 107 lv (.long a0 :: .ref o :: []) h = if am_at h o 3 = true then (match call 35 [.ref o, .long a0] h with
    | some (v, h', dk, dn) => am_add dk dn (am_f d scr L call 34 n 110 lv (v.toList ++ []) h')
    | none => none) else none := k_iv0 (k := 148) (as := [.long a0]) (r := []) rfl rfl rfl rfl (Nat.le_of_ble_eq_true rfl)
theorem s_34_110 (d L n : Nat) (scr : Nat → Int32) (call : Nat → List Value → am_H → Option am_X) (lv : am_L) (st : List Value) (h : am_H) : am_f d scr L call 34 (n + 1) 110 lv st h = am_f d scr L call 34 n 140 lv st h := k_nx (i := .goto 30) rfl rfl
theorem s_34_113 (d L n : Nat) (scr : Nat → Int32) (call : Nat → List Value → am_H → Option am_X) (lv : am_L) (st : List Value) (h : am_H) : am_f d scr L call 34 (n + 1) 113 lv st h = (match am_ld lv 0 with
    | some (.ref x) => am_f d scr L call 34 n 114 lv (.ref x :: st) h
    | _ => none) := k_la (i := .aload_n 0) rfl rfl rfl rfl
theorem s_34_114 (d L n : Nat) (scr : Nat → Int32) (call : Nat → List Value → am_H → Option am_X) (lv : am_L) (st : List Value) (h : am_H) : am_f d scr L call 34 (n + 1) 114 lv st h = am_f d scr L call 34 n 115 lv (.int 2 :: st) h := k_nx (i := .iconst 2) rfl rfl
theorem s_34_115 (d L n : Nat) (scr : Nat → Int32) (call : Nat → List Value → am_H → Option am_X) (lv : am_L) (st : List Value) (h : am_H) : am_f d scr L call 34 (n + 1) 115 lv st h = (match am_ld lv 0 with
    | some (.ref x) => am_f d scr L call 34 n 116 lv (.ref x :: st) h
    | _ => none) := k_la (i := .aload_n 0) rfl rfl rfl rfl
theorem s_34_116 (d L n : Nat) (scr : Nat → Int32) (call : Nat → List Value → am_H → Option am_X) (lv : am_L) (st : List Value) (h : am_H) (a : Nat) : am_f d scr L call 34 (n + 1) 116 lv (.ref a :: st) h = (match am_get h a 3 14 with
    | some v => am_f d scr L call 34 n 119 lv (v :: st) h
    | none => none) := k_gf (k := 90) rfl rfl
theorem s_34_119 (d L n : Nat) (scr : Nat → Int32) (call : Nat → List Value → am_H → Option am_X) (lv : am_L) (st : List Value) (h : am_H) : am_f d scr L call 34 (n + 1) 119 lv st h = am_f d scr L call 34 n 121 lv (.int 41 :: st) h := k_nx (i := .bipush 41) rfl rfl
theorem s_34_121 (d L n : Nat) (scr : Nat → Int32) (call : Nat → List Value → am_H → Option am_X) (lv : am_L) (st : List Value) (h : am_H) (x y : Int32) : am_f d scr L call 34 (n + 1) 121 lv (.int y :: .int x :: st) h = am_f d scr L call 34 n 122 lv (.int (x * y) :: st) h := k_nx (i := .imul) rfl rfl
theorem s_34_122 (d L n : Nat) (scr : Nat → Int32) (call : Nat → List Value → am_H → Option am_X) (lv : am_L) (st : List Value) (h : am_H) : am_f d scr L call 34 (n + 1) 122 lv st h = (match am_ld lv 0 with
    | some (.ref x) => am_f d scr L call 34 n 123 lv (.ref x :: st) h
    | _ => none) := k_la (i := .aload_n 0) rfl rfl rfl rfl
theorem s_34_123 (d L n : Nat) (scr : Nat → Int32) (call : Nat → List Value → am_H → Option am_X) (lv : am_L) (st : List Value) (h : am_H) (a : Nat) : am_f d scr L call 34 (n + 1) 123 lv (.ref a :: st) h = (match am_get h a 3 15 with
    | some v => am_f d scr L call 34 n 126 lv (v :: st) h
    | none => none) := k_gf (k := 118) rfl rfl
theorem s_34_126 (d L n : Nat) (scr : Nat → Int32) (call : Nat → List Value → am_H → Option am_X) (lv : am_L) (st : List Value) (h : am_H) (x y : Int32) : am_f d scr L call 34 (n + 1) 126 lv (.int y :: .int x :: st) h = am_f d scr L call 34 n 127 lv (.int (x + y) :: st) h := k_nx (i := .iadd) rfl rfl
theorem s_34_127 (d L n : Nat) (scr : Nat → Int32) (call : Nat → List Value → am_H → Option am_X) (lv : am_L) (h : am_H) (a0 : Int32) (a1 : Int32) (r0 : Nat) : am_f d scr L call 34 (n + 1) 127 lv (.int a1 :: .int a0 :: .ref r0 :: []) h = (match call 84 [.int a0, .int a1] h with
    | some (v, h', dk, dn) => am_add dk dn (am_f d scr L call 34 n 130 lv (v.toList ++ [.ref r0]) h')
    | none => none) := k_iv1 (k := 144) (as := [.int a0, .int a1]) (r := [.ref r0]) rfl rfl rfl rfl (Nat.le_of_ble_eq_true rfl)
theorem s_34_130 (d L n : Nat) (scr : Nat → Int32) (call : Nat → List Value → am_H → Option am_X) (lv : am_L) (h : am_H) (o : Nat) (a0 : Int64)  : am_f d scr L call 34 (n + 1) 130 lv (.long a0 :: .ref o :: []) h = if am_at h o 3 = true then (match call 35 [.ref o, .long a0] h with
    | some (v, h', dk, dn) => am_add dk dn (am_f d scr L call 34 n 133 lv (v.toList ++ []) h')
    | none => none) else none := k_iv0 (k := 148) (as := [.long a0]) (r := []) rfl rfl rfl rfl (Nat.le_of_ble_eq_true rfl)
theorem s_34_133 (d L n : Nat) (scr : Nat → Int32) (call : Nat → List Value → am_H → Option am_X) (lv : am_L) (st : List Value) (h : am_H) : am_f d scr L call 34 (n + 1) 133 lv st h = am_f d scr L call 34 n 140 lv st h := k_nx (i := .goto 7) rfl rfl
theorem s_34_136 (d L n : Nat) (scr : Nat → Int32) (call : Nat → List Value → am_H → Option am_X) (lv : am_L) (st : List Value) (h : am_H) : am_f d scr L call 34 (n + 1) 136 lv st h = (match am_ld lv 0 with
    | some (.ref x) => am_f d scr L call 34 n 137 lv (.ref x :: st) h
    | _ => none) := k_la (i := .aload_n 0) rfl rfl rfl rfl
theorem s_34_137 (d L n : Nat) (scr : Nat → Int32) (call : Nat → List Value → am_H → Option am_X) (lv : am_L) (h : am_H) (o : Nat)   : am_f d scr L call 34 (n + 1) 137 lv (.ref o :: []) h = if am_at h o 3 = true then (match call 37 [.ref o] h with
    | some (v, h', dk, dn) => am_add dk dn (am_f d scr L call 34 n 140 lv (v.toList ++ []) h')
    | none => none) else none := k_iv0 (k := 159) (as := []) (r := []) rfl rfl rfl rfl (Nat.le_of_ble_eq_true rfl)
theorem s_34_140 (d L n : Nat) (scr : Nat → Int32) (call : Nat → List Value → am_H → Option am_X) (lv : am_L) (h : am_H) : am_f d scr L call 34 (n + 1) 140 lv [] h = some (none, h, 0, 0) := k_vr rfl rfl
-- 35: BlameDesk$Machine.give(J)V
theorem s_35_0 (d L n : Nat) (scr : Nat → Int32) (call : Nat → List Value → am_H → Option am_X) (lv : am_L) (st : List Value) (h : am_H) : am_f d scr L call 35 (n + 1) 0 lv st h = (match am_ld lv 0 with
    | some (.ref x) => am_f d scr L call 35 n 1 lv (.ref x :: st) h
    | _ => none) := k_la (i := .aload_n 0) rfl rfl rfl rfl
theorem s_35_1 (d L n : Nat) (scr : Nat → Int32) (call : Nat → List Value → am_H → Option am_X) (lv : am_L) (st : List Value) (h : am_H) : am_f d scr L call 35 (n + 1) 1 lv st h = (match am_ld lv 1 with
    | some (.long x) => am_f d scr L call 35 n 2 lv (.long x :: st) h
    | _ => none) := k_ll (i := .lload_n 1) rfl rfl rfl rfl
theorem s_35_2 (d L n : Nat) (scr : Nat → Int32) (call : Nat → List Value → am_H → Option am_X) (lv : am_L) (st : List Value) (h : am_H) (x : Int64) (a : Nat) : am_f d scr L call 35 (n + 1) 2 lv (.long x :: .ref a :: st) h = (match am_put h a 3 17 (.long x) with
    | some h' => am_f d scr L call 35 n 5 lv st h'
    | none => none) := k_pf (k := 121) rfl rfl rfl
theorem s_35_5 (d L n : Nat) (scr : Nat → Int32) (call : Nat → List Value → am_H → Option am_X) (lv : am_L) (st : List Value) (h : am_H) : am_f d scr L call 35 (n + 1) 5 lv st h = (match am_ld lv 0 with
    | some (.ref x) => am_f d scr L call 35 n 6 lv (.ref x :: st) h
    | _ => none) := k_la (i := .aload_n 0) rfl rfl rfl rfl
theorem s_35_6 (d L n : Nat) (scr : Nat → Int32) (call : Nat → List Value → am_H → Option am_X) (lv : am_L) (st : List Value) (h : am_H) : am_f d scr L call 35 (n + 1) 6 lv st h = am_f d scr L call 35 n 7 lv (.int 1 :: st) h := k_nx (i := .iconst 1) rfl rfl
theorem s_35_7 (d L n : Nat) (scr : Nat → Int32) (call : Nat → List Value → am_H → Option am_X) (lv : am_L) (st : List Value) (h : am_H) (x : Int32) (a : Nat) : am_f d scr L call 35 (n + 1) 7 lv (.int x :: .ref a :: st) h = if x = 0 ∨ x = 1 then (match am_put h a 3 16 (.int x) with
    | some h' => am_f d scr L call 35 n 10 lv st h'
    | none => none) else none := k_pz (k := 77) rfl rfl
theorem s_35_10 (d L n : Nat) (scr : Nat → Int32) (call : Nat → List Value → am_H → Option am_X) (lv : am_L) (h : am_H) : am_f d scr L call 35 (n + 1) 10 lv [] h = some (none, h, 0, 0) := k_vr rfl rfl
-- 36: BlameDesk$Machine.variable(I)J
theorem s_36_0 (d L n : Nat) (scr : Nat → Int32) (call : Nat → List Value → am_H → Option am_X) (lv : am_L) (st : List Value) (h : am_H) : am_f d scr L call 36 (n + 1) 0 lv st h = (match am_ld lv 0 with
    | some (.ref x) => am_f d scr L call 36 n 1 lv (.ref x :: st) h
    | _ => none) := k_la (i := .aload_n 0) rfl rfl rfl rfl
theorem s_36_1 (d L n : Nat) (scr : Nat → Int32) (call : Nat → List Value → am_H → Option am_X) (lv : am_L) (st : List Value) (h : am_H) (a : Nat) : am_f d scr L call 36 (n + 1) 1 lv (.ref a :: st) h = (match am_get h a 3 15 with
    | some v => am_f d scr L call 36 n 4 lv (v :: st) h
    | none => none) := k_gf (k := 118) rfl rfl
theorem s_36_4 (d L n : Nat) (scr : Nat → Int32) (call : Nat → List Value → am_H → Option am_X) (lv : am_L) (st : List Value) (h : am_H) (x : Int32) : am_f d scr L call 36 (n + 1) 4 lv (.int x :: st) h = am_f d scr L call 36 n 5 (am_st1 lv 2 (.int x)) st h := k_nx (i := .istore_n 2) rfl rfl
theorem s_36_5 (d L n : Nat) (scr : Nat → Int32) (call : Nat → List Value → am_H → Option am_X) (lv : am_L) (st : List Value) (h : am_H) : am_f d scr L call 36 (n + 1) 5 lv st h = am_f d scr L call 36 n 6 lv (.int 0 :: st) h := k_nx (i := .iconst 0) rfl rfl
theorem s_36_6 (d L n : Nat) (scr : Nat → Int32) (call : Nat → List Value → am_H → Option am_X) (lv : am_L) (st : List Value) (h : am_H) (x : Int32) : am_f d scr L call 36 (n + 1) 6 lv (.int x :: st) h = am_f d scr L call 36 n 7 (am_st1 lv 3 (.int x)) st h := k_nx (i := .istore_n 3) rfl rfl
theorem s_36_7 (d L n : Nat) (scr : Nat → Int32) (call : Nat → List Value → am_H → Option am_X) (lv : am_L) (st : List Value) (h : am_H) : am_f d scr L call 36 (n + 1) 7 lv st h = (match am_ld lv 3 with
    | some (.int x) => am_f d scr L call 36 n 8 lv (.int x :: st) h
    | _ => none) := k_li (i := .iload_n 3) rfl rfl rfl rfl
theorem s_36_8 (d L n : Nat) (scr : Nat → Int32) (call : Nat → List Value → am_H → Option am_X) (lv : am_L) (st : List Value) (h : am_H) : am_f d scr L call 36 (n + 1) 8 lv st h = (match am_ld lv 1 with
    | some (.int x) => am_f d scr L call 36 n 9 lv (.int x :: st) h
    | _ => none) := k_li (i := .iload_n 1) rfl rfl rfl rfl
theorem s_36_9 (d L n : Nat) (scr : Nat → Int32) (call : Nat → List Value → am_H → Option am_X) (lv : am_L) (st : List Value) (h : am_H) (x y : Int32) : am_f d scr L call 36 (n + 1) 9 lv (.int y :: .int x :: st) h = if y ≤ x then am_f d scr L call 36 n 25 lv st h else am_f d scr L call 36 n 12 lv st h := k_ic_ge (o := 16) rfl ⟨by decide, rfl⟩
theorem s_36_12 (d L n : Nat) (scr : Nat → Int32) (call : Nat → List Value → am_H → Option am_X) (lv : am_L) (st : List Value) (h : am_H) : am_f d scr L call 36 (n + 1) 12 lv st h = (match am_ld lv 0 with
    | some (.ref x) => am_f d scr L call 36 n 13 lv (.ref x :: st) h
    | _ => none) := k_la (i := .aload_n 0) rfl rfl rfl rfl
theorem s_36_13 (d L n : Nat) (scr : Nat → Int32) (call : Nat → List Value → am_H → Option am_X) (lv : am_L) (st : List Value) (h : am_H) (a : Nat) : am_f d scr L call 36 (n + 1) 13 lv (.ref a :: st) h = (match am_get h a 3 7 with
    | some v => am_f d scr L call 36 n 16 lv (v :: st) h
    | none => none) := k_gf (k := 50) rfl rfl
theorem s_36_16 (d L n : Nat) (scr : Nat → Int32) (call : Nat → List Value → am_H → Option am_X) (lv : am_L) (st : List Value) (h : am_H) : am_f d scr L call 36 (n + 1) 16 lv st h = (match am_ld lv 2 with
    | some (.int x) => am_f d scr L call 36 n 17 lv (.int x :: st) h
    | _ => none) := k_li (i := .iload_n 2) rfl rfl rfl rfl
theorem s_36_17 (d L n : Nat) (scr : Nat → Int32) (call : Nat → List Value → am_H → Option am_X) (lv : am_L) (st : List Value) (h : am_H) (a : Nat) (i : Int32) : am_f d scr L call 36 (n + 1) 17 lv (.int i :: .ref a :: st) h = (match am_ild scr L h a i with
    | some x => am_f d scr L call 36 n 18 lv (.int x :: st) h
    | none => none) := k_ia rfl
theorem s_36_18 (d L n : Nat) (scr : Nat → Int32) (call : Nat → List Value → am_H → Option am_X) (lv : am_L) (st : List Value) (h : am_H) (x : Int32) : am_f d scr L call 36 (n + 1) 18 lv (.int x :: st) h = am_f d scr L call 36 n 19 (am_st1 lv 2 (.int x)) st h := k_nx (i := .istore_n 2) rfl rfl
theorem s_36_19 (d L n : Nat) (scr : Nat → Int32) (call : Nat → List Value → am_H → Option am_X) (lv : am_L) (st : List Value) (h : am_H) : am_f d scr L call 36 (n + 1) 19 lv st h = (match am_ld lv 3 with
    | some (.int x) => am_f d scr L call 36 n 22 (am_st1 lv 3 (.int (x + 1))) st h
    | _ => none) := k_iinc (k := 3) (c := 1) rfl rfl (Nat.le_of_ble_eq_true rfl)
theorem s_36_22 (d L n : Nat) (scr : Nat → Int32) (call : Nat → List Value → am_H → Option am_X) (lv : am_L) (st : List Value) (h : am_H) : am_f d scr L call 36 (n + 1) 22 lv st h = am_f d scr L call 36 n 7 lv st h := k_nx (i := .goto (-15)) rfl rfl
theorem s_36_25 (d L n : Nat) (scr : Nat → Int32) (call : Nat → List Value → am_H → Option am_X) (lv : am_L) (st : List Value) (h : am_H) : am_f d scr L call 36 (n + 1) 25 lv st h = (match am_ld lv 0 with
    | some (.ref x) => am_f d scr L call 36 n 26 lv (.ref x :: st) h
    | _ => none) := k_la (i := .aload_n 0) rfl rfl rfl rfl
theorem s_36_26 (d L n : Nat) (scr : Nat → Int32) (call : Nat → List Value → am_H → Option am_X) (lv : am_L) (st : List Value) (h : am_H) (a : Nat) : am_f d scr L call 36 (n + 1) 26 lv (.ref a :: st) h = (match am_get h a 3 8 with
    | some v => am_f d scr L call 36 n 29 lv (v :: st) h
    | none => none) := k_gf (k := 53) rfl rfl
theorem s_36_29 (d L n : Nat) (scr : Nat → Int32) (call : Nat → List Value → am_H → Option am_X) (lv : am_L) (st : List Value) (h : am_H) : am_f d scr L call 36 (n + 1) 29 lv st h = (match am_ld lv 2 with
    | some (.int x) => am_f d scr L call 36 n 30 lv (.int x :: st) h
    | _ => none) := k_li (i := .iload_n 2) rfl rfl rfl rfl
theorem s_36_30 (d L n : Nat) (scr : Nat → Int32) (call : Nat → List Value → am_H → Option am_X) (lv : am_L) (st : List Value) (h : am_H) (a : Nat) (i : Int32) : am_f d scr L call 36 (n + 1) 30 lv (.int i :: .ref a :: st) h = (match am_lld h a i with
    | some x => am_f d scr L call 36 n 31 lv (.long x :: st) h
    | none => none) := k_ja rfl
theorem s_36_31 (d L n : Nat) (scr : Nat → Int32) (call : Nat → List Value → am_H → Option am_X) (lv : am_L) (h : am_H) (x : Int64) : am_f d scr L call 36 (n + 1) 31 lv [.long x] h = some (some (.long x), h, 0, 0) := k_jr rfl rfl
-- 37: BlameDesk$Machine.waitForFirst()V
theorem s_37_0 (d L n : Nat) (scr : Nat → Int32) (call : Nat → List Value → am_H → Option am_X) (lv : am_L) (st : List Value) (h : am_H) : am_f d scr L call 37 (n + 1) 0 lv st h = (match am_ld lv 0 with
    | some (.ref x) => am_f d scr L call 37 n 1 lv (.ref x :: st) h
    | _ => none) := k_la (i := .aload_n 0) rfl rfl rfl rfl
theorem s_37_1 (d L n : Nat) (scr : Nat → Int32) (call : Nat → List Value → am_H → Option am_X) (lv : am_L) (st : List Value) (h : am_H) (a : Nat) : am_f d scr L call 37 (n + 1) 1 lv (.ref a :: st) h = (match am_get h a 3 6 with
    | some v => am_f d scr L call 37 n 4 lv (v :: st) h
    | none => none) := k_gf (k := 84) rfl rfl
theorem s_37_4 (d L n : Nat) (scr : Nat → Int32) (call : Nat → List Value → am_H → Option am_X) (lv : am_L) (st : List Value) (h : am_H) : am_f d scr L call 37 (n + 1) 4 lv st h = am_f d scr L call 37 n 7 lv (.int 820 :: st) h := k_nx (i := .sipush 820) rfl rfl
theorem s_37_7 (d L n : Nat) (scr : Nat → Int32) (call : Nat → List Value → am_H → Option am_X) (lv : am_L) (st : List Value) (h : am_H) (x y : Int32) : am_f d scr L call 37 (n + 1) 7 lv (.int y :: .int x :: st) h = if x < y then am_f d scr L call 37 n 16 lv st h else am_f d scr L call 37 n 10 lv st h := k_ic_lt (o := 9) rfl ⟨by decide, rfl⟩
theorem s_37_10 (d L n : Nat) (scr : Nat → Int32) (call : Nat → List Value → am_H → Option am_X) (lv : am_L) (st : List Value) (h : am_H) : am_f d scr L call 37 (n + 1) 10 lv st h = (match am_ld lv 0 with
    | some (.ref x) => am_f d scr L call 37 n 11 lv (.ref x :: st) h
    | _ => none) := k_la (i := .aload_n 0) rfl rfl rfl rfl
theorem s_37_11 (d L n : Nat) (scr : Nat → Int32) (call : Nat → List Value → am_H → Option am_X) (lv : am_L) (st : List Value) (h : am_H) : am_f d scr L call 37 (n + 1) 11 lv st h = am_f d scr L call 37 n 12 lv (.int 4 :: st) h := k_nx (i := .iconst 4) rfl rfl
theorem s_37_12 (d L n : Nat) (scr : Nat → Int32) (call : Nat → List Value → am_H → Option am_X) (lv : am_L) (st : List Value) (h : am_H) (x : Int32) (a : Nat) : am_f d scr L call 37 (n + 1) 12 lv (.int x :: .ref a :: st) h = (match am_put h a 3 12 (.int x) with
    | some h' => am_f d scr L call 37 n 15 lv st h'
    | none => none) := k_pf (k := 59) rfl rfl rfl
theorem s_37_15 (d L n : Nat) (scr : Nat → Int32) (call : Nat → List Value → am_H → Option am_X) (lv : am_L) (h : am_H) : am_f d scr L call 37 (n + 1) 15 lv [] h = some (none, h, 0, 0) := k_vr rfl rfl
theorem s_37_16 (d L n : Nat) (scr : Nat → Int32) (call : Nat → List Value → am_H → Option am_X) (lv : am_L) (st : List Value) (h : am_H) : am_f d scr L call 37 (n + 1) 16 lv st h = (match am_ld lv 0 with
    | some (.ref x) => am_f d scr L call 37 n 17 lv (.ref x :: st) h
    | _ => none) := k_la (i := .aload_n 0) rfl rfl rfl rfl
theorem s_37_17 (d L n : Nat) (scr : Nat → Int32) (call : Nat → List Value → am_H → Option am_X) (lv : am_L) (st : List Value) (h : am_H) (a : Nat) : am_f d scr L call 37 (n + 1) 17 lv (.ref a :: st) h = (match am_get h a 3 3 with
    | some v => am_f d scr L call 37 n 20 lv (v :: st) h
    | none => none) := k_gf (k := 39) rfl rfl
theorem s_37_20 (d L n : Nat) (scr : Nat → Int32) (call : Nat → List Value → am_H → Option am_X) (lv : am_L) (st : List Value) (h : am_H) : am_f d scr L call 37 (n + 1) 20 lv st h = (match am_ld lv 0 with
    | some (.ref x) => am_f d scr L call 37 n 21 lv (.ref x :: st) h
    | _ => none) := k_la (i := .aload_n 0) rfl rfl rfl rfl
theorem s_37_21 (d L n : Nat) (scr : Nat → Int32) (call : Nat → List Value → am_H → Option am_X) (lv : am_L) (st : List Value) (h : am_H) (a : Nat) : am_f d scr L call 37 (n + 1) 21 lv (.ref a :: st) h = (match am_get h a 3 6 with
    | some v => am_f d scr L call 37 n 24 lv (v :: st) h
    | none => none) := k_gf (k := 84) rfl rfl
theorem s_37_24 (d L n : Nat) (scr : Nat → Int32) (call : Nat → List Value → am_H → Option am_X) (lv : am_L) (st : List Value) (h : am_H) : am_f d scr L call 37 (n + 1) 24 lv st h = (match am_ld lv 0 with
    | some (.ref x) => am_f d scr L call 37 n 25 lv (.ref x :: st) h
    | _ => none) := k_la (i := .aload_n 0) rfl rfl rfl rfl
theorem s_37_25 (d L n : Nat) (scr : Nat → Int32) (call : Nat → List Value → am_H → Option am_X) (lv : am_L) (st : List Value) (h : am_H) (a : Nat) : am_f d scr L call 37 (n + 1) 25 lv (.ref a :: st) h = (match am_get h a 3 14 with
    | some v => am_f d scr L call 37 n 28 lv (v :: st) h
    | none => none) := k_gf (k := 90) rfl rfl
theorem s_37_28 (d L n : Nat) (scr : Nat → Int32) (call : Nat → List Value → am_H → Option am_X) (lv : am_L) (st : List Value) (h : am_H) (a : Nat) (i : Int32) (x : Int32) : am_f d scr L call 37 (n + 1) 28 lv (.int x :: .int i :: .ref a :: st) h = (match am_ist h a i x with
    | some h' => am_f d scr L call 37 n 29 lv st h'
    | none => none) := k_is rfl
theorem s_37_29 (d L n : Nat) (scr : Nat → Int32) (call : Nat → List Value → am_H → Option am_X) (lv : am_L) (st : List Value) (h : am_H) : am_f d scr L call 37 (n + 1) 29 lv st h = (match am_ld lv 0 with
    | some (.ref x) => am_f d scr L call 37 n 30 lv (.ref x :: st) h
    | _ => none) := k_la (i := .aload_n 0) rfl rfl rfl rfl
theorem s_37_30 (d L n : Nat) (scr : Nat → Int32) (call : Nat → List Value → am_H → Option am_X) (lv : am_L) (st : List Value) (h : am_H) (a : Nat) : am_f d scr L call 37 (n + 1) 30 lv (.ref a :: st) h = (match am_get h a 3 4 with
    | some v => am_f d scr L call 37 n 33 lv (v :: st) h
    | none => none) := k_gf (k := 43) rfl rfl
theorem s_37_33 (d L n : Nat) (scr : Nat → Int32) (call : Nat → List Value → am_H → Option am_X) (lv : am_L) (st : List Value) (h : am_H) : am_f d scr L call 37 (n + 1) 33 lv st h = (match am_ld lv 0 with
    | some (.ref x) => am_f d scr L call 37 n 34 lv (.ref x :: st) h
    | _ => none) := k_la (i := .aload_n 0) rfl rfl rfl rfl
theorem s_37_34 (d L n : Nat) (scr : Nat → Int32) (call : Nat → List Value → am_H → Option am_X) (lv : am_L) (st : List Value) (h : am_H) (a : Nat) : am_f d scr L call 37 (n + 1) 34 lv (.ref a :: st) h = (match am_get h a 3 6 with
    | some v => am_f d scr L call 37 n 37 lv (v :: st) h
    | none => none) := k_gf (k := 84) rfl rfl
theorem s_37_37 (d L n : Nat) (scr : Nat → Int32) (call : Nat → List Value → am_H → Option am_X) (lv : am_L) (st : List Value) (h : am_H) : am_f d scr L call 37 (n + 1) 37 lv st h = (match am_ld lv 0 with
    | some (.ref x) => am_f d scr L call 37 n 38 lv (.ref x :: st) h
    | _ => none) := k_la (i := .aload_n 0) rfl rfl rfl rfl
theorem s_37_38 (d L n : Nat) (scr : Nat → Int32) (call : Nat → List Value → am_H → Option am_X) (lv : am_L) (st : List Value) (h : am_H) (a : Nat) : am_f d scr L call 37 (n + 1) 38 lv (.ref a :: st) h = (match am_get h a 3 15 with
    | some v => am_f d scr L call 37 n 41 lv (v :: st) h
    | none => none) := k_gf (k := 118) rfl rfl
theorem s_37_41 (d L n : Nat) (scr : Nat → Int32) (call : Nat → List Value → am_H → Option am_X) (lv : am_L) (st : List Value) (h : am_H) (a : Nat) (i : Int32) (x : Int32) : am_f d scr L call 37 (n + 1) 41 lv (.int x :: .int i :: .ref a :: st) h = (match am_ist h a i x with
    | some h' => am_f d scr L call 37 n 42 lv st h'
    | none => none) := k_is rfl
theorem s_37_42 (d L n : Nat) (scr : Nat → Int32) (call : Nat → List Value → am_H → Option am_X) (lv : am_L) (st : List Value) (h : am_H) : am_f d scr L call 37 (n + 1) 42 lv st h = (match am_ld lv 0 with
    | some (.ref x) => am_f d scr L call 37 n 43 lv (.ref x :: st) h
    | _ => none) := k_la (i := .aload_n 0) rfl rfl rfl rfl
theorem s_37_43 (d L n : Nat) (scr : Nat → Int32) (call : Nat → List Value → am_H → Option am_X) (lv : am_L) (st : List Value) (h : am_H) (x : Nat) : am_f d scr L call 37 (n + 1) 43 lv (.ref x :: st) h = am_f d scr L call 37 n 44 lv (.ref x :: .ref x :: st) h := k_nx (i := .dup) rfl rfl
theorem s_37_44 (d L n : Nat) (scr : Nat → Int32) (call : Nat → List Value → am_H → Option am_X) (lv : am_L) (st : List Value) (h : am_H) (a : Nat) : am_f d scr L call 37 (n + 1) 44 lv (.ref a :: st) h = (match am_get h a 3 6 with
    | some v => am_f d scr L call 37 n 47 lv (v :: st) h
    | none => none) := k_gf (k := 84) rfl rfl
theorem s_37_47 (d L n : Nat) (scr : Nat → Int32) (call : Nat → List Value → am_H → Option am_X) (lv : am_L) (st : List Value) (h : am_H) : am_f d scr L call 37 (n + 1) 47 lv st h = am_f d scr L call 37 n 48 lv (.int 1 :: st) h := k_nx (i := .iconst 1) rfl rfl
theorem s_37_48 (d L n : Nat) (scr : Nat → Int32) (call : Nat → List Value → am_H → Option am_X) (lv : am_L) (st : List Value) (h : am_H) (x y : Int32) : am_f d scr L call 37 (n + 1) 48 lv (.int y :: .int x :: st) h = am_f d scr L call 37 n 49 lv (.int (x + y) :: st) h := k_nx (i := .iadd) rfl rfl
theorem s_37_49 (d L n : Nat) (scr : Nat → Int32) (call : Nat → List Value → am_H → Option am_X) (lv : am_L) (st : List Value) (h : am_H) (x : Int32) (a : Nat) : am_f d scr L call 37 (n + 1) 49 lv (.int x :: .ref a :: st) h = (match am_put h a 3 6 (.int x) with
    | some h' => am_f d scr L call 37 n 52 lv st h'
    | none => none) := k_pf (k := 84) rfl rfl rfl
theorem s_37_52 (d L n : Nat) (scr : Nat → Int32) (call : Nat → List Value → am_H → Option am_X) (lv : am_L) (st : List Value) (h : am_H) : am_f d scr L call 37 (n + 1) 52 lv st h = (match am_ld lv 0 with
    | some (.ref x) => am_f d scr L call 37 n 53 lv (.ref x :: st) h
    | _ => none) := k_la (i := .aload_n 0) rfl rfl rfl rfl
theorem s_37_53 (d L n : Nat) (scr : Nat → Int32) (call : Nat → List Value → am_H → Option am_X) (lv : am_L) (st : List Value) (h : am_H) : am_f d scr L call 37 (n + 1) 53 lv st h = (match am_ld lv 0 with
    | some (.ref x) => am_f d scr L call 37 n 54 lv (.ref x :: st) h
    | _ => none) := k_la (i := .aload_n 0) rfl rfl rfl rfl
theorem s_37_54 (d L n : Nat) (scr : Nat → Int32) (call : Nat → List Value → am_H → Option am_X) (lv : am_L) (st : List Value) (h : am_H) (a : Nat) : am_f d scr L call 37 (n + 1) 54 lv (.ref a :: st) h = (match am_get h a 3 0 with
    | some v => am_f d scr L call 37 n 57 lv (v :: st) h
    | none => none) := k_gf (k := 13) rfl rfl
theorem s_37_57 (d L n : Nat) (scr : Nat → Int32) (call : Nat → List Value → am_H → Option am_X) (lv : am_L) (st : List Value) (h : am_H) (a : Nat) : am_f d scr L call 37 (n + 1) 57 lv (.ref a :: st) h = (match am_get h a 5 3 with
    | some v => am_f d scr L call 37 n 60 lv (v :: st) h
    | none => none) := k_gf (k := 100) rfl rfl
theorem s_37_60 (d L n : Nat) (scr : Nat → Int32) (call : Nat → List Value → am_H → Option am_X) (lv : am_L) (st : List Value) (h : am_H) : am_f d scr L call 37 (n + 1) 60 lv st h = (match am_ld lv 0 with
    | some (.ref x) => am_f d scr L call 37 n 61 lv (.ref x :: st) h
    | _ => none) := k_la (i := .aload_n 0) rfl rfl rfl rfl
theorem s_37_61 (d L n : Nat) (scr : Nat → Int32) (call : Nat → List Value → am_H → Option am_X) (lv : am_L) (st : List Value) (h : am_H) (a : Nat) : am_f d scr L call 37 (n + 1) 61 lv (.ref a :: st) h = (match am_get h a 3 14 with
    | some v => am_f d scr L call 37 n 64 lv (v :: st) h
    | none => none) := k_gf (k := 90) rfl rfl
theorem s_37_64 (d L n : Nat) (scr : Nat → Int32) (call : Nat → List Value → am_H → Option am_X) (lv : am_L) (st : List Value) (h : am_H) (a : Nat) (i : Int32) : am_f d scr L call 37 (n + 1) 64 lv (.int i :: .ref a :: st) h = (match am_ild scr L h a i with
    | some x => am_f d scr L call 37 n 65 lv (.int x :: st) h
    | none => none) := k_ia rfl
theorem s_37_65 (d L n : Nat) (scr : Nat → Int32) (call : Nat → List Value → am_H → Option am_X) (lv : am_L) (st : List Value) (h : am_H) (x : Int32) (a : Nat) : am_f d scr L call 37 (n + 1) 65 lv (.int x :: .ref a :: st) h = (match am_put h a 3 14 (.int x) with
    | some h' => am_f d scr L call 37 n 68 lv st h'
    | none => none) := k_pf (k := 90) rfl rfl rfl
theorem s_37_68 (d L n : Nat) (scr : Nat → Int32) (call : Nat → List Value → am_H → Option am_X) (lv : am_L) (h : am_H) : am_f d scr L call 37 (n + 1) 68 lv [] h = some (none, h, 0, 0) := k_vr rfl rfl
-- 38: BlameDesk$Machine.leaveBody()V
theorem s_38_0 (d L n : Nat) (scr : Nat → Int32) (call : Nat → List Value → am_H → Option am_X) (lv : am_L) (st : List Value) (h : am_H) : am_f d scr L call 38 (n + 1) 0 lv st h = (match am_ld lv 0 with
    | some (.ref x) => am_f d scr L call 38 n 1 lv (.ref x :: st) h
    | _ => none) := k_la (i := .aload_n 0) rfl rfl rfl rfl
theorem s_38_1 (d L n : Nat) (scr : Nat → Int32) (call : Nat → List Value → am_H → Option am_X) (lv : am_L) (st : List Value) (h : am_H) : am_f d scr L call 38 (n + 1) 1 lv st h = (match am_ld lv 0 with
    | some (.ref x) => am_f d scr L call 38 n 2 lv (.ref x :: st) h
    | _ => none) := k_la (i := .aload_n 0) rfl rfl rfl rfl
theorem s_38_2 (d L n : Nat) (scr : Nat → Int32) (call : Nat → List Value → am_H → Option am_X) (lv : am_L) (st : List Value) (h : am_H) (a : Nat) : am_f d scr L call 38 (n + 1) 2 lv (.ref a :: st) h = (match am_get h a 3 4 with
    | some v => am_f d scr L call 38 n 5 lv (v :: st) h
    | none => none) := k_gf (k := 43) rfl rfl
theorem s_38_5 (d L n : Nat) (scr : Nat → Int32) (call : Nat → List Value → am_H → Option am_X) (lv : am_L) (st : List Value) (h : am_H) : am_f d scr L call 38 (n + 1) 5 lv st h = (match am_ld lv 0 with
    | some (.ref x) => am_f d scr L call 38 n 6 lv (.ref x :: st) h
    | _ => none) := k_la (i := .aload_n 0) rfl rfl rfl rfl
theorem s_38_6 (d L n : Nat) (scr : Nat → Int32) (call : Nat → List Value → am_H → Option am_X) (lv : am_L) (st : List Value) (h : am_H) (a : Nat) : am_f d scr L call 38 (n + 1) 6 lv (.ref a :: st) h = (match am_get h a 3 6 with
    | some v => am_f d scr L call 38 n 9 lv (v :: st) h
    | none => none) := k_gf (k := 84) rfl rfl
theorem s_38_9 (d L n : Nat) (scr : Nat → Int32) (call : Nat → List Value → am_H → Option am_X) (lv : am_L) (st : List Value) (h : am_H) : am_f d scr L call 38 (n + 1) 9 lv st h = am_f d scr L call 38 n 10 lv (.int 1 :: st) h := k_nx (i := .iconst 1) rfl rfl
theorem s_38_10 (d L n : Nat) (scr : Nat → Int32) (call : Nat → List Value → am_H → Option am_X) (lv : am_L) (st : List Value) (h : am_H) (x y : Int32) : am_f d scr L call 38 (n + 1) 10 lv (.int y :: .int x :: st) h = am_f d scr L call 38 n 11 lv (.int (x - y) :: st) h := k_nx (i := .isub) rfl rfl
theorem s_38_11 (d L n : Nat) (scr : Nat → Int32) (call : Nat → List Value → am_H → Option am_X) (lv : am_L) (st : List Value) (h : am_H) (a : Nat) (i : Int32) : am_f d scr L call 38 (n + 1) 11 lv (.int i :: .ref a :: st) h = (match am_ild scr L h a i with
    | some x => am_f d scr L call 38 n 12 lv (.int x :: st) h
    | none => none) := k_ia rfl
theorem s_38_12 (d L n : Nat) (scr : Nat → Int32) (call : Nat → List Value → am_H → Option am_X) (lv : am_L) (st : List Value) (h : am_H) (x : Int32) (a : Nat) : am_f d scr L call 38 (n + 1) 12 lv (.int x :: .ref a :: st) h = (match am_put h a 3 15 (.int x) with
    | some h' => am_f d scr L call 38 n 15 lv st h'
    | none => none) := k_pf (k := 118) rfl rfl rfl
theorem s_38_15 (d L n : Nat) (scr : Nat → Int32) (call : Nat → List Value → am_H → Option am_X) (lv : am_L) (st : List Value) (h : am_H) : am_f d scr L call 38 (n + 1) 15 lv st h = (match am_ld lv 0 with
    | some (.ref x) => am_f d scr L call 38 n 16 lv (.ref x :: st) h
    | _ => none) := k_la (i := .aload_n 0) rfl rfl rfl rfl
theorem s_38_16 (d L n : Nat) (scr : Nat → Int32) (call : Nat → List Value → am_H → Option am_X) (lv : am_L) (st : List Value) (h : am_H) : am_f d scr L call 38 (n + 1) 16 lv st h = (match am_ld lv 0 with
    | some (.ref x) => am_f d scr L call 38 n 17 lv (.ref x :: st) h
    | _ => none) := k_la (i := .aload_n 0) rfl rfl rfl rfl
theorem s_38_17 (d L n : Nat) (scr : Nat → Int32) (call : Nat → List Value → am_H → Option am_X) (lv : am_L) (st : List Value) (h : am_H) (a : Nat) : am_f d scr L call 38 (n + 1) 17 lv (.ref a :: st) h = (match am_get h a 3 1 with
    | some v => am_f d scr L call 38 n 20 lv (v :: st) h
    | none => none) := k_gf (k := 28) rfl rfl
theorem s_38_20 (d L n : Nat) (scr : Nat → Int32) (call : Nat → List Value → am_H → Option am_X) (lv : am_L) (st : List Value) (h : am_H) : am_f d scr L call 38 (n + 1) 20 lv st h = (match am_ld lv 0 with
    | some (.ref x) => am_f d scr L call 38 n 21 lv (.ref x :: st) h
    | _ => none) := k_la (i := .aload_n 0) rfl rfl rfl rfl
theorem s_38_21 (d L n : Nat) (scr : Nat → Int32) (call : Nat → List Value → am_H → Option am_X) (lv : am_L) (st : List Value) (h : am_H) (a : Nat) : am_f d scr L call 38 (n + 1) 21 lv (.ref a :: st) h = (match am_get h a 3 5 with
    | some v => am_f d scr L call 38 n 24 lv (v :: st) h
    | none => none) := k_gf (k := 46) rfl rfl
theorem s_38_24 (d L n : Nat) (scr : Nat → Int32) (call : Nat → List Value → am_H → Option am_X) (lv : am_L) (st : List Value) (h : am_H) : am_f d scr L call 38 (n + 1) 24 lv st h = (match am_ld lv 0 with
    | some (.ref x) => am_f d scr L call 38 n 25 lv (.ref x :: st) h
    | _ => none) := k_la (i := .aload_n 0) rfl rfl rfl rfl
theorem s_38_25 (d L n : Nat) (scr : Nat → Int32) (call : Nat → List Value → am_H → Option am_X) (lv : am_L) (st : List Value) (h : am_H) (a : Nat) : am_f d scr L call 38 (n + 1) 25 lv (.ref a :: st) h = (match am_get h a 3 6 with
    | some v => am_f d scr L call 38 n 28 lv (v :: st) h
    | none => none) := k_gf (k := 84) rfl rfl
theorem s_38_28 (d L n : Nat) (scr : Nat → Int32) (call : Nat → List Value → am_H → Option am_X) (lv : am_L) (st : List Value) (h : am_H) : am_f d scr L call 38 (n + 1) 28 lv st h = am_f d scr L call 38 n 29 lv (.int 1 :: st) h := k_nx (i := .iconst 1) rfl rfl
theorem s_38_29 (d L n : Nat) (scr : Nat → Int32) (call : Nat → List Value → am_H → Option am_X) (lv : am_L) (st : List Value) (h : am_H) (x y : Int32) : am_f d scr L call 38 (n + 1) 29 lv (.int y :: .int x :: st) h = am_f d scr L call 38 n 30 lv (.int (x - y) :: st) h := k_nx (i := .isub) rfl rfl
theorem s_38_30 (d L n : Nat) (scr : Nat → Int32) (call : Nat → List Value → am_H → Option am_X) (lv : am_L) (st : List Value) (h : am_H) (a : Nat) (i : Int32) : am_f d scr L call 38 (n + 1) 30 lv (.int i :: .ref a :: st) h = (match am_lld h a i with
    | some x => am_f d scr L call 38 n 31 lv (.long x :: st) h
    | none => none) := k_ja rfl
theorem s_38_31 (d L n : Nat) (scr : Nat → Int32) (call : Nat → List Value → am_H → Option am_X) (lv : am_L) (st : List Value) (h : am_H) : am_f d scr L call 38 (n + 1) 31 lv st h = (match am_ld lv 0 with
    | some (.ref x) => am_f d scr L call 38 n 32 lv (.ref x :: st) h
    | _ => none) := k_la (i := .aload_n 0) rfl rfl rfl rfl
theorem s_38_32 (d L n : Nat) (scr : Nat → Int32) (call : Nat → List Value → am_H → Option am_X) (lv : am_L) (st : List Value) (h : am_H) (a : Nat) : am_f d scr L call 38 (n + 1) 32 lv (.ref a :: st) h = (match am_get h a 3 17 with
    | some v => am_f d scr L call 38 n 35 lv (v :: st) h
    | none => none) := k_gf (k := 121) rfl rfl
theorem s_38_35 (d L n : Nat) (scr : Nat → Int32) (call : Nat → List Value → am_H → Option am_X) (lv : am_L) (h : am_H) (o : Nat) (a0 : Int64) (a1 : Int64) (r0 : Nat) : am_f d scr L call 38 (n + 1) 35 lv (.long a1 :: .long a0 :: .ref o :: .ref r0 :: []) h = if am_at h o 1 = true then (match call 18 [.ref o, .long a0, .long a1] h with
    | some (v, h', dk, dn) => am_add dk dn (am_f d scr L call 38 n 38 lv (v.toList ++ [.ref r0]) h')
    | none => none) else none := k_iv0 (k := 162) (as := [.long a0, .long a1]) (r := [.ref r0]) rfl rfl rfl rfl (Nat.le_of_ble_eq_true rfl)
theorem s_38_38 (d L n : Nat) (scr : Nat → Int32) (call : Nat → List Value → am_H → Option am_X) (lv : am_L) (h : am_H) (o : Nat) (a0 : Int64)  : am_f d scr L call 38 (n + 1) 38 lv (.long a0 :: .ref o :: []) h = if am_at h o 3 = true then (match call 43 [.ref o, .long a0] h with
    | some (v, h', dk, dn) => am_add dk dn (am_f d scr L call 38 n 41 lv (v.toList ++ []) h')
    | none => none) else none := k_iv0 (k := 166) (as := [.long a0]) (r := []) rfl rfl rfl rfl (Nat.le_of_ble_eq_true rfl)
theorem s_38_41 (d L n : Nat) (scr : Nat → Int32) (call : Nat → List Value → am_H → Option am_X) (lv : am_L) (h : am_H) : am_f d scr L call 38 (n + 1) 41 lv [] h = some (none, h, 0, 0) := k_vr rfl rfl
-- 39: BlameDesk$Machine.castPart()Z
theorem s_39_0 (d L n : Nat) (scr : Nat → Int32) (call : Nat → List Value → am_H → Option am_X) (lv : am_L) (st : List Value) (h : am_H) : am_f d scr L call 39 (n + 1) 0 lv st h = (match am_ld lv 0 with
    | some (.ref x) => am_f d scr L call 39 n 1 lv (.ref x :: st) h
    | _ => none) := k_la (i := .aload_n 0) rfl rfl rfl rfl
theorem s_39_1 (d L n : Nat) (scr : Nat → Int32) (call : Nat → List Value → am_H → Option am_X) (lv : am_L) (st : List Value) (h : am_H) : am_f d scr L call 39 (n + 1) 1 lv st h = (match am_ld lv 0 with
    | some (.ref x) => am_f d scr L call 39 n 2 lv (.ref x :: st) h
    | _ => none) := k_la (i := .aload_n 0) rfl rfl rfl rfl
theorem s_39_2 (d L n : Nat) (scr : Nat → Int32) (call : Nat → List Value → am_H → Option am_X) (lv : am_L) (st : List Value) (h : am_H) (a : Nat) : am_f d scr L call 39 (n + 1) 2 lv (.ref a :: st) h = (match am_get h a 3 1 with
    | some v => am_f d scr L call 39 n 5 lv (v :: st) h
    | none => none) := k_gf (k := 28) rfl rfl
theorem s_39_5 (d L n : Nat) (scr : Nat → Int32) (call : Nat → List Value → am_H → Option am_X) (lv : am_L) (st : List Value) (h : am_H) : am_f d scr L call 39 (n + 1) 5 lv st h = (match am_ld lv 0 with
    | some (.ref x) => am_f d scr L call 39 n 6 lv (.ref x :: st) h
    | _ => none) := k_la (i := .aload_n 0) rfl rfl rfl rfl
theorem s_39_6 (d L n : Nat) (scr : Nat → Int32) (call : Nat → List Value → am_H → Option am_X) (lv : am_L) (st : List Value) (h : am_H) (a : Nat) : am_f d scr L call 39 (n + 1) 6 lv (.ref a :: st) h = (match am_get h a 3 17 with
    | some v => am_f d scr L call 39 n 9 lv (v :: st) h
    | none => none) := k_gf (k := 121) rfl rfl
theorem s_39_9 (d L n : Nat) (scr : Nat → Int32) (call : Nat → List Value → am_H → Option am_X) (lv : am_L) (st : List Value) (h : am_H) : am_f d scr L call 39 (n + 1) 9 lv st h = (match am_ld lv 0 with
    | some (.ref x) => am_f d scr L call 39 n 10 lv (.ref x :: st) h
    | _ => none) := k_la (i := .aload_n 0) rfl rfl rfl rfl
theorem s_39_10 (d L n : Nat) (scr : Nat → Int32) (call : Nat → List Value → am_H → Option am_X) (lv : am_L) (st : List Value) (h : am_H) (a : Nat) : am_f d scr L call 39 (n + 1) 10 lv (.ref a :: st) h = (match am_get h a 3 0 with
    | some v => am_f d scr L call 39 n 13 lv (v :: st) h
    | none => none) := k_gf (k := 13) rfl rfl
theorem s_39_13 (d L n : Nat) (scr : Nat → Int32) (call : Nat → List Value → am_H → Option am_X) (lv : am_L) (st : List Value) (h : am_H) (a : Nat) : am_f d scr L call 39 (n + 1) 13 lv (.ref a :: st) h = (match am_get h a 5 9 with
    | some v => am_f d scr L call 39 n 16 lv (v :: st) h
    | none => none) := k_gf (k := 169) rfl rfl
theorem s_39_16 (d L n : Nat) (scr : Nat → Int32) (call : Nat → List Value → am_H → Option am_X) (lv : am_L) (st : List Value) (h : am_H) : am_f d scr L call 39 (n + 1) 16 lv st h = (match am_ld lv 0 with
    | some (.ref x) => am_f d scr L call 39 n 17 lv (.ref x :: st) h
    | _ => none) := k_la (i := .aload_n 0) rfl rfl rfl rfl
theorem s_39_17 (d L n : Nat) (scr : Nat → Int32) (call : Nat → List Value → am_H → Option am_X) (lv : am_L) (st : List Value) (h : am_H) (a : Nat) : am_f d scr L call 39 (n + 1) 17 lv (.ref a :: st) h = (match am_get h a 3 14 with
    | some v => am_f d scr L call 39 n 20 lv (v :: st) h
    | none => none) := k_gf (k := 90) rfl rfl
theorem s_39_20 (d L n : Nat) (scr : Nat → Int32) (call : Nat → List Value → am_H → Option am_X) (lv : am_L) (st : List Value) (h : am_H) (a : Nat) (i : Int32) : am_f d scr L call 39 (n + 1) 20 lv (.int i :: .ref a :: st) h = (match am_ild scr L h a i with
    | some x => am_f d scr L call 39 n 21 lv (.int x :: st) h
    | none => none) := k_ia rfl
theorem s_39_21 (d L n : Nat) (scr : Nat → Int32) (call : Nat → List Value → am_H → Option am_X) (lv : am_L) (st : List Value) (h : am_H) : am_f d scr L call 39 (n + 1) 21 lv st h = (match am_ld lv 0 with
    | some (.ref x) => am_f d scr L call 39 n 22 lv (.ref x :: st) h
    | _ => none) := k_la (i := .aload_n 0) rfl rfl rfl rfl
theorem s_39_22 (d L n : Nat) (scr : Nat → Int32) (call : Nat → List Value → am_H → Option am_X) (lv : am_L) (st : List Value) (h : am_H) (a : Nat) : am_f d scr L call 39 (n + 1) 22 lv (.ref a :: st) h = (match am_get h a 3 0 with
    | some v => am_f d scr L call 39 n 25 lv (v :: st) h
    | none => none) := k_gf (k := 13) rfl rfl
theorem s_39_25 (d L n : Nat) (scr : Nat → Int32) (call : Nat → List Value → am_H → Option am_X) (lv : am_L) (st : List Value) (h : am_H) (a : Nat) : am_f d scr L call 39 (n + 1) 25 lv (.ref a :: st) h = (match am_get h a 5 10 with
    | some v => am_f d scr L call 39 n 28 lv (v :: st) h
    | none => none) := k_gf (k := 172) rfl rfl
theorem s_39_28 (d L n : Nat) (scr : Nat → Int32) (call : Nat → List Value → am_H → Option am_X) (lv : am_L) (st : List Value) (h : am_H) : am_f d scr L call 39 (n + 1) 28 lv st h = (match am_ld lv 0 with
    | some (.ref x) => am_f d scr L call 39 n 29 lv (.ref x :: st) h
    | _ => none) := k_la (i := .aload_n 0) rfl rfl rfl rfl
theorem s_39_29 (d L n : Nat) (scr : Nat → Int32) (call : Nat → List Value → am_H → Option am_X) (lv : am_L) (st : List Value) (h : am_H) (a : Nat) : am_f d scr L call 39 (n + 1) 29 lv (.ref a :: st) h = (match am_get h a 3 14 with
    | some v => am_f d scr L call 39 n 32 lv (v :: st) h
    | none => none) := k_gf (k := 90) rfl rfl
theorem s_39_32 (d L n : Nat) (scr : Nat → Int32) (call : Nat → List Value → am_H → Option am_X) (lv : am_L) (st : List Value) (h : am_H) (a : Nat) (i : Int32) : am_f d scr L call 39 (n + 1) 32 lv (.int i :: .ref a :: st) h = (match am_ild scr L h a i with
    | some x => am_f d scr L call 39 n 33 lv (.int x :: st) h
    | none => none) := k_ia rfl
theorem s_39_33 (d L n : Nat) (scr : Nat → Int32) (call : Nat → List Value → am_H → Option am_X) (lv : am_L) (st : List Value) (h : am_H) : am_f d scr L call 39 (n + 1) 33 lv st h = am_f d scr L call 39 n 34 lv (.int 2 :: st) h := k_nx (i := .iconst 2) rfl rfl
theorem s_39_34 (d L n : Nat) (scr : Nat → Int32) (call : Nat → List Value → am_H → Option am_X) (lv : am_L) (st : List Value) (h : am_H) : am_f d scr L call 39 (n + 1) 34 lv st h = (match am_ld lv 0 with
    | some (.ref x) => am_f d scr L call 39 n 35 lv (.ref x :: st) h
    | _ => none) := k_la (i := .aload_n 0) rfl rfl rfl rfl
theorem s_39_35 (d L n : Nat) (scr : Nat → Int32) (call : Nat → List Value → am_H → Option am_X) (lv : am_L) (st : List Value) (h : am_H) (a : Nat) : am_f d scr L call 39 (n + 1) 35 lv (.ref a :: st) h = (match am_get h a 3 3 with
    | some v => am_f d scr L call 39 n 38 lv (v :: st) h
    | none => none) := k_gf (k := 39) rfl rfl
theorem s_39_38 (d L n : Nat) (scr : Nat → Int32) (call : Nat → List Value → am_H → Option am_X) (lv : am_L) (st : List Value) (h : am_H) : am_f d scr L call 39 (n + 1) 38 lv st h = (match am_ld lv 0 with
    | some (.ref x) => am_f d scr L call 39 n 39 lv (.ref x :: st) h
    | _ => none) := k_la (i := .aload_n 0) rfl rfl rfl rfl
theorem s_39_39 (d L n : Nat) (scr : Nat → Int32) (call : Nat → List Value → am_H → Option am_X) (lv : am_L) (st : List Value) (h : am_H) (a : Nat) : am_f d scr L call 39 (n + 1) 39 lv (.ref a :: st) h = (match am_get h a 3 6 with
    | some v => am_f d scr L call 39 n 42 lv (v :: st) h
    | none => none) := k_gf (k := 84) rfl rfl
theorem s_39_42 (d L n : Nat) (scr : Nat → Int32) (call : Nat → List Value → am_H → Option am_X) (lv : am_L) (st : List Value) (h : am_H) : am_f d scr L call 39 (n + 1) 42 lv st h = am_f d scr L call 39 n 43 lv (.int 1 :: st) h := k_nx (i := .iconst 1) rfl rfl
theorem s_39_43 (d L n : Nat) (scr : Nat → Int32) (call : Nat → List Value → am_H → Option am_X) (lv : am_L) (st : List Value) (h : am_H) (x y : Int32) : am_f d scr L call 39 (n + 1) 43 lv (.int y :: .int x :: st) h = am_f d scr L call 39 n 44 lv (.int (x - y) :: st) h := k_nx (i := .isub) rfl rfl
theorem s_39_44 (d L n : Nat) (scr : Nat → Int32) (call : Nat → List Value → am_H → Option am_X) (lv : am_L) (st : List Value) (h : am_H) (a : Nat) (i : Int32) : am_f d scr L call 39 (n + 1) 44 lv (.int i :: .ref a :: st) h = (match am_ild scr L h a i with
    | some x => am_f d scr L call 39 n 45 lv (.int x :: st) h
    | none => none) := k_ia rfl
theorem s_39_45 (d L n : Nat) (scr : Nat → Int32) (call : Nat → List Value → am_H → Option am_X) (lv : am_L) (st : List Value) (h : am_H) (x y : Int32) : am_f d scr L call 39 (n + 1) 45 lv (.int y :: .int x :: st) h = am_f d scr L call 39 n 46 lv (.int (x * y) :: st) h := k_nx (i := .imul) rfl rfl
theorem s_39_46 (d L n : Nat) (scr : Nat → Int32) (call : Nat → List Value → am_H → Option am_X) (lv : am_L) (h : am_H) (o : Nat) (a0 : Int64) (a1 : Int32) (a2 : Int32) (a3 : Int32) (r0 : Nat) : am_f d scr L call 39 (n + 1) 46 lv (.int a3 :: .int a2 :: .int a1 :: .long a0 :: .ref o :: .ref r0 :: []) h = if am_at h o 1 = true then (match call 14 [.ref o, .long a0, .int a1, .int a2, .int a3] h with
    | some (v, h', dk, dn) => am_add dk dn (am_f d scr L call 39 n 49 lv (v.toList ++ [.ref r0]) h')
    | none => none) else none := k_iv0 (k := 175) (as := [.long a0, .int a1, .int a2, .int a3]) (r := [.ref r0]) rfl rfl rfl rfl (Nat.le_of_ble_eq_true rfl)
theorem s_39_49 (d L n : Nat) (scr : Nat → Int32) (call : Nat → List Value → am_H → Option am_X) (lv : am_L) (st : List Value) (h : am_H) (x : Int64) (a : Nat) : am_f d scr L call 39 (n + 1) 49 lv (.long x :: .ref a :: st) h = (match am_put h a 3 17 (.long x) with
    | some h' => am_f d scr L call 39 n 52 lv st h'
    | none => none) := k_pf (k := 121) rfl rfl rfl
theorem s_39_52 (d L n : Nat) (scr : Nat → Int32) (call : Nat → List Value → am_H → Option am_X) (lv : am_L) (st : List Value) (h : am_H) : am_f d scr L call 39 (n + 1) 52 lv st h = (match am_ld lv 0 with
    | some (.ref x) => am_f d scr L call 39 n 53 lv (.ref x :: st) h
    | _ => none) := k_la (i := .aload_n 0) rfl rfl rfl rfl
theorem s_39_53 (d L n : Nat) (scr : Nat → Int32) (call : Nat → List Value → am_H → Option am_X) (lv : am_L) (st : List Value) (h : am_H) (a : Nat) : am_f d scr L call 39 (n + 1) 53 lv (.ref a :: st) h = (match am_get h a 3 1 with
    | some v => am_f d scr L call 39 n 56 lv (v :: st) h
    | none => none) := k_gf (k := 28) rfl rfl
theorem s_39_56 (d L n : Nat) (scr : Nat → Int32) (call : Nat → List Value → am_H → Option am_X) (lv : am_L) (st : List Value) (h : am_H) (a : Nat) : am_f d scr L call 39 (n + 1) 56 lv (.ref a :: st) h = (match am_get h a 1 7 with
    | some v => am_f d scr L call 39 n 59 lv (v :: st) h
    | none => none) := k_gf (k := 109) rfl rfl
theorem s_39_59 (d L n : Nat) (scr : Nat → Int32) (call : Nat → List Value → am_H → Option am_X) (lv : am_L) (st : List Value) (h : am_H) : am_f d scr L call 39 (n + 1) 59 lv st h = am_f d scr L call 39 n 61 lv (.int 6 :: st) h := k_nx (i := .bipush 6) rfl rfl
theorem s_39_61 (d L n : Nat) (scr : Nat → Int32) (call : Nat → List Value → am_H → Option am_X) (lv : am_L) (st : List Value) (h : am_H) (x y : Int32) : am_f d scr L call 39 (n + 1) 61 lv (.int y :: .int x :: st) h = if ¬ x = y then am_f d scr L call 39 n 68 lv st h else am_f d scr L call 39 n 64 lv st h := k_ic_ne (o := 7) rfl ⟨by decide, rfl⟩
theorem s_39_64 (d L n : Nat) (scr : Nat → Int32) (call : Nat → List Value → am_H → Option am_X) (lv : am_L) (st : List Value) (h : am_H) : am_f d scr L call 39 (n + 1) 64 lv st h = am_f d scr L call 39 n 65 lv (.int 1 :: st) h := k_nx (i := .iconst 1) rfl rfl
theorem s_39_65 (d L n : Nat) (scr : Nat → Int32) (call : Nat → List Value → am_H → Option am_X) (lv : am_L) (st : List Value) (h : am_H) : am_f d scr L call 39 (n + 1) 65 lv st h = am_f d scr L call 39 n 69 lv st h := k_nx (i := .goto 4) rfl rfl
theorem s_39_68 (d L n : Nat) (scr : Nat → Int32) (call : Nat → List Value → am_H → Option am_X) (lv : am_L) (st : List Value) (h : am_H) : am_f d scr L call 39 (n + 1) 68 lv st h = am_f d scr L call 39 n 69 lv (.int 0 :: st) h := k_nx (i := .iconst 0) rfl rfl
theorem s_39_69 (d L n : Nat) (scr : Nat → Int32) (call : Nat → List Value → am_H → Option am_X) (lv : am_L) (h : am_H) (x : Int32) : am_f d scr L call 39 (n + 1) 69 lv [.int x] h = if x = 0 ∨ x = 1 then some (some (.int x), h, 0, 0) else none := k_zr rfl rfl
-- 40: BlameDesk$Machine.goOnBehindFirst()V
theorem s_40_0 (d L n : Nat) (scr : Nat → Int32) (call : Nat → List Value → am_H → Option am_X) (lv : am_L) (st : List Value) (h : am_H) : am_f d scr L call 40 (n + 1) 0 lv st h = (match am_ld lv 0 with
    | some (.ref x) => am_f d scr L call 40 n 1 lv (.ref x :: st) h
    | _ => none) := k_la (i := .aload_n 0) rfl rfl rfl rfl
theorem s_40_1 (d L n : Nat) (scr : Nat → Int32) (call : Nat → List Value → am_H → Option am_X) (lv : am_L) (st : List Value) (h : am_H) (a : Nat) : am_f d scr L call 40 (n + 1) 1 lv (.ref a :: st) h = (match am_get h a 3 3 with
    | some v => am_f d scr L call 40 n 4 lv (v :: st) h
    | none => none) := k_gf (k := 39) rfl rfl
theorem s_40_4 (d L n : Nat) (scr : Nat → Int32) (call : Nat → List Value → am_H → Option am_X) (lv : am_L) (st : List Value) (h : am_H) : am_f d scr L call 40 (n + 1) 4 lv st h = (match am_ld lv 0 with
    | some (.ref x) => am_f d scr L call 40 n 5 lv (.ref x :: st) h
    | _ => none) := k_la (i := .aload_n 0) rfl rfl rfl rfl
theorem s_40_5 (d L n : Nat) (scr : Nat → Int32) (call : Nat → List Value → am_H → Option am_X) (lv : am_L) (st : List Value) (h : am_H) (a : Nat) : am_f d scr L call 40 (n + 1) 5 lv (.ref a :: st) h = (match am_get h a 3 6 with
    | some v => am_f d scr L call 40 n 8 lv (v :: st) h
    | none => none) := k_gf (k := 84) rfl rfl
theorem s_40_8 (d L n : Nat) (scr : Nat → Int32) (call : Nat → List Value → am_H → Option am_X) (lv : am_L) (st : List Value) (h : am_H) : am_f d scr L call 40 (n + 1) 8 lv st h = am_f d scr L call 40 n 9 lv (.int 1 :: st) h := k_nx (i := .iconst 1) rfl rfl
theorem s_40_9 (d L n : Nat) (scr : Nat → Int32) (call : Nat → List Value → am_H → Option am_X) (lv : am_L) (st : List Value) (h : am_H) (x y : Int32) : am_f d scr L call 40 (n + 1) 9 lv (.int y :: .int x :: st) h = am_f d scr L call 40 n 10 lv (.int (x - y) :: st) h := k_nx (i := .isub) rfl rfl
theorem s_40_10 (d L n : Nat) (scr : Nat → Int32) (call : Nat → List Value → am_H → Option am_X) (lv : am_L) (st : List Value) (h : am_H) (a : Nat) (i : Int32) : am_f d scr L call 40 (n + 1) 10 lv (.int i :: .ref a :: st) h = (match am_ild scr L h a i with
    | some x => am_f d scr L call 40 n 11 lv (.int x :: st) h
    | none => none) := k_ia rfl
theorem s_40_11 (d L n : Nat) (scr : Nat → Int32) (call : Nat → List Value → am_H → Option am_X) (lv : am_L) (st : List Value) (h : am_H) (x : Int32) : am_f d scr L call 40 (n + 1) 11 lv (.int x :: st) h = am_f d scr L call 40 n 12 (am_st1 lv 1 (.int x)) st h := k_nx (i := .istore_n 1) rfl rfl
theorem s_40_12 (d L n : Nat) (scr : Nat → Int32) (call : Nat → List Value → am_H → Option am_X) (lv : am_L) (st : List Value) (h : am_H) : am_f d scr L call 40 (n + 1) 12 lv st h = (match am_ld lv 0 with
    | some (.ref x) => am_f d scr L call 40 n 13 lv (.ref x :: st) h
    | _ => none) := k_la (i := .aload_n 0) rfl rfl rfl rfl
theorem s_40_13 (d L n : Nat) (scr : Nat → Int32) (call : Nat → List Value → am_H → Option am_X) (lv : am_L) (st : List Value) (h : am_H) (a : Nat) : am_f d scr L call 40 (n + 1) 13 lv (.ref a :: st) h = (match am_get h a 3 0 with
    | some v => am_f d scr L call 40 n 16 lv (v :: st) h
    | none => none) := k_gf (k := 13) rfl rfl
theorem s_40_16 (d L n : Nat) (scr : Nat → Int32) (call : Nat → List Value → am_H → Option am_X) (lv : am_L) (st : List Value) (h : am_H) (a : Nat) : am_f d scr L call 40 (n + 1) 16 lv (.ref a :: st) h = (match am_get h a 5 1 with
    | some v => am_f d scr L call 40 n 19 lv (v :: st) h
    | none => none) := k_gf (k := 138) rfl rfl
theorem s_40_19 (d L n : Nat) (scr : Nat → Int32) (call : Nat → List Value → am_H → Option am_X) (lv : am_L) (st : List Value) (h : am_H) : am_f d scr L call 40 (n + 1) 19 lv st h = (match am_ld lv 1 with
    | some (.int x) => am_f d scr L call 40 n 20 lv (.int x :: st) h
    | _ => none) := k_li (i := .iload_n 1) rfl rfl rfl rfl
theorem s_40_20 (d L n : Nat) (scr : Nat → Int32) (call : Nat → List Value → am_H → Option am_X) (lv : am_L) (st : List Value) (h : am_H) (a : Nat) (i : Int32) : am_f d scr L call 40 (n + 1) 20 lv (.int i :: .ref a :: st) h = (match am_ild scr L h a i with
    | some x => am_f d scr L call 40 n 21 lv (.int x :: st) h
    | none => none) := k_ia rfl
set_option maxRecDepth 100000 in
theorem s_40_21 (d L n : Nat) (scr : Nat → Int32) (call : Nat → List Value → am_H → Option am_X) (lv : am_L) (st : List Value) (h : am_H) (x : Int32) : am_f d scr L call 40 (n + 1) 21 lv (.int x :: st) h = if x = 9 then am_f d scr L call 40 n 56 lv st h else if x = 10 then am_f d scr L call 40 n 94 lv st h else if x = 11 then am_f d scr L call 40 n 101 lv st h else if x = 12 then am_f d scr L call 40 n 138 lv st h else if x = 13 then am_f d scr L call 40 n 149 lv st h else am_f d scr L call 40 n 174 lv st h := by
  by_cases h9 : x = 9
  · subst h9
    exact k_nx (i := .tableswitch 153 9 13 #[35, 73, 80, 117, 128]) rfl rfl
  by_cases h10 : x = 10
  · subst h10
    exact k_nx (i := .tableswitch 153 9 13 #[35, 73, 80, 117, 128]) rfl rfl
  by_cases h11 : x = 11
  · subst h11
    exact k_nx (i := .tableswitch 153 9 13 #[35, 73, 80, 117, 128]) rfl rfl
  by_cases h12 : x = 12
  · subst h12
    exact k_nx (i := .tableswitch 153 9 13 #[35, 73, 80, 117, 128]) rfl rfl
  by_cases h13 : x = 13
  · subst h13
    exact k_nx (i := .tableswitch 153 9 13 #[35, 73, 80, 117, 128]) rfl rfl
  have hn : x.toInt < 9 ∨ 13 < x.toInt := by
    have hh : ∀ k : Int32, ¬ x = k → ¬ x.toInt = k.toInt := fun k hk z => hk (Int32.toInt_inj.mp z)
    have g9 : ¬ x.toInt = 9 := hh 9 h9
    have g10 : ¬ x.toInt = 10 := hh 10 h10
    have g11 : ¬ x.toInt = 11 := hh 11 h11
    have g12 : ¬ x.toInt = 12 := hh 12 h12
    have g13 : ¬ x.toInt = 13 := hh 13 h13
    omega
  rw [if_neg h9, if_neg h10, if_neg h11, if_neg h12, if_neg h13]
  refine k_nx (i := .tableswitch 153 9 13 #[35, 73, 80, 117, 128]) rfl ?_
  simp only [am_s, if_pos hn]
  rfl
theorem s_40_56 (d L n : Nat) (scr : Nat → Int32) (call : Nat → List Value → am_H → Option am_X) (lv : am_L) (st : List Value) (h : am_H) : am_f d scr L call 40 (n + 1) 56 lv st h = (match am_ld lv 0 with
    | some (.ref x) => am_f d scr L call 40 n 57 lv (.ref x :: st) h
    | _ => none) := k_la (i := .aload_n 0) rfl rfl rfl rfl
theorem s_40_57 (d L n : Nat) (scr : Nat → Int32) (call : Nat → List Value → am_H → Option am_X) (lv : am_L) (st : List Value) (h : am_H) : am_f d scr L call 40 (n + 1) 57 lv st h = (match am_ld lv 0 with
    | some (.ref x) => am_f d scr L call 40 n 58 lv (.ref x :: st) h
    | _ => none) := k_la (i := .aload_n 0) rfl rfl rfl rfl
theorem s_40_58 (d L n : Nat) (scr : Nat → Int32) (call : Nat → List Value → am_H → Option am_X) (lv : am_L) (st : List Value) (h : am_H) (a : Nat) : am_f d scr L call 40 (n + 1) 58 lv (.ref a :: st) h = (match am_get h a 3 17 with
    | some v => am_f d scr L call 40 n 61 lv (v :: st) h
    | none => none) := k_gf (k := 121) rfl rfl
theorem s_40_61 (d L n : Nat) (scr : Nat → Int32) (call : Nat → List Value → am_H → Option am_X) (lv : am_L) (h : am_H) (a0 : Int64) (r0 : Nat) : am_f d scr L call 40 (n + 1) 61 lv (.long a0 :: .ref r0 :: []) h = (match call 87 [.long a0] h with
    | some (v, h', dk, dn) => am_add dk dn (am_f d scr L call 40 n 64 lv (v.toList ++ [.ref r0]) h')
    | none => none) := k_iv1 (k := 131) (as := [.long a0]) (r := [.ref r0]) rfl rfl rfl rfl (Nat.le_of_ble_eq_true rfl)
theorem s_40_64 (d L n : Nat) (scr : Nat → Int32) (call : Nat → List Value → am_H → Option am_X) (lv : am_L) (st : List Value) (h : am_H) (x : Int32) : am_f d scr L call 40 (n + 1) 64 lv (.int x :: st) h = if x = 0 then am_f d scr L call 40 n 79 lv st h else am_f d scr L call 40 n 67 lv st h := k_if_eq (o := 15) rfl ⟨by decide, rfl⟩
theorem s_40_67 (d L n : Nat) (scr : Nat → Int32) (call : Nat → List Value → am_H → Option am_X) (lv : am_L) (st : List Value) (h : am_H) : am_f d scr L call 40 (n + 1) 67 lv st h = (match am_ld lv 0 with
    | some (.ref x) => am_f d scr L call 40 n 68 lv (.ref x :: st) h
    | _ => none) := k_la (i := .aload_n 0) rfl rfl rfl rfl
theorem s_40_68 (d L n : Nat) (scr : Nat → Int32) (call : Nat → List Value → am_H → Option am_X) (lv : am_L) (st : List Value) (h : am_H) (a : Nat) : am_f d scr L call 40 (n + 1) 68 lv (.ref a :: st) h = (match am_get h a 3 0 with
    | some v => am_f d scr L call 40 n 71 lv (v :: st) h
    | none => none) := k_gf (k := 13) rfl rfl
theorem s_40_71 (d L n : Nat) (scr : Nat → Int32) (call : Nat → List Value → am_H → Option am_X) (lv : am_L) (st : List Value) (h : am_H) (a : Nat) : am_f d scr L call 40 (n + 1) 71 lv (.ref a :: st) h = (match am_get h a 5 4 with
    | some v => am_f d scr L call 40 n 74 lv (v :: st) h
    | none => none) := k_gf (k := 179) rfl rfl
theorem s_40_74 (d L n : Nat) (scr : Nat → Int32) (call : Nat → List Value → am_H → Option am_X) (lv : am_L) (st : List Value) (h : am_H) : am_f d scr L call 40 (n + 1) 74 lv st h = (match am_ld lv 1 with
    | some (.int x) => am_f d scr L call 40 n 75 lv (.int x :: st) h
    | _ => none) := k_li (i := .iload_n 1) rfl rfl rfl rfl
theorem s_40_75 (d L n : Nat) (scr : Nat → Int32) (call : Nat → List Value → am_H → Option am_X) (lv : am_L) (st : List Value) (h : am_H) (a : Nat) (i : Int32) : am_f d scr L call 40 (n + 1) 75 lv (.int i :: .ref a :: st) h = (match am_ild scr L h a i with
    | some x => am_f d scr L call 40 n 76 lv (.int x :: st) h
    | none => none) := k_ia rfl
theorem s_40_76 (d L n : Nat) (scr : Nat → Int32) (call : Nat → List Value → am_H → Option am_X) (lv : am_L) (st : List Value) (h : am_H) : am_f d scr L call 40 (n + 1) 76 lv st h = am_f d scr L call 40 n 88 lv st h := k_nx (i := .goto 12) rfl rfl
theorem s_40_79 (d L n : Nat) (scr : Nat → Int32) (call : Nat → List Value → am_H → Option am_X) (lv : am_L) (st : List Value) (h : am_H) : am_f d scr L call 40 (n + 1) 79 lv st h = (match am_ld lv 0 with
    | some (.ref x) => am_f d scr L call 40 n 80 lv (.ref x :: st) h
    | _ => none) := k_la (i := .aload_n 0) rfl rfl rfl rfl
theorem s_40_80 (d L n : Nat) (scr : Nat → Int32) (call : Nat → List Value → am_H → Option am_X) (lv : am_L) (st : List Value) (h : am_H) (a : Nat) : am_f d scr L call 40 (n + 1) 80 lv (.ref a :: st) h = (match am_get h a 3 0 with
    | some v => am_f d scr L call 40 n 83 lv (v :: st) h
    | none => none) := k_gf (k := 13) rfl rfl
theorem s_40_83 (d L n : Nat) (scr : Nat → Int32) (call : Nat → List Value → am_H → Option am_X) (lv : am_L) (st : List Value) (h : am_H) (a : Nat) : am_f d scr L call 40 (n + 1) 83 lv (.ref a :: st) h = (match am_get h a 5 5 with
    | some v => am_f d scr L call 40 n 86 lv (v :: st) h
    | none => none) := k_gf (k := 182) rfl rfl
theorem s_40_86 (d L n : Nat) (scr : Nat → Int32) (call : Nat → List Value → am_H → Option am_X) (lv : am_L) (st : List Value) (h : am_H) : am_f d scr L call 40 (n + 1) 86 lv st h = (match am_ld lv 1 with
    | some (.int x) => am_f d scr L call 40 n 87 lv (.int x :: st) h
    | _ => none) := k_li (i := .iload_n 1) rfl rfl rfl rfl
theorem s_40_87 (d L n : Nat) (scr : Nat → Int32) (call : Nat → List Value → am_H → Option am_X) (lv : am_L) (st : List Value) (h : am_H) (a : Nat) (i : Int32) : am_f d scr L call 40 (n + 1) 87 lv (.int i :: .ref a :: st) h = (match am_ild scr L h a i with
    | some x => am_f d scr L call 40 n 88 lv (.int x :: st) h
    | none => none) := k_ia rfl
theorem s_40_88 (d L n : Nat) (scr : Nat → Int32) (call : Nat → List Value → am_H → Option am_X) (lv : am_L) (h : am_H) (o : Nat) (a0 : Int32)  : am_f d scr L call 40 (n + 1) 88 lv (.int a0 :: .ref o :: []) h = if am_at h o 3 = true then (match call 42 [.ref o, .int a0] h with
    | some (v, h', dk, dn) => am_add dk dn (am_f d scr L call 40 n 91 lv (v.toList ++ []) h')
    | none => none) else none := k_iv0 (k := 185) (as := [.int a0]) (r := []) rfl rfl rfl rfl (Nat.le_of_ble_eq_true rfl)
theorem s_40_91 (d L n : Nat) (scr : Nat → Int32) (call : Nat → List Value → am_H → Option am_X) (lv : am_L) (st : List Value) (h : am_H) : am_f d scr L call 40 (n + 1) 91 lv st h = am_f d scr L call 40 n 202 lv st h := k_nx (i := .goto 111) rfl rfl
theorem s_40_94 (d L n : Nat) (scr : Nat → Int32) (call : Nat → List Value → am_H → Option am_X) (lv : am_L) (st : List Value) (h : am_H) : am_f d scr L call 40 (n + 1) 94 lv st h = (match am_ld lv 0 with
    | some (.ref x) => am_f d scr L call 40 n 95 lv (.ref x :: st) h
    | _ => none) := k_la (i := .aload_n 0) rfl rfl rfl rfl
theorem s_40_95 (d L n : Nat) (scr : Nat → Int32) (call : Nat → List Value → am_H → Option am_X) (lv : am_L) (h : am_H) (o : Nat)   : am_f d scr L call 40 (n + 1) 95 lv (.ref o :: []) h = if am_at h o 3 = true then (match call 44 [.ref o] h with
    | some (v, h', dk, dn) => am_add dk dn (am_f d scr L call 40 n 98 lv (v.toList ++ []) h')
    | none => none) else none := k_iv0 (k := 188) (as := []) (r := []) rfl rfl rfl rfl (Nat.le_of_ble_eq_true rfl)
theorem s_40_98 (d L n : Nat) (scr : Nat → Int32) (call : Nat → List Value → am_H → Option am_X) (lv : am_L) (st : List Value) (h : am_H) : am_f d scr L call 40 (n + 1) 98 lv st h = am_f d scr L call 40 n 202 lv st h := k_nx (i := .goto 104) rfl rfl
theorem s_40_101 (d L n : Nat) (scr : Nat → Int32) (call : Nat → List Value → am_H → Option am_X) (lv : am_L) (st : List Value) (h : am_H) : am_f d scr L call 40 (n + 1) 101 lv st h = (match am_ld lv 0 with
    | some (.ref x) => am_f d scr L call 40 n 102 lv (.ref x :: st) h
    | _ => none) := k_la (i := .aload_n 0) rfl rfl rfl rfl
theorem s_40_102 (d L n : Nat) (scr : Nat → Int32) (call : Nat → List Value → am_H → Option am_X) (lv : am_L) (st : List Value) (h : am_H) : am_f d scr L call 40 (n + 1) 102 lv st h = (match am_ld lv 0 with
    | some (.ref x) => am_f d scr L call 40 n 103 lv (.ref x :: st) h
    | _ => none) := k_la (i := .aload_n 0) rfl rfl rfl rfl
theorem s_40_103 (d L n : Nat) (scr : Nat → Int32) (call : Nat → List Value → am_H → Option am_X) (lv : am_L) (st : List Value) (h : am_H) (a : Nat) : am_f d scr L call 40 (n + 1) 103 lv (.ref a :: st) h = (match am_get h a 3 1 with
    | some v => am_f d scr L call 40 n 106 lv (v :: st) h
    | none => none) := k_gf (k := 28) rfl rfl
theorem s_40_106 (d L n : Nat) (scr : Nat → Int32) (call : Nat → List Value → am_H → Option am_X) (lv : am_L) (st : List Value) (h : am_H) : am_f d scr L call 40 (n + 1) 106 lv st h = (match am_ld lv 0 with
    | some (.ref x) => am_f d scr L call 40 n 107 lv (.ref x :: st) h
    | _ => none) := k_la (i := .aload_n 0) rfl rfl rfl rfl
theorem s_40_107 (d L n : Nat) (scr : Nat → Int32) (call : Nat → List Value → am_H → Option am_X) (lv : am_L) (st : List Value) (h : am_H) (a : Nat) : am_f d scr L call 40 (n + 1) 107 lv (.ref a :: st) h = (match am_get h a 3 17 with
    | some v => am_f d scr L call 40 n 110 lv (v :: st) h
    | none => none) := k_gf (k := 121) rfl rfl
theorem s_40_110 (d L n : Nat) (scr : Nat → Int32) (call : Nat → List Value → am_H → Option am_X) (lv : am_L) (st : List Value) (h : am_H) : am_f d scr L call 40 (n + 1) 110 lv st h = (match am_ld lv 0 with
    | some (.ref x) => am_f d scr L call 40 n 111 lv (.ref x :: st) h
    | _ => none) := k_la (i := .aload_n 0) rfl rfl rfl rfl
theorem s_40_111 (d L n : Nat) (scr : Nat → Int32) (call : Nat → List Value → am_H → Option am_X) (lv : am_L) (st : List Value) (h : am_H) (a : Nat) : am_f d scr L call 40 (n + 1) 111 lv (.ref a :: st) h = (match am_get h a 3 9 with
    | some v => am_f d scr L call 40 n 114 lv (v :: st) h
    | none => none) := k_gf (k := 56) rfl rfl
theorem s_40_114 (d L n : Nat) (scr : Nat → Int32) (call : Nat → List Value → am_H → Option am_X) (lv : am_L) (st : List Value) (h : am_H) : am_f d scr L call 40 (n + 1) 114 lv st h = (match am_ld lv 0 with
    | some (.ref x) => am_f d scr L call 40 n 115 lv (.ref x :: st) h
    | _ => none) := k_la (i := .aload_n 0) rfl rfl rfl rfl
theorem s_40_115 (d L n : Nat) (scr : Nat → Int32) (call : Nat → List Value → am_H → Option am_X) (lv : am_L) (st : List Value) (h : am_H) (a : Nat) : am_f d scr L call 40 (n + 1) 115 lv (.ref a :: st) h = (match am_get h a 3 1 with
    | some v => am_f d scr L call 40 n 118 lv (v :: st) h
    | none => none) := k_gf (k := 28) rfl rfl
theorem s_40_118 (d L n : Nat) (scr : Nat → Int32) (call : Nat → List Value → am_H → Option am_X) (lv : am_L) (st : List Value) (h : am_H) : am_f d scr L call 40 (n + 1) 118 lv st h = (match am_ld lv 0 with
    | some (.ref x) => am_f d scr L call 40 n 119 lv (.ref x :: st) h
    | _ => none) := k_la (i := .aload_n 0) rfl rfl rfl rfl
theorem s_40_119 (d L n : Nat) (scr : Nat → Int32) (call : Nat → List Value → am_H → Option am_X) (lv : am_L) (st : List Value) (h : am_H) (a : Nat) : am_f d scr L call 40 (n + 1) 119 lv (.ref a :: st) h = (match am_get h a 3 17 with
    | some v => am_f d scr L call 40 n 122 lv (v :: st) h
    | none => none) := k_gf (k := 121) rfl rfl
theorem s_40_122 (d L n : Nat) (scr : Nat → Int32) (call : Nat → List Value → am_H → Option am_X) (lv : am_L) (h : am_H) (o : Nat) (a0 : Int64) (r0 : Nat) (r1 : Int64) (r2 : Nat) (r3 : Nat) : am_f d scr L call 40 (n + 1) 122 lv (.long a0 :: .ref o :: .ref r0 :: .long r1 :: .ref r2 :: .ref r3 :: []) h = if am_at h o 1 = true then (match call 16 [.ref o, .long a0] h with
    | some (v, h', dk, dn) => am_add dk dn (am_f d scr L call 40 n 125 lv (v.toList ++ [.ref r0, .long r1, .ref r2, .ref r3]) h')
    | none => none) else none := k_iv0 (k := 191) (as := [.long a0]) (r := [.ref r0, .long r1, .ref r2, .ref r3]) rfl rfl rfl rfl (Nat.le_of_ble_eq_true rfl)
theorem s_40_125 (d L n : Nat) (scr : Nat → Int32) (call : Nat → List Value → am_H → Option am_X) (lv : am_L) (h : am_H) (a0 : Int64) (r0 : Nat) (r1 : Int64) (r2 : Nat) (r3 : Nat) : am_f d scr L call 40 (n + 1) 125 lv (.long a0 :: .ref r0 :: .long r1 :: .ref r2 :: .ref r3 :: []) h = (match call 87 [.long a0] h with
    | some (v, h', dk, dn) => am_add dk dn (am_f d scr L call 40 n 128 lv (v.toList ++ [.ref r0, .long r1, .ref r2, .ref r3]) h')
    | none => none) := k_iv1 (k := 131) (as := [.long a0]) (r := [.ref r0, .long r1, .ref r2, .ref r3]) rfl rfl rfl rfl (Nat.le_of_ble_eq_true rfl)
theorem s_40_128 (d L n : Nat) (scr : Nat → Int32) (call : Nat → List Value → am_H → Option am_X) (lv : am_L) (st : List Value) (h : am_H) (a : Nat) (i : Int32) : am_f d scr L call 40 (n + 1) 128 lv (.int i :: .ref a :: st) h = (match am_lld h a i with
    | some x => am_f d scr L call 40 n 129 lv (.long x :: st) h
    | none => none) := k_ja rfl
theorem s_40_129 (d L n : Nat) (scr : Nat → Int32) (call : Nat → List Value → am_H → Option am_X) (lv : am_L) (h : am_H) (o : Nat) (a0 : Int64) (a1 : Int64) (r0 : Nat) : am_f d scr L call 40 (n + 1) 129 lv (.long a1 :: .long a0 :: .ref o :: .ref r0 :: []) h = if am_at h o 1 = true then (match call 18 [.ref o, .long a0, .long a1] h with
    | some (v, h', dk, dn) => am_add dk dn (am_f d scr L call 40 n 132 lv (v.toList ++ [.ref r0]) h')
    | none => none) else none := k_iv0 (k := 162) (as := [.long a0, .long a1]) (r := [.ref r0]) rfl rfl rfl rfl (Nat.le_of_ble_eq_true rfl)
theorem s_40_132 (d L n : Nat) (scr : Nat → Int32) (call : Nat → List Value → am_H → Option am_X) (lv : am_L) (h : am_H) (o : Nat) (a0 : Int64)  : am_f d scr L call 40 (n + 1) 132 lv (.long a0 :: .ref o :: []) h = if am_at h o 3 = true then (match call 43 [.ref o, .long a0] h with
    | some (v, h', dk, dn) => am_add dk dn (am_f d scr L call 40 n 135 lv (v.toList ++ []) h')
    | none => none) else none := k_iv0 (k := 166) (as := [.long a0]) (r := []) rfl rfl rfl rfl (Nat.le_of_ble_eq_true rfl)
theorem s_40_135 (d L n : Nat) (scr : Nat → Int32) (call : Nat → List Value → am_H → Option am_X) (lv : am_L) (st : List Value) (h : am_H) : am_f d scr L call 40 (n + 1) 135 lv st h = am_f d scr L call 40 n 202 lv st h := k_nx (i := .goto 67) rfl rfl
theorem s_40_138 (d L n : Nat) (scr : Nat → Int32) (call : Nat → List Value → am_H → Option am_X) (lv : am_L) (st : List Value) (h : am_H) : am_f d scr L call 40 (n + 1) 138 lv st h = (match am_ld lv 0 with
    | some (.ref x) => am_f d scr L call 40 n 139 lv (.ref x :: st) h
    | _ => none) := k_la (i := .aload_n 0) rfl rfl rfl rfl
theorem s_40_139 (d L n : Nat) (scr : Nat → Int32) (call : Nat → List Value → am_H → Option am_X) (lv : am_L) (st : List Value) (h : am_H) : am_f d scr L call 40 (n + 1) 139 lv st h = (match am_ld lv 0 with
    | some (.ref x) => am_f d scr L call 40 n 140 lv (.ref x :: st) h
    | _ => none) := k_la (i := .aload_n 0) rfl rfl rfl rfl
theorem s_40_140 (d L n : Nat) (scr : Nat → Int32) (call : Nat → List Value → am_H → Option am_X) (lv : am_L) (st : List Value) (h : am_H) (a : Nat) : am_f d scr L call 40 (n + 1) 140 lv (.ref a :: st) h = (match am_get h a 3 17 with
    | some v => am_f d scr L call 40 n 143 lv (v :: st) h
    | none => none) := k_gf (k := 121) rfl rfl
theorem s_40_143 (d L n : Nat) (scr : Nat → Int32) (call : Nat → List Value → am_H → Option am_X) (lv : am_L) (h : am_H) (o : Nat) (a0 : Int64)  : am_f d scr L call 40 (n + 1) 143 lv (.long a0 :: .ref o :: []) h = if am_at h o 3 = true then (match call 43 [.ref o, .long a0] h with
    | some (v, h', dk, dn) => am_add dk dn (am_f d scr L call 40 n 146 lv (v.toList ++ []) h')
    | none => none) else none := k_iv0 (k := 166) (as := [.long a0]) (r := []) rfl rfl rfl rfl (Nat.le_of_ble_eq_true rfl)
theorem s_40_146 (d L n : Nat) (scr : Nat → Int32) (call : Nat → List Value → am_H → Option am_X) (lv : am_L) (st : List Value) (h : am_H) : am_f d scr L call 40 (n + 1) 146 lv st h = am_f d scr L call 40 n 202 lv st h := k_nx (i := .goto 56) rfl rfl
theorem s_40_149 (d L n : Nat) (scr : Nat → Int32) (call : Nat → List Value → am_H → Option am_X) (lv : am_L) (st : List Value) (h : am_H) : am_f d scr L call 40 (n + 1) 149 lv st h = (match am_ld lv 0 with
    | some (.ref x) => am_f d scr L call 40 n 150 lv (.ref x :: st) h
    | _ => none) := k_la (i := .aload_n 0) rfl rfl rfl rfl
theorem s_40_150 (d L n : Nat) (scr : Nat → Int32) (call : Nat → List Value → am_H → Option am_X) (lv : am_L) (st : List Value) (h : am_H) (a : Nat) : am_f d scr L call 40 (n + 1) 150 lv (.ref a :: st) h = (match am_get h a 3 2 with
    | some v => am_f d scr L call 40 n 153 lv (v :: st) h
    | none => none) := k_gf (k := 35) rfl rfl
theorem s_40_153 (d L n : Nat) (scr : Nat → Int32) (call : Nat → List Value → am_H → Option am_X) (lv : am_L) (st : List Value) (h : am_H) : am_f d scr L call 40 (n + 1) 153 lv st h = (match am_ld lv 0 with
    | some (.ref x) => am_f d scr L call 40 n 154 lv (.ref x :: st) h
    | _ => none) := k_la (i := .aload_n 0) rfl rfl rfl rfl
theorem s_40_154 (d L n : Nat) (scr : Nat → Int32) (call : Nat → List Value → am_H → Option am_X) (lv : am_L) (st : List Value) (h : am_H) (a : Nat) : am_f d scr L call 40 (n + 1) 154 lv (.ref a :: st) h = (match am_get h a 3 17 with
    | some v => am_f d scr L call 40 n 157 lv (v :: st) h
    | none => none) := k_gf (k := 121) rfl rfl
theorem s_40_157 (d L n : Nat) (scr : Nat → Int32) (call : Nat → List Value → am_H → Option am_X) (lv : am_L) (h : am_H) (a0 : Int64) (r0 : Nat) : am_f d scr L call 40 (n + 1) 157 lv (.long a0 :: .ref r0 :: []) h = (match call 87 [.long a0] h with
    | some (v, h', dk, dn) => am_add dk dn (am_f d scr L call 40 n 160 lv (v.toList ++ [.ref r0]) h')
    | none => none) := k_iv1 (k := 131) (as := [.long a0]) (r := [.ref r0]) rfl rfl rfl rfl (Nat.le_of_ble_eq_true rfl)
theorem s_40_160 (d L n : Nat) (scr : Nat → Int32) (call : Nat → List Value → am_H → Option am_X) (lv : am_L) (h : am_H) (o : Nat) (a0 : Int32)  : am_f d scr L call 40 (n + 1) 160 lv (.int a0 :: .ref o :: []) h = if am_at h o 4 = true then (match call 49 [.ref o, .int a0] h with
    | some (v, h', dk, dn) => am_add dk dn (am_f d scr L call 40 n 163 lv (v.toList ++ []) h')
    | none => none) else none := k_iv0 (k := 195) (as := [.int a0]) (r := []) rfl rfl rfl rfl (Nat.le_of_ble_eq_true rfl)
theorem s_40_163 (d L n : Nat) (scr : Nat → Int32) (call : Nat → List Value → am_H → Option am_X) (lv : am_L) (st : List Value) (h : am_H) : am_f d scr L call 40 (n + 1) 163 lv st h = (match am_ld lv 0 with
    | some (.ref x) => am_f d scr L call 40 n 164 lv (.ref x :: st) h
    | _ => none) := k_la (i := .aload_n 0) rfl rfl rfl rfl
theorem s_40_164 (d L n : Nat) (scr : Nat → Int32) (call : Nat → List Value → am_H → Option am_X) (lv : am_L) (st : List Value) (h : am_H) : am_f d scr L call 40 (n + 1) 164 lv st h = (match am_ld lv 0 with
    | some (.ref x) => am_f d scr L call 40 n 165 lv (.ref x :: st) h
    | _ => none) := k_la (i := .aload_n 0) rfl rfl rfl rfl
theorem s_40_165 (d L n : Nat) (scr : Nat → Int32) (call : Nat → List Value → am_H → Option am_X) (lv : am_L) (st : List Value) (h : am_H) (a : Nat) : am_f d scr L call 40 (n + 1) 165 lv (.ref a :: st) h = (match am_get h a 3 17 with
    | some v => am_f d scr L call 40 n 168 lv (v :: st) h
    | none => none) := k_gf (k := 121) rfl rfl
theorem s_40_168 (d L n : Nat) (scr : Nat → Int32) (call : Nat → List Value → am_H → Option am_X) (lv : am_L) (h : am_H) (o : Nat) (a0 : Int64)  : am_f d scr L call 40 (n + 1) 168 lv (.long a0 :: .ref o :: []) h = if am_at h o 3 = true then (match call 43 [.ref o, .long a0] h with
    | some (v, h', dk, dn) => am_add dk dn (am_f d scr L call 40 n 171 lv (v.toList ++ []) h')
    | none => none) else none := k_iv0 (k := 166) (as := [.long a0]) (r := []) rfl rfl rfl rfl (Nat.le_of_ble_eq_true rfl)
theorem s_40_171 (d L n : Nat) (scr : Nat → Int32) (call : Nat → List Value → am_H → Option am_X) (lv : am_L) (st : List Value) (h : am_H) : am_f d scr L call 40 (n + 1) 171 lv st h = am_f d scr L call 40 n 202 lv st h := k_nx (i := .goto 31) rfl rfl
theorem s_40_174 (d L n : Nat) (scr : Nat → Int32) (call : Nat → List Value → am_H → Option am_X) (lv : am_L) (st : List Value) (h : am_H) : am_f d scr L call 40 (n + 1) 174 lv st h = (match am_ld lv 0 with
    | some (.ref x) => am_f d scr L call 40 n 175 lv (.ref x :: st) h
    | _ => none) := k_la (i := .aload_n 0) rfl rfl rfl rfl
theorem s_40_175 (d L n : Nat) (scr : Nat → Int32) (call : Nat → List Value → am_H → Option am_X) (lv : am_L) (st : List Value) (h : am_H) (a : Nat) : am_f d scr L call 40 (n + 1) 175 lv (.ref a :: st) h = (match am_get h a 3 5 with
    | some v => am_f d scr L call 40 n 178 lv (v :: st) h
    | none => none) := k_gf (k := 46) rfl rfl
theorem s_40_178 (d L n : Nat) (scr : Nat → Int32) (call : Nat → List Value → am_H → Option am_X) (lv : am_L) (st : List Value) (h : am_H) : am_f d scr L call 40 (n + 1) 178 lv st h = (match am_ld lv 0 with
    | some (.ref x) => am_f d scr L call 40 n 179 lv (.ref x :: st) h
    | _ => none) := k_la (i := .aload_n 0) rfl rfl rfl rfl
theorem s_40_179 (d L n : Nat) (scr : Nat → Int32) (call : Nat → List Value → am_H → Option am_X) (lv : am_L) (st : List Value) (h : am_H) (a : Nat) : am_f d scr L call 40 (n + 1) 179 lv (.ref a :: st) h = (match am_get h a 3 6 with
    | some v => am_f d scr L call 40 n 182 lv (v :: st) h
    | none => none) := k_gf (k := 84) rfl rfl
theorem s_40_182 (d L n : Nat) (scr : Nat → Int32) (call : Nat → List Value → am_H → Option am_X) (lv : am_L) (st : List Value) (h : am_H) : am_f d scr L call 40 (n + 1) 182 lv st h = am_f d scr L call 40 n 183 lv (.int 1 :: st) h := k_nx (i := .iconst 1) rfl rfl
theorem s_40_183 (d L n : Nat) (scr : Nat → Int32) (call : Nat → List Value → am_H → Option am_X) (lv : am_L) (st : List Value) (h : am_H) (x y : Int32) : am_f d scr L call 40 (n + 1) 183 lv (.int y :: .int x :: st) h = am_f d scr L call 40 n 184 lv (.int (x - y) :: st) h := k_nx (i := .isub) rfl rfl
theorem s_40_184 (d L n : Nat) (scr : Nat → Int32) (call : Nat → List Value → am_H → Option am_X) (lv : am_L) (st : List Value) (h : am_H) : am_f d scr L call 40 (n + 1) 184 lv st h = (match am_ld lv 0 with
    | some (.ref x) => am_f d scr L call 40 n 185 lv (.ref x :: st) h
    | _ => none) := k_la (i := .aload_n 0) rfl rfl rfl rfl
theorem s_40_185 (d L n : Nat) (scr : Nat → Int32) (call : Nat → List Value → am_H → Option am_X) (lv : am_L) (st : List Value) (h : am_H) (a : Nat) : am_f d scr L call 40 (n + 1) 185 lv (.ref a :: st) h = (match am_get h a 3 17 with
    | some v => am_f d scr L call 40 n 188 lv (v :: st) h
    | none => none) := k_gf (k := 121) rfl rfl
theorem s_40_188 (d L n : Nat) (scr : Nat → Int32) (call : Nat → List Value → am_H → Option am_X) (lv : am_L) (st : List Value) (h : am_H) (a : Nat) (i : Int32) (x : Int64) : am_f d scr L call 40 (n + 1) 188 lv (.long x :: .int i :: .ref a :: st) h = (match am_lst h a i x with
    | some h' => am_f d scr L call 40 n 189 lv st h'
    | none => none) := k_js rfl
theorem s_40_189 (d L n : Nat) (scr : Nat → Int32) (call : Nat → List Value → am_H → Option am_X) (lv : am_L) (st : List Value) (h : am_H) : am_f d scr L call 40 (n + 1) 189 lv st h = (match am_ld lv 0 with
    | some (.ref x) => am_f d scr L call 40 n 190 lv (.ref x :: st) h
    | _ => none) := k_la (i := .aload_n 0) rfl rfl rfl rfl
theorem s_40_190 (d L n : Nat) (scr : Nat → Int32) (call : Nat → List Value → am_H → Option am_X) (lv : am_L) (st : List Value) (h : am_H) : am_f d scr L call 40 (n + 1) 190 lv st h = (match am_ld lv 0 with
    | some (.ref x) => am_f d scr L call 40 n 191 lv (.ref x :: st) h
    | _ => none) := k_la (i := .aload_n 0) rfl rfl rfl rfl
theorem s_40_191 (d L n : Nat) (scr : Nat → Int32) (call : Nat → List Value → am_H → Option am_X) (lv : am_L) (st : List Value) (h : am_H) (a : Nat) : am_f d scr L call 40 (n + 1) 191 lv (.ref a :: st) h = (match am_get h a 3 0 with
    | some v => am_f d scr L call 40 n 194 lv (v :: st) h
    | none => none) := k_gf (k := 13) rfl rfl
theorem s_40_194 (d L n : Nat) (scr : Nat → Int32) (call : Nat → List Value → am_H → Option am_X) (lv : am_L) (st : List Value) (h : am_H) (a : Nat) : am_f d scr L call 40 (n + 1) 194 lv (.ref a :: st) h = (match am_get h a 5 4 with
    | some v => am_f d scr L call 40 n 197 lv (v :: st) h
    | none => none) := k_gf (k := 179) rfl rfl
set_option maxRecDepth 100000 in
theorem s_40_197 (d L n : Nat) (scr : Nat → Int32) (call : Nat → List Value → am_H → Option am_X) (lv : am_L) (st : List Value) (h : am_H) : am_f d scr L call 40 (n + 1) 197 lv st h = (match am_ld lv 1 with
    | some (.int x) => am_f d scr L call 40 n 198 lv (.int x :: st) h
    | _ => none) := k_li (i := .iload_n 1) rfl rfl rfl rfl
set_option maxRecDepth 100000 in
theorem s_40_198 (d L n : Nat) (scr : Nat → Int32) (call : Nat → List Value → am_H → Option am_X) (lv : am_L) (st : List Value) (h : am_H) (a : Nat) (i : Int32) : am_f d scr L call 40 (n + 1) 198 lv (.int i :: .ref a :: st) h = (match am_ild scr L h a i with
    | some x => am_f d scr L call 40 n 199 lv (.int x :: st) h
    | none => none) := k_ia rfl
set_option maxRecDepth 100000 in
theorem s_40_199 (d L n : Nat) (scr : Nat → Int32) (call : Nat → List Value → am_H → Option am_X) (lv : am_L) (h : am_H) (o : Nat) (a0 : Int32)  : am_f d scr L call 40 (n + 1) 199 lv (.int a0 :: .ref o :: []) h = if am_at h o 3 = true then (match call 42 [.ref o, .int a0] h with
    | some (v, h', dk, dn) => am_add dk dn (am_f d scr L call 40 n 202 lv (v.toList ++ []) h')
    | none => none) else none := k_iv0 (k := 185) (as := [.int a0]) (r := []) rfl rfl rfl rfl (Nat.le_of_ble_eq_true rfl)
set_option maxRecDepth 100000 in
theorem s_40_202 (d L n : Nat) (scr : Nat → Int32) (call : Nat → List Value → am_H → Option am_X) (lv : am_L) (h : am_H) : am_f d scr L call 40 (n + 1) 202 lv [] h = some (none, h, 0, 0) := k_vr rfl rfl
-- 41: BlameDesk$Machine.goOnBehindLast()V
theorem s_41_0 (d L n : Nat) (scr : Nat → Int32) (call : Nat → List Value → am_H → Option am_X) (lv : am_L) (st : List Value) (h : am_H) : am_f d scr L call 41 (n + 1) 0 lv st h = (match am_ld lv 0 with
    | some (.ref x) => am_f d scr L call 41 n 1 lv (.ref x :: st) h
    | _ => none) := k_la (i := .aload_n 0) rfl rfl rfl rfl
theorem s_41_1 (d L n : Nat) (scr : Nat → Int32) (call : Nat → List Value → am_H → Option am_X) (lv : am_L) (st : List Value) (h : am_H) (a : Nat) : am_f d scr L call 41 (n + 1) 1 lv (.ref a :: st) h = (match am_get h a 3 5 with
    | some v => am_f d scr L call 41 n 4 lv (v :: st) h
    | none => none) := k_gf (k := 46) rfl rfl
theorem s_41_4 (d L n : Nat) (scr : Nat → Int32) (call : Nat → List Value → am_H → Option am_X) (lv : am_L) (st : List Value) (h : am_H) : am_f d scr L call 41 (n + 1) 4 lv st h = (match am_ld lv 0 with
    | some (.ref x) => am_f d scr L call 41 n 5 lv (.ref x :: st) h
    | _ => none) := k_la (i := .aload_n 0) rfl rfl rfl rfl
theorem s_41_5 (d L n : Nat) (scr : Nat → Int32) (call : Nat → List Value → am_H → Option am_X) (lv : am_L) (st : List Value) (h : am_H) (a : Nat) : am_f d scr L call 41 (n + 1) 5 lv (.ref a :: st) h = (match am_get h a 3 6 with
    | some v => am_f d scr L call 41 n 8 lv (v :: st) h
    | none => none) := k_gf (k := 84) rfl rfl
theorem s_41_8 (d L n : Nat) (scr : Nat → Int32) (call : Nat → List Value → am_H → Option am_X) (lv : am_L) (st : List Value) (h : am_H) : am_f d scr L call 41 (n + 1) 8 lv st h = am_f d scr L call 41 n 9 lv (.int 1 :: st) h := k_nx (i := .iconst 1) rfl rfl
theorem s_41_9 (d L n : Nat) (scr : Nat → Int32) (call : Nat → List Value → am_H → Option am_X) (lv : am_L) (st : List Value) (h : am_H) (x y : Int32) : am_f d scr L call 41 (n + 1) 9 lv (.int y :: .int x :: st) h = am_f d scr L call 41 n 10 lv (.int (x - y) :: st) h := k_nx (i := .isub) rfl rfl
theorem s_41_10 (d L n : Nat) (scr : Nat → Int32) (call : Nat → List Value → am_H → Option am_X) (lv : am_L) (st : List Value) (h : am_H) (a : Nat) (i : Int32) : am_f d scr L call 41 (n + 1) 10 lv (.int i :: .ref a :: st) h = (match am_lld h a i with
    | some x => am_f d scr L call 41 n 11 lv (.long x :: st) h
    | none => none) := k_ja rfl
theorem s_41_11 (d L n : Nat) (scr : Nat → Int32) (call : Nat → List Value → am_H → Option am_X) (lv : am_L) (st : List Value) (h : am_H) (x : Int64) : am_f d scr L call 41 (n + 1) 11 lv (.long x :: st) h = am_f d scr L call 41 n 12 (am_st2 lv 1 (.long x)) st h := k_nx (i := .lstore_n 1) rfl rfl
theorem s_41_12 (d L n : Nat) (scr : Nat → Int32) (call : Nat → List Value → am_H → Option am_X) (lv : am_L) (st : List Value) (h : am_H) : am_f d scr L call 41 (n + 1) 12 lv st h = (match am_ld lv 1 with
    | some (.long x) => am_f d scr L call 41 n 13 lv (.long x :: st) h
    | _ => none) := k_ll (i := .lload_n 1) rfl rfl rfl rfl
theorem s_41_13 (d L n : Nat) (scr : Nat → Int32) (call : Nat → List Value → am_H → Option am_X) (lv : am_L) (h : am_H) (a0 : Int64)  : am_f d scr L call 41 (n + 1) 13 lv (.long a0 :: []) h = (match call 87 [.long a0] h with
    | some (v, h', dk, dn) => am_add dk dn (am_f d scr L call 41 n 16 lv (v.toList ++ []) h')
    | none => none) := k_iv1 (k := 131) (as := [.long a0]) (r := []) rfl rfl rfl rfl (Nat.le_of_ble_eq_true rfl)
theorem s_41_16 (d L n : Nat) (scr : Nat → Int32) (call : Nat → List Value → am_H → Option am_X) (lv : am_L) (st : List Value) (h : am_H) (x : Int32) : am_f d scr L call 41 (n + 1) 16 lv (.int x :: st) h = am_f d scr L call 41 n 17 (am_st1 lv 3 (.int x)) st h := k_nx (i := .istore_n 3) rfl rfl
theorem s_41_17 (d L n : Nat) (scr : Nat → Int32) (call : Nat → List Value → am_H → Option am_X) (lv : am_L) (st : List Value) (h : am_H) : am_f d scr L call 41 (n + 1) 17 lv st h = (match am_ld lv 0 with
    | some (.ref x) => am_f d scr L call 41 n 18 lv (.ref x :: st) h
    | _ => none) := k_la (i := .aload_n 0) rfl rfl rfl rfl
theorem s_41_18 (d L n : Nat) (scr : Nat → Int32) (call : Nat → List Value → am_H → Option am_X) (lv : am_L) (st : List Value) (h : am_H) (a : Nat) : am_f d scr L call 41 (n + 1) 18 lv (.ref a :: st) h = (match am_get h a 3 17 with
    | some v => am_f d scr L call 41 n 21 lv (v :: st) h
    | none => none) := k_gf (k := 121) rfl rfl
theorem s_41_21 (d L n : Nat) (scr : Nat → Int32) (call : Nat → List Value → am_H → Option am_X) (lv : am_L) (h : am_H) (a0 : Int64)  : am_f d scr L call 41 (n + 1) 21 lv (.long a0 :: []) h = (match call 87 [.long a0] h with
    | some (v, h', dk, dn) => am_add dk dn (am_f d scr L call 41 n 24 lv (v.toList ++ []) h')
    | none => none) := k_iv1 (k := 131) (as := [.long a0]) (r := []) rfl rfl rfl rfl (Nat.le_of_ble_eq_true rfl)
theorem s_41_24 (d L n : Nat) (scr : Nat → Int32) (call : Nat → List Value → am_H → Option am_X) (lv : am_L) (st : List Value) (h : am_H) (x : Int32) : am_f d scr L call 41 (n + 1) 24 lv (.int x :: st) h = am_f d scr L call 41 n 26 (am_st1 lv 4 (.int x)) st h := k_nx (i := .istore 4) rfl rfl
theorem s_41_26 (d L n : Nat) (scr : Nat → Int32) (call : Nat → List Value → am_H → Option am_X) (lv : am_L) (st : List Value) (h : am_H) : am_f d scr L call 41 (n + 1) 26 lv st h = (match am_ld lv 0 with
    | some (.ref x) => am_f d scr L call 41 n 27 lv (.ref x :: st) h
    | _ => none) := k_la (i := .aload_n 0) rfl rfl rfl rfl
theorem s_41_27 (d L n : Nat) (scr : Nat → Int32) (call : Nat → List Value → am_H → Option am_X) (lv : am_L) (st : List Value) (h : am_H) (a : Nat) : am_f d scr L call 41 (n + 1) 27 lv (.ref a :: st) h = (match am_get h a 3 0 with
    | some v => am_f d scr L call 41 n 30 lv (v :: st) h
    | none => none) := k_gf (k := 13) rfl rfl
theorem s_41_30 (d L n : Nat) (scr : Nat → Int32) (call : Nat → List Value → am_H → Option am_X) (lv : am_L) (st : List Value) (h : am_H) (a : Nat) : am_f d scr L call 41 (n + 1) 30 lv (.ref a :: st) h = (match am_get h a 5 1 with
    | some v => am_f d scr L call 41 n 33 lv (v :: st) h
    | none => none) := k_gf (k := 138) rfl rfl
theorem s_41_33 (d L n : Nat) (scr : Nat → Int32) (call : Nat → List Value → am_H → Option am_X) (lv : am_L) (st : List Value) (h : am_H) : am_f d scr L call 41 (n + 1) 33 lv st h = (match am_ld lv 0 with
    | some (.ref x) => am_f d scr L call 41 n 34 lv (.ref x :: st) h
    | _ => none) := k_la (i := .aload_n 0) rfl rfl rfl rfl
theorem s_41_34 (d L n : Nat) (scr : Nat → Int32) (call : Nat → List Value → am_H → Option am_X) (lv : am_L) (st : List Value) (h : am_H) (a : Nat) : am_f d scr L call 41 (n + 1) 34 lv (.ref a :: st) h = (match am_get h a 3 3 with
    | some v => am_f d scr L call 41 n 37 lv (v :: st) h
    | none => none) := k_gf (k := 39) rfl rfl
theorem s_41_37 (d L n : Nat) (scr : Nat → Int32) (call : Nat → List Value → am_H → Option am_X) (lv : am_L) (st : List Value) (h : am_H) : am_f d scr L call 41 (n + 1) 37 lv st h = (match am_ld lv 0 with
    | some (.ref x) => am_f d scr L call 41 n 38 lv (.ref x :: st) h
    | _ => none) := k_la (i := .aload_n 0) rfl rfl rfl rfl
theorem s_41_38 (d L n : Nat) (scr : Nat → Int32) (call : Nat → List Value → am_H → Option am_X) (lv : am_L) (st : List Value) (h : am_H) (a : Nat) : am_f d scr L call 41 (n + 1) 38 lv (.ref a :: st) h = (match am_get h a 3 6 with
    | some v => am_f d scr L call 41 n 41 lv (v :: st) h
    | none => none) := k_gf (k := 84) rfl rfl
theorem s_41_41 (d L n : Nat) (scr : Nat → Int32) (call : Nat → List Value → am_H → Option am_X) (lv : am_L) (st : List Value) (h : am_H) : am_f d scr L call 41 (n + 1) 41 lv st h = am_f d scr L call 41 n 42 lv (.int 1 :: st) h := k_nx (i := .iconst 1) rfl rfl
theorem s_41_42 (d L n : Nat) (scr : Nat → Int32) (call : Nat → List Value → am_H → Option am_X) (lv : am_L) (st : List Value) (h : am_H) (x y : Int32) : am_f d scr L call 41 (n + 1) 42 lv (.int y :: .int x :: st) h = am_f d scr L call 41 n 43 lv (.int (x - y) :: st) h := k_nx (i := .isub) rfl rfl
theorem s_41_43 (d L n : Nat) (scr : Nat → Int32) (call : Nat → List Value → am_H → Option am_X) (lv : am_L) (st : List Value) (h : am_H) (a : Nat) (i : Int32) : am_f d scr L call 41 (n + 1) 43 lv (.int i :: .ref a :: st) h = (match am_ild scr L h a i with
    | some x => am_f d scr L call 41 n 44 lv (.int x :: st) h
    | none => none) := k_ia rfl
theorem s_41_44 (d L n : Nat) (scr : Nat → Int32) (call : Nat → List Value → am_H → Option am_X) (lv : am_L) (st : List Value) (h : am_H) (a : Nat) (i : Int32) : am_f d scr L call 41 (n + 1) 44 lv (.int i :: .ref a :: st) h = (match am_ild scr L h a i with
    | some x => am_f d scr L call 41 n 45 lv (.int x :: st) h
    | none => none) := k_ia rfl
set_option maxRecDepth 100000 in
theorem s_41_45 (d L n : Nat) (scr : Nat → Int32) (call : Nat → List Value → am_H → Option am_X) (lv : am_L) (st : List Value) (h : am_H) (x : Int32) : am_f d scr L call 41 (n + 1) 45 lv (.int x :: st) h = if x = 4 then am_f d scr L call 41 n 80 lv st h else if x = 5 then am_f d scr L call 41 n 88 lv st h else if x = 6 then am_f d scr L call 41 n 96 lv st h else if x = 7 then am_f d scr L call 41 n 111 lv st h else if x = 8 then am_f d scr L call 41 n 126 lv st h else am_f d scr L call 41 n 148 lv st h := by
  by_cases h4 : x = 4
  · subst h4
    exact k_nx (i := .tableswitch 103 4 8 #[35, 43, 51, 66, 81]) rfl rfl
  by_cases h5 : x = 5
  · subst h5
    exact k_nx (i := .tableswitch 103 4 8 #[35, 43, 51, 66, 81]) rfl rfl
  by_cases h6 : x = 6
  · subst h6
    exact k_nx (i := .tableswitch 103 4 8 #[35, 43, 51, 66, 81]) rfl rfl
  by_cases h7 : x = 7
  · subst h7
    exact k_nx (i := .tableswitch 103 4 8 #[35, 43, 51, 66, 81]) rfl rfl
  by_cases h8 : x = 8
  · subst h8
    exact k_nx (i := .tableswitch 103 4 8 #[35, 43, 51, 66, 81]) rfl rfl
  have hn : x.toInt < 4 ∨ 8 < x.toInt := by
    have hh : ∀ k : Int32, ¬ x = k → ¬ x.toInt = k.toInt := fun k hk z => hk (Int32.toInt_inj.mp z)
    have g4 : ¬ x.toInt = 4 := hh 4 h4
    have g5 : ¬ x.toInt = 5 := hh 5 h5
    have g6 : ¬ x.toInt = 6 := hh 6 h6
    have g7 : ¬ x.toInt = 7 := hh 7 h7
    have g8 : ¬ x.toInt = 8 := hh 8 h8
    omega
  rw [if_neg h4, if_neg h5, if_neg h6, if_neg h7, if_neg h8]
  refine k_nx (i := .tableswitch 103 4 8 #[35, 43, 51, 66, 81]) rfl ?_
  simp only [am_s, if_pos hn]
  rfl
theorem s_41_80 (d L n : Nat) (scr : Nat → Int32) (call : Nat → List Value → am_H → Option am_X) (lv : am_L) (st : List Value) (h : am_H) : am_f d scr L call 41 (n + 1) 80 lv st h = (match am_ld lv 0 with
    | some (.ref x) => am_f d scr L call 41 n 81 lv (.ref x :: st) h
    | _ => none) := k_la (i := .aload_n 0) rfl rfl rfl rfl
theorem s_41_81 (d L n : Nat) (scr : Nat → Int32) (call : Nat → List Value → am_H → Option am_X) (lv : am_L) (st : List Value) (h : am_H) : am_f d scr L call 41 (n + 1) 81 lv st h = (match am_ld lv 1 with
    | some (.long x) => am_f d scr L call 41 n 82 lv (.long x :: st) h
    | _ => none) := k_ll (i := .lload_n 1) rfl rfl rfl rfl
theorem s_41_82 (d L n : Nat) (scr : Nat → Int32) (call : Nat → List Value → am_H → Option am_X) (lv : am_L) (h : am_H) (o : Nat) (a0 : Int64)  : am_f d scr L call 41 (n + 1) 82 lv (.long a0 :: .ref o :: []) h = if am_at h o 3 = true then (match call 46 [.ref o, .long a0] h with
    | some (v, h', dk, dn) => am_add dk dn (am_f d scr L call 41 n 85 lv (v.toList ++ []) h')
    | none => none) else none := k_iv0 (k := 198) (as := [.long a0]) (r := []) rfl rfl rfl rfl (Nat.le_of_ble_eq_true rfl)
theorem s_41_85 (d L n : Nat) (scr : Nat → Int32) (call : Nat → List Value → am_H → Option am_X) (lv : am_L) (st : List Value) (h : am_H) : am_f d scr L call 41 (n + 1) 85 lv st h = am_f d scr L call 41 n 156 lv st h := k_nx (i := .goto 71) rfl rfl
theorem s_41_88 (d L n : Nat) (scr : Nat → Int32) (call : Nat → List Value → am_H → Option am_X) (lv : am_L) (st : List Value) (h : am_H) : am_f d scr L call 41 (n + 1) 88 lv st h = (match am_ld lv 0 with
    | some (.ref x) => am_f d scr L call 41 n 89 lv (.ref x :: st) h
    | _ => none) := k_la (i := .aload_n 0) rfl rfl rfl rfl
theorem s_41_89 (d L n : Nat) (scr : Nat → Int32) (call : Nat → List Value → am_H → Option am_X) (lv : am_L) (st : List Value) (h : am_H) : am_f d scr L call 41 (n + 1) 89 lv st h = (match am_ld lv 1 with
    | some (.long x) => am_f d scr L call 41 n 90 lv (.long x :: st) h
    | _ => none) := k_ll (i := .lload_n 1) rfl rfl rfl rfl
theorem s_41_90 (d L n : Nat) (scr : Nat → Int32) (call : Nat → List Value → am_H → Option am_X) (lv : am_L) (h : am_H) (o : Nat) (a0 : Int64)  : am_f d scr L call 41 (n + 1) 90 lv (.long a0 :: .ref o :: []) h = if am_at h o 3 = true then (match call 45 [.ref o, .long a0] h with
    | some (v, h', dk, dn) => am_add dk dn (am_f d scr L call 41 n 93 lv (v.toList ++ []) h')
    | none => none) else none := k_iv0 (k := 201) (as := [.long a0]) (r := []) rfl rfl rfl rfl (Nat.le_of_ble_eq_true rfl)
theorem s_41_93 (d L n : Nat) (scr : Nat → Int32) (call : Nat → List Value → am_H → Option am_X) (lv : am_L) (st : List Value) (h : am_H) : am_f d scr L call 41 (n + 1) 93 lv st h = am_f d scr L call 41 n 156 lv st h := k_nx (i := .goto 63) rfl rfl
theorem s_41_96 (d L n : Nat) (scr : Nat → Int32) (call : Nat → List Value → am_H → Option am_X) (lv : am_L) (st : List Value) (h : am_H) : am_f d scr L call 41 (n + 1) 96 lv st h = (match am_ld lv 0 with
    | some (.ref x) => am_f d scr L call 41 n 97 lv (.ref x :: st) h
    | _ => none) := k_la (i := .aload_n 0) rfl rfl rfl rfl
theorem s_41_97 (d L n : Nat) (scr : Nat → Int32) (call : Nat → List Value → am_H → Option am_X) (lv : am_L) (st : List Value) (h : am_H) : am_f d scr L call 41 (n + 1) 97 lv st h = am_f d scr L call 41 n 98 lv (.int 0 :: st) h := k_nx (i := .iconst 0) rfl rfl
theorem s_41_98 (d L n : Nat) (scr : Nat → Int32) (call : Nat → List Value → am_H → Option am_X) (lv : am_L) (st : List Value) (h : am_H) : am_f d scr L call 41 (n + 1) 98 lv st h = (match am_ld lv 3 with
    | some (.int x) => am_f d scr L call 41 n 99 lv (.int x :: st) h
    | _ => none) := k_li (i := .iload_n 3) rfl rfl rfl rfl
theorem s_41_99 (d L n : Nat) (scr : Nat → Int32) (call : Nat → List Value → am_H → Option am_X) (lv : am_L) (st : List Value) (h : am_H) : am_f d scr L call 41 (n + 1) 99 lv st h = (match am_ld lv 4 with
    | some (.int x) => am_f d scr L call 41 n 101 lv (.int x :: st) h
    | _ => none) := k_li (i := .iload 4) rfl rfl rfl rfl
theorem s_41_101 (d L n : Nat) (scr : Nat → Int32) (call : Nat → List Value → am_H → Option am_X) (lv : am_L) (st : List Value) (h : am_H) (x y : Int32) : am_f d scr L call 41 (n + 1) 101 lv (.int y :: .int x :: st) h = am_f d scr L call 41 n 102 lv (.int (x + y) :: st) h := k_nx (i := .iadd) rfl rfl
theorem s_41_102 (d L n : Nat) (scr : Nat → Int32) (call : Nat → List Value → am_H → Option am_X) (lv : am_L) (h : am_H) (a0 : Int32) (a1 : Int32) (r0 : Nat) : am_f d scr L call 41 (n + 1) 102 lv (.int a1 :: .int a0 :: .ref r0 :: []) h = (match call 84 [.int a0, .int a1] h with
    | some (v, h', dk, dn) => am_add dk dn (am_f d scr L call 41 n 105 lv (v.toList ++ [.ref r0]) h')
    | none => none) := k_iv1 (k := 144) (as := [.int a0, .int a1]) (r := [.ref r0]) rfl rfl rfl rfl (Nat.le_of_ble_eq_true rfl)
theorem s_41_105 (d L n : Nat) (scr : Nat → Int32) (call : Nat → List Value → am_H → Option am_X) (lv : am_L) (h : am_H) (o : Nat) (a0 : Int64)  : am_f d scr L call 41 (n + 1) 105 lv (.long a0 :: .ref o :: []) h = if am_at h o 3 = true then (match call 43 [.ref o, .long a0] h with
    | some (v, h', dk, dn) => am_add dk dn (am_f d scr L call 41 n 108 lv (v.toList ++ []) h')
    | none => none) else none := k_iv0 (k := 166) (as := [.long a0]) (r := []) rfl rfl rfl rfl (Nat.le_of_ble_eq_true rfl)
theorem s_41_108 (d L n : Nat) (scr : Nat → Int32) (call : Nat → List Value → am_H → Option am_X) (lv : am_L) (st : List Value) (h : am_H) : am_f d scr L call 41 (n + 1) 108 lv st h = am_f d scr L call 41 n 156 lv st h := k_nx (i := .goto 48) rfl rfl
theorem s_41_111 (d L n : Nat) (scr : Nat → Int32) (call : Nat → List Value → am_H → Option am_X) (lv : am_L) (st : List Value) (h : am_H) : am_f d scr L call 41 (n + 1) 111 lv st h = (match am_ld lv 0 with
    | some (.ref x) => am_f d scr L call 41 n 112 lv (.ref x :: st) h
    | _ => none) := k_la (i := .aload_n 0) rfl rfl rfl rfl
theorem s_41_112 (d L n : Nat) (scr : Nat → Int32) (call : Nat → List Value → am_H → Option am_X) (lv : am_L) (st : List Value) (h : am_H) : am_f d scr L call 41 (n + 1) 112 lv st h = am_f d scr L call 41 n 113 lv (.int 0 :: st) h := k_nx (i := .iconst 0) rfl rfl
theorem s_41_113 (d L n : Nat) (scr : Nat → Int32) (call : Nat → List Value → am_H → Option am_X) (lv : am_L) (st : List Value) (h : am_H) : am_f d scr L call 41 (n + 1) 113 lv st h = (match am_ld lv 3 with
    | some (.int x) => am_f d scr L call 41 n 114 lv (.int x :: st) h
    | _ => none) := k_li (i := .iload_n 3) rfl rfl rfl rfl
theorem s_41_114 (d L n : Nat) (scr : Nat → Int32) (call : Nat → List Value → am_H → Option am_X) (lv : am_L) (st : List Value) (h : am_H) : am_f d scr L call 41 (n + 1) 114 lv st h = (match am_ld lv 4 with
    | some (.int x) => am_f d scr L call 41 n 116 lv (.int x :: st) h
    | _ => none) := k_li (i := .iload 4) rfl rfl rfl rfl
theorem s_41_116 (d L n : Nat) (scr : Nat → Int32) (call : Nat → List Value → am_H → Option am_X) (lv : am_L) (st : List Value) (h : am_H) (x y : Int32) : am_f d scr L call 41 (n + 1) 116 lv (.int y :: .int x :: st) h = am_f d scr L call 41 n 117 lv (.int (x - y) :: st) h := k_nx (i := .isub) rfl rfl
theorem s_41_117 (d L n : Nat) (scr : Nat → Int32) (call : Nat → List Value → am_H → Option am_X) (lv : am_L) (h : am_H) (a0 : Int32) (a1 : Int32) (r0 : Nat) : am_f d scr L call 41 (n + 1) 117 lv (.int a1 :: .int a0 :: .ref r0 :: []) h = (match call 84 [.int a0, .int a1] h with
    | some (v, h', dk, dn) => am_add dk dn (am_f d scr L call 41 n 120 lv (v.toList ++ [.ref r0]) h')
    | none => none) := k_iv1 (k := 144) (as := [.int a0, .int a1]) (r := [.ref r0]) rfl rfl rfl rfl (Nat.le_of_ble_eq_true rfl)
theorem s_41_120 (d L n : Nat) (scr : Nat → Int32) (call : Nat → List Value → am_H → Option am_X) (lv : am_L) (h : am_H) (o : Nat) (a0 : Int64)  : am_f d scr L call 41 (n + 1) 120 lv (.long a0 :: .ref o :: []) h = if am_at h o 3 = true then (match call 43 [.ref o, .long a0] h with
    | some (v, h', dk, dn) => am_add dk dn (am_f d scr L call 41 n 123 lv (v.toList ++ []) h')
    | none => none) else none := k_iv0 (k := 166) (as := [.long a0]) (r := []) rfl rfl rfl rfl (Nat.le_of_ble_eq_true rfl)
theorem s_41_123 (d L n : Nat) (scr : Nat → Int32) (call : Nat → List Value → am_H → Option am_X) (lv : am_L) (st : List Value) (h : am_H) : am_f d scr L call 41 (n + 1) 123 lv st h = am_f d scr L call 41 n 156 lv st h := k_nx (i := .goto 33) rfl rfl
theorem s_41_126 (d L n : Nat) (scr : Nat → Int32) (call : Nat → List Value → am_H → Option am_X) (lv : am_L) (st : List Value) (h : am_H) : am_f d scr L call 41 (n + 1) 126 lv st h = (match am_ld lv 0 with
    | some (.ref x) => am_f d scr L call 41 n 127 lv (.ref x :: st) h
    | _ => none) := k_la (i := .aload_n 0) rfl rfl rfl rfl
theorem s_41_127 (d L n : Nat) (scr : Nat → Int32) (call : Nat → List Value → am_H → Option am_X) (lv : am_L) (st : List Value) (h : am_H) : am_f d scr L call 41 (n + 1) 127 lv st h = am_f d scr L call 41 n 128 lv (.int 1 :: st) h := k_nx (i := .iconst 1) rfl rfl
theorem s_41_128 (d L n : Nat) (scr : Nat → Int32) (call : Nat → List Value → am_H → Option am_X) (lv : am_L) (st : List Value) (h : am_H) : am_f d scr L call 41 (n + 1) 128 lv st h = (match am_ld lv 3 with
    | some (.int x) => am_f d scr L call 41 n 129 lv (.int x :: st) h
    | _ => none) := k_li (i := .iload_n 3) rfl rfl rfl rfl
theorem s_41_129 (d L n : Nat) (scr : Nat → Int32) (call : Nat → List Value → am_H → Option am_X) (lv : am_L) (st : List Value) (h : am_H) : am_f d scr L call 41 (n + 1) 129 lv st h = (match am_ld lv 4 with
    | some (.int x) => am_f d scr L call 41 n 131 lv (.int x :: st) h
    | _ => none) := k_li (i := .iload 4) rfl rfl rfl rfl
theorem s_41_131 (d L n : Nat) (scr : Nat → Int32) (call : Nat → List Value → am_H → Option am_X) (lv : am_L) (st : List Value) (h : am_H) (x y : Int32) : am_f d scr L call 41 (n + 1) 131 lv (.int y :: .int x :: st) h = if y ≤ x then am_f d scr L call 41 n 138 lv st h else am_f d scr L call 41 n 134 lv st h := k_ic_ge (o := 7) rfl ⟨by decide, rfl⟩
theorem s_41_134 (d L n : Nat) (scr : Nat → Int32) (call : Nat → List Value → am_H → Option am_X) (lv : am_L) (st : List Value) (h : am_H) : am_f d scr L call 41 (n + 1) 134 lv st h = am_f d scr L call 41 n 135 lv (.int 1 :: st) h := k_nx (i := .iconst 1) rfl rfl
theorem s_41_135 (d L n : Nat) (scr : Nat → Int32) (call : Nat → List Value → am_H → Option am_X) (lv : am_L) (st : List Value) (h : am_H) : am_f d scr L call 41 (n + 1) 135 lv st h = am_f d scr L call 41 n 139 lv st h := k_nx (i := .goto 4) rfl rfl
theorem s_41_138 (d L n : Nat) (scr : Nat → Int32) (call : Nat → List Value → am_H → Option am_X) (lv : am_L) (st : List Value) (h : am_H) : am_f d scr L call 41 (n + 1) 138 lv st h = am_f d scr L call 41 n 139 lv (.int 0 :: st) h := k_nx (i := .iconst 0) rfl rfl
theorem s_41_139 (d L n : Nat) (scr : Nat → Int32) (call : Nat → List Value → am_H → Option am_X) (lv : am_L) (h : am_H) (a0 : Int32) (a1 : Int32) (r0 : Nat) : am_f d scr L call 41 (n + 1) 139 lv (.int a1 :: .int a0 :: .ref r0 :: []) h = (match call 84 [.int a0, .int a1] h with
    | some (v, h', dk, dn) => am_add dk dn (am_f d scr L call 41 n 142 lv (v.toList ++ [.ref r0]) h')
    | none => none) := k_iv1 (k := 144) (as := [.int a0, .int a1]) (r := [.ref r0]) rfl rfl rfl rfl (Nat.le_of_ble_eq_true rfl)
theorem s_41_142 (d L n : Nat) (scr : Nat → Int32) (call : Nat → List Value → am_H → Option am_X) (lv : am_L) (h : am_H) (o : Nat) (a0 : Int64)  : am_f d scr L call 41 (n + 1) 142 lv (.long a0 :: .ref o :: []) h = if am_at h o 3 = true then (match call 43 [.ref o, .long a0] h with
    | some (v, h', dk, dn) => am_add dk dn (am_f d scr L call 41 n 145 lv (v.toList ++ []) h')
    | none => none) else none := k_iv0 (k := 166) (as := [.long a0]) (r := []) rfl rfl rfl rfl (Nat.le_of_ble_eq_true rfl)
theorem s_41_145 (d L n : Nat) (scr : Nat → Int32) (call : Nat → List Value → am_H → Option am_X) (lv : am_L) (st : List Value) (h : am_H) : am_f d scr L call 41 (n + 1) 145 lv st h = am_f d scr L call 41 n 156 lv st h := k_nx (i := .goto 11) rfl rfl
theorem s_41_148 (d L n : Nat) (scr : Nat → Int32) (call : Nat → List Value → am_H → Option am_X) (lv : am_L) (st : List Value) (h : am_H) : am_f d scr L call 41 (n + 1) 148 lv st h = (match am_ld lv 0 with
    | some (.ref x) => am_f d scr L call 41 n 149 lv (.ref x :: st) h
    | _ => none) := k_la (i := .aload_n 0) rfl rfl rfl rfl
theorem s_41_149 (d L n : Nat) (scr : Nat → Int32) (call : Nat → List Value → am_H → Option am_X) (lv : am_L) (st : List Value) (h : am_H) : am_f d scr L call 41 (n + 1) 149 lv st h = (match am_ld lv 0 with
    | some (.ref x) => am_f d scr L call 41 n 150 lv (.ref x :: st) h
    | _ => none) := k_la (i := .aload_n 0) rfl rfl rfl rfl
theorem s_41_150 (d L n : Nat) (scr : Nat → Int32) (call : Nat → List Value → am_H → Option am_X) (lv : am_L) (st : List Value) (h : am_H) (a : Nat) : am_f d scr L call 41 (n + 1) 150 lv (.ref a :: st) h = (match am_get h a 3 17 with
    | some v => am_f d scr L call 41 n 153 lv (v :: st) h
    | none => none) := k_gf (k := 121) rfl rfl
theorem s_41_153 (d L n : Nat) (scr : Nat → Int32) (call : Nat → List Value → am_H → Option am_X) (lv : am_L) (h : am_H) (o : Nat) (a0 : Int64)  : am_f d scr L call 41 (n + 1) 153 lv (.long a0 :: .ref o :: []) h = if am_at h o 3 = true then (match call 43 [.ref o, .long a0] h with
    | some (v, h', dk, dn) => am_add dk dn (am_f d scr L call 41 n 156 lv (v.toList ++ []) h')
    | none => none) else none := k_iv0 (k := 166) (as := [.long a0]) (r := []) rfl rfl rfl rfl (Nat.le_of_ble_eq_true rfl)
theorem s_41_156 (d L n : Nat) (scr : Nat → Int32) (call : Nat → List Value → am_H → Option am_X) (lv : am_L) (h : am_H) : am_f d scr L call 41 (n + 1) 156 lv [] h = some (none, h, 0, 0) := k_vr rfl rfl
-- 42: BlameDesk$Machine.workOut(I)V
theorem s_42_0 (d L n : Nat) (scr : Nat → Int32) (call : Nat → List Value → am_H → Option am_X) (lv : am_L) (st : List Value) (h : am_H) : am_f d scr L call 42 (n + 1) 0 lv st h = (match am_ld lv 0 with
    | some (.ref x) => am_f d scr L call 42 n 1 lv (.ref x :: st) h
    | _ => none) := k_la (i := .aload_n 0) rfl rfl rfl rfl
theorem s_42_1 (d L n : Nat) (scr : Nat → Int32) (call : Nat → List Value → am_H → Option am_X) (lv : am_L) (st : List Value) (h : am_H) : am_f d scr L call 42 (n + 1) 1 lv st h = (match am_ld lv 1 with
    | some (.int x) => am_f d scr L call 42 n 2 lv (.int x :: st) h
    | _ => none) := k_li (i := .iload_n 1) rfl rfl rfl rfl
theorem s_42_2 (d L n : Nat) (scr : Nat → Int32) (call : Nat → List Value → am_H → Option am_X) (lv : am_L) (st : List Value) (h : am_H) (x : Int32) (a : Nat) : am_f d scr L call 42 (n + 1) 2 lv (.int x :: .ref a :: st) h = (match am_put h a 3 14 (.int x) with
    | some h' => am_f d scr L call 42 n 5 lv st h'
    | none => none) := k_pf (k := 90) rfl rfl rfl
theorem s_42_5 (d L n : Nat) (scr : Nat → Int32) (call : Nat → List Value → am_H → Option am_X) (lv : am_L) (st : List Value) (h : am_H) : am_f d scr L call 42 (n + 1) 5 lv st h = (match am_ld lv 0 with
    | some (.ref x) => am_f d scr L call 42 n 6 lv (.ref x :: st) h
    | _ => none) := k_la (i := .aload_n 0) rfl rfl rfl rfl
theorem s_42_6 (d L n : Nat) (scr : Nat → Int32) (call : Nat → List Value → am_H → Option am_X) (lv : am_L) (st : List Value) (h : am_H) : am_f d scr L call 42 (n + 1) 6 lv st h = am_f d scr L call 42 n 7 lv (.int 0 :: st) h := k_nx (i := .iconst 0) rfl rfl
theorem s_42_7 (d L n : Nat) (scr : Nat → Int32) (call : Nat → List Value → am_H → Option am_X) (lv : am_L) (st : List Value) (h : am_H) (x : Int32) (a : Nat) : am_f d scr L call 42 (n + 1) 7 lv (.int x :: .ref a :: st) h = if x = 0 ∨ x = 1 then (match am_put h a 3 16 (.int x) with
    | some h' => am_f d scr L call 42 n 10 lv st h'
    | none => none) else none := k_pz (k := 77) rfl rfl
theorem s_42_10 (d L n : Nat) (scr : Nat → Int32) (call : Nat → List Value → am_H → Option am_X) (lv : am_L) (h : am_H) : am_f d scr L call 42 (n + 1) 10 lv [] h = some (none, h, 0, 0) := k_vr rfl rfl
-- 43: BlameDesk$Machine.finish(J)V
theorem s_43_0 (d L n : Nat) (scr : Nat → Int32) (call : Nat → List Value → am_H → Option am_X) (lv : am_L) (st : List Value) (h : am_H) : am_f d scr L call 43 (n + 1) 0 lv st h = (match am_ld lv 0 with
    | some (.ref x) => am_f d scr L call 43 n 1 lv (.ref x :: st) h
    | _ => none) := k_la (i := .aload_n 0) rfl rfl rfl rfl
theorem s_43_1 (d L n : Nat) (scr : Nat → Int32) (call : Nat → List Value → am_H → Option am_X) (lv : am_L) (st : List Value) (h : am_H) (x : Nat) : am_f d scr L call 43 (n + 1) 1 lv (.ref x :: st) h = am_f d scr L call 43 n 2 lv (.ref x :: .ref x :: st) h := k_nx (i := .dup) rfl rfl
theorem s_43_2 (d L n : Nat) (scr : Nat → Int32) (call : Nat → List Value → am_H → Option am_X) (lv : am_L) (st : List Value) (h : am_H) (a : Nat) : am_f d scr L call 43 (n + 1) 2 lv (.ref a :: st) h = (match am_get h a 3 6 with
    | some v => am_f d scr L call 43 n 5 lv (v :: st) h
    | none => none) := k_gf (k := 84) rfl rfl
theorem s_43_5 (d L n : Nat) (scr : Nat → Int32) (call : Nat → List Value → am_H → Option am_X) (lv : am_L) (st : List Value) (h : am_H) : am_f d scr L call 43 (n + 1) 5 lv st h = am_f d scr L call 43 n 6 lv (.int 1 :: st) h := k_nx (i := .iconst 1) rfl rfl
theorem s_43_6 (d L n : Nat) (scr : Nat → Int32) (call : Nat → List Value → am_H → Option am_X) (lv : am_L) (st : List Value) (h : am_H) (x y : Int32) : am_f d scr L call 43 (n + 1) 6 lv (.int y :: .int x :: st) h = am_f d scr L call 43 n 7 lv (.int (x - y) :: st) h := k_nx (i := .isub) rfl rfl
theorem s_43_7 (d L n : Nat) (scr : Nat → Int32) (call : Nat → List Value → am_H → Option am_X) (lv : am_L) (st : List Value) (h : am_H) (x : Int32) (a : Nat) : am_f d scr L call 43 (n + 1) 7 lv (.int x :: .ref a :: st) h = (match am_put h a 3 6 (.int x) with
    | some h' => am_f d scr L call 43 n 10 lv st h'
    | none => none) := k_pf (k := 84) rfl rfl rfl
theorem s_43_10 (d L n : Nat) (scr : Nat → Int32) (call : Nat → List Value → am_H → Option am_X) (lv : am_L) (st : List Value) (h : am_H) : am_f d scr L call 43 (n + 1) 10 lv st h = (match am_ld lv 0 with
    | some (.ref x) => am_f d scr L call 43 n 11 lv (.ref x :: st) h
    | _ => none) := k_la (i := .aload_n 0) rfl rfl rfl rfl
theorem s_43_11 (d L n : Nat) (scr : Nat → Int32) (call : Nat → List Value → am_H → Option am_X) (lv : am_L) (st : List Value) (h : am_H) : am_f d scr L call 43 (n + 1) 11 lv st h = (match am_ld lv 0 with
    | some (.ref x) => am_f d scr L call 43 n 12 lv (.ref x :: st) h
    | _ => none) := k_la (i := .aload_n 0) rfl rfl rfl rfl
theorem s_43_12 (d L n : Nat) (scr : Nat → Int32) (call : Nat → List Value → am_H → Option am_X) (lv : am_L) (st : List Value) (h : am_H) (a : Nat) : am_f d scr L call 43 (n + 1) 12 lv (.ref a :: st) h = (match am_get h a 3 3 with
    | some v => am_f d scr L call 43 n 15 lv (v :: st) h
    | none => none) := k_gf (k := 39) rfl rfl
theorem s_43_15 (d L n : Nat) (scr : Nat → Int32) (call : Nat → List Value → am_H → Option am_X) (lv : am_L) (st : List Value) (h : am_H) : am_f d scr L call 43 (n + 1) 15 lv st h = (match am_ld lv 0 with
    | some (.ref x) => am_f d scr L call 43 n 16 lv (.ref x :: st) h
    | _ => none) := k_la (i := .aload_n 0) rfl rfl rfl rfl
theorem s_43_16 (d L n : Nat) (scr : Nat → Int32) (call : Nat → List Value → am_H → Option am_X) (lv : am_L) (st : List Value) (h : am_H) (a : Nat) : am_f d scr L call 43 (n + 1) 16 lv (.ref a :: st) h = (match am_get h a 3 6 with
    | some v => am_f d scr L call 43 n 19 lv (v :: st) h
    | none => none) := k_gf (k := 84) rfl rfl
theorem s_43_19 (d L n : Nat) (scr : Nat → Int32) (call : Nat → List Value → am_H → Option am_X) (lv : am_L) (st : List Value) (h : am_H) (a : Nat) (i : Int32) : am_f d scr L call 43 (n + 1) 19 lv (.int i :: .ref a :: st) h = (match am_ild scr L h a i with
    | some x => am_f d scr L call 43 n 20 lv (.int x :: st) h
    | none => none) := k_ia rfl
theorem s_43_20 (d L n : Nat) (scr : Nat → Int32) (call : Nat → List Value → am_H → Option am_X) (lv : am_L) (st : List Value) (h : am_H) (x : Int32) (a : Nat) : am_f d scr L call 43 (n + 1) 20 lv (.int x :: .ref a :: st) h = (match am_put h a 3 14 (.int x) with
    | some h' => am_f d scr L call 43 n 23 lv st h'
    | none => none) := k_pf (k := 90) rfl rfl rfl
theorem s_43_23 (d L n : Nat) (scr : Nat → Int32) (call : Nat → List Value → am_H → Option am_X) (lv : am_L) (st : List Value) (h : am_H) : am_f d scr L call 43 (n + 1) 23 lv st h = (match am_ld lv 0 with
    | some (.ref x) => am_f d scr L call 43 n 24 lv (.ref x :: st) h
    | _ => none) := k_la (i := .aload_n 0) rfl rfl rfl rfl
theorem s_43_24 (d L n : Nat) (scr : Nat → Int32) (call : Nat → List Value → am_H → Option am_X) (lv : am_L) (st : List Value) (h : am_H) : am_f d scr L call 43 (n + 1) 24 lv st h = (match am_ld lv 1 with
    | some (.long x) => am_f d scr L call 43 n 25 lv (.long x :: st) h
    | _ => none) := k_ll (i := .lload_n 1) rfl rfl rfl rfl
theorem s_43_25 (d L n : Nat) (scr : Nat → Int32) (call : Nat → List Value → am_H → Option am_X) (lv : am_L) (h : am_H) (o : Nat) (a0 : Int64)  : am_f d scr L call 43 (n + 1) 25 lv (.long a0 :: .ref o :: []) h = if am_at h o 3 = true then (match call 35 [.ref o, .long a0] h with
    | some (v, h', dk, dn) => am_add dk dn (am_f d scr L call 43 n 28 lv (v.toList ++ []) h')
    | none => none) else none := k_iv0 (k := 148) (as := [.long a0]) (r := []) rfl rfl rfl rfl (Nat.le_of_ble_eq_true rfl)
theorem s_43_28 (d L n : Nat) (scr : Nat → Int32) (call : Nat → List Value → am_H → Option am_X) (lv : am_L) (h : am_H) : am_f d scr L call 43 (n + 1) 28 lv [] h = some (none, h, 0, 0) := k_vr rfl rfl
-- 44: BlameDesk$Machine.makeCell()V
theorem s_44_0 (d L n : Nat) (scr : Nat → Int32) (call : Nat → List Value → am_H → Option am_X) (lv : am_L) (st : List Value) (h : am_H) : am_f d scr L call 44 (n + 1) 0 lv st h = (match am_ld lv 0 with
    | some (.ref x) => am_f d scr L call 44 n 1 lv (.ref x :: st) h
    | _ => none) := k_la (i := .aload_n 0) rfl rfl rfl rfl
theorem s_44_1 (d L n : Nat) (scr : Nat → Int32) (call : Nat → List Value → am_H → Option am_X) (lv : am_L) (st : List Value) (h : am_H) (a : Nat) : am_f d scr L call 44 (n + 1) 1 lv (.ref a :: st) h = (match am_get h a 3 10 with
    | some v => am_f d scr L call 44 n 4 lv (v :: st) h
    | none => none) := k_gf (k := 66) rfl rfl
theorem s_44_4 (d L n : Nat) (scr : Nat → Int32) (call : Nat → List Value → am_H → Option am_X) (lv : am_L) (st : List Value) (h : am_H) : am_f d scr L call 44 (n + 1) 4 lv st h = am_f d scr L call 44 n 6 lv (.int 40 :: st) h := k_nx (i := .bipush 40) rfl rfl
theorem s_44_6 (d L n : Nat) (scr : Nat → Int32) (call : Nat → List Value → am_H → Option am_X) (lv : am_L) (st : List Value) (h : am_H) (x y : Int32) : am_f d scr L call 44 (n + 1) 6 lv (.int y :: .int x :: st) h = if x < y then am_f d scr L call 44 n 15 lv st h else am_f d scr L call 44 n 9 lv st h := k_ic_lt (o := 9) rfl ⟨by decide, rfl⟩
theorem s_44_9 (d L n : Nat) (scr : Nat → Int32) (call : Nat → List Value → am_H → Option am_X) (lv : am_L) (st : List Value) (h : am_H) : am_f d scr L call 44 (n + 1) 9 lv st h = (match am_ld lv 0 with
    | some (.ref x) => am_f d scr L call 44 n 10 lv (.ref x :: st) h
    | _ => none) := k_la (i := .aload_n 0) rfl rfl rfl rfl
theorem s_44_10 (d L n : Nat) (scr : Nat → Int32) (call : Nat → List Value → am_H → Option am_X) (lv : am_L) (st : List Value) (h : am_H) : am_f d scr L call 44 (n + 1) 10 lv st h = am_f d scr L call 44 n 11 lv (.int 4 :: st) h := k_nx (i := .iconst 4) rfl rfl
theorem s_44_11 (d L n : Nat) (scr : Nat → Int32) (call : Nat → List Value → am_H → Option am_X) (lv : am_L) (st : List Value) (h : am_H) (x : Int32) (a : Nat) : am_f d scr L call 44 (n + 1) 11 lv (.int x :: .ref a :: st) h = (match am_put h a 3 12 (.int x) with
    | some h' => am_f d scr L call 44 n 14 lv st h'
    | none => none) := k_pf (k := 59) rfl rfl rfl
theorem s_44_14 (d L n : Nat) (scr : Nat → Int32) (call : Nat → List Value → am_H → Option am_X) (lv : am_L) (h : am_H) : am_f d scr L call 44 (n + 1) 14 lv [] h = some (none, h, 0, 0) := k_vr rfl rfl
theorem s_44_15 (d L n : Nat) (scr : Nat → Int32) (call : Nat → List Value → am_H → Option am_X) (lv : am_L) (st : List Value) (h : am_H) : am_f d scr L call 44 (n + 1) 15 lv st h = (match am_ld lv 0 with
    | some (.ref x) => am_f d scr L call 44 n 16 lv (.ref x :: st) h
    | _ => none) := k_la (i := .aload_n 0) rfl rfl rfl rfl
theorem s_44_16 (d L n : Nat) (scr : Nat → Int32) (call : Nat → List Value → am_H → Option am_X) (lv : am_L) (st : List Value) (h : am_H) (a : Nat) : am_f d scr L call 44 (n + 1) 16 lv (.ref a :: st) h = (match am_get h a 3 9 with
    | some v => am_f d scr L call 44 n 19 lv (v :: st) h
    | none => none) := k_gf (k := 56) rfl rfl
theorem s_44_19 (d L n : Nat) (scr : Nat → Int32) (call : Nat → List Value → am_H → Option am_X) (lv : am_L) (st : List Value) (h : am_H) : am_f d scr L call 44 (n + 1) 19 lv st h = (match am_ld lv 0 with
    | some (.ref x) => am_f d scr L call 44 n 20 lv (.ref x :: st) h
    | _ => none) := k_la (i := .aload_n 0) rfl rfl rfl rfl
theorem s_44_20 (d L n : Nat) (scr : Nat → Int32) (call : Nat → List Value → am_H → Option am_X) (lv : am_L) (st : List Value) (h : am_H) (a : Nat) : am_f d scr L call 44 (n + 1) 20 lv (.ref a :: st) h = (match am_get h a 3 10 with
    | some v => am_f d scr L call 44 n 23 lv (v :: st) h
    | none => none) := k_gf (k := 66) rfl rfl
theorem s_44_23 (d L n : Nat) (scr : Nat → Int32) (call : Nat → List Value → am_H → Option am_X) (lv : am_L) (st : List Value) (h : am_H) : am_f d scr L call 44 (n + 1) 23 lv st h = (match am_ld lv 0 with
    | some (.ref x) => am_f d scr L call 44 n 24 lv (.ref x :: st) h
    | _ => none) := k_la (i := .aload_n 0) rfl rfl rfl rfl
theorem s_44_24 (d L n : Nat) (scr : Nat → Int32) (call : Nat → List Value → am_H → Option am_X) (lv : am_L) (st : List Value) (h : am_H) (a : Nat) : am_f d scr L call 44 (n + 1) 24 lv (.ref a :: st) h = (match am_get h a 3 17 with
    | some v => am_f d scr L call 44 n 27 lv (v :: st) h
    | none => none) := k_gf (k := 121) rfl rfl
theorem s_44_27 (d L n : Nat) (scr : Nat → Int32) (call : Nat → List Value → am_H → Option am_X) (lv : am_L) (st : List Value) (h : am_H) (a : Nat) (i : Int32) (x : Int64) : am_f d scr L call 44 (n + 1) 27 lv (.long x :: .int i :: .ref a :: st) h = (match am_lst h a i x with
    | some h' => am_f d scr L call 44 n 28 lv st h'
    | none => none) := k_js rfl
theorem s_44_28 (d L n : Nat) (scr : Nat → Int32) (call : Nat → List Value → am_H → Option am_X) (lv : am_L) (st : List Value) (h : am_H) : am_f d scr L call 44 (n + 1) 28 lv st h = (match am_ld lv 0 with
    | some (.ref x) => am_f d scr L call 44 n 29 lv (.ref x :: st) h
    | _ => none) := k_la (i := .aload_n 0) rfl rfl rfl rfl
theorem s_44_29 (d L n : Nat) (scr : Nat → Int32) (call : Nat → List Value → am_H → Option am_X) (lv : am_L) (st : List Value) (h : am_H) (x : Nat) : am_f d scr L call 44 (n + 1) 29 lv (.ref x :: st) h = am_f d scr L call 44 n 30 lv (.ref x :: .ref x :: st) h := k_nx (i := .dup) rfl rfl
theorem s_44_30 (d L n : Nat) (scr : Nat → Int32) (call : Nat → List Value → am_H → Option am_X) (lv : am_L) (st : List Value) (h : am_H) (a : Nat) : am_f d scr L call 44 (n + 1) 30 lv (.ref a :: st) h = (match am_get h a 3 10 with
    | some v => am_f d scr L call 44 n 33 lv (v :: st) h
    | none => none) := k_gf (k := 66) rfl rfl
theorem s_44_33 (d L n : Nat) (scr : Nat → Int32) (call : Nat → List Value → am_H → Option am_X) (lv : am_L) (st : List Value) (h : am_H) : am_f d scr L call 44 (n + 1) 33 lv st h = am_f d scr L call 44 n 34 lv (.int 1 :: st) h := k_nx (i := .iconst 1) rfl rfl
theorem s_44_34 (d L n : Nat) (scr : Nat → Int32) (call : Nat → List Value → am_H → Option am_X) (lv : am_L) (st : List Value) (h : am_H) (x y : Int32) : am_f d scr L call 44 (n + 1) 34 lv (.int y :: .int x :: st) h = am_f d scr L call 44 n 35 lv (.int (x + y) :: st) h := k_nx (i := .iadd) rfl rfl
theorem s_44_35 (d L n : Nat) (scr : Nat → Int32) (call : Nat → List Value → am_H → Option am_X) (lv : am_L) (st : List Value) (h : am_H) (x : Int32) (a : Nat) : am_f d scr L call 44 (n + 1) 35 lv (.int x :: .ref a :: st) h = (match am_put h a 3 10 (.int x) with
    | some h' => am_f d scr L call 44 n 38 lv st h'
    | none => none) := k_pf (k := 66) rfl rfl rfl
theorem s_44_38 (d L n : Nat) (scr : Nat → Int32) (call : Nat → List Value → am_H → Option am_X) (lv : am_L) (st : List Value) (h : am_H) : am_f d scr L call 44 (n + 1) 38 lv st h = (match am_ld lv 0 with
    | some (.ref x) => am_f d scr L call 44 n 39 lv (.ref x :: st) h
    | _ => none) := k_la (i := .aload_n 0) rfl rfl rfl rfl
theorem s_44_39 (d L n : Nat) (scr : Nat → Int32) (call : Nat → List Value → am_H → Option am_X) (lv : am_L) (st : List Value) (h : am_H) : am_f d scr L call 44 (n + 1) 39 lv st h = am_f d scr L call 44 n 40 lv (.int 3 :: st) h := k_nx (i := .iconst 3) rfl rfl
theorem s_44_40 (d L n : Nat) (scr : Nat → Int32) (call : Nat → List Value → am_H → Option am_X) (lv : am_L) (st : List Value) (h : am_H) : am_f d scr L call 44 (n + 1) 40 lv st h = (match am_ld lv 0 with
    | some (.ref x) => am_f d scr L call 44 n 41 lv (.ref x :: st) h
    | _ => none) := k_la (i := .aload_n 0) rfl rfl rfl rfl
theorem s_44_41 (d L n : Nat) (scr : Nat → Int32) (call : Nat → List Value → am_H → Option am_X) (lv : am_L) (st : List Value) (h : am_H) (a : Nat) : am_f d scr L call 44 (n + 1) 41 lv (.ref a :: st) h = (match am_get h a 3 10 with
    | some v => am_f d scr L call 44 n 44 lv (v :: st) h
    | none => none) := k_gf (k := 66) rfl rfl
theorem s_44_44 (d L n : Nat) (scr : Nat → Int32) (call : Nat → List Value → am_H → Option am_X) (lv : am_L) (st : List Value) (h : am_H) : am_f d scr L call 44 (n + 1) 44 lv st h = am_f d scr L call 44 n 45 lv (.int 1 :: st) h := k_nx (i := .iconst 1) rfl rfl
theorem s_44_45 (d L n : Nat) (scr : Nat → Int32) (call : Nat → List Value → am_H → Option am_X) (lv : am_L) (st : List Value) (h : am_H) (x y : Int32) : am_f d scr L call 44 (n + 1) 45 lv (.int y :: .int x :: st) h = am_f d scr L call 44 n 46 lv (.int (x - y) :: st) h := k_nx (i := .isub) rfl rfl
theorem s_44_46 (d L n : Nat) (scr : Nat → Int32) (call : Nat → List Value → am_H → Option am_X) (lv : am_L) (h : am_H) (a0 : Int32) (a1 : Int32) (r0 : Nat) : am_f d scr L call 44 (n + 1) 46 lv (.int a1 :: .int a0 :: .ref r0 :: []) h = (match call 84 [.int a0, .int a1] h with
    | some (v, h', dk, dn) => am_add dk dn (am_f d scr L call 44 n 49 lv (v.toList ++ [.ref r0]) h')
    | none => none) := k_iv1 (k := 144) (as := [.int a0, .int a1]) (r := [.ref r0]) rfl rfl rfl rfl (Nat.le_of_ble_eq_true rfl)
theorem s_44_49 (d L n : Nat) (scr : Nat → Int32) (call : Nat → List Value → am_H → Option am_X) (lv : am_L) (h : am_H) (o : Nat) (a0 : Int64)  : am_f d scr L call 44 (n + 1) 49 lv (.long a0 :: .ref o :: []) h = if am_at h o 3 = true then (match call 43 [.ref o, .long a0] h with
    | some (v, h', dk, dn) => am_add dk dn (am_f d scr L call 44 n 52 lv (v.toList ++ []) h')
    | none => none) else none := k_iv0 (k := 166) (as := [.long a0]) (r := []) rfl rfl rfl rfl (Nat.le_of_ble_eq_true rfl)
theorem s_44_52 (d L n : Nat) (scr : Nat → Int32) (call : Nat → List Value → am_H → Option am_X) (lv : am_L) (h : am_H) : am_f d scr L call 44 (n + 1) 52 lv [] h = some (none, h, 0, 0) := k_vr rfl rfl
-- 45: BlameDesk$Machine.writeCell(J)V
theorem s_45_0 (d L n : Nat) (scr : Nat → Int32) (call : Nat → List Value → am_H → Option am_X) (lv : am_L) (st : List Value) (h : am_H) : am_f d scr L call 45 (n + 1) 0 lv st h = (match am_ld lv 0 with
    | some (.ref x) => am_f d scr L call 45 n 1 lv (.ref x :: st) h
    | _ => none) := k_la (i := .aload_n 0) rfl rfl rfl rfl
theorem s_45_1 (d L n : Nat) (scr : Nat → Int32) (call : Nat → List Value → am_H → Option am_X) (lv : am_L) (st : List Value) (h : am_H) (a : Nat) : am_f d scr L call 45 (n + 1) 1 lv (.ref a :: st) h = (match am_get h a 3 1 with
    | some v => am_f d scr L call 45 n 4 lv (v :: st) h
    | none => none) := k_gf (k := 28) rfl rfl
theorem s_45_4 (d L n : Nat) (scr : Nat → Int32) (call : Nat → List Value → am_H → Option am_X) (lv : am_L) (st : List Value) (h : am_H) : am_f d scr L call 45 (n + 1) 4 lv st h = (match am_ld lv 1 with
    | some (.long x) => am_f d scr L call 45 n 5 lv (.long x :: st) h
    | _ => none) := k_ll (i := .lload_n 1) rfl rfl rfl rfl
theorem s_45_5 (d L n : Nat) (scr : Nat → Int32) (call : Nat → List Value → am_H → Option am_X) (lv : am_L) (st : List Value) (h : am_H) : am_f d scr L call 45 (n + 1) 5 lv st h = (match am_ld lv 0 with
    | some (.ref x) => am_f d scr L call 45 n 6 lv (.ref x :: st) h
    | _ => none) := k_la (i := .aload_n 0) rfl rfl rfl rfl
theorem s_45_6 (d L n : Nat) (scr : Nat → Int32) (call : Nat → List Value → am_H → Option am_X) (lv : am_L) (st : List Value) (h : am_H) (a : Nat) : am_f d scr L call 45 (n + 1) 6 lv (.ref a :: st) h = (match am_get h a 3 17 with
    | some v => am_f d scr L call 45 n 9 lv (v :: st) h
    | none => none) := k_gf (k := 121) rfl rfl
theorem s_45_9 (d L n : Nat) (scr : Nat → Int32) (call : Nat → List Value → am_H → Option am_X) (lv : am_L) (h : am_H) (o : Nat) (a0 : Int64) (a1 : Int64)  : am_f d scr L call 45 (n + 1) 9 lv (.long a1 :: .long a0 :: .ref o :: []) h = if am_at h o 1 = true then (match call 17 [.ref o, .long a0, .long a1] h with
    | some (v, h', dk, dn) => am_add dk dn (am_f d scr L call 45 n 12 lv (v.toList ++ []) h')
    | none => none) else none := k_iv0 (k := 204) (as := [.long a0, .long a1]) (r := []) rfl rfl rfl rfl (Nat.le_of_ble_eq_true rfl)
theorem s_45_12 (d L n : Nat) (scr : Nat → Int32) (call : Nat → List Value → am_H → Option am_X) (lv : am_L) (st : List Value) (h : am_H) (x : Int64) : am_f d scr L call 45 (n + 1) 12 lv (.long x :: st) h = am_f d scr L call 45 n 13 (am_st2 lv 3 (.long x)) st h := k_nx (i := .lstore_n 3) rfl rfl
theorem s_45_13 (d L n : Nat) (scr : Nat → Int32) (call : Nat → List Value → am_H → Option am_X) (lv : am_L) (st : List Value) (h : am_H) : am_f d scr L call 45 (n + 1) 13 lv st h = (match am_ld lv 0 with
    | some (.ref x) => am_f d scr L call 45 n 14 lv (.ref x :: st) h
    | _ => none) := k_la (i := .aload_n 0) rfl rfl rfl rfl
theorem s_45_14 (d L n : Nat) (scr : Nat → Int32) (call : Nat → List Value → am_H → Option am_X) (lv : am_L) (st : List Value) (h : am_H) (a : Nat) : am_f d scr L call 45 (n + 1) 14 lv (.ref a :: st) h = (match am_get h a 3 1 with
    | some v => am_f d scr L call 45 n 17 lv (v :: st) h
    | none => none) := k_gf (k := 28) rfl rfl
theorem s_45_17 (d L n : Nat) (scr : Nat → Int32) (call : Nat → List Value → am_H → Option am_X) (lv : am_L) (st : List Value) (h : am_H) (a : Nat) : am_f d scr L call 45 (n + 1) 17 lv (.ref a :: st) h = (match am_get h a 1 7 with
    | some v => am_f d scr L call 45 n 20 lv (v :: st) h
    | none => none) := k_gf (k := 109) rfl rfl
theorem s_45_20 (d L n : Nat) (scr : Nat → Int32) (call : Nat → List Value → am_H → Option am_X) (lv : am_L) (st : List Value) (h : am_H) : am_f d scr L call 45 (n + 1) 20 lv st h = am_f d scr L call 45 n 22 lv (.int 6 :: st) h := k_nx (i := .bipush 6) rfl rfl
theorem s_45_22 (d L n : Nat) (scr : Nat → Int32) (call : Nat → List Value → am_H → Option am_X) (lv : am_L) (st : List Value) (h : am_H) (x y : Int32) : am_f d scr L call 45 (n + 1) 22 lv (.int y :: .int x :: st) h = if x = y then am_f d scr L call 45 n 26 lv st h else am_f d scr L call 45 n 25 lv st h := k_ic_eq (o := 4) rfl ⟨by decide, rfl⟩
theorem s_45_25 (d L n : Nat) (scr : Nat → Int32) (call : Nat → List Value → am_H → Option am_X) (lv : am_L) (h : am_H) : am_f d scr L call 45 (n + 1) 25 lv [] h = some (none, h, 0, 0) := k_vr rfl rfl
theorem s_45_26 (d L n : Nat) (scr : Nat → Int32) (call : Nat → List Value → am_H → Option am_X) (lv : am_L) (st : List Value) (h : am_H) : am_f d scr L call 45 (n + 1) 26 lv st h = (match am_ld lv 0 with
    | some (.ref x) => am_f d scr L call 45 n 27 lv (.ref x :: st) h
    | _ => none) := k_la (i := .aload_n 0) rfl rfl rfl rfl
theorem s_45_27 (d L n : Nat) (scr : Nat → Int32) (call : Nat → List Value → am_H → Option am_X) (lv : am_L) (st : List Value) (h : am_H) (a : Nat) : am_f d scr L call 45 (n + 1) 27 lv (.ref a :: st) h = (match am_get h a 3 9 with
    | some v => am_f d scr L call 45 n 30 lv (v :: st) h
    | none => none) := k_gf (k := 56) rfl rfl
theorem s_45_30 (d L n : Nat) (scr : Nat → Int32) (call : Nat → List Value → am_H → Option am_X) (lv : am_L) (st : List Value) (h : am_H) : am_f d scr L call 45 (n + 1) 30 lv st h = (match am_ld lv 0 with
    | some (.ref x) => am_f d scr L call 45 n 31 lv (.ref x :: st) h
    | _ => none) := k_la (i := .aload_n 0) rfl rfl rfl rfl
theorem s_45_31 (d L n : Nat) (scr : Nat → Int32) (call : Nat → List Value → am_H → Option am_X) (lv : am_L) (st : List Value) (h : am_H) (a : Nat) : am_f d scr L call 45 (n + 1) 31 lv (.ref a :: st) h = (match am_get h a 3 1 with
    | some v => am_f d scr L call 45 n 34 lv (v :: st) h
    | none => none) := k_gf (k := 28) rfl rfl
theorem s_45_34 (d L n : Nat) (scr : Nat → Int32) (call : Nat → List Value → am_H → Option am_X) (lv : am_L) (st : List Value) (h : am_H) : am_f d scr L call 45 (n + 1) 34 lv st h = (match am_ld lv 1 with
    | some (.long x) => am_f d scr L call 45 n 35 lv (.long x :: st) h
    | _ => none) := k_ll (i := .lload_n 1) rfl rfl rfl rfl
theorem s_45_35 (d L n : Nat) (scr : Nat → Int32) (call : Nat → List Value → am_H → Option am_X) (lv : am_L) (h : am_H) (o : Nat) (a0 : Int64) (r0 : Nat) : am_f d scr L call 45 (n + 1) 35 lv (.long a0 :: .ref o :: .ref r0 :: []) h = if am_at h o 1 = true then (match call 16 [.ref o, .long a0] h with
    | some (v, h', dk, dn) => am_add dk dn (am_f d scr L call 45 n 38 lv (v.toList ++ [.ref r0]) h')
    | none => none) else none := k_iv0 (k := 191) (as := [.long a0]) (r := [.ref r0]) rfl rfl rfl rfl (Nat.le_of_ble_eq_true rfl)
theorem s_45_38 (d L n : Nat) (scr : Nat → Int32) (call : Nat → List Value → am_H → Option am_X) (lv : am_L) (h : am_H) (a0 : Int64) (r0 : Nat) : am_f d scr L call 45 (n + 1) 38 lv (.long a0 :: .ref r0 :: []) h = (match call 87 [.long a0] h with
    | some (v, h', dk, dn) => am_add dk dn (am_f d scr L call 45 n 41 lv (v.toList ++ [.ref r0]) h')
    | none => none) := k_iv1 (k := 131) (as := [.long a0]) (r := [.ref r0]) rfl rfl rfl rfl (Nat.le_of_ble_eq_true rfl)
theorem s_45_41 (d L n : Nat) (scr : Nat → Int32) (call : Nat → List Value → am_H → Option am_X) (lv : am_L) (st : List Value) (h : am_H) : am_f d scr L call 45 (n + 1) 41 lv st h = (match am_ld lv 3 with
    | some (.long x) => am_f d scr L call 45 n 42 lv (.long x :: st) h
    | _ => none) := k_ll (i := .lload_n 3) rfl rfl rfl rfl
theorem s_45_42 (d L n : Nat) (scr : Nat → Int32) (call : Nat → List Value → am_H → Option am_X) (lv : am_L) (st : List Value) (h : am_H) (a : Nat) (i : Int32) (x : Int64) : am_f d scr L call 45 (n + 1) 42 lv (.long x :: .int i :: .ref a :: st) h = (match am_lst h a i x with
    | some h' => am_f d scr L call 45 n 43 lv st h'
    | none => none) := k_js rfl
theorem s_45_43 (d L n : Nat) (scr : Nat → Int32) (call : Nat → List Value → am_H → Option am_X) (lv : am_L) (st : List Value) (h : am_H) : am_f d scr L call 45 (n + 1) 43 lv st h = (match am_ld lv 0 with
    | some (.ref x) => am_f d scr L call 45 n 44 lv (.ref x :: st) h
    | _ => none) := k_la (i := .aload_n 0) rfl rfl rfl rfl
theorem s_45_44 (d L n : Nat) (scr : Nat → Int32) (call : Nat → List Value → am_H → Option am_X) (lv : am_L) (st : List Value) (h : am_H) : am_f d scr L call 45 (n + 1) 44 lv st h = (match am_ld lv 0 with
    | some (.ref x) => am_f d scr L call 45 n 45 lv (.ref x :: st) h
    | _ => none) := k_la (i := .aload_n 0) rfl rfl rfl rfl
theorem s_45_45 (d L n : Nat) (scr : Nat → Int32) (call : Nat → List Value → am_H → Option am_X) (lv : am_L) (st : List Value) (h : am_H) (a : Nat) : am_f d scr L call 45 (n + 1) 45 lv (.ref a :: st) h = (match am_get h a 3 17 with
    | some v => am_f d scr L call 45 n 48 lv (v :: st) h
    | none => none) := k_gf (k := 121) rfl rfl
theorem s_45_48 (d L n : Nat) (scr : Nat → Int32) (call : Nat → List Value → am_H → Option am_X) (lv : am_L) (h : am_H) (o : Nat) (a0 : Int64)  : am_f d scr L call 45 (n + 1) 48 lv (.long a0 :: .ref o :: []) h = if am_at h o 3 = true then (match call 43 [.ref o, .long a0] h with
    | some (v, h', dk, dn) => am_add dk dn (am_f d scr L call 45 n 51 lv (v.toList ++ []) h')
    | none => none) else none := k_iv0 (k := 166) (as := [.long a0]) (r := []) rfl rfl rfl rfl (Nat.le_of_ble_eq_true rfl)
theorem s_45_51 (d L n : Nat) (scr : Nat → Int32) (call : Nat → List Value → am_H → Option am_X) (lv : am_L) (h : am_H) : am_f d scr L call 45 (n + 1) 51 lv [] h = some (none, h, 0, 0) := k_vr rfl rfl
-- 46: BlameDesk$Machine.callFunction(J)V
theorem s_46_0 (d L n : Nat) (scr : Nat → Int32) (call : Nat → List Value → am_H → Option am_X) (lv : am_L) (st : List Value) (h : am_H) : am_f d scr L call 46 (n + 1) 0 lv st h = (match am_ld lv 0 with
    | some (.ref x) => am_f d scr L call 46 n 1 lv (.ref x :: st) h
    | _ => none) := k_la (i := .aload_n 0) rfl rfl rfl rfl
theorem s_46_1 (d L n : Nat) (scr : Nat → Int32) (call : Nat → List Value → am_H → Option am_X) (lv : am_L) (st : List Value) (h : am_H) (a : Nat) : am_f d scr L call 46 (n + 1) 1 lv (.ref a :: st) h = (match am_get h a 3 1 with
    | some v => am_f d scr L call 46 n 4 lv (v :: st) h
    | none => none) := k_gf (k := 28) rfl rfl
theorem s_46_4 (d L n : Nat) (scr : Nat → Int32) (call : Nat → List Value → am_H → Option am_X) (lv : am_L) (st : List Value) (h : am_H) : am_f d scr L call 46 (n + 1) 4 lv st h = (match am_ld lv 1 with
    | some (.long x) => am_f d scr L call 46 n 5 lv (.long x :: st) h
    | _ => none) := k_ll (i := .lload_n 1) rfl rfl rfl rfl
theorem s_46_5 (d L n : Nat) (scr : Nat → Int32) (call : Nat → List Value → am_H → Option am_X) (lv : am_L) (st : List Value) (h : am_H) : am_f d scr L call 46 (n + 1) 5 lv st h = (match am_ld lv 0 with
    | some (.ref x) => am_f d scr L call 46 n 6 lv (.ref x :: st) h
    | _ => none) := k_la (i := .aload_n 0) rfl rfl rfl rfl
theorem s_46_6 (d L n : Nat) (scr : Nat → Int32) (call : Nat → List Value → am_H → Option am_X) (lv : am_L) (st : List Value) (h : am_H) (a : Nat) : am_f d scr L call 46 (n + 1) 6 lv (.ref a :: st) h = (match am_get h a 3 17 with
    | some v => am_f d scr L call 46 n 9 lv (v :: st) h
    | none => none) := k_gf (k := 121) rfl rfl
theorem s_46_9 (d L n : Nat) (scr : Nat → Int32) (call : Nat → List Value → am_H → Option am_X) (lv : am_L) (h : am_H) (o : Nat) (a0 : Int64) (a1 : Int64)  : am_f d scr L call 46 (n + 1) 9 lv (.long a1 :: .long a0 :: .ref o :: []) h = if am_at h o 1 = true then (match call 17 [.ref o, .long a0, .long a1] h with
    | some (v, h', dk, dn) => am_add dk dn (am_f d scr L call 46 n 12 lv (v.toList ++ []) h')
    | none => none) else none := k_iv0 (k := 204) (as := [.long a0, .long a1]) (r := []) rfl rfl rfl rfl (Nat.le_of_ble_eq_true rfl)
theorem s_46_12 (d L n : Nat) (scr : Nat → Int32) (call : Nat → List Value → am_H → Option am_X) (lv : am_L) (st : List Value) (h : am_H) (x : Int64) : am_f d scr L call 46 (n + 1) 12 lv (.long x :: st) h = am_f d scr L call 46 n 13 (am_st2 lv 3 (.long x)) st h := k_nx (i := .lstore_n 3) rfl rfl
theorem s_46_13 (d L n : Nat) (scr : Nat → Int32) (call : Nat → List Value → am_H → Option am_X) (lv : am_L) (st : List Value) (h : am_H) : am_f d scr L call 46 (n + 1) 13 lv st h = (match am_ld lv 0 with
    | some (.ref x) => am_f d scr L call 46 n 14 lv (.ref x :: st) h
    | _ => none) := k_la (i := .aload_n 0) rfl rfl rfl rfl
theorem s_46_14 (d L n : Nat) (scr : Nat → Int32) (call : Nat → List Value → am_H → Option am_X) (lv : am_L) (st : List Value) (h : am_H) (a : Nat) : am_f d scr L call 46 (n + 1) 14 lv (.ref a :: st) h = (match am_get h a 3 1 with
    | some v => am_f d scr L call 46 n 17 lv (v :: st) h
    | none => none) := k_gf (k := 28) rfl rfl
theorem s_46_17 (d L n : Nat) (scr : Nat → Int32) (call : Nat → List Value → am_H → Option am_X) (lv : am_L) (st : List Value) (h : am_H) (a : Nat) : am_f d scr L call 46 (n + 1) 17 lv (.ref a :: st) h = (match am_get h a 1 7 with
    | some v => am_f d scr L call 46 n 20 lv (v :: st) h
    | none => none) := k_gf (k := 109) rfl rfl
theorem s_46_20 (d L n : Nat) (scr : Nat → Int32) (call : Nat → List Value → am_H → Option am_X) (lv : am_L) (st : List Value) (h : am_H) : am_f d scr L call 46 (n + 1) 20 lv st h = am_f d scr L call 46 n 22 lv (.int 6 :: st) h := k_nx (i := .bipush 6) rfl rfl
theorem s_46_22 (d L n : Nat) (scr : Nat → Int32) (call : Nat → List Value → am_H → Option am_X) (lv : am_L) (st : List Value) (h : am_H) (x y : Int32) : am_f d scr L call 46 (n + 1) 22 lv (.int y :: .int x :: st) h = if x = y then am_f d scr L call 46 n 26 lv st h else am_f d scr L call 46 n 25 lv st h := k_ic_eq (o := 4) rfl ⟨by decide, rfl⟩
theorem s_46_25 (d L n : Nat) (scr : Nat → Int32) (call : Nat → List Value → am_H → Option am_X) (lv : am_L) (h : am_H) : am_f d scr L call 46 (n + 1) 25 lv [] h = some (none, h, 0, 0) := k_vr rfl rfl
theorem s_46_26 (d L n : Nat) (scr : Nat → Int32) (call : Nat → List Value → am_H → Option am_X) (lv : am_L) (st : List Value) (h : am_H) : am_f d scr L call 46 (n + 1) 26 lv st h = (match am_ld lv 0 with
    | some (.ref x) => am_f d scr L call 46 n 27 lv (.ref x :: st) h
    | _ => none) := k_la (i := .aload_n 0) rfl rfl rfl rfl
theorem s_46_27 (d L n : Nat) (scr : Nat → Int32) (call : Nat → List Value → am_H → Option am_X) (lv : am_L) (st : List Value) (h : am_H) (a : Nat) : am_f d scr L call 46 (n + 1) 27 lv (.ref a :: st) h = (match am_get h a 3 11 with
    | some v => am_f d scr L call 46 n 30 lv (v :: st) h
    | none => none) := k_gf (k := 69) rfl rfl
theorem s_46_30 (d L n : Nat) (scr : Nat → Int32) (call : Nat → List Value → am_H → Option am_X) (lv : am_L) (st : List Value) (h : am_H) : am_f d scr L call 46 (n + 1) 30 lv st h = (match am_ld lv 0 with
    | some (.ref x) => am_f d scr L call 46 n 31 lv (.ref x :: st) h
    | _ => none) := k_la (i := .aload_n 0) rfl rfl rfl rfl
theorem s_46_31 (d L n : Nat) (scr : Nat → Int32) (call : Nat → List Value → am_H → Option am_X) (lv : am_L) (st : List Value) (h : am_H) (a : Nat) : am_f d scr L call 46 (n + 1) 31 lv (.ref a :: st) h = (match am_get h a 3 13 with
    | some v => am_f d scr L call 46 n 34 lv (v :: st) h
    | none => none) := k_gf (k := 115) rfl rfl
theorem s_46_34 (d L n : Nat) (scr : Nat → Int32) (call : Nat → List Value → am_H → Option am_X) (lv : am_L) (st : List Value) (h : am_H) (x y : Int32) : am_f d scr L call 46 (n + 1) 34 lv (.int y :: .int x :: st) h = if x < y then am_f d scr L call 46 n 43 lv st h else am_f d scr L call 46 n 37 lv st h := k_ic_lt (o := 9) rfl ⟨by decide, rfl⟩
theorem s_46_37 (d L n : Nat) (scr : Nat → Int32) (call : Nat → List Value → am_H → Option am_X) (lv : am_L) (st : List Value) (h : am_H) : am_f d scr L call 46 (n + 1) 37 lv st h = (match am_ld lv 0 with
    | some (.ref x) => am_f d scr L call 46 n 38 lv (.ref x :: st) h
    | _ => none) := k_la (i := .aload_n 0) rfl rfl rfl rfl
theorem s_46_38 (d L n : Nat) (scr : Nat → Int32) (call : Nat → List Value → am_H → Option am_X) (lv : am_L) (st : List Value) (h : am_H) : am_f d scr L call 46 (n + 1) 38 lv st h = am_f d scr L call 46 n 39 lv (.int 3 :: st) h := k_nx (i := .iconst 3) rfl rfl
theorem s_46_39 (d L n : Nat) (scr : Nat → Int32) (call : Nat → List Value → am_H → Option am_X) (lv : am_L) (st : List Value) (h : am_H) (x : Int32) (a : Nat) : am_f d scr L call 46 (n + 1) 39 lv (.int x :: .ref a :: st) h = (match am_put h a 3 12 (.int x) with
    | some h' => am_f d scr L call 46 n 42 lv st h'
    | none => none) := k_pf (k := 59) rfl rfl rfl
theorem s_46_42 (d L n : Nat) (scr : Nat → Int32) (call : Nat → List Value → am_H → Option am_X) (lv : am_L) (h : am_H) : am_f d scr L call 46 (n + 1) 42 lv [] h = some (none, h, 0, 0) := k_vr rfl rfl
theorem s_46_43 (d L n : Nat) (scr : Nat → Int32) (call : Nat → List Value → am_H → Option am_X) (lv : am_L) (st : List Value) (h : am_H) : am_f d scr L call 46 (n + 1) 43 lv st h = (match am_ld lv 0 with
    | some (.ref x) => am_f d scr L call 46 n 44 lv (.ref x :: st) h
    | _ => none) := k_la (i := .aload_n 0) rfl rfl rfl rfl
theorem s_46_44 (d L n : Nat) (scr : Nat → Int32) (call : Nat → List Value → am_H → Option am_X) (lv : am_L) (st : List Value) (h : am_H) (a : Nat) : am_f d scr L call 46 (n + 1) 44 lv (.ref a :: st) h = (match am_get h a 3 1 with
    | some v => am_f d scr L call 46 n 47 lv (v :: st) h
    | none => none) := k_gf (k := 28) rfl rfl
theorem s_46_47 (d L n : Nat) (scr : Nat → Int32) (call : Nat → List Value → am_H → Option am_X) (lv : am_L) (st : List Value) (h : am_H) : am_f d scr L call 46 (n + 1) 47 lv st h = (match am_ld lv 1 with
    | some (.long x) => am_f d scr L call 46 n 48 lv (.long x :: st) h
    | _ => none) := k_ll (i := .lload_n 1) rfl rfl rfl rfl
theorem s_46_48 (d L n : Nat) (scr : Nat → Int32) (call : Nat → List Value → am_H → Option am_X) (lv : am_L) (h : am_H) (o : Nat) (a0 : Int64)  : am_f d scr L call 46 (n + 1) 48 lv (.long a0 :: .ref o :: []) h = if am_at h o 1 = true then (match call 16 [.ref o, .long a0] h with
    | some (v, h', dk, dn) => am_add dk dn (am_f d scr L call 46 n 51 lv (v.toList ++ []) h')
    | none => none) else none := k_iv0 (k := 191) (as := [.long a0]) (r := []) rfl rfl rfl rfl (Nat.le_of_ble_eq_true rfl)
theorem s_46_51 (d L n : Nat) (scr : Nat → Int32) (call : Nat → List Value → am_H → Option am_X) (lv : am_L) (h : am_H) (a0 : Int64)  : am_f d scr L call 46 (n + 1) 51 lv (.long a0 :: []) h = (match call 87 [.long a0] h with
    | some (v, h', dk, dn) => am_add dk dn (am_f d scr L call 46 n 54 lv (v.toList ++ []) h')
    | none => none) := k_iv1 (k := 131) (as := [.long a0]) (r := []) rfl rfl rfl rfl (Nat.le_of_ble_eq_true rfl)
theorem s_46_54 (d L n : Nat) (scr : Nat → Int32) (call : Nat → List Value → am_H → Option am_X) (lv : am_L) (st : List Value) (h : am_H) (x : Int32) : am_f d scr L call 46 (n + 1) 54 lv (.int x :: st) h = am_f d scr L call 46 n 56 (am_st1 lv 5 (.int x)) st h := k_nx (i := .istore 5) rfl rfl
theorem s_46_56 (d L n : Nat) (scr : Nat → Int32) (call : Nat → List Value → am_H → Option am_X) (lv : am_L) (st : List Value) (h : am_H) : am_f d scr L call 46 (n + 1) 56 lv st h = (match am_ld lv 0 with
    | some (.ref x) => am_f d scr L call 46 n 57 lv (.ref x :: st) h
    | _ => none) := k_la (i := .aload_n 0) rfl rfl rfl rfl
theorem s_46_57 (d L n : Nat) (scr : Nat → Int32) (call : Nat → List Value → am_H → Option am_X) (lv : am_L) (st : List Value) (h : am_H) (x : Nat) : am_f d scr L call 46 (n + 1) 57 lv (.ref x :: st) h = am_f d scr L call 46 n 58 lv (.ref x :: .ref x :: st) h := k_nx (i := .dup) rfl rfl
theorem s_46_58 (d L n : Nat) (scr : Nat → Int32) (call : Nat → List Value → am_H → Option am_X) (lv : am_L) (st : List Value) (h : am_H) (a : Nat) : am_f d scr L call 46 (n + 1) 58 lv (.ref a :: st) h = (match am_get h a 3 11 with
    | some v => am_f d scr L call 46 n 61 lv (v :: st) h
    | none => none) := k_gf (k := 69) rfl rfl
theorem s_46_61 (d L n : Nat) (scr : Nat → Int32) (call : Nat → List Value → am_H → Option am_X) (lv : am_L) (st : List Value) (h : am_H) : am_f d scr L call 46 (n + 1) 61 lv st h = am_f d scr L call 46 n 62 lv (.int 1 :: st) h := k_nx (i := .iconst 1) rfl rfl
theorem s_46_62 (d L n : Nat) (scr : Nat → Int32) (call : Nat → List Value → am_H → Option am_X) (lv : am_L) (st : List Value) (h : am_H) (x y : Int32) : am_f d scr L call 46 (n + 1) 62 lv (.int y :: .int x :: st) h = am_f d scr L call 46 n 63 lv (.int (x + y) :: st) h := k_nx (i := .iadd) rfl rfl
theorem s_46_63 (d L n : Nat) (scr : Nat → Int32) (call : Nat → List Value → am_H → Option am_X) (lv : am_L) (st : List Value) (h : am_H) (x : Int32) (a : Nat) : am_f d scr L call 46 (n + 1) 63 lv (.int x :: .ref a :: st) h = (match am_put h a 3 11 (.int x) with
    | some h' => am_f d scr L call 46 n 66 lv st h'
    | none => none) := k_pf (k := 69) rfl rfl rfl
theorem s_46_66 (d L n : Nat) (scr : Nat → Int32) (call : Nat → List Value → am_H → Option am_X) (lv : am_L) (st : List Value) (h : am_H) : am_f d scr L call 46 (n + 1) 66 lv st h = (match am_ld lv 0 with
    | some (.ref x) => am_f d scr L call 46 n 67 lv (.ref x :: st) h
    | _ => none) := k_la (i := .aload_n 0) rfl rfl rfl rfl
theorem s_46_67 (d L n : Nat) (scr : Nat → Int32) (call : Nat → List Value → am_H → Option am_X) (lv : am_L) (st : List Value) (h : am_H) (a : Nat) : am_f d scr L call 46 (n + 1) 67 lv (.ref a :: st) h = (match am_get h a 3 7 with
    | some v => am_f d scr L call 46 n 70 lv (v :: st) h
    | none => none) := k_gf (k := 50) rfl rfl
theorem s_46_70 (d L n : Nat) (scr : Nat → Int32) (call : Nat → List Value → am_H → Option am_X) (lv : am_L) (st : List Value) (h : am_H) : am_f d scr L call 46 (n + 1) 70 lv st h = (match am_ld lv 0 with
    | some (.ref x) => am_f d scr L call 46 n 71 lv (.ref x :: st) h
    | _ => none) := k_la (i := .aload_n 0) rfl rfl rfl rfl
theorem s_46_71 (d L n : Nat) (scr : Nat → Int32) (call : Nat → List Value → am_H → Option am_X) (lv : am_L) (st : List Value) (h : am_H) (a : Nat) : am_f d scr L call 46 (n + 1) 71 lv (.ref a :: st) h = (match am_get h a 3 11 with
    | some v => am_f d scr L call 46 n 74 lv (v :: st) h
    | none => none) := k_gf (k := 69) rfl rfl
theorem s_46_74 (d L n : Nat) (scr : Nat → Int32) (call : Nat → List Value → am_H → Option am_X) (lv : am_L) (st : List Value) (h : am_H) : am_f d scr L call 46 (n + 1) 74 lv st h = (match am_ld lv 5 with
    | some (.int x) => am_f d scr L call 46 n 76 lv (.int x :: st) h
    | _ => none) := k_li (i := .iload 5) rfl rfl rfl rfl
theorem s_46_76 (d L n : Nat) (scr : Nat → Int32) (call : Nat → List Value → am_H → Option am_X) (lv : am_L) (st : List Value) (h : am_H) : am_f d scr L call 46 (n + 1) 76 lv st h = am_f d scr L call 46 n 78 lv (.int 41 :: st) h := k_nx (i := .bipush 41) rfl rfl
theorem s_46_78 (d L n : Nat) (scr : Nat → Int32) (call : Nat → List Value → am_H → Option am_X) (lv : am_L) (st : List Value) (h : am_H) (x y : Int32) : am_f d scr L call 46 (n + 1) 78 lv (.int y :: .int x :: st) h = if y = 0 then none else am_f d scr L call 46 n 79 lv (.int (x - x / y * y) :: st) h := k_dz (f := fun x y => x - x / y * y) (i := .irem) rfl rfl rfl rfl
theorem s_46_79 (d L n : Nat) (scr : Nat → Int32) (call : Nat → List Value → am_H → Option am_X) (lv : am_L) (st : List Value) (h : am_H) (a : Nat) (i : Int32) (x : Int32) : am_f d scr L call 46 (n + 1) 79 lv (.int x :: .int i :: .ref a :: st) h = (match am_ist h a i x with
    | some h' => am_f d scr L call 46 n 80 lv st h'
    | none => none) := k_is rfl
theorem s_46_80 (d L n : Nat) (scr : Nat → Int32) (call : Nat → List Value → am_H → Option am_X) (lv : am_L) (st : List Value) (h : am_H) : am_f d scr L call 46 (n + 1) 80 lv st h = (match am_ld lv 0 with
    | some (.ref x) => am_f d scr L call 46 n 81 lv (.ref x :: st) h
    | _ => none) := k_la (i := .aload_n 0) rfl rfl rfl rfl
theorem s_46_81 (d L n : Nat) (scr : Nat → Int32) (call : Nat → List Value → am_H → Option am_X) (lv : am_L) (st : List Value) (h : am_H) (a : Nat) : am_f d scr L call 46 (n + 1) 81 lv (.ref a :: st) h = (match am_get h a 3 8 with
    | some v => am_f d scr L call 46 n 84 lv (v :: st) h
    | none => none) := k_gf (k := 53) rfl rfl
theorem s_46_84 (d L n : Nat) (scr : Nat → Int32) (call : Nat → List Value → am_H → Option am_X) (lv : am_L) (st : List Value) (h : am_H) : am_f d scr L call 46 (n + 1) 84 lv st h = (match am_ld lv 0 with
    | some (.ref x) => am_f d scr L call 46 n 85 lv (.ref x :: st) h
    | _ => none) := k_la (i := .aload_n 0) rfl rfl rfl rfl
theorem s_46_85 (d L n : Nat) (scr : Nat → Int32) (call : Nat → List Value → am_H → Option am_X) (lv : am_L) (st : List Value) (h : am_H) (a : Nat) : am_f d scr L call 46 (n + 1) 85 lv (.ref a :: st) h = (match am_get h a 3 11 with
    | some v => am_f d scr L call 46 n 88 lv (v :: st) h
    | none => none) := k_gf (k := 69) rfl rfl
theorem s_46_88 (d L n : Nat) (scr : Nat → Int32) (call : Nat → List Value → am_H → Option am_X) (lv : am_L) (st : List Value) (h : am_H) : am_f d scr L call 46 (n + 1) 88 lv st h = (match am_ld lv 3 with
    | some (.long x) => am_f d scr L call 46 n 89 lv (.long x :: st) h
    | _ => none) := k_ll (i := .lload_n 3) rfl rfl rfl rfl
theorem s_46_89 (d L n : Nat) (scr : Nat → Int32) (call : Nat → List Value → am_H → Option am_X) (lv : am_L) (st : List Value) (h : am_H) (a : Nat) (i : Int32) (x : Int64) : am_f d scr L call 46 (n + 1) 89 lv (.long x :: .int i :: .ref a :: st) h = (match am_lst h a i x with
    | some h' => am_f d scr L call 46 n 90 lv st h'
    | none => none) := k_js rfl
theorem s_46_90 (d L n : Nat) (scr : Nat → Int32) (call : Nat → List Value → am_H → Option am_X) (lv : am_L) (st : List Value) (h : am_H) : am_f d scr L call 46 (n + 1) 90 lv st h = (match am_ld lv 0 with
    | some (.ref x) => am_f d scr L call 46 n 91 lv (.ref x :: st) h
    | _ => none) := k_la (i := .aload_n 0) rfl rfl rfl rfl
theorem s_46_91 (d L n : Nat) (scr : Nat → Int32) (call : Nat → List Value → am_H → Option am_X) (lv : am_L) (st : List Value) (h : am_H) : am_f d scr L call 46 (n + 1) 91 lv st h = (match am_ld lv 0 with
    | some (.ref x) => am_f d scr L call 46 n 92 lv (.ref x :: st) h
    | _ => none) := k_la (i := .aload_n 0) rfl rfl rfl rfl
theorem s_46_92 (d L n : Nat) (scr : Nat → Int32) (call : Nat → List Value → am_H → Option am_X) (lv : am_L) (st : List Value) (h : am_H) (a : Nat) : am_f d scr L call 46 (n + 1) 92 lv (.ref a :: st) h = (match am_get h a 3 11 with
    | some v => am_f d scr L call 46 n 95 lv (v :: st) h
    | none => none) := k_gf (k := 69) rfl rfl
theorem s_46_95 (d L n : Nat) (scr : Nat → Int32) (call : Nat → List Value → am_H → Option am_X) (lv : am_L) (st : List Value) (h : am_H) (x : Int32) (a : Nat) : am_f d scr L call 46 (n + 1) 95 lv (.int x :: .ref a :: st) h = (match am_put h a 3 15 (.int x) with
    | some h' => am_f d scr L call 46 n 98 lv st h'
    | none => none) := k_pf (k := 118) rfl rfl rfl
theorem s_46_98 (d L n : Nat) (scr : Nat → Int32) (call : Nat → List Value → am_H → Option am_X) (lv : am_L) (st : List Value) (h : am_H) : am_f d scr L call 46 (n + 1) 98 lv st h = (match am_ld lv 0 with
    | some (.ref x) => am_f d scr L call 46 n 99 lv (.ref x :: st) h
    | _ => none) := k_la (i := .aload_n 0) rfl rfl rfl rfl
theorem s_46_99 (d L n : Nat) (scr : Nat → Int32) (call : Nat → List Value → am_H → Option am_X) (lv : am_L) (st : List Value) (h : am_H) : am_f d scr L call 46 (n + 1) 99 lv st h = (match am_ld lv 0 with
    | some (.ref x) => am_f d scr L call 46 n 100 lv (.ref x :: st) h
    | _ => none) := k_la (i := .aload_n 0) rfl rfl rfl rfl
theorem s_46_100 (d L n : Nat) (scr : Nat → Int32) (call : Nat → List Value → am_H → Option am_X) (lv : am_L) (st : List Value) (h : am_H) (a : Nat) : am_f d scr L call 46 (n + 1) 100 lv (.ref a :: st) h = (match am_get h a 3 0 with
    | some v => am_f d scr L call 46 n 103 lv (v :: st) h
    | none => none) := k_gf (k := 13) rfl rfl
theorem s_46_103 (d L n : Nat) (scr : Nat → Int32) (call : Nat → List Value → am_H → Option am_X) (lv : am_L) (st : List Value) (h : am_H) (a : Nat) : am_f d scr L call 46 (n + 1) 103 lv (.ref a :: st) h = (match am_get h a 5 3 with
    | some v => am_f d scr L call 46 n 106 lv (v :: st) h
    | none => none) := k_gf (k := 100) rfl rfl
theorem s_46_106 (d L n : Nat) (scr : Nat → Int32) (call : Nat → List Value → am_H → Option am_X) (lv : am_L) (st : List Value) (h : am_H) : am_f d scr L call 46 (n + 1) 106 lv st h = (match am_ld lv 5 with
    | some (.int x) => am_f d scr L call 46 n 108 lv (.int x :: st) h
    | _ => none) := k_li (i := .iload 5) rfl rfl rfl rfl
theorem s_46_108 (d L n : Nat) (scr : Nat → Int32) (call : Nat → List Value → am_H → Option am_X) (lv : am_L) (st : List Value) (h : am_H) : am_f d scr L call 46 (n + 1) 108 lv st h = am_f d scr L call 46 n 110 lv (.int 41 :: st) h := k_nx (i := .bipush 41) rfl rfl
theorem s_46_110 (d L n : Nat) (scr : Nat → Int32) (call : Nat → List Value → am_H → Option am_X) (lv : am_L) (st : List Value) (h : am_H) (x y : Int32) : am_f d scr L call 46 (n + 1) 110 lv (.int y :: .int x :: st) h = if y = 0 then none else am_f d scr L call 46 n 111 lv (.int (x / y) :: st) h := k_dz (f := fun x y => x / y) (i := .idiv) rfl rfl rfl rfl
theorem s_46_111 (d L n : Nat) (scr : Nat → Int32) (call : Nat → List Value → am_H → Option am_X) (lv : am_L) (st : List Value) (h : am_H) (a : Nat) (i : Int32) : am_f d scr L call 46 (n + 1) 111 lv (.int i :: .ref a :: st) h = (match am_ild scr L h a i with
    | some x => am_f d scr L call 46 n 112 lv (.int x :: st) h
    | none => none) := k_ia rfl
theorem s_46_112 (d L n : Nat) (scr : Nat → Int32) (call : Nat → List Value → am_H → Option am_X) (lv : am_L) (h : am_H) (o : Nat) (a0 : Int32)  : am_f d scr L call 46 (n + 1) 112 lv (.int a0 :: .ref o :: []) h = if am_at h o 3 = true then (match call 42 [.ref o, .int a0] h with
    | some (v, h', dk, dn) => am_add dk dn (am_f d scr L call 46 n 115 lv (v.toList ++ []) h')
    | none => none) else none := k_iv0 (k := 185) (as := [.int a0]) (r := []) rfl rfl rfl rfl (Nat.le_of_ble_eq_true rfl)
theorem s_46_115 (d L n : Nat) (scr : Nat → Int32) (call : Nat → List Value → am_H → Option am_X) (lv : am_L) (h : am_H) : am_f d scr L call 46 (n + 1) 115 lv [] h = some (none, h, 0, 0) := k_vr rfl rfl
