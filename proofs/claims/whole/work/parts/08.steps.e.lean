/-! Steps of BlameDeskModel: a row an instruction, by program. -/
-- 93: BlameDeskModel.<init>()V
theorem s_93_0 (d L n : Nat) (scr : Nat → Int32) (call : Nat → List Value → am_H → Option am_X) (lv : am_L) (st : List Value) (h : am_H) : am_f d scr L call 93 (n + 1) 0 lv st h = (match am_ld lv 0 with
    | some (.ref x) => am_f d scr L call 93 n 1 lv (.ref x :: st) h
    | _ => none) := k_la (i := .aload_n 0) rfl rfl rfl rfl
theorem s_93_1 (d L n a : Nat) (scr : Nat → Int32) (call : Nat → List Value → am_H → Option am_X) (lv : am_L) (h : am_H)  : am_f (d + 1) scr L call 93 (n + 1) 1 lv (.ref a :: []) h = am_f (d + 1) scr L call 93 n 4 lv [] h := k_ob (k := 1) rfl rfl (Nat.le_of_ble_eq_true rfl)
theorem s_93_4 (d L n : Nat) (scr : Nat → Int32) (call : Nat → List Value → am_H → Option am_X) (lv : am_L) (st : List Value) (h : am_H) : am_f d scr L call 93 (n + 1) 4 lv st h = (match am_ld lv 0 with
    | some (.ref x) => am_f d scr L call 93 n 5 lv (.ref x :: st) h
    | _ => none) := k_la (i := .aload_n 0) rfl rfl rfl rfl
theorem s_93_5 (d L n : Nat) (scr : Nat → Int32) (call : Nat → List Value → am_H → Option am_X) (lv : am_L) (st : List Value) (h : am_H) : am_f d scr L call 93 (n + 1) 5 lv st h = am_f d scr L call 93 n 7 lv (.int 100 :: st) h := k_nx (i := .bipush 100) rfl rfl
theorem s_93_9 (d L n : Nat) (scr : Nat → Int32) (call : Nat → List Value → am_H → Option am_X) (lv : am_L) (st : List Value) (h : am_H) (x : Nat) (a : Nat) : am_f d scr L call 93 (n + 1) 9 lv (.ref x :: .ref a :: st) h = (match am_put h a 8 1 (.ref x) with
    | some h' => am_f d scr L call 93 n 12 lv st h'
    | none => none) := k_pf (k := 7) rfl rfl rfl
theorem s_93_12 (d L n : Nat) (scr : Nat → Int32) (call : Nat → List Value → am_H → Option am_X) (lv : am_L) (st : List Value) (h : am_H) : am_f d scr L call 93 (n + 1) 12 lv st h = (match am_ld lv 0 with
    | some (.ref x) => am_f d scr L call 93 n 13 lv (.ref x :: st) h
    | _ => none) := k_la (i := .aload_n 0) rfl rfl rfl rfl
theorem s_93_13 (d L n : Nat) (scr : Nat → Int32) (call : Nat → List Value → am_H → Option am_X) (lv : am_L) (st : List Value) (h : am_H) : am_f d scr L call 93 (n + 1) 13 lv st h = am_f d scr L call 93 n 16 lv (.int 256 :: st) h := k_nx (i := .sipush 256) rfl rfl
theorem s_93_18 (d L n : Nat) (scr : Nat → Int32) (call : Nat → List Value → am_H → Option am_X) (lv : am_L) (st : List Value) (h : am_H) (x : Nat) (a : Nat) : am_f d scr L call 93 (n + 1) 18 lv (.ref x :: .ref a :: st) h = (match am_put h a 8 3 (.ref x) with
    | some h' => am_f d scr L call 93 n 21 lv st h'
    | none => none) := k_pf (k := 13) rfl rfl rfl
theorem s_93_21 (d L n : Nat) (scr : Nat → Int32) (call : Nat → List Value → am_H → Option am_X) (lv : am_L) (st : List Value) (h : am_H) : am_f d scr L call 93 (n + 1) 21 lv st h = (match am_ld lv 0 with
    | some (.ref x) => am_f d scr L call 93 n 22 lv (.ref x :: st) h
    | _ => none) := k_la (i := .aload_n 0) rfl rfl rfl rfl
theorem s_93_22 (d L n : Nat) (scr : Nat → Int32) (call : Nat → List Value → am_H → Option am_X) (lv : am_L) (st : List Value) (h : am_H) : am_f d scr L call 93 (n + 1) 22 lv st h = am_f d scr L call 93 n 25 lv (.int 256 :: st) h := k_nx (i := .sipush 256) rfl rfl
theorem s_93_27 (d L n : Nat) (scr : Nat → Int32) (call : Nat → List Value → am_H → Option am_X) (lv : am_L) (st : List Value) (h : am_H) (x : Nat) (a : Nat) : am_f d scr L call 93 (n + 1) 27 lv (.ref x :: .ref a :: st) h = (match am_put h a 8 4 (.ref x) with
    | some h' => am_f d scr L call 93 n 30 lv st h'
    | none => none) := k_pf (k := 17) rfl rfl rfl
theorem s_93_30 (d L n : Nat) (scr : Nat → Int32) (call : Nat → List Value → am_H → Option am_X) (lv : am_L) (st : List Value) (h : am_H) : am_f d scr L call 93 (n + 1) 30 lv st h = (match am_ld lv 0 with
    | some (.ref x) => am_f d scr L call 93 n 31 lv (.ref x :: st) h
    | _ => none) := k_la (i := .aload_n 0) rfl rfl rfl rfl
theorem s_93_31 (d L n : Nat) (scr : Nat → Int32) (call : Nat → List Value → am_H → Option am_X) (lv : am_L) (st : List Value) (h : am_H) : am_f d scr L call 93 (n + 1) 31 lv st h = am_f d scr L call 93 n 34 lv (.int 256 :: st) h := k_nx (i := .sipush 256) rfl rfl
theorem s_93_36 (d L n : Nat) (scr : Nat → Int32) (call : Nat → List Value → am_H → Option am_X) (lv : am_L) (st : List Value) (h : am_H) (x : Nat) (a : Nat) : am_f d scr L call 93 (n + 1) 36 lv (.ref x :: .ref a :: st) h = (match am_put h a 8 5 (.ref x) with
    | some h' => am_f d scr L call 93 n 39 lv st h'
    | none => none) := k_pf (k := 20) rfl rfl rfl
theorem s_93_39 (d L n : Nat) (scr : Nat → Int32) (call : Nat → List Value → am_H → Option am_X) (lv : am_L) (st : List Value) (h : am_H) : am_f d scr L call 93 (n + 1) 39 lv st h = (match am_ld lv 0 with
    | some (.ref x) => am_f d scr L call 93 n 40 lv (.ref x :: st) h
    | _ => none) := k_la (i := .aload_n 0) rfl rfl rfl rfl
theorem s_93_40 (d L n : Nat) (scr : Nat → Int32) (call : Nat → List Value → am_H → Option am_X) (lv : am_L) (st : List Value) (h : am_H) : am_f d scr L call 93 (n + 1) 40 lv st h = am_f d scr L call 93 n 42 lv (.int 101 :: st) h := k_nx (i := .bipush 101) rfl rfl
theorem s_93_44 (d L n : Nat) (scr : Nat → Int32) (call : Nat → List Value → am_H → Option am_X) (lv : am_L) (st : List Value) (h : am_H) (x : Nat) (a : Nat) : am_f d scr L call 93 (n + 1) 44 lv (.ref x :: .ref a :: st) h = (match am_put h a 8 9 (.ref x) with
    | some h' => am_f d scr L call 93 n 47 lv st h'
    | none => none) := k_pf (k := 23) rfl rfl rfl
theorem s_93_47 (d L n : Nat) (scr : Nat → Int32) (call : Nat → List Value → am_H → Option am_X) (lv : am_L) (st : List Value) (h : am_H) : am_f d scr L call 93 (n + 1) 47 lv st h = (match am_ld lv 0 with
    | some (.ref x) => am_f d scr L call 93 n 48 lv (.ref x :: st) h
    | _ => none) := k_la (i := .aload_n 0) rfl rfl rfl rfl
theorem s_93_48 (d L n : Nat) (scr : Nat → Int32) (call : Nat → List Value → am_H → Option am_X) (lv : am_L) (st : List Value) (h : am_H) : am_f d scr L call 93 (n + 1) 48 lv st h = am_f d scr L call 93 n 50 lv (.int 101 :: st) h := k_nx (i := .bipush 101) rfl rfl
theorem s_93_52 (d L n : Nat) (scr : Nat → Int32) (call : Nat → List Value → am_H → Option am_X) (lv : am_L) (st : List Value) (h : am_H) (x : Nat) (a : Nat) : am_f d scr L call 93 (n + 1) 52 lv (.ref x :: .ref a :: st) h = (match am_put h a 8 10 (.ref x) with
    | some h' => am_f d scr L call 93 n 55 lv st h'
    | none => none) := k_pf (k := 26) rfl rfl rfl
theorem s_93_55 (d L n : Nat) (scr : Nat → Int32) (call : Nat → List Value → am_H → Option am_X) (lv : am_L) (st : List Value) (h : am_H) : am_f d scr L call 93 (n + 1) 55 lv st h = (match am_ld lv 0 with
    | some (.ref x) => am_f d scr L call 93 n 56 lv (.ref x :: st) h
    | _ => none) := k_la (i := .aload_n 0) rfl rfl rfl rfl
theorem s_93_56 (d L n : Nat) (scr : Nat → Int32) (call : Nat → List Value → am_H → Option am_X) (lv : am_L) (st : List Value) (h : am_H) : am_f d scr L call 93 (n + 1) 56 lv st h = am_f d scr L call 93 n 58 lv (.int 101 :: st) h := k_nx (i := .bipush 101) rfl rfl
theorem s_93_60 (d L n : Nat) (scr : Nat → Int32) (call : Nat → List Value → am_H → Option am_X) (lv : am_L) (st : List Value) (h : am_H) (x : Nat) (a : Nat) : am_f d scr L call 93 (n + 1) 60 lv (.ref x :: .ref a :: st) h = (match am_put h a 8 11 (.ref x) with
    | some h' => am_f d scr L call 93 n 63 lv st h'
    | none => none) := k_pf (k := 29) rfl rfl rfl
theorem s_93_63 (d L n : Nat) (scr : Nat → Int32) (call : Nat → List Value → am_H → Option am_X) (lv : am_L) (st : List Value) (h : am_H) : am_f d scr L call 93 (n + 1) 63 lv st h = (match am_ld lv 0 with
    | some (.ref x) => am_f d scr L call 93 n 64 lv (.ref x :: st) h
    | _ => none) := k_la (i := .aload_n 0) rfl rfl rfl rfl
theorem s_93_64 (d L n : Nat) (scr : Nat → Int32) (call : Nat → List Value → am_H → Option am_X) (lv : am_L) (st : List Value) (h : am_H) : am_f d scr L call 93 (n + 1) 64 lv st h = am_f d scr L call 93 n 66 lv (.int 101 :: st) h := k_nx (i := .bipush 101) rfl rfl
theorem s_93_68 (d L n : Nat) (scr : Nat → Int32) (call : Nat → List Value → am_H → Option am_X) (lv : am_L) (st : List Value) (h : am_H) (x : Nat) (a : Nat) : am_f d scr L call 93 (n + 1) 68 lv (.ref x :: .ref a :: st) h = (match am_put h a 8 12 (.ref x) with
    | some h' => am_f d scr L call 93 n 71 lv st h'
    | none => none) := k_pf (k := 32) rfl rfl rfl
theorem s_93_71 (d L n : Nat) (scr : Nat → Int32) (call : Nat → List Value → am_H → Option am_X) (lv : am_L) (st : List Value) (h : am_H) : am_f d scr L call 93 (n + 1) 71 lv st h = (match am_ld lv 0 with
    | some (.ref x) => am_f d scr L call 93 n 72 lv (.ref x :: st) h
    | _ => none) := k_la (i := .aload_n 0) rfl rfl rfl rfl
theorem s_93_72 (d L n : Nat) (scr : Nat → Int32) (call : Nat → List Value → am_H → Option am_X) (lv : am_L) (st : List Value) (h : am_H) : am_f d scr L call 93 (n + 1) 72 lv st h = am_f d scr L call 93 n 74 lv (.int 101 :: st) h := k_nx (i := .bipush 101) rfl rfl
theorem s_93_76 (d L n : Nat) (scr : Nat → Int32) (call : Nat → List Value → am_H → Option am_X) (lv : am_L) (st : List Value) (h : am_H) (x : Nat) (a : Nat) : am_f d scr L call 93 (n + 1) 76 lv (.ref x :: .ref a :: st) h = (match am_put h a 8 13 (.ref x) with
    | some h' => am_f d scr L call 93 n 79 lv st h'
    | none => none) := k_pf (k := 35) rfl rfl rfl
theorem s_93_79 (d L n : Nat) (scr : Nat → Int32) (call : Nat → List Value → am_H → Option am_X) (lv : am_L) (st : List Value) (h : am_H) : am_f d scr L call 93 (n + 1) 79 lv st h = (match am_ld lv 0 with
    | some (.ref x) => am_f d scr L call 93 n 80 lv (.ref x :: st) h
    | _ => none) := k_la (i := .aload_n 0) rfl rfl rfl rfl
theorem s_93_80 (d L n : Nat) (scr : Nat → Int32) (call : Nat → List Value → am_H → Option am_X) (lv : am_L) (st : List Value) (h : am_H) : am_f d scr L call 93 (n + 1) 80 lv st h = am_f d scr L call 93 n 82 lv (.int 101 :: st) h := k_nx (i := .bipush 101) rfl rfl
theorem s_93_84 (d L n : Nat) (scr : Nat → Int32) (call : Nat → List Value → am_H → Option am_X) (lv : am_L) (st : List Value) (h : am_H) (x : Nat) (a : Nat) : am_f d scr L call 93 (n + 1) 84 lv (.ref x :: .ref a :: st) h = (match am_put h a 8 14 (.ref x) with
    | some h' => am_f d scr L call 93 n 87 lv st h'
    | none => none) := k_pf (k := 38) rfl rfl rfl
theorem s_93_87 (d L n : Nat) (scr : Nat → Int32) (call : Nat → List Value → am_H → Option am_X) (lv : am_L) (st : List Value) (h : am_H) : am_f d scr L call 93 (n + 1) 87 lv st h = (match am_ld lv 0 with
    | some (.ref x) => am_f d scr L call 93 n 88 lv (.ref x :: st) h
    | _ => none) := k_la (i := .aload_n 0) rfl rfl rfl rfl
theorem s_93_88 (d L n : Nat) (scr : Nat → Int32) (call : Nat → List Value → am_H → Option am_X) (lv : am_L) (st : List Value) (h : am_H) : am_f d scr L call 93 (n + 1) 88 lv st h = am_f d scr L call 93 n 90 lv (.int 101 :: st) h := k_nx (i := .bipush 101) rfl rfl
theorem s_93_92 (d L n : Nat) (scr : Nat → Int32) (call : Nat → List Value → am_H → Option am_X) (lv : am_L) (st : List Value) (h : am_H) (x : Nat) (a : Nat) : am_f d scr L call 93 (n + 1) 92 lv (.ref x :: .ref a :: st) h = (match am_put h a 8 15 (.ref x) with
    | some h' => am_f d scr L call 93 n 95 lv st h'
    | none => none) := k_pf (k := 41) rfl rfl rfl
theorem s_93_95 (d L n : Nat) (scr : Nat → Int32) (call : Nat → List Value → am_H → Option am_X) (lv : am_L) (st : List Value) (h : am_H) : am_f d scr L call 93 (n + 1) 95 lv st h = (match am_ld lv 0 with
    | some (.ref x) => am_f d scr L call 93 n 96 lv (.ref x :: st) h
    | _ => none) := k_la (i := .aload_n 0) rfl rfl rfl rfl
theorem s_93_96 (d L n : Nat) (scr : Nat → Int32) (call : Nat → List Value → am_H → Option am_X) (lv : am_L) (st : List Value) (h : am_H) : am_f d scr L call 93 (n + 1) 96 lv st h = am_f d scr L call 93 n 98 lv (.int 101 :: st) h := k_nx (i := .bipush 101) rfl rfl
theorem s_93_100 (d L n : Nat) (scr : Nat → Int32) (call : Nat → List Value → am_H → Option am_X) (lv : am_L) (st : List Value) (h : am_H) (x : Nat) (a : Nat) : am_f d scr L call 93 (n + 1) 100 lv (.ref x :: .ref a :: st) h = (match am_put h a 8 16 (.ref x) with
    | some h' => am_f d scr L call 93 n 103 lv st h'
    | none => none) := k_pf (k := 44) rfl rfl rfl
theorem s_93_103 (d L n : Nat) (scr : Nat → Int32) (call : Nat → List Value → am_H → Option am_X) (lv : am_L) (st : List Value) (h : am_H) : am_f d scr L call 93 (n + 1) 103 lv st h = (match am_ld lv 0 with
    | some (.ref x) => am_f d scr L call 93 n 104 lv (.ref x :: st) h
    | _ => none) := k_la (i := .aload_n 0) rfl rfl rfl rfl
theorem s_93_104 (d L n : Nat) (scr : Nat → Int32) (call : Nat → List Value → am_H → Option am_X) (lv : am_L) (st : List Value) (h : am_H) : am_f d scr L call 93 (n + 1) 104 lv st h = am_f d scr L call 93 n 106 lv (.int 101 :: st) h := k_nx (i := .bipush 101) rfl rfl
theorem s_93_108 (d L n : Nat) (scr : Nat → Int32) (call : Nat → List Value → am_H → Option am_X) (lv : am_L) (st : List Value) (h : am_H) (x : Nat) (a : Nat) : am_f d scr L call 93 (n + 1) 108 lv (.ref x :: .ref a :: st) h = (match am_put h a 8 17 (.ref x) with
    | some h' => am_f d scr L call 93 n 111 lv st h'
    | none => none) := k_pf (k := 47) rfl rfl rfl
theorem s_93_111 (d L n : Nat) (scr : Nat → Int32) (call : Nat → List Value → am_H → Option am_X) (lv : am_L) (st : List Value) (h : am_H) : am_f d scr L call 93 (n + 1) 111 lv st h = (match am_ld lv 0 with
    | some (.ref x) => am_f d scr L call 93 n 112 lv (.ref x :: st) h
    | _ => none) := k_la (i := .aload_n 0) rfl rfl rfl rfl
theorem s_93_112 (d L n : Nat) (scr : Nat → Int32) (call : Nat → List Value → am_H → Option am_X) (lv : am_L) (st : List Value) (h : am_H) : am_f d scr L call 93 (n + 1) 112 lv st h = am_f d scr L call 93 n 114 lv (.int 101 :: st) h := k_nx (i := .bipush 101) rfl rfl
theorem s_93_116 (d L n : Nat) (scr : Nat → Int32) (call : Nat → List Value → am_H → Option am_X) (lv : am_L) (st : List Value) (h : am_H) (x : Nat) (a : Nat) : am_f d scr L call 93 (n + 1) 116 lv (.ref x :: .ref a :: st) h = (match am_put h a 8 19 (.ref x) with
    | some h' => am_f d scr L call 93 n 119 lv st h'
    | none => none) := k_pf (k := 50) rfl rfl rfl
theorem s_93_119 (d L n : Nat) (scr : Nat → Int32) (call : Nat → List Value → am_H → Option am_X) (lv : am_L) (st : List Value) (h : am_H) : am_f d scr L call 93 (n + 1) 119 lv st h = (match am_ld lv 0 with
    | some (.ref x) => am_f d scr L call 93 n 120 lv (.ref x :: st) h
    | _ => none) := k_la (i := .aload_n 0) rfl rfl rfl rfl
theorem s_93_120 (d L n : Nat) (scr : Nat → Int32) (call : Nat → List Value → am_H → Option am_X) (lv : am_L) (st : List Value) (h : am_H) : am_f d scr L call 93 (n + 1) 120 lv st h = am_f d scr L call 93 n 122 lv (.int 32 :: st) h := k_nx (i := .bipush 32) rfl rfl
theorem s_93_124 (d L n : Nat) (scr : Nat → Int32) (call : Nat → List Value → am_H → Option am_X) (lv : am_L) (st : List Value) (h : am_H) (x : Nat) (a : Nat) : am_f d scr L call 93 (n + 1) 124 lv (.ref x :: .ref a :: st) h = (match am_put h a 8 22 (.ref x) with
    | some h' => am_f d scr L call 93 n 127 lv st h'
    | none => none) := k_pf (k := 53) rfl rfl rfl
theorem s_93_127 (d L n : Nat) (scr : Nat → Int32) (call : Nat → List Value → am_H → Option am_X) (lv : am_L) (st : List Value) (h : am_H) : am_f d scr L call 93 (n + 1) 127 lv st h = (match am_ld lv 0 with
    | some (.ref x) => am_f d scr L call 93 n 128 lv (.ref x :: st) h
    | _ => none) := k_la (i := .aload_n 0) rfl rfl rfl rfl
theorem s_93_128 (d L n : Nat) (scr : Nat → Int32) (call : Nat → List Value → am_H → Option am_X) (lv : am_L) (st : List Value) (h : am_H) : am_f d scr L call 93 (n + 1) 128 lv st h = am_f d scr L call 93 n 130 lv (.int 32 :: st) h := k_nx (i := .bipush 32) rfl rfl
theorem s_93_132 (d L n : Nat) (scr : Nat → Int32) (call : Nat → List Value → am_H → Option am_X) (lv : am_L) (st : List Value) (h : am_H) (x : Nat) (a : Nat) : am_f d scr L call 93 (n + 1) 132 lv (.ref x :: .ref a :: st) h = (match am_put h a 8 24 (.ref x) with
    | some h' => am_f d scr L call 93 n 135 lv st h'
    | none => none) := k_pf (k := 56) rfl rfl rfl
theorem s_93_135 (d L n : Nat) (scr : Nat → Int32) (call : Nat → List Value → am_H → Option am_X) (lv : am_L) (st : List Value) (h : am_H) : am_f d scr L call 93 (n + 1) 135 lv st h = (match am_ld lv 0 with
    | some (.ref x) => am_f d scr L call 93 n 136 lv (.ref x :: st) h
    | _ => none) := k_la (i := .aload_n 0) rfl rfl rfl rfl
theorem s_93_136 (d L n : Nat) (scr : Nat → Int32) (call : Nat → List Value → am_H → Option am_X) (lv : am_L) (st : List Value) (h : am_H) : am_f d scr L call 93 (n + 1) 136 lv st h = am_f d scr L call 93 n 137 lv (.int (-1) :: st) h := k_nx (i := .iconst (-1)) rfl rfl
theorem s_93_137 (d L n : Nat) (scr : Nat → Int32) (call : Nat → List Value → am_H → Option am_X) (lv : am_L) (st : List Value) (h : am_H) (x : Int32) (a : Nat) : am_f d scr L call 93 (n + 1) 137 lv (.int x :: .ref a :: st) h = (match am_put h a 8 27 (.int x) with
    | some h' => am_f d scr L call 93 n 140 lv st h'
    | none => none) := k_pf (k := 59) rfl rfl rfl
theorem s_93_140 (d L n : Nat) (scr : Nat → Int32) (call : Nat → List Value → am_H → Option am_X) (lv : am_L) (st : List Value) (h : am_H) : am_f d scr L call 93 (n + 1) 140 lv st h = (match am_ld lv 0 with
    | some (.ref x) => am_f d scr L call 93 n 141 lv (.ref x :: st) h
    | _ => none) := k_la (i := .aload_n 0) rfl rfl rfl rfl
theorem s_93_141 (d L n : Nat) (scr : Nat → Int32) (call : Nat → List Value → am_H → Option am_X) (lv : am_L) (st : List Value) (h : am_H) : am_f d scr L call 93 (n + 1) 141 lv st h = am_f d scr L call 93 n 144 lv (.int 400 :: st) h := k_nx (i := .sipush 400) rfl rfl
theorem s_93_146 (d L n : Nat) (scr : Nat → Int32) (call : Nat → List Value → am_H → Option am_X) (lv : am_L) (st : List Value) (h : am_H) (x : Nat) (a : Nat) : am_f d scr L call 93 (n + 1) 146 lv (.ref x :: .ref a :: st) h = (match am_put h a 8 29 (.ref x) with
    | some h' => am_f d scr L call 93 n 149 lv st h'
    | none => none) := k_pf (k := 63) rfl rfl rfl
theorem s_93_149 (d L n : Nat) (scr : Nat → Int32) (call : Nat → List Value → am_H → Option am_X) (lv : am_L) (st : List Value) (h : am_H) : am_f d scr L call 93 (n + 1) 149 lv st h = (match am_ld lv 0 with
    | some (.ref x) => am_f d scr L call 93 n 150 lv (.ref x :: st) h
    | _ => none) := k_la (i := .aload_n 0) rfl rfl rfl rfl
theorem s_93_150 (d L n : Nat) (scr : Nat → Int32) (call : Nat → List Value → am_H → Option am_X) (lv : am_L) (st : List Value) (h : am_H) : am_f d scr L call 93 (n + 1) 150 lv st h = am_f d scr L call 93 n 153 lv (.int 400 :: st) h := k_nx (i := .sipush 400) rfl rfl
theorem s_93_155 (d L n : Nat) (scr : Nat → Int32) (call : Nat → List Value → am_H → Option am_X) (lv : am_L) (st : List Value) (h : am_H) (x : Nat) (a : Nat) : am_f d scr L call 93 (n + 1) 155 lv (.ref x :: .ref a :: st) h = (match am_put h a 8 30 (.ref x) with
    | some h' => am_f d scr L call 93 n 158 lv st h'
    | none => none) := k_pf (k := 66) rfl rfl rfl
theorem s_93_158 (d L n : Nat) (scr : Nat → Int32) (call : Nat → List Value → am_H → Option am_X) (lv : am_L) (st : List Value) (h : am_H) : am_f d scr L call 93 (n + 1) 158 lv st h = (match am_ld lv 0 with
    | some (.ref x) => am_f d scr L call 93 n 159 lv (.ref x :: st) h
    | _ => none) := k_la (i := .aload_n 0) rfl rfl rfl rfl
theorem s_93_159 (d L n : Nat) (scr : Nat → Int32) (call : Nat → List Value → am_H → Option am_X) (lv : am_L) (st : List Value) (h : am_H) : am_f d scr L call 93 (n + 1) 159 lv st h = am_f d scr L call 93 n 162 lv (.int 2300 :: st) h := k_nx (i := .sipush 2300) rfl rfl
theorem s_93_164 (d L n : Nat) (scr : Nat → Int32) (call : Nat → List Value → am_H → Option am_X) (lv : am_L) (st : List Value) (h : am_H) (x : Nat) (a : Nat) : am_f d scr L call 93 (n + 1) 164 lv (.ref x :: .ref a :: st) h = (match am_put h a 8 32 (.ref x) with
    | some h' => am_f d scr L call 93 n 167 lv st h'
    | none => none) := k_pf (k := 69) rfl rfl rfl
set_option maxRecDepth 100000 in
theorem s_93_167 (d L n : Nat) (scr : Nat → Int32) (call : Nat → List Value → am_H → Option am_X) (lv : am_L) (st : List Value) (h : am_H) : am_f d scr L call 93 (n + 1) 167 lv st h = (match am_ld lv 0 with
    | some (.ref x) => am_f d scr L call 93 n 168 lv (.ref x :: st) h
    | _ => none) := k_la (i := .aload_n 0) rfl rfl rfl rfl
set_option maxRecDepth 100000 in
theorem s_93_168 (d L n : Nat) (scr : Nat → Int32) (call : Nat → List Value → am_H → Option am_X) (lv : am_L) (st : List Value) (h : am_H) : am_f d scr L call 93 (n + 1) 168 lv st h = am_f d scr L call 93 n 171 lv (.int 2300 :: st) h := k_nx (i := .sipush 2300) rfl rfl
set_option maxRecDepth 100000 in
theorem s_93_173 (d L n : Nat) (scr : Nat → Int32) (call : Nat → List Value → am_H → Option am_X) (lv : am_L) (st : List Value) (h : am_H) (x : Nat) (a : Nat) : am_f d scr L call 93 (n + 1) 173 lv (.ref x :: .ref a :: st) h = (match am_put h a 8 33 (.ref x) with
    | some h' => am_f d scr L call 93 n 176 lv st h'
    | none => none) := k_pf (k := 72) rfl rfl rfl
set_option maxRecDepth 100000 in
theorem s_93_176 (d L n : Nat) (scr : Nat → Int32) (call : Nat → List Value → am_H → Option am_X) (lv : am_L) (st : List Value) (h : am_H) : am_f d scr L call 93 (n + 1) 176 lv st h = (match am_ld lv 0 with
    | some (.ref x) => am_f d scr L call 93 n 177 lv (.ref x :: st) h
    | _ => none) := k_la (i := .aload_n 0) rfl rfl rfl rfl
set_option maxRecDepth 100000 in
theorem s_93_177 (d L n : Nat) (scr : Nat → Int32) (call : Nat → List Value → am_H → Option am_X) (lv : am_L) (st : List Value) (h : am_H) : am_f d scr L call 93 (n + 1) 177 lv st h = am_f d scr L call 93 n 180 lv (.int 2300 :: st) h := k_nx (i := .sipush 2300) rfl rfl
set_option maxRecDepth 100000 in
theorem s_93_182 (d L n : Nat) (scr : Nat → Int32) (call : Nat → List Value → am_H → Option am_X) (lv : am_L) (st : List Value) (h : am_H) (x : Nat) (a : Nat) : am_f d scr L call 93 (n + 1) 182 lv (.ref x :: .ref a :: st) h = (match am_put h a 8 34 (.ref x) with
    | some h' => am_f d scr L call 93 n 185 lv st h'
    | none => none) := k_pf (k := 75) rfl rfl rfl
set_option maxRecDepth 100000 in
theorem s_93_185 (d L n : Nat) (scr : Nat → Int32) (call : Nat → List Value → am_H → Option am_X) (lv : am_L) (st : List Value) (h : am_H) : am_f d scr L call 93 (n + 1) 185 lv st h = (match am_ld lv 0 with
    | some (.ref x) => am_f d scr L call 93 n 186 lv (.ref x :: st) h
    | _ => none) := k_la (i := .aload_n 0) rfl rfl rfl rfl
set_option maxRecDepth 100000 in
theorem s_93_186 (d L n : Nat) (scr : Nat → Int32) (call : Nat → List Value → am_H → Option am_X) (lv : am_L) (st : List Value) (h : am_H) : am_f d scr L call 93 (n + 1) 186 lv st h = am_f d scr L call 93 n 189 lv (.int 200 :: st) h := k_nx (i := .sipush 200) rfl rfl
set_option maxRecDepth 100000 in
theorem s_93_191 (d L n : Nat) (scr : Nat → Int32) (call : Nat → List Value → am_H → Option am_X) (lv : am_L) (st : List Value) (h : am_H) (x : Nat) (a : Nat) : am_f d scr L call 93 (n + 1) 191 lv (.ref x :: .ref a :: st) h = (match am_put h a 8 36 (.ref x) with
    | some h' => am_f d scr L call 93 n 194 lv st h'
    | none => none) := k_pf (k := 78) rfl rfl rfl
set_option maxRecDepth 100000 in
theorem s_93_194 (d L n : Nat) (scr : Nat → Int32) (call : Nat → List Value → am_H → Option am_X) (lv : am_L) (st : List Value) (h : am_H) : am_f d scr L call 93 (n + 1) 194 lv st h = (match am_ld lv 0 with
    | some (.ref x) => am_f d scr L call 93 n 195 lv (.ref x :: st) h
    | _ => none) := k_la (i := .aload_n 0) rfl rfl rfl rfl
set_option maxRecDepth 100000 in
theorem s_93_195 (d L n : Nat) (scr : Nat → Int32) (call : Nat → List Value → am_H → Option am_X) (lv : am_L) (st : List Value) (h : am_H) : am_f d scr L call 93 (n + 1) 195 lv st h = am_f d scr L call 93 n 198 lv (.int 200 :: st) h := k_nx (i := .sipush 200) rfl rfl
set_option maxRecDepth 100000 in
theorem s_93_200 (d L n : Nat) (scr : Nat → Int32) (call : Nat → List Value → am_H → Option am_X) (lv : am_L) (st : List Value) (h : am_H) (x : Nat) (a : Nat) : am_f d scr L call 93 (n + 1) 200 lv (.ref x :: .ref a :: st) h = (match am_put h a 8 37 (.ref x) with
    | some h' => am_f d scr L call 93 n 203 lv st h'
    | none => none) := k_pf (k := 81) rfl rfl rfl
set_option maxRecDepth 100000 in
theorem s_93_203 (d L n : Nat) (scr : Nat → Int32) (call : Nat → List Value → am_H → Option am_X) (lv : am_L) (st : List Value) (h : am_H) : am_f d scr L call 93 (n + 1) 203 lv st h = (match am_ld lv 0 with
    | some (.ref x) => am_f d scr L call 93 n 204 lv (.ref x :: st) h
    | _ => none) := k_la (i := .aload_n 0) rfl rfl rfl rfl
set_option maxRecDepth 100000 in
theorem s_93_204 (d L n : Nat) (scr : Nat → Int32) (call : Nat → List Value → am_H → Option am_X) (lv : am_L) (st : List Value) (h : am_H) : am_f d scr L call 93 (n + 1) 204 lv st h = am_f d scr L call 93 n 207 lv (.int 200 :: st) h := k_nx (i := .sipush 200) rfl rfl
set_option maxRecDepth 100000 in
theorem s_93_209 (d L n : Nat) (scr : Nat → Int32) (call : Nat → List Value → am_H → Option am_X) (lv : am_L) (st : List Value) (h : am_H) (x : Nat) (a : Nat) : am_f d scr L call 93 (n + 1) 209 lv (.ref x :: .ref a :: st) h = (match am_put h a 8 38 (.ref x) with
    | some h' => am_f d scr L call 93 n 212 lv st h'
    | none => none) := k_pf (k := 84) rfl rfl rfl
set_option maxRecDepth 100000 in
theorem s_93_212 (d L n : Nat) (scr : Nat → Int32) (call : Nat → List Value → am_H → Option am_X) (lv : am_L) (st : List Value) (h : am_H) : am_f d scr L call 93 (n + 1) 212 lv st h = (match am_ld lv 0 with
    | some (.ref x) => am_f d scr L call 93 n 213 lv (.ref x :: st) h
    | _ => none) := k_la (i := .aload_n 0) rfl rfl rfl rfl
set_option maxRecDepth 100000 in
theorem s_93_213 (d L n : Nat) (scr : Nat → Int32) (call : Nat → List Value → am_H → Option am_X) (lv : am_L) (st : List Value) (h : am_H) : am_f d scr L call 93 (n + 1) 213 lv st h = am_f d scr L call 93 n 216 lv (.int 200 :: st) h := k_nx (i := .sipush 200) rfl rfl
set_option maxRecDepth 100000 in
theorem s_93_218 (d L n : Nat) (scr : Nat → Int32) (call : Nat → List Value → am_H → Option am_X) (lv : am_L) (st : List Value) (h : am_H) (x : Nat) (a : Nat) : am_f d scr L call 93 (n + 1) 218 lv (.ref x :: .ref a :: st) h = (match am_put h a 8 39 (.ref x) with
    | some h' => am_f d scr L call 93 n 221 lv st h'
    | none => none) := k_pf (k := 87) rfl rfl rfl
set_option maxRecDepth 100000 in
theorem s_93_221 (d L n : Nat) (scr : Nat → Int32) (call : Nat → List Value → am_H → Option am_X) (lv : am_L) (st : List Value) (h : am_H) : am_f d scr L call 93 (n + 1) 221 lv st h = (match am_ld lv 0 with
    | some (.ref x) => am_f d scr L call 93 n 222 lv (.ref x :: st) h
    | _ => none) := k_la (i := .aload_n 0) rfl rfl rfl rfl
set_option maxRecDepth 100000 in
theorem s_93_222 (d L n : Nat) (scr : Nat → Int32) (call : Nat → List Value → am_H → Option am_X) (lv : am_L) (st : List Value) (h : am_H) : am_f d scr L call 93 (n + 1) 222 lv st h = am_f d scr L call 93 n 224 lv (.int 42 :: st) h := k_nx (i := .bipush 42) rfl rfl
set_option maxRecDepth 100000 in
theorem s_93_226 (d L n : Nat) (scr : Nat → Int32) (call : Nat → List Value → am_H → Option am_X) (lv : am_L) (st : List Value) (h : am_H) (x : Nat) (a : Nat) : am_f d scr L call 93 (n + 1) 226 lv (.ref x :: .ref a :: st) h = (match am_put h a 8 41 (.ref x) with
    | some h' => am_f d scr L call 93 n 229 lv st h'
    | none => none) := k_pf (k := 90) rfl rfl rfl
set_option maxRecDepth 100000 in
theorem s_93_229 (d L n : Nat) (scr : Nat → Int32) (call : Nat → List Value → am_H → Option am_X) (lv : am_L) (st : List Value) (h : am_H) : am_f d scr L call 93 (n + 1) 229 lv st h = (match am_ld lv 0 with
    | some (.ref x) => am_f d scr L call 93 n 230 lv (.ref x :: st) h
    | _ => none) := k_la (i := .aload_n 0) rfl rfl rfl rfl
set_option maxRecDepth 100000 in
theorem s_93_230 (d L n : Nat) (scr : Nat → Int32) (call : Nat → List Value → am_H → Option am_X) (lv : am_L) (st : List Value) (h : am_H) : am_f d scr L call 93 (n + 1) 230 lv st h = am_f d scr L call 93 n 232 lv (.int 42 :: st) h := k_nx (i := .bipush 42) rfl rfl
set_option maxRecDepth 100000 in
theorem s_93_234 (d L n : Nat) (scr : Nat → Int32) (call : Nat → List Value → am_H → Option am_X) (lv : am_L) (st : List Value) (h : am_H) (x : Nat) (a : Nat) : am_f d scr L call 93 (n + 1) 234 lv (.ref x :: .ref a :: st) h = (match am_put h a 8 42 (.ref x) with
    | some h' => am_f d scr L call 93 n 237 lv st h'
    | none => none) := k_pf (k := 93) rfl rfl rfl
set_option maxRecDepth 100000 in
theorem s_93_237 (d L n : Nat) (scr : Nat → Int32) (call : Nat → List Value → am_H → Option am_X) (lv : am_L) (st : List Value) (h : am_H) : am_f d scr L call 93 (n + 1) 237 lv st h = (match am_ld lv 0 with
    | some (.ref x) => am_f d scr L call 93 n 238 lv (.ref x :: st) h
    | _ => none) := k_la (i := .aload_n 0) rfl rfl rfl rfl
set_option maxRecDepth 100000 in
theorem s_93_238 (d L n : Nat) (scr : Nat → Int32) (call : Nat → List Value → am_H → Option am_X) (lv : am_L) (st : List Value) (h : am_H) : am_f d scr L call 93 (n + 1) 238 lv st h = am_f d scr L call 93 n 240 lv (.int 42 :: st) h := k_nx (i := .bipush 42) rfl rfl
set_option maxRecDepth 100000 in
theorem s_93_242 (d L n : Nat) (scr : Nat → Int32) (call : Nat → List Value → am_H → Option am_X) (lv : am_L) (st : List Value) (h : am_H) (x : Nat) (a : Nat) : am_f d scr L call 93 (n + 1) 242 lv (.ref x :: .ref a :: st) h = (match am_put h a 8 43 (.ref x) with
    | some h' => am_f d scr L call 93 n 245 lv st h'
    | none => none) := k_pf (k := 96) rfl rfl rfl
set_option maxRecDepth 100000 in
theorem s_93_245 (d L n : Nat) (scr : Nat → Int32) (call : Nat → List Value → am_H → Option am_X) (lv : am_L) (st : List Value) (h : am_H) : am_f d scr L call 93 (n + 1) 245 lv st h = (match am_ld lv 0 with
    | some (.ref x) => am_f d scr L call 93 n 246 lv (.ref x :: st) h
    | _ => none) := k_la (i := .aload_n 0) rfl rfl rfl rfl
set_option maxRecDepth 100000 in
theorem s_93_246 (d L n : Nat) (scr : Nat → Int32) (call : Nat → List Value → am_H → Option am_X) (lv : am_L) (st : List Value) (h : am_H) : am_f d scr L call 93 (n + 1) 246 lv st h = am_f d scr L call 93 n 249 lv (.int 1300 :: st) h := k_nx (i := .sipush 1300) rfl rfl
set_option maxRecDepth 100000 in
theorem s_93_251 (d L n : Nat) (scr : Nat → Int32) (call : Nat → List Value → am_H → Option am_X) (lv : am_L) (st : List Value) (h : am_H) (x : Nat) (a : Nat) : am_f d scr L call 93 (n + 1) 251 lv (.ref x :: .ref a :: st) h = (match am_put h a 8 45 (.ref x) with
    | some h' => am_f d scr L call 93 n 254 lv st h'
    | none => none) := k_pf (k := 99) rfl rfl rfl
set_option maxRecDepth 100000 in
theorem s_93_254 (d L n : Nat) (scr : Nat → Int32) (call : Nat → List Value → am_H → Option am_X) (lv : am_L) (st : List Value) (h : am_H) : am_f d scr L call 93 (n + 1) 254 lv st h = (match am_ld lv 0 with
    | some (.ref x) => am_f d scr L call 93 n 255 lv (.ref x :: st) h
    | _ => none) := k_la (i := .aload_n 0) rfl rfl rfl rfl
set_option maxRecDepth 100000 in
theorem s_93_255 (d L n : Nat) (scr : Nat → Int32) (call : Nat → List Value → am_H → Option am_X) (lv : am_L) (st : List Value) (h : am_H) : am_f d scr L call 93 (n + 1) 255 lv st h = am_f d scr L call 93 n 258 lv (.int 1300 :: st) h := k_nx (i := .sipush 1300) rfl rfl
set_option maxRecDepth 100000 in
theorem s_93_260 (d L n : Nat) (scr : Nat → Int32) (call : Nat → List Value → am_H → Option am_X) (lv : am_L) (st : List Value) (h : am_H) (x : Nat) (a : Nat) : am_f d scr L call 93 (n + 1) 260 lv (.ref x :: .ref a :: st) h = (match am_put h a 8 46 (.ref x) with
    | some h' => am_f d scr L call 93 n 263 lv st h'
    | none => none) := k_pf (k := 102) rfl rfl rfl
set_option maxRecDepth 100000 in
theorem s_93_263 (d L n : Nat) (scr : Nat → Int32) (call : Nat → List Value → am_H → Option am_X) (lv : am_L) (st : List Value) (h : am_H) : am_f d scr L call 93 (n + 1) 263 lv st h = (match am_ld lv 0 with
    | some (.ref x) => am_f d scr L call 93 n 264 lv (.ref x :: st) h
    | _ => none) := k_la (i := .aload_n 0) rfl rfl rfl rfl
set_option maxRecDepth 100000 in
theorem s_93_264 (d L n : Nat) (scr : Nat → Int32) (call : Nat → List Value → am_H → Option am_X) (lv : am_L) (st : List Value) (h : am_H) : am_f d scr L call 93 (n + 1) 264 lv st h = am_f d scr L call 93 n 267 lv (.int 1300 :: st) h := k_nx (i := .sipush 1300) rfl rfl
set_option maxRecDepth 100000 in
theorem s_93_269 (d L n : Nat) (scr : Nat → Int32) (call : Nat → List Value → am_H → Option am_X) (lv : am_L) (st : List Value) (h : am_H) (x : Nat) (a : Nat) : am_f d scr L call 93 (n + 1) 269 lv (.ref x :: .ref a :: st) h = (match am_put h a 8 47 (.ref x) with
    | some h' => am_f d scr L call 93 n 272 lv st h'
    | none => none) := k_pf (k := 105) rfl rfl rfl
set_option maxRecDepth 100000 in
theorem s_93_272 (d L n : Nat) (scr : Nat → Int32) (call : Nat → List Value → am_H → Option am_X) (lv : am_L) (st : List Value) (h : am_H) : am_f d scr L call 93 (n + 1) 272 lv st h = (match am_ld lv 0 with
    | some (.ref x) => am_f d scr L call 93 n 273 lv (.ref x :: st) h
    | _ => none) := k_la (i := .aload_n 0) rfl rfl rfl rfl
set_option maxRecDepth 100000 in
theorem s_93_273 (d L n : Nat) (scr : Nat → Int32) (call : Nat → List Value → am_H → Option am_X) (lv : am_L) (st : List Value) (h : am_H) : am_f d scr L call 93 (n + 1) 273 lv st h = am_f d scr L call 93 n 276 lv (.int 1300 :: st) h := k_nx (i := .sipush 1300) rfl rfl
set_option maxRecDepth 100000 in
theorem s_93_278 (d L n : Nat) (scr : Nat → Int32) (call : Nat → List Value → am_H → Option am_X) (lv : am_L) (st : List Value) (h : am_H) (x : Nat) (a : Nat) : am_f d scr L call 93 (n + 1) 278 lv (.ref x :: .ref a :: st) h = (match am_put h a 8 48 (.ref x) with
    | some h' => am_f d scr L call 93 n 281 lv st h'
    | none => none) := k_pf (k := 108) rfl rfl rfl
set_option maxRecDepth 100000 in
theorem s_93_281 (d L n : Nat) (scr : Nat → Int32) (call : Nat → List Value → am_H → Option am_X) (lv : am_L) (st : List Value) (h : am_H) : am_f d scr L call 93 (n + 1) 281 lv st h = (match am_ld lv 0 with
    | some (.ref x) => am_f d scr L call 93 n 282 lv (.ref x :: st) h
    | _ => none) := k_la (i := .aload_n 0) rfl rfl rfl rfl
set_option maxRecDepth 100000 in
theorem s_93_282 (d L n : Nat) (scr : Nat → Int32) (call : Nat → List Value → am_H → Option am_X) (lv : am_L) (st : List Value) (h : am_H) : am_f d scr L call 93 (n + 1) 282 lv st h = am_f d scr L call 93 n 284 lv (.int 40 :: st) h := k_nx (i := .bipush 40) rfl rfl
set_option maxRecDepth 100000 in
theorem s_93_286 (d L n : Nat) (scr : Nat → Int32) (call : Nat → List Value → am_H → Option am_X) (lv : am_L) (st : List Value) (h : am_H) (x : Nat) (a : Nat) : am_f d scr L call 93 (n + 1) 286 lv (.ref x :: .ref a :: st) h = (match am_put h a 8 50 (.ref x) with
    | some h' => am_f d scr L call 93 n 289 lv st h'
    | none => none) := k_pf (k := 111) rfl rfl rfl
set_option maxRecDepth 100000 in
theorem s_93_289 (d L n : Nat) (scr : Nat → Int32) (call : Nat → List Value → am_H → Option am_X) (lv : am_L) (st : List Value) (h : am_H) : am_f d scr L call 93 (n + 1) 289 lv st h = (match am_ld lv 0 with
    | some (.ref x) => am_f d scr L call 93 n 290 lv (.ref x :: st) h
    | _ => none) := k_la (i := .aload_n 0) rfl rfl rfl rfl
set_option maxRecDepth 100000 in
theorem s_93_290 (d L n : Nat) (scr : Nat → Int32) (call : Nat → List Value → am_H → Option am_X) (lv : am_L) (st : List Value) (h : am_H) : am_f d scr L call 93 (n + 1) 290 lv st h = am_f d scr L call 93 n 292 lv (.int 16 :: st) h := k_nx (i := .bipush 16) rfl rfl
set_option maxRecDepth 100000 in
theorem s_93_294 (d L n : Nat) (scr : Nat → Int32) (call : Nat → List Value → am_H → Option am_X) (lv : am_L) (st : List Value) (h : am_H) (x : Nat) (a : Nat) : am_f d scr L call 93 (n + 1) 294 lv (.ref x :: .ref a :: st) h = (match am_put h a 8 57 (.ref x) with
    | some h' => am_f d scr L call 93 n 297 lv st h'
    | none => none) := k_pf (k := 114) rfl rfl rfl
set_option maxRecDepth 100000 in
theorem s_93_297 (d L n : Nat) (scr : Nat → Int32) (call : Nat → List Value → am_H → Option am_X) (lv : am_L) (st : List Value) (h : am_H) : am_f d scr L call 93 (n + 1) 297 lv st h = (match am_ld lv 0 with
    | some (.ref x) => am_f d scr L call 93 n 298 lv (.ref x :: st) h
    | _ => none) := k_la (i := .aload_n 0) rfl rfl rfl rfl
set_option maxRecDepth 100000 in
theorem s_93_298 (d L n : Nat) (scr : Nat → Int32) (call : Nat → List Value → am_H → Option am_X) (lv : am_L) (st : List Value) (h : am_H) : am_f d scr L call 93 (n + 1) 298 lv st h = am_f d scr L call 93 n 300 lv (.int 101 :: st) h := k_nx (i := .bipush 101) rfl rfl
set_option maxRecDepth 100000 in
theorem s_93_302 (d L n : Nat) (scr : Nat → Int32) (call : Nat → List Value → am_H → Option am_X) (lv : am_L) (st : List Value) (h : am_H) (x : Nat) (a : Nat) : am_f d scr L call 93 (n + 1) 302 lv (.ref x :: .ref a :: st) h = (match am_put h a 8 61 (.ref x) with
    | some h' => am_f d scr L call 93 n 305 lv st h'
    | none => none) := k_pf (k := 117) rfl rfl rfl
set_option maxRecDepth 100000 in
theorem s_93_305 (d L n : Nat) (scr : Nat → Int32) (call : Nat → List Value → am_H → Option am_X) (lv : am_L) (h : am_H) : am_f d scr L call 93 (n + 1) 305 lv [] h = some (none, h, 0, 0) := k_vr rfl rfl
-- 94: BlameDeskModel.write(J)Z
theorem s_94_0 (d L n : Nat) (scr : Nat → Int32) (call : Nat → List Value → am_H → Option am_X) (lv : am_L) (st : List Value) (h : am_H) : am_f d scr L call 94 (n + 1) 0 lv st h = am_f d scr L call 94 n 1 lv (.int 0 :: st) h := k_nx (i := .iconst 0) rfl rfl
theorem s_94_1 (d L n : Nat) (scr : Nat → Int32) (call : Nat → List Value → am_H → Option am_X) (lv : am_L) (st : List Value) (h : am_H) (x : Int32) : am_f d scr L call 94 (n + 1) 1 lv (.int x :: st) h = am_f d scr L call 94 n 2 (am_st1 lv 3 (.int x)) st h := k_nx (i := .istore_n 3) rfl rfl
theorem s_94_2 (d L n : Nat) (scr : Nat → Int32) (call : Nat → List Value → am_H → Option am_X) (lv : am_L) (st : List Value) (h : am_H) : am_f d scr L call 94 (n + 1) 2 lv st h = am_f d scr L call 94 n 4 lv (.int 7 :: st) h := k_nx (i := .bipush 7) rfl rfl
theorem s_94_4 (d L n : Nat) (scr : Nat → Int32) (call : Nat → List Value → am_H → Option am_X) (lv : am_L) (st : List Value) (h : am_H) (x : Int32) : am_f d scr L call 94 (n + 1) 4 lv (.int x :: st) h = am_f d scr L call 94 n 6 (am_st1 lv 4 (.int x)) st h := k_nx (i := .istore 4) rfl rfl
theorem s_94_6 (d L n : Nat) (scr : Nat → Int32) (call : Nat → List Value → am_H → Option am_X) (lv : am_L) (st : List Value) (h : am_H) : am_f d scr L call 94 (n + 1) 6 lv st h = (match am_ld lv 4 with
    | some (.int x) => am_f d scr L call 94 n 8 lv (.int x :: st) h
    | _ => none) := k_li (i := .iload 4) rfl rfl rfl rfl
theorem s_94_8 (d L n : Nat) (scr : Nat → Int32) (call : Nat → List Value → am_H → Option am_X) (lv : am_L) (st : List Value) (h : am_H) (x : Int32) : am_f d scr L call 94 (n + 1) 8 lv (.int x :: st) h = if x < 0 then am_f d scr L call 94 n 65 lv st h else am_f d scr L call 94 n 11 lv st h := k_if_lt (o := 57) rfl ⟨by decide, rfl⟩
theorem s_94_11 (d L n : Nat) (scr : Nat → Int32) (call : Nat → List Value → am_H → Option am_X) (lv : am_L) (st : List Value) (h : am_H) : am_f d scr L call 94 (n + 1) 11 lv st h = (match am_ld lv 1 with
    | some (.long x) => am_f d scr L call 94 n 12 lv (.long x :: st) h
    | _ => none) := k_ll (i := .lload_n 1) rfl rfl rfl rfl
theorem s_94_12 (d L n : Nat) (scr : Nat → Int32) (call : Nat → List Value → am_H → Option am_X) (lv : am_L) (st : List Value) (h : am_H) : am_f d scr L call 94 (n + 1) 12 lv st h = am_f d scr L call 94 n 14 lv (.int 8 :: st) h := k_nx (i := .bipush 8) rfl rfl
theorem s_94_14 (d L n : Nat) (scr : Nat → Int32) (call : Nat → List Value → am_H → Option am_X) (lv : am_L) (st : List Value) (h : am_H) : am_f d scr L call 94 (n + 1) 14 lv st h = (match am_ld lv 4 with
    | some (.int x) => am_f d scr L call 94 n 16 lv (.int x :: st) h
    | _ => none) := k_li (i := .iload 4) rfl rfl rfl rfl
theorem s_94_16 (d L n : Nat) (scr : Nat → Int32) (call : Nat → List Value → am_H → Option am_X) (lv : am_L) (st : List Value) (h : am_H) (x y : Int32) : am_f d scr L call 94 (n + 1) 16 lv (.int y :: .int x :: st) h = am_f d scr L call 94 n 17 lv (.int (x * y) :: st) h := k_nx (i := .imul) rfl rfl
theorem s_94_17 (d L n : Nat) (scr : Nat → Int32) (call : Nat → List Value → am_H → Option am_X) (lv : am_L) (st : List Value) (h : am_H) (x : Int64) (y : Int32) : am_f d scr L call 94 (n + 1) 17 lv (.int y :: .long x :: st) h = am_f d scr L call 94 n 18 lv (.long ((x.toUInt64 >>> (y.toInt64.toUInt64 &&& Int64.toUInt64 63)).toInt64) :: st) h := k_nx (i := .lushr) rfl rfl
theorem s_94_18 (d L n : Nat) (scr : Nat → Int32) (call : Nat → List Value → am_H → Option am_X) (lv : am_L) (st : List Value) (h : am_H) (x : Int64) : am_f d scr L call 94 (n + 1) 18 lv (.long x :: st) h = am_f d scr L call 94 n 19 lv (.int x.toInt32 :: st) h := k_nx (i := .l2i) rfl rfl
theorem s_94_19 (d L n : Nat) (scr : Nat → Int32) (call : Nat → List Value → am_H → Option am_X) (lv : am_L) (st : List Value) (h : am_H) : am_f d scr L call 94 (n + 1) 19 lv st h = am_f d scr L call 94 n 22 lv (.int 255 :: st) h := k_nx (i := .sipush 255) rfl rfl
theorem s_94_22 (d L n : Nat) (scr : Nat → Int32) (call : Nat → List Value → am_H → Option am_X) (lv : am_L) (st : List Value) (h : am_H) (x y : Int32) : am_f d scr L call 94 (n + 1) 22 lv (.int y :: .int x :: st) h = am_f d scr L call 94 n 23 lv (.int (x &&& y) :: st) h := k_nx (i := .iand) rfl rfl
theorem s_94_23 (d L n : Nat) (scr : Nat → Int32) (call : Nat → List Value → am_H → Option am_X) (lv : am_L) (st : List Value) (h : am_H) (x : Int32) : am_f d scr L call 94 (n + 1) 23 lv (.int x :: st) h = am_f d scr L call 94 n 25 (am_st1 lv 5 (.int x)) st h := k_nx (i := .istore 5) rfl rfl
theorem s_94_25 (d L n : Nat) (scr : Nat → Int32) (call : Nat → List Value → am_H → Option am_X) (lv : am_L) (st : List Value) (h : am_H) : am_f d scr L call 94 (n + 1) 25 lv st h = (match am_ld lv 5 with
    | some (.int x) => am_f d scr L call 94 n 27 lv (.int x :: st) h
    | _ => none) := k_li (i := .iload 5) rfl rfl rfl rfl
theorem s_94_27 (d L n : Nat) (scr : Nat → Int32) (call : Nat → List Value → am_H → Option am_X) (lv : am_L) (st : List Value) (h : am_H) (x : Int32) : am_f d scr L call 94 (n + 1) 27 lv (.int x :: st) h = if x = 0 then am_f d scr L call 94 n 46 lv st h else am_f d scr L call 94 n 30 lv st h := k_if_eq (o := 19) rfl ⟨by decide, rfl⟩
theorem s_94_30 (d L n : Nat) (scr : Nat → Int32) (call : Nat → List Value → am_H → Option am_X) (lv : am_L) (st : List Value) (h : am_H) : am_f d scr L call 94 (n + 1) 30 lv st h = (match am_ld lv 5 with
    | some (.int x) => am_f d scr L call 94 n 32 lv (.int x :: st) h
    | _ => none) := k_li (i := .iload 5) rfl rfl rfl rfl
theorem s_94_32 (d L n : Nat) (scr : Nat → Int32) (call : Nat → List Value → am_H → Option am_X) (lv : am_L) (st : List Value) (h : am_H) : am_f d scr L call 94 (n + 1) 32 lv st h = am_f d scr L call 94 n 34 lv (.int 32 :: st) h := k_nx (i := .bipush 32) rfl rfl
theorem s_94_34 (d L n : Nat) (scr : Nat → Int32) (call : Nat → List Value → am_H → Option am_X) (lv : am_L) (st : List Value) (h : am_H) (x y : Int32) : am_f d scr L call 94 (n + 1) 34 lv (.int y :: .int x :: st) h = if x < y then am_f d scr L call 94 n 44 lv st h else am_f d scr L call 94 n 37 lv st h := k_ic_lt (o := 10) rfl ⟨by decide, rfl⟩
theorem s_94_37 (d L n : Nat) (scr : Nat → Int32) (call : Nat → List Value → am_H → Option am_X) (lv : am_L) (st : List Value) (h : am_H) : am_f d scr L call 94 (n + 1) 37 lv st h = (match am_ld lv 5 with
    | some (.int x) => am_f d scr L call 94 n 39 lv (.int x :: st) h
    | _ => none) := k_li (i := .iload 5) rfl rfl rfl rfl
theorem s_94_39 (d L n : Nat) (scr : Nat → Int32) (call : Nat → List Value → am_H → Option am_X) (lv : am_L) (st : List Value) (h : am_H) : am_f d scr L call 94 (n + 1) 39 lv st h = am_f d scr L call 94 n 41 lv (.int 126 :: st) h := k_nx (i := .bipush 126) rfl rfl
theorem s_94_41 (d L n : Nat) (scr : Nat → Int32) (call : Nat → List Value → am_H → Option am_X) (lv : am_L) (st : List Value) (h : am_H) (x y : Int32) : am_f d scr L call 94 (n + 1) 41 lv (.int y :: .int x :: st) h = if x ≤ y then am_f d scr L call 94 n 46 lv st h else am_f d scr L call 94 n 44 lv st h := k_ic_le (o := 5) rfl ⟨by decide, rfl⟩
theorem s_94_44 (d L n : Nat) (scr : Nat → Int32) (call : Nat → List Value → am_H → Option am_X) (lv : am_L) (st : List Value) (h : am_H) : am_f d scr L call 94 (n + 1) 44 lv st h = am_f d scr L call 94 n 45 lv (.int 0 :: st) h := k_nx (i := .iconst 0) rfl rfl
theorem s_94_45 (d L n : Nat) (scr : Nat → Int32) (call : Nat → List Value → am_H → Option am_X) (lv : am_L) (h : am_H) (x : Int32) : am_f d scr L call 94 (n + 1) 45 lv [.int x] h = if x = 0 ∨ x = 1 then some (some (.int x), h, 0, 0) else none := k_zr rfl rfl
theorem s_94_46 (d L n : Nat) (scr : Nat → Int32) (call : Nat → List Value → am_H → Option am_X) (lv : am_L) (st : List Value) (h : am_H) : am_f d scr L call 94 (n + 1) 46 lv st h = (match am_ld lv 5 with
    | some (.int x) => am_f d scr L call 94 n 48 lv (.int x :: st) h
    | _ => none) := k_li (i := .iload 5) rfl rfl rfl rfl
theorem s_94_48 (d L n : Nat) (scr : Nat → Int32) (call : Nat → List Value → am_H → Option am_X) (lv : am_L) (st : List Value) (h : am_H) (x : Int32) : am_f d scr L call 94 (n + 1) 48 lv (.int x :: st) h = if x = 0 then am_f d scr L call 94 n 57 lv st h else am_f d scr L call 94 n 51 lv st h := k_if_eq (o := 9) rfl ⟨by decide, rfl⟩
theorem s_94_51 (d L n : Nat) (scr : Nat → Int32) (call : Nat → List Value → am_H → Option am_X) (lv : am_L) (st : List Value) (h : am_H) : am_f d scr L call 94 (n + 1) 51 lv st h = (match am_ld lv 3 with
    | some (.int x) => am_f d scr L call 94 n 52 lv (.int x :: st) h
    | _ => none) := k_li (i := .iload_n 3) rfl rfl rfl rfl
theorem s_94_52 (d L n : Nat) (scr : Nat → Int32) (call : Nat → List Value → am_H → Option am_X) (lv : am_L) (st : List Value) (h : am_H) : am_f d scr L call 94 (n + 1) 52 lv st h = am_f d scr L call 94 n 53 lv (.int 1 :: st) h := k_nx (i := .iconst 1) rfl rfl
theorem s_94_53 (d L n : Nat) (scr : Nat → Int32) (call : Nat → List Value → am_H → Option am_X) (lv : am_L) (st : List Value) (h : am_H) (x y : Int32) : am_f d scr L call 94 (n + 1) 53 lv (.int y :: .int x :: st) h = am_f d scr L call 94 n 54 lv (.int (x + y) :: st) h := k_nx (i := .iadd) rfl rfl
theorem s_94_54 (d L n : Nat) (scr : Nat → Int32) (call : Nat → List Value → am_H → Option am_X) (lv : am_L) (st : List Value) (h : am_H) : am_f d scr L call 94 (n + 1) 54 lv st h = am_f d scr L call 94 n 58 lv st h := k_nx (i := .goto 4) rfl rfl
theorem s_94_57 (d L n : Nat) (scr : Nat → Int32) (call : Nat → List Value → am_H → Option am_X) (lv : am_L) (st : List Value) (h : am_H) : am_f d scr L call 94 (n + 1) 57 lv st h = (match am_ld lv 3 with
    | some (.int x) => am_f d scr L call 94 n 58 lv (.int x :: st) h
    | _ => none) := k_li (i := .iload_n 3) rfl rfl rfl rfl
theorem s_94_58 (d L n : Nat) (scr : Nat → Int32) (call : Nat → List Value → am_H → Option am_X) (lv : am_L) (st : List Value) (h : am_H) (x : Int32) : am_f d scr L call 94 (n + 1) 58 lv (.int x :: st) h = am_f d scr L call 94 n 59 (am_st1 lv 3 (.int x)) st h := k_nx (i := .istore_n 3) rfl rfl
theorem s_94_59 (d L n : Nat) (scr : Nat → Int32) (call : Nat → List Value → am_H → Option am_X) (lv : am_L) (st : List Value) (h : am_H) : am_f d scr L call 94 (n + 1) 59 lv st h = (match am_ld lv 4 with
    | some (.int x) => am_f d scr L call 94 n 62 (am_st1 lv 4 (.int (x + (-1)))) st h
    | _ => none) := k_iinc (k := 4) (c := (-1)) rfl rfl (Nat.le_of_ble_eq_true rfl)
theorem s_94_62 (d L n : Nat) (scr : Nat → Int32) (call : Nat → List Value → am_H → Option am_X) (lv : am_L) (st : List Value) (h : am_H) : am_f d scr L call 94 (n + 1) 62 lv st h = am_f d scr L call 94 n 6 lv st h := k_nx (i := .goto (-56)) rfl rfl
theorem s_94_65 (d L n : Nat) (scr : Nat → Int32) (call : Nat → List Value → am_H → Option am_X) (lv : am_L) (st : List Value) (h : am_H) : am_f d scr L call 94 (n + 1) 65 lv st h = (match am_ld lv 0 with
    | some (.ref x) => am_f d scr L call 94 n 66 lv (.ref x :: st) h
    | _ => none) := k_la (i := .aload_n 0) rfl rfl rfl rfl
theorem s_94_66 (d L n : Nat) (scr : Nat → Int32) (call : Nat → List Value → am_H → Option am_X) (lv : am_L) (st : List Value) (h : am_H) (a : Nat) : am_f d scr L call 94 (n + 1) 66 lv (.ref a :: st) h = (match am_get h a 8 0 with
    | some v => am_f d scr L call 94 n 69 lv (v :: st) h
    | none => none) := k_gf (k := 120) rfl rfl
theorem s_94_69 (d L n : Nat) (scr : Nat → Int32) (call : Nat → List Value → am_H → Option am_X) (lv : am_L) (st : List Value) (h : am_H) : am_f d scr L call 94 (n + 1) 69 lv st h = (match am_ld lv 3 with
    | some (.int x) => am_f d scr L call 94 n 70 lv (.int x :: st) h
    | _ => none) := k_li (i := .iload_n 3) rfl rfl rfl rfl
theorem s_94_70 (d L n : Nat) (scr : Nat → Int32) (call : Nat → List Value → am_H → Option am_X) (lv : am_L) (st : List Value) (h : am_H) (x y : Int32) : am_f d scr L call 94 (n + 1) 70 lv (.int y :: .int x :: st) h = am_f d scr L call 94 n 71 lv (.int (x + y) :: st) h := k_nx (i := .iadd) rfl rfl
theorem s_94_71 (d L n : Nat) (scr : Nat → Int32) (call : Nat → List Value → am_H → Option am_X) (lv : am_L) (st : List Value) (h : am_H) : am_f d scr L call 94 (n + 1) 71 lv st h = am_f d scr L call 94 n 73 lv (.int 100 :: st) h := k_nx (i := .bipush 100) rfl rfl
theorem s_94_73 (d L n : Nat) (scr : Nat → Int32) (call : Nat → List Value → am_H → Option am_X) (lv : am_L) (st : List Value) (h : am_H) (x y : Int32) : am_f d scr L call 94 (n + 1) 73 lv (.int y :: .int x :: st) h = if x ≤ y then am_f d scr L call 94 n 78 lv st h else am_f d scr L call 94 n 76 lv st h := k_ic_le (o := 5) rfl ⟨by decide, rfl⟩
theorem s_94_76 (d L n : Nat) (scr : Nat → Int32) (call : Nat → List Value → am_H → Option am_X) (lv : am_L) (st : List Value) (h : am_H) : am_f d scr L call 94 (n + 1) 76 lv st h = am_f d scr L call 94 n 77 lv (.int 0 :: st) h := k_nx (i := .iconst 0) rfl rfl
theorem s_94_77 (d L n : Nat) (scr : Nat → Int32) (call : Nat → List Value → am_H → Option am_X) (lv : am_L) (h : am_H) (x : Int32) : am_f d scr L call 94 (n + 1) 77 lv [.int x] h = if x = 0 ∨ x = 1 then some (some (.int x), h, 0, 0) else none := k_zr rfl rfl
theorem s_94_78 (d L n : Nat) (scr : Nat → Int32) (call : Nat → List Value → am_H → Option am_X) (lv : am_L) (st : List Value) (h : am_H) : am_f d scr L call 94 (n + 1) 78 lv st h = am_f d scr L call 94 n 80 lv (.int 7 :: st) h := k_nx (i := .bipush 7) rfl rfl
theorem s_94_80 (d L n : Nat) (scr : Nat → Int32) (call : Nat → List Value → am_H → Option am_X) (lv : am_L) (st : List Value) (h : am_H) (x : Int32) : am_f d scr L call 94 (n + 1) 80 lv (.int x :: st) h = am_f d scr L call 94 n 82 (am_st1 lv 4 (.int x)) st h := k_nx (i := .istore 4) rfl rfl
theorem s_94_82 (d L n : Nat) (scr : Nat → Int32) (call : Nat → List Value → am_H → Option am_X) (lv : am_L) (st : List Value) (h : am_H) : am_f d scr L call 94 (n + 1) 82 lv st h = (match am_ld lv 4 with
    | some (.int x) => am_f d scr L call 94 n 84 lv (.int x :: st) h
    | _ => none) := k_li (i := .iload 4) rfl rfl rfl rfl
theorem s_94_84 (d L n : Nat) (scr : Nat → Int32) (call : Nat → List Value → am_H → Option am_X) (lv : am_L) (st : List Value) (h : am_H) (x : Int32) : am_f d scr L call 94 (n + 1) 84 lv (.int x :: st) h = if x < 0 then am_f d scr L call 94 n 134 lv st h else am_f d scr L call 94 n 87 lv st h := k_if_lt (o := 50) rfl ⟨by decide, rfl⟩
theorem s_94_87 (d L n : Nat) (scr : Nat → Int32) (call : Nat → List Value → am_H → Option am_X) (lv : am_L) (st : List Value) (h : am_H) : am_f d scr L call 94 (n + 1) 87 lv st h = (match am_ld lv 1 with
    | some (.long x) => am_f d scr L call 94 n 88 lv (.long x :: st) h
    | _ => none) := k_ll (i := .lload_n 1) rfl rfl rfl rfl
theorem s_94_88 (d L n : Nat) (scr : Nat → Int32) (call : Nat → List Value → am_H → Option am_X) (lv : am_L) (st : List Value) (h : am_H) : am_f d scr L call 94 (n + 1) 88 lv st h = am_f d scr L call 94 n 90 lv (.int 8 :: st) h := k_nx (i := .bipush 8) rfl rfl
theorem s_94_90 (d L n : Nat) (scr : Nat → Int32) (call : Nat → List Value → am_H → Option am_X) (lv : am_L) (st : List Value) (h : am_H) : am_f d scr L call 94 (n + 1) 90 lv st h = (match am_ld lv 4 with
    | some (.int x) => am_f d scr L call 94 n 92 lv (.int x :: st) h
    | _ => none) := k_li (i := .iload 4) rfl rfl rfl rfl
theorem s_94_92 (d L n : Nat) (scr : Nat → Int32) (call : Nat → List Value → am_H → Option am_X) (lv : am_L) (st : List Value) (h : am_H) (x y : Int32) : am_f d scr L call 94 (n + 1) 92 lv (.int y :: .int x :: st) h = am_f d scr L call 94 n 93 lv (.int (x * y) :: st) h := k_nx (i := .imul) rfl rfl
theorem s_94_93 (d L n : Nat) (scr : Nat → Int32) (call : Nat → List Value → am_H → Option am_X) (lv : am_L) (st : List Value) (h : am_H) (x : Int64) (y : Int32) : am_f d scr L call 94 (n + 1) 93 lv (.int y :: .long x :: st) h = am_f d scr L call 94 n 94 lv (.long ((x.toUInt64 >>> (y.toInt64.toUInt64 &&& Int64.toUInt64 63)).toInt64) :: st) h := k_nx (i := .lushr) rfl rfl
theorem s_94_94 (d L n : Nat) (scr : Nat → Int32) (call : Nat → List Value → am_H → Option am_X) (lv : am_L) (st : List Value) (h : am_H) (x : Int64) : am_f d scr L call 94 (n + 1) 94 lv (.long x :: st) h = am_f d scr L call 94 n 95 lv (.int x.toInt32 :: st) h := k_nx (i := .l2i) rfl rfl
theorem s_94_95 (d L n : Nat) (scr : Nat → Int32) (call : Nat → List Value → am_H → Option am_X) (lv : am_L) (st : List Value) (h : am_H) : am_f d scr L call 94 (n + 1) 95 lv st h = am_f d scr L call 94 n 98 lv (.int 255 :: st) h := k_nx (i := .sipush 255) rfl rfl
theorem s_94_98 (d L n : Nat) (scr : Nat → Int32) (call : Nat → List Value → am_H → Option am_X) (lv : am_L) (st : List Value) (h : am_H) (x y : Int32) : am_f d scr L call 94 (n + 1) 98 lv (.int y :: .int x :: st) h = am_f d scr L call 94 n 99 lv (.int (x &&& y) :: st) h := k_nx (i := .iand) rfl rfl
theorem s_94_99 (d L n : Nat) (scr : Nat → Int32) (call : Nat → List Value → am_H → Option am_X) (lv : am_L) (st : List Value) (h : am_H) (x : Int32) : am_f d scr L call 94 (n + 1) 99 lv (.int x :: st) h = am_f d scr L call 94 n 101 (am_st1 lv 5 (.int x)) st h := k_nx (i := .istore 5) rfl rfl
theorem s_94_101 (d L n : Nat) (scr : Nat → Int32) (call : Nat → List Value → am_H → Option am_X) (lv : am_L) (st : List Value) (h : am_H) : am_f d scr L call 94 (n + 1) 101 lv st h = (match am_ld lv 5 with
    | some (.int x) => am_f d scr L call 94 n 103 lv (.int x :: st) h
    | _ => none) := k_li (i := .iload 5) rfl rfl rfl rfl
theorem s_94_103 (d L n : Nat) (scr : Nat → Int32) (call : Nat → List Value → am_H → Option am_X) (lv : am_L) (st : List Value) (h : am_H) (x : Int32) : am_f d scr L call 94 (n + 1) 103 lv (.int x :: st) h = if x = 0 then am_f d scr L call 94 n 128 lv st h else am_f d scr L call 94 n 106 lv st h := k_if_eq (o := 25) rfl ⟨by decide, rfl⟩
theorem s_94_106 (d L n : Nat) (scr : Nat → Int32) (call : Nat → List Value → am_H → Option am_X) (lv : am_L) (st : List Value) (h : am_H) : am_f d scr L call 94 (n + 1) 106 lv st h = (match am_ld lv 0 with
    | some (.ref x) => am_f d scr L call 94 n 107 lv (.ref x :: st) h
    | _ => none) := k_la (i := .aload_n 0) rfl rfl rfl rfl
theorem s_94_107 (d L n : Nat) (scr : Nat → Int32) (call : Nat → List Value → am_H → Option am_X) (lv : am_L) (st : List Value) (h : am_H) (a : Nat) : am_f d scr L call 94 (n + 1) 107 lv (.ref a :: st) h = (match am_get h a 8 1 with
    | some v => am_f d scr L call 94 n 110 lv (v :: st) h
    | none => none) := k_gf (k := 7) rfl rfl
theorem s_94_110 (d L n : Nat) (scr : Nat → Int32) (call : Nat → List Value → am_H → Option am_X) (lv : am_L) (st : List Value) (h : am_H) : am_f d scr L call 94 (n + 1) 110 lv st h = (match am_ld lv 0 with
    | some (.ref x) => am_f d scr L call 94 n 111 lv (.ref x :: st) h
    | _ => none) := k_la (i := .aload_n 0) rfl rfl rfl rfl
theorem s_94_111 (d L n : Nat) (scr : Nat → Int32) (call : Nat → List Value → am_H → Option am_X) (lv : am_L) (st : List Value) (h : am_H) (a : Nat) : am_f d scr L call 94 (n + 1) 111 lv (.ref a :: st) h = (match am_get h a 8 0 with
    | some v => am_f d scr L call 94 n 114 lv (v :: st) h
    | none => none) := k_gf (k := 120) rfl rfl
theorem s_94_114 (d L n : Nat) (scr : Nat → Int32) (call : Nat → List Value → am_H → Option am_X) (lv : am_L) (st : List Value) (h : am_H) : am_f d scr L call 94 (n + 1) 114 lv st h = (match am_ld lv 5 with
    | some (.int x) => am_f d scr L call 94 n 116 lv (.int x :: st) h
    | _ => none) := k_li (i := .iload 5) rfl rfl rfl rfl
theorem s_94_116 (d L n : Nat) (scr : Nat → Int32) (call : Nat → List Value → am_H → Option am_X) (lv : am_L) (st : List Value) (h : am_H) (x : Int32) : am_f d scr L call 94 (n + 1) 116 lv (.int x :: st) h = am_f d scr L call 94 n 117 lv (.int (x.toUInt32 % 65536).toInt32 :: st) h := k_nx (i := .i2c) rfl rfl
theorem s_94_117 (d L n : Nat) (scr : Nat → Int32) (call : Nat → List Value → am_H → Option am_X) (lv : am_L) (st : List Value) (h : am_H) (a : Nat) (i : Int32) (x : Int32) : am_f d scr L call 94 (n + 1) 117 lv (.int x :: .int i :: .ref a :: st) h = (match am_cst h a i x with
    | some h' => am_f d scr L call 94 n 118 lv st h'
    | none => none) := k_cs rfl
theorem s_94_118 (d L n : Nat) (scr : Nat → Int32) (call : Nat → List Value → am_H → Option am_X) (lv : am_L) (st : List Value) (h : am_H) : am_f d scr L call 94 (n + 1) 118 lv st h = (match am_ld lv 0 with
    | some (.ref x) => am_f d scr L call 94 n 119 lv (.ref x :: st) h
    | _ => none) := k_la (i := .aload_n 0) rfl rfl rfl rfl
theorem s_94_119 (d L n : Nat) (scr : Nat → Int32) (call : Nat → List Value → am_H → Option am_X) (lv : am_L) (st : List Value) (h : am_H) (x : Nat) : am_f d scr L call 94 (n + 1) 119 lv (.ref x :: st) h = am_f d scr L call 94 n 120 lv (.ref x :: .ref x :: st) h := k_nx (i := .dup) rfl rfl
theorem s_94_120 (d L n : Nat) (scr : Nat → Int32) (call : Nat → List Value → am_H → Option am_X) (lv : am_L) (st : List Value) (h : am_H) (a : Nat) : am_f d scr L call 94 (n + 1) 120 lv (.ref a :: st) h = (match am_get h a 8 0 with
    | some v => am_f d scr L call 94 n 123 lv (v :: st) h
    | none => none) := k_gf (k := 120) rfl rfl
theorem s_94_123 (d L n : Nat) (scr : Nat → Int32) (call : Nat → List Value → am_H → Option am_X) (lv : am_L) (st : List Value) (h : am_H) : am_f d scr L call 94 (n + 1) 123 lv st h = am_f d scr L call 94 n 124 lv (.int 1 :: st) h := k_nx (i := .iconst 1) rfl rfl
theorem s_94_124 (d L n : Nat) (scr : Nat → Int32) (call : Nat → List Value → am_H → Option am_X) (lv : am_L) (st : List Value) (h : am_H) (x y : Int32) : am_f d scr L call 94 (n + 1) 124 lv (.int y :: .int x :: st) h = am_f d scr L call 94 n 125 lv (.int (x + y) :: st) h := k_nx (i := .iadd) rfl rfl
theorem s_94_125 (d L n : Nat) (scr : Nat → Int32) (call : Nat → List Value → am_H → Option am_X) (lv : am_L) (st : List Value) (h : am_H) (x : Int32) (a : Nat) : am_f d scr L call 94 (n + 1) 125 lv (.int x :: .ref a :: st) h = (match am_put h a 8 0 (.int x) with
    | some h' => am_f d scr L call 94 n 128 lv st h'
    | none => none) := k_pf (k := 120) rfl rfl rfl
theorem s_94_128 (d L n : Nat) (scr : Nat → Int32) (call : Nat → List Value → am_H → Option am_X) (lv : am_L) (st : List Value) (h : am_H) : am_f d scr L call 94 (n + 1) 128 lv st h = (match am_ld lv 4 with
    | some (.int x) => am_f d scr L call 94 n 131 (am_st1 lv 4 (.int (x + (-1)))) st h
    | _ => none) := k_iinc (k := 4) (c := (-1)) rfl rfl (Nat.le_of_ble_eq_true rfl)
theorem s_94_131 (d L n : Nat) (scr : Nat → Int32) (call : Nat → List Value → am_H → Option am_X) (lv : am_L) (st : List Value) (h : am_H) : am_f d scr L call 94 (n + 1) 131 lv st h = am_f d scr L call 94 n 82 lv st h := k_nx (i := .goto (-49)) rfl rfl
theorem s_94_134 (d L n : Nat) (scr : Nat → Int32) (call : Nat → List Value → am_H → Option am_X) (lv : am_L) (st : List Value) (h : am_H) : am_f d scr L call 94 (n + 1) 134 lv st h = am_f d scr L call 94 n 135 lv (.int 1 :: st) h := k_nx (i := .iconst 1) rfl rfl
theorem s_94_135 (d L n : Nat) (scr : Nat → Int32) (call : Nat → List Value → am_H → Option am_X) (lv : am_L) (h : am_H) (x : Int32) : am_f d scr L call 94 (n + 1) 135 lv [.int x] h = if x = 0 ∨ x = 1 then some (some (.int x), h, 0, 0) else none := k_zr rfl rfl
-- 95: BlameDeskModel.typeNumber(III)I
theorem s_95_0 (d L n : Nat) (scr : Nat → Int32) (call : Nat → List Value → am_H → Option am_X) (lv : am_L) (st : List Value) (h : am_H) : am_f d scr L call 95 (n + 1) 0 lv st h = am_f d scr L call 95 n 1 lv (.int 3 :: st) h := k_nx (i := .iconst 3) rfl rfl
theorem s_95_1 (d L n : Nat) (scr : Nat → Int32) (call : Nat → List Value → am_H → Option am_X) (lv : am_L) (st : List Value) (h : am_H) (x : Int32) : am_f d scr L call 95 (n + 1) 1 lv (.int x :: st) h = am_f d scr L call 95 n 3 (am_st1 lv 4 (.int x)) st h := k_nx (i := .istore 4) rfl rfl
theorem s_95_3 (d L n : Nat) (scr : Nat → Int32) (call : Nat → List Value → am_H → Option am_X) (lv : am_L) (st : List Value) (h : am_H) : am_f d scr L call 95 (n + 1) 3 lv st h = (match am_ld lv 4 with
    | some (.int x) => am_f d scr L call 95 n 5 lv (.int x :: st) h
    | _ => none) := k_li (i := .iload 4) rfl rfl rfl rfl
theorem s_95_5 (d L n : Nat) (scr : Nat → Int32) (call : Nat → List Value → am_H → Option am_X) (lv : am_L) (st : List Value) (h : am_H) : am_f d scr L call 95 (n + 1) 5 lv st h = (match am_ld lv 0 with
    | some (.ref x) => am_f d scr L call 95 n 6 lv (.ref x :: st) h
    | _ => none) := k_la (i := .aload_n 0) rfl rfl rfl rfl
theorem s_95_6 (d L n : Nat) (scr : Nat → Int32) (call : Nat → List Value → am_H → Option am_X) (lv : am_L) (st : List Value) (h : am_H) (a : Nat) : am_f d scr L call 95 (n + 1) 6 lv (.ref a :: st) h = (match am_get h a 8 2 with
    | some v => am_f d scr L call 95 n 9 lv (v :: st) h
    | none => none) := k_gf (k := 123) rfl rfl
theorem s_95_9 (d L n : Nat) (scr : Nat → Int32) (call : Nat → List Value → am_H → Option am_X) (lv : am_L) (st : List Value) (h : am_H) (x y : Int32) : am_f d scr L call 95 (n + 1) 9 lv (.int y :: .int x :: st) h = if y ≤ x then am_f d scr L call 95 n 54 lv st h else am_f d scr L call 95 n 12 lv st h := k_ic_ge (o := 45) rfl ⟨by decide, rfl⟩
theorem s_95_12 (d L n : Nat) (scr : Nat → Int32) (call : Nat → List Value → am_H → Option am_X) (lv : am_L) (st : List Value) (h : am_H) : am_f d scr L call 95 (n + 1) 12 lv st h = (match am_ld lv 0 with
    | some (.ref x) => am_f d scr L call 95 n 13 lv (.ref x :: st) h
    | _ => none) := k_la (i := .aload_n 0) rfl rfl rfl rfl
theorem s_95_13 (d L n : Nat) (scr : Nat → Int32) (call : Nat → List Value → am_H → Option am_X) (lv : am_L) (st : List Value) (h : am_H) (a : Nat) : am_f d scr L call 95 (n + 1) 13 lv (.ref a :: st) h = (match am_get h a 8 3 with
    | some v => am_f d scr L call 95 n 16 lv (v :: st) h
    | none => none) := k_gf (k := 13) rfl rfl
theorem s_95_16 (d L n : Nat) (scr : Nat → Int32) (call : Nat → List Value → am_H → Option am_X) (lv : am_L) (st : List Value) (h : am_H) : am_f d scr L call 95 (n + 1) 16 lv st h = (match am_ld lv 4 with
    | some (.int x) => am_f d scr L call 95 n 18 lv (.int x :: st) h
    | _ => none) := k_li (i := .iload 4) rfl rfl rfl rfl
theorem s_95_18 (d L n : Nat) (scr : Nat → Int32) (call : Nat → List Value → am_H → Option am_X) (lv : am_L) (st : List Value) (h : am_H) (a : Nat) (i : Int32) : am_f d scr L call 95 (n + 1) 18 lv (.int i :: .ref a :: st) h = (match am_ild scr L h a i with
    | some x => am_f d scr L call 95 n 19 lv (.int x :: st) h
    | none => none) := k_ia rfl
theorem s_95_19 (d L n : Nat) (scr : Nat → Int32) (call : Nat → List Value → am_H → Option am_X) (lv : am_L) (st : List Value) (h : am_H) : am_f d scr L call 95 (n + 1) 19 lv st h = (match am_ld lv 1 with
    | some (.int x) => am_f d scr L call 95 n 20 lv (.int x :: st) h
    | _ => none) := k_li (i := .iload_n 1) rfl rfl rfl rfl
theorem s_95_20 (d L n : Nat) (scr : Nat → Int32) (call : Nat → List Value → am_H → Option am_X) (lv : am_L) (st : List Value) (h : am_H) (x y : Int32) : am_f d scr L call 95 (n + 1) 20 lv (.int y :: .int x :: st) h = if ¬ x = y then am_f d scr L call 95 n 48 lv st h else am_f d scr L call 95 n 23 lv st h := k_ic_ne (o := 28) rfl ⟨by decide, rfl⟩
theorem s_95_23 (d L n : Nat) (scr : Nat → Int32) (call : Nat → List Value → am_H → Option am_X) (lv : am_L) (st : List Value) (h : am_H) : am_f d scr L call 95 (n + 1) 23 lv st h = (match am_ld lv 0 with
    | some (.ref x) => am_f d scr L call 95 n 24 lv (.ref x :: st) h
    | _ => none) := k_la (i := .aload_n 0) rfl rfl rfl rfl
theorem s_95_24 (d L n : Nat) (scr : Nat → Int32) (call : Nat → List Value → am_H → Option am_X) (lv : am_L) (st : List Value) (h : am_H) (a : Nat) : am_f d scr L call 95 (n + 1) 24 lv (.ref a :: st) h = (match am_get h a 8 4 with
    | some v => am_f d scr L call 95 n 27 lv (v :: st) h
    | none => none) := k_gf (k := 17) rfl rfl
theorem s_95_27 (d L n : Nat) (scr : Nat → Int32) (call : Nat → List Value → am_H → Option am_X) (lv : am_L) (st : List Value) (h : am_H) : am_f d scr L call 95 (n + 1) 27 lv st h = (match am_ld lv 4 with
    | some (.int x) => am_f d scr L call 95 n 29 lv (.int x :: st) h
    | _ => none) := k_li (i := .iload 4) rfl rfl rfl rfl
theorem s_95_29 (d L n : Nat) (scr : Nat → Int32) (call : Nat → List Value → am_H → Option am_X) (lv : am_L) (st : List Value) (h : am_H) (a : Nat) (i : Int32) : am_f d scr L call 95 (n + 1) 29 lv (.int i :: .ref a :: st) h = (match am_ild scr L h a i with
    | some x => am_f d scr L call 95 n 30 lv (.int x :: st) h
    | none => none) := k_ia rfl
theorem s_95_30 (d L n : Nat) (scr : Nat → Int32) (call : Nat → List Value → am_H → Option am_X) (lv : am_L) (st : List Value) (h : am_H) : am_f d scr L call 95 (n + 1) 30 lv st h = (match am_ld lv 2 with
    | some (.int x) => am_f d scr L call 95 n 31 lv (.int x :: st) h
    | _ => none) := k_li (i := .iload_n 2) rfl rfl rfl rfl
theorem s_95_31 (d L n : Nat) (scr : Nat → Int32) (call : Nat → List Value → am_H → Option am_X) (lv : am_L) (st : List Value) (h : am_H) (x y : Int32) : am_f d scr L call 95 (n + 1) 31 lv (.int y :: .int x :: st) h = if ¬ x = y then am_f d scr L call 95 n 48 lv st h else am_f d scr L call 95 n 34 lv st h := k_ic_ne (o := 17) rfl ⟨by decide, rfl⟩
theorem s_95_34 (d L n : Nat) (scr : Nat → Int32) (call : Nat → List Value → am_H → Option am_X) (lv : am_L) (st : List Value) (h : am_H) : am_f d scr L call 95 (n + 1) 34 lv st h = (match am_ld lv 0 with
    | some (.ref x) => am_f d scr L call 95 n 35 lv (.ref x :: st) h
    | _ => none) := k_la (i := .aload_n 0) rfl rfl rfl rfl
theorem s_95_35 (d L n : Nat) (scr : Nat → Int32) (call : Nat → List Value → am_H → Option am_X) (lv : am_L) (st : List Value) (h : am_H) (a : Nat) : am_f d scr L call 95 (n + 1) 35 lv (.ref a :: st) h = (match am_get h a 8 5 with
    | some v => am_f d scr L call 95 n 38 lv (v :: st) h
    | none => none) := k_gf (k := 20) rfl rfl
theorem s_95_38 (d L n : Nat) (scr : Nat → Int32) (call : Nat → List Value → am_H → Option am_X) (lv : am_L) (st : List Value) (h : am_H) : am_f d scr L call 95 (n + 1) 38 lv st h = (match am_ld lv 4 with
    | some (.int x) => am_f d scr L call 95 n 40 lv (.int x :: st) h
    | _ => none) := k_li (i := .iload 4) rfl rfl rfl rfl
theorem s_95_40 (d L n : Nat) (scr : Nat → Int32) (call : Nat → List Value → am_H → Option am_X) (lv : am_L) (st : List Value) (h : am_H) (a : Nat) (i : Int32) : am_f d scr L call 95 (n + 1) 40 lv (.int i :: .ref a :: st) h = (match am_ild scr L h a i with
    | some x => am_f d scr L call 95 n 41 lv (.int x :: st) h
    | none => none) := k_ia rfl
theorem s_95_41 (d L n : Nat) (scr : Nat → Int32) (call : Nat → List Value → am_H → Option am_X) (lv : am_L) (st : List Value) (h : am_H) : am_f d scr L call 95 (n + 1) 41 lv st h = (match am_ld lv 3 with
    | some (.int x) => am_f d scr L call 95 n 42 lv (.int x :: st) h
    | _ => none) := k_li (i := .iload_n 3) rfl rfl rfl rfl
theorem s_95_42 (d L n : Nat) (scr : Nat → Int32) (call : Nat → List Value → am_H → Option am_X) (lv : am_L) (st : List Value) (h : am_H) (x y : Int32) : am_f d scr L call 95 (n + 1) 42 lv (.int y :: .int x :: st) h = if ¬ x = y then am_f d scr L call 95 n 48 lv st h else am_f d scr L call 95 n 45 lv st h := k_ic_ne (o := 6) rfl ⟨by decide, rfl⟩
theorem s_95_45 (d L n : Nat) (scr : Nat → Int32) (call : Nat → List Value → am_H → Option am_X) (lv : am_L) (st : List Value) (h : am_H) : am_f d scr L call 95 (n + 1) 45 lv st h = (match am_ld lv 4 with
    | some (.int x) => am_f d scr L call 95 n 47 lv (.int x :: st) h
    | _ => none) := k_li (i := .iload 4) rfl rfl rfl rfl
theorem s_95_47 (d L n : Nat) (scr : Nat → Int32) (call : Nat → List Value → am_H → Option am_X) (lv : am_L) (h : am_H) (x : Int32) : am_f d scr L call 95 (n + 1) 47 lv [.int x] h = some (some (.int x), h, 0, 0) := k_ir rfl rfl
theorem s_95_48 (d L n : Nat) (scr : Nat → Int32) (call : Nat → List Value → am_H → Option am_X) (lv : am_L) (st : List Value) (h : am_H) : am_f d scr L call 95 (n + 1) 48 lv st h = (match am_ld lv 4 with
    | some (.int x) => am_f d scr L call 95 n 51 (am_st1 lv 4 (.int (x + 1))) st h
    | _ => none) := k_iinc (k := 4) (c := 1) rfl rfl (Nat.le_of_ble_eq_true rfl)
theorem s_95_51 (d L n : Nat) (scr : Nat → Int32) (call : Nat → List Value → am_H → Option am_X) (lv : am_L) (st : List Value) (h : am_H) : am_f d scr L call 95 (n + 1) 51 lv st h = am_f d scr L call 95 n 3 lv st h := k_nx (i := .goto (-48)) rfl rfl
theorem s_95_54 (d L n : Nat) (scr : Nat → Int32) (call : Nat → List Value → am_H → Option am_X) (lv : am_L) (st : List Value) (h : am_H) : am_f d scr L call 95 (n + 1) 54 lv st h = (match am_ld lv 0 with
    | some (.ref x) => am_f d scr L call 95 n 55 lv (.ref x :: st) h
    | _ => none) := k_la (i := .aload_n 0) rfl rfl rfl rfl
theorem s_95_55 (d L n : Nat) (scr : Nat → Int32) (call : Nat → List Value → am_H → Option am_X) (lv : am_L) (st : List Value) (h : am_H) (a : Nat) : am_f d scr L call 95 (n + 1) 55 lv (.ref a :: st) h = (match am_get h a 8 3 with
    | some v => am_f d scr L call 95 n 58 lv (v :: st) h
    | none => none) := k_gf (k := 13) rfl rfl
theorem s_95_58 (d L n : Nat) (scr : Nat → Int32) (call : Nat → List Value → am_H → Option am_X) (lv : am_L) (st : List Value) (h : am_H) : am_f d scr L call 95 (n + 1) 58 lv st h = (match am_ld lv 0 with
    | some (.ref x) => am_f d scr L call 95 n 59 lv (.ref x :: st) h
    | _ => none) := k_la (i := .aload_n 0) rfl rfl rfl rfl
theorem s_95_59 (d L n : Nat) (scr : Nat → Int32) (call : Nat → List Value → am_H → Option am_X) (lv : am_L) (st : List Value) (h : am_H) (a : Nat) : am_f d scr L call 95 (n + 1) 59 lv (.ref a :: st) h = (match am_get h a 8 2 with
    | some v => am_f d scr L call 95 n 62 lv (v :: st) h
    | none => none) := k_gf (k := 123) rfl rfl
theorem s_95_62 (d L n : Nat) (scr : Nat → Int32) (call : Nat → List Value → am_H → Option am_X) (lv : am_L) (st : List Value) (h : am_H) : am_f d scr L call 95 (n + 1) 62 lv st h = (match am_ld lv 1 with
    | some (.int x) => am_f d scr L call 95 n 63 lv (.int x :: st) h
    | _ => none) := k_li (i := .iload_n 1) rfl rfl rfl rfl
theorem s_95_63 (d L n : Nat) (scr : Nat → Int32) (call : Nat → List Value → am_H → Option am_X) (lv : am_L) (st : List Value) (h : am_H) (a : Nat) (i : Int32) (x : Int32) : am_f d scr L call 95 (n + 1) 63 lv (.int x :: .int i :: .ref a :: st) h = (match am_ist h a i x with
    | some h' => am_f d scr L call 95 n 64 lv st h'
    | none => none) := k_is rfl
theorem s_95_64 (d L n : Nat) (scr : Nat → Int32) (call : Nat → List Value → am_H → Option am_X) (lv : am_L) (st : List Value) (h : am_H) : am_f d scr L call 95 (n + 1) 64 lv st h = (match am_ld lv 0 with
    | some (.ref x) => am_f d scr L call 95 n 65 lv (.ref x :: st) h
    | _ => none) := k_la (i := .aload_n 0) rfl rfl rfl rfl
theorem s_95_65 (d L n : Nat) (scr : Nat → Int32) (call : Nat → List Value → am_H → Option am_X) (lv : am_L) (st : List Value) (h : am_H) (a : Nat) : am_f d scr L call 95 (n + 1) 65 lv (.ref a :: st) h = (match am_get h a 8 4 with
    | some v => am_f d scr L call 95 n 68 lv (v :: st) h
    | none => none) := k_gf (k := 17) rfl rfl
theorem s_95_68 (d L n : Nat) (scr : Nat → Int32) (call : Nat → List Value → am_H → Option am_X) (lv : am_L) (st : List Value) (h : am_H) : am_f d scr L call 95 (n + 1) 68 lv st h = (match am_ld lv 0 with
    | some (.ref x) => am_f d scr L call 95 n 69 lv (.ref x :: st) h
    | _ => none) := k_la (i := .aload_n 0) rfl rfl rfl rfl
theorem s_95_69 (d L n : Nat) (scr : Nat → Int32) (call : Nat → List Value → am_H → Option am_X) (lv : am_L) (st : List Value) (h : am_H) (a : Nat) : am_f d scr L call 95 (n + 1) 69 lv (.ref a :: st) h = (match am_get h a 8 2 with
    | some v => am_f d scr L call 95 n 72 lv (v :: st) h
    | none => none) := k_gf (k := 123) rfl rfl
theorem s_95_72 (d L n : Nat) (scr : Nat → Int32) (call : Nat → List Value → am_H → Option am_X) (lv : am_L) (st : List Value) (h : am_H) : am_f d scr L call 95 (n + 1) 72 lv st h = (match am_ld lv 2 with
    | some (.int x) => am_f d scr L call 95 n 73 lv (.int x :: st) h
    | _ => none) := k_li (i := .iload_n 2) rfl rfl rfl rfl
theorem s_95_73 (d L n : Nat) (scr : Nat → Int32) (call : Nat → List Value → am_H → Option am_X) (lv : am_L) (st : List Value) (h : am_H) (a : Nat) (i : Int32) (x : Int32) : am_f d scr L call 95 (n + 1) 73 lv (.int x :: .int i :: .ref a :: st) h = (match am_ist h a i x with
    | some h' => am_f d scr L call 95 n 74 lv st h'
    | none => none) := k_is rfl
theorem s_95_74 (d L n : Nat) (scr : Nat → Int32) (call : Nat → List Value → am_H → Option am_X) (lv : am_L) (st : List Value) (h : am_H) : am_f d scr L call 95 (n + 1) 74 lv st h = (match am_ld lv 0 with
    | some (.ref x) => am_f d scr L call 95 n 75 lv (.ref x :: st) h
    | _ => none) := k_la (i := .aload_n 0) rfl rfl rfl rfl
theorem s_95_75 (d L n : Nat) (scr : Nat → Int32) (call : Nat → List Value → am_H → Option am_X) (lv : am_L) (st : List Value) (h : am_H) (a : Nat) : am_f d scr L call 95 (n + 1) 75 lv (.ref a :: st) h = (match am_get h a 8 5 with
    | some v => am_f d scr L call 95 n 78 lv (v :: st) h
    | none => none) := k_gf (k := 20) rfl rfl
theorem s_95_78 (d L n : Nat) (scr : Nat → Int32) (call : Nat → List Value → am_H → Option am_X) (lv : am_L) (st : List Value) (h : am_H) : am_f d scr L call 95 (n + 1) 78 lv st h = (match am_ld lv 0 with
    | some (.ref x) => am_f d scr L call 95 n 79 lv (.ref x :: st) h
    | _ => none) := k_la (i := .aload_n 0) rfl rfl rfl rfl
theorem s_95_79 (d L n : Nat) (scr : Nat → Int32) (call : Nat → List Value → am_H → Option am_X) (lv : am_L) (st : List Value) (h : am_H) (a : Nat) : am_f d scr L call 95 (n + 1) 79 lv (.ref a :: st) h = (match am_get h a 8 2 with
    | some v => am_f d scr L call 95 n 82 lv (v :: st) h
    | none => none) := k_gf (k := 123) rfl rfl
theorem s_95_82 (d L n : Nat) (scr : Nat → Int32) (call : Nat → List Value → am_H → Option am_X) (lv : am_L) (st : List Value) (h : am_H) : am_f d scr L call 95 (n + 1) 82 lv st h = (match am_ld lv 3 with
    | some (.int x) => am_f d scr L call 95 n 83 lv (.int x :: st) h
    | _ => none) := k_li (i := .iload_n 3) rfl rfl rfl rfl
theorem s_95_83 (d L n : Nat) (scr : Nat → Int32) (call : Nat → List Value → am_H → Option am_X) (lv : am_L) (st : List Value) (h : am_H) (a : Nat) (i : Int32) (x : Int32) : am_f d scr L call 95 (n + 1) 83 lv (.int x :: .int i :: .ref a :: st) h = (match am_ist h a i x with
    | some h' => am_f d scr L call 95 n 84 lv st h'
    | none => none) := k_is rfl
theorem s_95_84 (d L n : Nat) (scr : Nat → Int32) (call : Nat → List Value → am_H → Option am_X) (lv : am_L) (st : List Value) (h : am_H) : am_f d scr L call 95 (n + 1) 84 lv st h = (match am_ld lv 0 with
    | some (.ref x) => am_f d scr L call 95 n 85 lv (.ref x :: st) h
    | _ => none) := k_la (i := .aload_n 0) rfl rfl rfl rfl
theorem s_95_85 (d L n : Nat) (scr : Nat → Int32) (call : Nat → List Value → am_H → Option am_X) (lv : am_L) (st : List Value) (h : am_H) (x : Nat) : am_f d scr L call 95 (n + 1) 85 lv (.ref x :: st) h = am_f d scr L call 95 n 86 lv (.ref x :: .ref x :: st) h := k_nx (i := .dup) rfl rfl
theorem s_95_86 (d L n : Nat) (scr : Nat → Int32) (call : Nat → List Value → am_H → Option am_X) (lv : am_L) (st : List Value) (h : am_H) (a : Nat) : am_f d scr L call 95 (n + 1) 86 lv (.ref a :: st) h = (match am_get h a 8 2 with
    | some v => am_f d scr L call 95 n 89 lv (v :: st) h
    | none => none) := k_gf (k := 123) rfl rfl
theorem s_95_89 (d L n : Nat) (scr : Nat → Int32) (call : Nat → List Value → am_H → Option am_X) (lv : am_L) (st : List Value) (h : am_H) : am_f d scr L call 95 (n + 1) 89 lv st h = am_f d scr L call 95 n 90 lv (.int 1 :: st) h := k_nx (i := .iconst 1) rfl rfl
theorem s_95_90 (d L n : Nat) (scr : Nat → Int32) (call : Nat → List Value → am_H → Option am_X) (lv : am_L) (st : List Value) (h : am_H) (x y : Int32) : am_f d scr L call 95 (n + 1) 90 lv (.int y :: .int x :: st) h = am_f d scr L call 95 n 91 lv (.int (x + y) :: st) h := k_nx (i := .iadd) rfl rfl
theorem s_95_91 (d L n : Nat) (scr : Nat → Int32) (call : Nat → List Value → am_H → Option am_X) (lv : am_L) (st : List Value) (h : am_H) (x : Int32) (a : Nat) : am_f d scr L call 95 (n + 1) 91 lv (.int x :: .ref a :: st) h = (match am_put h a 8 2 (.int x) with
    | some h' => am_f d scr L call 95 n 94 lv st h'
    | none => none) := k_pf (k := 123) rfl rfl rfl
theorem s_95_94 (d L n : Nat) (scr : Nat → Int32) (call : Nat → List Value → am_H → Option am_X) (lv : am_L) (st : List Value) (h : am_H) : am_f d scr L call 95 (n + 1) 94 lv st h = (match am_ld lv 0 with
    | some (.ref x) => am_f d scr L call 95 n 95 lv (.ref x :: st) h
    | _ => none) := k_la (i := .aload_n 0) rfl rfl rfl rfl
theorem s_95_95 (d L n : Nat) (scr : Nat → Int32) (call : Nat → List Value → am_H → Option am_X) (lv : am_L) (st : List Value) (h : am_H) (a : Nat) : am_f d scr L call 95 (n + 1) 95 lv (.ref a :: st) h = (match am_get h a 8 2 with
    | some v => am_f d scr L call 95 n 98 lv (v :: st) h
    | none => none) := k_gf (k := 123) rfl rfl
theorem s_95_98 (d L n : Nat) (scr : Nat → Int32) (call : Nat → List Value → am_H → Option am_X) (lv : am_L) (st : List Value) (h : am_H) : am_f d scr L call 95 (n + 1) 98 lv st h = am_f d scr L call 95 n 99 lv (.int 1 :: st) h := k_nx (i := .iconst 1) rfl rfl
theorem s_95_99 (d L n : Nat) (scr : Nat → Int32) (call : Nat → List Value → am_H → Option am_X) (lv : am_L) (st : List Value) (h : am_H) (x y : Int32) : am_f d scr L call 95 (n + 1) 99 lv (.int y :: .int x :: st) h = am_f d scr L call 95 n 100 lv (.int (x - y) :: st) h := k_nx (i := .isub) rfl rfl
theorem s_95_100 (d L n : Nat) (scr : Nat → Int32) (call : Nat → List Value → am_H → Option am_X) (lv : am_L) (h : am_H) (x : Int32) : am_f d scr L call 95 (n + 1) 100 lv [.int x] h = some (some (.int x), h, 0, 0) := k_ir rfl rfl
-- 96: BlameDeskModel.ground(I)I
theorem s_96_0 (d L n : Nat) (scr : Nat → Int32) (call : Nat → List Value → am_H → Option am_X) (lv : am_L) (st : List Value) (h : am_H) : am_f d scr L call 96 (n + 1) 0 lv st h = (match am_ld lv 0 with
    | some (.ref x) => am_f d scr L call 96 n 1 lv (.ref x :: st) h
    | _ => none) := k_la (i := .aload_n 0) rfl rfl rfl rfl
theorem s_96_1 (d L n : Nat) (scr : Nat → Int32) (call : Nat → List Value → am_H → Option am_X) (lv : am_L) (st : List Value) (h : am_H) (a : Nat) : am_f d scr L call 96 (n + 1) 1 lv (.ref a :: st) h = (match am_get h a 8 3 with
    | some v => am_f d scr L call 96 n 4 lv (v :: st) h
    | none => none) := k_gf (k := 13) rfl rfl
theorem s_96_4 (d L n : Nat) (scr : Nat → Int32) (call : Nat → List Value → am_H → Option am_X) (lv : am_L) (st : List Value) (h : am_H) : am_f d scr L call 96 (n + 1) 4 lv st h = (match am_ld lv 1 with
    | some (.int x) => am_f d scr L call 96 n 5 lv (.int x :: st) h
    | _ => none) := k_li (i := .iload_n 1) rfl rfl rfl rfl
theorem s_96_5 (d L n : Nat) (scr : Nat → Int32) (call : Nat → List Value → am_H → Option am_X) (lv : am_L) (st : List Value) (h : am_H) (a : Nat) (i : Int32) : am_f d scr L call 96 (n + 1) 5 lv (.int i :: .ref a :: st) h = (match am_ild scr L h a i with
    | some x => am_f d scr L call 96 n 6 lv (.int x :: st) h
    | none => none) := k_ia rfl
theorem s_96_6 (d L n : Nat) (scr : Nat → Int32) (call : Nat → List Value → am_H → Option am_X) (lv : am_L) (st : List Value) (h : am_H) : am_f d scr L call 96 (n + 1) 6 lv st h = am_f d scr L call 96 n 7 lv (.int 3 :: st) h := k_nx (i := .iconst 3) rfl rfl
theorem s_96_7 (d L n : Nat) (scr : Nat → Int32) (call : Nat → List Value → am_H → Option am_X) (lv : am_L) (st : List Value) (h : am_H) (x y : Int32) : am_f d scr L call 96 (n + 1) 7 lv (.int y :: .int x :: st) h = if ¬ x = y then am_f d scr L call 96 n 17 lv st h else am_f d scr L call 96 n 10 lv st h := k_ic_ne (o := 10) rfl ⟨by decide, rfl⟩
theorem s_96_10 (d L n : Nat) (scr : Nat → Int32) (call : Nat → List Value → am_H → Option am_X) (lv : am_L) (st : List Value) (h : am_H) : am_f d scr L call 96 (n + 1) 10 lv st h = (match am_ld lv 0 with
    | some (.ref x) => am_f d scr L call 96 n 11 lv (.ref x :: st) h
    | _ => none) := k_la (i := .aload_n 0) rfl rfl rfl rfl
theorem s_96_11 (d L n : Nat) (scr : Nat → Int32) (call : Nat → List Value → am_H → Option am_X) (lv : am_L) (st : List Value) (h : am_H) (a : Nat) : am_f d scr L call 96 (n + 1) 11 lv (.ref a :: st) h = (match am_get h a 8 6 with
    | some v => am_f d scr L call 96 n 14 lv (v :: st) h
    | none => none) := k_gf (k := 126) rfl rfl
theorem s_96_14 (d L n : Nat) (scr : Nat → Int32) (call : Nat → List Value → am_H → Option am_X) (lv : am_L) (st : List Value) (h : am_H) : am_f d scr L call 96 (n + 1) 14 lv st h = am_f d scr L call 96 n 35 lv st h := k_nx (i := .goto 21) rfl rfl
theorem s_96_17 (d L n : Nat) (scr : Nat → Int32) (call : Nat → List Value → am_H → Option am_X) (lv : am_L) (st : List Value) (h : am_H) : am_f d scr L call 96 (n + 1) 17 lv st h = (match am_ld lv 0 with
    | some (.ref x) => am_f d scr L call 96 n 18 lv (.ref x :: st) h
    | _ => none) := k_la (i := .aload_n 0) rfl rfl rfl rfl
theorem s_96_18 (d L n : Nat) (scr : Nat → Int32) (call : Nat → List Value → am_H → Option am_X) (lv : am_L) (st : List Value) (h : am_H) (a : Nat) : am_f d scr L call 96 (n + 1) 18 lv (.ref a :: st) h = (match am_get h a 8 3 with
    | some v => am_f d scr L call 96 n 21 lv (v :: st) h
    | none => none) := k_gf (k := 13) rfl rfl
theorem s_96_21 (d L n : Nat) (scr : Nat → Int32) (call : Nat → List Value → am_H → Option am_X) (lv : am_L) (st : List Value) (h : am_H) : am_f d scr L call 96 (n + 1) 21 lv st h = (match am_ld lv 1 with
    | some (.int x) => am_f d scr L call 96 n 22 lv (.int x :: st) h
    | _ => none) := k_li (i := .iload_n 1) rfl rfl rfl rfl
theorem s_96_22 (d L n : Nat) (scr : Nat → Int32) (call : Nat → List Value → am_H → Option am_X) (lv : am_L) (st : List Value) (h : am_H) (a : Nat) (i : Int32) : am_f d scr L call 96 (n + 1) 22 lv (.int i :: .ref a :: st) h = (match am_ild scr L h a i with
    | some x => am_f d scr L call 96 n 23 lv (.int x :: st) h
    | none => none) := k_ia rfl
theorem s_96_23 (d L n : Nat) (scr : Nat → Int32) (call : Nat → List Value → am_H → Option am_X) (lv : am_L) (st : List Value) (h : am_H) : am_f d scr L call 96 (n + 1) 23 lv st h = am_f d scr L call 96 n 24 lv (.int 4 :: st) h := k_nx (i := .iconst 4) rfl rfl
theorem s_96_24 (d L n : Nat) (scr : Nat → Int32) (call : Nat → List Value → am_H → Option am_X) (lv : am_L) (st : List Value) (h : am_H) (x y : Int32) : am_f d scr L call 96 (n + 1) 24 lv (.int y :: .int x :: st) h = if ¬ x = y then am_f d scr L call 96 n 34 lv st h else am_f d scr L call 96 n 27 lv st h := k_ic_ne (o := 10) rfl ⟨by decide, rfl⟩
theorem s_96_27 (d L n : Nat) (scr : Nat → Int32) (call : Nat → List Value → am_H → Option am_X) (lv : am_L) (st : List Value) (h : am_H) : am_f d scr L call 96 (n + 1) 27 lv st h = (match am_ld lv 0 with
    | some (.ref x) => am_f d scr L call 96 n 28 lv (.ref x :: st) h
    | _ => none) := k_la (i := .aload_n 0) rfl rfl rfl rfl
theorem s_96_28 (d L n : Nat) (scr : Nat → Int32) (call : Nat → List Value → am_H → Option am_X) (lv : am_L) (st : List Value) (h : am_H) (a : Nat) : am_f d scr L call 96 (n + 1) 28 lv (.ref a :: st) h = (match am_get h a 8 7 with
    | some v => am_f d scr L call 96 n 31 lv (v :: st) h
    | none => none) := k_gf (k := 129) rfl rfl
theorem s_96_31 (d L n : Nat) (scr : Nat → Int32) (call : Nat → List Value → am_H → Option am_X) (lv : am_L) (st : List Value) (h : am_H) : am_f d scr L call 96 (n + 1) 31 lv st h = am_f d scr L call 96 n 35 lv st h := k_nx (i := .goto 4) rfl rfl
theorem s_96_34 (d L n : Nat) (scr : Nat → Int32) (call : Nat → List Value → am_H → Option am_X) (lv : am_L) (st : List Value) (h : am_H) : am_f d scr L call 96 (n + 1) 34 lv st h = (match am_ld lv 1 with
    | some (.int x) => am_f d scr L call 96 n 35 lv (.int x :: st) h
    | _ => none) := k_li (i := .iload_n 1) rfl rfl rfl rfl
theorem s_96_35 (d L n : Nat) (scr : Nat → Int32) (call : Nat → List Value → am_H → Option am_X) (lv : am_L) (h : am_H) (x : Int32) : am_f d scr L call 96 (n + 1) 35 lv [.int x] h = some (some (.int x), h, 0, 0) := k_ir rfl rfl
-- 97: BlameDeskModel.consistent(II)Z
theorem s_97_0 (d L n : Nat) (scr : Nat → Int32) (call : Nat → List Value → am_H → Option am_X) (lv : am_L) (st : List Value) (h : am_H) : am_f d scr L call 97 (n + 1) 0 lv st h = am_f d scr L call 97 n 1 lv (.int 2 :: st) h := k_nx (i := .iconst 2) rfl rfl
theorem s_97_1 (d L n : Nat) (scr : Nat → Int32) (call : Nat → List Value → am_H → Option am_X) (lv : am_L) (st : List Value) (h : am_H) (x : Int32) : am_f d scr L call 97 (n + 1) 1 lv (.int x :: st) h = am_f d scr L call 97 n 2 (am_st1 lv 3 (.int x)) st h := k_nx (i := .istore_n 3) rfl rfl
theorem s_97_2 (d L n : Nat) (scr : Nat → Int32) (call : Nat → List Value → am_H → Option am_X) (lv : am_L) (st : List Value) (h : am_H) : am_f d scr L call 97 (n + 1) 2 lv st h = (match am_ld lv 0 with
    | some (.ref x) => am_f d scr L call 97 n 3 lv (.ref x :: st) h
    | _ => none) := k_la (i := .aload_n 0) rfl rfl rfl rfl
theorem s_97_3 (d L n : Nat) (scr : Nat → Int32) (call : Nat → List Value → am_H → Option am_X) (lv : am_L) (st : List Value) (h : am_H) (a : Nat) : am_f d scr L call 97 (n + 1) 3 lv (.ref a :: st) h = (match am_get h a 8 30 with
    | some v => am_f d scr L call 97 n 6 lv (v :: st) h
    | none => none) := k_gf (k := 66) rfl rfl
theorem s_97_6 (d L n : Nat) (scr : Nat → Int32) (call : Nat → List Value → am_H → Option am_X) (lv : am_L) (st : List Value) (h : am_H) : am_f d scr L call 97 (n + 1) 6 lv st h = am_f d scr L call 97 n 7 lv (.int 0 :: st) h := k_nx (i := .iconst 0) rfl rfl
theorem s_97_7 (d L n : Nat) (scr : Nat → Int32) (call : Nat → List Value → am_H → Option am_X) (lv : am_L) (st : List Value) (h : am_H) : am_f d scr L call 97 (n + 1) 7 lv st h = (match am_ld lv 1 with
    | some (.int x) => am_f d scr L call 97 n 8 lv (.int x :: st) h
    | _ => none) := k_li (i := .iload_n 1) rfl rfl rfl rfl
theorem s_97_8 (d L n : Nat) (scr : Nat → Int32) (call : Nat → List Value → am_H → Option am_X) (lv : am_L) (st : List Value) (h : am_H) (a : Nat) (i : Int32) (x : Int32) : am_f d scr L call 97 (n + 1) 8 lv (.int x :: .int i :: .ref a :: st) h = (match am_ist h a i x with
    | some h' => am_f d scr L call 97 n 9 lv st h'
    | none => none) := k_is rfl
theorem s_97_9 (d L n : Nat) (scr : Nat → Int32) (call : Nat → List Value → am_H → Option am_X) (lv : am_L) (st : List Value) (h : am_H) : am_f d scr L call 97 (n + 1) 9 lv st h = (match am_ld lv 0 with
    | some (.ref x) => am_f d scr L call 97 n 10 lv (.ref x :: st) h
    | _ => none) := k_la (i := .aload_n 0) rfl rfl rfl rfl
theorem s_97_10 (d L n : Nat) (scr : Nat → Int32) (call : Nat → List Value → am_H → Option am_X) (lv : am_L) (st : List Value) (h : am_H) (a : Nat) : am_f d scr L call 97 (n + 1) 10 lv (.ref a :: st) h = (match am_get h a 8 30 with
    | some v => am_f d scr L call 97 n 13 lv (v :: st) h
    | none => none) := k_gf (k := 66) rfl rfl
theorem s_97_13 (d L n : Nat) (scr : Nat → Int32) (call : Nat → List Value → am_H → Option am_X) (lv : am_L) (st : List Value) (h : am_H) : am_f d scr L call 97 (n + 1) 13 lv st h = am_f d scr L call 97 n 14 lv (.int 1 :: st) h := k_nx (i := .iconst 1) rfl rfl
theorem s_97_14 (d L n : Nat) (scr : Nat → Int32) (call : Nat → List Value → am_H → Option am_X) (lv : am_L) (st : List Value) (h : am_H) : am_f d scr L call 97 (n + 1) 14 lv st h = (match am_ld lv 2 with
    | some (.int x) => am_f d scr L call 97 n 15 lv (.int x :: st) h
    | _ => none) := k_li (i := .iload_n 2) rfl rfl rfl rfl
theorem s_97_15 (d L n : Nat) (scr : Nat → Int32) (call : Nat → List Value → am_H → Option am_X) (lv : am_L) (st : List Value) (h : am_H) (a : Nat) (i : Int32) (x : Int32) : am_f d scr L call 97 (n + 1) 15 lv (.int x :: .int i :: .ref a :: st) h = (match am_ist h a i x with
    | some h' => am_f d scr L call 97 n 16 lv st h'
    | none => none) := k_is rfl
theorem s_97_16 (d L n : Nat) (scr : Nat → Int32) (call : Nat → List Value → am_H → Option am_X) (lv : am_L) (st : List Value) (h : am_H) : am_f d scr L call 97 (n + 1) 16 lv st h = (match am_ld lv 3 with
    | some (.int x) => am_f d scr L call 97 n 17 lv (.int x :: st) h
    | _ => none) := k_li (i := .iload_n 3) rfl rfl rfl rfl
theorem s_97_17 (d L n : Nat) (scr : Nat → Int32) (call : Nat → List Value → am_H → Option am_X) (lv : am_L) (st : List Value) (h : am_H) (x : Int32) : am_f d scr L call 97 (n + 1) 17 lv (.int x :: st) h = if x ≤ 0 then am_f d scr L call 97 n 166 lv st h else am_f d scr L call 97 n 20 lv st h := k_if_le (o := 149) rfl ⟨by decide, rfl⟩
theorem s_97_20 (d L n : Nat) (scr : Nat → Int32) (call : Nat → List Value → am_H → Option am_X) (lv : am_L) (st : List Value) (h : am_H) : am_f d scr L call 97 (n + 1) 20 lv st h = (match am_ld lv 3 with
    | some (.int x) => am_f d scr L call 97 n 23 (am_st1 lv 3 (.int (x + (-2)))) st h
    | _ => none) := k_iinc (k := 3) (c := (-2)) rfl rfl (Nat.le_of_ble_eq_true rfl)
theorem s_97_23 (d L n : Nat) (scr : Nat → Int32) (call : Nat → List Value → am_H → Option am_X) (lv : am_L) (st : List Value) (h : am_H) : am_f d scr L call 97 (n + 1) 23 lv st h = (match am_ld lv 0 with
    | some (.ref x) => am_f d scr L call 97 n 24 lv (.ref x :: st) h
    | _ => none) := k_la (i := .aload_n 0) rfl rfl rfl rfl
theorem s_97_24 (d L n : Nat) (scr : Nat → Int32) (call : Nat → List Value → am_H → Option am_X) (lv : am_L) (st : List Value) (h : am_H) (a : Nat) : am_f d scr L call 97 (n + 1) 24 lv (.ref a :: st) h = (match am_get h a 8 30 with
    | some v => am_f d scr L call 97 n 27 lv (v :: st) h
    | none => none) := k_gf (k := 66) rfl rfl
theorem s_97_27 (d L n : Nat) (scr : Nat → Int32) (call : Nat → List Value → am_H → Option am_X) (lv : am_L) (st : List Value) (h : am_H) : am_f d scr L call 97 (n + 1) 27 lv st h = (match am_ld lv 3 with
    | some (.int x) => am_f d scr L call 97 n 28 lv (.int x :: st) h
    | _ => none) := k_li (i := .iload_n 3) rfl rfl rfl rfl
theorem s_97_28 (d L n : Nat) (scr : Nat → Int32) (call : Nat → List Value → am_H → Option am_X) (lv : am_L) (st : List Value) (h : am_H) (a : Nat) (i : Int32) : am_f d scr L call 97 (n + 1) 28 lv (.int i :: .ref a :: st) h = (match am_ild scr L h a i with
    | some x => am_f d scr L call 97 n 29 lv (.int x :: st) h
    | none => none) := k_ia rfl
theorem s_97_29 (d L n : Nat) (scr : Nat → Int32) (call : Nat → List Value → am_H → Option am_X) (lv : am_L) (st : List Value) (h : am_H) (x : Int32) : am_f d scr L call 97 (n + 1) 29 lv (.int x :: st) h = am_f d scr L call 97 n 31 (am_st1 lv 4 (.int x)) st h := k_nx (i := .istore 4) rfl rfl
theorem s_97_31 (d L n : Nat) (scr : Nat → Int32) (call : Nat → List Value → am_H → Option am_X) (lv : am_L) (st : List Value) (h : am_H) : am_f d scr L call 97 (n + 1) 31 lv st h = (match am_ld lv 0 with
    | some (.ref x) => am_f d scr L call 97 n 32 lv (.ref x :: st) h
    | _ => none) := k_la (i := .aload_n 0) rfl rfl rfl rfl
theorem s_97_32 (d L n : Nat) (scr : Nat → Int32) (call : Nat → List Value → am_H → Option am_X) (lv : am_L) (st : List Value) (h : am_H) (a : Nat) : am_f d scr L call 97 (n + 1) 32 lv (.ref a :: st) h = (match am_get h a 8 30 with
    | some v => am_f d scr L call 97 n 35 lv (v :: st) h
    | none => none) := k_gf (k := 66) rfl rfl
theorem s_97_35 (d L n : Nat) (scr : Nat → Int32) (call : Nat → List Value → am_H → Option am_X) (lv : am_L) (st : List Value) (h : am_H) : am_f d scr L call 97 (n + 1) 35 lv st h = (match am_ld lv 3 with
    | some (.int x) => am_f d scr L call 97 n 36 lv (.int x :: st) h
    | _ => none) := k_li (i := .iload_n 3) rfl rfl rfl rfl
theorem s_97_36 (d L n : Nat) (scr : Nat → Int32) (call : Nat → List Value → am_H → Option am_X) (lv : am_L) (st : List Value) (h : am_H) : am_f d scr L call 97 (n + 1) 36 lv st h = am_f d scr L call 97 n 37 lv (.int 1 :: st) h := k_nx (i := .iconst 1) rfl rfl
theorem s_97_37 (d L n : Nat) (scr : Nat → Int32) (call : Nat → List Value → am_H → Option am_X) (lv : am_L) (st : List Value) (h : am_H) (x y : Int32) : am_f d scr L call 97 (n + 1) 37 lv (.int y :: .int x :: st) h = am_f d scr L call 97 n 38 lv (.int (x + y) :: st) h := k_nx (i := .iadd) rfl rfl
theorem s_97_38 (d L n : Nat) (scr : Nat → Int32) (call : Nat → List Value → am_H → Option am_X) (lv : am_L) (st : List Value) (h : am_H) (a : Nat) (i : Int32) : am_f d scr L call 97 (n + 1) 38 lv (.int i :: .ref a :: st) h = (match am_ild scr L h a i with
    | some x => am_f d scr L call 97 n 39 lv (.int x :: st) h
    | none => none) := k_ia rfl
theorem s_97_39 (d L n : Nat) (scr : Nat → Int32) (call : Nat → List Value → am_H → Option am_X) (lv : am_L) (st : List Value) (h : am_H) (x : Int32) : am_f d scr L call 97 (n + 1) 39 lv (.int x :: st) h = am_f d scr L call 97 n 41 (am_st1 lv 5 (.int x)) st h := k_nx (i := .istore 5) rfl rfl
theorem s_97_41 (d L n : Nat) (scr : Nat → Int32) (call : Nat → List Value → am_H → Option am_X) (lv : am_L) (st : List Value) (h : am_H) : am_f d scr L call 97 (n + 1) 41 lv st h = (match am_ld lv 4 with
    | some (.int x) => am_f d scr L call 97 n 43 lv (.int x :: st) h
    | _ => none) := k_li (i := .iload 4) rfl rfl rfl rfl
theorem s_97_43 (d L n : Nat) (scr : Nat → Int32) (call : Nat → List Value → am_H → Option am_X) (lv : am_L) (st : List Value) (h : am_H) : am_f d scr L call 97 (n + 1) 43 lv st h = (match am_ld lv 5 with
    | some (.int x) => am_f d scr L call 97 n 45 lv (.int x :: st) h
    | _ => none) := k_li (i := .iload 5) rfl rfl rfl rfl
theorem s_97_45 (d L n : Nat) (scr : Nat → Int32) (call : Nat → List Value → am_H → Option am_X) (lv : am_L) (st : List Value) (h : am_H) (x y : Int32) : am_f d scr L call 97 (n + 1) 45 lv (.int y :: .int x :: st) h = if x = y then am_f d scr L call 97 n 163 lv st h else am_f d scr L call 97 n 48 lv st h := k_ic_eq (o := 118) rfl ⟨by decide, rfl⟩
theorem s_97_48 (d L n : Nat) (scr : Nat → Int32) (call : Nat → List Value → am_H → Option am_X) (lv : am_L) (st : List Value) (h : am_H) : am_f d scr L call 97 (n + 1) 48 lv st h = (match am_ld lv 4 with
    | some (.int x) => am_f d scr L call 97 n 50 lv (.int x :: st) h
    | _ => none) := k_li (i := .iload 4) rfl rfl rfl rfl
theorem s_97_50 (d L n : Nat) (scr : Nat → Int32) (call : Nat → List Value → am_H → Option am_X) (lv : am_L) (st : List Value) (h : am_H) : am_f d scr L call 97 (n + 1) 50 lv st h = am_f d scr L call 97 n 51 lv (.int 2 :: st) h := k_nx (i := .iconst 2) rfl rfl
theorem s_97_51 (d L n : Nat) (scr : Nat → Int32) (call : Nat → List Value → am_H → Option am_X) (lv : am_L) (st : List Value) (h : am_H) (x y : Int32) : am_f d scr L call 97 (n + 1) 51 lv (.int y :: .int x :: st) h = if x = y then am_f d scr L call 97 n 163 lv st h else am_f d scr L call 97 n 54 lv st h := k_ic_eq (o := 112) rfl ⟨by decide, rfl⟩
theorem s_97_54 (d L n : Nat) (scr : Nat → Int32) (call : Nat → List Value → am_H → Option am_X) (lv : am_L) (st : List Value) (h : am_H) : am_f d scr L call 97 (n + 1) 54 lv st h = (match am_ld lv 5 with
    | some (.int x) => am_f d scr L call 97 n 56 lv (.int x :: st) h
    | _ => none) := k_li (i := .iload 5) rfl rfl rfl rfl
theorem s_97_56 (d L n : Nat) (scr : Nat → Int32) (call : Nat → List Value → am_H → Option am_X) (lv : am_L) (st : List Value) (h : am_H) : am_f d scr L call 97 (n + 1) 56 lv st h = am_f d scr L call 97 n 57 lv (.int 2 :: st) h := k_nx (i := .iconst 2) rfl rfl
theorem s_97_57 (d L n : Nat) (scr : Nat → Int32) (call : Nat → List Value → am_H → Option am_X) (lv : am_L) (st : List Value) (h : am_H) (x y : Int32) : am_f d scr L call 97 (n + 1) 57 lv (.int y :: .int x :: st) h = if x = y then am_f d scr L call 97 n 163 lv st h else am_f d scr L call 97 n 60 lv st h := k_ic_eq (o := 106) rfl ⟨by decide, rfl⟩
theorem s_97_60 (d L n : Nat) (scr : Nat → Int32) (call : Nat → List Value → am_H → Option am_X) (lv : am_L) (st : List Value) (h : am_H) : am_f d scr L call 97 (n + 1) 60 lv st h = (match am_ld lv 0 with
    | some (.ref x) => am_f d scr L call 97 n 61 lv (.ref x :: st) h
    | _ => none) := k_la (i := .aload_n 0) rfl rfl rfl rfl
theorem s_97_61 (d L n : Nat) (scr : Nat → Int32) (call : Nat → List Value → am_H → Option am_X) (lv : am_L) (st : List Value) (h : am_H) (a : Nat) : am_f d scr L call 97 (n + 1) 61 lv (.ref a :: st) h = (match am_get h a 8 3 with
    | some v => am_f d scr L call 97 n 64 lv (v :: st) h
    | none => none) := k_gf (k := 13) rfl rfl
theorem s_97_64 (d L n : Nat) (scr : Nat → Int32) (call : Nat → List Value → am_H → Option am_X) (lv : am_L) (st : List Value) (h : am_H) : am_f d scr L call 97 (n + 1) 64 lv st h = (match am_ld lv 4 with
    | some (.int x) => am_f d scr L call 97 n 66 lv (.int x :: st) h
    | _ => none) := k_li (i := .iload 4) rfl rfl rfl rfl
theorem s_97_66 (d L n : Nat) (scr : Nat → Int32) (call : Nat → List Value → am_H → Option am_X) (lv : am_L) (st : List Value) (h : am_H) (a : Nat) (i : Int32) : am_f d scr L call 97 (n + 1) 66 lv (.int i :: .ref a :: st) h = (match am_ild scr L h a i with
    | some x => am_f d scr L call 97 n 67 lv (.int x :: st) h
    | none => none) := k_ia rfl
theorem s_97_67 (d L n : Nat) (scr : Nat → Int32) (call : Nat → List Value → am_H → Option am_X) (lv : am_L) (st : List Value) (h : am_H) : am_f d scr L call 97 (n + 1) 67 lv st h = (match am_ld lv 0 with
    | some (.ref x) => am_f d scr L call 97 n 68 lv (.ref x :: st) h
    | _ => none) := k_la (i := .aload_n 0) rfl rfl rfl rfl
theorem s_97_68 (d L n : Nat) (scr : Nat → Int32) (call : Nat → List Value → am_H → Option am_X) (lv : am_L) (st : List Value) (h : am_H) (a : Nat) : am_f d scr L call 97 (n + 1) 68 lv (.ref a :: st) h = (match am_get h a 8 3 with
    | some v => am_f d scr L call 97 n 71 lv (v :: st) h
    | none => none) := k_gf (k := 13) rfl rfl
theorem s_97_71 (d L n : Nat) (scr : Nat → Int32) (call : Nat → List Value → am_H → Option am_X) (lv : am_L) (st : List Value) (h : am_H) : am_f d scr L call 97 (n + 1) 71 lv st h = (match am_ld lv 5 with
    | some (.int x) => am_f d scr L call 97 n 73 lv (.int x :: st) h
    | _ => none) := k_li (i := .iload 5) rfl rfl rfl rfl
theorem s_97_73 (d L n : Nat) (scr : Nat → Int32) (call : Nat → List Value → am_H → Option am_X) (lv : am_L) (st : List Value) (h : am_H) (a : Nat) (i : Int32) : am_f d scr L call 97 (n + 1) 73 lv (.int i :: .ref a :: st) h = (match am_ild scr L h a i with
    | some x => am_f d scr L call 97 n 74 lv (.int x :: st) h
    | none => none) := k_ia rfl
theorem s_97_74 (d L n : Nat) (scr : Nat → Int32) (call : Nat → List Value → am_H → Option am_X) (lv : am_L) (st : List Value) (h : am_H) (x y : Int32) : am_f d scr L call 97 (n + 1) 74 lv (.int y :: .int x :: st) h = if ¬ x = y then am_f d scr L call 97 n 88 lv st h else am_f d scr L call 97 n 77 lv st h := k_ic_ne (o := 14) rfl ⟨by decide, rfl⟩
theorem s_97_77 (d L n : Nat) (scr : Nat → Int32) (call : Nat → List Value → am_H → Option am_X) (lv : am_L) (st : List Value) (h : am_H) : am_f d scr L call 97 (n + 1) 77 lv st h = (match am_ld lv 0 with
    | some (.ref x) => am_f d scr L call 97 n 78 lv (.ref x :: st) h
    | _ => none) := k_la (i := .aload_n 0) rfl rfl rfl rfl
theorem s_97_78 (d L n : Nat) (scr : Nat → Int32) (call : Nat → List Value → am_H → Option am_X) (lv : am_L) (st : List Value) (h : am_H) (a : Nat) : am_f d scr L call 97 (n + 1) 78 lv (.ref a :: st) h = (match am_get h a 8 3 with
    | some v => am_f d scr L call 97 n 81 lv (v :: st) h
    | none => none) := k_gf (k := 13) rfl rfl
theorem s_97_81 (d L n : Nat) (scr : Nat → Int32) (call : Nat → List Value → am_H → Option am_X) (lv : am_L) (st : List Value) (h : am_H) : am_f d scr L call 97 (n + 1) 81 lv st h = (match am_ld lv 4 with
    | some (.int x) => am_f d scr L call 97 n 83 lv (.int x :: st) h
    | _ => none) := k_li (i := .iload 4) rfl rfl rfl rfl
theorem s_97_83 (d L n : Nat) (scr : Nat → Int32) (call : Nat → List Value → am_H → Option am_X) (lv : am_L) (st : List Value) (h : am_H) (a : Nat) (i : Int32) : am_f d scr L call 97 (n + 1) 83 lv (.int i :: .ref a :: st) h = (match am_ild scr L h a i with
    | some x => am_f d scr L call 97 n 84 lv (.int x :: st) h
    | none => none) := k_ia rfl
theorem s_97_84 (d L n : Nat) (scr : Nat → Int32) (call : Nat → List Value → am_H → Option am_X) (lv : am_L) (st : List Value) (h : am_H) : am_f d scr L call 97 (n + 1) 84 lv st h = am_f d scr L call 97 n 85 lv (.int 3 :: st) h := k_nx (i := .iconst 3) rfl rfl
theorem s_97_85 (d L n : Nat) (scr : Nat → Int32) (call : Nat → List Value → am_H → Option am_X) (lv : am_L) (st : List Value) (h : am_H) (x y : Int32) : am_f d scr L call 97 (n + 1) 85 lv (.int y :: .int x :: st) h = if y ≤ x then am_f d scr L call 97 n 90 lv st h else am_f d scr L call 97 n 88 lv st h := k_ic_ge (o := 5) rfl ⟨by decide, rfl⟩
theorem s_97_88 (d L n : Nat) (scr : Nat → Int32) (call : Nat → List Value → am_H → Option am_X) (lv : am_L) (st : List Value) (h : am_H) : am_f d scr L call 97 (n + 1) 88 lv st h = am_f d scr L call 97 n 89 lv (.int 0 :: st) h := k_nx (i := .iconst 0) rfl rfl
theorem s_97_89 (d L n : Nat) (scr : Nat → Int32) (call : Nat → List Value → am_H → Option am_X) (lv : am_L) (h : am_H) (x : Int32) : am_f d scr L call 97 (n + 1) 89 lv [.int x] h = if x = 0 ∨ x = 1 then some (some (.int x), h, 0, 0) else none := k_zr rfl rfl
theorem s_97_90 (d L n : Nat) (scr : Nat → Int32) (call : Nat → List Value → am_H → Option am_X) (lv : am_L) (st : List Value) (h : am_H) : am_f d scr L call 97 (n + 1) 90 lv st h = (match am_ld lv 0 with
    | some (.ref x) => am_f d scr L call 97 n 91 lv (.ref x :: st) h
    | _ => none) := k_la (i := .aload_n 0) rfl rfl rfl rfl
theorem s_97_91 (d L n : Nat) (scr : Nat → Int32) (call : Nat → List Value → am_H → Option am_X) (lv : am_L) (st : List Value) (h : am_H) (a : Nat) : am_f d scr L call 97 (n + 1) 91 lv (.ref a :: st) h = (match am_get h a 8 30 with
    | some v => am_f d scr L call 97 n 94 lv (v :: st) h
    | none => none) := k_gf (k := 66) rfl rfl
theorem s_97_94 (d L n : Nat) (scr : Nat → Int32) (call : Nat → List Value → am_H → Option am_X) (lv : am_L) (st : List Value) (h : am_H) : am_f d scr L call 97 (n + 1) 94 lv st h = (match am_ld lv 3 with
    | some (.int x) => am_f d scr L call 97 n 95 lv (.int x :: st) h
    | _ => none) := k_li (i := .iload_n 3) rfl rfl rfl rfl
theorem s_97_95 (d L n : Nat) (scr : Nat → Int32) (call : Nat → List Value → am_H → Option am_X) (lv : am_L) (st : List Value) (h : am_H) : am_f d scr L call 97 (n + 1) 95 lv st h = (match am_ld lv 0 with
    | some (.ref x) => am_f d scr L call 97 n 96 lv (.ref x :: st) h
    | _ => none) := k_la (i := .aload_n 0) rfl rfl rfl rfl
theorem s_97_96 (d L n : Nat) (scr : Nat → Int32) (call : Nat → List Value → am_H → Option am_X) (lv : am_L) (st : List Value) (h : am_H) (a : Nat) : am_f d scr L call 97 (n + 1) 96 lv (.ref a :: st) h = (match am_get h a 8 4 with
    | some v => am_f d scr L call 97 n 99 lv (v :: st) h
    | none => none) := k_gf (k := 17) rfl rfl
theorem s_97_99 (d L n : Nat) (scr : Nat → Int32) (call : Nat → List Value → am_H → Option am_X) (lv : am_L) (st : List Value) (h : am_H) : am_f d scr L call 97 (n + 1) 99 lv st h = (match am_ld lv 4 with
    | some (.int x) => am_f d scr L call 97 n 101 lv (.int x :: st) h
    | _ => none) := k_li (i := .iload 4) rfl rfl rfl rfl
theorem s_97_101 (d L n : Nat) (scr : Nat → Int32) (call : Nat → List Value → am_H → Option am_X) (lv : am_L) (st : List Value) (h : am_H) (a : Nat) (i : Int32) : am_f d scr L call 97 (n + 1) 101 lv (.int i :: .ref a :: st) h = (match am_ild scr L h a i with
    | some x => am_f d scr L call 97 n 102 lv (.int x :: st) h
    | none => none) := k_ia rfl
theorem s_97_102 (d L n : Nat) (scr : Nat → Int32) (call : Nat → List Value → am_H → Option am_X) (lv : am_L) (st : List Value) (h : am_H) (a : Nat) (i : Int32) (x : Int32) : am_f d scr L call 97 (n + 1) 102 lv (.int x :: .int i :: .ref a :: st) h = (match am_ist h a i x with
    | some h' => am_f d scr L call 97 n 103 lv st h'
    | none => none) := k_is rfl
theorem s_97_103 (d L n : Nat) (scr : Nat → Int32) (call : Nat → List Value → am_H → Option am_X) (lv : am_L) (st : List Value) (h : am_H) : am_f d scr L call 97 (n + 1) 103 lv st h = (match am_ld lv 0 with
    | some (.ref x) => am_f d scr L call 97 n 104 lv (.ref x :: st) h
    | _ => none) := k_la (i := .aload_n 0) rfl rfl rfl rfl
theorem s_97_104 (d L n : Nat) (scr : Nat → Int32) (call : Nat → List Value → am_H → Option am_X) (lv : am_L) (st : List Value) (h : am_H) (a : Nat) : am_f d scr L call 97 (n + 1) 104 lv (.ref a :: st) h = (match am_get h a 8 30 with
    | some v => am_f d scr L call 97 n 107 lv (v :: st) h
    | none => none) := k_gf (k := 66) rfl rfl
theorem s_97_107 (d L n : Nat) (scr : Nat → Int32) (call : Nat → List Value → am_H → Option am_X) (lv : am_L) (st : List Value) (h : am_H) : am_f d scr L call 97 (n + 1) 107 lv st h = (match am_ld lv 3 with
    | some (.int x) => am_f d scr L call 97 n 108 lv (.int x :: st) h
    | _ => none) := k_li (i := .iload_n 3) rfl rfl rfl rfl
theorem s_97_108 (d L n : Nat) (scr : Nat → Int32) (call : Nat → List Value → am_H → Option am_X) (lv : am_L) (st : List Value) (h : am_H) : am_f d scr L call 97 (n + 1) 108 lv st h = am_f d scr L call 97 n 109 lv (.int 1 :: st) h := k_nx (i := .iconst 1) rfl rfl
theorem s_97_109 (d L n : Nat) (scr : Nat → Int32) (call : Nat → List Value → am_H → Option am_X) (lv : am_L) (st : List Value) (h : am_H) (x y : Int32) : am_f d scr L call 97 (n + 1) 109 lv (.int y :: .int x :: st) h = am_f d scr L call 97 n 110 lv (.int (x + y) :: st) h := k_nx (i := .iadd) rfl rfl
theorem s_97_110 (d L n : Nat) (scr : Nat → Int32) (call : Nat → List Value → am_H → Option am_X) (lv : am_L) (st : List Value) (h : am_H) : am_f d scr L call 97 (n + 1) 110 lv st h = (match am_ld lv 0 with
    | some (.ref x) => am_f d scr L call 97 n 111 lv (.ref x :: st) h
    | _ => none) := k_la (i := .aload_n 0) rfl rfl rfl rfl
theorem s_97_111 (d L n : Nat) (scr : Nat → Int32) (call : Nat → List Value → am_H → Option am_X) (lv : am_L) (st : List Value) (h : am_H) (a : Nat) : am_f d scr L call 97 (n + 1) 111 lv (.ref a :: st) h = (match am_get h a 8 4 with
    | some v => am_f d scr L call 97 n 114 lv (v :: st) h
    | none => none) := k_gf (k := 17) rfl rfl
theorem s_97_114 (d L n : Nat) (scr : Nat → Int32) (call : Nat → List Value → am_H → Option am_X) (lv : am_L) (st : List Value) (h : am_H) : am_f d scr L call 97 (n + 1) 114 lv st h = (match am_ld lv 5 with
    | some (.int x) => am_f d scr L call 97 n 116 lv (.int x :: st) h
    | _ => none) := k_li (i := .iload 5) rfl rfl rfl rfl
theorem s_97_116 (d L n : Nat) (scr : Nat → Int32) (call : Nat → List Value → am_H → Option am_X) (lv : am_L) (st : List Value) (h : am_H) (a : Nat) (i : Int32) : am_f d scr L call 97 (n + 1) 116 lv (.int i :: .ref a :: st) h = (match am_ild scr L h a i with
    | some x => am_f d scr L call 97 n 117 lv (.int x :: st) h
    | none => none) := k_ia rfl
theorem s_97_117 (d L n : Nat) (scr : Nat → Int32) (call : Nat → List Value → am_H → Option am_X) (lv : am_L) (st : List Value) (h : am_H) (a : Nat) (i : Int32) (x : Int32) : am_f d scr L call 97 (n + 1) 117 lv (.int x :: .int i :: .ref a :: st) h = (match am_ist h a i x with
    | some h' => am_f d scr L call 97 n 118 lv st h'
    | none => none) := k_is rfl
theorem s_97_118 (d L n : Nat) (scr : Nat → Int32) (call : Nat → List Value → am_H → Option am_X) (lv : am_L) (st : List Value) (h : am_H) : am_f d scr L call 97 (n + 1) 118 lv st h = (match am_ld lv 3 with
    | some (.int x) => am_f d scr L call 97 n 121 (am_st1 lv 3 (.int (x + 2))) st h
    | _ => none) := k_iinc (k := 3) (c := 2) rfl rfl (Nat.le_of_ble_eq_true rfl)
theorem s_97_121 (d L n : Nat) (scr : Nat → Int32) (call : Nat → List Value → am_H → Option am_X) (lv : am_L) (st : List Value) (h : am_H) : am_f d scr L call 97 (n + 1) 121 lv st h = (match am_ld lv 0 with
    | some (.ref x) => am_f d scr L call 97 n 122 lv (.ref x :: st) h
    | _ => none) := k_la (i := .aload_n 0) rfl rfl rfl rfl
theorem s_97_122 (d L n : Nat) (scr : Nat → Int32) (call : Nat → List Value → am_H → Option am_X) (lv : am_L) (st : List Value) (h : am_H) (a : Nat) : am_f d scr L call 97 (n + 1) 122 lv (.ref a :: st) h = (match am_get h a 8 3 with
    | some v => am_f d scr L call 97 n 125 lv (v :: st) h
    | none => none) := k_gf (k := 13) rfl rfl
theorem s_97_125 (d L n : Nat) (scr : Nat → Int32) (call : Nat → List Value → am_H → Option am_X) (lv : am_L) (st : List Value) (h : am_H) : am_f d scr L call 97 (n + 1) 125 lv st h = (match am_ld lv 4 with
    | some (.int x) => am_f d scr L call 97 n 127 lv (.int x :: st) h
    | _ => none) := k_li (i := .iload 4) rfl rfl rfl rfl
theorem s_97_127 (d L n : Nat) (scr : Nat → Int32) (call : Nat → List Value → am_H → Option am_X) (lv : am_L) (st : List Value) (h : am_H) (a : Nat) (i : Int32) : am_f d scr L call 97 (n + 1) 127 lv (.int i :: .ref a :: st) h = (match am_ild scr L h a i with
    | some x => am_f d scr L call 97 n 128 lv (.int x :: st) h
    | none => none) := k_ia rfl
theorem s_97_128 (d L n : Nat) (scr : Nat → Int32) (call : Nat → List Value → am_H → Option am_X) (lv : am_L) (st : List Value) (h : am_H) : am_f d scr L call 97 (n + 1) 128 lv st h = am_f d scr L call 97 n 129 lv (.int 3 :: st) h := k_nx (i := .iconst 3) rfl rfl
theorem s_97_129 (d L n : Nat) (scr : Nat → Int32) (call : Nat → List Value → am_H → Option am_X) (lv : am_L) (st : List Value) (h : am_H) (x y : Int32) : am_f d scr L call 97 (n + 1) 129 lv (.int y :: .int x :: st) h = if ¬ x = y then am_f d scr L call 97 n 163 lv st h else am_f d scr L call 97 n 132 lv st h := k_ic_ne (o := 34) rfl ⟨by decide, rfl⟩
theorem s_97_132 (d L n : Nat) (scr : Nat → Int32) (call : Nat → List Value → am_H → Option am_X) (lv : am_L) (st : List Value) (h : am_H) : am_f d scr L call 97 (n + 1) 132 lv st h = (match am_ld lv 0 with
    | some (.ref x) => am_f d scr L call 97 n 133 lv (.ref x :: st) h
    | _ => none) := k_la (i := .aload_n 0) rfl rfl rfl rfl
theorem s_97_133 (d L n : Nat) (scr : Nat → Int32) (call : Nat → List Value → am_H → Option am_X) (lv : am_L) (st : List Value) (h : am_H) (a : Nat) : am_f d scr L call 97 (n + 1) 133 lv (.ref a :: st) h = (match am_get h a 8 30 with
    | some v => am_f d scr L call 97 n 136 lv (v :: st) h
    | none => none) := k_gf (k := 66) rfl rfl
theorem s_97_136 (d L n : Nat) (scr : Nat → Int32) (call : Nat → List Value → am_H → Option am_X) (lv : am_L) (st : List Value) (h : am_H) : am_f d scr L call 97 (n + 1) 136 lv st h = (match am_ld lv 3 with
    | some (.int x) => am_f d scr L call 97 n 137 lv (.int x :: st) h
    | _ => none) := k_li (i := .iload_n 3) rfl rfl rfl rfl
set_option maxRecDepth 100000 in
theorem s_97_137 (d L n : Nat) (scr : Nat → Int32) (call : Nat → List Value → am_H → Option am_X) (lv : am_L) (st : List Value) (h : am_H) : am_f d scr L call 97 (n + 1) 137 lv st h = (match am_ld lv 0 with
    | some (.ref x) => am_f d scr L call 97 n 138 lv (.ref x :: st) h
    | _ => none) := k_la (i := .aload_n 0) rfl rfl rfl rfl
set_option maxRecDepth 100000 in
theorem s_97_138 (d L n : Nat) (scr : Nat → Int32) (call : Nat → List Value → am_H → Option am_X) (lv : am_L) (st : List Value) (h : am_H) (a : Nat) : am_f d scr L call 97 (n + 1) 138 lv (.ref a :: st) h = (match am_get h a 8 5 with
    | some v => am_f d scr L call 97 n 141 lv (v :: st) h
    | none => none) := k_gf (k := 20) rfl rfl
set_option maxRecDepth 100000 in
theorem s_97_141 (d L n : Nat) (scr : Nat → Int32) (call : Nat → List Value → am_H → Option am_X) (lv : am_L) (st : List Value) (h : am_H) : am_f d scr L call 97 (n + 1) 141 lv st h = (match am_ld lv 4 with
    | some (.int x) => am_f d scr L call 97 n 143 lv (.int x :: st) h
    | _ => none) := k_li (i := .iload 4) rfl rfl rfl rfl
set_option maxRecDepth 100000 in
theorem s_97_143 (d L n : Nat) (scr : Nat → Int32) (call : Nat → List Value → am_H → Option am_X) (lv : am_L) (st : List Value) (h : am_H) (a : Nat) (i : Int32) : am_f d scr L call 97 (n + 1) 143 lv (.int i :: .ref a :: st) h = (match am_ild scr L h a i with
    | some x => am_f d scr L call 97 n 144 lv (.int x :: st) h
    | none => none) := k_ia rfl
set_option maxRecDepth 100000 in
theorem s_97_144 (d L n : Nat) (scr : Nat → Int32) (call : Nat → List Value → am_H → Option am_X) (lv : am_L) (st : List Value) (h : am_H) (a : Nat) (i : Int32) (x : Int32) : am_f d scr L call 97 (n + 1) 144 lv (.int x :: .int i :: .ref a :: st) h = (match am_ist h a i x with
    | some h' => am_f d scr L call 97 n 145 lv st h'
    | none => none) := k_is rfl
set_option maxRecDepth 100000 in
theorem s_97_145 (d L n : Nat) (scr : Nat → Int32) (call : Nat → List Value → am_H → Option am_X) (lv : am_L) (st : List Value) (h : am_H) : am_f d scr L call 97 (n + 1) 145 lv st h = (match am_ld lv 0 with
    | some (.ref x) => am_f d scr L call 97 n 146 lv (.ref x :: st) h
    | _ => none) := k_la (i := .aload_n 0) rfl rfl rfl rfl
set_option maxRecDepth 100000 in
theorem s_97_146 (d L n : Nat) (scr : Nat → Int32) (call : Nat → List Value → am_H → Option am_X) (lv : am_L) (st : List Value) (h : am_H) (a : Nat) : am_f d scr L call 97 (n + 1) 146 lv (.ref a :: st) h = (match am_get h a 8 30 with
    | some v => am_f d scr L call 97 n 149 lv (v :: st) h
    | none => none) := k_gf (k := 66) rfl rfl
set_option maxRecDepth 100000 in
theorem s_97_149 (d L n : Nat) (scr : Nat → Int32) (call : Nat → List Value → am_H → Option am_X) (lv : am_L) (st : List Value) (h : am_H) : am_f d scr L call 97 (n + 1) 149 lv st h = (match am_ld lv 3 with
    | some (.int x) => am_f d scr L call 97 n 150 lv (.int x :: st) h
    | _ => none) := k_li (i := .iload_n 3) rfl rfl rfl rfl
set_option maxRecDepth 100000 in
theorem s_97_150 (d L n : Nat) (scr : Nat → Int32) (call : Nat → List Value → am_H → Option am_X) (lv : am_L) (st : List Value) (h : am_H) : am_f d scr L call 97 (n + 1) 150 lv st h = am_f d scr L call 97 n 151 lv (.int 1 :: st) h := k_nx (i := .iconst 1) rfl rfl
set_option maxRecDepth 100000 in
theorem s_97_151 (d L n : Nat) (scr : Nat → Int32) (call : Nat → List Value → am_H → Option am_X) (lv : am_L) (st : List Value) (h : am_H) (x y : Int32) : am_f d scr L call 97 (n + 1) 151 lv (.int y :: .int x :: st) h = am_f d scr L call 97 n 152 lv (.int (x + y) :: st) h := k_nx (i := .iadd) rfl rfl
set_option maxRecDepth 100000 in
theorem s_97_152 (d L n : Nat) (scr : Nat → Int32) (call : Nat → List Value → am_H → Option am_X) (lv : am_L) (st : List Value) (h : am_H) : am_f d scr L call 97 (n + 1) 152 lv st h = (match am_ld lv 0 with
    | some (.ref x) => am_f d scr L call 97 n 153 lv (.ref x :: st) h
    | _ => none) := k_la (i := .aload_n 0) rfl rfl rfl rfl
set_option maxRecDepth 100000 in
theorem s_97_153 (d L n : Nat) (scr : Nat → Int32) (call : Nat → List Value → am_H → Option am_X) (lv : am_L) (st : List Value) (h : am_H) (a : Nat) : am_f d scr L call 97 (n + 1) 153 lv (.ref a :: st) h = (match am_get h a 8 5 with
    | some v => am_f d scr L call 97 n 156 lv (v :: st) h
    | none => none) := k_gf (k := 20) rfl rfl
set_option maxRecDepth 100000 in
theorem s_97_156 (d L n : Nat) (scr : Nat → Int32) (call : Nat → List Value → am_H → Option am_X) (lv : am_L) (st : List Value) (h : am_H) : am_f d scr L call 97 (n + 1) 156 lv st h = (match am_ld lv 5 with
    | some (.int x) => am_f d scr L call 97 n 158 lv (.int x :: st) h
    | _ => none) := k_li (i := .iload 5) rfl rfl rfl rfl
set_option maxRecDepth 100000 in
theorem s_97_158 (d L n : Nat) (scr : Nat → Int32) (call : Nat → List Value → am_H → Option am_X) (lv : am_L) (st : List Value) (h : am_H) (a : Nat) (i : Int32) : am_f d scr L call 97 (n + 1) 158 lv (.int i :: .ref a :: st) h = (match am_ild scr L h a i with
    | some x => am_f d scr L call 97 n 159 lv (.int x :: st) h
    | none => none) := k_ia rfl
set_option maxRecDepth 100000 in
theorem s_97_159 (d L n : Nat) (scr : Nat → Int32) (call : Nat → List Value → am_H → Option am_X) (lv : am_L) (st : List Value) (h : am_H) (a : Nat) (i : Int32) (x : Int32) : am_f d scr L call 97 (n + 1) 159 lv (.int x :: .int i :: .ref a :: st) h = (match am_ist h a i x with
    | some h' => am_f d scr L call 97 n 160 lv st h'
    | none => none) := k_is rfl
set_option maxRecDepth 100000 in
theorem s_97_160 (d L n : Nat) (scr : Nat → Int32) (call : Nat → List Value → am_H → Option am_X) (lv : am_L) (st : List Value) (h : am_H) : am_f d scr L call 97 (n + 1) 160 lv st h = (match am_ld lv 3 with
    | some (.int x) => am_f d scr L call 97 n 163 (am_st1 lv 3 (.int (x + 2))) st h
    | _ => none) := k_iinc (k := 3) (c := 2) rfl rfl (Nat.le_of_ble_eq_true rfl)
set_option maxRecDepth 100000 in
theorem s_97_163 (d L n : Nat) (scr : Nat → Int32) (call : Nat → List Value → am_H → Option am_X) (lv : am_L) (st : List Value) (h : am_H) : am_f d scr L call 97 (n + 1) 163 lv st h = am_f d scr L call 97 n 16 lv st h := k_nx (i := .goto (-147)) rfl rfl
set_option maxRecDepth 100000 in
theorem s_97_166 (d L n : Nat) (scr : Nat → Int32) (call : Nat → List Value → am_H → Option am_X) (lv : am_L) (st : List Value) (h : am_H) : am_f d scr L call 97 (n + 1) 166 lv st h = am_f d scr L call 97 n 167 lv (.int 1 :: st) h := k_nx (i := .iconst 1) rfl rfl
set_option maxRecDepth 100000 in
theorem s_97_167 (d L n : Nat) (scr : Nat → Int32) (call : Nat → List Value → am_H → Option am_X) (lv : am_L) (h : am_H) (x : Int32) : am_f d scr L call 97 (n + 1) 167 lv [.int x] h = if x = 0 ∨ x = 1 then some (some (.int x), h, 0, 0) else none := k_zr rfl rfl
-- 98: BlameDeskModel.writeType(I)V
theorem s_98_0 (d L n : Nat) (scr : Nat → Int32) (call : Nat → List Value → am_H → Option am_X) (lv : am_L) (st : List Value) (h : am_H) : am_f d scr L call 98 (n + 1) 0 lv st h = am_f d scr L call 98 n 1 lv (.int 1 :: st) h := k_nx (i := .iconst 1) rfl rfl
theorem s_98_1 (d L n : Nat) (scr : Nat → Int32) (call : Nat → List Value → am_H → Option am_X) (lv : am_L) (st : List Value) (h : am_H) (x : Int32) : am_f d scr L call 98 (n + 1) 1 lv (.int x :: st) h = am_f d scr L call 98 n 2 (am_st1 lv 2 (.int x)) st h := k_nx (i := .istore_n 2) rfl rfl
theorem s_98_2 (d L n : Nat) (scr : Nat → Int32) (call : Nat → List Value → am_H → Option am_X) (lv : am_L) (st : List Value) (h : am_H) : am_f d scr L call 98 (n + 1) 2 lv st h = (match am_ld lv 0 with
    | some (.ref x) => am_f d scr L call 98 n 3 lv (.ref x :: st) h
    | _ => none) := k_la (i := .aload_n 0) rfl rfl rfl rfl
theorem s_98_3 (d L n : Nat) (scr : Nat → Int32) (call : Nat → List Value → am_H → Option am_X) (lv : am_L) (st : List Value) (h : am_H) (a : Nat) : am_f d scr L call 98 (n + 1) 3 lv (.ref a :: st) h = (match am_get h a 8 30 with
    | some v => am_f d scr L call 98 n 6 lv (v :: st) h
    | none => none) := k_gf (k := 66) rfl rfl
theorem s_98_6 (d L n : Nat) (scr : Nat → Int32) (call : Nat → List Value → am_H → Option am_X) (lv : am_L) (st : List Value) (h : am_H) : am_f d scr L call 98 (n + 1) 6 lv st h = am_f d scr L call 98 n 7 lv (.int 0 :: st) h := k_nx (i := .iconst 0) rfl rfl
theorem s_98_7 (d L n : Nat) (scr : Nat → Int32) (call : Nat → List Value → am_H → Option am_X) (lv : am_L) (st : List Value) (h : am_H) : am_f d scr L call 98 (n + 1) 7 lv st h = (match am_ld lv 1 with
    | some (.int x) => am_f d scr L call 98 n 8 lv (.int x :: st) h
    | _ => none) := k_li (i := .iload_n 1) rfl rfl rfl rfl
theorem s_98_8 (d L n : Nat) (scr : Nat → Int32) (call : Nat → List Value → am_H → Option am_X) (lv : am_L) (st : List Value) (h : am_H) (a : Nat) (i : Int32) (x : Int32) : am_f d scr L call 98 (n + 1) 8 lv (.int x :: .int i :: .ref a :: st) h = (match am_ist h a i x with
    | some h' => am_f d scr L call 98 n 9 lv st h'
    | none => none) := k_is rfl
theorem s_98_9 (d L n : Nat) (scr : Nat → Int32) (call : Nat → List Value → am_H → Option am_X) (lv : am_L) (st : List Value) (h : am_H) : am_f d scr L call 98 (n + 1) 9 lv st h = (match am_ld lv 0 with
    | some (.ref x) => am_f d scr L call 98 n 10 lv (.ref x :: st) h
    | _ => none) := k_la (i := .aload_n 0) rfl rfl rfl rfl
theorem s_98_10 (d L n : Nat) (scr : Nat → Int32) (call : Nat → List Value → am_H → Option am_X) (lv : am_L) (st : List Value) (h : am_H) : am_f d scr L call 98 (n + 1) 10 lv st h = am_f d scr L call 98 n 11 lv (.int 0 :: st) h := k_nx (i := .iconst 0) rfl rfl
theorem s_98_11 (d L n : Nat) (scr : Nat → Int32) (call : Nat → List Value → am_H → Option am_X) (lv : am_L) (st : List Value) (h : am_H) (x : Int32) (a : Nat) : am_f d scr L call 98 (n + 1) 11 lv (.int x :: .ref a :: st) h = (match am_put h a 8 28 (.int x) with
    | some h' => am_f d scr L call 98 n 14 lv st h'
    | none => none) := k_pf (k := 132) rfl rfl rfl
theorem s_98_14 (d L n : Nat) (scr : Nat → Int32) (call : Nat → List Value → am_H → Option am_X) (lv : am_L) (st : List Value) (h : am_H) : am_f d scr L call 98 (n + 1) 14 lv st h = (match am_ld lv 2 with
    | some (.int x) => am_f d scr L call 98 n 15 lv (.int x :: st) h
    | _ => none) := k_li (i := .iload_n 2) rfl rfl rfl rfl
theorem s_98_15 (d L n : Nat) (scr : Nat → Int32) (call : Nat → List Value → am_H → Option am_X) (lv : am_L) (st : List Value) (h : am_H) (x : Int32) : am_f d scr L call 98 (n + 1) 15 lv (.int x :: st) h = if x ≤ 0 then am_f d scr L call 98 n 177 lv st h else am_f d scr L call 98 n 18 lv st h := k_if_le (o := 162) rfl ⟨by decide, rfl⟩
theorem s_98_18 (d L n : Nat) (scr : Nat → Int32) (call : Nat → List Value → am_H → Option am_X) (lv : am_L) (st : List Value) (h : am_H) : am_f d scr L call 98 (n + 1) 18 lv st h = (match am_ld lv 0 with
    | some (.ref x) => am_f d scr L call 98 n 19 lv (.ref x :: st) h
    | _ => none) := k_la (i := .aload_n 0) rfl rfl rfl rfl
theorem s_98_19 (d L n : Nat) (scr : Nat → Int32) (call : Nat → List Value → am_H → Option am_X) (lv : am_L) (st : List Value) (h : am_H) (a : Nat) : am_f d scr L call 98 (n + 1) 19 lv (.ref a :: st) h = (match am_get h a 8 28 with
    | some v => am_f d scr L call 98 n 22 lv (v :: st) h
    | none => none) := k_gf (k := 132) rfl rfl
theorem s_98_22 (d L n : Nat) (scr : Nat → Int32) (call : Nat → List Value → am_H → Option am_X) (lv : am_L) (st : List Value) (h : am_H) : am_f d scr L call 98 (n + 1) 22 lv st h = am_f d scr L call 98 n 25 lv (.int 400 :: st) h := k_nx (i := .sipush 400) rfl rfl
theorem s_98_25 (d L n : Nat) (scr : Nat → Int32) (call : Nat → List Value → am_H → Option am_X) (lv : am_L) (st : List Value) (h : am_H) (x y : Int32) : am_f d scr L call 98 (n + 1) 25 lv (.int y :: .int x :: st) h = if y ≤ x then am_f d scr L call 98 n 177 lv st h else am_f d scr L call 98 n 28 lv st h := k_ic_ge (o := 152) rfl ⟨by decide, rfl⟩
theorem s_98_28 (d L n : Nat) (scr : Nat → Int32) (call : Nat → List Value → am_H → Option am_X) (lv : am_L) (st : List Value) (h : am_H) : am_f d scr L call 98 (n + 1) 28 lv st h = (match am_ld lv 2 with
    | some (.int x) => am_f d scr L call 98 n 31 (am_st1 lv 2 (.int (x + (-1)))) st h
    | _ => none) := k_iinc (k := 2) (c := (-1)) rfl rfl (Nat.le_of_ble_eq_true rfl)
theorem s_98_31 (d L n : Nat) (scr : Nat → Int32) (call : Nat → List Value → am_H → Option am_X) (lv : am_L) (st : List Value) (h : am_H) : am_f d scr L call 98 (n + 1) 31 lv st h = (match am_ld lv 0 with
    | some (.ref x) => am_f d scr L call 98 n 32 lv (.ref x :: st) h
    | _ => none) := k_la (i := .aload_n 0) rfl rfl rfl rfl
theorem s_98_32 (d L n : Nat) (scr : Nat → Int32) (call : Nat → List Value → am_H → Option am_X) (lv : am_L) (st : List Value) (h : am_H) (a : Nat) : am_f d scr L call 98 (n + 1) 32 lv (.ref a :: st) h = (match am_get h a 8 30 with
    | some v => am_f d scr L call 98 n 35 lv (v :: st) h
    | none => none) := k_gf (k := 66) rfl rfl
theorem s_98_35 (d L n : Nat) (scr : Nat → Int32) (call : Nat → List Value → am_H → Option am_X) (lv : am_L) (st : List Value) (h : am_H) : am_f d scr L call 98 (n + 1) 35 lv st h = (match am_ld lv 2 with
    | some (.int x) => am_f d scr L call 98 n 36 lv (.int x :: st) h
    | _ => none) := k_li (i := .iload_n 2) rfl rfl rfl rfl
theorem s_98_36 (d L n : Nat) (scr : Nat → Int32) (call : Nat → List Value → am_H → Option am_X) (lv : am_L) (st : List Value) (h : am_H) (a : Nat) (i : Int32) : am_f d scr L call 98 (n + 1) 36 lv (.int i :: .ref a :: st) h = (match am_ild scr L h a i with
    | some x => am_f d scr L call 98 n 37 lv (.int x :: st) h
    | none => none) := k_ia rfl
theorem s_98_37 (d L n : Nat) (scr : Nat → Int32) (call : Nat → List Value → am_H → Option am_X) (lv : am_L) (st : List Value) (h : am_H) (x : Int32) : am_f d scr L call 98 (n + 1) 37 lv (.int x :: st) h = am_f d scr L call 98 n 38 (am_st1 lv 3 (.int x)) st h := k_nx (i := .istore_n 3) rfl rfl
theorem s_98_38 (d L n : Nat) (scr : Nat → Int32) (call : Nat → List Value → am_H → Option am_X) (lv : am_L) (st : List Value) (h : am_H) : am_f d scr L call 98 (n + 1) 38 lv st h = (match am_ld lv 3 with
    | some (.int x) => am_f d scr L call 98 n 39 lv (.int x :: st) h
    | _ => none) := k_li (i := .iload_n 3) rfl rfl rfl rfl
theorem s_98_39 (d L n : Nat) (scr : Nat → Int32) (call : Nat → List Value → am_H → Option am_X) (lv : am_L) (st : List Value) (h : am_H) (x : Int32) : am_f d scr L call 98 (n + 1) 39 lv (.int x :: st) h = if 0 ≤ x then am_f d scr L call 98 n 52 lv st h else am_f d scr L call 98 n 42 lv st h := k_if_ge (o := 13) rfl ⟨by decide, rfl⟩
theorem s_98_42 (d L n : Nat) (scr : Nat → Int32) (call : Nat → List Value → am_H → Option am_X) (lv : am_L) (st : List Value) (h : am_H) : am_f d scr L call 98 (n + 1) 42 lv st h = (match am_ld lv 0 with
    | some (.ref x) => am_f d scr L call 98 n 43 lv (.ref x :: st) h
    | _ => none) := k_la (i := .aload_n 0) rfl rfl rfl rfl
theorem s_98_43 (d L n : Nat) (scr : Nat → Int32) (call : Nat → List Value → am_H → Option am_X) (lv : am_L) (st : List Value) (h : am_H) : am_f d scr L call 98 (n + 1) 43 lv st h = am_f d scr L call 98 n 44 lv (.int (-1) :: st) h := k_nx (i := .iconst (-1)) rfl rfl
theorem s_98_44 (d L n : Nat) (scr : Nat → Int32) (call : Nat → List Value → am_H → Option am_X) (lv : am_L) (st : List Value) (h : am_H) : am_f d scr L call 98 (n + 1) 44 lv st h = (match am_ld lv 3 with
    | some (.int x) => am_f d scr L call 98 n 45 lv (.int x :: st) h
    | _ => none) := k_li (i := .iload_n 3) rfl rfl rfl rfl
theorem s_98_45 (d L n : Nat) (scr : Nat → Int32) (call : Nat → List Value → am_H → Option am_X) (lv : am_L) (st : List Value) (h : am_H) (x y : Int32) : am_f d scr L call 98 (n + 1) 45 lv (.int y :: .int x :: st) h = am_f d scr L call 98 n 46 lv (.int (x - y) :: st) h := k_nx (i := .isub) rfl rfl
theorem s_98_46 (d L n : Nat) (scr : Nat → Int32) (call : Nat → List Value → am_H → Option am_X) (lv : am_L) (h : am_H) (o : Nat) (a0 : Int32)  : am_f d scr L call 98 (n + 1) 46 lv (.int a0 :: .ref o :: []) h = if am_at h o 8 = true then (match call 99 [.ref o, .int a0] h with
    | some (v, h', dk, dn) => am_add dk dn (am_f d scr L call 98 n 49 lv (v.toList ++ []) h')
    | none => none) else none := k_iv0 (k := 135) (as := [.int a0]) (r := []) rfl rfl rfl rfl (Nat.le_of_ble_eq_true rfl)
theorem s_98_49 (d L n : Nat) (scr : Nat → Int32) (call : Nat → List Value → am_H → Option am_X) (lv : am_L) (st : List Value) (h : am_H) : am_f d scr L call 98 (n + 1) 49 lv st h = am_f d scr L call 98 n 174 lv st h := k_nx (i := .goto 125) rfl rfl
theorem s_98_52 (d L n : Nat) (scr : Nat → Int32) (call : Nat → List Value → am_H → Option am_X) (lv : am_L) (st : List Value) (h : am_H) : am_f d scr L call 98 (n + 1) 52 lv st h = (match am_ld lv 3 with
    | some (.int x) => am_f d scr L call 98 n 53 lv (.int x :: st) h
    | _ => none) := k_li (i := .iload_n 3) rfl rfl rfl rfl
theorem s_98_53 (d L n : Nat) (scr : Nat → Int32) (call : Nat → List Value → am_H → Option am_X) (lv : am_L) (st : List Value) (h : am_H) : am_f d scr L call 98 (n + 1) 53 lv st h = am_f d scr L call 98 n 54 lv (.int 3 :: st) h := k_nx (i := .iconst 3) rfl rfl
theorem s_98_54 (d L n : Nat) (scr : Nat → Int32) (call : Nat → List Value → am_H → Option am_X) (lv : am_L) (st : List Value) (h : am_H) (x y : Int32) : am_f d scr L call 98 (n + 1) 54 lv (.int y :: .int x :: st) h = if y ≤ x then am_f d scr L call 98 n 85 lv st h else am_f d scr L call 98 n 57 lv st h := k_ic_ge (o := 31) rfl ⟨by decide, rfl⟩
theorem s_98_57 (d L n : Nat) (scr : Nat → Int32) (call : Nat → List Value → am_H → Option am_X) (lv : am_L) (st : List Value) (h : am_H) : am_f d scr L call 98 (n + 1) 57 lv st h = (match am_ld lv 0 with
    | some (.ref x) => am_f d scr L call 98 n 58 lv (.ref x :: st) h
    | _ => none) := k_la (i := .aload_n 0) rfl rfl rfl rfl
theorem s_98_58 (d L n : Nat) (scr : Nat → Int32) (call : Nat → List Value → am_H → Option am_X) (lv : am_L) (st : List Value) (h : am_H) : am_f d scr L call 98 (n + 1) 58 lv st h = (match am_ld lv 3 with
    | some (.int x) => am_f d scr L call 98 n 59 lv (.int x :: st) h
    | _ => none) := k_li (i := .iload_n 3) rfl rfl rfl rfl
theorem s_98_59 (d L n : Nat) (scr : Nat → Int32) (call : Nat → List Value → am_H → Option am_X) (lv : am_L) (st : List Value) (h : am_H) (x : Int32) : am_f d scr L call 98 (n + 1) 59 lv (.int x :: st) h = if ¬ x = 0 then am_f d scr L call 98 n 67 lv st h else am_f d scr L call 98 n 62 lv st h := k_if_ne (o := 8) rfl ⟨by decide, rfl⟩
theorem s_98_62 (d L n : Nat) (scr : Nat → Int32) (call : Nat → List Value → am_H → Option am_X) (lv : am_L) (st : List Value) (h : am_H) : am_f d scr L call 98 (n + 1) 62 lv st h = am_f d scr L call 98 n 64 lv (.int 105 :: st) h := k_nx (i := .bipush 105) rfl rfl
theorem s_98_64 (d L n : Nat) (scr : Nat → Int32) (call : Nat → List Value → am_H → Option am_X) (lv : am_L) (st : List Value) (h : am_H) : am_f d scr L call 98 (n + 1) 64 lv st h = am_f d scr L call 98 n 79 lv st h := k_nx (i := .goto 15) rfl rfl
theorem s_98_67 (d L n : Nat) (scr : Nat → Int32) (call : Nat → List Value → am_H → Option am_X) (lv : am_L) (st : List Value) (h : am_H) : am_f d scr L call 98 (n + 1) 67 lv st h = (match am_ld lv 3 with
    | some (.int x) => am_f d scr L call 98 n 68 lv (.int x :: st) h
    | _ => none) := k_li (i := .iload_n 3) rfl rfl rfl rfl
theorem s_98_68 (d L n : Nat) (scr : Nat → Int32) (call : Nat → List Value → am_H → Option am_X) (lv : am_L) (st : List Value) (h : am_H) : am_f d scr L call 98 (n + 1) 68 lv st h = am_f d scr L call 98 n 69 lv (.int 1 :: st) h := k_nx (i := .iconst 1) rfl rfl
theorem s_98_69 (d L n : Nat) (scr : Nat → Int32) (call : Nat → List Value → am_H → Option am_X) (lv : am_L) (st : List Value) (h : am_H) (x y : Int32) : am_f d scr L call 98 (n + 1) 69 lv (.int y :: .int x :: st) h = if ¬ x = y then am_f d scr L call 98 n 77 lv st h else am_f d scr L call 98 n 72 lv st h := k_ic_ne (o := 8) rfl ⟨by decide, rfl⟩
theorem s_98_72 (d L n : Nat) (scr : Nat → Int32) (call : Nat → List Value → am_H → Option am_X) (lv : am_L) (st : List Value) (h : am_H) : am_f d scr L call 98 (n + 1) 72 lv st h = am_f d scr L call 98 n 74 lv (.int 98 :: st) h := k_nx (i := .bipush 98) rfl rfl
theorem s_98_74 (d L n : Nat) (scr : Nat → Int32) (call : Nat → List Value → am_H → Option am_X) (lv : am_L) (st : List Value) (h : am_H) : am_f d scr L call 98 (n + 1) 74 lv st h = am_f d scr L call 98 n 79 lv st h := k_nx (i := .goto 5) rfl rfl
theorem s_98_77 (d L n : Nat) (scr : Nat → Int32) (call : Nat → List Value → am_H → Option am_X) (lv : am_L) (st : List Value) (h : am_H) : am_f d scr L call 98 (n + 1) 77 lv st h = am_f d scr L call 98 n 79 lv (.int 63 :: st) h := k_nx (i := .bipush 63) rfl rfl
theorem s_98_79 (d L n : Nat) (scr : Nat → Int32) (call : Nat → List Value → am_H → Option am_X) (lv : am_L) (h : am_H) (o : Nat) (a0 : Int32)  : am_f d scr L call 98 (n + 1) 79 lv (.int a0 :: .ref o :: []) h = if am_at h o 8 = true then (match call 99 [.ref o, .int a0] h with
    | some (v, h', dk, dn) => am_add dk dn (am_f d scr L call 98 n 82 lv (v.toList ++ []) h')
    | none => none) else none := k_iv0 (k := 135) (as := [.int a0]) (r := []) rfl rfl rfl rfl (Nat.le_of_ble_eq_true rfl)
theorem s_98_82 (d L n : Nat) (scr : Nat → Int32) (call : Nat → List Value → am_H → Option am_X) (lv : am_L) (st : List Value) (h : am_H) : am_f d scr L call 98 (n + 1) 82 lv st h = am_f d scr L call 98 n 174 lv st h := k_nx (i := .goto 92) rfl rfl
theorem s_98_85 (d L n : Nat) (scr : Nat → Int32) (call : Nat → List Value → am_H → Option am_X) (lv : am_L) (st : List Value) (h : am_H) : am_f d scr L call 98 (n + 1) 85 lv st h = (match am_ld lv 0 with
    | some (.ref x) => am_f d scr L call 98 n 86 lv (.ref x :: st) h
    | _ => none) := k_la (i := .aload_n 0) rfl rfl rfl rfl
theorem s_98_86 (d L n : Nat) (scr : Nat → Int32) (call : Nat → List Value → am_H → Option am_X) (lv : am_L) (st : List Value) (h : am_H) (a : Nat) : am_f d scr L call 98 (n + 1) 86 lv (.ref a :: st) h = (match am_get h a 8 3 with
    | some v => am_f d scr L call 98 n 89 lv (v :: st) h
    | none => none) := k_gf (k := 13) rfl rfl
theorem s_98_89 (d L n : Nat) (scr : Nat → Int32) (call : Nat → List Value → am_H → Option am_X) (lv : am_L) (st : List Value) (h : am_H) : am_f d scr L call 98 (n + 1) 89 lv st h = (match am_ld lv 3 with
    | some (.int x) => am_f d scr L call 98 n 90 lv (.int x :: st) h
    | _ => none) := k_li (i := .iload_n 3) rfl rfl rfl rfl
theorem s_98_90 (d L n : Nat) (scr : Nat → Int32) (call : Nat → List Value → am_H → Option am_X) (lv : am_L) (st : List Value) (h : am_H) (a : Nat) (i : Int32) : am_f d scr L call 98 (n + 1) 90 lv (.int i :: .ref a :: st) h = (match am_ild scr L h a i with
    | some x => am_f d scr L call 98 n 91 lv (.int x :: st) h
    | none => none) := k_ia rfl
theorem s_98_91 (d L n : Nat) (scr : Nat → Int32) (call : Nat → List Value → am_H → Option am_X) (lv : am_L) (st : List Value) (h : am_H) : am_f d scr L call 98 (n + 1) 91 lv st h = am_f d scr L call 98 n 92 lv (.int 4 :: st) h := k_nx (i := .iconst 4) rfl rfl
theorem s_98_92 (d L n : Nat) (scr : Nat → Int32) (call : Nat → List Value → am_H → Option am_X) (lv : am_L) (st : List Value) (h : am_H) (x y : Int32) : am_f d scr L call 98 (n + 1) 92 lv (.int y :: .int x :: st) h = if ¬ x = y then am_f d scr L call 98 n 119 lv st h else am_f d scr L call 98 n 95 lv st h := k_ic_ne (o := 27) rfl ⟨by decide, rfl⟩
theorem s_98_95 (d L n : Nat) (scr : Nat → Int32) (call : Nat → List Value → am_H → Option am_X) (lv : am_L) (st : List Value) (h : am_H) : am_f d scr L call 98 (n + 1) 95 lv st h = (match am_ld lv 0 with
    | some (.ref x) => am_f d scr L call 98 n 96 lv (.ref x :: st) h
    | _ => none) := k_la (i := .aload_n 0) rfl rfl rfl rfl
theorem s_98_96 (d L n : Nat) (scr : Nat → Int32) (call : Nat → List Value → am_H → Option am_X) (lv : am_L) (st : List Value) (h : am_H) : am_f d scr L call 98 (n + 1) 96 lv st h = am_f d scr L call 98 n 98 lv (.int 38 :: st) h := k_nx (i := .bipush 38) rfl rfl
theorem s_98_98 (d L n : Nat) (scr : Nat → Int32) (call : Nat → List Value → am_H → Option am_X) (lv : am_L) (h : am_H) (o : Nat) (a0 : Int32)  : am_f d scr L call 98 (n + 1) 98 lv (.int a0 :: .ref o :: []) h = if am_at h o 8 = true then (match call 99 [.ref o, .int a0] h with
    | some (v, h', dk, dn) => am_add dk dn (am_f d scr L call 98 n 101 lv (v.toList ++ []) h')
    | none => none) else none := k_iv0 (k := 135) (as := [.int a0]) (r := []) rfl rfl rfl rfl (Nat.le_of_ble_eq_true rfl)
theorem s_98_101 (d L n : Nat) (scr : Nat → Int32) (call : Nat → List Value → am_H → Option am_X) (lv : am_L) (st : List Value) (h : am_H) : am_f d scr L call 98 (n + 1) 101 lv st h = (match am_ld lv 0 with
    | some (.ref x) => am_f d scr L call 98 n 102 lv (.ref x :: st) h
    | _ => none) := k_la (i := .aload_n 0) rfl rfl rfl rfl
theorem s_98_102 (d L n : Nat) (scr : Nat → Int32) (call : Nat → List Value → am_H → Option am_X) (lv : am_L) (st : List Value) (h : am_H) (a : Nat) : am_f d scr L call 98 (n + 1) 102 lv (.ref a :: st) h = (match am_get h a 8 30 with
    | some v => am_f d scr L call 98 n 105 lv (v :: st) h
    | none => none) := k_gf (k := 66) rfl rfl
theorem s_98_105 (d L n : Nat) (scr : Nat → Int32) (call : Nat → List Value → am_H → Option am_X) (lv : am_L) (st : List Value) (h : am_H) : am_f d scr L call 98 (n + 1) 105 lv st h = (match am_ld lv 2 with
    | some (.int x) => am_f d scr L call 98 n 106 lv (.int x :: st) h
    | _ => none) := k_li (i := .iload_n 2) rfl rfl rfl rfl
theorem s_98_106 (d L n : Nat) (scr : Nat → Int32) (call : Nat → List Value → am_H → Option am_X) (lv : am_L) (st : List Value) (h : am_H) : am_f d scr L call 98 (n + 1) 106 lv st h = (match am_ld lv 0 with
    | some (.ref x) => am_f d scr L call 98 n 107 lv (.ref x :: st) h
    | _ => none) := k_la (i := .aload_n 0) rfl rfl rfl rfl
theorem s_98_107 (d L n : Nat) (scr : Nat → Int32) (call : Nat → List Value → am_H → Option am_X) (lv : am_L) (st : List Value) (h : am_H) (a : Nat) : am_f d scr L call 98 (n + 1) 107 lv (.ref a :: st) h = (match am_get h a 8 4 with
    | some v => am_f d scr L call 98 n 110 lv (v :: st) h
    | none => none) := k_gf (k := 17) rfl rfl
theorem s_98_110 (d L n : Nat) (scr : Nat → Int32) (call : Nat → List Value → am_H → Option am_X) (lv : am_L) (st : List Value) (h : am_H) : am_f d scr L call 98 (n + 1) 110 lv st h = (match am_ld lv 3 with
    | some (.int x) => am_f d scr L call 98 n 111 lv (.int x :: st) h
    | _ => none) := k_li (i := .iload_n 3) rfl rfl rfl rfl
theorem s_98_111 (d L n : Nat) (scr : Nat → Int32) (call : Nat → List Value → am_H → Option am_X) (lv : am_L) (st : List Value) (h : am_H) (a : Nat) (i : Int32) : am_f d scr L call 98 (n + 1) 111 lv (.int i :: .ref a :: st) h = (match am_ild scr L h a i with
    | some x => am_f d scr L call 98 n 112 lv (.int x :: st) h
    | none => none) := k_ia rfl
theorem s_98_112 (d L n : Nat) (scr : Nat → Int32) (call : Nat → List Value → am_H → Option am_X) (lv : am_L) (st : List Value) (h : am_H) (a : Nat) (i : Int32) (x : Int32) : am_f d scr L call 98 (n + 1) 112 lv (.int x :: .int i :: .ref a :: st) h = (match am_ist h a i x with
    | some h' => am_f d scr L call 98 n 113 lv st h'
    | none => none) := k_is rfl
theorem s_98_113 (d L n : Nat) (scr : Nat → Int32) (call : Nat → List Value → am_H → Option am_X) (lv : am_L) (st : List Value) (h : am_H) : am_f d scr L call 98 (n + 1) 113 lv st h = (match am_ld lv 2 with
    | some (.int x) => am_f d scr L call 98 n 116 (am_st1 lv 2 (.int (x + 1))) st h
    | _ => none) := k_iinc (k := 2) (c := 1) rfl rfl (Nat.le_of_ble_eq_true rfl)
theorem s_98_116 (d L n : Nat) (scr : Nat → Int32) (call : Nat → List Value → am_H → Option am_X) (lv : am_L) (st : List Value) (h : am_H) : am_f d scr L call 98 (n + 1) 116 lv st h = am_f d scr L call 98 n 174 lv st h := k_nx (i := .goto 58) rfl rfl
theorem s_98_119 (d L n : Nat) (scr : Nat → Int32) (call : Nat → List Value → am_H → Option am_X) (lv : am_L) (st : List Value) (h : am_H) : am_f d scr L call 98 (n + 1) 119 lv st h = (match am_ld lv 0 with
    | some (.ref x) => am_f d scr L call 98 n 120 lv (.ref x :: st) h
    | _ => none) := k_la (i := .aload_n 0) rfl rfl rfl rfl
theorem s_98_120 (d L n : Nat) (scr : Nat → Int32) (call : Nat → List Value → am_H → Option am_X) (lv : am_L) (st : List Value) (h : am_H) : am_f d scr L call 98 (n + 1) 120 lv st h = am_f d scr L call 98 n 122 lv (.int 40 :: st) h := k_nx (i := .bipush 40) rfl rfl
theorem s_98_122 (d L n : Nat) (scr : Nat → Int32) (call : Nat → List Value → am_H → Option am_X) (lv : am_L) (h : am_H) (o : Nat) (a0 : Int32)  : am_f d scr L call 98 (n + 1) 122 lv (.int a0 :: .ref o :: []) h = if am_at h o 8 = true then (match call 99 [.ref o, .int a0] h with
    | some (v, h', dk, dn) => am_add dk dn (am_f d scr L call 98 n 125 lv (v.toList ++ []) h')
    | none => none) else none := k_iv0 (k := 135) (as := [.int a0]) (r := []) rfl rfl rfl rfl (Nat.le_of_ble_eq_true rfl)
theorem s_98_125 (d L n : Nat) (scr : Nat → Int32) (call : Nat → List Value → am_H → Option am_X) (lv : am_L) (st : List Value) (h : am_H) : am_f d scr L call 98 (n + 1) 125 lv st h = (match am_ld lv 0 with
    | some (.ref x) => am_f d scr L call 98 n 126 lv (.ref x :: st) h
    | _ => none) := k_la (i := .aload_n 0) rfl rfl rfl rfl
theorem s_98_126 (d L n : Nat) (scr : Nat → Int32) (call : Nat → List Value → am_H → Option am_X) (lv : am_L) (st : List Value) (h : am_H) (a : Nat) : am_f d scr L call 98 (n + 1) 126 lv (.ref a :: st) h = (match am_get h a 8 30 with
    | some v => am_f d scr L call 98 n 129 lv (v :: st) h
    | none => none) := k_gf (k := 66) rfl rfl
theorem s_98_129 (d L n : Nat) (scr : Nat → Int32) (call : Nat → List Value → am_H → Option am_X) (lv : am_L) (st : List Value) (h : am_H) : am_f d scr L call 98 (n + 1) 129 lv st h = (match am_ld lv 2 with
    | some (.int x) => am_f d scr L call 98 n 130 lv (.int x :: st) h
    | _ => none) := k_li (i := .iload_n 2) rfl rfl rfl rfl
theorem s_98_130 (d L n : Nat) (scr : Nat → Int32) (call : Nat → List Value → am_H → Option am_X) (lv : am_L) (st : List Value) (h : am_H) : am_f d scr L call 98 (n + 1) 130 lv st h = am_f d scr L call 98 n 132 lv (.int (-42) :: st) h := k_nx (i := .bipush (-42)) rfl rfl
theorem s_98_132 (d L n : Nat) (scr : Nat → Int32) (call : Nat → List Value → am_H → Option am_X) (lv : am_L) (st : List Value) (h : am_H) (a : Nat) (i : Int32) (x : Int32) : am_f d scr L call 98 (n + 1) 132 lv (.int x :: .int i :: .ref a :: st) h = (match am_ist h a i x with
    | some h' => am_f d scr L call 98 n 133 lv st h'
    | none => none) := k_is rfl
theorem s_98_133 (d L n : Nat) (scr : Nat → Int32) (call : Nat → List Value → am_H → Option am_X) (lv : am_L) (st : List Value) (h : am_H) : am_f d scr L call 98 (n + 1) 133 lv st h = (match am_ld lv 0 with
    | some (.ref x) => am_f d scr L call 98 n 134 lv (.ref x :: st) h
    | _ => none) := k_la (i := .aload_n 0) rfl rfl rfl rfl
theorem s_98_134 (d L n : Nat) (scr : Nat → Int32) (call : Nat → List Value → am_H → Option am_X) (lv : am_L) (st : List Value) (h : am_H) (a : Nat) : am_f d scr L call 98 (n + 1) 134 lv (.ref a :: st) h = (match am_get h a 8 30 with
    | some v => am_f d scr L call 98 n 137 lv (v :: st) h
    | none => none) := k_gf (k := 66) rfl rfl
theorem s_98_137 (d L n : Nat) (scr : Nat → Int32) (call : Nat → List Value → am_H → Option am_X) (lv : am_L) (st : List Value) (h : am_H) : am_f d scr L call 98 (n + 1) 137 lv st h = (match am_ld lv 2 with
    | some (.int x) => am_f d scr L call 98 n 138 lv (.int x :: st) h
    | _ => none) := k_li (i := .iload_n 2) rfl rfl rfl rfl
theorem s_98_138 (d L n : Nat) (scr : Nat → Int32) (call : Nat → List Value → am_H → Option am_X) (lv : am_L) (st : List Value) (h : am_H) : am_f d scr L call 98 (n + 1) 138 lv st h = am_f d scr L call 98 n 139 lv (.int 1 :: st) h := k_nx (i := .iconst 1) rfl rfl
theorem s_98_139 (d L n : Nat) (scr : Nat → Int32) (call : Nat → List Value → am_H → Option am_X) (lv : am_L) (st : List Value) (h : am_H) (x y : Int32) : am_f d scr L call 98 (n + 1) 139 lv (.int y :: .int x :: st) h = am_f d scr L call 98 n 140 lv (.int (x + y) :: st) h := k_nx (i := .iadd) rfl rfl
theorem s_98_140 (d L n : Nat) (scr : Nat → Int32) (call : Nat → List Value → am_H → Option am_X) (lv : am_L) (st : List Value) (h : am_H) : am_f d scr L call 98 (n + 1) 140 lv st h = (match am_ld lv 0 with
    | some (.ref x) => am_f d scr L call 98 n 141 lv (.ref x :: st) h
    | _ => none) := k_la (i := .aload_n 0) rfl rfl rfl rfl
theorem s_98_141 (d L n : Nat) (scr : Nat → Int32) (call : Nat → List Value → am_H → Option am_X) (lv : am_L) (st : List Value) (h : am_H) (a : Nat) : am_f d scr L call 98 (n + 1) 141 lv (.ref a :: st) h = (match am_get h a 8 5 with
    | some v => am_f d scr L call 98 n 144 lv (v :: st) h
    | none => none) := k_gf (k := 20) rfl rfl
theorem s_98_144 (d L n : Nat) (scr : Nat → Int32) (call : Nat → List Value → am_H → Option am_X) (lv : am_L) (st : List Value) (h : am_H) : am_f d scr L call 98 (n + 1) 144 lv st h = (match am_ld lv 3 with
    | some (.int x) => am_f d scr L call 98 n 145 lv (.int x :: st) h
    | _ => none) := k_li (i := .iload_n 3) rfl rfl rfl rfl
set_option maxRecDepth 100000 in
theorem s_98_145 (d L n : Nat) (scr : Nat → Int32) (call : Nat → List Value → am_H → Option am_X) (lv : am_L) (st : List Value) (h : am_H) (a : Nat) (i : Int32) : am_f d scr L call 98 (n + 1) 145 lv (.int i :: .ref a :: st) h = (match am_ild scr L h a i with
    | some x => am_f d scr L call 98 n 146 lv (.int x :: st) h
    | none => none) := k_ia rfl
set_option maxRecDepth 100000 in
theorem s_98_146 (d L n : Nat) (scr : Nat → Int32) (call : Nat → List Value → am_H → Option am_X) (lv : am_L) (st : List Value) (h : am_H) (a : Nat) (i : Int32) (x : Int32) : am_f d scr L call 98 (n + 1) 146 lv (.int x :: .int i :: .ref a :: st) h = (match am_ist h a i x with
    | some h' => am_f d scr L call 98 n 147 lv st h'
    | none => none) := k_is rfl
set_option maxRecDepth 100000 in
theorem s_98_147 (d L n : Nat) (scr : Nat → Int32) (call : Nat → List Value → am_H → Option am_X) (lv : am_L) (st : List Value) (h : am_H) : am_f d scr L call 98 (n + 1) 147 lv st h = (match am_ld lv 0 with
    | some (.ref x) => am_f d scr L call 98 n 148 lv (.ref x :: st) h
    | _ => none) := k_la (i := .aload_n 0) rfl rfl rfl rfl
set_option maxRecDepth 100000 in
theorem s_98_148 (d L n : Nat) (scr : Nat → Int32) (call : Nat → List Value → am_H → Option am_X) (lv : am_L) (st : List Value) (h : am_H) (a : Nat) : am_f d scr L call 98 (n + 1) 148 lv (.ref a :: st) h = (match am_get h a 8 30 with
    | some v => am_f d scr L call 98 n 151 lv (v :: st) h
    | none => none) := k_gf (k := 66) rfl rfl
set_option maxRecDepth 100000 in
theorem s_98_151 (d L n : Nat) (scr : Nat → Int32) (call : Nat → List Value → am_H → Option am_X) (lv : am_L) (st : List Value) (h : am_H) : am_f d scr L call 98 (n + 1) 151 lv st h = (match am_ld lv 2 with
    | some (.int x) => am_f d scr L call 98 n 152 lv (.int x :: st) h
    | _ => none) := k_li (i := .iload_n 2) rfl rfl rfl rfl
set_option maxRecDepth 100000 in
theorem s_98_152 (d L n : Nat) (scr : Nat → Int32) (call : Nat → List Value → am_H → Option am_X) (lv : am_L) (st : List Value) (h : am_H) : am_f d scr L call 98 (n + 1) 152 lv st h = am_f d scr L call 98 n 153 lv (.int 2 :: st) h := k_nx (i := .iconst 2) rfl rfl
set_option maxRecDepth 100000 in
theorem s_98_153 (d L n : Nat) (scr : Nat → Int32) (call : Nat → List Value → am_H → Option am_X) (lv : am_L) (st : List Value) (h : am_H) (x y : Int32) : am_f d scr L call 98 (n + 1) 153 lv (.int y :: .int x :: st) h = am_f d scr L call 98 n 154 lv (.int (x + y) :: st) h := k_nx (i := .iadd) rfl rfl
set_option maxRecDepth 100000 in
theorem s_98_154 (d L n : Nat) (scr : Nat → Int32) (call : Nat → List Value → am_H → Option am_X) (lv : am_L) (st : List Value) (h : am_H) : am_f d scr L call 98 (n + 1) 154 lv st h = am_f d scr L call 98 n 156 lv (.int (-63) :: st) h := k_nx (i := .bipush (-63)) rfl rfl
set_option maxRecDepth 100000 in
theorem s_98_156 (d L n : Nat) (scr : Nat → Int32) (call : Nat → List Value → am_H → Option am_X) (lv : am_L) (st : List Value) (h : am_H) (a : Nat) (i : Int32) (x : Int32) : am_f d scr L call 98 (n + 1) 156 lv (.int x :: .int i :: .ref a :: st) h = (match am_ist h a i x with
    | some h' => am_f d scr L call 98 n 157 lv st h'
    | none => none) := k_is rfl
set_option maxRecDepth 100000 in
theorem s_98_157 (d L n : Nat) (scr : Nat → Int32) (call : Nat → List Value → am_H → Option am_X) (lv : am_L) (st : List Value) (h : am_H) : am_f d scr L call 98 (n + 1) 157 lv st h = (match am_ld lv 0 with
    | some (.ref x) => am_f d scr L call 98 n 158 lv (.ref x :: st) h
    | _ => none) := k_la (i := .aload_n 0) rfl rfl rfl rfl
set_option maxRecDepth 100000 in
theorem s_98_158 (d L n : Nat) (scr : Nat → Int32) (call : Nat → List Value → am_H → Option am_X) (lv : am_L) (st : List Value) (h : am_H) (a : Nat) : am_f d scr L call 98 (n + 1) 158 lv (.ref a :: st) h = (match am_get h a 8 30 with
    | some v => am_f d scr L call 98 n 161 lv (v :: st) h
    | none => none) := k_gf (k := 66) rfl rfl
set_option maxRecDepth 100000 in
theorem s_98_161 (d L n : Nat) (scr : Nat → Int32) (call : Nat → List Value → am_H → Option am_X) (lv : am_L) (st : List Value) (h : am_H) : am_f d scr L call 98 (n + 1) 161 lv st h = (match am_ld lv 2 with
    | some (.int x) => am_f d scr L call 98 n 162 lv (.int x :: st) h
    | _ => none) := k_li (i := .iload_n 2) rfl rfl rfl rfl
set_option maxRecDepth 100000 in
theorem s_98_162 (d L n : Nat) (scr : Nat → Int32) (call : Nat → List Value → am_H → Option am_X) (lv : am_L) (st : List Value) (h : am_H) : am_f d scr L call 98 (n + 1) 162 lv st h = am_f d scr L call 98 n 163 lv (.int 3 :: st) h := k_nx (i := .iconst 3) rfl rfl
set_option maxRecDepth 100000 in
theorem s_98_163 (d L n : Nat) (scr : Nat → Int32) (call : Nat → List Value → am_H → Option am_X) (lv : am_L) (st : List Value) (h : am_H) (x y : Int32) : am_f d scr L call 98 (n + 1) 163 lv (.int y :: .int x :: st) h = am_f d scr L call 98 n 164 lv (.int (x + y) :: st) h := k_nx (i := .iadd) rfl rfl
set_option maxRecDepth 100000 in
theorem s_98_164 (d L n : Nat) (scr : Nat → Int32) (call : Nat → List Value → am_H → Option am_X) (lv : am_L) (st : List Value) (h : am_H) : am_f d scr L call 98 (n + 1) 164 lv st h = (match am_ld lv 0 with
    | some (.ref x) => am_f d scr L call 98 n 165 lv (.ref x :: st) h
    | _ => none) := k_la (i := .aload_n 0) rfl rfl rfl rfl
set_option maxRecDepth 100000 in
theorem s_98_165 (d L n : Nat) (scr : Nat → Int32) (call : Nat → List Value → am_H → Option am_X) (lv : am_L) (st : List Value) (h : am_H) (a : Nat) : am_f d scr L call 98 (n + 1) 165 lv (.ref a :: st) h = (match am_get h a 8 4 with
    | some v => am_f d scr L call 98 n 168 lv (v :: st) h
    | none => none) := k_gf (k := 17) rfl rfl
set_option maxRecDepth 100000 in
theorem s_98_168 (d L n : Nat) (scr : Nat → Int32) (call : Nat → List Value → am_H → Option am_X) (lv : am_L) (st : List Value) (h : am_H) : am_f d scr L call 98 (n + 1) 168 lv st h = (match am_ld lv 3 with
    | some (.int x) => am_f d scr L call 98 n 169 lv (.int x :: st) h
    | _ => none) := k_li (i := .iload_n 3) rfl rfl rfl rfl
set_option maxRecDepth 100000 in
theorem s_98_169 (d L n : Nat) (scr : Nat → Int32) (call : Nat → List Value → am_H → Option am_X) (lv : am_L) (st : List Value) (h : am_H) (a : Nat) (i : Int32) : am_f d scr L call 98 (n + 1) 169 lv (.int i :: .ref a :: st) h = (match am_ild scr L h a i with
    | some x => am_f d scr L call 98 n 170 lv (.int x :: st) h
    | none => none) := k_ia rfl
set_option maxRecDepth 100000 in
theorem s_98_170 (d L n : Nat) (scr : Nat → Int32) (call : Nat → List Value → am_H → Option am_X) (lv : am_L) (st : List Value) (h : am_H) (a : Nat) (i : Int32) (x : Int32) : am_f d scr L call 98 (n + 1) 170 lv (.int x :: .int i :: .ref a :: st) h = (match am_ist h a i x with
    | some h' => am_f d scr L call 98 n 171 lv st h'
    | none => none) := k_is rfl
set_option maxRecDepth 100000 in
theorem s_98_171 (d L n : Nat) (scr : Nat → Int32) (call : Nat → List Value → am_H → Option am_X) (lv : am_L) (st : List Value) (h : am_H) : am_f d scr L call 98 (n + 1) 171 lv st h = (match am_ld lv 2 with
    | some (.int x) => am_f d scr L call 98 n 174 (am_st1 lv 2 (.int (x + 4))) st h
    | _ => none) := k_iinc (k := 2) (c := 4) rfl rfl (Nat.le_of_ble_eq_true rfl)
set_option maxRecDepth 100000 in
theorem s_98_174 (d L n : Nat) (scr : Nat → Int32) (call : Nat → List Value → am_H → Option am_X) (lv : am_L) (st : List Value) (h : am_H) : am_f d scr L call 98 (n + 1) 174 lv st h = am_f d scr L call 98 n 14 lv st h := k_nx (i := .goto (-160)) rfl rfl
set_option maxRecDepth 100000 in
theorem s_98_177 (d L n : Nat) (scr : Nat → Int32) (call : Nat → List Value → am_H → Option am_X) (lv : am_L) (h : am_H) : am_f d scr L call 98 (n + 1) 177 lv [] h = some (none, h, 0, 0) := k_vr rfl rfl
-- 99: BlameDeskModel.put(I)V
theorem s_99_0 (d L n : Nat) (scr : Nat → Int32) (call : Nat → List Value → am_H → Option am_X) (lv : am_L) (st : List Value) (h : am_H) : am_f d scr L call 99 (n + 1) 0 lv st h = (match am_ld lv 0 with
    | some (.ref x) => am_f d scr L call 99 n 1 lv (.ref x :: st) h
    | _ => none) := k_la (i := .aload_n 0) rfl rfl rfl rfl
theorem s_99_1 (d L n : Nat) (scr : Nat → Int32) (call : Nat → List Value → am_H → Option am_X) (lv : am_L) (st : List Value) (h : am_H) (a : Nat) : am_f d scr L call 99 (n + 1) 1 lv (.ref a :: st) h = (match am_get h a 8 29 with
    | some v => am_f d scr L call 99 n 4 lv (v :: st) h
    | none => none) := k_gf (k := 63) rfl rfl
theorem s_99_4 (d L n : Nat) (scr : Nat → Int32) (call : Nat → List Value → am_H → Option am_X) (lv : am_L) (st : List Value) (h : am_H) : am_f d scr L call 99 (n + 1) 4 lv st h = (match am_ld lv 0 with
    | some (.ref x) => am_f d scr L call 99 n 5 lv (.ref x :: st) h
    | _ => none) := k_la (i := .aload_n 0) rfl rfl rfl rfl
theorem s_99_5 (d L n : Nat) (scr : Nat → Int32) (call : Nat → List Value → am_H → Option am_X) (lv : am_L) (st : List Value) (h : am_H) (a : Nat) : am_f d scr L call 99 (n + 1) 5 lv (.ref a :: st) h = (match am_get h a 8 28 with
    | some v => am_f d scr L call 99 n 8 lv (v :: st) h
    | none => none) := k_gf (k := 132) rfl rfl
theorem s_99_8 (d L n : Nat) (scr : Nat → Int32) (call : Nat → List Value → am_H → Option am_X) (lv : am_L) (st : List Value) (h : am_H) : am_f d scr L call 99 (n + 1) 8 lv st h = (match am_ld lv 1 with
    | some (.int x) => am_f d scr L call 99 n 9 lv (.int x :: st) h
    | _ => none) := k_li (i := .iload_n 1) rfl rfl rfl rfl
theorem s_99_9 (d L n : Nat) (scr : Nat → Int32) (call : Nat → List Value → am_H → Option am_X) (lv : am_L) (st : List Value) (h : am_H) (x : Int32) : am_f d scr L call 99 (n + 1) 9 lv (.int x :: st) h = am_f d scr L call 99 n 10 lv (.int (x.toUInt32 % 65536).toInt32 :: st) h := k_nx (i := .i2c) rfl rfl
theorem s_99_10 (d L n : Nat) (scr : Nat → Int32) (call : Nat → List Value → am_H → Option am_X) (lv : am_L) (st : List Value) (h : am_H) (a : Nat) (i : Int32) (x : Int32) : am_f d scr L call 99 (n + 1) 10 lv (.int x :: .int i :: .ref a :: st) h = (match am_cst h a i x with
    | some h' => am_f d scr L call 99 n 11 lv st h'
    | none => none) := k_cs rfl
theorem s_99_11 (d L n : Nat) (scr : Nat → Int32) (call : Nat → List Value → am_H → Option am_X) (lv : am_L) (st : List Value) (h : am_H) : am_f d scr L call 99 (n + 1) 11 lv st h = (match am_ld lv 0 with
    | some (.ref x) => am_f d scr L call 99 n 12 lv (.ref x :: st) h
    | _ => none) := k_la (i := .aload_n 0) rfl rfl rfl rfl
theorem s_99_12 (d L n : Nat) (scr : Nat → Int32) (call : Nat → List Value → am_H → Option am_X) (lv : am_L) (st : List Value) (h : am_H) (x : Nat) : am_f d scr L call 99 (n + 1) 12 lv (.ref x :: st) h = am_f d scr L call 99 n 13 lv (.ref x :: .ref x :: st) h := k_nx (i := .dup) rfl rfl
theorem s_99_13 (d L n : Nat) (scr : Nat → Int32) (call : Nat → List Value → am_H → Option am_X) (lv : am_L) (st : List Value) (h : am_H) (a : Nat) : am_f d scr L call 99 (n + 1) 13 lv (.ref a :: st) h = (match am_get h a 8 28 with
    | some v => am_f d scr L call 99 n 16 lv (v :: st) h
    | none => none) := k_gf (k := 132) rfl rfl
theorem s_99_16 (d L n : Nat) (scr : Nat → Int32) (call : Nat → List Value → am_H → Option am_X) (lv : am_L) (st : List Value) (h : am_H) : am_f d scr L call 99 (n + 1) 16 lv st h = am_f d scr L call 99 n 17 lv (.int 1 :: st) h := k_nx (i := .iconst 1) rfl rfl
theorem s_99_17 (d L n : Nat) (scr : Nat → Int32) (call : Nat → List Value → am_H → Option am_X) (lv : am_L) (st : List Value) (h : am_H) (x y : Int32) : am_f d scr L call 99 (n + 1) 17 lv (.int y :: .int x :: st) h = am_f d scr L call 99 n 18 lv (.int (x + y) :: st) h := k_nx (i := .iadd) rfl rfl
theorem s_99_18 (d L n : Nat) (scr : Nat → Int32) (call : Nat → List Value → am_H → Option am_X) (lv : am_L) (st : List Value) (h : am_H) (x : Int32) (a : Nat) : am_f d scr L call 99 (n + 1) 18 lv (.int x :: .ref a :: st) h = (match am_put h a 8 28 (.int x) with
    | some h' => am_f d scr L call 99 n 21 lv st h'
    | none => none) := k_pf (k := 132) rfl rfl rfl
theorem s_99_21 (d L n : Nat) (scr : Nat → Int32) (call : Nat → List Value → am_H → Option am_X) (lv : am_L) (h : am_H) : am_f d scr L call 99 (n + 1) 21 lv [] h = some (none, h, 0, 0) := k_vr rfl rfl
-- 100: BlameDeskModel.here(I)C
theorem s_100_0 (d L n : Nat) (scr : Nat → Int32) (call : Nat → List Value → am_H → Option am_X) (lv : am_L) (st : List Value) (h : am_H) : am_f d scr L call 100 (n + 1) 0 lv st h = (match am_ld lv 0 with
    | some (.ref x) => am_f d scr L call 100 n 1 lv (.ref x :: st) h
    | _ => none) := k_la (i := .aload_n 0) rfl rfl rfl rfl
theorem s_100_1 (d L n : Nat) (scr : Nat → Int32) (call : Nat → List Value → am_H → Option am_X) (lv : am_L) (st : List Value) (h : am_H) (a : Nat) : am_f d scr L call 100 (n + 1) 1 lv (.ref a :: st) h = (match am_get h a 8 20 with
    | some v => am_f d scr L call 100 n 4 lv (v :: st) h
    | none => none) := k_gf (k := 139) rfl rfl
theorem s_100_4 (d L n : Nat) (scr : Nat → Int32) (call : Nat → List Value → am_H → Option am_X) (lv : am_L) (st : List Value) (h : am_H) : am_f d scr L call 100 (n + 1) 4 lv st h = (match am_ld lv 1 with
    | some (.int x) => am_f d scr L call 100 n 5 lv (.int x :: st) h
    | _ => none) := k_li (i := .iload_n 1) rfl rfl rfl rfl
theorem s_100_5 (d L n : Nat) (scr : Nat → Int32) (call : Nat → List Value → am_H → Option am_X) (lv : am_L) (st : List Value) (h : am_H) (x y : Int32) : am_f d scr L call 100 (n + 1) 5 lv (.int y :: .int x :: st) h = am_f d scr L call 100 n 6 lv (.int (x + y) :: st) h := k_nx (i := .iadd) rfl rfl
theorem s_100_6 (d L n : Nat) (scr : Nat → Int32) (call : Nat → List Value → am_H → Option am_X) (lv : am_L) (st : List Value) (h : am_H) : am_f d scr L call 100 (n + 1) 6 lv st h = (match am_ld lv 0 with
    | some (.ref x) => am_f d scr L call 100 n 7 lv (.ref x :: st) h
    | _ => none) := k_la (i := .aload_n 0) rfl rfl rfl rfl
theorem s_100_7 (d L n : Nat) (scr : Nat → Int32) (call : Nat → List Value → am_H → Option am_X) (lv : am_L) (st : List Value) (h : am_H) (a : Nat) : am_f d scr L call 100 (n + 1) 7 lv (.ref a :: st) h = (match am_get h a 8 0 with
    | some v => am_f d scr L call 100 n 10 lv (v :: st) h
    | none => none) := k_gf (k := 120) rfl rfl
theorem s_100_10 (d L n : Nat) (scr : Nat → Int32) (call : Nat → List Value → am_H → Option am_X) (lv : am_L) (st : List Value) (h : am_H) (x y : Int32) : am_f d scr L call 100 (n + 1) 10 lv (.int y :: .int x :: st) h = if y ≤ x then am_f d scr L call 100 n 27 lv st h else am_f d scr L call 100 n 13 lv st h := k_ic_ge (o := 17) rfl ⟨by decide, rfl⟩
theorem s_100_13 (d L n : Nat) (scr : Nat → Int32) (call : Nat → List Value → am_H → Option am_X) (lv : am_L) (st : List Value) (h : am_H) : am_f d scr L call 100 (n + 1) 13 lv st h = (match am_ld lv 0 with
    | some (.ref x) => am_f d scr L call 100 n 14 lv (.ref x :: st) h
    | _ => none) := k_la (i := .aload_n 0) rfl rfl rfl rfl
theorem s_100_14 (d L n : Nat) (scr : Nat → Int32) (call : Nat → List Value → am_H → Option am_X) (lv : am_L) (st : List Value) (h : am_H) (a : Nat) : am_f d scr L call 100 (n + 1) 14 lv (.ref a :: st) h = (match am_get h a 8 1 with
    | some v => am_f d scr L call 100 n 17 lv (v :: st) h
    | none => none) := k_gf (k := 7) rfl rfl
theorem s_100_17 (d L n : Nat) (scr : Nat → Int32) (call : Nat → List Value → am_H → Option am_X) (lv : am_L) (st : List Value) (h : am_H) : am_f d scr L call 100 (n + 1) 17 lv st h = (match am_ld lv 0 with
    | some (.ref x) => am_f d scr L call 100 n 18 lv (.ref x :: st) h
    | _ => none) := k_la (i := .aload_n 0) rfl rfl rfl rfl
theorem s_100_18 (d L n : Nat) (scr : Nat → Int32) (call : Nat → List Value → am_H → Option am_X) (lv : am_L) (st : List Value) (h : am_H) (a : Nat) : am_f d scr L call 100 (n + 1) 18 lv (.ref a :: st) h = (match am_get h a 8 20 with
    | some v => am_f d scr L call 100 n 21 lv (v :: st) h
    | none => none) := k_gf (k := 139) rfl rfl
theorem s_100_21 (d L n : Nat) (scr : Nat → Int32) (call : Nat → List Value → am_H → Option am_X) (lv : am_L) (st : List Value) (h : am_H) : am_f d scr L call 100 (n + 1) 21 lv st h = (match am_ld lv 1 with
    | some (.int x) => am_f d scr L call 100 n 22 lv (.int x :: st) h
    | _ => none) := k_li (i := .iload_n 1) rfl rfl rfl rfl
theorem s_100_22 (d L n : Nat) (scr : Nat → Int32) (call : Nat → List Value → am_H → Option am_X) (lv : am_L) (st : List Value) (h : am_H) (x y : Int32) : am_f d scr L call 100 (n + 1) 22 lv (.int y :: .int x :: st) h = am_f d scr L call 100 n 23 lv (.int (x + y) :: st) h := k_nx (i := .iadd) rfl rfl
theorem s_100_23 (d L n : Nat) (scr : Nat → Int32) (call : Nat → List Value → am_H → Option am_X) (lv : am_L) (st : List Value) (h : am_H) (a : Nat) (i : Int32) : am_f d scr L call 100 (n + 1) 23 lv (.int i :: .ref a :: st) h = (match am_cld h a i with
    | some x => am_f d scr L call 100 n 24 lv (.int x :: st) h
    | none => none) := k_ca rfl
theorem s_100_24 (d L n : Nat) (scr : Nat → Int32) (call : Nat → List Value → am_H → Option am_X) (lv : am_L) (st : List Value) (h : am_H) : am_f d scr L call 100 (n + 1) 24 lv st h = am_f d scr L call 100 n 28 lv st h := k_nx (i := .goto 4) rfl rfl
theorem s_100_27 (d L n : Nat) (scr : Nat → Int32) (call : Nat → List Value → am_H → Option am_X) (lv : am_L) (st : List Value) (h : am_H) : am_f d scr L call 100 (n + 1) 27 lv st h = am_f d scr L call 100 n 28 lv (.int 0 :: st) h := k_nx (i := .iconst 0) rfl rfl
theorem s_100_28 (d L n : Nat) (scr : Nat → Int32) (call : Nat → List Value → am_H → Option am_X) (lv : am_L) (h : am_H) (x : Int32) : am_f d scr L call 100 (n + 1) 28 lv [.int x] h = if vp_nar .char x = x then some (some (.int x), h, 0, 0) else none := k_cr rfl rfl
-- 101: BlameDeskModel.expect(C)Z
theorem s_101_0 (d L n : Nat) (scr : Nat → Int32) (call : Nat → List Value → am_H → Option am_X) (lv : am_L) (st : List Value) (h : am_H) : am_f d scr L call 101 (n + 1) 0 lv st h = (match am_ld lv 0 with
    | some (.ref x) => am_f d scr L call 101 n 1 lv (.ref x :: st) h
    | _ => none) := k_la (i := .aload_n 0) rfl rfl rfl rfl
theorem s_101_1 (d L n : Nat) (scr : Nat → Int32) (call : Nat → List Value → am_H → Option am_X) (lv : am_L) (st : List Value) (h : am_H) : am_f d scr L call 101 (n + 1) 1 lv st h = am_f d scr L call 101 n 2 lv (.int 0 :: st) h := k_nx (i := .iconst 0) rfl rfl
theorem s_101_2 (d L n : Nat) (scr : Nat → Int32) (call : Nat → List Value → am_H → Option am_X) (lv : am_L) (h : am_H) (o : Nat) (a0 : Int32)  : am_f d scr L call 101 (n + 1) 2 lv (.int a0 :: .ref o :: []) h = if am_at h o 8 = true then (match call 100 [.ref o, .int a0] h with
    | some (v, h', dk, dn) => am_add dk dn (am_f d scr L call 101 n 5 lv (v.toList ++ []) h')
    | none => none) else none := k_iv0 (k := 142) (as := [.int a0]) (r := []) rfl rfl rfl rfl (Nat.le_of_ble_eq_true rfl)
theorem s_101_5 (d L n : Nat) (scr : Nat → Int32) (call : Nat → List Value → am_H → Option am_X) (lv : am_L) (st : List Value) (h : am_H) : am_f d scr L call 101 (n + 1) 5 lv st h = (match am_ld lv 1 with
    | some (.int x) => am_f d scr L call 101 n 6 lv (.int x :: st) h
    | _ => none) := k_li (i := .iload_n 1) rfl rfl rfl rfl
theorem s_101_6 (d L n : Nat) (scr : Nat → Int32) (call : Nat → List Value → am_H → Option am_X) (lv : am_L) (st : List Value) (h : am_H) (x y : Int32) : am_f d scr L call 101 (n + 1) 6 lv (.int y :: .int x :: st) h = if ¬ x = y then am_f d scr L call 101 n 13 lv st h else am_f d scr L call 101 n 9 lv st h := k_ic_ne (o := 7) rfl ⟨by decide, rfl⟩
theorem s_101_9 (d L n : Nat) (scr : Nat → Int32) (call : Nat → List Value → am_H → Option am_X) (lv : am_L) (st : List Value) (h : am_H) : am_f d scr L call 101 (n + 1) 9 lv st h = am_f d scr L call 101 n 10 lv (.int 1 :: st) h := k_nx (i := .iconst 1) rfl rfl
theorem s_101_10 (d L n : Nat) (scr : Nat → Int32) (call : Nat → List Value → am_H → Option am_X) (lv : am_L) (st : List Value) (h : am_H) : am_f d scr L call 101 (n + 1) 10 lv st h = am_f d scr L call 101 n 14 lv st h := k_nx (i := .goto 4) rfl rfl
theorem s_101_13 (d L n : Nat) (scr : Nat → Int32) (call : Nat → List Value → am_H → Option am_X) (lv : am_L) (st : List Value) (h : am_H) : am_f d scr L call 101 (n + 1) 13 lv st h = am_f d scr L call 101 n 14 lv (.int 0 :: st) h := k_nx (i := .iconst 0) rfl rfl
theorem s_101_14 (d L n : Nat) (scr : Nat → Int32) (call : Nat → List Value → am_H → Option am_X) (lv : am_L) (st : List Value) (h : am_H) (x : Int32) : am_f d scr L call 101 (n + 1) 14 lv (.int x :: st) h = am_f d scr L call 101 n 15 (am_st1 lv 2 (.int x)) st h := k_nx (i := .istore_n 2) rfl rfl
theorem s_101_15 (d L n : Nat) (scr : Nat → Int32) (call : Nat → List Value → am_H → Option am_X) (lv : am_L) (st : List Value) (h : am_H) : am_f d scr L call 101 (n + 1) 15 lv st h = (match am_ld lv 0 with
    | some (.ref x) => am_f d scr L call 101 n 16 lv (.ref x :: st) h
    | _ => none) := k_la (i := .aload_n 0) rfl rfl rfl rfl
theorem s_101_16 (d L n : Nat) (scr : Nat → Int32) (call : Nat → List Value → am_H → Option am_X) (lv : am_L) (st : List Value) (h : am_H) : am_f d scr L call 101 (n + 1) 16 lv st h = (match am_ld lv 2 with
    | some (.int x) => am_f d scr L call 101 n 17 lv (.int x :: st) h
    | _ => none) := k_li (i := .iload_n 2) rfl rfl rfl rfl
theorem s_101_17 (d L n : Nat) (scr : Nat → Int32) (call : Nat → List Value → am_H → Option am_X) (lv : am_L) (st : List Value) (h : am_H) (x : Int32) : am_f d scr L call 101 (n + 1) 17 lv (.int x :: st) h = if x = 0 then am_f d scr L call 101 n 29 lv st h else am_f d scr L call 101 n 20 lv st h := k_if_eq (o := 12) rfl ⟨by decide, rfl⟩
theorem s_101_20 (d L n : Nat) (scr : Nat → Int32) (call : Nat → List Value → am_H → Option am_X) (lv : am_L) (st : List Value) (h : am_H) : am_f d scr L call 101 (n + 1) 20 lv st h = (match am_ld lv 0 with
    | some (.ref x) => am_f d scr L call 101 n 21 lv (.ref x :: st) h
    | _ => none) := k_la (i := .aload_n 0) rfl rfl rfl rfl
theorem s_101_21 (d L n : Nat) (scr : Nat → Int32) (call : Nat → List Value → am_H → Option am_X) (lv : am_L) (st : List Value) (h : am_H) (a : Nat) : am_f d scr L call 101 (n + 1) 21 lv (.ref a :: st) h = (match am_get h a 8 20 with
    | some v => am_f d scr L call 101 n 24 lv (v :: st) h
    | none => none) := k_gf (k := 139) rfl rfl
theorem s_101_24 (d L n : Nat) (scr : Nat → Int32) (call : Nat → List Value → am_H → Option am_X) (lv : am_L) (st : List Value) (h : am_H) : am_f d scr L call 101 (n + 1) 24 lv st h = am_f d scr L call 101 n 25 lv (.int 1 :: st) h := k_nx (i := .iconst 1) rfl rfl
theorem s_101_25 (d L n : Nat) (scr : Nat → Int32) (call : Nat → List Value → am_H → Option am_X) (lv : am_L) (st : List Value) (h : am_H) (x y : Int32) : am_f d scr L call 101 (n + 1) 25 lv (.int y :: .int x :: st) h = am_f d scr L call 101 n 26 lv (.int (x + y) :: st) h := k_nx (i := .iadd) rfl rfl
theorem s_101_26 (d L n : Nat) (scr : Nat → Int32) (call : Nat → List Value → am_H → Option am_X) (lv : am_L) (st : List Value) (h : am_H) : am_f d scr L call 101 (n + 1) 26 lv st h = am_f d scr L call 101 n 33 lv st h := k_nx (i := .goto 7) rfl rfl
theorem s_101_29 (d L n : Nat) (scr : Nat → Int32) (call : Nat → List Value → am_H → Option am_X) (lv : am_L) (st : List Value) (h : am_H) : am_f d scr L call 101 (n + 1) 29 lv st h = (match am_ld lv 0 with
    | some (.ref x) => am_f d scr L call 101 n 30 lv (.ref x :: st) h
    | _ => none) := k_la (i := .aload_n 0) rfl rfl rfl rfl
theorem s_101_30 (d L n : Nat) (scr : Nat → Int32) (call : Nat → List Value → am_H → Option am_X) (lv : am_L) (st : List Value) (h : am_H) (a : Nat) : am_f d scr L call 101 (n + 1) 30 lv (.ref a :: st) h = (match am_get h a 8 20 with
    | some v => am_f d scr L call 101 n 33 lv (v :: st) h
    | none => none) := k_gf (k := 139) rfl rfl
theorem s_101_33 (d L n : Nat) (scr : Nat → Int32) (call : Nat → List Value → am_H → Option am_X) (lv : am_L) (st : List Value) (h : am_H) (x : Int32) (a : Nat) : am_f d scr L call 101 (n + 1) 33 lv (.int x :: .ref a :: st) h = (match am_put h a 8 20 (.int x) with
    | some h' => am_f d scr L call 101 n 36 lv st h'
    | none => none) := k_pf (k := 139) rfl rfl rfl
theorem s_101_36 (d L n : Nat) (scr : Nat → Int32) (call : Nat → List Value → am_H → Option am_X) (lv : am_L) (st : List Value) (h : am_H) : am_f d scr L call 101 (n + 1) 36 lv st h = (match am_ld lv 2 with
    | some (.int x) => am_f d scr L call 101 n 37 lv (.int x :: st) h
    | _ => none) := k_li (i := .iload_n 2) rfl rfl rfl rfl
theorem s_101_37 (d L n : Nat) (scr : Nat → Int32) (call : Nat → List Value → am_H → Option am_X) (lv : am_L) (h : am_H) (x : Int32) : am_f d scr L call 101 (n + 1) 37 lv [.int x] h = if x = 0 ∨ x = 1 then some (some (.int x), h, 0, 0) else none := k_zr rfl rfl
-- 102: BlameDeskModel.letter(C)Z
theorem s_102_0 (d L n : Nat) (scr : Nat → Int32) (call : Nat → List Value → am_H → Option am_X) (lv : am_L) (st : List Value) (h : am_H) : am_f d scr L call 102 (n + 1) 0 lv st h = (match am_ld lv 0 with
    | some (.int x) => am_f d scr L call 102 n 1 lv (.int x :: st) h
    | _ => none) := k_li (i := .iload_n 0) rfl rfl rfl rfl
theorem s_102_1 (d L n : Nat) (scr : Nat → Int32) (call : Nat → List Value → am_H → Option am_X) (lv : am_L) (st : List Value) (h : am_H) : am_f d scr L call 102 (n + 1) 1 lv st h = am_f d scr L call 102 n 3 lv (.int 97 :: st) h := k_nx (i := .bipush 97) rfl rfl
theorem s_102_3 (d L n : Nat) (scr : Nat → Int32) (call : Nat → List Value → am_H → Option am_X) (lv : am_L) (st : List Value) (h : am_H) (x y : Int32) : am_f d scr L call 102 (n + 1) 3 lv (.int y :: .int x :: st) h = if x < y then am_f d scr L call 102 n 16 lv st h else am_f d scr L call 102 n 6 lv st h := k_ic_lt (o := 13) rfl ⟨by decide, rfl⟩
theorem s_102_6 (d L n : Nat) (scr : Nat → Int32) (call : Nat → List Value → am_H → Option am_X) (lv : am_L) (st : List Value) (h : am_H) : am_f d scr L call 102 (n + 1) 6 lv st h = (match am_ld lv 0 with
    | some (.int x) => am_f d scr L call 102 n 7 lv (.int x :: st) h
    | _ => none) := k_li (i := .iload_n 0) rfl rfl rfl rfl
theorem s_102_7 (d L n : Nat) (scr : Nat → Int32) (call : Nat → List Value → am_H → Option am_X) (lv : am_L) (st : List Value) (h : am_H) : am_f d scr L call 102 (n + 1) 7 lv st h = am_f d scr L call 102 n 9 lv (.int 122 :: st) h := k_nx (i := .bipush 122) rfl rfl
theorem s_102_9 (d L n : Nat) (scr : Nat → Int32) (call : Nat → List Value → am_H → Option am_X) (lv : am_L) (st : List Value) (h : am_H) (x y : Int32) : am_f d scr L call 102 (n + 1) 9 lv (.int y :: .int x :: st) h = if y < x then am_f d scr L call 102 n 16 lv st h else am_f d scr L call 102 n 12 lv st h := k_ic_gt (o := 7) rfl ⟨by decide, rfl⟩
theorem s_102_12 (d L n : Nat) (scr : Nat → Int32) (call : Nat → List Value → am_H → Option am_X) (lv : am_L) (st : List Value) (h : am_H) : am_f d scr L call 102 (n + 1) 12 lv st h = am_f d scr L call 102 n 13 lv (.int 1 :: st) h := k_nx (i := .iconst 1) rfl rfl
theorem s_102_13 (d L n : Nat) (scr : Nat → Int32) (call : Nat → List Value → am_H → Option am_X) (lv : am_L) (st : List Value) (h : am_H) : am_f d scr L call 102 (n + 1) 13 lv st h = am_f d scr L call 102 n 17 lv st h := k_nx (i := .goto 4) rfl rfl
theorem s_102_16 (d L n : Nat) (scr : Nat → Int32) (call : Nat → List Value → am_H → Option am_X) (lv : am_L) (st : List Value) (h : am_H) : am_f d scr L call 102 (n + 1) 16 lv st h = am_f d scr L call 102 n 17 lv (.int 0 :: st) h := k_nx (i := .iconst 0) rfl rfl
theorem s_102_17 (d L n : Nat) (scr : Nat → Int32) (call : Nat → List Value → am_H → Option am_X) (lv : am_L) (h : am_H) (x : Int32) : am_f d scr L call 102 (n + 1) 17 lv [.int x] h = if x = 0 ∨ x = 1 then some (some (.int x), h, 0, 0) else none := k_zr rfl rfl
-- 103: BlameDeskModel.digit(C)Z
theorem s_103_0 (d L n : Nat) (scr : Nat → Int32) (call : Nat → List Value → am_H → Option am_X) (lv : am_L) (st : List Value) (h : am_H) : am_f d scr L call 103 (n + 1) 0 lv st h = (match am_ld lv 0 with
    | some (.int x) => am_f d scr L call 103 n 1 lv (.int x :: st) h
    | _ => none) := k_li (i := .iload_n 0) rfl rfl rfl rfl
theorem s_103_1 (d L n : Nat) (scr : Nat → Int32) (call : Nat → List Value → am_H → Option am_X) (lv : am_L) (st : List Value) (h : am_H) : am_f d scr L call 103 (n + 1) 1 lv st h = am_f d scr L call 103 n 3 lv (.int 48 :: st) h := k_nx (i := .bipush 48) rfl rfl
theorem s_103_3 (d L n : Nat) (scr : Nat → Int32) (call : Nat → List Value → am_H → Option am_X) (lv : am_L) (st : List Value) (h : am_H) (x y : Int32) : am_f d scr L call 103 (n + 1) 3 lv (.int y :: .int x :: st) h = if x < y then am_f d scr L call 103 n 16 lv st h else am_f d scr L call 103 n 6 lv st h := k_ic_lt (o := 13) rfl ⟨by decide, rfl⟩
theorem s_103_6 (d L n : Nat) (scr : Nat → Int32) (call : Nat → List Value → am_H → Option am_X) (lv : am_L) (st : List Value) (h : am_H) : am_f d scr L call 103 (n + 1) 6 lv st h = (match am_ld lv 0 with
    | some (.int x) => am_f d scr L call 103 n 7 lv (.int x :: st) h
    | _ => none) := k_li (i := .iload_n 0) rfl rfl rfl rfl
theorem s_103_7 (d L n : Nat) (scr : Nat → Int32) (call : Nat → List Value → am_H → Option am_X) (lv : am_L) (st : List Value) (h : am_H) : am_f d scr L call 103 (n + 1) 7 lv st h = am_f d scr L call 103 n 9 lv (.int 57 :: st) h := k_nx (i := .bipush 57) rfl rfl
theorem s_103_9 (d L n : Nat) (scr : Nat → Int32) (call : Nat → List Value → am_H → Option am_X) (lv : am_L) (st : List Value) (h : am_H) (x y : Int32) : am_f d scr L call 103 (n + 1) 9 lv (.int y :: .int x :: st) h = if y < x then am_f d scr L call 103 n 16 lv st h else am_f d scr L call 103 n 12 lv st h := k_ic_gt (o := 7) rfl ⟨by decide, rfl⟩
theorem s_103_12 (d L n : Nat) (scr : Nat → Int32) (call : Nat → List Value → am_H → Option am_X) (lv : am_L) (st : List Value) (h : am_H) : am_f d scr L call 103 (n + 1) 12 lv st h = am_f d scr L call 103 n 13 lv (.int 1 :: st) h := k_nx (i := .iconst 1) rfl rfl
theorem s_103_13 (d L n : Nat) (scr : Nat → Int32) (call : Nat → List Value → am_H → Option am_X) (lv : am_L) (st : List Value) (h : am_H) : am_f d scr L call 103 (n + 1) 13 lv st h = am_f d scr L call 103 n 17 lv st h := k_nx (i := .goto 4) rfl rfl
theorem s_103_16 (d L n : Nat) (scr : Nat → Int32) (call : Nat → List Value → am_H → Option am_X) (lv : am_L) (st : List Value) (h : am_H) : am_f d scr L call 103 (n + 1) 16 lv st h = am_f d scr L call 103 n 17 lv (.int 0 :: st) h := k_nx (i := .iconst 0) rfl rfl
theorem s_103_17 (d L n : Nat) (scr : Nat → Int32) (call : Nat → List Value → am_H → Option am_X) (lv : am_L) (h : am_H) (x : Int32) : am_f d scr L call 103 (n + 1) 17 lv [.int x] h = if x = 0 ∨ x = 1 then some (some (.int x), h, 0, 0) else none := k_zr rfl rfl
-- 104: BlameDeskModel.readType(I)I
theorem s_104_0 (d L n : Nat) (scr : Nat → Int32) (call : Nat → List Value → am_H → Option am_X) (lv : am_L) (st : List Value) (h : am_H) : am_f d scr L call 104 (n + 1) 0 lv st h = (match am_ld lv 0 with
    | some (.ref x) => am_f d scr L call 104 n 1 lv (.ref x :: st) h
    | _ => none) := k_la (i := .aload_n 0) rfl rfl rfl rfl
theorem s_104_1 (d L n : Nat) (scr : Nat → Int32) (call : Nat → List Value → am_H → Option am_X) (lv : am_L) (st : List Value) (h : am_H) : am_f d scr L call 104 (n + 1) 1 lv st h = am_f d scr L call 104 n 2 lv (.int 0 :: st) h := k_nx (i := .iconst 0) rfl rfl
theorem s_104_2 (d L n : Nat) (scr : Nat → Int32) (call : Nat → List Value → am_H → Option am_X) (lv : am_L) (st : List Value) (h : am_H) (x : Int32) (a : Nat) : am_f d scr L call 104 (n + 1) 2 lv (.int x :: .ref a :: st) h = (match am_put h a 8 23 (.int x) with
    | some h' => am_f d scr L call 104 n 5 lv st h'
    | none => none) := k_pf (k := 146) rfl rfl rfl
theorem s_104_5 (d L n : Nat) (scr : Nat → Int32) (call : Nat → List Value → am_H → Option am_X) (lv : am_L) (st : List Value) (h : am_H) : am_f d scr L call 104 (n + 1) 5 lv st h = am_f d scr L call 104 n 6 lv (.int (-1) :: st) h := k_nx (i := .iconst (-1)) rfl rfl
theorem s_104_6 (d L n : Nat) (scr : Nat → Int32) (call : Nat → List Value → am_H → Option am_X) (lv : am_L) (st : List Value) (h : am_H) (x : Int32) : am_f d scr L call 104 (n + 1) 6 lv (.int x :: st) h = am_f d scr L call 104 n 7 (am_st1 lv 2 (.int x)) st h := k_nx (i := .istore_n 2) rfl rfl
theorem s_104_7 (d L n : Nat) (scr : Nat → Int32) (call : Nat → List Value → am_H → Option am_X) (lv : am_L) (st : List Value) (h : am_H) : am_f d scr L call 104 (n + 1) 7 lv st h = am_f d scr L call 104 n 8 lv (.int 0 :: st) h := k_nx (i := .iconst 0) rfl rfl
theorem s_104_8 (d L n : Nat) (scr : Nat → Int32) (call : Nat → List Value → am_H → Option am_X) (lv : am_L) (st : List Value) (h : am_H) (x : Int32) : am_f d scr L call 104 (n + 1) 8 lv (.int x :: st) h = am_f d scr L call 104 n 9 (am_st1 lv 3 (.int x)) st h := k_nx (i := .istore_n 3) rfl rfl
theorem s_104_9 (d L n : Nat) (scr : Nat → Int32) (call : Nat → List Value → am_H → Option am_X) (lv : am_L) (st : List Value) (h : am_H) : am_f d scr L call 104 (n + 1) 9 lv st h = (match am_ld lv 3 with
    | some (.int x) => am_f d scr L call 104 n 10 lv (.int x :: st) h
    | _ => none) := k_li (i := .iload_n 3) rfl rfl rfl rfl
theorem s_104_10 (d L n : Nat) (scr : Nat → Int32) (call : Nat → List Value → am_H → Option am_X) (lv : am_L) (st : List Value) (h : am_H) : am_f d scr L call 104 (n + 1) 10 lv st h = am_f d scr L call 104 n 13 lv (.int 400 :: st) h := k_nx (i := .sipush 400) rfl rfl
theorem s_104_13 (d L n : Nat) (scr : Nat → Int32) (call : Nat → List Value → am_H → Option am_X) (lv : am_L) (st : List Value) (h : am_H) (x y : Int32) : am_f d scr L call 104 (n + 1) 13 lv (.int y :: .int x :: st) h = if y ≤ x then am_f d scr L call 104 n 292 lv st h else am_f d scr L call 104 n 16 lv st h := k_ic_ge (o := 279) rfl ⟨by decide, rfl⟩
theorem s_104_16 (d L n : Nat) (scr : Nat → Int32) (call : Nat → List Value → am_H → Option am_X) (lv : am_L) (st : List Value) (h : am_H) : am_f d scr L call 104 (n + 1) 16 lv st h = (match am_ld lv 2 with
    | some (.int x) => am_f d scr L call 104 n 17 lv (.int x :: st) h
    | _ => none) := k_li (i := .iload_n 2) rfl rfl rfl rfl
theorem s_104_17 (d L n : Nat) (scr : Nat → Int32) (call : Nat → List Value → am_H → Option am_X) (lv : am_L) (st : List Value) (h : am_H) (x : Int32) : am_f d scr L call 104 (n + 1) 17 lv (.int x :: st) h = if 0 ≤ x then am_f d scr L call 104 n 172 lv st h else am_f d scr L call 104 n 20 lv st h := k_if_ge (o := 155) rfl ⟨by decide, rfl⟩
theorem s_104_20 (d L n : Nat) (scr : Nat → Int32) (call : Nat → List Value → am_H → Option am_X) (lv : am_L) (st : List Value) (h : am_H) : am_f d scr L call 104 (n + 1) 20 lv st h = (match am_ld lv 0 with
    | some (.ref x) => am_f d scr L call 104 n 21 lv (.ref x :: st) h
    | _ => none) := k_la (i := .aload_n 0) rfl rfl rfl rfl
theorem s_104_21 (d L n : Nat) (scr : Nat → Int32) (call : Nat → List Value → am_H → Option am_X) (lv : am_L) (st : List Value) (h : am_H) : am_f d scr L call 104 (n + 1) 21 lv st h = am_f d scr L call 104 n 22 lv (.int 0 :: st) h := k_nx (i := .iconst 0) rfl rfl
theorem s_104_22 (d L n : Nat) (scr : Nat → Int32) (call : Nat → List Value → am_H → Option am_X) (lv : am_L) (h : am_H) (o : Nat) (a0 : Int32)  : am_f d scr L call 104 (n + 1) 22 lv (.int a0 :: .ref o :: []) h = if am_at h o 8 = true then (match call 100 [.ref o, .int a0] h with
    | some (v, h', dk, dn) => am_add dk dn (am_f d scr L call 104 n 25 lv (v.toList ++ []) h')
    | none => none) else none := k_iv0 (k := 142) (as := [.int a0]) (r := []) rfl rfl rfl rfl (Nat.le_of_ble_eq_true rfl)
theorem s_104_25 (d L n : Nat) (scr : Nat → Int32) (call : Nat → List Value → am_H → Option am_X) (lv : am_L) (st : List Value) (h : am_H) (x : Int32) : am_f d scr L call 104 (n + 1) 25 lv (.int x :: st) h = am_f d scr L call 104 n 27 (am_st1 lv 4 (.int x)) st h := k_nx (i := .istore 4) rfl rfl
theorem s_104_27 (d L n : Nat) (scr : Nat → Int32) (call : Nat → List Value → am_H → Option am_X) (lv : am_L) (st : List Value) (h : am_H) : am_f d scr L call 104 (n + 1) 27 lv st h = (match am_ld lv 4 with
    | some (.int x) => am_f d scr L call 104 n 29 lv (.int x :: st) h
    | _ => none) := k_li (i := .iload 4) rfl rfl rfl rfl
theorem s_104_29 (d L n : Nat) (scr : Nat → Int32) (call : Nat → List Value → am_H → Option am_X) (lv : am_L) (st : List Value) (h : am_H) : am_f d scr L call 104 (n + 1) 29 lv st h = am_f d scr L call 104 n 31 lv (.int 105 :: st) h := k_nx (i := .bipush 105) rfl rfl
theorem s_104_31 (d L n : Nat) (scr : Nat → Int32) (call : Nat → List Value → am_H → Option am_X) (lv : am_L) (st : List Value) (h : am_H) (x y : Int32) : am_f d scr L call 104 (n + 1) 31 lv (.int y :: .int x :: st) h = if x = y then am_f d scr L call 104 n 48 lv st h else am_f d scr L call 104 n 34 lv st h := k_ic_eq (o := 17) rfl ⟨by decide, rfl⟩
theorem s_104_34 (d L n : Nat) (scr : Nat → Int32) (call : Nat → List Value → am_H → Option am_X) (lv : am_L) (st : List Value) (h : am_H) : am_f d scr L call 104 (n + 1) 34 lv st h = (match am_ld lv 4 with
    | some (.int x) => am_f d scr L call 104 n 36 lv (.int x :: st) h
    | _ => none) := k_li (i := .iload 4) rfl rfl rfl rfl
theorem s_104_36 (d L n : Nat) (scr : Nat → Int32) (call : Nat → List Value → am_H → Option am_X) (lv : am_L) (st : List Value) (h : am_H) : am_f d scr L call 104 (n + 1) 36 lv st h = am_f d scr L call 104 n 38 lv (.int 98 :: st) h := k_nx (i := .bipush 98) rfl rfl
theorem s_104_38 (d L n : Nat) (scr : Nat → Int32) (call : Nat → List Value → am_H → Option am_X) (lv : am_L) (st : List Value) (h : am_H) (x y : Int32) : am_f d scr L call 104 (n + 1) 38 lv (.int y :: .int x :: st) h = if x = y then am_f d scr L call 104 n 48 lv st h else am_f d scr L call 104 n 41 lv st h := k_ic_eq (o := 10) rfl ⟨by decide, rfl⟩
theorem s_104_41 (d L n : Nat) (scr : Nat → Int32) (call : Nat → List Value → am_H → Option am_X) (lv : am_L) (st : List Value) (h : am_H) : am_f d scr L call 104 (n + 1) 41 lv st h = (match am_ld lv 4 with
    | some (.int x) => am_f d scr L call 104 n 43 lv (.int x :: st) h
    | _ => none) := k_li (i := .iload 4) rfl rfl rfl rfl
theorem s_104_43 (d L n : Nat) (scr : Nat → Int32) (call : Nat → List Value → am_H → Option am_X) (lv : am_L) (st : List Value) (h : am_H) : am_f d scr L call 104 (n + 1) 43 lv st h = am_f d scr L call 104 n 45 lv (.int 63 :: st) h := k_nx (i := .bipush 63) rfl rfl
theorem s_104_45 (d L n : Nat) (scr : Nat → Int32) (call : Nat → List Value → am_H → Option am_X) (lv : am_L) (st : List Value) (h : am_H) (x y : Int32) : am_f d scr L call 104 (n + 1) 45 lv (.int y :: .int x :: st) h = if ¬ x = y then am_f d scr L call 104 n 52 lv st h else am_f d scr L call 104 n 48 lv st h := k_ic_ne (o := 7) rfl ⟨by decide, rfl⟩
theorem s_104_48 (d L n : Nat) (scr : Nat → Int32) (call : Nat → List Value → am_H → Option am_X) (lv : am_L) (st : List Value) (h : am_H) : am_f d scr L call 104 (n + 1) 48 lv st h = am_f d scr L call 104 n 49 lv (.int 1 :: st) h := k_nx (i := .iconst 1) rfl rfl
theorem s_104_49 (d L n : Nat) (scr : Nat → Int32) (call : Nat → List Value → am_H → Option am_X) (lv : am_L) (st : List Value) (h : am_H) : am_f d scr L call 104 (n + 1) 49 lv st h = am_f d scr L call 104 n 53 lv st h := k_nx (i := .goto 4) rfl rfl
theorem s_104_52 (d L n : Nat) (scr : Nat → Int32) (call : Nat → List Value → am_H → Option am_X) (lv : am_L) (st : List Value) (h : am_H) : am_f d scr L call 104 (n + 1) 52 lv st h = am_f d scr L call 104 n 53 lv (.int 0 :: st) h := k_nx (i := .iconst 0) rfl rfl
theorem s_104_53 (d L n : Nat) (scr : Nat → Int32) (call : Nat → List Value → am_H → Option am_X) (lv : am_L) (st : List Value) (h : am_H) (x : Int32) : am_f d scr L call 104 (n + 1) 53 lv (.int x :: st) h = am_f d scr L call 104 n 55 (am_st1 lv 5 (.int x)) st h := k_nx (i := .istore 5) rfl rfl
theorem s_104_55 (d L n : Nat) (scr : Nat → Int32) (call : Nat → List Value → am_H → Option am_X) (lv : am_L) (st : List Value) (h : am_H) : am_f d scr L call 104 (n + 1) 55 lv st h = (match am_ld lv 1 with
    | some (.int x) => am_f d scr L call 104 n 56 lv (.int x :: st) h
    | _ => none) := k_li (i := .iload_n 1) rfl rfl rfl rfl
theorem s_104_56 (d L n : Nat) (scr : Nat → Int32) (call : Nat → List Value → am_H → Option am_X) (lv : am_L) (st : List Value) (h : am_H) : am_f d scr L call 104 (n + 1) 56 lv st h = (match am_ld lv 0 with
    | some (.ref x) => am_f d scr L call 104 n 57 lv (.ref x :: st) h
    | _ => none) := k_la (i := .aload_n 0) rfl rfl rfl rfl
theorem s_104_57 (d L n : Nat) (scr : Nat → Int32) (call : Nat → List Value → am_H → Option am_X) (lv : am_L) (st : List Value) (h : am_H) (a : Nat) : am_f d scr L call 104 (n + 1) 57 lv (.ref a :: st) h = (match am_get h a 8 23 with
    | some v => am_f d scr L call 104 n 60 lv (v :: st) h
    | none => none) := k_gf (k := 146) rfl rfl
theorem s_104_60 (d L n : Nat) (scr : Nat → Int32) (call : Nat → List Value → am_H → Option am_X) (lv : am_L) (st : List Value) (h : am_H) (x y : Int32) : am_f d scr L call 104 (n + 1) 60 lv (.int y :: .int x :: st) h = am_f d scr L call 104 n 61 lv (.int (x + y) :: st) h := k_nx (i := .iadd) rfl rfl
theorem s_104_61 (d L n : Nat) (scr : Nat → Int32) (call : Nat → List Value → am_H → Option am_X) (lv : am_L) (st : List Value) (h : am_H) : am_f d scr L call 104 (n + 1) 61 lv st h = am_f d scr L call 104 n 63 lv (.int 20 :: st) h := k_nx (i := .bipush 20) rfl rfl
theorem s_104_63 (d L n : Nat) (scr : Nat → Int32) (call : Nat → List Value → am_H → Option am_X) (lv : am_L) (st : List Value) (h : am_H) (x y : Int32) : am_f d scr L call 104 (n + 1) 63 lv (.int y :: .int x :: st) h = if y < x then am_f d scr L call 104 n 85 lv st h else am_f d scr L call 104 n 66 lv st h := k_ic_gt (o := 22) rfl ⟨by decide, rfl⟩
theorem s_104_66 (d L n : Nat) (scr : Nat → Int32) (call : Nat → List Value → am_H → Option am_X) (lv : am_L) (st : List Value) (h : am_H) : am_f d scr L call 104 (n + 1) 66 lv st h = (match am_ld lv 5 with
    | some (.int x) => am_f d scr L call 104 n 68 lv (.int x :: st) h
    | _ => none) := k_li (i := .iload 5) rfl rfl rfl rfl
theorem s_104_68 (d L n : Nat) (scr : Nat → Int32) (call : Nat → List Value → am_H → Option am_X) (lv : am_L) (st : List Value) (h : am_H) (x : Int32) : am_f d scr L call 104 (n + 1) 68 lv (.int x :: st) h = if ¬ x = 0 then am_f d scr L call 104 n 87 lv st h else am_f d scr L call 104 n 71 lv st h := k_if_ne (o := 19) rfl ⟨by decide, rfl⟩
theorem s_104_71 (d L n : Nat) (scr : Nat → Int32) (call : Nat → List Value → am_H → Option am_X) (lv : am_L) (st : List Value) (h : am_H) : am_f d scr L call 104 (n + 1) 71 lv st h = (match am_ld lv 4 with
    | some (.int x) => am_f d scr L call 104 n 73 lv (.int x :: st) h
    | _ => none) := k_li (i := .iload 4) rfl rfl rfl rfl
theorem s_104_73 (d L n : Nat) (scr : Nat → Int32) (call : Nat → List Value → am_H → Option am_X) (lv : am_L) (st : List Value) (h : am_H) : am_f d scr L call 104 (n + 1) 73 lv st h = am_f d scr L call 104 n 75 lv (.int 40 :: st) h := k_nx (i := .bipush 40) rfl rfl
theorem s_104_75 (d L n : Nat) (scr : Nat → Int32) (call : Nat → List Value → am_H → Option am_X) (lv : am_L) (st : List Value) (h : am_H) (x y : Int32) : am_f d scr L call 104 (n + 1) 75 lv (.int y :: .int x :: st) h = if x = y then am_f d scr L call 104 n 87 lv st h else am_f d scr L call 104 n 78 lv st h := k_ic_eq (o := 12) rfl ⟨by decide, rfl⟩
theorem s_104_78 (d L n : Nat) (scr : Nat → Int32) (call : Nat → List Value → am_H → Option am_X) (lv : am_L) (st : List Value) (h : am_H) : am_f d scr L call 104 (n + 1) 78 lv st h = (match am_ld lv 4 with
    | some (.int x) => am_f d scr L call 104 n 80 lv (.int x :: st) h
    | _ => none) := k_li (i := .iload 4) rfl rfl rfl rfl
theorem s_104_80 (d L n : Nat) (scr : Nat → Int32) (call : Nat → List Value → am_H → Option am_X) (lv : am_L) (st : List Value) (h : am_H) : am_f d scr L call 104 (n + 1) 80 lv st h = am_f d scr L call 104 n 82 lv (.int 38 :: st) h := k_nx (i := .bipush 38) rfl rfl
theorem s_104_82 (d L n : Nat) (scr : Nat → Int32) (call : Nat → List Value → am_H → Option am_X) (lv : am_L) (st : List Value) (h : am_H) (x y : Int32) : am_f d scr L call 104 (n + 1) 82 lv (.int y :: .int x :: st) h = if x = y then am_f d scr L call 104 n 87 lv st h else am_f d scr L call 104 n 85 lv st h := k_ic_eq (o := 5) rfl ⟨by decide, rfl⟩
theorem s_104_85 (d L n : Nat) (scr : Nat → Int32) (call : Nat → List Value → am_H → Option am_X) (lv : am_L) (st : List Value) (h : am_H) : am_f d scr L call 104 (n + 1) 85 lv st h = am_f d scr L call 104 n 86 lv (.int (-1) :: st) h := k_nx (i := .iconst (-1)) rfl rfl
theorem s_104_86 (d L n : Nat) (scr : Nat → Int32) (call : Nat → List Value → am_H → Option am_X) (lv : am_L) (h : am_H) (x : Int32) : am_f d scr L call 104 (n + 1) 86 lv [.int x] h = some (some (.int x), h, 0, 0) := k_ir rfl rfl
theorem s_104_87 (d L n : Nat) (scr : Nat → Int32) (call : Nat → List Value → am_H → Option am_X) (lv : am_L) (st : List Value) (h : am_H) : am_f d scr L call 104 (n + 1) 87 lv st h = (match am_ld lv 0 with
    | some (.ref x) => am_f d scr L call 104 n 88 lv (.ref x :: st) h
    | _ => none) := k_la (i := .aload_n 0) rfl rfl rfl rfl
theorem s_104_88 (d L n : Nat) (scr : Nat → Int32) (call : Nat → List Value → am_H → Option am_X) (lv : am_L) (st : List Value) (h : am_H) (x : Nat) : am_f d scr L call 104 (n + 1) 88 lv (.ref x :: st) h = am_f d scr L call 104 n 89 lv (.ref x :: .ref x :: st) h := k_nx (i := .dup) rfl rfl
theorem s_104_89 (d L n : Nat) (scr : Nat → Int32) (call : Nat → List Value → am_H → Option am_X) (lv : am_L) (st : List Value) (h : am_H) (a : Nat) : am_f d scr L call 104 (n + 1) 89 lv (.ref a :: st) h = (match am_get h a 8 20 with
    | some v => am_f d scr L call 104 n 92 lv (v :: st) h
    | none => none) := k_gf (k := 139) rfl rfl
theorem s_104_92 (d L n : Nat) (scr : Nat → Int32) (call : Nat → List Value → am_H → Option am_X) (lv : am_L) (st : List Value) (h : am_H) : am_f d scr L call 104 (n + 1) 92 lv st h = am_f d scr L call 104 n 93 lv (.int 1 :: st) h := k_nx (i := .iconst 1) rfl rfl
theorem s_104_93 (d L n : Nat) (scr : Nat → Int32) (call : Nat → List Value → am_H → Option am_X) (lv : am_L) (st : List Value) (h : am_H) (x y : Int32) : am_f d scr L call 104 (n + 1) 93 lv (.int y :: .int x :: st) h = am_f d scr L call 104 n 94 lv (.int (x + y) :: st) h := k_nx (i := .iadd) rfl rfl
theorem s_104_94 (d L n : Nat) (scr : Nat → Int32) (call : Nat → List Value → am_H → Option am_X) (lv : am_L) (st : List Value) (h : am_H) (x : Int32) (a : Nat) : am_f d scr L call 104 (n + 1) 94 lv (.int x :: .ref a :: st) h = (match am_put h a 8 20 (.int x) with
    | some h' => am_f d scr L call 104 n 97 lv st h'
    | none => none) := k_pf (k := 139) rfl rfl rfl
theorem s_104_97 (d L n : Nat) (scr : Nat → Int32) (call : Nat → List Value → am_H → Option am_X) (lv : am_L) (st : List Value) (h : am_H) : am_f d scr L call 104 (n + 1) 97 lv st h = (match am_ld lv 4 with
    | some (.int x) => am_f d scr L call 104 n 99 lv (.int x :: st) h
    | _ => none) := k_li (i := .iload 4) rfl rfl rfl rfl
theorem s_104_99 (d L n : Nat) (scr : Nat → Int32) (call : Nat → List Value → am_H → Option am_X) (lv : am_L) (st : List Value) (h : am_H) : am_f d scr L call 104 (n + 1) 99 lv st h = am_f d scr L call 104 n 101 lv (.int 105 :: st) h := k_nx (i := .bipush 105) rfl rfl
theorem s_104_101 (d L n : Nat) (scr : Nat → Int32) (call : Nat → List Value → am_H → Option am_X) (lv : am_L) (st : List Value) (h : am_H) (x y : Int32) : am_f d scr L call 104 (n + 1) 101 lv (.int y :: .int x :: st) h = if ¬ x = y then am_f d scr L call 104 n 108 lv st h else am_f d scr L call 104 n 104 lv st h := k_ic_ne (o := 7) rfl ⟨by decide, rfl⟩
theorem s_104_104 (d L n : Nat) (scr : Nat → Int32) (call : Nat → List Value → am_H → Option am_X) (lv : am_L) (st : List Value) (h : am_H) : am_f d scr L call 104 (n + 1) 104 lv st h = am_f d scr L call 104 n 105 lv (.int 0 :: st) h := k_nx (i := .iconst 0) rfl rfl
theorem s_104_105 (d L n : Nat) (scr : Nat → Int32) (call : Nat → List Value → am_H → Option am_X) (lv : am_L) (st : List Value) (h : am_H) : am_f d scr L call 104 (n + 1) 105 lv st h = am_f d scr L call 104 n 131 lv st h := k_nx (i := .goto 26) rfl rfl
theorem s_104_108 (d L n : Nat) (scr : Nat → Int32) (call : Nat → List Value → am_H → Option am_X) (lv : am_L) (st : List Value) (h : am_H) : am_f d scr L call 104 (n + 1) 108 lv st h = (match am_ld lv 4 with
    | some (.int x) => am_f d scr L call 104 n 110 lv (.int x :: st) h
    | _ => none) := k_li (i := .iload 4) rfl rfl rfl rfl
theorem s_104_110 (d L n : Nat) (scr : Nat → Int32) (call : Nat → List Value → am_H → Option am_X) (lv : am_L) (st : List Value) (h : am_H) : am_f d scr L call 104 (n + 1) 110 lv st h = am_f d scr L call 104 n 112 lv (.int 98 :: st) h := k_nx (i := .bipush 98) rfl rfl
theorem s_104_112 (d L n : Nat) (scr : Nat → Int32) (call : Nat → List Value → am_H → Option am_X) (lv : am_L) (st : List Value) (h : am_H) (x y : Int32) : am_f d scr L call 104 (n + 1) 112 lv (.int y :: .int x :: st) h = if ¬ x = y then am_f d scr L call 104 n 119 lv st h else am_f d scr L call 104 n 115 lv st h := k_ic_ne (o := 7) rfl ⟨by decide, rfl⟩
theorem s_104_115 (d L n : Nat) (scr : Nat → Int32) (call : Nat → List Value → am_H → Option am_X) (lv : am_L) (st : List Value) (h : am_H) : am_f d scr L call 104 (n + 1) 115 lv st h = am_f d scr L call 104 n 116 lv (.int 1 :: st) h := k_nx (i := .iconst 1) rfl rfl
theorem s_104_116 (d L n : Nat) (scr : Nat → Int32) (call : Nat → List Value → am_H → Option am_X) (lv : am_L) (st : List Value) (h : am_H) : am_f d scr L call 104 (n + 1) 116 lv st h = am_f d scr L call 104 n 131 lv st h := k_nx (i := .goto 15) rfl rfl
theorem s_104_119 (d L n : Nat) (scr : Nat → Int32) (call : Nat → List Value → am_H → Option am_X) (lv : am_L) (st : List Value) (h : am_H) : am_f d scr L call 104 (n + 1) 119 lv st h = (match am_ld lv 4 with
    | some (.int x) => am_f d scr L call 104 n 121 lv (.int x :: st) h
    | _ => none) := k_li (i := .iload 4) rfl rfl rfl rfl
theorem s_104_121 (d L n : Nat) (scr : Nat → Int32) (call : Nat → List Value → am_H → Option am_X) (lv : am_L) (st : List Value) (h : am_H) : am_f d scr L call 104 (n + 1) 121 lv st h = am_f d scr L call 104 n 123 lv (.int 63 :: st) h := k_nx (i := .bipush 63) rfl rfl
theorem s_104_123 (d L n : Nat) (scr : Nat → Int32) (call : Nat → List Value → am_H → Option am_X) (lv : am_L) (st : List Value) (h : am_H) (x y : Int32) : am_f d scr L call 104 (n + 1) 123 lv (.int y :: .int x :: st) h = if ¬ x = y then am_f d scr L call 104 n 130 lv st h else am_f d scr L call 104 n 126 lv st h := k_ic_ne (o := 7) rfl ⟨by decide, rfl⟩
theorem s_104_126 (d L n : Nat) (scr : Nat → Int32) (call : Nat → List Value → am_H → Option am_X) (lv : am_L) (st : List Value) (h : am_H) : am_f d scr L call 104 (n + 1) 126 lv st h = am_f d scr L call 104 n 127 lv (.int 2 :: st) h := k_nx (i := .iconst 2) rfl rfl
theorem s_104_127 (d L n : Nat) (scr : Nat → Int32) (call : Nat → List Value → am_H → Option am_X) (lv : am_L) (st : List Value) (h : am_H) : am_f d scr L call 104 (n + 1) 127 lv st h = am_f d scr L call 104 n 131 lv st h := k_nx (i := .goto 4) rfl rfl
theorem s_104_130 (d L n : Nat) (scr : Nat → Int32) (call : Nat → List Value → am_H → Option am_X) (lv : am_L) (st : List Value) (h : am_H) : am_f d scr L call 104 (n + 1) 130 lv st h = am_f d scr L call 104 n 131 lv (.int (-1) :: st) h := k_nx (i := .iconst (-1)) rfl rfl
theorem s_104_131 (d L n : Nat) (scr : Nat → Int32) (call : Nat → List Value → am_H → Option am_X) (lv : am_L) (st : List Value) (h : am_H) (x : Int32) : am_f d scr L call 104 (n + 1) 131 lv (.int x :: st) h = am_f d scr L call 104 n 132 (am_st1 lv 2 (.int x)) st h := k_nx (i := .istore_n 2) rfl rfl
theorem s_104_132 (d L n : Nat) (scr : Nat → Int32) (call : Nat → List Value → am_H → Option am_X) (lv : am_L) (st : List Value) (h : am_H) : am_f d scr L call 104 (n + 1) 132 lv st h = (match am_ld lv 5 with
    | some (.int x) => am_f d scr L call 104 n 134 lv (.int x :: st) h
    | _ => none) := k_li (i := .iload 5) rfl rfl rfl rfl
theorem s_104_134 (d L n : Nat) (scr : Nat → Int32) (call : Nat → List Value → am_H → Option am_X) (lv : am_L) (st : List Value) (h : am_H) (x : Int32) : am_f d scr L call 104 (n + 1) 134 lv (.int x :: st) h = if ¬ x = 0 then am_f d scr L call 104 n 169 lv st h else am_f d scr L call 104 n 137 lv st h := k_if_ne (o := 35) rfl ⟨by decide, rfl⟩
theorem s_104_137 (d L n : Nat) (scr : Nat → Int32) (call : Nat → List Value → am_H → Option am_X) (lv : am_L) (st : List Value) (h : am_H) : am_f d scr L call 104 (n + 1) 137 lv st h = (match am_ld lv 0 with
    | some (.ref x) => am_f d scr L call 104 n 138 lv (.ref x :: st) h
    | _ => none) := k_la (i := .aload_n 0) rfl rfl rfl rfl
theorem s_104_138 (d L n : Nat) (scr : Nat → Int32) (call : Nat → List Value → am_H → Option am_X) (lv : am_L) (st : List Value) (h : am_H) (a : Nat) : am_f d scr L call 104 (n + 1) 138 lv (.ref a :: st) h = (match am_get h a 8 24 with
    | some v => am_f d scr L call 104 n 141 lv (v :: st) h
    | none => none) := k_gf (k := 56) rfl rfl
theorem s_104_141 (d L n : Nat) (scr : Nat → Int32) (call : Nat → List Value → am_H → Option am_X) (lv : am_L) (st : List Value) (h : am_H) : am_f d scr L call 104 (n + 1) 141 lv st h = (match am_ld lv 0 with
    | some (.ref x) => am_f d scr L call 104 n 142 lv (.ref x :: st) h
    | _ => none) := k_la (i := .aload_n 0) rfl rfl rfl rfl
theorem s_104_142 (d L n : Nat) (scr : Nat → Int32) (call : Nat → List Value → am_H → Option am_X) (lv : am_L) (st : List Value) (h : am_H) (a : Nat) : am_f d scr L call 104 (n + 1) 142 lv (.ref a :: st) h = (match am_get h a 8 23 with
    | some v => am_f d scr L call 104 n 145 lv (v :: st) h
    | none => none) := k_gf (k := 146) rfl rfl
theorem s_104_145 (d L n : Nat) (scr : Nat → Int32) (call : Nat → List Value → am_H → Option am_X) (lv : am_L) (st : List Value) (h : am_H) : am_f d scr L call 104 (n + 1) 145 lv st h = (match am_ld lv 4 with
    | some (.int x) => am_f d scr L call 104 n 147 lv (.int x :: st) h
    | _ => none) := k_li (i := .iload 4) rfl rfl rfl rfl
theorem s_104_147 (d L n : Nat) (scr : Nat → Int32) (call : Nat → List Value → am_H → Option am_X) (lv : am_L) (st : List Value) (h : am_H) : am_f d scr L call 104 (n + 1) 147 lv st h = am_f d scr L call 104 n 149 lv (.int 38 :: st) h := k_nx (i := .bipush 38) rfl rfl
theorem s_104_149 (d L n : Nat) (scr : Nat → Int32) (call : Nat → List Value → am_H → Option am_X) (lv : am_L) (st : List Value) (h : am_H) (x y : Int32) : am_f d scr L call 104 (n + 1) 149 lv (.int y :: .int x :: st) h = if ¬ x = y then am_f d scr L call 104 n 157 lv st h else am_f d scr L call 104 n 152 lv st h := k_ic_ne (o := 8) rfl ⟨by decide, rfl⟩
theorem s_104_152 (d L n : Nat) (scr : Nat → Int32) (call : Nat → List Value → am_H → Option am_X) (lv : am_L) (st : List Value) (h : am_H) : am_f d scr L call 104 (n + 1) 152 lv st h = am_f d scr L call 104 n 154 lv (.int (-2) :: st) h := k_nx (i := .bipush (-2)) rfl rfl
theorem s_104_154 (d L n : Nat) (scr : Nat → Int32) (call : Nat → List Value → am_H → Option am_X) (lv : am_L) (st : List Value) (h : am_H) : am_f d scr L call 104 (n + 1) 154 lv st h = am_f d scr L call 104 n 158 lv st h := k_nx (i := .goto 4) rfl rfl
theorem s_104_157 (d L n : Nat) (scr : Nat → Int32) (call : Nat → List Value → am_H → Option am_X) (lv : am_L) (st : List Value) (h : am_H) : am_f d scr L call 104 (n + 1) 157 lv st h = am_f d scr L call 104 n 158 lv (.int (-1) :: st) h := k_nx (i := .iconst (-1)) rfl rfl
theorem s_104_158 (d L n : Nat) (scr : Nat → Int32) (call : Nat → List Value → am_H → Option am_X) (lv : am_L) (st : List Value) (h : am_H) (a : Nat) (i : Int32) (x : Int32) : am_f d scr L call 104 (n + 1) 158 lv (.int x :: .int i :: .ref a :: st) h = (match am_ist h a i x with
    | some h' => am_f d scr L call 104 n 159 lv st h'
    | none => none) := k_is rfl
set_option maxRecDepth 100000 in
theorem s_104_159 (d L n : Nat) (scr : Nat → Int32) (call : Nat → List Value → am_H → Option am_X) (lv : am_L) (st : List Value) (h : am_H) : am_f d scr L call 104 (n + 1) 159 lv st h = (match am_ld lv 0 with
    | some (.ref x) => am_f d scr L call 104 n 160 lv (.ref x :: st) h
    | _ => none) := k_la (i := .aload_n 0) rfl rfl rfl rfl
set_option maxRecDepth 100000 in
theorem s_104_160 (d L n : Nat) (scr : Nat → Int32) (call : Nat → List Value → am_H → Option am_X) (lv : am_L) (st : List Value) (h : am_H) (x : Nat) : am_f d scr L call 104 (n + 1) 160 lv (.ref x :: st) h = am_f d scr L call 104 n 161 lv (.ref x :: .ref x :: st) h := k_nx (i := .dup) rfl rfl
set_option maxRecDepth 100000 in
theorem s_104_161 (d L n : Nat) (scr : Nat → Int32) (call : Nat → List Value → am_H → Option am_X) (lv : am_L) (st : List Value) (h : am_H) (a : Nat) : am_f d scr L call 104 (n + 1) 161 lv (.ref a :: st) h = (match am_get h a 8 23 with
    | some v => am_f d scr L call 104 n 164 lv (v :: st) h
    | none => none) := k_gf (k := 146) rfl rfl
set_option maxRecDepth 100000 in
theorem s_104_164 (d L n : Nat) (scr : Nat → Int32) (call : Nat → List Value → am_H → Option am_X) (lv : am_L) (st : List Value) (h : am_H) : am_f d scr L call 104 (n + 1) 164 lv st h = am_f d scr L call 104 n 165 lv (.int 1 :: st) h := k_nx (i := .iconst 1) rfl rfl
set_option maxRecDepth 100000 in
theorem s_104_165 (d L n : Nat) (scr : Nat → Int32) (call : Nat → List Value → am_H → Option am_X) (lv : am_L) (st : List Value) (h : am_H) (x y : Int32) : am_f d scr L call 104 (n + 1) 165 lv (.int y :: .int x :: st) h = am_f d scr L call 104 n 166 lv (.int (x + y) :: st) h := k_nx (i := .iadd) rfl rfl
set_option maxRecDepth 100000 in
theorem s_104_166 (d L n : Nat) (scr : Nat → Int32) (call : Nat → List Value → am_H → Option am_X) (lv : am_L) (st : List Value) (h : am_H) (x : Int32) (a : Nat) : am_f d scr L call 104 (n + 1) 166 lv (.int x :: .ref a :: st) h = (match am_put h a 8 23 (.int x) with
    | some h' => am_f d scr L call 104 n 169 lv st h'
    | none => none) := k_pf (k := 146) rfl rfl rfl
set_option maxRecDepth 100000 in
theorem s_104_169 (d L n : Nat) (scr : Nat → Int32) (call : Nat → List Value → am_H → Option am_X) (lv : am_L) (st : List Value) (h : am_H) : am_f d scr L call 104 (n + 1) 169 lv st h = am_f d scr L call 104 n 286 lv st h := k_nx (i := .goto 117) rfl rfl
set_option maxRecDepth 100000 in
theorem s_104_172 (d L n : Nat) (scr : Nat → Int32) (call : Nat → List Value → am_H → Option am_X) (lv : am_L) (st : List Value) (h : am_H) : am_f d scr L call 104 (n + 1) 172 lv st h = (match am_ld lv 0 with
    | some (.ref x) => am_f d scr L call 104 n 173 lv (.ref x :: st) h
    | _ => none) := k_la (i := .aload_n 0) rfl rfl rfl rfl
set_option maxRecDepth 100000 in
theorem s_104_173 (d L n : Nat) (scr : Nat → Int32) (call : Nat → List Value → am_H → Option am_X) (lv : am_L) (st : List Value) (h : am_H) (a : Nat) : am_f d scr L call 104 (n + 1) 173 lv (.ref a :: st) h = (match am_get h a 8 23 with
    | some v => am_f d scr L call 104 n 176 lv (v :: st) h
    | none => none) := k_gf (k := 146) rfl rfl
set_option maxRecDepth 100000 in
theorem s_104_176 (d L n : Nat) (scr : Nat → Int32) (call : Nat → List Value → am_H → Option am_X) (lv : am_L) (st : List Value) (h : am_H) (x : Int32) : am_f d scr L call 104 (n + 1) 176 lv (.int x :: st) h = if ¬ x = 0 then am_f d scr L call 104 n 181 lv st h else am_f d scr L call 104 n 179 lv st h := k_if_ne (o := 5) rfl ⟨by decide, rfl⟩
set_option maxRecDepth 100000 in
theorem s_104_179 (d L n : Nat) (scr : Nat → Int32) (call : Nat → List Value → am_H → Option am_X) (lv : am_L) (st : List Value) (h : am_H) : am_f d scr L call 104 (n + 1) 179 lv st h = (match am_ld lv 2 with
    | some (.int x) => am_f d scr L call 104 n 180 lv (.int x :: st) h
    | _ => none) := k_li (i := .iload_n 2) rfl rfl rfl rfl
set_option maxRecDepth 100000 in
theorem s_104_180 (d L n : Nat) (scr : Nat → Int32) (call : Nat → List Value → am_H → Option am_X) (lv : am_L) (h : am_H) (x : Int32) : am_f d scr L call 104 (n + 1) 180 lv [.int x] h = some (some (.int x), h, 0, 0) := k_ir rfl rfl
set_option maxRecDepth 100000 in
theorem s_104_181 (d L n : Nat) (scr : Nat → Int32) (call : Nat → List Value → am_H → Option am_X) (lv : am_L) (st : List Value) (h : am_H) : am_f d scr L call 104 (n + 1) 181 lv st h = (match am_ld lv 0 with
    | some (.ref x) => am_f d scr L call 104 n 182 lv (.ref x :: st) h
    | _ => none) := k_la (i := .aload_n 0) rfl rfl rfl rfl
set_option maxRecDepth 100000 in
theorem s_104_182 (d L n : Nat) (scr : Nat → Int32) (call : Nat → List Value → am_H → Option am_X) (lv : am_L) (st : List Value) (h : am_H) (a : Nat) : am_f d scr L call 104 (n + 1) 182 lv (.ref a :: st) h = (match am_get h a 8 24 with
    | some v => am_f d scr L call 104 n 185 lv (v :: st) h
    | none => none) := k_gf (k := 56) rfl rfl
set_option maxRecDepth 100000 in
theorem s_104_185 (d L n : Nat) (scr : Nat → Int32) (call : Nat → List Value → am_H → Option am_X) (lv : am_L) (st : List Value) (h : am_H) : am_f d scr L call 104 (n + 1) 185 lv st h = (match am_ld lv 0 with
    | some (.ref x) => am_f d scr L call 104 n 186 lv (.ref x :: st) h
    | _ => none) := k_la (i := .aload_n 0) rfl rfl rfl rfl
set_option maxRecDepth 100000 in
theorem s_104_186 (d L n : Nat) (scr : Nat → Int32) (call : Nat → List Value → am_H → Option am_X) (lv : am_L) (st : List Value) (h : am_H) (a : Nat) : am_f d scr L call 104 (n + 1) 186 lv (.ref a :: st) h = (match am_get h a 8 23 with
    | some v => am_f d scr L call 104 n 189 lv (v :: st) h
    | none => none) := k_gf (k := 146) rfl rfl
set_option maxRecDepth 100000 in
theorem s_104_189 (d L n : Nat) (scr : Nat → Int32) (call : Nat → List Value → am_H → Option am_X) (lv : am_L) (st : List Value) (h : am_H) : am_f d scr L call 104 (n + 1) 189 lv st h = am_f d scr L call 104 n 190 lv (.int 1 :: st) h := k_nx (i := .iconst 1) rfl rfl
set_option maxRecDepth 100000 in
theorem s_104_190 (d L n : Nat) (scr : Nat → Int32) (call : Nat → List Value → am_H → Option am_X) (lv : am_L) (st : List Value) (h : am_H) (x y : Int32) : am_f d scr L call 104 (n + 1) 190 lv (.int y :: .int x :: st) h = am_f d scr L call 104 n 191 lv (.int (x - y) :: st) h := k_nx (i := .isub) rfl rfl
set_option maxRecDepth 100000 in
theorem s_104_191 (d L n : Nat) (scr : Nat → Int32) (call : Nat → List Value → am_H → Option am_X) (lv : am_L) (st : List Value) (h : am_H) (a : Nat) (i : Int32) : am_f d scr L call 104 (n + 1) 191 lv (.int i :: .ref a :: st) h = (match am_ild scr L h a i with
    | some x => am_f d scr L call 104 n 192 lv (.int x :: st) h
    | none => none) := k_ia rfl
set_option maxRecDepth 100000 in
theorem s_104_192 (d L n : Nat) (scr : Nat → Int32) (call : Nat → List Value → am_H → Option am_X) (lv : am_L) (st : List Value) (h : am_H) (x : Int32) : am_f d scr L call 104 (n + 1) 192 lv (.int x :: st) h = am_f d scr L call 104 n 194 (am_st1 lv 4 (.int x)) st h := k_nx (i := .istore 4) rfl rfl
set_option maxRecDepth 100000 in
theorem s_104_194 (d L n : Nat) (scr : Nat → Int32) (call : Nat → List Value → am_H → Option am_X) (lv : am_L) (st : List Value) (h : am_H) : am_f d scr L call 104 (n + 1) 194 lv st h = (match am_ld lv 4 with
    | some (.int x) => am_f d scr L call 104 n 196 lv (.int x :: st) h
    | _ => none) := k_li (i := .iload 4) rfl rfl rfl rfl
set_option maxRecDepth 100000 in
theorem s_104_196 (d L n : Nat) (scr : Nat → Int32) (call : Nat → List Value → am_H → Option am_X) (lv : am_L) (st : List Value) (h : am_H) : am_f d scr L call 104 (n + 1) 196 lv st h = am_f d scr L call 104 n 198 lv (.int (-2) :: st) h := k_nx (i := .bipush (-2)) rfl rfl
set_option maxRecDepth 100000 in
theorem s_104_198 (d L n : Nat) (scr : Nat → Int32) (call : Nat → List Value → am_H → Option am_X) (lv : am_L) (st : List Value) (h : am_H) (x y : Int32) : am_f d scr L call 104 (n + 1) 198 lv (.int y :: .int x :: st) h = if ¬ x = y then am_f d scr L call 104 n 222 lv st h else am_f d scr L call 104 n 201 lv st h := k_ic_ne (o := 24) rfl ⟨by decide, rfl⟩
set_option maxRecDepth 100000 in
theorem s_104_201 (d L n : Nat) (scr : Nat → Int32) (call : Nat → List Value → am_H → Option am_X) (lv : am_L) (st : List Value) (h : am_H) : am_f d scr L call 104 (n + 1) 201 lv st h = (match am_ld lv 0 with
    | some (.ref x) => am_f d scr L call 104 n 202 lv (.ref x :: st) h
    | _ => none) := k_la (i := .aload_n 0) rfl rfl rfl rfl
set_option maxRecDepth 100000 in
theorem s_104_202 (d L n : Nat) (scr : Nat → Int32) (call : Nat → List Value → am_H → Option am_X) (lv : am_L) (st : List Value) (h : am_H) : am_f d scr L call 104 (n + 1) 202 lv st h = am_f d scr L call 104 n 203 lv (.int 4 :: st) h := k_nx (i := .iconst 4) rfl rfl
set_option maxRecDepth 100000 in
theorem s_104_203 (d L n : Nat) (scr : Nat → Int32) (call : Nat → List Value → am_H → Option am_X) (lv : am_L) (st : List Value) (h : am_H) : am_f d scr L call 104 (n + 1) 203 lv st h = (match am_ld lv 2 with
    | some (.int x) => am_f d scr L call 104 n 204 lv (.int x :: st) h
    | _ => none) := k_li (i := .iload_n 2) rfl rfl rfl rfl
set_option maxRecDepth 100000 in
theorem s_104_204 (d L n : Nat) (scr : Nat → Int32) (call : Nat → List Value → am_H → Option am_X) (lv : am_L) (st : List Value) (h : am_H) : am_f d scr L call 104 (n + 1) 204 lv st h = am_f d scr L call 104 n 205 lv (.int 0 :: st) h := k_nx (i := .iconst 0) rfl rfl
set_option maxRecDepth 100000 in
theorem s_104_205 (d L n : Nat) (scr : Nat → Int32) (call : Nat → List Value → am_H → Option am_X) (lv : am_L) (h : am_H) (o : Nat) (a0 : Int32) (a1 : Int32) (a2 : Int32)  : am_f d scr L call 104 (n + 1) 205 lv (.int a2 :: .int a1 :: .int a0 :: .ref o :: []) h = if am_at h o 8 = true then (match call 95 [.ref o, .int a0, .int a1, .int a2] h with
    | some (v, h', dk, dn) => am_add dk dn (am_f d scr L call 104 n 208 lv (v.toList ++ []) h')
    | none => none) else none := k_iv0 (k := 149) (as := [.int a0, .int a1, .int a2]) (r := []) rfl rfl rfl rfl (Nat.le_of_ble_eq_true rfl)
set_option maxRecDepth 100000 in
theorem s_104_208 (d L n : Nat) (scr : Nat → Int32) (call : Nat → List Value → am_H → Option am_X) (lv : am_L) (st : List Value) (h : am_H) (x : Int32) : am_f d scr L call 104 (n + 1) 208 lv (.int x :: st) h = am_f d scr L call 104 n 209 (am_st1 lv 2 (.int x)) st h := k_nx (i := .istore_n 2) rfl rfl
set_option maxRecDepth 100000 in
theorem s_104_209 (d L n : Nat) (scr : Nat → Int32) (call : Nat → List Value → am_H → Option am_X) (lv : am_L) (st : List Value) (h : am_H) : am_f d scr L call 104 (n + 1) 209 lv st h = (match am_ld lv 0 with
    | some (.ref x) => am_f d scr L call 104 n 210 lv (.ref x :: st) h
    | _ => none) := k_la (i := .aload_n 0) rfl rfl rfl rfl
set_option maxRecDepth 100000 in
theorem s_104_210 (d L n : Nat) (scr : Nat → Int32) (call : Nat → List Value → am_H → Option am_X) (lv : am_L) (st : List Value) (h : am_H) (x : Nat) : am_f d scr L call 104 (n + 1) 210 lv (.ref x :: st) h = am_f d scr L call 104 n 211 lv (.ref x :: .ref x :: st) h := k_nx (i := .dup) rfl rfl
set_option maxRecDepth 100000 in
theorem s_104_211 (d L n : Nat) (scr : Nat → Int32) (call : Nat → List Value → am_H → Option am_X) (lv : am_L) (st : List Value) (h : am_H) (a : Nat) : am_f d scr L call 104 (n + 1) 211 lv (.ref a :: st) h = (match am_get h a 8 23 with
    | some v => am_f d scr L call 104 n 214 lv (v :: st) h
    | none => none) := k_gf (k := 146) rfl rfl
set_option maxRecDepth 100000 in
theorem s_104_214 (d L n : Nat) (scr : Nat → Int32) (call : Nat → List Value → am_H → Option am_X) (lv : am_L) (st : List Value) (h : am_H) : am_f d scr L call 104 (n + 1) 214 lv st h = am_f d scr L call 104 n 215 lv (.int 1 :: st) h := k_nx (i := .iconst 1) rfl rfl
set_option maxRecDepth 100000 in
theorem s_104_215 (d L n : Nat) (scr : Nat → Int32) (call : Nat → List Value → am_H → Option am_X) (lv : am_L) (st : List Value) (h : am_H) (x y : Int32) : am_f d scr L call 104 (n + 1) 215 lv (.int y :: .int x :: st) h = am_f d scr L call 104 n 216 lv (.int (x - y) :: st) h := k_nx (i := .isub) rfl rfl
set_option maxRecDepth 100000 in
theorem s_104_216 (d L n : Nat) (scr : Nat → Int32) (call : Nat → List Value → am_H → Option am_X) (lv : am_L) (st : List Value) (h : am_H) (x : Int32) (a : Nat) : am_f d scr L call 104 (n + 1) 216 lv (.int x :: .ref a :: st) h = (match am_put h a 8 23 (.int x) with
    | some h' => am_f d scr L call 104 n 219 lv st h'
    | none => none) := k_pf (k := 146) rfl rfl rfl
set_option maxRecDepth 100000 in
theorem s_104_219 (d L n : Nat) (scr : Nat → Int32) (call : Nat → List Value → am_H → Option am_X) (lv : am_L) (st : List Value) (h : am_H) : am_f d scr L call 104 (n + 1) 219 lv st h = am_f d scr L call 104 n 286 lv st h := k_nx (i := .goto 67) rfl rfl
set_option maxRecDepth 100000 in
theorem s_104_222 (d L n : Nat) (scr : Nat → Int32) (call : Nat → List Value → am_H → Option am_X) (lv : am_L) (st : List Value) (h : am_H) : am_f d scr L call 104 (n + 1) 222 lv st h = (match am_ld lv 4 with
    | some (.int x) => am_f d scr L call 104 n 224 lv (.int x :: st) h
    | _ => none) := k_li (i := .iload 4) rfl rfl rfl rfl
set_option maxRecDepth 100000 in
theorem s_104_224 (d L n : Nat) (scr : Nat → Int32) (call : Nat → List Value → am_H → Option am_X) (lv : am_L) (st : List Value) (h : am_H) : am_f d scr L call 104 (n + 1) 224 lv st h = am_f d scr L call 104 n 225 lv (.int (-1) :: st) h := k_nx (i := .iconst (-1)) rfl rfl
set_option maxRecDepth 100000 in
theorem s_104_225 (d L n : Nat) (scr : Nat → Int32) (call : Nat → List Value → am_H → Option am_X) (lv : am_L) (st : List Value) (h : am_H) (x y : Int32) : am_f d scr L call 104 (n + 1) 225 lv (.int y :: .int x :: st) h = if ¬ x = y then am_f d scr L call 104 n 256 lv st h else am_f d scr L call 104 n 228 lv st h := k_ic_ne (o := 31) rfl ⟨by decide, rfl⟩
set_option maxRecDepth 100000 in
theorem s_104_228 (d L n : Nat) (scr : Nat → Int32) (call : Nat → List Value → am_H → Option am_X) (lv : am_L) (st : List Value) (h : am_H) : am_f d scr L call 104 (n + 1) 228 lv st h = (match am_ld lv 0 with
    | some (.ref x) => am_f d scr L call 104 n 229 lv (.ref x :: st) h
    | _ => none) := k_la (i := .aload_n 0) rfl rfl rfl rfl
set_option maxRecDepth 100000 in
theorem s_104_229 (d L n : Nat) (scr : Nat → Int32) (call : Nat → List Value → am_H → Option am_X) (lv : am_L) (st : List Value) (h : am_H) : am_f d scr L call 104 (n + 1) 229 lv st h = am_f d scr L call 104 n 231 lv (.int 62 :: st) h := k_nx (i := .bipush 62) rfl rfl
set_option maxRecDepth 100000 in
theorem s_104_231 (d L n : Nat) (scr : Nat → Int32) (call : Nat → List Value → am_H → Option am_X) (lv : am_L) (h : am_H) (o : Nat) (a0 : Int32)  : am_f d scr L call 104 (n + 1) 231 lv (.int a0 :: .ref o :: []) h = if am_at h o 8 = true then (match call 101 [.ref o, .int a0] h with
    | some (v, h', dk, dn) => am_add dk dn (am_f d scr L call 104 n 234 lv (v.toList ++ []) h')
    | none => none) else none := k_iv0 (k := 153) (as := [.int a0]) (r := []) rfl rfl rfl rfl (Nat.le_of_ble_eq_true rfl)
set_option maxRecDepth 100000 in
theorem s_104_234 (d L n : Nat) (scr : Nat → Int32) (call : Nat → List Value → am_H → Option am_X) (lv : am_L) (st : List Value) (h : am_H) (x : Int32) : am_f d scr L call 104 (n + 1) 234 lv (.int x :: st) h = if ¬ x = 0 then am_f d scr L call 104 n 239 lv st h else am_f d scr L call 104 n 237 lv st h := k_if_ne (o := 5) rfl ⟨by decide, rfl⟩
set_option maxRecDepth 100000 in
theorem s_104_237 (d L n : Nat) (scr : Nat → Int32) (call : Nat → List Value → am_H → Option am_X) (lv : am_L) (st : List Value) (h : am_H) : am_f d scr L call 104 (n + 1) 237 lv st h = am_f d scr L call 104 n 238 lv (.int (-1) :: st) h := k_nx (i := .iconst (-1)) rfl rfl
set_option maxRecDepth 100000 in
theorem s_104_238 (d L n : Nat) (scr : Nat → Int32) (call : Nat → List Value → am_H → Option am_X) (lv : am_L) (h : am_H) (x : Int32) : am_f d scr L call 104 (n + 1) 238 lv [.int x] h = some (some (.int x), h, 0, 0) := k_ir rfl rfl
set_option maxRecDepth 100000 in
theorem s_104_239 (d L n : Nat) (scr : Nat → Int32) (call : Nat → List Value → am_H → Option am_X) (lv : am_L) (st : List Value) (h : am_H) : am_f d scr L call 104 (n + 1) 239 lv st h = (match am_ld lv 0 with
    | some (.ref x) => am_f d scr L call 104 n 240 lv (.ref x :: st) h
    | _ => none) := k_la (i := .aload_n 0) rfl rfl rfl rfl
set_option maxRecDepth 100000 in
theorem s_104_240 (d L n : Nat) (scr : Nat → Int32) (call : Nat → List Value → am_H → Option am_X) (lv : am_L) (st : List Value) (h : am_H) (a : Nat) : am_f d scr L call 104 (n + 1) 240 lv (.ref a :: st) h = (match am_get h a 8 24 with
    | some v => am_f d scr L call 104 n 243 lv (v :: st) h
    | none => none) := k_gf (k := 56) rfl rfl
set_option maxRecDepth 100000 in
theorem s_104_243 (d L n : Nat) (scr : Nat → Int32) (call : Nat → List Value → am_H → Option am_X) (lv : am_L) (st : List Value) (h : am_H) : am_f d scr L call 104 (n + 1) 243 lv st h = (match am_ld lv 0 with
    | some (.ref x) => am_f d scr L call 104 n 244 lv (.ref x :: st) h
    | _ => none) := k_la (i := .aload_n 0) rfl rfl rfl rfl
set_option maxRecDepth 100000 in
theorem s_104_244 (d L n : Nat) (scr : Nat → Int32) (call : Nat → List Value → am_H → Option am_X) (lv : am_L) (st : List Value) (h : am_H) (a : Nat) : am_f d scr L call 104 (n + 1) 244 lv (.ref a :: st) h = (match am_get h a 8 23 with
    | some v => am_f d scr L call 104 n 247 lv (v :: st) h
    | none => none) := k_gf (k := 146) rfl rfl
set_option maxRecDepth 100000 in
theorem s_104_247 (d L n : Nat) (scr : Nat → Int32) (call : Nat → List Value → am_H → Option am_X) (lv : am_L) (st : List Value) (h : am_H) : am_f d scr L call 104 (n + 1) 247 lv st h = am_f d scr L call 104 n 248 lv (.int 1 :: st) h := k_nx (i := .iconst 1) rfl rfl
set_option maxRecDepth 100000 in
theorem s_104_248 (d L n : Nat) (scr : Nat → Int32) (call : Nat → List Value → am_H → Option am_X) (lv : am_L) (st : List Value) (h : am_H) (x y : Int32) : am_f d scr L call 104 (n + 1) 248 lv (.int y :: .int x :: st) h = am_f d scr L call 104 n 249 lv (.int (x - y) :: st) h := k_nx (i := .isub) rfl rfl
set_option maxRecDepth 100000 in
theorem s_104_249 (d L n : Nat) (scr : Nat → Int32) (call : Nat → List Value → am_H → Option am_X) (lv : am_L) (st : List Value) (h : am_H) : am_f d scr L call 104 (n + 1) 249 lv st h = (match am_ld lv 2 with
    | some (.int x) => am_f d scr L call 104 n 250 lv (.int x :: st) h
    | _ => none) := k_li (i := .iload_n 2) rfl rfl rfl rfl
set_option maxRecDepth 100000 in
theorem s_104_250 (d L n : Nat) (scr : Nat → Int32) (call : Nat → List Value → am_H → Option am_X) (lv : am_L) (st : List Value) (h : am_H) (a : Nat) (i : Int32) (x : Int32) : am_f d scr L call 104 (n + 1) 250 lv (.int x :: .int i :: .ref a :: st) h = (match am_ist h a i x with
    | some h' => am_f d scr L call 104 n 251 lv st h'
    | none => none) := k_is rfl
set_option maxRecDepth 100000 in
theorem s_104_251 (d L n : Nat) (scr : Nat → Int32) (call : Nat → List Value → am_H → Option am_X) (lv : am_L) (st : List Value) (h : am_H) : am_f d scr L call 104 (n + 1) 251 lv st h = am_f d scr L call 104 n 252 lv (.int (-1) :: st) h := k_nx (i := .iconst (-1)) rfl rfl
set_option maxRecDepth 100000 in
theorem s_104_252 (d L n : Nat) (scr : Nat → Int32) (call : Nat → List Value → am_H → Option am_X) (lv : am_L) (st : List Value) (h : am_H) (x : Int32) : am_f d scr L call 104 (n + 1) 252 lv (.int x :: st) h = am_f d scr L call 104 n 253 (am_st1 lv 2 (.int x)) st h := k_nx (i := .istore_n 2) rfl rfl
set_option maxRecDepth 100000 in
theorem s_104_253 (d L n : Nat) (scr : Nat → Int32) (call : Nat → List Value → am_H → Option am_X) (lv : am_L) (st : List Value) (h : am_H) : am_f d scr L call 104 (n + 1) 253 lv st h = am_f d scr L call 104 n 286 lv st h := k_nx (i := .goto 33) rfl rfl
set_option maxRecDepth 100000 in
theorem s_104_256 (d L n : Nat) (scr : Nat → Int32) (call : Nat → List Value → am_H → Option am_X) (lv : am_L) (st : List Value) (h : am_H) : am_f d scr L call 104 (n + 1) 256 lv st h = (match am_ld lv 0 with
    | some (.ref x) => am_f d scr L call 104 n 257 lv (.ref x :: st) h
    | _ => none) := k_la (i := .aload_n 0) rfl rfl rfl rfl
set_option maxRecDepth 100000 in
theorem s_104_257 (d L n : Nat) (scr : Nat → Int32) (call : Nat → List Value → am_H → Option am_X) (lv : am_L) (st : List Value) (h : am_H) : am_f d scr L call 104 (n + 1) 257 lv st h = am_f d scr L call 104 n 259 lv (.int 41 :: st) h := k_nx (i := .bipush 41) rfl rfl
set_option maxRecDepth 100000 in
theorem s_104_259 (d L n : Nat) (scr : Nat → Int32) (call : Nat → List Value → am_H → Option am_X) (lv : am_L) (h : am_H) (o : Nat) (a0 : Int32)  : am_f d scr L call 104 (n + 1) 259 lv (.int a0 :: .ref o :: []) h = if am_at h o 8 = true then (match call 101 [.ref o, .int a0] h with
    | some (v, h', dk, dn) => am_add dk dn (am_f d scr L call 104 n 262 lv (v.toList ++ []) h')
    | none => none) else none := k_iv0 (k := 153) (as := [.int a0]) (r := []) rfl rfl rfl rfl (Nat.le_of_ble_eq_true rfl)
set_option maxRecDepth 100000 in
theorem s_104_262 (d L n : Nat) (scr : Nat → Int32) (call : Nat → List Value → am_H → Option am_X) (lv : am_L) (st : List Value) (h : am_H) (x : Int32) : am_f d scr L call 104 (n + 1) 262 lv (.int x :: st) h = if ¬ x = 0 then am_f d scr L call 104 n 267 lv st h else am_f d scr L call 104 n 265 lv st h := k_if_ne (o := 5) rfl ⟨by decide, rfl⟩
set_option maxRecDepth 100000 in
theorem s_104_265 (d L n : Nat) (scr : Nat → Int32) (call : Nat → List Value → am_H → Option am_X) (lv : am_L) (st : List Value) (h : am_H) : am_f d scr L call 104 (n + 1) 265 lv st h = am_f d scr L call 104 n 266 lv (.int (-1) :: st) h := k_nx (i := .iconst (-1)) rfl rfl
set_option maxRecDepth 100000 in
theorem s_104_266 (d L n : Nat) (scr : Nat → Int32) (call : Nat → List Value → am_H → Option am_X) (lv : am_L) (h : am_H) (x : Int32) : am_f d scr L call 104 (n + 1) 266 lv [.int x] h = some (some (.int x), h, 0, 0) := k_ir rfl rfl
set_option maxRecDepth 100000 in
theorem s_104_267 (d L n : Nat) (scr : Nat → Int32) (call : Nat → List Value → am_H → Option am_X) (lv : am_L) (st : List Value) (h : am_H) : am_f d scr L call 104 (n + 1) 267 lv st h = (match am_ld lv 0 with
    | some (.ref x) => am_f d scr L call 104 n 268 lv (.ref x :: st) h
    | _ => none) := k_la (i := .aload_n 0) rfl rfl rfl rfl
set_option maxRecDepth 100000 in
theorem s_104_268 (d L n : Nat) (scr : Nat → Int32) (call : Nat → List Value → am_H → Option am_X) (lv : am_L) (st : List Value) (h : am_H) : am_f d scr L call 104 (n + 1) 268 lv st h = am_f d scr L call 104 n 269 lv (.int 3 :: st) h := k_nx (i := .iconst 3) rfl rfl
set_option maxRecDepth 100000 in
theorem s_104_269 (d L n : Nat) (scr : Nat → Int32) (call : Nat → List Value → am_H → Option am_X) (lv : am_L) (st : List Value) (h : am_H) : am_f d scr L call 104 (n + 1) 269 lv st h = (match am_ld lv 4 with
    | some (.int x) => am_f d scr L call 104 n 271 lv (.int x :: st) h
    | _ => none) := k_li (i := .iload 4) rfl rfl rfl rfl
set_option maxRecDepth 100000 in
theorem s_104_271 (d L n : Nat) (scr : Nat → Int32) (call : Nat → List Value → am_H → Option am_X) (lv : am_L) (st : List Value) (h : am_H) : am_f d scr L call 104 (n + 1) 271 lv st h = (match am_ld lv 2 with
    | some (.int x) => am_f d scr L call 104 n 272 lv (.int x :: st) h
    | _ => none) := k_li (i := .iload_n 2) rfl rfl rfl rfl
set_option maxRecDepth 100000 in
theorem s_104_272 (d L n : Nat) (scr : Nat → Int32) (call : Nat → List Value → am_H → Option am_X) (lv : am_L) (h : am_H) (o : Nat) (a0 : Int32) (a1 : Int32) (a2 : Int32)  : am_f d scr L call 104 (n + 1) 272 lv (.int a2 :: .int a1 :: .int a0 :: .ref o :: []) h = if am_at h o 8 = true then (match call 95 [.ref o, .int a0, .int a1, .int a2] h with
    | some (v, h', dk, dn) => am_add dk dn (am_f d scr L call 104 n 275 lv (v.toList ++ []) h')
    | none => none) else none := k_iv0 (k := 149) (as := [.int a0, .int a1, .int a2]) (r := []) rfl rfl rfl rfl (Nat.le_of_ble_eq_true rfl)
set_option maxRecDepth 100000 in
theorem s_104_275 (d L n : Nat) (scr : Nat → Int32) (call : Nat → List Value → am_H → Option am_X) (lv : am_L) (st : List Value) (h : am_H) (x : Int32) : am_f d scr L call 104 (n + 1) 275 lv (.int x :: st) h = am_f d scr L call 104 n 276 (am_st1 lv 2 (.int x)) st h := k_nx (i := .istore_n 2) rfl rfl
set_option maxRecDepth 100000 in
theorem s_104_276 (d L n : Nat) (scr : Nat → Int32) (call : Nat → List Value → am_H → Option am_X) (lv : am_L) (st : List Value) (h : am_H) : am_f d scr L call 104 (n + 1) 276 lv st h = (match am_ld lv 0 with
    | some (.ref x) => am_f d scr L call 104 n 277 lv (.ref x :: st) h
    | _ => none) := k_la (i := .aload_n 0) rfl rfl rfl rfl
set_option maxRecDepth 100000 in
theorem s_104_277 (d L n : Nat) (scr : Nat → Int32) (call : Nat → List Value → am_H → Option am_X) (lv : am_L) (st : List Value) (h : am_H) (x : Nat) : am_f d scr L call 104 (n + 1) 277 lv (.ref x :: st) h = am_f d scr L call 104 n 278 lv (.ref x :: .ref x :: st) h := k_nx (i := .dup) rfl rfl
set_option maxRecDepth 100000 in
theorem s_104_278 (d L n : Nat) (scr : Nat → Int32) (call : Nat → List Value → am_H → Option am_X) (lv : am_L) (st : List Value) (h : am_H) (a : Nat) : am_f d scr L call 104 (n + 1) 278 lv (.ref a :: st) h = (match am_get h a 8 23 with
    | some v => am_f d scr L call 104 n 281 lv (v :: st) h
    | none => none) := k_gf (k := 146) rfl rfl
set_option maxRecDepth 100000 in
theorem s_104_281 (d L n : Nat) (scr : Nat → Int32) (call : Nat → List Value → am_H → Option am_X) (lv : am_L) (st : List Value) (h : am_H) : am_f d scr L call 104 (n + 1) 281 lv st h = am_f d scr L call 104 n 282 lv (.int 1 :: st) h := k_nx (i := .iconst 1) rfl rfl
set_option maxRecDepth 100000 in
theorem s_104_282 (d L n : Nat) (scr : Nat → Int32) (call : Nat → List Value → am_H → Option am_X) (lv : am_L) (st : List Value) (h : am_H) (x y : Int32) : am_f d scr L call 104 (n + 1) 282 lv (.int y :: .int x :: st) h = am_f d scr L call 104 n 283 lv (.int (x - y) :: st) h := k_nx (i := .isub) rfl rfl
set_option maxRecDepth 100000 in
theorem s_104_283 (d L n : Nat) (scr : Nat → Int32) (call : Nat → List Value → am_H → Option am_X) (lv : am_L) (st : List Value) (h : am_H) (x : Int32) (a : Nat) : am_f d scr L call 104 (n + 1) 283 lv (.int x :: .ref a :: st) h = (match am_put h a 8 23 (.int x) with
    | some h' => am_f d scr L call 104 n 286 lv st h'
    | none => none) := k_pf (k := 146) rfl rfl rfl
set_option maxRecDepth 100000 in
theorem s_104_286 (d L n : Nat) (scr : Nat → Int32) (call : Nat → List Value → am_H → Option am_X) (lv : am_L) (st : List Value) (h : am_H) : am_f d scr L call 104 (n + 1) 286 lv st h = (match am_ld lv 3 with
    | some (.int x) => am_f d scr L call 104 n 289 (am_st1 lv 3 (.int (x + 1))) st h
    | _ => none) := k_iinc (k := 3) (c := 1) rfl rfl (Nat.le_of_ble_eq_true rfl)
set_option maxRecDepth 100000 in
theorem s_104_289 (d L n : Nat) (scr : Nat → Int32) (call : Nat → List Value → am_H → Option am_X) (lv : am_L) (st : List Value) (h : am_H) : am_f d scr L call 104 (n + 1) 289 lv st h = am_f d scr L call 104 n 9 lv st h := k_nx (i := .goto (-280)) rfl rfl
set_option maxRecDepth 100000 in
theorem s_104_292 (d L n : Nat) (scr : Nat → Int32) (call : Nat → List Value → am_H → Option am_X) (lv : am_L) (st : List Value) (h : am_H) : am_f d scr L call 104 (n + 1) 292 lv st h = am_f d scr L call 104 n 293 lv (.int (-1) :: st) h := k_nx (i := .iconst (-1)) rfl rfl
set_option maxRecDepth 100000 in
theorem s_104_293 (d L n : Nat) (scr : Nat → Int32) (call : Nat → List Value → am_H → Option am_X) (lv : am_L) (h : am_H) (x : Int32) : am_f d scr L call 104 (n + 1) 293 lv [.int x] h = some (some (.int x), h, 0, 0) := k_ir rfl rfl
-- 105: BlameDeskModel.opOf(C)I
theorem s_105_0 (d L n : Nat) (scr : Nat → Int32) (call : Nat → List Value → am_H → Option am_X) (lv : am_L) (st : List Value) (h : am_H) : am_f d scr L call 105 (n + 1) 0 lv st h = (match am_ld lv 1 with
    | some (.int x) => am_f d scr L call 105 n 1 lv (.int x :: st) h
    | _ => none) := k_li (i := .iload_n 1) rfl rfl rfl rfl
theorem s_105_1 (d L n : Nat) (scr : Nat → Int32) (call : Nat → List Value → am_H → Option am_X) (lv : am_L) (h : am_H) (a0 : Int32)  : am_f d scr L call 105 (n + 1) 1 lv (.int a0 :: []) h = (match call 103 [.int a0] h with
    | some (v, h', dk, dn) => am_add dk dn (am_f d scr L call 105 n 4 lv (v.toList ++ []) h')
    | none => none) := k_iv1 (k := 157) (as := [.int a0]) (r := []) rfl rfl rfl rfl (Nat.le_of_ble_eq_true rfl)
theorem s_105_4 (d L n : Nat) (scr : Nat → Int32) (call : Nat → List Value → am_H → Option am_X) (lv : am_L) (st : List Value) (h : am_H) (x : Int32) : am_f d scr L call 105 (n + 1) 4 lv (.int x :: st) h = if x = 0 then am_f d scr L call 105 n 9 lv st h else am_f d scr L call 105 n 7 lv st h := k_if_eq (o := 5) rfl ⟨by decide, rfl⟩
theorem s_105_7 (d L n : Nat) (scr : Nat → Int32) (call : Nat → List Value → am_H → Option am_X) (lv : am_L) (st : List Value) (h : am_H) : am_f d scr L call 105 (n + 1) 7 lv st h = am_f d scr L call 105 n 8 lv (.int 0 :: st) h := k_nx (i := .iconst 0) rfl rfl
theorem s_105_8 (d L n : Nat) (scr : Nat → Int32) (call : Nat → List Value → am_H → Option am_X) (lv : am_L) (h : am_H) (x : Int32) : am_f d scr L call 105 (n + 1) 8 lv [.int x] h = some (some (.int x), h, 0, 0) := k_ir rfl rfl
theorem s_105_9 (d L n : Nat) (scr : Nat → Int32) (call : Nat → List Value → am_H → Option am_X) (lv : am_L) (st : List Value) (h : am_H) : am_f d scr L call 105 (n + 1) 9 lv st h = (match am_ld lv 1 with
    | some (.int x) => am_f d scr L call 105 n 10 lv (.int x :: st) h
    | _ => none) := k_li (i := .iload_n 1) rfl rfl rfl rfl
theorem s_105_10 (d L n : Nat) (scr : Nat → Int32) (call : Nat → List Value → am_H → Option am_X) (lv : am_L) (h : am_H) (a0 : Int32)  : am_f d scr L call 105 (n + 1) 10 lv (.int a0 :: []) h = (match call 102 [.int a0] h with
    | some (v, h', dk, dn) => am_add dk dn (am_f d scr L call 105 n 13 lv (v.toList ++ []) h')
    | none => none) := k_iv1 (k := 160) (as := [.int a0]) (r := []) rfl rfl rfl rfl (Nat.le_of_ble_eq_true rfl)
theorem s_105_13 (d L n : Nat) (scr : Nat → Int32) (call : Nat → List Value → am_H → Option am_X) (lv : am_L) (st : List Value) (h : am_H) (x : Int32) : am_f d scr L call 105 (n + 1) 13 lv (.int x :: st) h = if x = 0 then am_f d scr L call 105 n 18 lv st h else am_f d scr L call 105 n 16 lv st h := k_if_eq (o := 5) rfl ⟨by decide, rfl⟩
theorem s_105_16 (d L n : Nat) (scr : Nat → Int32) (call : Nat → List Value → am_H → Option am_X) (lv : am_L) (st : List Value) (h : am_H) : am_f d scr L call 105 (n + 1) 16 lv st h = am_f d scr L call 105 n 17 lv (.int 2 :: st) h := k_nx (i := .iconst 2) rfl rfl
theorem s_105_17 (d L n : Nat) (scr : Nat → Int32) (call : Nat → List Value → am_H → Option am_X) (lv : am_L) (h : am_H) (x : Int32) : am_f d scr L call 105 (n + 1) 17 lv [.int x] h = some (some (.int x), h, 0, 0) := k_ir rfl rfl
theorem s_105_18 (d L n : Nat) (scr : Nat → Int32) (call : Nat → List Value → am_H → Option am_X) (lv : am_L) (st : List Value) (h : am_H) : am_f d scr L call 105 (n + 1) 18 lv st h = (match am_ld lv 1 with
    | some (.int x) => am_f d scr L call 105 n 19 lv (.int x :: st) h
    | _ => none) := k_li (i := .iload_n 1) rfl rfl rfl rfl
set_option maxRecDepth 100000 in
theorem s_105_19 (d L n : Nat) (scr : Nat → Int32) (call : Nat → List Value → am_H → Option am_X) (lv : am_L) (st : List Value) (h : am_H) (x : Int32) : am_f d scr L call 105 (n + 1) 19 lv (.int x :: st) h = if x = 33 then am_f d scr L call 105 n 115 lv st h else if x = 36 then am_f d scr L call 105 n 118 lv st h else if x = 40 then am_f d scr L call 105 n 104 lv st h else if x = 60 then am_f d scr L call 105 n 121 lv st h else if x = 64 then am_f d scr L call 105 n 112 lv st h else if x = 70 then am_f d scr L call 105 n 102 lv st h else if x = 84 then am_f d scr L call 105 n 100 lv st h else if x = 91 then am_f d scr L call 105 n 109 lv st h else if x = 123 then am_f d scr L call 105 n 106 lv st h else am_f d scr L call 105 n 124 lv st h := by
  by_cases h33 : x = 33
  · subst h33
    exact k_nx (i := .lookupswitch 105 #[(33, 96), (36, 99), (40, 85), (60, 102), (64, 93), (70, 83), (84, 81), (91, 90), (123, 87)]) rfl rfl
  by_cases h36 : x = 36
  · subst h36
    exact k_nx (i := .lookupswitch 105 #[(33, 96), (36, 99), (40, 85), (60, 102), (64, 93), (70, 83), (84, 81), (91, 90), (123, 87)]) rfl rfl
  by_cases h40 : x = 40
  · subst h40
    exact k_nx (i := .lookupswitch 105 #[(33, 96), (36, 99), (40, 85), (60, 102), (64, 93), (70, 83), (84, 81), (91, 90), (123, 87)]) rfl rfl
  by_cases h60 : x = 60
  · subst h60
    exact k_nx (i := .lookupswitch 105 #[(33, 96), (36, 99), (40, 85), (60, 102), (64, 93), (70, 83), (84, 81), (91, 90), (123, 87)]) rfl rfl
  by_cases h64 : x = 64
  · subst h64
    exact k_nx (i := .lookupswitch 105 #[(33, 96), (36, 99), (40, 85), (60, 102), (64, 93), (70, 83), (84, 81), (91, 90), (123, 87)]) rfl rfl
  by_cases h70 : x = 70
  · subst h70
    exact k_nx (i := .lookupswitch 105 #[(33, 96), (36, 99), (40, 85), (60, 102), (64, 93), (70, 83), (84, 81), (91, 90), (123, 87)]) rfl rfl
  by_cases h84 : x = 84
  · subst h84
    exact k_nx (i := .lookupswitch 105 #[(33, 96), (36, 99), (40, 85), (60, 102), (64, 93), (70, 83), (84, 81), (91, 90), (123, 87)]) rfl rfl
  by_cases h91 : x = 91
  · subst h91
    exact k_nx (i := .lookupswitch 105 #[(33, 96), (36, 99), (40, 85), (60, 102), (64, 93), (70, 83), (84, 81), (91, 90), (123, 87)]) rfl rfl
  by_cases h123 : x = 123
  · subst h123
    exact k_nx (i := .lookupswitch 105 #[(33, 96), (36, 99), (40, 85), (60, 102), (64, 93), (70, 83), (84, 81), (91, 90), (123, 87)]) rfl rfl
  rw [if_neg h33, if_neg h36, if_neg h40, if_neg h60, if_neg h64, if_neg h70, if_neg h84, if_neg h91, if_neg h123]
  have ho : Op.lookupswitch.offset #[(33, 96), (36, 99), (40, 85), (60, 102), (64, 93), (70, 83), (84, 81), (91, 90), (123, 87)].toList 105 x.toInt = 105 := by
    have hh : ∀ k : Int32, ¬ x = k → ¬ x.toInt = k.toInt := fun k hk z => hk (Int32.toInt_inj.mp z)
    have g33 : ¬ (33 : Int) = x.toInt := fun z => hh 33 h33 z.symm
    have g36 : ¬ (36 : Int) = x.toInt := fun z => hh 36 h36 z.symm
    have g40 : ¬ (40 : Int) = x.toInt := fun z => hh 40 h40 z.symm
    have g60 : ¬ (60 : Int) = x.toInt := fun z => hh 60 h60 z.symm
    have g64 : ¬ (64 : Int) = x.toInt := fun z => hh 64 h64 z.symm
    have g70 : ¬ (70 : Int) = x.toInt := fun z => hh 70 h70 z.symm
    have g84 : ¬ (84 : Int) = x.toInt := fun z => hh 84 h84 z.symm
    have g91 : ¬ (91 : Int) = x.toInt := fun z => hh 91 h91 z.symm
    have g123 : ¬ (123 : Int) = x.toInt := fun z => hh 123 h123 z.symm
    simp only [Op.lookupswitch.offset, if_neg g33, if_neg g36, if_neg g40, if_neg g60, if_neg g64, if_neg g70, if_neg g84, if_neg g91, if_neg g123]
  refine k_nx (i := .lookupswitch 105 #[(33, 96), (36, 99), (40, 85), (60, 102), (64, 93), (70, 83), (84, 81), (91, 90), (123, 87)]) rfl ?_
  simp only [am_s, ho]
  rfl
theorem s_105_100 (d L n : Nat) (scr : Nat → Int32) (call : Nat → List Value → am_H → Option am_X) (lv : am_L) (st : List Value) (h : am_H) : am_f d scr L call 105 (n + 1) 100 lv st h = am_f d scr L call 105 n 101 lv (.int 1 :: st) h := k_nx (i := .iconst 1) rfl rfl
theorem s_105_101 (d L n : Nat) (scr : Nat → Int32) (call : Nat → List Value → am_H → Option am_X) (lv : am_L) (h : am_H) (x : Int32) : am_f d scr L call 105 (n + 1) 101 lv [.int x] h = some (some (.int x), h, 0, 0) := k_ir rfl rfl
theorem s_105_102 (d L n : Nat) (scr : Nat → Int32) (call : Nat → List Value → am_H → Option am_X) (lv : am_L) (st : List Value) (h : am_H) : am_f d scr L call 105 (n + 1) 102 lv st h = am_f d scr L call 105 n 103 lv (.int 1 :: st) h := k_nx (i := .iconst 1) rfl rfl
theorem s_105_103 (d L n : Nat) (scr : Nat → Int32) (call : Nat → List Value → am_H → Option am_X) (lv : am_L) (h : am_H) (x : Int32) : am_f d scr L call 105 (n + 1) 103 lv [.int x] h = some (some (.int x), h, 0, 0) := k_ir rfl rfl
theorem s_105_104 (d L n : Nat) (scr : Nat → Int32) (call : Nat → List Value → am_H → Option am_X) (lv : am_L) (st : List Value) (h : am_H) : am_f d scr L call 105 (n + 1) 104 lv st h = am_f d scr L call 105 n 105 lv (.int 4 :: st) h := k_nx (i := .iconst 4) rfl rfl
theorem s_105_105 (d L n : Nat) (scr : Nat → Int32) (call : Nat → List Value → am_H → Option am_X) (lv : am_L) (h : am_H) (x : Int32) : am_f d scr L call 105 (n + 1) 105 lv [.int x] h = some (some (.int x), h, 0, 0) := k_ir rfl rfl
theorem s_105_106 (d L n : Nat) (scr : Nat → Int32) (call : Nat → List Value → am_H → Option am_X) (lv : am_L) (st : List Value) (h : am_H) : am_f d scr L call 105 (n + 1) 106 lv st h = am_f d scr L call 105 n 108 lv (.int 6 :: st) h := k_nx (i := .bipush 6) rfl rfl
theorem s_105_108 (d L n : Nat) (scr : Nat → Int32) (call : Nat → List Value → am_H → Option am_X) (lv : am_L) (h : am_H) (x : Int32) : am_f d scr L call 105 (n + 1) 108 lv [.int x] h = some (some (.int x), h, 0, 0) := k_ir rfl rfl
theorem s_105_109 (d L n : Nat) (scr : Nat → Int32) (call : Nat → List Value → am_H → Option am_X) (lv : am_L) (st : List Value) (h : am_H) : am_f d scr L call 105 (n + 1) 109 lv st h = am_f d scr L call 105 n 111 lv (.int 9 :: st) h := k_nx (i := .bipush 9) rfl rfl
theorem s_105_111 (d L n : Nat) (scr : Nat → Int32) (call : Nat → List Value → am_H → Option am_X) (lv : am_L) (h : am_H) (x : Int32) : am_f d scr L call 105 (n + 1) 111 lv [.int x] h = some (some (.int x), h, 0, 0) := k_ir rfl rfl
theorem s_105_112 (d L n : Nat) (scr : Nat → Int32) (call : Nat → List Value → am_H → Option am_X) (lv : am_L) (st : List Value) (h : am_H) : am_f d scr L call 105 (n + 1) 112 lv st h = am_f d scr L call 105 n 114 lv (.int 10 :: st) h := k_nx (i := .bipush 10) rfl rfl
theorem s_105_114 (d L n : Nat) (scr : Nat → Int32) (call : Nat → List Value → am_H → Option am_X) (lv : am_L) (h : am_H) (x : Int32) : am_f d scr L call 105 (n + 1) 114 lv [.int x] h = some (some (.int x), h, 0, 0) := k_ir rfl rfl
theorem s_105_115 (d L n : Nat) (scr : Nat → Int32) (call : Nat → List Value → am_H → Option am_X) (lv : am_L) (st : List Value) (h : am_H) : am_f d scr L call 105 (n + 1) 115 lv st h = am_f d scr L call 105 n 117 lv (.int 11 :: st) h := k_nx (i := .bipush 11) rfl rfl
theorem s_105_117 (d L n : Nat) (scr : Nat → Int32) (call : Nat → List Value → am_H → Option am_X) (lv : am_L) (h : am_H) (x : Int32) : am_f d scr L call 105 (n + 1) 117 lv [.int x] h = some (some (.int x), h, 0, 0) := k_ir rfl rfl
theorem s_105_118 (d L n : Nat) (scr : Nat → Int32) (call : Nat → List Value → am_H → Option am_X) (lv : am_L) (st : List Value) (h : am_H) : am_f d scr L call 105 (n + 1) 118 lv st h = am_f d scr L call 105 n 120 lv (.int 13 :: st) h := k_nx (i := .bipush 13) rfl rfl
theorem s_105_120 (d L n : Nat) (scr : Nat → Int32) (call : Nat → List Value → am_H → Option am_X) (lv : am_L) (h : am_H) (x : Int32) : am_f d scr L call 105 (n + 1) 120 lv [.int x] h = some (some (.int x), h, 0, 0) := k_ir rfl rfl
theorem s_105_121 (d L n : Nat) (scr : Nat → Int32) (call : Nat → List Value → am_H → Option am_X) (lv : am_L) (st : List Value) (h : am_H) : am_f d scr L call 105 (n + 1) 121 lv st h = am_f d scr L call 105 n 123 lv (.int 12 :: st) h := k_nx (i := .bipush 12) rfl rfl
theorem s_105_123 (d L n : Nat) (scr : Nat → Int32) (call : Nat → List Value → am_H → Option am_X) (lv : am_L) (h : am_H) (x : Int32) : am_f d scr L call 105 (n + 1) 123 lv [.int x] h = some (some (.int x), h, 0, 0) := k_ir rfl rfl
theorem s_105_124 (d L n : Nat) (scr : Nat → Int32) (call : Nat → List Value → am_H → Option am_X) (lv : am_L) (st : List Value) (h : am_H) : am_f d scr L call 105 (n + 1) 124 lv st h = (match am_ld lv 1 with
    | some (.int x) => am_f d scr L call 105 n 125 lv (.int x :: st) h
    | _ => none) := k_li (i := .iload_n 1) rfl rfl rfl rfl
theorem s_105_125 (d L n : Nat) (scr : Nat → Int32) (call : Nat → List Value → am_H → Option am_X) (lv : am_L) (st : List Value) (h : am_H) : am_f d scr L call 105 (n + 1) 125 lv st h = am_f d scr L call 105 n 127 lv (.int 92 :: st) h := k_nx (i := .bipush 92) rfl rfl
theorem s_105_127 (d L n : Nat) (scr : Nat → Int32) (call : Nat → List Value → am_H → Option am_X) (lv : am_L) (st : List Value) (h : am_H) (x y : Int32) : am_f d scr L call 105 (n + 1) 127 lv (.int y :: .int x :: st) h = if ¬ x = y then am_f d scr L call 105 n 134 lv st h else am_f d scr L call 105 n 130 lv st h := k_ic_ne (o := 7) rfl ⟨by decide, rfl⟩
theorem s_105_130 (d L n : Nat) (scr : Nat → Int32) (call : Nat → List Value → am_H → Option am_X) (lv : am_L) (st : List Value) (h : am_H) : am_f d scr L call 105 (n + 1) 130 lv st h = am_f d scr L call 105 n 131 lv (.int 3 :: st) h := k_nx (i := .iconst 3) rfl rfl
theorem s_105_131 (d L n : Nat) (scr : Nat → Int32) (call : Nat → List Value → am_H → Option am_X) (lv : am_L) (st : List Value) (h : am_H) : am_f d scr L call 105 (n + 1) 131 lv st h = am_f d scr L call 105 n 135 lv st h := k_nx (i := .goto 4) rfl rfl
theorem s_105_134 (d L n : Nat) (scr : Nat → Int32) (call : Nat → List Value → am_H → Option am_X) (lv : am_L) (st : List Value) (h : am_H) : am_f d scr L call 105 (n + 1) 134 lv st h = am_f d scr L call 105 n 135 lv (.int (-1) :: st) h := k_nx (i := .iconst (-1)) rfl rfl
theorem s_105_135 (d L n : Nat) (scr : Nat → Int32) (call : Nat → List Value → am_H → Option am_X) (lv : am_L) (h : am_H) (x : Int32) : am_f d scr L call 105 (n + 1) 135 lv [.int x] h = some (some (.int x), h, 0, 0) := k_ir rfl rfl
-- 106: BlameDeskModel.begin()Z
theorem s_106_0 (d L n : Nat) (scr : Nat → Int32) (call : Nat → List Value → am_H → Option am_X) (lv : am_L) (st : List Value) (h : am_H) : am_f d scr L call 106 (n + 1) 0 lv st h = (match am_ld lv 0 with
    | some (.ref x) => am_f d scr L call 106 n 1 lv (.ref x :: st) h
    | _ => none) := k_la (i := .aload_n 0) rfl rfl rfl rfl
theorem s_106_1 (d L n : Nat) (scr : Nat → Int32) (call : Nat → List Value → am_H → Option am_X) (lv : am_L) (st : List Value) (h : am_H) : am_f d scr L call 106 (n + 1) 1 lv st h = am_f d scr L call 106 n 2 lv (.int 0 :: st) h := k_nx (i := .iconst 0) rfl rfl
theorem s_106_2 (d L n : Nat) (scr : Nat → Int32) (call : Nat → List Value → am_H → Option am_X) (lv : am_L) (h : am_H) (o : Nat) (a0 : Int32)  : am_f d scr L call 106 (n + 1) 2 lv (.int a0 :: .ref o :: []) h = if am_at h o 8 = true then (match call 100 [.ref o, .int a0] h with
    | some (v, h', dk, dn) => am_add dk dn (am_f d scr L call 106 n 5 lv (v.toList ++ []) h')
    | none => none) else none := k_iv0 (k := 142) (as := [.int a0]) (r := []) rfl rfl rfl rfl (Nat.le_of_ble_eq_true rfl)
theorem s_106_5 (d L n : Nat) (scr : Nat → Int32) (call : Nat → List Value → am_H → Option am_X) (lv : am_L) (st : List Value) (h : am_H) (x : Int32) : am_f d scr L call 106 (n + 1) 5 lv (.int x :: st) h = am_f d scr L call 106 n 6 (am_st1 lv 1 (.int x)) st h := k_nx (i := .istore_n 1) rfl rfl
theorem s_106_6 (d L n : Nat) (scr : Nat → Int32) (call : Nat → List Value → am_H → Option am_X) (lv : am_L) (st : List Value) (h : am_H) : am_f d scr L call 106 (n + 1) 6 lv st h = (match am_ld lv 0 with
    | some (.ref x) => am_f d scr L call 106 n 7 lv (.ref x :: st) h
    | _ => none) := k_la (i := .aload_n 0) rfl rfl rfl rfl
theorem s_106_7 (d L n : Nat) (scr : Nat → Int32) (call : Nat → List Value → am_H → Option am_X) (lv : am_L) (st : List Value) (h : am_H) : am_f d scr L call 106 (n + 1) 7 lv st h = (match am_ld lv 1 with
    | some (.int x) => am_f d scr L call 106 n 8 lv (.int x :: st) h
    | _ => none) := k_li (i := .iload_n 1) rfl rfl rfl rfl
theorem s_106_8 (d L n : Nat) (scr : Nat → Int32) (call : Nat → List Value → am_H → Option am_X) (lv : am_L) (h : am_H) (o : Nat) (a0 : Int32)  : am_f d scr L call 106 (n + 1) 8 lv (.int a0 :: .ref o :: []) h = if am_at h o 8 = true then (match call 105 [.ref o, .int a0] h with
    | some (v, h', dk, dn) => am_add dk dn (am_f d scr L call 106 n 11 lv (v.toList ++ []) h')
    | none => none) else none := k_iv0 (k := 163) (as := [.int a0]) (r := []) rfl rfl rfl rfl (Nat.le_of_ble_eq_true rfl)
theorem s_106_11 (d L n : Nat) (scr : Nat → Int32) (call : Nat → List Value → am_H → Option am_X) (lv : am_L) (st : List Value) (h : am_H) (x : Int32) : am_f d scr L call 106 (n + 1) 11 lv (.int x :: st) h = am_f d scr L call 106 n 12 (am_st1 lv 2 (.int x)) st h := k_nx (i := .istore_n 2) rfl rfl
theorem s_106_12 (d L n : Nat) (scr : Nat → Int32) (call : Nat → List Value → am_H → Option am_X) (lv : am_L) (st : List Value) (h : am_H) : am_f d scr L call 106 (n + 1) 12 lv st h = (match am_ld lv 2 with
    | some (.int x) => am_f d scr L call 106 n 13 lv (.int x :: st) h
    | _ => none) := k_li (i := .iload_n 2) rfl rfl rfl rfl
theorem s_106_13 (d L n : Nat) (scr : Nat → Int32) (call : Nat → List Value → am_H → Option am_X) (lv : am_L) (st : List Value) (h : am_H) (x : Int32) : am_f d scr L call 106 (n + 1) 13 lv (.int x :: st) h = if x < 0 then am_f d scr L call 106 n 27 lv st h else am_f d scr L call 106 n 16 lv st h := k_if_lt (o := 14) rfl ⟨by decide, rfl⟩
theorem s_106_16 (d L n : Nat) (scr : Nat → Int32) (call : Nat → List Value → am_H → Option am_X) (lv : am_L) (st : List Value) (h : am_H) : am_f d scr L call 106 (n + 1) 16 lv st h = (match am_ld lv 0 with
    | some (.ref x) => am_f d scr L call 106 n 17 lv (.ref x :: st) h
    | _ => none) := k_la (i := .aload_n 0) rfl rfl rfl rfl
theorem s_106_17 (d L n : Nat) (scr : Nat → Int32) (call : Nat → List Value → am_H → Option am_X) (lv : am_L) (st : List Value) (h : am_H) (a : Nat) : am_f d scr L call 106 (n + 1) 17 lv (.ref a :: st) h = (match am_get h a 8 21 with
    | some v => am_f d scr L call 106 n 20 lv (v :: st) h
    | none => none) := k_gf (k := 167) rfl rfl
theorem s_106_20 (d L n : Nat) (scr : Nat → Int32) (call : Nat → List Value → am_H → Option am_X) (lv : am_L) (st : List Value) (h : am_H) : am_f d scr L call 106 (n + 1) 20 lv st h = am_f d scr L call 106 n 21 lv (.int 1 :: st) h := k_nx (i := .iconst 1) rfl rfl
theorem s_106_21 (d L n : Nat) (scr : Nat → Int32) (call : Nat → List Value → am_H → Option am_X) (lv : am_L) (st : List Value) (h : am_H) (x y : Int32) : am_f d scr L call 106 (n + 1) 21 lv (.int y :: .int x :: st) h = am_f d scr L call 106 n 22 lv (.int (x + y) :: st) h := k_nx (i := .iadd) rfl rfl
theorem s_106_22 (d L n : Nat) (scr : Nat → Int32) (call : Nat → List Value → am_H → Option am_X) (lv : am_L) (st : List Value) (h : am_H) : am_f d scr L call 106 (n + 1) 22 lv st h = am_f d scr L call 106 n 24 lv (.int 20 :: st) h := k_nx (i := .bipush 20) rfl rfl
theorem s_106_24 (d L n : Nat) (scr : Nat → Int32) (call : Nat → List Value → am_H → Option am_X) (lv : am_L) (st : List Value) (h : am_H) (x y : Int32) : am_f d scr L call 106 (n + 1) 24 lv (.int y :: .int x :: st) h = if x ≤ y then am_f d scr L call 106 n 29 lv st h else am_f d scr L call 106 n 27 lv st h := k_ic_le (o := 5) rfl ⟨by decide, rfl⟩
theorem s_106_27 (d L n : Nat) (scr : Nat → Int32) (call : Nat → List Value → am_H → Option am_X) (lv : am_L) (st : List Value) (h : am_H) : am_f d scr L call 106 (n + 1) 27 lv st h = am_f d scr L call 106 n 28 lv (.int 0 :: st) h := k_nx (i := .iconst 0) rfl rfl
theorem s_106_28 (d L n : Nat) (scr : Nat → Int32) (call : Nat → List Value → am_H → Option am_X) (lv : am_L) (h : am_H) (x : Int32) : am_f d scr L call 106 (n + 1) 28 lv [.int x] h = if x = 0 ∨ x = 1 then some (some (.int x), h, 0, 0) else none := k_zr rfl rfl
theorem s_106_29 (d L n : Nat) (scr : Nat → Int32) (call : Nat → List Value → am_H → Option am_X) (lv : am_L) (st : List Value) (h : am_H) : am_f d scr L call 106 (n + 1) 29 lv st h = (match am_ld lv 0 with
    | some (.ref x) => am_f d scr L call 106 n 30 lv (.ref x :: st) h
    | _ => none) := k_la (i := .aload_n 0) rfl rfl rfl rfl
theorem s_106_30 (d L n : Nat) (scr : Nat → Int32) (call : Nat → List Value → am_H → Option am_X) (lv : am_L) (st : List Value) (h : am_H) (a : Nat) : am_f d scr L call 106 (n + 1) 30 lv (.ref a :: st) h = (match am_get h a 8 8 with
    | some v => am_f d scr L call 106 n 33 lv (v :: st) h
    | none => none) := k_gf (k := 170) rfl rfl
theorem s_106_33 (d L n : Nat) (scr : Nat → Int32) (call : Nat → List Value → am_H → Option am_X) (lv : am_L) (st : List Value) (h : am_H) (x : Int32) : am_f d scr L call 106 (n + 1) 33 lv (.int x :: st) h = am_f d scr L call 106 n 34 (am_st1 lv 3 (.int x)) st h := k_nx (i := .istore_n 3) rfl rfl
theorem s_106_34 (d L n : Nat) (scr : Nat → Int32) (call : Nat → List Value → am_H → Option am_X) (lv : am_L) (st : List Value) (h : am_H) : am_f d scr L call 106 (n + 1) 34 lv st h = (match am_ld lv 0 with
    | some (.ref x) => am_f d scr L call 106 n 35 lv (.ref x :: st) h
    | _ => none) := k_la (i := .aload_n 0) rfl rfl rfl rfl
theorem s_106_35 (d L n : Nat) (scr : Nat → Int32) (call : Nat → List Value → am_H → Option am_X) (lv : am_L) (st : List Value) (h : am_H) (x : Nat) : am_f d scr L call 106 (n + 1) 35 lv (.ref x :: st) h = am_f d scr L call 106 n 36 lv (.ref x :: .ref x :: st) h := k_nx (i := .dup) rfl rfl
theorem s_106_36 (d L n : Nat) (scr : Nat → Int32) (call : Nat → List Value → am_H → Option am_X) (lv : am_L) (st : List Value) (h : am_H) (a : Nat) : am_f d scr L call 106 (n + 1) 36 lv (.ref a :: st) h = (match am_get h a 8 8 with
    | some v => am_f d scr L call 106 n 39 lv (v :: st) h
    | none => none) := k_gf (k := 170) rfl rfl
theorem s_106_39 (d L n : Nat) (scr : Nat → Int32) (call : Nat → List Value → am_H → Option am_X) (lv : am_L) (st : List Value) (h : am_H) : am_f d scr L call 106 (n + 1) 39 lv st h = am_f d scr L call 106 n 40 lv (.int 1 :: st) h := k_nx (i := .iconst 1) rfl rfl
theorem s_106_40 (d L n : Nat) (scr : Nat → Int32) (call : Nat → List Value → am_H → Option am_X) (lv : am_L) (st : List Value) (h : am_H) (x y : Int32) : am_f d scr L call 106 (n + 1) 40 lv (.int y :: .int x :: st) h = am_f d scr L call 106 n 41 lv (.int (x + y) :: st) h := k_nx (i := .iadd) rfl rfl
theorem s_106_41 (d L n : Nat) (scr : Nat → Int32) (call : Nat → List Value → am_H → Option am_X) (lv : am_L) (st : List Value) (h : am_H) (x : Int32) (a : Nat) : am_f d scr L call 106 (n + 1) 41 lv (.int x :: .ref a :: st) h = (match am_put h a 8 8 (.int x) with
    | some h' => am_f d scr L call 106 n 44 lv st h'
    | none => none) := k_pf (k := 170) rfl rfl rfl
theorem s_106_44 (d L n : Nat) (scr : Nat → Int32) (call : Nat → List Value → am_H → Option am_X) (lv : am_L) (st : List Value) (h : am_H) : am_f d scr L call 106 (n + 1) 44 lv st h = (match am_ld lv 0 with
    | some (.ref x) => am_f d scr L call 106 n 45 lv (.ref x :: st) h
    | _ => none) := k_la (i := .aload_n 0) rfl rfl rfl rfl
theorem s_106_45 (d L n : Nat) (scr : Nat → Int32) (call : Nat → List Value → am_H → Option am_X) (lv : am_L) (st : List Value) (h : am_H) (a : Nat) : am_f d scr L call 106 (n + 1) 45 lv (.ref a :: st) h = (match am_get h a 8 9 with
    | some v => am_f d scr L call 106 n 48 lv (v :: st) h
    | none => none) := k_gf (k := 23) rfl rfl
theorem s_106_48 (d L n : Nat) (scr : Nat → Int32) (call : Nat → List Value → am_H → Option am_X) (lv : am_L) (st : List Value) (h : am_H) : am_f d scr L call 106 (n + 1) 48 lv st h = (match am_ld lv 3 with
    | some (.int x) => am_f d scr L call 106 n 49 lv (.int x :: st) h
    | _ => none) := k_li (i := .iload_n 3) rfl rfl rfl rfl
theorem s_106_49 (d L n : Nat) (scr : Nat → Int32) (call : Nat → List Value → am_H → Option am_X) (lv : am_L) (st : List Value) (h : am_H) : am_f d scr L call 106 (n + 1) 49 lv st h = (match am_ld lv 2 with
    | some (.int x) => am_f d scr L call 106 n 50 lv (.int x :: st) h
    | _ => none) := k_li (i := .iload_n 2) rfl rfl rfl rfl
theorem s_106_50 (d L n : Nat) (scr : Nat → Int32) (call : Nat → List Value → am_H → Option am_X) (lv : am_L) (st : List Value) (h : am_H) (a : Nat) (i : Int32) (x : Int32) : am_f d scr L call 106 (n + 1) 50 lv (.int x :: .int i :: .ref a :: st) h = (match am_ist h a i x with
    | some h' => am_f d scr L call 106 n 51 lv st h'
    | none => none) := k_is rfl
theorem s_106_51 (d L n : Nat) (scr : Nat → Int32) (call : Nat → List Value → am_H → Option am_X) (lv : am_L) (st : List Value) (h : am_H) : am_f d scr L call 106 (n + 1) 51 lv st h = (match am_ld lv 0 with
    | some (.ref x) => am_f d scr L call 106 n 52 lv (.ref x :: st) h
    | _ => none) := k_la (i := .aload_n 0) rfl rfl rfl rfl
theorem s_106_52 (d L n : Nat) (scr : Nat → Int32) (call : Nat → List Value → am_H → Option am_X) (lv : am_L) (st : List Value) (h : am_H) (a : Nat) : am_f d scr L call 106 (n + 1) 52 lv (.ref a :: st) h = (match am_get h a 8 10 with
    | some v => am_f d scr L call 106 n 55 lv (v :: st) h
    | none => none) := k_gf (k := 26) rfl rfl
theorem s_106_55 (d L n : Nat) (scr : Nat → Int32) (call : Nat → List Value → am_H → Option am_X) (lv : am_L) (st : List Value) (h : am_H) : am_f d scr L call 106 (n + 1) 55 lv st h = (match am_ld lv 3 with
    | some (.int x) => am_f d scr L call 106 n 56 lv (.int x :: st) h
    | _ => none) := k_li (i := .iload_n 3) rfl rfl rfl rfl
theorem s_106_56 (d L n : Nat) (scr : Nat → Int32) (call : Nat → List Value → am_H → Option am_X) (lv : am_L) (st : List Value) (h : am_H) : am_f d scr L call 106 (n + 1) 56 lv st h = (match am_ld lv 0 with
    | some (.ref x) => am_f d scr L call 106 n 57 lv (.ref x :: st) h
    | _ => none) := k_la (i := .aload_n 0) rfl rfl rfl rfl
theorem s_106_57 (d L n : Nat) (scr : Nat → Int32) (call : Nat → List Value → am_H → Option am_X) (lv : am_L) (st : List Value) (h : am_H) (a : Nat) : am_f d scr L call 106 (n + 1) 57 lv (.ref a :: st) h = (match am_get h a 8 20 with
    | some v => am_f d scr L call 106 n 60 lv (v :: st) h
    | none => none) := k_gf (k := 139) rfl rfl
theorem s_106_60 (d L n : Nat) (scr : Nat → Int32) (call : Nat → List Value → am_H → Option am_X) (lv : am_L) (st : List Value) (h : am_H) (a : Nat) (i : Int32) (x : Int32) : am_f d scr L call 106 (n + 1) 60 lv (.int x :: .int i :: .ref a :: st) h = (match am_ist h a i x with
    | some h' => am_f d scr L call 106 n 61 lv st h'
    | none => none) := k_is rfl
theorem s_106_61 (d L n : Nat) (scr : Nat → Int32) (call : Nat → List Value → am_H → Option am_X) (lv : am_L) (st : List Value) (h : am_H) : am_f d scr L call 106 (n + 1) 61 lv st h = (match am_ld lv 0 with
    | some (.ref x) => am_f d scr L call 106 n 62 lv (.ref x :: st) h
    | _ => none) := k_la (i := .aload_n 0) rfl rfl rfl rfl
theorem s_106_62 (d L n : Nat) (scr : Nat → Int32) (call : Nat → List Value → am_H → Option am_X) (lv : am_L) (st : List Value) (h : am_H) (a : Nat) : am_f d scr L call 106 (n + 1) 62 lv (.ref a :: st) h = (match am_get h a 8 13 with
    | some v => am_f d scr L call 106 n 65 lv (v :: st) h
    | none => none) := k_gf (k := 35) rfl rfl
theorem s_106_65 (d L n : Nat) (scr : Nat → Int32) (call : Nat → List Value → am_H → Option am_X) (lv : am_L) (st : List Value) (h : am_H) : am_f d scr L call 106 (n + 1) 65 lv st h = (match am_ld lv 3 with
    | some (.int x) => am_f d scr L call 106 n 66 lv (.int x :: st) h
    | _ => none) := k_li (i := .iload_n 3) rfl rfl rfl rfl
theorem s_106_66 (d L n : Nat) (scr : Nat → Int32) (call : Nat → List Value → am_H → Option am_X) (lv : am_L) (st : List Value) (h : am_H) : am_f d scr L call 106 (n + 1) 66 lv st h = (match am_ld lv 0 with
    | some (.ref x) => am_f d scr L call 106 n 67 lv (.ref x :: st) h
    | _ => none) := k_la (i := .aload_n 0) rfl rfl rfl rfl
theorem s_106_67 (d L n : Nat) (scr : Nat → Int32) (call : Nat → List Value → am_H → Option am_X) (lv : am_L) (st : List Value) (h : am_H) (a : Nat) : am_f d scr L call 106 (n + 1) 67 lv (.ref a :: st) h = (match am_get h a 8 21 with
    | some v => am_f d scr L call 106 n 70 lv (v :: st) h
    | none => none) := k_gf (k := 167) rfl rfl
theorem s_106_70 (d L n : Nat) (scr : Nat → Int32) (call : Nat → List Value → am_H → Option am_X) (lv : am_L) (st : List Value) (h : am_H) (x : Int32) : am_f d scr L call 106 (n + 1) 70 lv (.int x :: st) h = if ¬ x = 0 then am_f d scr L call 106 n 77 lv st h else am_f d scr L call 106 n 73 lv st h := k_if_ne (o := 7) rfl ⟨by decide, rfl⟩
theorem s_106_73 (d L n : Nat) (scr : Nat → Int32) (call : Nat → List Value → am_H → Option am_X) (lv : am_L) (st : List Value) (h : am_H) : am_f d scr L call 106 (n + 1) 73 lv st h = am_f d scr L call 106 n 74 lv (.int (-1) :: st) h := k_nx (i := .iconst (-1)) rfl rfl
theorem s_106_74 (d L n : Nat) (scr : Nat → Int32) (call : Nat → List Value → am_H → Option am_X) (lv : am_L) (st : List Value) (h : am_H) : am_f d scr L call 106 (n + 1) 74 lv st h = am_f d scr L call 106 n 88 lv st h := k_nx (i := .goto 14) rfl rfl
theorem s_106_77 (d L n : Nat) (scr : Nat → Int32) (call : Nat → List Value → am_H → Option am_X) (lv : am_L) (st : List Value) (h : am_H) : am_f d scr L call 106 (n + 1) 77 lv st h = (match am_ld lv 0 with
    | some (.ref x) => am_f d scr L call 106 n 78 lv (.ref x :: st) h
    | _ => none) := k_la (i := .aload_n 0) rfl rfl rfl rfl
theorem s_106_78 (d L n : Nat) (scr : Nat → Int32) (call : Nat → List Value → am_H → Option am_X) (lv : am_L) (st : List Value) (h : am_H) (a : Nat) : am_f d scr L call 106 (n + 1) 78 lv (.ref a :: st) h = (match am_get h a 8 22 with
    | some v => am_f d scr L call 106 n 81 lv (v :: st) h
    | none => none) := k_gf (k := 53) rfl rfl
theorem s_106_81 (d L n : Nat) (scr : Nat → Int32) (call : Nat → List Value → am_H → Option am_X) (lv : am_L) (st : List Value) (h : am_H) : am_f d scr L call 106 (n + 1) 81 lv st h = (match am_ld lv 0 with
    | some (.ref x) => am_f d scr L call 106 n 82 lv (.ref x :: st) h
    | _ => none) := k_la (i := .aload_n 0) rfl rfl rfl rfl
theorem s_106_82 (d L n : Nat) (scr : Nat → Int32) (call : Nat → List Value → am_H → Option am_X) (lv : am_L) (st : List Value) (h : am_H) (a : Nat) : am_f d scr L call 106 (n + 1) 82 lv (.ref a :: st) h = (match am_get h a 8 21 with
    | some v => am_f d scr L call 106 n 85 lv (v :: st) h
    | none => none) := k_gf (k := 167) rfl rfl
theorem s_106_85 (d L n : Nat) (scr : Nat → Int32) (call : Nat → List Value → am_H → Option am_X) (lv : am_L) (st : List Value) (h : am_H) : am_f d scr L call 106 (n + 1) 85 lv st h = am_f d scr L call 106 n 86 lv (.int 1 :: st) h := k_nx (i := .iconst 1) rfl rfl
theorem s_106_86 (d L n : Nat) (scr : Nat → Int32) (call : Nat → List Value → am_H → Option am_X) (lv : am_L) (st : List Value) (h : am_H) (x y : Int32) : am_f d scr L call 106 (n + 1) 86 lv (.int y :: .int x :: st) h = am_f d scr L call 106 n 87 lv (.int (x - y) :: st) h := k_nx (i := .isub) rfl rfl
theorem s_106_87 (d L n : Nat) (scr : Nat → Int32) (call : Nat → List Value → am_H → Option am_X) (lv : am_L) (st : List Value) (h : am_H) (a : Nat) (i : Int32) : am_f d scr L call 106 (n + 1) 87 lv (.int i :: .ref a :: st) h = (match am_ild scr L h a i with
    | some x => am_f d scr L call 106 n 88 lv (.int x :: st) h
    | none => none) := k_ia rfl
theorem s_106_88 (d L n : Nat) (scr : Nat → Int32) (call : Nat → List Value → am_H → Option am_X) (lv : am_L) (st : List Value) (h : am_H) (a : Nat) (i : Int32) (x : Int32) : am_f d scr L call 106 (n + 1) 88 lv (.int x :: .int i :: .ref a :: st) h = (match am_ist h a i x with
    | some h' => am_f d scr L call 106 n 89 lv st h'
    | none => none) := k_is rfl
theorem s_106_89 (d L n : Nat) (scr : Nat → Int32) (call : Nat → List Value → am_H → Option am_X) (lv : am_L) (st : List Value) (h : am_H) : am_f d scr L call 106 (n + 1) 89 lv st h = (match am_ld lv 0 with
    | some (.ref x) => am_f d scr L call 106 n 90 lv (.ref x :: st) h
    | _ => none) := k_la (i := .aload_n 0) rfl rfl rfl rfl
theorem s_106_90 (d L n : Nat) (scr : Nat → Int32) (call : Nat → List Value → am_H → Option am_X) (lv : am_L) (st : List Value) (h : am_H) (a : Nat) : am_f d scr L call 106 (n + 1) 90 lv (.ref a :: st) h = (match am_get h a 8 17 with
    | some v => am_f d scr L call 106 n 93 lv (v :: st) h
    | none => none) := k_gf (k := 47) rfl rfl
theorem s_106_93 (d L n : Nat) (scr : Nat → Int32) (call : Nat → List Value → am_H → Option am_X) (lv : am_L) (st : List Value) (h : am_H) : am_f d scr L call 106 (n + 1) 93 lv st h = (match am_ld lv 3 with
    | some (.int x) => am_f d scr L call 106 n 94 lv (.int x :: st) h
    | _ => none) := k_li (i := .iload_n 3) rfl rfl rfl rfl
theorem s_106_94 (d L n : Nat) (scr : Nat → Int32) (call : Nat → List Value → am_H → Option am_X) (lv : am_L) (st : List Value) (h : am_H) : am_f d scr L call 106 (n + 1) 94 lv st h = am_f d scr L call 106 n 95 lv (.int 0 :: st) h := k_nx (i := .iconst 0) rfl rfl
theorem s_106_95 (d L n : Nat) (scr : Nat → Int32) (call : Nat → List Value → am_H → Option am_X) (lv : am_L) (st : List Value) (h : am_H) (a : Nat) (i : Int32) (x : Int32) : am_f d scr L call 106 (n + 1) 95 lv (.int x :: .int i :: .ref a :: st) h = (match am_ist h a i x with
    | some h' => am_f d scr L call 106 n 96 lv st h'
    | none => none) := k_is rfl
theorem s_106_96 (d L n : Nat) (scr : Nat → Int32) (call : Nat → List Value → am_H → Option am_X) (lv : am_L) (st : List Value) (h : am_H) : am_f d scr L call 106 (n + 1) 96 lv st h = (match am_ld lv 0 with
    | some (.ref x) => am_f d scr L call 106 n 97 lv (.ref x :: st) h
    | _ => none) := k_la (i := .aload_n 0) rfl rfl rfl rfl
theorem s_106_97 (d L n : Nat) (scr : Nat → Int32) (call : Nat → List Value → am_H → Option am_X) (lv : am_L) (st : List Value) (h : am_H) (a : Nat) : am_f d scr L call 106 (n + 1) 97 lv (.ref a :: st) h = (match am_get h a 8 11 with
    | some v => am_f d scr L call 106 n 100 lv (v :: st) h
    | none => none) := k_gf (k := 29) rfl rfl
theorem s_106_100 (d L n : Nat) (scr : Nat → Int32) (call : Nat → List Value → am_H → Option am_X) (lv : am_L) (st : List Value) (h : am_H) : am_f d scr L call 106 (n + 1) 100 lv st h = (match am_ld lv 3 with
    | some (.int x) => am_f d scr L call 106 n 101 lv (.int x :: st) h
    | _ => none) := k_li (i := .iload_n 3) rfl rfl rfl rfl
theorem s_106_101 (d L n : Nat) (scr : Nat → Int32) (call : Nat → List Value → am_H → Option am_X) (lv : am_L) (st : List Value) (h : am_H) : am_f d scr L call 106 (n + 1) 101 lv st h = (match am_ld lv 1 with
    | some (.int x) => am_f d scr L call 106 n 102 lv (.int x :: st) h
    | _ => none) := k_li (i := .iload_n 1) rfl rfl rfl rfl
theorem s_106_102 (d L n : Nat) (scr : Nat → Int32) (call : Nat → List Value → am_H → Option am_X) (lv : am_L) (st : List Value) (h : am_H) : am_f d scr L call 106 (n + 1) 102 lv st h = am_f d scr L call 106 n 104 lv (.int 84 :: st) h := k_nx (i := .bipush 84) rfl rfl
theorem s_106_104 (d L n : Nat) (scr : Nat → Int32) (call : Nat → List Value → am_H → Option am_X) (lv : am_L) (st : List Value) (h : am_H) (x y : Int32) : am_f d scr L call 106 (n + 1) 104 lv (.int y :: .int x :: st) h = if ¬ x = y then am_f d scr L call 106 n 111 lv st h else am_f d scr L call 106 n 107 lv st h := k_ic_ne (o := 7) rfl ⟨by decide, rfl⟩
theorem s_106_107 (d L n : Nat) (scr : Nat → Int32) (call : Nat → List Value → am_H → Option am_X) (lv : am_L) (st : List Value) (h : am_H) : am_f d scr L call 106 (n + 1) 107 lv st h = am_f d scr L call 106 n 108 lv (.int 1 :: st) h := k_nx (i := .iconst 1) rfl rfl
theorem s_106_108 (d L n : Nat) (scr : Nat → Int32) (call : Nat → List Value → am_H → Option am_X) (lv : am_L) (st : List Value) (h : am_H) : am_f d scr L call 106 (n + 1) 108 lv st h = am_f d scr L call 106 n 122 lv st h := k_nx (i := .goto 14) rfl rfl
theorem s_106_111 (d L n : Nat) (scr : Nat → Int32) (call : Nat → List Value → am_H → Option am_X) (lv : am_L) (st : List Value) (h : am_H) : am_f d scr L call 106 (n + 1) 111 lv st h = (match am_ld lv 1 with
    | some (.int x) => am_f d scr L call 106 n 112 lv (.int x :: st) h
    | _ => none) := k_li (i := .iload_n 1) rfl rfl rfl rfl
theorem s_106_112 (d L n : Nat) (scr : Nat → Int32) (call : Nat → List Value → am_H → Option am_X) (lv : am_L) (st : List Value) (h : am_H) : am_f d scr L call 106 (n + 1) 112 lv st h = am_f d scr L call 106 n 114 lv (.int 70 :: st) h := k_nx (i := .bipush 70) rfl rfl
theorem s_106_114 (d L n : Nat) (scr : Nat → Int32) (call : Nat → List Value → am_H → Option am_X) (lv : am_L) (st : List Value) (h : am_H) (x y : Int32) : am_f d scr L call 106 (n + 1) 114 lv (.int y :: .int x :: st) h = if ¬ x = y then am_f d scr L call 106 n 121 lv st h else am_f d scr L call 106 n 117 lv st h := k_ic_ne (o := 7) rfl ⟨by decide, rfl⟩
theorem s_106_117 (d L n : Nat) (scr : Nat → Int32) (call : Nat → List Value → am_H → Option am_X) (lv : am_L) (st : List Value) (h : am_H) : am_f d scr L call 106 (n + 1) 117 lv st h = am_f d scr L call 106 n 118 lv (.int 0 :: st) h := k_nx (i := .iconst 0) rfl rfl
theorem s_106_118 (d L n : Nat) (scr : Nat → Int32) (call : Nat → List Value → am_H → Option am_X) (lv : am_L) (st : List Value) (h : am_H) : am_f d scr L call 106 (n + 1) 118 lv st h = am_f d scr L call 106 n 122 lv st h := k_nx (i := .goto 4) rfl rfl
theorem s_106_121 (d L n : Nat) (scr : Nat → Int32) (call : Nat → List Value → am_H → Option am_X) (lv : am_L) (st : List Value) (h : am_H) : am_f d scr L call 106 (n + 1) 121 lv st h = (match am_ld lv 1 with
    | some (.int x) => am_f d scr L call 106 n 122 lv (.int x :: st) h
    | _ => none) := k_li (i := .iload_n 1) rfl rfl rfl rfl
theorem s_106_122 (d L n : Nat) (scr : Nat → Int32) (call : Nat → List Value → am_H → Option am_X) (lv : am_L) (st : List Value) (h : am_H) (a : Nat) (i : Int32) (x : Int32) : am_f d scr L call 106 (n + 1) 122 lv (.int x :: .int i :: .ref a :: st) h = (match am_ist h a i x with
    | some h' => am_f d scr L call 106 n 123 lv st h'
    | none => none) := k_is rfl
theorem s_106_123 (d L n : Nat) (scr : Nat → Int32) (call : Nat → List Value → am_H → Option am_X) (lv : am_L) (st : List Value) (h : am_H) : am_f d scr L call 106 (n + 1) 123 lv st h = (match am_ld lv 0 with
    | some (.ref x) => am_f d scr L call 106 n 124 lv (.ref x :: st) h
    | _ => none) := k_la (i := .aload_n 0) rfl rfl rfl rfl
theorem s_106_124 (d L n : Nat) (scr : Nat → Int32) (call : Nat → List Value → am_H → Option am_X) (lv : am_L) (st : List Value) (h : am_H) (x : Nat) : am_f d scr L call 106 (n + 1) 124 lv (.ref x :: st) h = am_f d scr L call 106 n 125 lv (.ref x :: .ref x :: st) h := k_nx (i := .dup) rfl rfl
theorem s_106_125 (d L n : Nat) (scr : Nat → Int32) (call : Nat → List Value → am_H → Option am_X) (lv : am_L) (st : List Value) (h : am_H) (a : Nat) : am_f d scr L call 106 (n + 1) 125 lv (.ref a :: st) h = (match am_get h a 8 20 with
    | some v => am_f d scr L call 106 n 128 lv (v :: st) h
    | none => none) := k_gf (k := 139) rfl rfl
theorem s_106_128 (d L n : Nat) (scr : Nat → Int32) (call : Nat → List Value → am_H → Option am_X) (lv : am_L) (st : List Value) (h : am_H) : am_f d scr L call 106 (n + 1) 128 lv st h = am_f d scr L call 106 n 129 lv (.int 1 :: st) h := k_nx (i := .iconst 1) rfl rfl
theorem s_106_129 (d L n : Nat) (scr : Nat → Int32) (call : Nat → List Value → am_H → Option am_X) (lv : am_L) (st : List Value) (h : am_H) (x y : Int32) : am_f d scr L call 106 (n + 1) 129 lv (.int y :: .int x :: st) h = am_f d scr L call 106 n 130 lv (.int (x + y) :: st) h := k_nx (i := .iadd) rfl rfl
theorem s_106_130 (d L n : Nat) (scr : Nat → Int32) (call : Nat → List Value → am_H → Option am_X) (lv : am_L) (st : List Value) (h : am_H) (x : Int32) (a : Nat) : am_f d scr L call 106 (n + 1) 130 lv (.int x :: .ref a :: st) h = (match am_put h a 8 20 (.int x) with
    | some h' => am_f d scr L call 106 n 133 lv st h'
    | none => none) := k_pf (k := 139) rfl rfl rfl
theorem s_106_133 (d L n : Nat) (scr : Nat → Int32) (call : Nat → List Value → am_H → Option am_X) (lv : am_L) (st : List Value) (h : am_H) : am_f d scr L call 106 (n + 1) 133 lv st h = (match am_ld lv 2 with
    | some (.int x) => am_f d scr L call 106 n 134 lv (.int x :: st) h
    | _ => none) := k_li (i := .iload_n 2) rfl rfl rfl rfl
set_option maxRecDepth 100000 in
theorem s_106_134 (d L n : Nat) (scr : Nat → Int32) (call : Nat → List Value → am_H → Option am_X) (lv : am_L) (st : List Value) (h : am_H) (x : Int32) : am_f d scr L call 106 (n + 1) 134 lv (.int x :: st) h = if ¬ x = 0 then am_f d scr L call 106 n 210 lv st h else am_f d scr L call 106 n 137 lv st h := k_if_ne (o := 76) rfl ⟨by decide, rfl⟩
set_option maxRecDepth 100000 in
theorem s_106_137 (d L n : Nat) (scr : Nat → Int32) (call : Nat → List Value → am_H → Option am_X) (lv : am_L) (st : List Value) (h : am_H) : am_f d scr L call 106 (n + 1) 137 lv st h = (match am_ld lv 0 with
    | some (.ref x) => am_f d scr L call 106 n 138 lv (.ref x :: st) h
    | _ => none) := k_la (i := .aload_n 0) rfl rfl rfl rfl
set_option maxRecDepth 100000 in
theorem s_106_138 (d L n : Nat) (scr : Nat → Int32) (call : Nat → List Value → am_H → Option am_X) (lv : am_L) (st : List Value) (h : am_H) (a : Nat) : am_f d scr L call 106 (n + 1) 138 lv (.ref a :: st) h = (match am_get h a 8 11 with
    | some v => am_f d scr L call 106 n 141 lv (v :: st) h
    | none => none) := k_gf (k := 29) rfl rfl
set_option maxRecDepth 100000 in
theorem s_106_141 (d L n : Nat) (scr : Nat → Int32) (call : Nat → List Value → am_H → Option am_X) (lv : am_L) (st : List Value) (h : am_H) : am_f d scr L call 106 (n + 1) 141 lv st h = (match am_ld lv 3 with
    | some (.int x) => am_f d scr L call 106 n 142 lv (.int x :: st) h
    | _ => none) := k_li (i := .iload_n 3) rfl rfl rfl rfl
set_option maxRecDepth 100000 in
theorem s_106_142 (d L n : Nat) (scr : Nat → Int32) (call : Nat → List Value → am_H → Option am_X) (lv : am_L) (st : List Value) (h : am_H) : am_f d scr L call 106 (n + 1) 142 lv st h = (match am_ld lv 1 with
    | some (.int x) => am_f d scr L call 106 n 143 lv (.int x :: st) h
    | _ => none) := k_li (i := .iload_n 1) rfl rfl rfl rfl
set_option maxRecDepth 100000 in
theorem s_106_143 (d L n : Nat) (scr : Nat → Int32) (call : Nat → List Value → am_H → Option am_X) (lv : am_L) (st : List Value) (h : am_H) : am_f d scr L call 106 (n + 1) 143 lv st h = am_f d scr L call 106 n 145 lv (.int 48 :: st) h := k_nx (i := .bipush 48) rfl rfl
set_option maxRecDepth 100000 in
theorem s_106_145 (d L n : Nat) (scr : Nat → Int32) (call : Nat → List Value → am_H → Option am_X) (lv : am_L) (st : List Value) (h : am_H) (x y : Int32) : am_f d scr L call 106 (n + 1) 145 lv (.int y :: .int x :: st) h = am_f d scr L call 106 n 146 lv (.int (x - y) :: st) h := k_nx (i := .isub) rfl rfl
set_option maxRecDepth 100000 in
theorem s_106_146 (d L n : Nat) (scr : Nat → Int32) (call : Nat → List Value → am_H → Option am_X) (lv : am_L) (st : List Value) (h : am_H) (a : Nat) (i : Int32) (x : Int32) : am_f d scr L call 106 (n + 1) 146 lv (.int x :: .int i :: .ref a :: st) h = (match am_ist h a i x with
    | some h' => am_f d scr L call 106 n 147 lv st h'
    | none => none) := k_is rfl
set_option maxRecDepth 100000 in
theorem s_106_147 (d L n : Nat) (scr : Nat → Int32) (call : Nat → List Value → am_H → Option am_X) (lv : am_L) (st : List Value) (h : am_H) : am_f d scr L call 106 (n + 1) 147 lv st h = am_f d scr L call 106 n 148 lv (.int 0 :: st) h := k_nx (i := .iconst 0) rfl rfl
set_option maxRecDepth 100000 in
theorem s_106_148 (d L n : Nat) (scr : Nat → Int32) (call : Nat → List Value → am_H → Option am_X) (lv : am_L) (st : List Value) (h : am_H) (x : Int32) : am_f d scr L call 106 (n + 1) 148 lv (.int x :: st) h = am_f d scr L call 106 n 150 (am_st1 lv 4 (.int x)) st h := k_nx (i := .istore 4) rfl rfl
set_option maxRecDepth 100000 in
theorem s_106_150 (d L n : Nat) (scr : Nat → Int32) (call : Nat → List Value → am_H → Option am_X) (lv : am_L) (st : List Value) (h : am_H) : am_f d scr L call 106 (n + 1) 150 lv st h = (match am_ld lv 4 with
    | some (.int x) => am_f d scr L call 106 n 152 lv (.int x :: st) h
    | _ => none) := k_li (i := .iload 4) rfl rfl rfl rfl
set_option maxRecDepth 100000 in
theorem s_106_152 (d L n : Nat) (scr : Nat → Int32) (call : Nat → List Value → am_H → Option am_X) (lv : am_L) (st : List Value) (h : am_H) : am_f d scr L call 106 (n + 1) 152 lv st h = am_f d scr L call 106 n 153 lv (.int 2 :: st) h := k_nx (i := .iconst 2) rfl rfl
set_option maxRecDepth 100000 in
theorem s_106_153 (d L n : Nat) (scr : Nat → Int32) (call : Nat → List Value → am_H → Option am_X) (lv : am_L) (st : List Value) (h : am_H) (x y : Int32) : am_f d scr L call 106 (n + 1) 153 lv (.int y :: .int x :: st) h = if y ≤ x then am_f d scr L call 106 n 207 lv st h else am_f d scr L call 106 n 156 lv st h := k_ic_ge (o := 54) rfl ⟨by decide, rfl⟩
set_option maxRecDepth 100000 in
theorem s_106_156 (d L n : Nat) (scr : Nat → Int32) (call : Nat → List Value → am_H → Option am_X) (lv : am_L) (st : List Value) (h : am_H) : am_f d scr L call 106 (n + 1) 156 lv st h = (match am_ld lv 0 with
    | some (.ref x) => am_f d scr L call 106 n 157 lv (.ref x :: st) h
    | _ => none) := k_la (i := .aload_n 0) rfl rfl rfl rfl
set_option maxRecDepth 100000 in
theorem s_106_157 (d L n : Nat) (scr : Nat → Int32) (call : Nat → List Value → am_H → Option am_X) (lv : am_L) (st : List Value) (h : am_H) : am_f d scr L call 106 (n + 1) 157 lv st h = am_f d scr L call 106 n 158 lv (.int 0 :: st) h := k_nx (i := .iconst 0) rfl rfl
set_option maxRecDepth 100000 in
theorem s_106_158 (d L n : Nat) (scr : Nat → Int32) (call : Nat → List Value → am_H → Option am_X) (lv : am_L) (h : am_H) (o : Nat) (a0 : Int32)  : am_f d scr L call 106 (n + 1) 158 lv (.int a0 :: .ref o :: []) h = if am_at h o 8 = true then (match call 100 [.ref o, .int a0] h with
    | some (v, h', dk, dn) => am_add dk dn (am_f d scr L call 106 n 161 lv (v.toList ++ []) h')
    | none => none) else none := k_iv0 (k := 142) (as := [.int a0]) (r := []) rfl rfl rfl rfl (Nat.le_of_ble_eq_true rfl)
set_option maxRecDepth 100000 in
theorem s_106_161 (d L n : Nat) (scr : Nat → Int32) (call : Nat → List Value → am_H → Option am_X) (lv : am_L) (h : am_H) (a0 : Int32)  : am_f d scr L call 106 (n + 1) 161 lv (.int a0 :: []) h = (match call 103 [.int a0] h with
    | some (v, h', dk, dn) => am_add dk dn (am_f d scr L call 106 n 164 lv (v.toList ++ []) h')
    | none => none) := k_iv1 (k := 157) (as := [.int a0]) (r := []) rfl rfl rfl rfl (Nat.le_of_ble_eq_true rfl)
set_option maxRecDepth 100000 in
theorem s_106_164 (d L n : Nat) (scr : Nat → Int32) (call : Nat → List Value → am_H → Option am_X) (lv : am_L) (st : List Value) (h : am_H) (x : Int32) : am_f d scr L call 106 (n + 1) 164 lv (.int x :: st) h = if x = 0 then am_f d scr L call 106 n 207 lv st h else am_f d scr L call 106 n 167 lv st h := k_if_eq (o := 43) rfl ⟨by decide, rfl⟩
set_option maxRecDepth 100000 in
theorem s_106_167 (d L n : Nat) (scr : Nat → Int32) (call : Nat → List Value → am_H → Option am_X) (lv : am_L) (st : List Value) (h : am_H) : am_f d scr L call 106 (n + 1) 167 lv st h = (match am_ld lv 0 with
    | some (.ref x) => am_f d scr L call 106 n 168 lv (.ref x :: st) h
    | _ => none) := k_la (i := .aload_n 0) rfl rfl rfl rfl
set_option maxRecDepth 100000 in
theorem s_106_168 (d L n : Nat) (scr : Nat → Int32) (call : Nat → List Value → am_H → Option am_X) (lv : am_L) (st : List Value) (h : am_H) (a : Nat) : am_f d scr L call 106 (n + 1) 168 lv (.ref a :: st) h = (match am_get h a 8 11 with
    | some v => am_f d scr L call 106 n 171 lv (v :: st) h
    | none => none) := k_gf (k := 29) rfl rfl
set_option maxRecDepth 100000 in
theorem s_106_171 (d L n : Nat) (scr : Nat → Int32) (call : Nat → List Value → am_H → Option am_X) (lv : am_L) (st : List Value) (h : am_H) : am_f d scr L call 106 (n + 1) 171 lv st h = (match am_ld lv 3 with
    | some (.int x) => am_f d scr L call 106 n 172 lv (.int x :: st) h
    | _ => none) := k_li (i := .iload_n 3) rfl rfl rfl rfl
set_option maxRecDepth 100000 in
theorem s_106_172 (d L n : Nat) (scr : Nat → Int32) (call : Nat → List Value → am_H → Option am_X) (lv : am_L) (st : List Value) (h : am_H) : am_f d scr L call 106 (n + 1) 172 lv st h = am_f d scr L call 106 n 174 lv (.int 10 :: st) h := k_nx (i := .bipush 10) rfl rfl
set_option maxRecDepth 100000 in
theorem s_106_174 (d L n : Nat) (scr : Nat → Int32) (call : Nat → List Value → am_H → Option am_X) (lv : am_L) (st : List Value) (h : am_H) : am_f d scr L call 106 (n + 1) 174 lv st h = (match am_ld lv 0 with
    | some (.ref x) => am_f d scr L call 106 n 175 lv (.ref x :: st) h
    | _ => none) := k_la (i := .aload_n 0) rfl rfl rfl rfl
set_option maxRecDepth 100000 in
theorem s_106_175 (d L n : Nat) (scr : Nat → Int32) (call : Nat → List Value → am_H → Option am_X) (lv : am_L) (st : List Value) (h : am_H) (a : Nat) : am_f d scr L call 106 (n + 1) 175 lv (.ref a :: st) h = (match am_get h a 8 11 with
    | some v => am_f d scr L call 106 n 178 lv (v :: st) h
    | none => none) := k_gf (k := 29) rfl rfl
set_option maxRecDepth 100000 in
theorem s_106_178 (d L n : Nat) (scr : Nat → Int32) (call : Nat → List Value → am_H → Option am_X) (lv : am_L) (st : List Value) (h : am_H) : am_f d scr L call 106 (n + 1) 178 lv st h = (match am_ld lv 3 with
    | some (.int x) => am_f d scr L call 106 n 179 lv (.int x :: st) h
    | _ => none) := k_li (i := .iload_n 3) rfl rfl rfl rfl
set_option maxRecDepth 100000 in
theorem s_106_179 (d L n : Nat) (scr : Nat → Int32) (call : Nat → List Value → am_H → Option am_X) (lv : am_L) (st : List Value) (h : am_H) (a : Nat) (i : Int32) : am_f d scr L call 106 (n + 1) 179 lv (.int i :: .ref a :: st) h = (match am_ild scr L h a i with
    | some x => am_f d scr L call 106 n 180 lv (.int x :: st) h
    | none => none) := k_ia rfl
set_option maxRecDepth 100000 in
theorem s_106_180 (d L n : Nat) (scr : Nat → Int32) (call : Nat → List Value → am_H → Option am_X) (lv : am_L) (st : List Value) (h : am_H) (x y : Int32) : am_f d scr L call 106 (n + 1) 180 lv (.int y :: .int x :: st) h = am_f d scr L call 106 n 181 lv (.int (x * y) :: st) h := k_nx (i := .imul) rfl rfl
set_option maxRecDepth 100000 in
theorem s_106_181 (d L n : Nat) (scr : Nat → Int32) (call : Nat → List Value → am_H → Option am_X) (lv : am_L) (st : List Value) (h : am_H) : am_f d scr L call 106 (n + 1) 181 lv st h = (match am_ld lv 0 with
    | some (.ref x) => am_f d scr L call 106 n 182 lv (.ref x :: st) h
    | _ => none) := k_la (i := .aload_n 0) rfl rfl rfl rfl
set_option maxRecDepth 100000 in
theorem s_106_182 (d L n : Nat) (scr : Nat → Int32) (call : Nat → List Value → am_H → Option am_X) (lv : am_L) (st : List Value) (h : am_H) : am_f d scr L call 106 (n + 1) 182 lv st h = am_f d scr L call 106 n 183 lv (.int 0 :: st) h := k_nx (i := .iconst 0) rfl rfl
set_option maxRecDepth 100000 in
theorem s_106_183 (d L n : Nat) (scr : Nat → Int32) (call : Nat → List Value → am_H → Option am_X) (lv : am_L) (h : am_H) (o : Nat) (a0 : Int32) (r0 : Int32) (r1 : Int32) (r2 : Nat) : am_f d scr L call 106 (n + 1) 183 lv (.int a0 :: .ref o :: .int r0 :: .int r1 :: .ref r2 :: []) h = if am_at h o 8 = true then (match call 100 [.ref o, .int a0] h with
    | some (v, h', dk, dn) => am_add dk dn (am_f d scr L call 106 n 186 lv (v.toList ++ [.int r0, .int r1, .ref r2]) h')
    | none => none) else none := k_iv0 (k := 142) (as := [.int a0]) (r := [.int r0, .int r1, .ref r2]) rfl rfl rfl rfl (Nat.le_of_ble_eq_true rfl)
set_option maxRecDepth 100000 in
theorem s_106_186 (d L n : Nat) (scr : Nat → Int32) (call : Nat → List Value → am_H → Option am_X) (lv : am_L) (st : List Value) (h : am_H) (x y : Int32) : am_f d scr L call 106 (n + 1) 186 lv (.int y :: .int x :: st) h = am_f d scr L call 106 n 187 lv (.int (x + y) :: st) h := k_nx (i := .iadd) rfl rfl
set_option maxRecDepth 100000 in
theorem s_106_187 (d L n : Nat) (scr : Nat → Int32) (call : Nat → List Value → am_H → Option am_X) (lv : am_L) (st : List Value) (h : am_H) : am_f d scr L call 106 (n + 1) 187 lv st h = am_f d scr L call 106 n 189 lv (.int 48 :: st) h := k_nx (i := .bipush 48) rfl rfl
set_option maxRecDepth 100000 in
theorem s_106_189 (d L n : Nat) (scr : Nat → Int32) (call : Nat → List Value → am_H → Option am_X) (lv : am_L) (st : List Value) (h : am_H) (x y : Int32) : am_f d scr L call 106 (n + 1) 189 lv (.int y :: .int x :: st) h = am_f d scr L call 106 n 190 lv (.int (x - y) :: st) h := k_nx (i := .isub) rfl rfl
set_option maxRecDepth 100000 in
theorem s_106_190 (d L n : Nat) (scr : Nat → Int32) (call : Nat → List Value → am_H → Option am_X) (lv : am_L) (st : List Value) (h : am_H) (a : Nat) (i : Int32) (x : Int32) : am_f d scr L call 106 (n + 1) 190 lv (.int x :: .int i :: .ref a :: st) h = (match am_ist h a i x with
    | some h' => am_f d scr L call 106 n 191 lv st h'
    | none => none) := k_is rfl
set_option maxRecDepth 100000 in
theorem s_106_191 (d L n : Nat) (scr : Nat → Int32) (call : Nat → List Value → am_H → Option am_X) (lv : am_L) (st : List Value) (h : am_H) : am_f d scr L call 106 (n + 1) 191 lv st h = (match am_ld lv 0 with
    | some (.ref x) => am_f d scr L call 106 n 192 lv (.ref x :: st) h
    | _ => none) := k_la (i := .aload_n 0) rfl rfl rfl rfl
set_option maxRecDepth 100000 in
theorem s_106_192 (d L n : Nat) (scr : Nat → Int32) (call : Nat → List Value → am_H → Option am_X) (lv : am_L) (st : List Value) (h : am_H) (x : Nat) : am_f d scr L call 106 (n + 1) 192 lv (.ref x :: st) h = am_f d scr L call 106 n 193 lv (.ref x :: .ref x :: st) h := k_nx (i := .dup) rfl rfl
set_option maxRecDepth 100000 in
theorem s_106_193 (d L n : Nat) (scr : Nat → Int32) (call : Nat → List Value → am_H → Option am_X) (lv : am_L) (st : List Value) (h : am_H) (a : Nat) : am_f d scr L call 106 (n + 1) 193 lv (.ref a :: st) h = (match am_get h a 8 20 with
    | some v => am_f d scr L call 106 n 196 lv (v :: st) h
    | none => none) := k_gf (k := 139) rfl rfl
set_option maxRecDepth 100000 in
theorem s_106_196 (d L n : Nat) (scr : Nat → Int32) (call : Nat → List Value → am_H → Option am_X) (lv : am_L) (st : List Value) (h : am_H) : am_f d scr L call 106 (n + 1) 196 lv st h = am_f d scr L call 106 n 197 lv (.int 1 :: st) h := k_nx (i := .iconst 1) rfl rfl
set_option maxRecDepth 100000 in
theorem s_106_197 (d L n : Nat) (scr : Nat → Int32) (call : Nat → List Value → am_H → Option am_X) (lv : am_L) (st : List Value) (h : am_H) (x y : Int32) : am_f d scr L call 106 (n + 1) 197 lv (.int y :: .int x :: st) h = am_f d scr L call 106 n 198 lv (.int (x + y) :: st) h := k_nx (i := .iadd) rfl rfl
set_option maxRecDepth 100000 in
theorem s_106_198 (d L n : Nat) (scr : Nat → Int32) (call : Nat → List Value → am_H → Option am_X) (lv : am_L) (st : List Value) (h : am_H) (x : Int32) (a : Nat) : am_f d scr L call 106 (n + 1) 198 lv (.int x :: .ref a :: st) h = (match am_put h a 8 20 (.int x) with
    | some h' => am_f d scr L call 106 n 201 lv st h'
    | none => none) := k_pf (k := 139) rfl rfl rfl
set_option maxRecDepth 100000 in
theorem s_106_201 (d L n : Nat) (scr : Nat → Int32) (call : Nat → List Value → am_H → Option am_X) (lv : am_L) (st : List Value) (h : am_H) : am_f d scr L call 106 (n + 1) 201 lv st h = (match am_ld lv 4 with
    | some (.int x) => am_f d scr L call 106 n 204 (am_st1 lv 4 (.int (x + 1))) st h
    | _ => none) := k_iinc (k := 4) (c := 1) rfl rfl (Nat.le_of_ble_eq_true rfl)
set_option maxRecDepth 100000 in
theorem s_106_204 (d L n : Nat) (scr : Nat → Int32) (call : Nat → List Value → am_H → Option am_X) (lv : am_L) (st : List Value) (h : am_H) : am_f d scr L call 106 (n + 1) 204 lv st h = am_f d scr L call 106 n 150 lv st h := k_nx (i := .goto (-54)) rfl rfl
set_option maxRecDepth 100000 in
theorem s_106_207 (d L n : Nat) (scr : Nat → Int32) (call : Nat → List Value → am_H → Option am_X) (lv : am_L) (st : List Value) (h : am_H) : am_f d scr L call 106 (n + 1) 207 lv st h = am_f d scr L call 106 n 309 lv st h := k_nx (i := .goto 102) rfl rfl
set_option maxRecDepth 100000 in
theorem s_106_210 (d L n : Nat) (scr : Nat → Int32) (call : Nat → List Value → am_H → Option am_X) (lv : am_L) (st : List Value) (h : am_H) : am_f d scr L call 106 (n + 1) 210 lv st h = (match am_ld lv 2 with
    | some (.int x) => am_f d scr L call 106 n 211 lv (.int x :: st) h
    | _ => none) := k_li (i := .iload_n 2) rfl rfl rfl rfl
set_option maxRecDepth 100000 in
theorem s_106_211 (d L n : Nat) (scr : Nat → Int32) (call : Nat → List Value → am_H → Option am_X) (lv : am_L) (st : List Value) (h : am_H) : am_f d scr L call 106 (n + 1) 211 lv st h = am_f d scr L call 106 n 212 lv (.int 3 :: st) h := k_nx (i := .iconst 3) rfl rfl
set_option maxRecDepth 100000 in
theorem s_106_212 (d L n : Nat) (scr : Nat → Int32) (call : Nat → List Value → am_H → Option am_X) (lv : am_L) (st : List Value) (h : am_H) (x y : Int32) : am_f d scr L call 106 (n + 1) 212 lv (.int y :: .int x :: st) h = if ¬ x = y then am_f d scr L call 106 n 309 lv st h else am_f d scr L call 106 n 215 lv st h := k_ic_ne (o := 97) rfl ⟨by decide, rfl⟩
set_option maxRecDepth 100000 in
theorem s_106_215 (d L n : Nat) (scr : Nat → Int32) (call : Nat → List Value → am_H → Option am_X) (lv : am_L) (st : List Value) (h : am_H) : am_f d scr L call 106 (n + 1) 215 lv st h = (match am_ld lv 0 with
    | some (.ref x) => am_f d scr L call 106 n 216 lv (.ref x :: st) h
    | _ => none) := k_la (i := .aload_n 0) rfl rfl rfl rfl
set_option maxRecDepth 100000 in
theorem s_106_216 (d L n : Nat) (scr : Nat → Int32) (call : Nat → List Value → am_H → Option am_X) (lv : am_L) (st : List Value) (h : am_H) (a : Nat) : am_f d scr L call 106 (n + 1) 216 lv (.ref a :: st) h = (match am_get h a 8 11 with
    | some v => am_f d scr L call 106 n 219 lv (v :: st) h
    | none => none) := k_gf (k := 29) rfl rfl
set_option maxRecDepth 100000 in
theorem s_106_219 (d L n : Nat) (scr : Nat → Int32) (call : Nat → List Value → am_H → Option am_X) (lv : am_L) (st : List Value) (h : am_H) : am_f d scr L call 106 (n + 1) 219 lv st h = (match am_ld lv 3 with
    | some (.int x) => am_f d scr L call 106 n 220 lv (.int x :: st) h
    | _ => none) := k_li (i := .iload_n 3) rfl rfl rfl rfl
set_option maxRecDepth 100000 in
theorem s_106_220 (d L n : Nat) (scr : Nat → Int32) (call : Nat → List Value → am_H → Option am_X) (lv : am_L) (st : List Value) (h : am_H) : am_f d scr L call 106 (n + 1) 220 lv st h = (match am_ld lv 0 with
    | some (.ref x) => am_f d scr L call 106 n 221 lv (.ref x :: st) h
    | _ => none) := k_la (i := .aload_n 0) rfl rfl rfl rfl
set_option maxRecDepth 100000 in
theorem s_106_221 (d L n : Nat) (scr : Nat → Int32) (call : Nat → List Value → am_H → Option am_X) (lv : am_L) (st : List Value) (h : am_H) : am_f d scr L call 106 (n + 1) 221 lv st h = am_f d scr L call 106 n 222 lv (.int 0 :: st) h := k_nx (i := .iconst 0) rfl rfl
set_option maxRecDepth 100000 in
theorem s_106_222 (d L n : Nat) (scr : Nat → Int32) (call : Nat → List Value → am_H → Option am_X) (lv : am_L) (h : am_H) (o : Nat) (a0 : Int32) (r0 : Int32) (r1 : Nat) : am_f d scr L call 106 (n + 1) 222 lv (.int a0 :: .ref o :: .int r0 :: .ref r1 :: []) h = if am_at h o 8 = true then (match call 100 [.ref o, .int a0] h with
    | some (v, h', dk, dn) => am_add dk dn (am_f d scr L call 106 n 225 lv (v.toList ++ [.int r0, .ref r1]) h')
    | none => none) else none := k_iv0 (k := 142) (as := [.int a0]) (r := [.int r0, .ref r1]) rfl rfl rfl rfl (Nat.le_of_ble_eq_true rfl)
set_option maxRecDepth 100000 in
theorem s_106_225 (d L n : Nat) (scr : Nat → Int32) (call : Nat → List Value → am_H → Option am_X) (lv : am_L) (st : List Value) (h : am_H) (a : Nat) (i : Int32) (x : Int32) : am_f d scr L call 106 (n + 1) 225 lv (.int x :: .int i :: .ref a :: st) h = (match am_ist h a i x with
    | some h' => am_f d scr L call 106 n 226 lv st h'
    | none => none) := k_is rfl
set_option maxRecDepth 100000 in
theorem s_106_226 (d L n : Nat) (scr : Nat → Int32) (call : Nat → List Value → am_H → Option am_X) (lv : am_L) (st : List Value) (h : am_H) : am_f d scr L call 106 (n + 1) 226 lv st h = (match am_ld lv 0 with
    | some (.ref x) => am_f d scr L call 106 n 227 lv (.ref x :: st) h
    | _ => none) := k_la (i := .aload_n 0) rfl rfl rfl rfl
set_option maxRecDepth 100000 in
theorem s_106_227 (d L n : Nat) (scr : Nat → Int32) (call : Nat → List Value → am_H → Option am_X) (lv : am_L) (st : List Value) (h : am_H) : am_f d scr L call 106 (n + 1) 227 lv st h = am_f d scr L call 106 n 228 lv (.int 0 :: st) h := k_nx (i := .iconst 0) rfl rfl
set_option maxRecDepth 100000 in
theorem s_106_228 (d L n : Nat) (scr : Nat → Int32) (call : Nat → List Value → am_H → Option am_X) (lv : am_L) (h : am_H) (o : Nat) (a0 : Int32)  : am_f d scr L call 106 (n + 1) 228 lv (.int a0 :: .ref o :: []) h = if am_at h o 8 = true then (match call 100 [.ref o, .int a0] h with
    | some (v, h', dk, dn) => am_add dk dn (am_f d scr L call 106 n 231 lv (v.toList ++ []) h')
    | none => none) else none := k_iv0 (k := 142) (as := [.int a0]) (r := []) rfl rfl rfl rfl (Nat.le_of_ble_eq_true rfl)
set_option maxRecDepth 100000 in
theorem s_106_231 (d L n : Nat) (scr : Nat → Int32) (call : Nat → List Value → am_H → Option am_X) (lv : am_L) (h : am_H) (a0 : Int32)  : am_f d scr L call 106 (n + 1) 231 lv (.int a0 :: []) h = (match call 102 [.int a0] h with
    | some (v, h', dk, dn) => am_add dk dn (am_f d scr L call 106 n 234 lv (v.toList ++ []) h')
    | none => none) := k_iv1 (k := 160) (as := [.int a0]) (r := []) rfl rfl rfl rfl (Nat.le_of_ble_eq_true rfl)
set_option maxRecDepth 100000 in
theorem s_106_234 (d L n : Nat) (scr : Nat → Int32) (call : Nat → List Value → am_H → Option am_X) (lv : am_L) (st : List Value) (h : am_H) (x : Int32) : am_f d scr L call 106 (n + 1) 234 lv (.int x :: st) h = if x = 0 then am_f d scr L call 106 n 251 lv st h else am_f d scr L call 106 n 237 lv st h := k_if_eq (o := 17) rfl ⟨by decide, rfl⟩
set_option maxRecDepth 100000 in
theorem s_106_237 (d L n : Nat) (scr : Nat → Int32) (call : Nat → List Value → am_H → Option am_X) (lv : am_L) (st : List Value) (h : am_H) : am_f d scr L call 106 (n + 1) 237 lv st h = (match am_ld lv 0 with
    | some (.ref x) => am_f d scr L call 106 n 238 lv (.ref x :: st) h
    | _ => none) := k_la (i := .aload_n 0) rfl rfl rfl rfl
set_option maxRecDepth 100000 in
theorem s_106_238 (d L n : Nat) (scr : Nat → Int32) (call : Nat → List Value → am_H → Option am_X) (lv : am_L) (st : List Value) (h : am_H) : am_f d scr L call 106 (n + 1) 238 lv st h = am_f d scr L call 106 n 239 lv (.int 1 :: st) h := k_nx (i := .iconst 1) rfl rfl
set_option maxRecDepth 100000 in
theorem s_106_239 (d L n : Nat) (scr : Nat → Int32) (call : Nat → List Value → am_H → Option am_X) (lv : am_L) (h : am_H) (o : Nat) (a0 : Int32)  : am_f d scr L call 106 (n + 1) 239 lv (.int a0 :: .ref o :: []) h = if am_at h o 8 = true then (match call 100 [.ref o, .int a0] h with
    | some (v, h', dk, dn) => am_add dk dn (am_f d scr L call 106 n 242 lv (v.toList ++ []) h')
    | none => none) else none := k_iv0 (k := 142) (as := [.int a0]) (r := []) rfl rfl rfl rfl (Nat.le_of_ble_eq_true rfl)
set_option maxRecDepth 100000 in
theorem s_106_242 (d L n : Nat) (scr : Nat → Int32) (call : Nat → List Value → am_H → Option am_X) (lv : am_L) (st : List Value) (h : am_H) : am_f d scr L call 106 (n + 1) 242 lv st h = am_f d scr L call 106 n 244 lv (.int 58 :: st) h := k_nx (i := .bipush 58) rfl rfl
set_option maxRecDepth 100000 in
theorem s_106_244 (d L n : Nat) (scr : Nat → Int32) (call : Nat → List Value → am_H → Option am_X) (lv : am_L) (st : List Value) (h : am_H) (x y : Int32) : am_f d scr L call 106 (n + 1) 244 lv (.int y :: .int x :: st) h = if ¬ x = y then am_f d scr L call 106 n 251 lv st h else am_f d scr L call 106 n 247 lv st h := k_ic_ne (o := 7) rfl ⟨by decide, rfl⟩
set_option maxRecDepth 100000 in
theorem s_106_247 (d L n : Nat) (scr : Nat → Int32) (call : Nat → List Value → am_H → Option am_X) (lv : am_L) (st : List Value) (h : am_H) : am_f d scr L call 106 (n + 1) 247 lv st h = am_f d scr L call 106 n 248 lv (.int 1 :: st) h := k_nx (i := .iconst 1) rfl rfl
set_option maxRecDepth 100000 in
theorem s_106_248 (d L n : Nat) (scr : Nat → Int32) (call : Nat → List Value → am_H → Option am_X) (lv : am_L) (st : List Value) (h : am_H) : am_f d scr L call 106 (n + 1) 248 lv st h = am_f d scr L call 106 n 252 lv st h := k_nx (i := .goto 4) rfl rfl
set_option maxRecDepth 100000 in
theorem s_106_251 (d L n : Nat) (scr : Nat → Int32) (call : Nat → List Value → am_H → Option am_X) (lv : am_L) (st : List Value) (h : am_H) : am_f d scr L call 106 (n + 1) 251 lv st h = am_f d scr L call 106 n 252 lv (.int 0 :: st) h := k_nx (i := .iconst 0) rfl rfl
set_option maxRecDepth 100000 in
theorem s_106_252 (d L n : Nat) (scr : Nat → Int32) (call : Nat → List Value → am_H → Option am_X) (lv : am_L) (st : List Value) (h : am_H) (x : Int32) : am_f d scr L call 106 (n + 1) 252 lv (.int x :: st) h = am_f d scr L call 106 n 254 (am_st1 lv 4 (.int x)) st h := k_nx (i := .istore 4) rfl rfl
set_option maxRecDepth 100000 in
theorem s_106_254 (d L n : Nat) (scr : Nat → Int32) (call : Nat → List Value → am_H → Option am_X) (lv : am_L) (st : List Value) (h : am_H) : am_f d scr L call 106 (n + 1) 254 lv st h = (match am_ld lv 0 with
    | some (.ref x) => am_f d scr L call 106 n 255 lv (.ref x :: st) h
    | _ => none) := k_la (i := .aload_n 0) rfl rfl rfl rfl
set_option maxRecDepth 100000 in
theorem s_106_255 (d L n : Nat) (scr : Nat → Int32) (call : Nat → List Value → am_H → Option am_X) (lv : am_L) (st : List Value) (h : am_H) (x : Nat) : am_f d scr L call 106 (n + 1) 255 lv (.ref x :: st) h = am_f d scr L call 106 n 256 lv (.ref x :: .ref x :: st) h := k_nx (i := .dup) rfl rfl
set_option maxRecDepth 100000 in
theorem s_106_256 (d L n : Nat) (scr : Nat → Int32) (call : Nat → List Value → am_H → Option am_X) (lv : am_L) (st : List Value) (h : am_H) (a : Nat) : am_f d scr L call 106 (n + 1) 256 lv (.ref a :: st) h = (match am_get h a 8 20 with
    | some v => am_f d scr L call 106 n 259 lv (v :: st) h
    | none => none) := k_gf (k := 139) rfl rfl
set_option maxRecDepth 100000 in
theorem s_106_259 (d L n : Nat) (scr : Nat → Int32) (call : Nat → List Value → am_H → Option am_X) (lv : am_L) (st : List Value) (h : am_H) : am_f d scr L call 106 (n + 1) 259 lv st h = am_f d scr L call 106 n 260 lv (.int 2 :: st) h := k_nx (i := .iconst 2) rfl rfl
set_option maxRecDepth 100000 in
theorem s_106_260 (d L n : Nat) (scr : Nat → Int32) (call : Nat → List Value → am_H → Option am_X) (lv : am_L) (st : List Value) (h : am_H) (x y : Int32) : am_f d scr L call 106 (n + 1) 260 lv (.int y :: .int x :: st) h = am_f d scr L call 106 n 261 lv (.int (x + y) :: st) h := k_nx (i := .iadd) rfl rfl
set_option maxRecDepth 100000 in
theorem s_106_261 (d L n : Nat) (scr : Nat → Int32) (call : Nat → List Value → am_H → Option am_X) (lv : am_L) (st : List Value) (h : am_H) (x : Int32) (a : Nat) : am_f d scr L call 106 (n + 1) 261 lv (.int x :: .ref a :: st) h = (match am_put h a 8 20 (.int x) with
    | some h' => am_f d scr L call 106 n 264 lv st h'
    | none => none) := k_pf (k := 139) rfl rfl rfl
set_option maxRecDepth 100000 in
theorem s_106_264 (d L n : Nat) (scr : Nat → Int32) (call : Nat → List Value → am_H → Option am_X) (lv : am_L) (st : List Value) (h : am_H) : am_f d scr L call 106 (n + 1) 264 lv st h = (match am_ld lv 4 with
    | some (.int x) => am_f d scr L call 106 n 266 lv (.int x :: st) h
    | _ => none) := k_li (i := .iload 4) rfl rfl rfl rfl
set_option maxRecDepth 100000 in
theorem s_106_266 (d L n : Nat) (scr : Nat → Int32) (call : Nat → List Value → am_H → Option am_X) (lv : am_L) (st : List Value) (h : am_H) (x : Int32) : am_f d scr L call 106 (n + 1) 266 lv (.int x :: st) h = if x = 0 then am_f d scr L call 106 n 282 lv st h else am_f d scr L call 106 n 269 lv st h := k_if_eq (o := 16) rfl ⟨by decide, rfl⟩
set_option maxRecDepth 100000 in
theorem s_106_269 (d L n : Nat) (scr : Nat → Int32) (call : Nat → List Value → am_H → Option am_X) (lv : am_L) (st : List Value) (h : am_H) : am_f d scr L call 106 (n + 1) 269 lv st h = (match am_ld lv 0 with
    | some (.ref x) => am_f d scr L call 106 n 270 lv (.ref x :: st) h
    | _ => none) := k_la (i := .aload_n 0) rfl rfl rfl rfl
set_option maxRecDepth 100000 in
theorem s_106_270 (d L n : Nat) (scr : Nat → Int32) (call : Nat → List Value → am_H → Option am_X) (lv : am_L) (st : List Value) (h : am_H) : am_f d scr L call 106 (n + 1) 270 lv st h = (match am_ld lv 0 with
    | some (.ref x) => am_f d scr L call 106 n 271 lv (.ref x :: st) h
    | _ => none) := k_la (i := .aload_n 0) rfl rfl rfl rfl
set_option maxRecDepth 100000 in
theorem s_106_271 (d L n : Nat) (scr : Nat → Int32) (call : Nat → List Value → am_H → Option am_X) (lv : am_L) (st : List Value) (h : am_H) (a : Nat) : am_f d scr L call 106 (n + 1) 271 lv (.ref a :: st) h = (match am_get h a 8 21 with
    | some v => am_f d scr L call 106 n 274 lv (v :: st) h
    | none => none) := k_gf (k := 167) rfl rfl
set_option maxRecDepth 100000 in
theorem s_106_274 (d L n : Nat) (scr : Nat → Int32) (call : Nat → List Value → am_H → Option am_X) (lv : am_L) (st : List Value) (h : am_H) : am_f d scr L call 106 (n + 1) 274 lv st h = am_f d scr L call 106 n 275 lv (.int 2 :: st) h := k_nx (i := .iconst 2) rfl rfl
set_option maxRecDepth 100000 in
theorem s_106_275 (d L n : Nat) (scr : Nat → Int32) (call : Nat → List Value → am_H → Option am_X) (lv : am_L) (st : List Value) (h : am_H) (x y : Int32) : am_f d scr L call 106 (n + 1) 275 lv (.int y :: .int x :: st) h = am_f d scr L call 106 n 276 lv (.int (x + y) :: st) h := k_nx (i := .iadd) rfl rfl
set_option maxRecDepth 100000 in
theorem s_106_276 (d L n : Nat) (scr : Nat → Int32) (call : Nat → List Value → am_H → Option am_X) (lv : am_L) (h : am_H) (o : Nat) (a0 : Int32)  : am_f d scr L call 106 (n + 1) 276 lv (.int a0 :: .ref o :: []) h = if am_at h o 8 = true then (match call 104 [.ref o, .int a0] h with
    | some (v, h', dk, dn) => am_add dk dn (am_f d scr L call 106 n 279 lv (v.toList ++ []) h')
    | none => none) else none := k_iv0 (k := 173) (as := [.int a0]) (r := []) rfl rfl rfl rfl (Nat.le_of_ble_eq_true rfl)
set_option maxRecDepth 100000 in
theorem s_106_279 (d L n : Nat) (scr : Nat → Int32) (call : Nat → List Value → am_H → Option am_X) (lv : am_L) (st : List Value) (h : am_H) : am_f d scr L call 106 (n + 1) 279 lv st h = am_f d scr L call 106 n 283 lv st h := k_nx (i := .goto 4) rfl rfl
set_option maxRecDepth 100000 in
theorem s_106_282 (d L n : Nat) (scr : Nat → Int32) (call : Nat → List Value → am_H → Option am_X) (lv : am_L) (st : List Value) (h : am_H) : am_f d scr L call 106 (n + 1) 282 lv st h = am_f d scr L call 106 n 283 lv (.int (-1) :: st) h := k_nx (i := .iconst (-1)) rfl rfl
set_option maxRecDepth 100000 in
theorem s_106_283 (d L n : Nat) (scr : Nat → Int32) (call : Nat → List Value → am_H → Option am_X) (lv : am_L) (st : List Value) (h : am_H) (x : Int32) : am_f d scr L call 106 (n + 1) 283 lv (.int x :: st) h = am_f d scr L call 106 n 285 (am_st1 lv 5 (.int x)) st h := k_nx (i := .istore 5) rfl rfl
set_option maxRecDepth 100000 in
theorem s_106_285 (d L n : Nat) (scr : Nat → Int32) (call : Nat → List Value → am_H → Option am_X) (lv : am_L) (st : List Value) (h : am_H) : am_f d scr L call 106 (n + 1) 285 lv st h = (match am_ld lv 5 with
    | some (.int x) => am_f d scr L call 106 n 287 lv (.int x :: st) h
    | _ => none) := k_li (i := .iload 5) rfl rfl rfl rfl
set_option maxRecDepth 100000 in
theorem s_106_287 (d L n : Nat) (scr : Nat → Int32) (call : Nat → List Value → am_H → Option am_X) (lv : am_L) (st : List Value) (h : am_H) (x : Int32) : am_f d scr L call 106 (n + 1) 287 lv (.int x :: st) h = if x < 0 then am_f d scr L call 106 n 299 lv st h else am_f d scr L call 106 n 290 lv st h := k_if_lt (o := 12) rfl ⟨by decide, rfl⟩
set_option maxRecDepth 100000 in
theorem s_106_290 (d L n : Nat) (scr : Nat → Int32) (call : Nat → List Value → am_H → Option am_X) (lv : am_L) (st : List Value) (h : am_H) : am_f d scr L call 106 (n + 1) 290 lv st h = (match am_ld lv 0 with
    | some (.ref x) => am_f d scr L call 106 n 291 lv (.ref x :: st) h
    | _ => none) := k_la (i := .aload_n 0) rfl rfl rfl rfl
set_option maxRecDepth 100000 in
theorem s_106_291 (d L n : Nat) (scr : Nat → Int32) (call : Nat → List Value → am_H → Option am_X) (lv : am_L) (st : List Value) (h : am_H) : am_f d scr L call 106 (n + 1) 291 lv st h = am_f d scr L call 106 n 293 lv (.int 46 :: st) h := k_nx (i := .bipush 46) rfl rfl
set_option maxRecDepth 100000 in
theorem s_106_293 (d L n : Nat) (scr : Nat → Int32) (call : Nat → List Value → am_H → Option am_X) (lv : am_L) (h : am_H) (o : Nat) (a0 : Int32)  : am_f d scr L call 106 (n + 1) 293 lv (.int a0 :: .ref o :: []) h = if am_at h o 8 = true then (match call 101 [.ref o, .int a0] h with
    | some (v, h', dk, dn) => am_add dk dn (am_f d scr L call 106 n 296 lv (v.toList ++ []) h')
    | none => none) else none := k_iv0 (k := 153) (as := [.int a0]) (r := []) rfl rfl rfl rfl (Nat.le_of_ble_eq_true rfl)
set_option maxRecDepth 100000 in
theorem s_106_296 (d L n : Nat) (scr : Nat → Int32) (call : Nat → List Value → am_H → Option am_X) (lv : am_L) (st : List Value) (h : am_H) (x : Int32) : am_f d scr L call 106 (n + 1) 296 lv (.int x :: st) h = if ¬ x = 0 then am_f d scr L call 106 n 301 lv st h else am_f d scr L call 106 n 299 lv st h := k_if_ne (o := 5) rfl ⟨by decide, rfl⟩
set_option maxRecDepth 100000 in
theorem s_106_299 (d L n : Nat) (scr : Nat → Int32) (call : Nat → List Value → am_H → Option am_X) (lv : am_L) (st : List Value) (h : am_H) : am_f d scr L call 106 (n + 1) 299 lv st h = am_f d scr L call 106 n 300 lv (.int 0 :: st) h := k_nx (i := .iconst 0) rfl rfl
set_option maxRecDepth 100000 in
theorem s_106_300 (d L n : Nat) (scr : Nat → Int32) (call : Nat → List Value → am_H → Option am_X) (lv : am_L) (h : am_H) (x : Int32) : am_f d scr L call 106 (n + 1) 300 lv [.int x] h = if x = 0 ∨ x = 1 then some (some (.int x), h, 0, 0) else none := k_zr rfl rfl
set_option maxRecDepth 100000 in
theorem s_106_301 (d L n : Nat) (scr : Nat → Int32) (call : Nat → List Value → am_H → Option am_X) (lv : am_L) (st : List Value) (h : am_H) : am_f d scr L call 106 (n + 1) 301 lv st h = (match am_ld lv 0 with
    | some (.ref x) => am_f d scr L call 106 n 302 lv (.ref x :: st) h
    | _ => none) := k_la (i := .aload_n 0) rfl rfl rfl rfl
set_option maxRecDepth 100000 in
theorem s_106_302 (d L n : Nat) (scr : Nat → Int32) (call : Nat → List Value → am_H → Option am_X) (lv : am_L) (st : List Value) (h : am_H) (a : Nat) : am_f d scr L call 106 (n + 1) 302 lv (.ref a :: st) h = (match am_get h a 8 12 with
    | some v => am_f d scr L call 106 n 305 lv (v :: st) h
    | none => none) := k_gf (k := 32) rfl rfl
set_option maxRecDepth 100000 in
theorem s_106_305 (d L n : Nat) (scr : Nat → Int32) (call : Nat → List Value → am_H → Option am_X) (lv : am_L) (st : List Value) (h : am_H) : am_f d scr L call 106 (n + 1) 305 lv st h = (match am_ld lv 3 with
    | some (.int x) => am_f d scr L call 106 n 306 lv (.int x :: st) h
    | _ => none) := k_li (i := .iload_n 3) rfl rfl rfl rfl
set_option maxRecDepth 100000 in
theorem s_106_306 (d L n : Nat) (scr : Nat → Int32) (call : Nat → List Value → am_H → Option am_X) (lv : am_L) (st : List Value) (h : am_H) : am_f d scr L call 106 (n + 1) 306 lv st h = (match am_ld lv 5 with
    | some (.int x) => am_f d scr L call 106 n 308 lv (.int x :: st) h
    | _ => none) := k_li (i := .iload 5) rfl rfl rfl rfl
set_option maxRecDepth 100000 in
theorem s_106_308 (d L n : Nat) (scr : Nat → Int32) (call : Nat → List Value → am_H → Option am_X) (lv : am_L) (st : List Value) (h : am_H) (a : Nat) (i : Int32) (x : Int32) : am_f d scr L call 106 (n + 1) 308 lv (.int x :: .int i :: .ref a :: st) h = (match am_ist h a i x with
    | some h' => am_f d scr L call 106 n 309 lv st h'
    | none => none) := k_is rfl
set_option maxRecDepth 100000 in
theorem s_106_309 (d L n : Nat) (scr : Nat → Int32) (call : Nat → List Value → am_H → Option am_X) (lv : am_L) (st : List Value) (h : am_H) : am_f d scr L call 106 (n + 1) 309 lv st h = (match am_ld lv 2 with
    | some (.int x) => am_f d scr L call 106 n 310 lv (.int x :: st) h
    | _ => none) := k_li (i := .iload_n 2) rfl rfl rfl rfl
set_option maxRecDepth 100000 in
theorem s_106_310 (d L n : Nat) (scr : Nat → Int32) (call : Nat → List Value → am_H → Option am_X) (lv : am_L) (st : List Value) (h : am_H) : am_f d scr L call 106 (n + 1) 310 lv st h = am_f d scr L call 106 n 311 lv (.int 2 :: st) h := k_nx (i := .iconst 2) rfl rfl
set_option maxRecDepth 100000 in
theorem s_106_311 (d L n : Nat) (scr : Nat → Int32) (call : Nat → List Value → am_H → Option am_X) (lv : am_L) (st : List Value) (h : am_H) (x y : Int32) : am_f d scr L call 106 (n + 1) 311 lv (.int y :: .int x :: st) h = if x ≤ y then am_f d scr L call 106 n 334 lv st h else am_f d scr L call 106 n 314 lv st h := k_ic_le (o := 23) rfl ⟨by decide, rfl⟩
set_option maxRecDepth 100000 in
theorem s_106_314 (d L n : Nat) (scr : Nat → Int32) (call : Nat → List Value → am_H → Option am_X) (lv : am_L) (st : List Value) (h : am_H) : am_f d scr L call 106 (n + 1) 314 lv st h = (match am_ld lv 0 with
    | some (.ref x) => am_f d scr L call 106 n 315 lv (.ref x :: st) h
    | _ => none) := k_la (i := .aload_n 0) rfl rfl rfl rfl
set_option maxRecDepth 100000 in
theorem s_106_315 (d L n : Nat) (scr : Nat → Int32) (call : Nat → List Value → am_H → Option am_X) (lv : am_L) (st : List Value) (h : am_H) (a : Nat) : am_f d scr L call 106 (n + 1) 315 lv (.ref a :: st) h = (match am_get h a 8 22 with
    | some v => am_f d scr L call 106 n 318 lv (v :: st) h
    | none => none) := k_gf (k := 53) rfl rfl
set_option maxRecDepth 100000 in
theorem s_106_318 (d L n : Nat) (scr : Nat → Int32) (call : Nat → List Value → am_H → Option am_X) (lv : am_L) (st : List Value) (h : am_H) : am_f d scr L call 106 (n + 1) 318 lv st h = (match am_ld lv 0 with
    | some (.ref x) => am_f d scr L call 106 n 319 lv (.ref x :: st) h
    | _ => none) := k_la (i := .aload_n 0) rfl rfl rfl rfl
set_option maxRecDepth 100000 in
theorem s_106_319 (d L n : Nat) (scr : Nat → Int32) (call : Nat → List Value → am_H → Option am_X) (lv : am_L) (st : List Value) (h : am_H) (a : Nat) : am_f d scr L call 106 (n + 1) 319 lv (.ref a :: st) h = (match am_get h a 8 21 with
    | some v => am_f d scr L call 106 n 322 lv (v :: st) h
    | none => none) := k_gf (k := 167) rfl rfl
set_option maxRecDepth 100000 in
theorem s_106_322 (d L n : Nat) (scr : Nat → Int32) (call : Nat → List Value → am_H → Option am_X) (lv : am_L) (st : List Value) (h : am_H) : am_f d scr L call 106 (n + 1) 322 lv st h = (match am_ld lv 3 with
    | some (.int x) => am_f d scr L call 106 n 323 lv (.int x :: st) h
    | _ => none) := k_li (i := .iload_n 3) rfl rfl rfl rfl
set_option maxRecDepth 100000 in
theorem s_106_323 (d L n : Nat) (scr : Nat → Int32) (call : Nat → List Value → am_H → Option am_X) (lv : am_L) (st : List Value) (h : am_H) (a : Nat) (i : Int32) (x : Int32) : am_f d scr L call 106 (n + 1) 323 lv (.int x :: .int i :: .ref a :: st) h = (match am_ist h a i x with
    | some h' => am_f d scr L call 106 n 324 lv st h'
    | none => none) := k_is rfl
set_option maxRecDepth 100000 in
theorem s_106_324 (d L n : Nat) (scr : Nat → Int32) (call : Nat → List Value → am_H → Option am_X) (lv : am_L) (st : List Value) (h : am_H) : am_f d scr L call 106 (n + 1) 324 lv st h = (match am_ld lv 0 with
    | some (.ref x) => am_f d scr L call 106 n 325 lv (.ref x :: st) h
    | _ => none) := k_la (i := .aload_n 0) rfl rfl rfl rfl
set_option maxRecDepth 100000 in
theorem s_106_325 (d L n : Nat) (scr : Nat → Int32) (call : Nat → List Value → am_H → Option am_X) (lv : am_L) (st : List Value) (h : am_H) (x : Nat) : am_f d scr L call 106 (n + 1) 325 lv (.ref x :: st) h = am_f d scr L call 106 n 326 lv (.ref x :: .ref x :: st) h := k_nx (i := .dup) rfl rfl
set_option maxRecDepth 100000 in
theorem s_106_326 (d L n : Nat) (scr : Nat → Int32) (call : Nat → List Value → am_H → Option am_X) (lv : am_L) (st : List Value) (h : am_H) (a : Nat) : am_f d scr L call 106 (n + 1) 326 lv (.ref a :: st) h = (match am_get h a 8 21 with
    | some v => am_f d scr L call 106 n 329 lv (v :: st) h
    | none => none) := k_gf (k := 167) rfl rfl
set_option maxRecDepth 100000 in
theorem s_106_329 (d L n : Nat) (scr : Nat → Int32) (call : Nat → List Value → am_H → Option am_X) (lv : am_L) (st : List Value) (h : am_H) : am_f d scr L call 106 (n + 1) 329 lv st h = am_f d scr L call 106 n 330 lv (.int 1 :: st) h := k_nx (i := .iconst 1) rfl rfl
set_option maxRecDepth 100000 in
theorem s_106_330 (d L n : Nat) (scr : Nat → Int32) (call : Nat → List Value → am_H → Option am_X) (lv : am_L) (st : List Value) (h : am_H) (x y : Int32) : am_f d scr L call 106 (n + 1) 330 lv (.int y :: .int x :: st) h = am_f d scr L call 106 n 331 lv (.int (x + y) :: st) h := k_nx (i := .iadd) rfl rfl
set_option maxRecDepth 100000 in
theorem s_106_331 (d L n : Nat) (scr : Nat → Int32) (call : Nat → List Value → am_H → Option am_X) (lv : am_L) (st : List Value) (h : am_H) (x : Int32) (a : Nat) : am_f d scr L call 106 (n + 1) 331 lv (.int x :: .ref a :: st) h = (match am_put h a 8 21 (.int x) with
    | some h' => am_f d scr L call 106 n 334 lv st h'
    | none => none) := k_pf (k := 167) rfl rfl rfl
set_option maxRecDepth 100000 in
theorem s_106_334 (d L n : Nat) (scr : Nat → Int32) (call : Nat → List Value → am_H → Option am_X) (lv : am_L) (st : List Value) (h : am_H) : am_f d scr L call 106 (n + 1) 334 lv st h = am_f d scr L call 106 n 335 lv (.int 1 :: st) h := k_nx (i := .iconst 1) rfl rfl
set_option maxRecDepth 100000 in
theorem s_106_335 (d L n : Nat) (scr : Nat → Int32) (call : Nat → List Value → am_H → Option am_X) (lv : am_L) (h : am_H) (x : Int32) : am_f d scr L call 106 (n + 1) 335 lv [.int x] h = if x = 0 ∨ x = 1 then some (some (.int x), h, 0, 0) else none := k_zr rfl rfl
-- 107: BlameDeskModel.goOn(II)Z
theorem s_107_0 (d L n : Nat) (scr : Nat → Int32) (call : Nat → List Value → am_H → Option am_X) (lv : am_L) (st : List Value) (h : am_H) : am_f d scr L call 107 (n + 1) 0 lv st h = (match am_ld lv 0 with
    | some (.ref x) => am_f d scr L call 107 n 1 lv (.ref x :: st) h
    | _ => none) := k_la (i := .aload_n 0) rfl rfl rfl rfl
theorem s_107_1 (d L n : Nat) (scr : Nat → Int32) (call : Nat → List Value → am_H → Option am_X) (lv : am_L) (st : List Value) (h : am_H) (a : Nat) : am_f d scr L call 107 (n + 1) 1 lv (.ref a :: st) h = (match am_get h a 8 17 with
    | some v => am_f d scr L call 107 n 4 lv (v :: st) h
    | none => none) := k_gf (k := 47) rfl rfl
theorem s_107_4 (d L n : Nat) (scr : Nat → Int32) (call : Nat → List Value → am_H → Option am_X) (lv : am_L) (st : List Value) (h : am_H) : am_f d scr L call 107 (n + 1) 4 lv st h = (match am_ld lv 1 with
    | some (.int x) => am_f d scr L call 107 n 5 lv (.int x :: st) h
    | _ => none) := k_li (i := .iload_n 1) rfl rfl rfl rfl
theorem s_107_5 (d L n : Nat) (scr : Nat → Int32) (call : Nat → List Value → am_H → Option am_X) (lv : am_L) (st : List Value) (h : am_H) (x : Int32) (y : Nat) : am_f d scr L call 107 (n + 1) 5 lv (.int x :: .ref y :: st) h = am_f d scr L call 107 n 6 lv (.int x :: .ref y :: .int x :: .ref y :: st) h := k_nx (i := .dup2) rfl rfl
theorem s_107_6 (d L n : Nat) (scr : Nat → Int32) (call : Nat → List Value → am_H → Option am_X) (lv : am_L) (st : List Value) (h : am_H) (a : Nat) (i : Int32) : am_f d scr L call 107 (n + 1) 6 lv (.int i :: .ref a :: st) h = (match am_ild scr L h a i with
    | some x => am_f d scr L call 107 n 7 lv (.int x :: st) h
    | none => none) := k_ia rfl
theorem s_107_7 (d L n : Nat) (scr : Nat → Int32) (call : Nat → List Value → am_H → Option am_X) (lv : am_L) (st : List Value) (h : am_H) : am_f d scr L call 107 (n + 1) 7 lv st h = am_f d scr L call 107 n 8 lv (.int 1 :: st) h := k_nx (i := .iconst 1) rfl rfl
theorem s_107_8 (d L n : Nat) (scr : Nat → Int32) (call : Nat → List Value → am_H → Option am_X) (lv : am_L) (st : List Value) (h : am_H) (x y : Int32) : am_f d scr L call 107 (n + 1) 8 lv (.int y :: .int x :: st) h = am_f d scr L call 107 n 9 lv (.int (x + y) :: st) h := k_nx (i := .iadd) rfl rfl
theorem s_107_9 (d L n : Nat) (scr : Nat → Int32) (call : Nat → List Value → am_H → Option am_X) (lv : am_L) (st : List Value) (h : am_H) (a : Nat) (i : Int32) (x : Int32) : am_f d scr L call 107 (n + 1) 9 lv (.int x :: .int i :: .ref a :: st) h = (match am_ist h a i x with
    | some h' => am_f d scr L call 107 n 10 lv st h'
    | none => none) := k_is rfl
theorem s_107_10 (d L n : Nat) (scr : Nat → Int32) (call : Nat → List Value → am_H → Option am_X) (lv : am_L) (st : List Value) (h : am_H) : am_f d scr L call 107 (n + 1) 10 lv st h = (match am_ld lv 0 with
    | some (.ref x) => am_f d scr L call 107 n 11 lv (.ref x :: st) h
    | _ => none) := k_la (i := .aload_n 0) rfl rfl rfl rfl
theorem s_107_11 (d L n : Nat) (scr : Nat → Int32) (call : Nat → List Value → am_H → Option am_X) (lv : am_L) (st : List Value) (h : am_H) (a : Nat) : am_f d scr L call 107 (n + 1) 11 lv (.ref a :: st) h = (match am_get h a 8 17 with
    | some v => am_f d scr L call 107 n 14 lv (v :: st) h
    | none => none) := k_gf (k := 47) rfl rfl
theorem s_107_14 (d L n : Nat) (scr : Nat → Int32) (call : Nat → List Value → am_H → Option am_X) (lv : am_L) (st : List Value) (h : am_H) : am_f d scr L call 107 (n + 1) 14 lv st h = (match am_ld lv 1 with
    | some (.int x) => am_f d scr L call 107 n 15 lv (.int x :: st) h
    | _ => none) := k_li (i := .iload_n 1) rfl rfl rfl rfl
theorem s_107_15 (d L n : Nat) (scr : Nat → Int32) (call : Nat → List Value → am_H → Option am_X) (lv : am_L) (st : List Value) (h : am_H) (a : Nat) (i : Int32) : am_f d scr L call 107 (n + 1) 15 lv (.int i :: .ref a :: st) h = (match am_ild scr L h a i with
    | some x => am_f d scr L call 107 n 16 lv (.int x :: st) h
    | none => none) := k_ia rfl
theorem s_107_16 (d L n : Nat) (scr : Nat → Int32) (call : Nat → List Value → am_H → Option am_X) (lv : am_L) (st : List Value) (h : am_H) : am_f d scr L call 107 (n + 1) 16 lv st h = am_f d scr L call 107 n 17 lv (.int 1 :: st) h := k_nx (i := .iconst 1) rfl rfl
theorem s_107_17 (d L n : Nat) (scr : Nat → Int32) (call : Nat → List Value → am_H → Option am_X) (lv : am_L) (st : List Value) (h : am_H) (x y : Int32) : am_f d scr L call 107 (n + 1) 17 lv (.int y :: .int x :: st) h = if ¬ x = y then am_f d scr L call 107 n 30 lv st h else am_f d scr L call 107 n 20 lv st h := k_ic_ne (o := 13) rfl ⟨by decide, rfl⟩
theorem s_107_20 (d L n : Nat) (scr : Nat → Int32) (call : Nat → List Value → am_H → Option am_X) (lv : am_L) (st : List Value) (h : am_H) : am_f d scr L call 107 (n + 1) 20 lv st h = (match am_ld lv 0 with
    | some (.ref x) => am_f d scr L call 107 n 21 lv (.ref x :: st) h
    | _ => none) := k_la (i := .aload_n 0) rfl rfl rfl rfl
theorem s_107_21 (d L n : Nat) (scr : Nat → Int32) (call : Nat → List Value → am_H → Option am_X) (lv : am_L) (st : List Value) (h : am_H) (a : Nat) : am_f d scr L call 107 (n + 1) 21 lv (.ref a :: st) h = (match am_get h a 8 14 with
    | some v => am_f d scr L call 107 n 24 lv (v :: st) h
    | none => none) := k_gf (k := 38) rfl rfl
theorem s_107_24 (d L n : Nat) (scr : Nat → Int32) (call : Nat → List Value → am_H → Option am_X) (lv : am_L) (st : List Value) (h : am_H) : am_f d scr L call 107 (n + 1) 24 lv st h = (match am_ld lv 1 with
    | some (.int x) => am_f d scr L call 107 n 25 lv (.int x :: st) h
    | _ => none) := k_li (i := .iload_n 1) rfl rfl rfl rfl
theorem s_107_25 (d L n : Nat) (scr : Nat → Int32) (call : Nat → List Value → am_H → Option am_X) (lv : am_L) (st : List Value) (h : am_H) : am_f d scr L call 107 (n + 1) 25 lv st h = (match am_ld lv 2 with
    | some (.int x) => am_f d scr L call 107 n 26 lv (.int x :: st) h
    | _ => none) := k_li (i := .iload_n 2) rfl rfl rfl rfl
theorem s_107_26 (d L n : Nat) (scr : Nat → Int32) (call : Nat → List Value → am_H → Option am_X) (lv : am_L) (st : List Value) (h : am_H) (a : Nat) (i : Int32) (x : Int32) : am_f d scr L call 107 (n + 1) 26 lv (.int x :: .int i :: .ref a :: st) h = (match am_ist h a i x with
    | some h' => am_f d scr L call 107 n 27 lv st h'
    | none => none) := k_is rfl
theorem s_107_27 (d L n : Nat) (scr : Nat → Int32) (call : Nat → List Value → am_H → Option am_X) (lv : am_L) (st : List Value) (h : am_H) : am_f d scr L call 107 (n + 1) 27 lv st h = am_f d scr L call 107 n 57 lv st h := k_nx (i := .goto 30) rfl rfl
theorem s_107_30 (d L n : Nat) (scr : Nat → Int32) (call : Nat → List Value → am_H → Option am_X) (lv : am_L) (st : List Value) (h : am_H) : am_f d scr L call 107 (n + 1) 30 lv st h = (match am_ld lv 0 with
    | some (.ref x) => am_f d scr L call 107 n 31 lv (.ref x :: st) h
    | _ => none) := k_la (i := .aload_n 0) rfl rfl rfl rfl
theorem s_107_31 (d L n : Nat) (scr : Nat → Int32) (call : Nat → List Value → am_H → Option am_X) (lv : am_L) (st : List Value) (h : am_H) (a : Nat) : am_f d scr L call 107 (n + 1) 31 lv (.ref a :: st) h = (match am_get h a 8 17 with
    | some v => am_f d scr L call 107 n 34 lv (v :: st) h
    | none => none) := k_gf (k := 47) rfl rfl
theorem s_107_34 (d L n : Nat) (scr : Nat → Int32) (call : Nat → List Value → am_H → Option am_X) (lv : am_L) (st : List Value) (h : am_H) : am_f d scr L call 107 (n + 1) 34 lv st h = (match am_ld lv 1 with
    | some (.int x) => am_f d scr L call 107 n 35 lv (.int x :: st) h
    | _ => none) := k_li (i := .iload_n 1) rfl rfl rfl rfl
theorem s_107_35 (d L n : Nat) (scr : Nat → Int32) (call : Nat → List Value → am_H → Option am_X) (lv : am_L) (st : List Value) (h : am_H) (a : Nat) (i : Int32) : am_f d scr L call 107 (n + 1) 35 lv (.int i :: .ref a :: st) h = (match am_ild scr L h a i with
    | some x => am_f d scr L call 107 n 36 lv (.int x :: st) h
    | none => none) := k_ia rfl
theorem s_107_36 (d L n : Nat) (scr : Nat → Int32) (call : Nat → List Value → am_H → Option am_X) (lv : am_L) (st : List Value) (h : am_H) : am_f d scr L call 107 (n + 1) 36 lv st h = am_f d scr L call 107 n 37 lv (.int 2 :: st) h := k_nx (i := .iconst 2) rfl rfl
theorem s_107_37 (d L n : Nat) (scr : Nat → Int32) (call : Nat → List Value → am_H → Option am_X) (lv : am_L) (st : List Value) (h : am_H) (x y : Int32) : am_f d scr L call 107 (n + 1) 37 lv (.int y :: .int x :: st) h = if ¬ x = y then am_f d scr L call 107 n 50 lv st h else am_f d scr L call 107 n 40 lv st h := k_ic_ne (o := 13) rfl ⟨by decide, rfl⟩
theorem s_107_40 (d L n : Nat) (scr : Nat → Int32) (call : Nat → List Value → am_H → Option am_X) (lv : am_L) (st : List Value) (h : am_H) : am_f d scr L call 107 (n + 1) 40 lv st h = (match am_ld lv 0 with
    | some (.ref x) => am_f d scr L call 107 n 41 lv (.ref x :: st) h
    | _ => none) := k_la (i := .aload_n 0) rfl rfl rfl rfl
theorem s_107_41 (d L n : Nat) (scr : Nat → Int32) (call : Nat → List Value → am_H → Option am_X) (lv : am_L) (st : List Value) (h : am_H) (a : Nat) : am_f d scr L call 107 (n + 1) 41 lv (.ref a :: st) h = (match am_get h a 8 15 with
    | some v => am_f d scr L call 107 n 44 lv (v :: st) h
    | none => none) := k_gf (k := 41) rfl rfl
theorem s_107_44 (d L n : Nat) (scr : Nat → Int32) (call : Nat → List Value → am_H → Option am_X) (lv : am_L) (st : List Value) (h : am_H) : am_f d scr L call 107 (n + 1) 44 lv st h = (match am_ld lv 1 with
    | some (.int x) => am_f d scr L call 107 n 45 lv (.int x :: st) h
    | _ => none) := k_li (i := .iload_n 1) rfl rfl rfl rfl
theorem s_107_45 (d L n : Nat) (scr : Nat → Int32) (call : Nat → List Value → am_H → Option am_X) (lv : am_L) (st : List Value) (h : am_H) : am_f d scr L call 107 (n + 1) 45 lv st h = (match am_ld lv 2 with
    | some (.int x) => am_f d scr L call 107 n 46 lv (.int x :: st) h
    | _ => none) := k_li (i := .iload_n 2) rfl rfl rfl rfl
theorem s_107_46 (d L n : Nat) (scr : Nat → Int32) (call : Nat → List Value → am_H → Option am_X) (lv : am_L) (st : List Value) (h : am_H) (a : Nat) (i : Int32) (x : Int32) : am_f d scr L call 107 (n + 1) 46 lv (.int x :: .int i :: .ref a :: st) h = (match am_ist h a i x with
    | some h' => am_f d scr L call 107 n 47 lv st h'
    | none => none) := k_is rfl
theorem s_107_47 (d L n : Nat) (scr : Nat → Int32) (call : Nat → List Value → am_H → Option am_X) (lv : am_L) (st : List Value) (h : am_H) : am_f d scr L call 107 (n + 1) 47 lv st h = am_f d scr L call 107 n 57 lv st h := k_nx (i := .goto 10) rfl rfl
theorem s_107_50 (d L n : Nat) (scr : Nat → Int32) (call : Nat → List Value → am_H → Option am_X) (lv : am_L) (st : List Value) (h : am_H) : am_f d scr L call 107 (n + 1) 50 lv st h = (match am_ld lv 0 with
    | some (.ref x) => am_f d scr L call 107 n 51 lv (.ref x :: st) h
    | _ => none) := k_la (i := .aload_n 0) rfl rfl rfl rfl
theorem s_107_51 (d L n : Nat) (scr : Nat → Int32) (call : Nat → List Value → am_H → Option am_X) (lv : am_L) (st : List Value) (h : am_H) (a : Nat) : am_f d scr L call 107 (n + 1) 51 lv (.ref a :: st) h = (match am_get h a 8 16 with
    | some v => am_f d scr L call 107 n 54 lv (v :: st) h
    | none => none) := k_gf (k := 44) rfl rfl
theorem s_107_54 (d L n : Nat) (scr : Nat → Int32) (call : Nat → List Value → am_H → Option am_X) (lv : am_L) (st : List Value) (h : am_H) : am_f d scr L call 107 (n + 1) 54 lv st h = (match am_ld lv 1 with
    | some (.int x) => am_f d scr L call 107 n 55 lv (.int x :: st) h
    | _ => none) := k_li (i := .iload_n 1) rfl rfl rfl rfl
theorem s_107_55 (d L n : Nat) (scr : Nat → Int32) (call : Nat → List Value → am_H → Option am_X) (lv : am_L) (st : List Value) (h : am_H) : am_f d scr L call 107 (n + 1) 55 lv st h = (match am_ld lv 2 with
    | some (.int x) => am_f d scr L call 107 n 56 lv (.int x :: st) h
    | _ => none) := k_li (i := .iload_n 2) rfl rfl rfl rfl
theorem s_107_56 (d L n : Nat) (scr : Nat → Int32) (call : Nat → List Value → am_H → Option am_X) (lv : am_L) (st : List Value) (h : am_H) (a : Nat) (i : Int32) (x : Int32) : am_f d scr L call 107 (n + 1) 56 lv (.int x :: .int i :: .ref a :: st) h = (match am_ist h a i x with
    | some h' => am_f d scr L call 107 n 57 lv st h'
    | none => none) := k_is rfl
theorem s_107_57 (d L n : Nat) (scr : Nat → Int32) (call : Nat → List Value → am_H → Option am_X) (lv : am_L) (st : List Value) (h : am_H) : am_f d scr L call 107 (n + 1) 57 lv st h = (match am_ld lv 0 with
    | some (.ref x) => am_f d scr L call 107 n 58 lv (.ref x :: st) h
    | _ => none) := k_la (i := .aload_n 0) rfl rfl rfl rfl
theorem s_107_58 (d L n : Nat) (scr : Nat → Int32) (call : Nat → List Value → am_H → Option am_X) (lv : am_L) (st : List Value) (h : am_H) (a : Nat) : am_f d scr L call 107 (n + 1) 58 lv (.ref a :: st) h = (match am_get h a 8 9 with
    | some v => am_f d scr L call 107 n 61 lv (v :: st) h
    | none => none) := k_gf (k := 23) rfl rfl
theorem s_107_61 (d L n : Nat) (scr : Nat → Int32) (call : Nat → List Value → am_H → Option am_X) (lv : am_L) (st : List Value) (h : am_H) : am_f d scr L call 107 (n + 1) 61 lv st h = (match am_ld lv 1 with
    | some (.int x) => am_f d scr L call 107 n 62 lv (.int x :: st) h
    | _ => none) := k_li (i := .iload_n 1) rfl rfl rfl rfl
theorem s_107_62 (d L n : Nat) (scr : Nat → Int32) (call : Nat → List Value → am_H → Option am_X) (lv : am_L) (st : List Value) (h : am_H) (a : Nat) (i : Int32) : am_f d scr L call 107 (n + 1) 62 lv (.int i :: .ref a :: st) h = (match am_ild scr L h a i with
    | some x => am_f d scr L call 107 n 63 lv (.int x :: st) h
    | none => none) := k_ia rfl
theorem s_107_63 (d L n : Nat) (scr : Nat → Int32) (call : Nat → List Value → am_H → Option am_X) (lv : am_L) (st : List Value) (h : am_H) (x : Int32) : am_f d scr L call 107 (n + 1) 63 lv (.int x :: st) h = am_f d scr L call 107 n 64 (am_st1 lv 3 (.int x)) st h := k_nx (i := .istore_n 3) rfl rfl
theorem s_107_64 (d L n : Nat) (scr : Nat → Int32) (call : Nat → List Value → am_H → Option am_X) (lv : am_L) (st : List Value) (h : am_H) : am_f d scr L call 107 (n + 1) 64 lv st h = (match am_ld lv 0 with
    | some (.ref x) => am_f d scr L call 107 n 65 lv (.ref x :: st) h
    | _ => none) := k_la (i := .aload_n 0) rfl rfl rfl rfl
theorem s_107_65 (d L n : Nat) (scr : Nat → Int32) (call : Nat → List Value → am_H → Option am_X) (lv : am_L) (st : List Value) (h : am_H) (a : Nat) : am_f d scr L call 107 (n + 1) 65 lv (.ref a :: st) h = (match am_get h a 8 17 with
    | some v => am_f d scr L call 107 n 68 lv (v :: st) h
    | none => none) := k_gf (k := 47) rfl rfl
theorem s_107_68 (d L n : Nat) (scr : Nat → Int32) (call : Nat → List Value → am_H → Option am_X) (lv : am_L) (st : List Value) (h : am_H) : am_f d scr L call 107 (n + 1) 68 lv st h = (match am_ld lv 1 with
    | some (.int x) => am_f d scr L call 107 n 69 lv (.int x :: st) h
    | _ => none) := k_li (i := .iload_n 1) rfl rfl rfl rfl
theorem s_107_69 (d L n : Nat) (scr : Nat → Int32) (call : Nat → List Value → am_H → Option am_X) (lv : am_L) (st : List Value) (h : am_H) (a : Nat) (i : Int32) : am_f d scr L call 107 (n + 1) 69 lv (.int i :: .ref a :: st) h = (match am_ild scr L h a i with
    | some x => am_f d scr L call 107 n 70 lv (.int x :: st) h
    | none => none) := k_ia rfl
theorem s_107_70 (d L n : Nat) (scr : Nat → Int32) (call : Nat → List Value → am_H → Option am_X) (lv : am_L) (st : List Value) (h : am_H) : am_f d scr L call 107 (n + 1) 70 lv st h = am_f d scr L call 107 n 71 lv (.int 1 :: st) h := k_nx (i := .iconst 1) rfl rfl
theorem s_107_71 (d L n : Nat) (scr : Nat → Int32) (call : Nat → List Value → am_H → Option am_X) (lv : am_L) (st : List Value) (h : am_H) (x y : Int32) : am_f d scr L call 107 (n + 1) 71 lv (.int y :: .int x :: st) h = if ¬ x = y then am_f d scr L call 107 n 198 lv st h else am_f d scr L call 107 n 74 lv st h := k_ic_ne (o := 127) rfl ⟨by decide, rfl⟩
theorem s_107_74 (d L n : Nat) (scr : Nat → Int32) (call : Nat → List Value → am_H → Option am_X) (lv : am_L) (st : List Value) (h : am_H) : am_f d scr L call 107 (n + 1) 74 lv st h = (match am_ld lv 3 with
    | some (.int x) => am_f d scr L call 107 n 75 lv (.int x :: st) h
    | _ => none) := k_li (i := .iload_n 3) rfl rfl rfl rfl
theorem s_107_75 (d L n : Nat) (scr : Nat → Int32) (call : Nat → List Value → am_H → Option am_X) (lv : am_L) (st : List Value) (h : am_H) : am_f d scr L call 107 (n + 1) 75 lv st h = am_f d scr L call 107 n 76 lv (.int 4 :: st) h := k_nx (i := .iconst 4) rfl rfl
theorem s_107_76 (d L n : Nat) (scr : Nat → Int32) (call : Nat → List Value → am_H → Option am_X) (lv : am_L) (st : List Value) (h : am_H) (x y : Int32) : am_f d scr L call 107 (n + 1) 76 lv (.int y :: .int x :: st) h = if x = y then am_f d scr L call 107 n 85 lv st h else am_f d scr L call 107 n 79 lv st h := k_ic_eq (o := 9) rfl ⟨by decide, rfl⟩
theorem s_107_79 (d L n : Nat) (scr : Nat → Int32) (call : Nat → List Value → am_H → Option am_X) (lv : am_L) (st : List Value) (h : am_H) : am_f d scr L call 107 (n + 1) 79 lv st h = (match am_ld lv 3 with
    | some (.int x) => am_f d scr L call 107 n 80 lv (.int x :: st) h
    | _ => none) := k_li (i := .iload_n 3) rfl rfl rfl rfl
theorem s_107_80 (d L n : Nat) (scr : Nat → Int32) (call : Nat → List Value → am_H → Option am_X) (lv : am_L) (st : List Value) (h : am_H) : am_f d scr L call 107 (n + 1) 80 lv st h = am_f d scr L call 107 n 82 lv (.int 6 :: st) h := k_nx (i := .bipush 6) rfl rfl
theorem s_107_82 (d L n : Nat) (scr : Nat → Int32) (call : Nat → List Value → am_H → Option am_X) (lv : am_L) (st : List Value) (h : am_H) (x y : Int32) : am_f d scr L call 107 (n + 1) 82 lv (.int y :: .int x :: st) h = if ¬ x = y then am_f d scr L call 107 n 198 lv st h else am_f d scr L call 107 n 85 lv st h := k_ic_ne (o := 116) rfl ⟨by decide, rfl⟩
theorem s_107_85 (d L n : Nat) (scr : Nat → Int32) (call : Nat → List Value → am_H → Option am_X) (lv : am_L) (st : List Value) (h : am_H) : am_f d scr L call 107 (n + 1) 85 lv st h = (match am_ld lv 0 with
    | some (.ref x) => am_f d scr L call 107 n 86 lv (.ref x :: st) h
    | _ => none) := k_la (i := .aload_n 0) rfl rfl rfl rfl
theorem s_107_86 (d L n : Nat) (scr : Nat → Int32) (call : Nat → List Value → am_H → Option am_X) (lv : am_L) (st : List Value) (h : am_H) : am_f d scr L call 107 (n + 1) 86 lv st h = am_f d scr L call 107 n 87 lv (.int 0 :: st) h := k_nx (i := .iconst 0) rfl rfl
theorem s_107_87 (d L n : Nat) (scr : Nat → Int32) (call : Nat → List Value → am_H → Option am_X) (lv : am_L) (h : am_H) (o : Nat) (a0 : Int32)  : am_f d scr L call 107 (n + 1) 87 lv (.int a0 :: .ref o :: []) h = if am_at h o 8 = true then (match call 100 [.ref o, .int a0] h with
    | some (v, h', dk, dn) => am_add dk dn (am_f d scr L call 107 n 90 lv (v.toList ++ []) h')
    | none => none) else none := k_iv0 (k := 142) (as := [.int a0]) (r := []) rfl rfl rfl rfl (Nat.le_of_ble_eq_true rfl)
theorem s_107_90 (d L n : Nat) (scr : Nat → Int32) (call : Nat → List Value → am_H → Option am_X) (lv : am_L) (st : List Value) (h : am_H) (x : Int32) : am_f d scr L call 107 (n + 1) 90 lv (.int x :: st) h = am_f d scr L call 107 n 92 (am_st1 lv 4 (.int x)) st h := k_nx (i := .istore 4) rfl rfl
theorem s_107_92 (d L n : Nat) (scr : Nat → Int32) (call : Nat → List Value → am_H → Option am_X) (lv : am_L) (st : List Value) (h : am_H) : am_f d scr L call 107 (n + 1) 92 lv st h = (match am_ld lv 0 with
    | some (.ref x) => am_f d scr L call 107 n 93 lv (.ref x :: st) h
    | _ => none) := k_la (i := .aload_n 0) rfl rfl rfl rfl
theorem s_107_93 (d L n : Nat) (scr : Nat → Int32) (call : Nat → List Value → am_H → Option am_X) (lv : am_L) (st : List Value) (h : am_H) (x : Nat) : am_f d scr L call 107 (n + 1) 93 lv (.ref x :: st) h = am_f d scr L call 107 n 94 lv (.ref x :: .ref x :: st) h := k_nx (i := .dup) rfl rfl
theorem s_107_94 (d L n : Nat) (scr : Nat → Int32) (call : Nat → List Value → am_H → Option am_X) (lv : am_L) (st : List Value) (h : am_H) (a : Nat) : am_f d scr L call 107 (n + 1) 94 lv (.ref a :: st) h = (match am_get h a 8 20 with
    | some v => am_f d scr L call 107 n 97 lv (v :: st) h
    | none => none) := k_gf (k := 139) rfl rfl
theorem s_107_97 (d L n : Nat) (scr : Nat → Int32) (call : Nat → List Value → am_H → Option am_X) (lv : am_L) (st : List Value) (h : am_H) : am_f d scr L call 107 (n + 1) 97 lv st h = am_f d scr L call 107 n 98 lv (.int 1 :: st) h := k_nx (i := .iconst 1) rfl rfl
theorem s_107_98 (d L n : Nat) (scr : Nat → Int32) (call : Nat → List Value → am_H → Option am_X) (lv : am_L) (st : List Value) (h : am_H) (x y : Int32) : am_f d scr L call 107 (n + 1) 98 lv (.int y :: .int x :: st) h = am_f d scr L call 107 n 99 lv (.int (x + y) :: st) h := k_nx (i := .iadd) rfl rfl
theorem s_107_99 (d L n : Nat) (scr : Nat → Int32) (call : Nat → List Value → am_H → Option am_X) (lv : am_L) (st : List Value) (h : am_H) (x : Int32) (a : Nat) : am_f d scr L call 107 (n + 1) 99 lv (.int x :: .ref a :: st) h = (match am_put h a 8 20 (.int x) with
    | some h' => am_f d scr L call 107 n 102 lv st h'
    | none => none) := k_pf (k := 139) rfl rfl rfl
theorem s_107_102 (d L n : Nat) (scr : Nat → Int32) (call : Nat → List Value → am_H → Option am_X) (lv : am_L) (st : List Value) (h : am_H) : am_f d scr L call 107 (n + 1) 102 lv st h = (match am_ld lv 0 with
    | some (.ref x) => am_f d scr L call 107 n 103 lv (.ref x :: st) h
    | _ => none) := k_la (i := .aload_n 0) rfl rfl rfl rfl
theorem s_107_103 (d L n : Nat) (scr : Nat → Int32) (call : Nat → List Value → am_H → Option am_X) (lv : am_L) (st : List Value) (h : am_H) (a : Nat) : am_f d scr L call 107 (n + 1) 103 lv (.ref a :: st) h = (match am_get h a 8 9 with
    | some v => am_f d scr L call 107 n 106 lv (v :: st) h
    | none => none) := k_gf (k := 23) rfl rfl
theorem s_107_106 (d L n : Nat) (scr : Nat → Int32) (call : Nat → List Value → am_H → Option am_X) (lv : am_L) (st : List Value) (h : am_H) : am_f d scr L call 107 (n + 1) 106 lv st h = (match am_ld lv 1 with
    | some (.int x) => am_f d scr L call 107 n 107 lv (.int x :: st) h
    | _ => none) := k_li (i := .iload_n 1) rfl rfl rfl rfl
theorem s_107_107 (d L n : Nat) (scr : Nat → Int32) (call : Nat → List Value → am_H → Option am_X) (lv : am_L) (st : List Value) (h : am_H) : am_f d scr L call 107 (n + 1) 107 lv st h = (match am_ld lv 4 with
    | some (.int x) => am_f d scr L call 107 n 109 lv (.int x :: st) h
    | _ => none) := k_li (i := .iload 4) rfl rfl rfl rfl
theorem s_107_109 (d L n : Nat) (scr : Nat → Int32) (call : Nat → List Value → am_H → Option am_X) (lv : am_L) (st : List Value) (h : am_H) : am_f d scr L call 107 (n + 1) 109 lv st h = am_f d scr L call 107 n 111 lv (.int 61 :: st) h := k_nx (i := .bipush 61) rfl rfl
theorem s_107_111 (d L n : Nat) (scr : Nat → Int32) (call : Nat → List Value → am_H → Option am_X) (lv : am_L) (st : List Value) (h : am_H) (x y : Int32) : am_f d scr L call 107 (n + 1) 111 lv (.int y :: .int x :: st) h = if ¬ x = y then am_f d scr L call 107 n 118 lv st h else am_f d scr L call 107 n 114 lv st h := k_ic_ne (o := 7) rfl ⟨by decide, rfl⟩
theorem s_107_114 (d L n : Nat) (scr : Nat → Int32) (call : Nat → List Value → am_H → Option am_X) (lv : am_L) (st : List Value) (h : am_H) : am_f d scr L call 107 (n + 1) 114 lv st h = am_f d scr L call 107 n 115 lv (.int 5 :: st) h := k_nx (i := .iconst 5) rfl rfl
theorem s_107_115 (d L n : Nat) (scr : Nat → Int32) (call : Nat → List Value → am_H → Option am_X) (lv : am_L) (st : List Value) (h : am_H) : am_f d scr L call 107 (n + 1) 115 lv st h = am_f d scr L call 107 n 143 lv st h := k_nx (i := .goto 28) rfl rfl
theorem s_107_118 (d L n : Nat) (scr : Nat → Int32) (call : Nat → List Value → am_H → Option am_X) (lv : am_L) (st : List Value) (h : am_H) : am_f d scr L call 107 (n + 1) 118 lv st h = (match am_ld lv 4 with
    | some (.int x) => am_f d scr L call 107 n 120 lv (.int x :: st) h
    | _ => none) := k_li (i := .iload 4) rfl rfl rfl rfl
theorem s_107_120 (d L n : Nat) (scr : Nat → Int32) (call : Nat → List Value → am_H → Option am_X) (lv : am_L) (st : List Value) (h : am_H) : am_f d scr L call 107 (n + 1) 120 lv st h = am_f d scr L call 107 n 122 lv (.int 45 :: st) h := k_nx (i := .bipush 45) rfl rfl
theorem s_107_122 (d L n : Nat) (scr : Nat → Int32) (call : Nat → List Value → am_H → Option am_X) (lv : am_L) (st : List Value) (h : am_H) (x y : Int32) : am_f d scr L call 107 (n + 1) 122 lv (.int y :: .int x :: st) h = if ¬ x = y then am_f d scr L call 107 n 130 lv st h else am_f d scr L call 107 n 125 lv st h := k_ic_ne (o := 8) rfl ⟨by decide, rfl⟩
theorem s_107_125 (d L n : Nat) (scr : Nat → Int32) (call : Nat → List Value → am_H → Option am_X) (lv : am_L) (st : List Value) (h : am_H) : am_f d scr L call 107 (n + 1) 125 lv st h = am_f d scr L call 107 n 127 lv (.int 7 :: st) h := k_nx (i := .bipush 7) rfl rfl
theorem s_107_127 (d L n : Nat) (scr : Nat → Int32) (call : Nat → List Value → am_H → Option am_X) (lv : am_L) (st : List Value) (h : am_H) : am_f d scr L call 107 (n + 1) 127 lv st h = am_f d scr L call 107 n 143 lv st h := k_nx (i := .goto 16) rfl rfl
theorem s_107_130 (d L n : Nat) (scr : Nat → Int32) (call : Nat → List Value → am_H → Option am_X) (lv : am_L) (st : List Value) (h : am_H) : am_f d scr L call 107 (n + 1) 130 lv st h = (match am_ld lv 4 with
    | some (.int x) => am_f d scr L call 107 n 132 lv (.int x :: st) h
    | _ => none) := k_li (i := .iload 4) rfl rfl rfl rfl
theorem s_107_132 (d L n : Nat) (scr : Nat → Int32) (call : Nat → List Value → am_H → Option am_X) (lv : am_L) (st : List Value) (h : am_H) : am_f d scr L call 107 (n + 1) 132 lv st h = am_f d scr L call 107 n 134 lv (.int 60 :: st) h := k_nx (i := .bipush 60) rfl rfl
theorem s_107_134 (d L n : Nat) (scr : Nat → Int32) (call : Nat → List Value → am_H → Option am_X) (lv : am_L) (st : List Value) (h : am_H) (x y : Int32) : am_f d scr L call 107 (n + 1) 134 lv (.int y :: .int x :: st) h = if ¬ x = y then am_f d scr L call 107 n 142 lv st h else am_f d scr L call 107 n 137 lv st h := k_ic_ne (o := 8) rfl ⟨by decide, rfl⟩
theorem s_107_137 (d L n : Nat) (scr : Nat → Int32) (call : Nat → List Value → am_H → Option am_X) (lv : am_L) (st : List Value) (h : am_H) : am_f d scr L call 107 (n + 1) 137 lv st h = am_f d scr L call 107 n 139 lv (.int 8 :: st) h := k_nx (i := .bipush 8) rfl rfl
set_option maxRecDepth 100000 in
theorem s_107_139 (d L n : Nat) (scr : Nat → Int32) (call : Nat → List Value → am_H → Option am_X) (lv : am_L) (st : List Value) (h : am_H) : am_f d scr L call 107 (n + 1) 139 lv st h = am_f d scr L call 107 n 143 lv st h := k_nx (i := .goto 4) rfl rfl
set_option maxRecDepth 100000 in
theorem s_107_142 (d L n : Nat) (scr : Nat → Int32) (call : Nat → List Value → am_H → Option am_X) (lv : am_L) (st : List Value) (h : am_H) : am_f d scr L call 107 (n + 1) 142 lv st h = (match am_ld lv 3 with
    | some (.int x) => am_f d scr L call 107 n 143 lv (.int x :: st) h
    | _ => none) := k_li (i := .iload_n 3) rfl rfl rfl rfl
set_option maxRecDepth 100000 in
theorem s_107_143 (d L n : Nat) (scr : Nat → Int32) (call : Nat → List Value → am_H → Option am_X) (lv : am_L) (st : List Value) (h : am_H) (a : Nat) (i : Int32) (x : Int32) : am_f d scr L call 107 (n + 1) 143 lv (.int x :: .int i :: .ref a :: st) h = (match am_ist h a i x with
    | some h' => am_f d scr L call 107 n 144 lv st h'
    | none => none) := k_is rfl
set_option maxRecDepth 100000 in
theorem s_107_144 (d L n : Nat) (scr : Nat → Int32) (call : Nat → List Value → am_H → Option am_X) (lv : am_L) (st : List Value) (h : am_H) : am_f d scr L call 107 (n + 1) 144 lv st h = (match am_ld lv 3 with
    | some (.int x) => am_f d scr L call 107 n 145 lv (.int x :: st) h
    | _ => none) := k_li (i := .iload_n 3) rfl rfl rfl rfl
set_option maxRecDepth 100000 in
theorem s_107_145 (d L n : Nat) (scr : Nat → Int32) (call : Nat → List Value → am_H → Option am_X) (lv : am_L) (st : List Value) (h : am_H) : am_f d scr L call 107 (n + 1) 145 lv st h = am_f d scr L call 107 n 146 lv (.int 4 :: st) h := k_nx (i := .iconst 4) rfl rfl
set_option maxRecDepth 100000 in
theorem s_107_146 (d L n : Nat) (scr : Nat → Int32) (call : Nat → List Value → am_H → Option am_X) (lv : am_L) (st : List Value) (h : am_H) (x y : Int32) : am_f d scr L call 107 (n + 1) 146 lv (.int y :: .int x :: st) h = if ¬ x = y then am_f d scr L call 107 n 171 lv st h else am_f d scr L call 107 n 149 lv st h := k_ic_ne (o := 25) rfl ⟨by decide, rfl⟩
set_option maxRecDepth 100000 in
theorem s_107_149 (d L n : Nat) (scr : Nat → Int32) (call : Nat → List Value → am_H → Option am_X) (lv : am_L) (st : List Value) (h : am_H) : am_f d scr L call 107 (n + 1) 149 lv st h = (match am_ld lv 4 with
    | some (.int x) => am_f d scr L call 107 n 151 lv (.int x :: st) h
    | _ => none) := k_li (i := .iload 4) rfl rfl rfl rfl
set_option maxRecDepth 100000 in
theorem s_107_151 (d L n : Nat) (scr : Nat → Int32) (call : Nat → List Value → am_H → Option am_X) (lv : am_L) (st : List Value) (h : am_H) : am_f d scr L call 107 (n + 1) 151 lv st h = am_f d scr L call 107 n 153 lv (.int 32 :: st) h := k_nx (i := .bipush 32) rfl rfl
set_option maxRecDepth 100000 in
theorem s_107_153 (d L n : Nat) (scr : Nat → Int32) (call : Nat → List Value → am_H → Option am_X) (lv : am_L) (st : List Value) (h : am_H) (x y : Int32) : am_f d scr L call 107 (n + 1) 153 lv (.int y :: .int x :: st) h = if x = y then am_f d scr L call 107 n 163 lv st h else am_f d scr L call 107 n 156 lv st h := k_ic_eq (o := 10) rfl ⟨by decide, rfl⟩
set_option maxRecDepth 100000 in
theorem s_107_156 (d L n : Nat) (scr : Nat → Int32) (call : Nat → List Value → am_H → Option am_X) (lv : am_L) (st : List Value) (h : am_H) : am_f d scr L call 107 (n + 1) 156 lv st h = (match am_ld lv 4 with
    | some (.int x) => am_f d scr L call 107 n 158 lv (.int x :: st) h
    | _ => none) := k_li (i := .iload 4) rfl rfl rfl rfl
set_option maxRecDepth 100000 in
theorem s_107_158 (d L n : Nat) (scr : Nat → Int32) (call : Nat → List Value → am_H → Option am_X) (lv : am_L) (st : List Value) (h : am_H) : am_f d scr L call 107 (n + 1) 158 lv st h = am_f d scr L call 107 n 160 lv (.int 61 :: st) h := k_nx (i := .bipush 61) rfl rfl
set_option maxRecDepth 100000 in
theorem s_107_160 (d L n : Nat) (scr : Nat → Int32) (call : Nat → List Value → am_H → Option am_X) (lv : am_L) (st : List Value) (h : am_H) (x y : Int32) : am_f d scr L call 107 (n + 1) 160 lv (.int y :: .int x :: st) h = if ¬ x = y then am_f d scr L call 107 n 167 lv st h else am_f d scr L call 107 n 163 lv st h := k_ic_ne (o := 7) rfl ⟨by decide, rfl⟩
set_option maxRecDepth 100000 in
theorem s_107_163 (d L n : Nat) (scr : Nat → Int32) (call : Nat → List Value → am_H → Option am_X) (lv : am_L) (st : List Value) (h : am_H) : am_f d scr L call 107 (n + 1) 163 lv st h = am_f d scr L call 107 n 164 lv (.int 1 :: st) h := k_nx (i := .iconst 1) rfl rfl
set_option maxRecDepth 100000 in
theorem s_107_164 (d L n : Nat) (scr : Nat → Int32) (call : Nat → List Value → am_H → Option am_X) (lv : am_L) (st : List Value) (h : am_H) : am_f d scr L call 107 (n + 1) 164 lv st h = am_f d scr L call 107 n 197 lv st h := k_nx (i := .goto 33) rfl rfl
set_option maxRecDepth 100000 in
theorem s_107_167 (d L n : Nat) (scr : Nat → Int32) (call : Nat → List Value → am_H → Option am_X) (lv : am_L) (st : List Value) (h : am_H) : am_f d scr L call 107 (n + 1) 167 lv st h = am_f d scr L call 107 n 168 lv (.int 0 :: st) h := k_nx (i := .iconst 0) rfl rfl
set_option maxRecDepth 100000 in
theorem s_107_168 (d L n : Nat) (scr : Nat → Int32) (call : Nat → List Value → am_H → Option am_X) (lv : am_L) (st : List Value) (h : am_H) : am_f d scr L call 107 (n + 1) 168 lv st h = am_f d scr L call 107 n 197 lv st h := k_nx (i := .goto 29) rfl rfl
set_option maxRecDepth 100000 in
theorem s_107_171 (d L n : Nat) (scr : Nat → Int32) (call : Nat → List Value → am_H → Option am_X) (lv : am_L) (st : List Value) (h : am_H) : am_f d scr L call 107 (n + 1) 171 lv st h = (match am_ld lv 4 with
    | some (.int x) => am_f d scr L call 107 n 173 lv (.int x :: st) h
    | _ => none) := k_li (i := .iload 4) rfl rfl rfl rfl
set_option maxRecDepth 100000 in
theorem s_107_173 (d L n : Nat) (scr : Nat → Int32) (call : Nat → List Value → am_H → Option am_X) (lv : am_L) (st : List Value) (h : am_H) : am_f d scr L call 107 (n + 1) 173 lv st h = am_f d scr L call 107 n 175 lv (.int 43 :: st) h := k_nx (i := .bipush 43) rfl rfl
set_option maxRecDepth 100000 in
theorem s_107_175 (d L n : Nat) (scr : Nat → Int32) (call : Nat → List Value → am_H → Option am_X) (lv : am_L) (st : List Value) (h : am_H) (x y : Int32) : am_f d scr L call 107 (n + 1) 175 lv (.int y :: .int x :: st) h = if x = y then am_f d scr L call 107 n 192 lv st h else am_f d scr L call 107 n 178 lv st h := k_ic_eq (o := 17) rfl ⟨by decide, rfl⟩
set_option maxRecDepth 100000 in
theorem s_107_178 (d L n : Nat) (scr : Nat → Int32) (call : Nat → List Value → am_H → Option am_X) (lv : am_L) (st : List Value) (h : am_H) : am_f d scr L call 107 (n + 1) 178 lv st h = (match am_ld lv 4 with
    | some (.int x) => am_f d scr L call 107 n 180 lv (.int x :: st) h
    | _ => none) := k_li (i := .iload 4) rfl rfl rfl rfl
set_option maxRecDepth 100000 in
theorem s_107_180 (d L n : Nat) (scr : Nat → Int32) (call : Nat → List Value → am_H → Option am_X) (lv : am_L) (st : List Value) (h : am_H) : am_f d scr L call 107 (n + 1) 180 lv st h = am_f d scr L call 107 n 182 lv (.int 45 :: st) h := k_nx (i := .bipush 45) rfl rfl
set_option maxRecDepth 100000 in
theorem s_107_182 (d L n : Nat) (scr : Nat → Int32) (call : Nat → List Value → am_H → Option am_X) (lv : am_L) (st : List Value) (h : am_H) (x y : Int32) : am_f d scr L call 107 (n + 1) 182 lv (.int y :: .int x :: st) h = if x = y then am_f d scr L call 107 n 192 lv st h else am_f d scr L call 107 n 185 lv st h := k_ic_eq (o := 10) rfl ⟨by decide, rfl⟩
set_option maxRecDepth 100000 in
theorem s_107_185 (d L n : Nat) (scr : Nat → Int32) (call : Nat → List Value → am_H → Option am_X) (lv : am_L) (st : List Value) (h : am_H) : am_f d scr L call 107 (n + 1) 185 lv st h = (match am_ld lv 4 with
    | some (.int x) => am_f d scr L call 107 n 187 lv (.int x :: st) h
    | _ => none) := k_li (i := .iload 4) rfl rfl rfl rfl
set_option maxRecDepth 100000 in
theorem s_107_187 (d L n : Nat) (scr : Nat → Int32) (call : Nat → List Value → am_H → Option am_X) (lv : am_L) (st : List Value) (h : am_H) : am_f d scr L call 107 (n + 1) 187 lv st h = am_f d scr L call 107 n 189 lv (.int 60 :: st) h := k_nx (i := .bipush 60) rfl rfl
set_option maxRecDepth 100000 in
theorem s_107_189 (d L n : Nat) (scr : Nat → Int32) (call : Nat → List Value → am_H → Option am_X) (lv : am_L) (st : List Value) (h : am_H) (x y : Int32) : am_f d scr L call 107 (n + 1) 189 lv (.int y :: .int x :: st) h = if ¬ x = y then am_f d scr L call 107 n 196 lv st h else am_f d scr L call 107 n 192 lv st h := k_ic_ne (o := 7) rfl ⟨by decide, rfl⟩
set_option maxRecDepth 100000 in
theorem s_107_192 (d L n : Nat) (scr : Nat → Int32) (call : Nat → List Value → am_H → Option am_X) (lv : am_L) (st : List Value) (h : am_H) : am_f d scr L call 107 (n + 1) 192 lv st h = am_f d scr L call 107 n 193 lv (.int 1 :: st) h := k_nx (i := .iconst 1) rfl rfl
set_option maxRecDepth 100000 in
theorem s_107_193 (d L n : Nat) (scr : Nat → Int32) (call : Nat → List Value → am_H → Option am_X) (lv : am_L) (st : List Value) (h : am_H) : am_f d scr L call 107 (n + 1) 193 lv st h = am_f d scr L call 107 n 197 lv st h := k_nx (i := .goto 4) rfl rfl
set_option maxRecDepth 100000 in
theorem s_107_196 (d L n : Nat) (scr : Nat → Int32) (call : Nat → List Value → am_H → Option am_X) (lv : am_L) (st : List Value) (h : am_H) : am_f d scr L call 107 (n + 1) 196 lv st h = am_f d scr L call 107 n 197 lv (.int 0 :: st) h := k_nx (i := .iconst 0) rfl rfl
set_option maxRecDepth 100000 in
theorem s_107_197 (d L n : Nat) (scr : Nat → Int32) (call : Nat → List Value → am_H → Option am_X) (lv : am_L) (h : am_H) (x : Int32) : am_f d scr L call 107 (n + 1) 197 lv [.int x] h = if x = 0 ∨ x = 1 then some (some (.int x), h, 0, 0) else none := k_zr rfl rfl
set_option maxRecDepth 100000 in
theorem s_107_198 (d L n : Nat) (scr : Nat → Int32) (call : Nat → List Value → am_H → Option am_X) (lv : am_L) (st : List Value) (h : am_H) : am_f d scr L call 107 (n + 1) 198 lv st h = (match am_ld lv 3 with
    | some (.int x) => am_f d scr L call 107 n 199 lv (.int x :: st) h
    | _ => none) := k_li (i := .iload_n 3) rfl rfl rfl rfl
set_option maxRecDepth 100000 in
theorem s_107_199 (d L n : Nat) (scr : Nat → Int32) (call : Nat → List Value → am_H → Option am_X) (lv : am_L) (st : List Value) (h : am_H) : am_f d scr L call 107 (n + 1) 199 lv st h = am_f d scr L call 107 n 201 lv (.int 9 :: st) h := k_nx (i := .bipush 9) rfl rfl
set_option maxRecDepth 100000 in
theorem s_107_201 (d L n : Nat) (scr : Nat → Int32) (call : Nat → List Value → am_H → Option am_X) (lv : am_L) (st : List Value) (h : am_H) (x y : Int32) : am_f d scr L call 107 (n + 1) 201 lv (.int y :: .int x :: st) h = if ¬ x = y then am_f d scr L call 107 n 241 lv st h else am_f d scr L call 107 n 204 lv st h := k_ic_ne (o := 40) rfl ⟨by decide, rfl⟩
set_option maxRecDepth 100000 in
theorem s_107_204 (d L n : Nat) (scr : Nat → Int32) (call : Nat → List Value → am_H → Option am_X) (lv : am_L) (st : List Value) (h : am_H) : am_f d scr L call 107 (n + 1) 204 lv st h = (match am_ld lv 0 with
    | some (.ref x) => am_f d scr L call 107 n 205 lv (.ref x :: st) h
    | _ => none) := k_la (i := .aload_n 0) rfl rfl rfl rfl
set_option maxRecDepth 100000 in
theorem s_107_205 (d L n : Nat) (scr : Nat → Int32) (call : Nat → List Value → am_H → Option am_X) (lv : am_L) (st : List Value) (h : am_H) : am_f d scr L call 107 (n + 1) 205 lv st h = (match am_ld lv 0 with
    | some (.ref x) => am_f d scr L call 107 n 206 lv (.ref x :: st) h
    | _ => none) := k_la (i := .aload_n 0) rfl rfl rfl rfl
set_option maxRecDepth 100000 in
theorem s_107_206 (d L n : Nat) (scr : Nat → Int32) (call : Nat → List Value → am_H → Option am_X) (lv : am_L) (st : List Value) (h : am_H) (a : Nat) : am_f d scr L call 107 (n + 1) 206 lv (.ref a :: st) h = (match am_get h a 8 17 with
    | some v => am_f d scr L call 107 n 209 lv (v :: st) h
    | none => none) := k_gf (k := 47) rfl rfl
set_option maxRecDepth 100000 in
theorem s_107_209 (d L n : Nat) (scr : Nat → Int32) (call : Nat → List Value → am_H → Option am_X) (lv : am_L) (st : List Value) (h : am_H) : am_f d scr L call 107 (n + 1) 209 lv st h = (match am_ld lv 1 with
    | some (.int x) => am_f d scr L call 107 n 210 lv (.int x :: st) h
    | _ => none) := k_li (i := .iload_n 1) rfl rfl rfl rfl
set_option maxRecDepth 100000 in
theorem s_107_210 (d L n : Nat) (scr : Nat → Int32) (call : Nat → List Value → am_H → Option am_X) (lv : am_L) (st : List Value) (h : am_H) (a : Nat) (i : Int32) : am_f d scr L call 107 (n + 1) 210 lv (.int i :: .ref a :: st) h = (match am_ild scr L h a i with
    | some x => am_f d scr L call 107 n 211 lv (.int x :: st) h
    | none => none) := k_ia rfl
set_option maxRecDepth 100000 in
theorem s_107_211 (d L n : Nat) (scr : Nat → Int32) (call : Nat → List Value → am_H → Option am_X) (lv : am_L) (st : List Value) (h : am_H) : am_f d scr L call 107 (n + 1) 211 lv st h = am_f d scr L call 107 n 212 lv (.int 1 :: st) h := k_nx (i := .iconst 1) rfl rfl
set_option maxRecDepth 100000 in
theorem s_107_212 (d L n : Nat) (scr : Nat → Int32) (call : Nat → List Value → am_H → Option am_X) (lv : am_L) (st : List Value) (h : am_H) (x y : Int32) : am_f d scr L call 107 (n + 1) 212 lv (.int y :: .int x :: st) h = if ¬ x = y then am_f d scr L call 107 n 220 lv st h else am_f d scr L call 107 n 215 lv st h := k_ic_ne (o := 8) rfl ⟨by decide, rfl⟩
set_option maxRecDepth 100000 in
theorem s_107_215 (d L n : Nat) (scr : Nat → Int32) (call : Nat → List Value → am_H → Option am_X) (lv : am_L) (st : List Value) (h : am_H) : am_f d scr L call 107 (n + 1) 215 lv st h = am_f d scr L call 107 n 217 lv (.int 63 :: st) h := k_nx (i := .bipush 63) rfl rfl
set_option maxRecDepth 100000 in
theorem s_107_217 (d L n : Nat) (scr : Nat → Int32) (call : Nat → List Value → am_H → Option am_X) (lv : am_L) (st : List Value) (h : am_H) : am_f d scr L call 107 (n + 1) 217 lv st h = am_f d scr L call 107 n 237 lv st h := k_nx (i := .goto 20) rfl rfl
set_option maxRecDepth 100000 in
theorem s_107_220 (d L n : Nat) (scr : Nat → Int32) (call : Nat → List Value → am_H → Option am_X) (lv : am_L) (st : List Value) (h : am_H) : am_f d scr L call 107 (n + 1) 220 lv st h = (match am_ld lv 0 with
    | some (.ref x) => am_f d scr L call 107 n 221 lv (.ref x :: st) h
    | _ => none) := k_la (i := .aload_n 0) rfl rfl rfl rfl
set_option maxRecDepth 100000 in
theorem s_107_221 (d L n : Nat) (scr : Nat → Int32) (call : Nat → List Value → am_H → Option am_X) (lv : am_L) (st : List Value) (h : am_H) (a : Nat) : am_f d scr L call 107 (n + 1) 221 lv (.ref a :: st) h = (match am_get h a 8 17 with
    | some v => am_f d scr L call 107 n 224 lv (v :: st) h
    | none => none) := k_gf (k := 47) rfl rfl
set_option maxRecDepth 100000 in
theorem s_107_224 (d L n : Nat) (scr : Nat → Int32) (call : Nat → List Value → am_H → Option am_X) (lv : am_L) (st : List Value) (h : am_H) : am_f d scr L call 107 (n + 1) 224 lv st h = (match am_ld lv 1 with
    | some (.int x) => am_f d scr L call 107 n 225 lv (.int x :: st) h
    | _ => none) := k_li (i := .iload_n 1) rfl rfl rfl rfl
set_option maxRecDepth 100000 in
theorem s_107_225 (d L n : Nat) (scr : Nat → Int32) (call : Nat → List Value → am_H → Option am_X) (lv : am_L) (st : List Value) (h : am_H) (a : Nat) (i : Int32) : am_f d scr L call 107 (n + 1) 225 lv (.int i :: .ref a :: st) h = (match am_ild scr L h a i with
    | some x => am_f d scr L call 107 n 226 lv (.int x :: st) h
    | none => none) := k_ia rfl
set_option maxRecDepth 100000 in
theorem s_107_226 (d L n : Nat) (scr : Nat → Int32) (call : Nat → List Value → am_H → Option am_X) (lv : am_L) (st : List Value) (h : am_H) : am_f d scr L call 107 (n + 1) 226 lv st h = am_f d scr L call 107 n 227 lv (.int 2 :: st) h := k_nx (i := .iconst 2) rfl rfl
set_option maxRecDepth 100000 in
theorem s_107_227 (d L n : Nat) (scr : Nat → Int32) (call : Nat → List Value → am_H → Option am_X) (lv : am_L) (st : List Value) (h : am_H) (x y : Int32) : am_f d scr L call 107 (n + 1) 227 lv (.int y :: .int x :: st) h = if ¬ x = y then am_f d scr L call 107 n 235 lv st h else am_f d scr L call 107 n 230 lv st h := k_ic_ne (o := 8) rfl ⟨by decide, rfl⟩
set_option maxRecDepth 100000 in
theorem s_107_230 (d L n : Nat) (scr : Nat → Int32) (call : Nat → List Value → am_H → Option am_X) (lv : am_L) (st : List Value) (h : am_H) : am_f d scr L call 107 (n + 1) 230 lv st h = am_f d scr L call 107 n 232 lv (.int 58 :: st) h := k_nx (i := .bipush 58) rfl rfl
set_option maxRecDepth 100000 in
theorem s_107_232 (d L n : Nat) (scr : Nat → Int32) (call : Nat → List Value → am_H → Option am_X) (lv : am_L) (st : List Value) (h : am_H) : am_f d scr L call 107 (n + 1) 232 lv st h = am_f d scr L call 107 n 237 lv st h := k_nx (i := .goto 5) rfl rfl
set_option maxRecDepth 100000 in
theorem s_107_235 (d L n : Nat) (scr : Nat → Int32) (call : Nat → List Value → am_H → Option am_X) (lv : am_L) (st : List Value) (h : am_H) : am_f d scr L call 107 (n + 1) 235 lv st h = am_f d scr L call 107 n 237 lv (.int 93 :: st) h := k_nx (i := .bipush 93) rfl rfl
set_option maxRecDepth 100000 in
theorem s_107_237 (d L n : Nat) (scr : Nat → Int32) (call : Nat → List Value → am_H → Option am_X) (lv : am_L) (h : am_H) (o : Nat) (a0 : Int32)  : am_f d scr L call 107 (n + 1) 237 lv (.int a0 :: .ref o :: []) h = if am_at h o 8 = true then (match call 101 [.ref o, .int a0] h with
    | some (v, h', dk, dn) => am_add dk dn (am_f d scr L call 107 n 240 lv (v.toList ++ []) h')
    | none => none) else none := k_iv0 (k := 153) (as := [.int a0]) (r := []) rfl rfl rfl rfl (Nat.le_of_ble_eq_true rfl)
set_option maxRecDepth 100000 in
theorem s_107_240 (d L n : Nat) (scr : Nat → Int32) (call : Nat → List Value → am_H → Option am_X) (lv : am_L) (h : am_H) (x : Int32) : am_f d scr L call 107 (n + 1) 240 lv [.int x] h = if x = 0 ∨ x = 1 then some (some (.int x), h, 0, 0) else none := k_zr rfl rfl
set_option maxRecDepth 100000 in
theorem s_107_241 (d L n : Nat) (scr : Nat → Int32) (call : Nat → List Value → am_H → Option am_X) (lv : am_L) (st : List Value) (h : am_H) : am_f d scr L call 107 (n + 1) 241 lv st h = (match am_ld lv 3 with
    | some (.int x) => am_f d scr L call 107 n 242 lv (.int x :: st) h
    | _ => none) := k_li (i := .iload_n 3) rfl rfl rfl rfl
set_option maxRecDepth 100000 in
theorem s_107_242 (d L n : Nat) (scr : Nat → Int32) (call : Nat → List Value → am_H → Option am_X) (lv : am_L) (st : List Value) (h : am_H) : am_f d scr L call 107 (n + 1) 242 lv st h = am_f d scr L call 107 n 244 lv (.int 12 :: st) h := k_nx (i := .bipush 12) rfl rfl
set_option maxRecDepth 100000 in
theorem s_107_244 (d L n : Nat) (scr : Nat → Int32) (call : Nat → List Value → am_H → Option am_X) (lv : am_L) (st : List Value) (h : am_H) (x y : Int32) : am_f d scr L call 107 (n + 1) 244 lv (.int y :: .int x :: st) h = if ¬ x = y then am_f d scr L call 107 n 300 lv st h else am_f d scr L call 107 n 247 lv st h := k_ic_ne (o := 56) rfl ⟨by decide, rfl⟩
set_option maxRecDepth 100000 in
theorem s_107_247 (d L n : Nat) (scr : Nat → Int32) (call : Nat → List Value → am_H → Option am_X) (lv : am_L) (st : List Value) (h : am_H) : am_f d scr L call 107 (n + 1) 247 lv st h = (match am_ld lv 0 with
    | some (.ref x) => am_f d scr L call 107 n 248 lv (.ref x :: st) h
    | _ => none) := k_la (i := .aload_n 0) rfl rfl rfl rfl
set_option maxRecDepth 100000 in
theorem s_107_248 (d L n : Nat) (scr : Nat → Int32) (call : Nat → List Value → am_H → Option am_X) (lv : am_L) (st : List Value) (h : am_H) (a : Nat) : am_f d scr L call 107 (n + 1) 248 lv (.ref a :: st) h = (match am_get h a 8 12 with
    | some v => am_f d scr L call 107 n 251 lv (v :: st) h
    | none => none) := k_gf (k := 32) rfl rfl
set_option maxRecDepth 100000 in
theorem s_107_251 (d L n : Nat) (scr : Nat → Int32) (call : Nat → List Value → am_H → Option am_X) (lv : am_L) (st : List Value) (h : am_H) : am_f d scr L call 107 (n + 1) 251 lv st h = (match am_ld lv 1 with
    | some (.int x) => am_f d scr L call 107 n 252 lv (.int x :: st) h
    | _ => none) := k_li (i := .iload_n 1) rfl rfl rfl rfl
set_option maxRecDepth 100000 in
theorem s_107_252 (d L n : Nat) (scr : Nat → Int32) (call : Nat → List Value → am_H → Option am_X) (lv : am_L) (st : List Value) (h : am_H) : am_f d scr L call 107 (n + 1) 252 lv st h = (match am_ld lv 0 with
    | some (.ref x) => am_f d scr L call 107 n 253 lv (.ref x :: st) h
    | _ => none) := k_la (i := .aload_n 0) rfl rfl rfl rfl
set_option maxRecDepth 100000 in
theorem s_107_253 (d L n : Nat) (scr : Nat → Int32) (call : Nat → List Value → am_H → Option am_X) (lv : am_L) (st : List Value) (h : am_H) : am_f d scr L call 107 (n + 1) 253 lv st h = am_f d scr L call 107 n 255 lv (.int 58 :: st) h := k_nx (i := .bipush 58) rfl rfl
set_option maxRecDepth 100000 in
theorem s_107_255 (d L n : Nat) (scr : Nat → Int32) (call : Nat → List Value → am_H → Option am_X) (lv : am_L) (h : am_H) (o : Nat) (a0 : Int32) (r0 : Int32) (r1 : Nat) : am_f d scr L call 107 (n + 1) 255 lv (.int a0 :: .ref o :: .int r0 :: .ref r1 :: []) h = if am_at h o 8 = true then (match call 101 [.ref o, .int a0] h with
    | some (v, h', dk, dn) => am_add dk dn (am_f d scr L call 107 n 258 lv (v.toList ++ [.int r0, .ref r1]) h')
    | none => none) else none := k_iv0 (k := 153) (as := [.int a0]) (r := [.int r0, .ref r1]) rfl rfl rfl rfl (Nat.le_of_ble_eq_true rfl)
set_option maxRecDepth 100000 in
theorem s_107_258 (d L n : Nat) (scr : Nat → Int32) (call : Nat → List Value → am_H → Option am_X) (lv : am_L) (st : List Value) (h : am_H) (x : Int32) : am_f d scr L call 107 (n + 1) 258 lv (.int x :: st) h = if x = 0 then am_f d scr L call 107 n 274 lv st h else am_f d scr L call 107 n 261 lv st h := k_if_eq (o := 16) rfl ⟨by decide, rfl⟩
set_option maxRecDepth 100000 in
theorem s_107_261 (d L n : Nat) (scr : Nat → Int32) (call : Nat → List Value → am_H → Option am_X) (lv : am_L) (st : List Value) (h : am_H) : am_f d scr L call 107 (n + 1) 261 lv st h = (match am_ld lv 0 with
    | some (.ref x) => am_f d scr L call 107 n 262 lv (.ref x :: st) h
    | _ => none) := k_la (i := .aload_n 0) rfl rfl rfl rfl
set_option maxRecDepth 100000 in
theorem s_107_262 (d L n : Nat) (scr : Nat → Int32) (call : Nat → List Value → am_H → Option am_X) (lv : am_L) (st : List Value) (h : am_H) : am_f d scr L call 107 (n + 1) 262 lv st h = (match am_ld lv 0 with
    | some (.ref x) => am_f d scr L call 107 n 263 lv (.ref x :: st) h
    | _ => none) := k_la (i := .aload_n 0) rfl rfl rfl rfl
set_option maxRecDepth 100000 in
theorem s_107_263 (d L n : Nat) (scr : Nat → Int32) (call : Nat → List Value → am_H → Option am_X) (lv : am_L) (st : List Value) (h : am_H) (a : Nat) : am_f d scr L call 107 (n + 1) 263 lv (.ref a :: st) h = (match am_get h a 8 21 with
    | some v => am_f d scr L call 107 n 266 lv (v :: st) h
    | none => none) := k_gf (k := 167) rfl rfl
set_option maxRecDepth 100000 in
theorem s_107_266 (d L n : Nat) (scr : Nat → Int32) (call : Nat → List Value → am_H → Option am_X) (lv : am_L) (st : List Value) (h : am_H) : am_f d scr L call 107 (n + 1) 266 lv st h = am_f d scr L call 107 n 267 lv (.int 1 :: st) h := k_nx (i := .iconst 1) rfl rfl
set_option maxRecDepth 100000 in
theorem s_107_267 (d L n : Nat) (scr : Nat → Int32) (call : Nat → List Value → am_H → Option am_X) (lv : am_L) (st : List Value) (h : am_H) (x y : Int32) : am_f d scr L call 107 (n + 1) 267 lv (.int y :: .int x :: st) h = am_f d scr L call 107 n 268 lv (.int (x + y) :: st) h := k_nx (i := .iadd) rfl rfl
set_option maxRecDepth 100000 in
theorem s_107_268 (d L n : Nat) (scr : Nat → Int32) (call : Nat → List Value → am_H → Option am_X) (lv : am_L) (h : am_H) (o : Nat) (a0 : Int32) (r0 : Int32) (r1 : Nat) : am_f d scr L call 107 (n + 1) 268 lv (.int a0 :: .ref o :: .int r0 :: .ref r1 :: []) h = if am_at h o 8 = true then (match call 104 [.ref o, .int a0] h with
    | some (v, h', dk, dn) => am_add dk dn (am_f d scr L call 107 n 271 lv (v.toList ++ [.int r0, .ref r1]) h')
    | none => none) else none := k_iv0 (k := 173) (as := [.int a0]) (r := [.int r0, .ref r1]) rfl rfl rfl rfl (Nat.le_of_ble_eq_true rfl)
set_option maxRecDepth 100000 in
theorem s_107_271 (d L n : Nat) (scr : Nat → Int32) (call : Nat → List Value → am_H → Option am_X) (lv : am_L) (st : List Value) (h : am_H) : am_f d scr L call 107 (n + 1) 271 lv st h = am_f d scr L call 107 n 275 lv st h := k_nx (i := .goto 4) rfl rfl
set_option maxRecDepth 100000 in
theorem s_107_274 (d L n : Nat) (scr : Nat → Int32) (call : Nat → List Value → am_H → Option am_X) (lv : am_L) (st : List Value) (h : am_H) : am_f d scr L call 107 (n + 1) 274 lv st h = am_f d scr L call 107 n 275 lv (.int (-1) :: st) h := k_nx (i := .iconst (-1)) rfl rfl
set_option maxRecDepth 100000 in
theorem s_107_275 (d L n : Nat) (scr : Nat → Int32) (call : Nat → List Value → am_H → Option am_X) (lv : am_L) (st : List Value) (h : am_H) (a : Nat) (i : Int32) (x : Int32) : am_f d scr L call 107 (n + 1) 275 lv (.int x :: .int i :: .ref a :: st) h = (match am_ist h a i x with
    | some h' => am_f d scr L call 107 n 276 lv st h'
    | none => none) := k_is rfl
set_option maxRecDepth 100000 in
theorem s_107_276 (d L n : Nat) (scr : Nat → Int32) (call : Nat → List Value → am_H → Option am_X) (lv : am_L) (st : List Value) (h : am_H) : am_f d scr L call 107 (n + 1) 276 lv st h = (match am_ld lv 0 with
    | some (.ref x) => am_f d scr L call 107 n 277 lv (.ref x :: st) h
    | _ => none) := k_la (i := .aload_n 0) rfl rfl rfl rfl
set_option maxRecDepth 100000 in
theorem s_107_277 (d L n : Nat) (scr : Nat → Int32) (call : Nat → List Value → am_H → Option am_X) (lv : am_L) (st : List Value) (h : am_H) (a : Nat) : am_f d scr L call 107 (n + 1) 277 lv (.ref a :: st) h = (match am_get h a 8 12 with
    | some v => am_f d scr L call 107 n 280 lv (v :: st) h
    | none => none) := k_gf (k := 32) rfl rfl
set_option maxRecDepth 100000 in
theorem s_107_280 (d L n : Nat) (scr : Nat → Int32) (call : Nat → List Value → am_H → Option am_X) (lv : am_L) (st : List Value) (h : am_H) : am_f d scr L call 107 (n + 1) 280 lv st h = (match am_ld lv 1 with
    | some (.int x) => am_f d scr L call 107 n 281 lv (.int x :: st) h
    | _ => none) := k_li (i := .iload_n 1) rfl rfl rfl rfl
set_option maxRecDepth 100000 in
theorem s_107_281 (d L n : Nat) (scr : Nat → Int32) (call : Nat → List Value → am_H → Option am_X) (lv : am_L) (st : List Value) (h : am_H) (a : Nat) (i : Int32) : am_f d scr L call 107 (n + 1) 281 lv (.int i :: .ref a :: st) h = (match am_ild scr L h a i with
    | some x => am_f d scr L call 107 n 282 lv (.int x :: st) h
    | none => none) := k_ia rfl
set_option maxRecDepth 100000 in
theorem s_107_282 (d L n : Nat) (scr : Nat → Int32) (call : Nat → List Value → am_H → Option am_X) (lv : am_L) (st : List Value) (h : am_H) (x : Int32) : am_f d scr L call 107 (n + 1) 282 lv (.int x :: st) h = if x < 0 then am_f d scr L call 107 n 298 lv st h else am_f d scr L call 107 n 285 lv st h := k_if_lt (o := 16) rfl ⟨by decide, rfl⟩
set_option maxRecDepth 100000 in
theorem s_107_285 (d L n : Nat) (scr : Nat → Int32) (call : Nat → List Value → am_H → Option am_X) (lv : am_L) (st : List Value) (h : am_H) : am_f d scr L call 107 (n + 1) 285 lv st h = (match am_ld lv 0 with
    | some (.ref x) => am_f d scr L call 107 n 286 lv (.ref x :: st) h
    | _ => none) := k_la (i := .aload_n 0) rfl rfl rfl rfl
set_option maxRecDepth 100000 in
theorem s_107_286 (d L n : Nat) (scr : Nat → Int32) (call : Nat → List Value → am_H → Option am_X) (lv : am_L) (st : List Value) (h : am_H) : am_f d scr L call 107 (n + 1) 286 lv st h = am_f d scr L call 107 n 288 lv (.int 62 :: st) h := k_nx (i := .bipush 62) rfl rfl
set_option maxRecDepth 100000 in
theorem s_107_288 (d L n : Nat) (scr : Nat → Int32) (call : Nat → List Value → am_H → Option am_X) (lv : am_L) (h : am_H) (o : Nat) (a0 : Int32)  : am_f d scr L call 107 (n + 1) 288 lv (.int a0 :: .ref o :: []) h = if am_at h o 8 = true then (match call 101 [.ref o, .int a0] h with
    | some (v, h', dk, dn) => am_add dk dn (am_f d scr L call 107 n 291 lv (v.toList ++ []) h')
    | none => none) else none := k_iv0 (k := 153) (as := [.int a0]) (r := []) rfl rfl rfl rfl (Nat.le_of_ble_eq_true rfl)
set_option maxRecDepth 100000 in
theorem s_107_291 (d L n : Nat) (scr : Nat → Int32) (call : Nat → List Value → am_H → Option am_X) (lv : am_L) (st : List Value) (h : am_H) (x : Int32) : am_f d scr L call 107 (n + 1) 291 lv (.int x :: st) h = if x = 0 then am_f d scr L call 107 n 298 lv st h else am_f d scr L call 107 n 294 lv st h := k_if_eq (o := 7) rfl ⟨by decide, rfl⟩
set_option maxRecDepth 100000 in
theorem s_107_294 (d L n : Nat) (scr : Nat → Int32) (call : Nat → List Value → am_H → Option am_X) (lv : am_L) (st : List Value) (h : am_H) : am_f d scr L call 107 (n + 1) 294 lv st h = am_f d scr L call 107 n 295 lv (.int 1 :: st) h := k_nx (i := .iconst 1) rfl rfl
set_option maxRecDepth 100000 in
theorem s_107_295 (d L n : Nat) (scr : Nat → Int32) (call : Nat → List Value → am_H → Option am_X) (lv : am_L) (st : List Value) (h : am_H) : am_f d scr L call 107 (n + 1) 295 lv st h = am_f d scr L call 107 n 299 lv st h := k_nx (i := .goto 4) rfl rfl
set_option maxRecDepth 100000 in
theorem s_107_298 (d L n : Nat) (scr : Nat → Int32) (call : Nat → List Value → am_H → Option am_X) (lv : am_L) (st : List Value) (h : am_H) : am_f d scr L call 107 (n + 1) 298 lv st h = am_f d scr L call 107 n 299 lv (.int 0 :: st) h := k_nx (i := .iconst 0) rfl rfl
set_option maxRecDepth 100000 in
theorem s_107_299 (d L n : Nat) (scr : Nat → Int32) (call : Nat → List Value → am_H → Option am_X) (lv : am_L) (h : am_H) (x : Int32) : am_f d scr L call 107 (n + 1) 299 lv [.int x] h = if x = 0 ∨ x = 1 then some (some (.int x), h, 0, 0) else none := k_zr rfl rfl
set_option maxRecDepth 100000 in
theorem s_107_300 (d L n : Nat) (scr : Nat → Int32) (call : Nat → List Value → am_H → Option am_X) (lv : am_L) (st : List Value) (h : am_H) : am_f d scr L call 107 (n + 1) 300 lv st h = (match am_ld lv 3 with
    | some (.int x) => am_f d scr L call 107 n 301 lv (.int x :: st) h
    | _ => none) := k_li (i := .iload_n 3) rfl rfl rfl rfl
set_option maxRecDepth 100000 in
theorem s_107_301 (d L n : Nat) (scr : Nat → Int32) (call : Nat → List Value → am_H → Option am_X) (lv : am_L) (st : List Value) (h : am_H) : am_f d scr L call 107 (n + 1) 301 lv st h = am_f d scr L call 107 n 302 lv (.int 4 :: st) h := k_nx (i := .iconst 4) rfl rfl
set_option maxRecDepth 100000 in
theorem s_107_302 (d L n : Nat) (scr : Nat → Int32) (call : Nat → List Value → am_H → Option am_X) (lv : am_L) (st : List Value) (h : am_H) (x y : Int32) : am_f d scr L call 107 (n + 1) 302 lv (.int y :: .int x :: st) h = if x = y then am_f d scr L call 107 n 310 lv st h else am_f d scr L call 107 n 305 lv st h := k_ic_eq (o := 8) rfl ⟨by decide, rfl⟩
set_option maxRecDepth 100000 in
theorem s_107_305 (d L n : Nat) (scr : Nat → Int32) (call : Nat → List Value → am_H → Option am_X) (lv : am_L) (st : List Value) (h : am_H) : am_f d scr L call 107 (n + 1) 305 lv st h = (match am_ld lv 3 with
    | some (.int x) => am_f d scr L call 107 n 306 lv (.int x :: st) h
    | _ => none) := k_li (i := .iload_n 3) rfl rfl rfl rfl
set_option maxRecDepth 100000 in
theorem s_107_306 (d L n : Nat) (scr : Nat → Int32) (call : Nat → List Value → am_H → Option am_X) (lv : am_L) (st : List Value) (h : am_H) : am_f d scr L call 107 (n + 1) 306 lv st h = am_f d scr L call 107 n 307 lv (.int 5 :: st) h := k_nx (i := .iconst 5) rfl rfl
set_option maxRecDepth 100000 in
theorem s_107_307 (d L n : Nat) (scr : Nat → Int32) (call : Nat → List Value → am_H → Option am_X) (lv : am_L) (st : List Value) (h : am_H) (x y : Int32) : am_f d scr L call 107 (n + 1) 307 lv (.int y :: .int x :: st) h = if ¬ x = y then am_f d scr L call 107 n 319 lv st h else am_f d scr L call 107 n 310 lv st h := k_ic_ne (o := 12) rfl ⟨by decide, rfl⟩
set_option maxRecDepth 100000 in
theorem s_107_310 (d L n : Nat) (scr : Nat → Int32) (call : Nat → List Value → am_H → Option am_X) (lv : am_L) (st : List Value) (h : am_H) : am_f d scr L call 107 (n + 1) 310 lv st h = (match am_ld lv 0 with
    | some (.ref x) => am_f d scr L call 107 n 311 lv (.ref x :: st) h
    | _ => none) := k_la (i := .aload_n 0) rfl rfl rfl rfl
set_option maxRecDepth 100000 in
theorem s_107_311 (d L n : Nat) (scr : Nat → Int32) (call : Nat → List Value → am_H → Option am_X) (lv : am_L) (st : List Value) (h : am_H) : am_f d scr L call 107 (n + 1) 311 lv st h = am_f d scr L call 107 n 313 lv (.int 41 :: st) h := k_nx (i := .bipush 41) rfl rfl
set_option maxRecDepth 100000 in
theorem s_107_313 (d L n : Nat) (scr : Nat → Int32) (call : Nat → List Value → am_H → Option am_X) (lv : am_L) (h : am_H) (o : Nat) (a0 : Int32)  : am_f d scr L call 107 (n + 1) 313 lv (.int a0 :: .ref o :: []) h = if am_at h o 8 = true then (match call 101 [.ref o, .int a0] h with
    | some (v, h', dk, dn) => am_add dk dn (am_f d scr L call 107 n 316 lv (v.toList ++ []) h')
    | none => none) else none := k_iv0 (k := 153) (as := [.int a0]) (r := []) rfl rfl rfl rfl (Nat.le_of_ble_eq_true rfl)
set_option maxRecDepth 100000 in
theorem s_107_316 (d L n : Nat) (scr : Nat → Int32) (call : Nat → List Value → am_H → Option am_X) (lv : am_L) (st : List Value) (h : am_H) : am_f d scr L call 107 (n + 1) 316 lv st h = am_f d scr L call 107 n 347 lv st h := k_nx (i := .goto 31) rfl rfl
set_option maxRecDepth 100000 in
theorem s_107_319 (d L n : Nat) (scr : Nat → Int32) (call : Nat → List Value → am_H → Option am_X) (lv : am_L) (st : List Value) (h : am_H) : am_f d scr L call 107 (n + 1) 319 lv st h = (match am_ld lv 3 with
    | some (.int x) => am_f d scr L call 107 n 320 lv (.int x :: st) h
    | _ => none) := k_li (i := .iload_n 3) rfl rfl rfl rfl
set_option maxRecDepth 100000 in
theorem s_107_320 (d L n : Nat) (scr : Nat → Int32) (call : Nat → List Value → am_H → Option am_X) (lv : am_L) (st : List Value) (h : am_H) : am_f d scr L call 107 (n + 1) 320 lv st h = am_f d scr L call 107 n 322 lv (.int 6 :: st) h := k_nx (i := .bipush 6) rfl rfl
set_option maxRecDepth 100000 in
theorem s_107_322 (d L n : Nat) (scr : Nat → Int32) (call : Nat → List Value → am_H → Option am_X) (lv : am_L) (st : List Value) (h : am_H) (x y : Int32) : am_f d scr L call 107 (n + 1) 322 lv (.int y :: .int x :: st) h = if x = y then am_f d scr L call 107 n 337 lv st h else am_f d scr L call 107 n 325 lv st h := k_ic_eq (o := 15) rfl ⟨by decide, rfl⟩
set_option maxRecDepth 100000 in
theorem s_107_325 (d L n : Nat) (scr : Nat → Int32) (call : Nat → List Value → am_H → Option am_X) (lv : am_L) (st : List Value) (h : am_H) : am_f d scr L call 107 (n + 1) 325 lv st h = (match am_ld lv 3 with
    | some (.int x) => am_f d scr L call 107 n 326 lv (.int x :: st) h
    | _ => none) := k_li (i := .iload_n 3) rfl rfl rfl rfl
set_option maxRecDepth 100000 in
theorem s_107_326 (d L n : Nat) (scr : Nat → Int32) (call : Nat → List Value → am_H → Option am_X) (lv : am_L) (st : List Value) (h : am_H) : am_f d scr L call 107 (n + 1) 326 lv st h = am_f d scr L call 107 n 328 lv (.int 7 :: st) h := k_nx (i := .bipush 7) rfl rfl
set_option maxRecDepth 100000 in
theorem s_107_328 (d L n : Nat) (scr : Nat → Int32) (call : Nat → List Value → am_H → Option am_X) (lv : am_L) (st : List Value) (h : am_H) (x y : Int32) : am_f d scr L call 107 (n + 1) 328 lv (.int y :: .int x :: st) h = if x = y then am_f d scr L call 107 n 337 lv st h else am_f d scr L call 107 n 331 lv st h := k_ic_eq (o := 9) rfl ⟨by decide, rfl⟩
set_option maxRecDepth 100000 in
theorem s_107_331 (d L n : Nat) (scr : Nat → Int32) (call : Nat → List Value → am_H → Option am_X) (lv : am_L) (st : List Value) (h : am_H) : am_f d scr L call 107 (n + 1) 331 lv st h = (match am_ld lv 3 with
    | some (.int x) => am_f d scr L call 107 n 332 lv (.int x :: st) h
    | _ => none) := k_li (i := .iload_n 3) rfl rfl rfl rfl
set_option maxRecDepth 100000 in
theorem s_107_332 (d L n : Nat) (scr : Nat → Int32) (call : Nat → List Value → am_H → Option am_X) (lv : am_L) (st : List Value) (h : am_H) : am_f d scr L call 107 (n + 1) 332 lv st h = am_f d scr L call 107 n 334 lv (.int 8 :: st) h := k_nx (i := .bipush 8) rfl rfl
set_option maxRecDepth 100000 in
theorem s_107_334 (d L n : Nat) (scr : Nat → Int32) (call : Nat → List Value → am_H → Option am_X) (lv : am_L) (st : List Value) (h : am_H) (x y : Int32) : am_f d scr L call 107 (n + 1) 334 lv (.int y :: .int x :: st) h = if ¬ x = y then am_f d scr L call 107 n 346 lv st h else am_f d scr L call 107 n 337 lv st h := k_ic_ne (o := 12) rfl ⟨by decide, rfl⟩
set_option maxRecDepth 100000 in
theorem s_107_337 (d L n : Nat) (scr : Nat → Int32) (call : Nat → List Value → am_H → Option am_X) (lv : am_L) (st : List Value) (h : am_H) : am_f d scr L call 107 (n + 1) 337 lv st h = (match am_ld lv 0 with
    | some (.ref x) => am_f d scr L call 107 n 338 lv (.ref x :: st) h
    | _ => none) := k_la (i := .aload_n 0) rfl rfl rfl rfl
set_option maxRecDepth 100000 in
theorem s_107_338 (d L n : Nat) (scr : Nat → Int32) (call : Nat → List Value → am_H → Option am_X) (lv : am_L) (st : List Value) (h : am_H) : am_f d scr L call 107 (n + 1) 338 lv st h = am_f d scr L call 107 n 340 lv (.int 125 :: st) h := k_nx (i := .bipush 125) rfl rfl
set_option maxRecDepth 100000 in
theorem s_107_340 (d L n : Nat) (scr : Nat → Int32) (call : Nat → List Value → am_H → Option am_X) (lv : am_L) (h : am_H) (o : Nat) (a0 : Int32)  : am_f d scr L call 107 (n + 1) 340 lv (.int a0 :: .ref o :: []) h = if am_at h o 8 = true then (match call 101 [.ref o, .int a0] h with
    | some (v, h', dk, dn) => am_add dk dn (am_f d scr L call 107 n 343 lv (v.toList ++ []) h')
    | none => none) else none := k_iv0 (k := 153) (as := [.int a0]) (r := []) rfl rfl rfl rfl (Nat.le_of_ble_eq_true rfl)
set_option maxRecDepth 100000 in
theorem s_107_343 (d L n : Nat) (scr : Nat → Int32) (call : Nat → List Value → am_H → Option am_X) (lv : am_L) (st : List Value) (h : am_H) : am_f d scr L call 107 (n + 1) 343 lv st h = am_f d scr L call 107 n 347 lv st h := k_nx (i := .goto 4) rfl rfl
set_option maxRecDepth 100000 in
theorem s_107_346 (d L n : Nat) (scr : Nat → Int32) (call : Nat → List Value → am_H → Option am_X) (lv : am_L) (st : List Value) (h : am_H) : am_f d scr L call 107 (n + 1) 346 lv st h = am_f d scr L call 107 n 347 lv (.int 1 :: st) h := k_nx (i := .iconst 1) rfl rfl
set_option maxRecDepth 100000 in
theorem s_107_347 (d L n : Nat) (scr : Nat → Int32) (call : Nat → List Value → am_H → Option am_X) (lv : am_L) (h : am_H) (x : Int32) : am_f d scr L call 107 (n + 1) 347 lv [.int x] h = if x = 0 ∨ x = 1 then some (some (.int x), h, 0, 0) else none := k_zr rfl rfl
-- 108: BlameDeskModel.partsOf(I)I
theorem s_108_0 (d L n : Nat) (scr : Nat → Int32) (call : Nat → List Value → am_H → Option am_X) (lv : am_L) (st : List Value) (h : am_H) : am_f d scr L call 108 (n + 1) 0 lv st h = (match am_ld lv 0 with
    | some (.int x) => am_f d scr L call 108 n 1 lv (.int x :: st) h
    | _ => none) := k_li (i := .iload_n 0) rfl rfl rfl rfl
theorem s_108_1 (d L n : Nat) (scr : Nat → Int32) (call : Nat → List Value → am_H → Option am_X) (lv : am_L) (st : List Value) (h : am_H) : am_f d scr L call 108 (n + 1) 1 lv st h = am_f d scr L call 108 n 2 lv (.int 3 :: st) h := k_nx (i := .iconst 3) rfl rfl
theorem s_108_2 (d L n : Nat) (scr : Nat → Int32) (call : Nat → List Value → am_H → Option am_X) (lv : am_L) (st : List Value) (h : am_H) (x y : Int32) : am_f d scr L call 108 (n + 1) 2 lv (.int y :: .int x :: st) h = if y ≤ x then am_f d scr L call 108 n 9 lv st h else am_f d scr L call 108 n 5 lv st h := k_ic_ge (o := 7) rfl ⟨by decide, rfl⟩
theorem s_108_5 (d L n : Nat) (scr : Nat → Int32) (call : Nat → List Value → am_H → Option am_X) (lv : am_L) (st : List Value) (h : am_H) : am_f d scr L call 108 (n + 1) 5 lv st h = am_f d scr L call 108 n 6 lv (.int 0 :: st) h := k_nx (i := .iconst 0) rfl rfl
theorem s_108_6 (d L n : Nat) (scr : Nat → Int32) (call : Nat → List Value → am_H → Option am_X) (lv : am_L) (st : List Value) (h : am_H) : am_f d scr L call 108 (n + 1) 6 lv st h = am_f d scr L call 108 n 35 lv st h := k_nx (i := .goto 29) rfl rfl
theorem s_108_9 (d L n : Nat) (scr : Nat → Int32) (call : Nat → List Value → am_H → Option am_X) (lv : am_L) (st : List Value) (h : am_H) : am_f d scr L call 108 (n + 1) 9 lv st h = (match am_ld lv 0 with
    | some (.int x) => am_f d scr L call 108 n 10 lv (.int x :: st) h
    | _ => none) := k_li (i := .iload_n 0) rfl rfl rfl rfl
theorem s_108_10 (d L n : Nat) (scr : Nat → Int32) (call : Nat → List Value → am_H → Option am_X) (lv : am_L) (st : List Value) (h : am_H) : am_f d scr L call 108 (n + 1) 10 lv st h = am_f d scr L call 108 n 12 lv (.int 9 :: st) h := k_nx (i := .bipush 9) rfl rfl
theorem s_108_12 (d L n : Nat) (scr : Nat → Int32) (call : Nat → List Value → am_H → Option am_X) (lv : am_L) (st : List Value) (h : am_H) (x y : Int32) : am_f d scr L call 108 (n + 1) 12 lv (.int y :: .int x :: st) h = if ¬ x = y then am_f d scr L call 108 n 19 lv st h else am_f d scr L call 108 n 15 lv st h := k_ic_ne (o := 7) rfl ⟨by decide, rfl⟩
theorem s_108_15 (d L n : Nat) (scr : Nat → Int32) (call : Nat → List Value → am_H → Option am_X) (lv : am_L) (st : List Value) (h : am_H) : am_f d scr L call 108 (n + 1) 15 lv st h = am_f d scr L call 108 n 16 lv (.int 3 :: st) h := k_nx (i := .iconst 3) rfl rfl
theorem s_108_16 (d L n : Nat) (scr : Nat → Int32) (call : Nat → List Value → am_H → Option am_X) (lv : am_L) (st : List Value) (h : am_H) : am_f d scr L call 108 (n + 1) 16 lv st h = am_f d scr L call 108 n 35 lv st h := k_nx (i := .goto 19) rfl rfl
theorem s_108_19 (d L n : Nat) (scr : Nat → Int32) (call : Nat → List Value → am_H → Option am_X) (lv : am_L) (st : List Value) (h : am_H) : am_f d scr L call 108 (n + 1) 19 lv st h = (match am_ld lv 0 with
    | some (.int x) => am_f d scr L call 108 n 20 lv (.int x :: st) h
    | _ => none) := k_li (i := .iload_n 0) rfl rfl rfl rfl
theorem s_108_20 (d L n : Nat) (scr : Nat → Int32) (call : Nat → List Value → am_H → Option am_X) (lv : am_L) (st : List Value) (h : am_H) : am_f d scr L call 108 (n + 1) 20 lv st h = am_f d scr L call 108 n 21 lv (.int 4 :: st) h := k_nx (i := .iconst 4) rfl rfl
theorem s_108_21 (d L n : Nat) (scr : Nat → Int32) (call : Nat → List Value → am_H → Option am_X) (lv : am_L) (st : List Value) (h : am_H) (x y : Int32) : am_f d scr L call 108 (n + 1) 21 lv (.int y :: .int x :: st) h = if x < y then am_f d scr L call 108 n 34 lv st h else am_f d scr L call 108 n 24 lv st h := k_ic_lt (o := 13) rfl ⟨by decide, rfl⟩
theorem s_108_24 (d L n : Nat) (scr : Nat → Int32) (call : Nat → List Value → am_H → Option am_X) (lv : am_L) (st : List Value) (h : am_H) : am_f d scr L call 108 (n + 1) 24 lv st h = (match am_ld lv 0 with
    | some (.int x) => am_f d scr L call 108 n 25 lv (.int x :: st) h
    | _ => none) := k_li (i := .iload_n 0) rfl rfl rfl rfl
theorem s_108_25 (d L n : Nat) (scr : Nat → Int32) (call : Nat → List Value → am_H → Option am_X) (lv : am_L) (st : List Value) (h : am_H) : am_f d scr L call 108 (n + 1) 25 lv st h = am_f d scr L call 108 n 27 lv (.int 8 :: st) h := k_nx (i := .bipush 8) rfl rfl
theorem s_108_27 (d L n : Nat) (scr : Nat → Int32) (call : Nat → List Value → am_H → Option am_X) (lv : am_L) (st : List Value) (h : am_H) (x y : Int32) : am_f d scr L call 108 (n + 1) 27 lv (.int y :: .int x :: st) h = if y < x then am_f d scr L call 108 n 34 lv st h else am_f d scr L call 108 n 30 lv st h := k_ic_gt (o := 7) rfl ⟨by decide, rfl⟩
theorem s_108_30 (d L n : Nat) (scr : Nat → Int32) (call : Nat → List Value → am_H → Option am_X) (lv : am_L) (st : List Value) (h : am_H) : am_f d scr L call 108 (n + 1) 30 lv st h = am_f d scr L call 108 n 31 lv (.int 2 :: st) h := k_nx (i := .iconst 2) rfl rfl
theorem s_108_31 (d L n : Nat) (scr : Nat → Int32) (call : Nat → List Value → am_H → Option am_X) (lv : am_L) (st : List Value) (h : am_H) : am_f d scr L call 108 (n + 1) 31 lv st h = am_f d scr L call 108 n 35 lv st h := k_nx (i := .goto 4) rfl rfl
theorem s_108_34 (d L n : Nat) (scr : Nat → Int32) (call : Nat → List Value → am_H → Option am_X) (lv : am_L) (st : List Value) (h : am_H) : am_f d scr L call 108 (n + 1) 34 lv st h = am_f d scr L call 108 n 35 lv (.int 1 :: st) h := k_nx (i := .iconst 1) rfl rfl
theorem s_108_35 (d L n : Nat) (scr : Nat → Int32) (call : Nat → List Value → am_H → Option am_X) (lv : am_L) (h : am_H) (x : Int32) : am_f d scr L call 108 (n + 1) 35 lv [.int x] h = some (some (.int x), h, 0, 0) := k_ir rfl rfl
-- 109: BlameDeskModel.read()Z
theorem s_109_0 (d L n : Nat) (scr : Nat → Int32) (call : Nat → List Value → am_H → Option am_X) (lv : am_L) (st : List Value) (h : am_H) : am_f d scr L call 109 (n + 1) 0 lv st h = (match am_ld lv 0 with
    | some (.ref x) => am_f d scr L call 109 n 1 lv (.ref x :: st) h
    | _ => none) := k_la (i := .aload_n 0) rfl rfl rfl rfl
theorem s_109_1 (d L n : Nat) (scr : Nat → Int32) (call : Nat → List Value → am_H → Option am_X) (lv : am_L) (st : List Value) (h : am_H) : am_f d scr L call 109 (n + 1) 1 lv st h = am_f d scr L call 109 n 2 lv (.int 0 :: st) h := k_nx (i := .iconst 0) rfl rfl
theorem s_109_2 (d L n : Nat) (scr : Nat → Int32) (call : Nat → List Value → am_H → Option am_X) (lv : am_L) (st : List Value) (h : am_H) (x : Int32) (a : Nat) : am_f d scr L call 109 (n + 1) 2 lv (.int x :: .ref a :: st) h = (match am_put h a 8 20 (.int x) with
    | some h' => am_f d scr L call 109 n 5 lv st h'
    | none => none) := k_pf (k := 139) rfl rfl rfl
theorem s_109_5 (d L n : Nat) (scr : Nat → Int32) (call : Nat → List Value → am_H → Option am_X) (lv : am_L) (st : List Value) (h : am_H) : am_f d scr L call 109 (n + 1) 5 lv st h = (match am_ld lv 0 with
    | some (.ref x) => am_f d scr L call 109 n 6 lv (.ref x :: st) h
    | _ => none) := k_la (i := .aload_n 0) rfl rfl rfl rfl
theorem s_109_6 (d L n : Nat) (scr : Nat → Int32) (call : Nat → List Value → am_H → Option am_X) (lv : am_L) (st : List Value) (h : am_H) : am_f d scr L call 109 (n + 1) 6 lv st h = am_f d scr L call 109 n 7 lv (.int 0 :: st) h := k_nx (i := .iconst 0) rfl rfl
theorem s_109_7 (d L n : Nat) (scr : Nat → Int32) (call : Nat → List Value → am_H → Option am_X) (lv : am_L) (st : List Value) (h : am_H) (x : Int32) (a : Nat) : am_f d scr L call 109 (n + 1) 7 lv (.int x :: .ref a :: st) h = (match am_put h a 8 8 (.int x) with
    | some h' => am_f d scr L call 109 n 10 lv st h'
    | none => none) := k_pf (k := 170) rfl rfl rfl
theorem s_109_10 (d L n : Nat) (scr : Nat → Int32) (call : Nat → List Value → am_H → Option am_X) (lv : am_L) (st : List Value) (h : am_H) : am_f d scr L call 109 (n + 1) 10 lv st h = (match am_ld lv 0 with
    | some (.ref x) => am_f d scr L call 109 n 11 lv (.ref x :: st) h
    | _ => none) := k_la (i := .aload_n 0) rfl rfl rfl rfl
theorem s_109_11 (d L n : Nat) (scr : Nat → Int32) (call : Nat → List Value → am_H → Option am_X) (lv : am_L) (st : List Value) (h : am_H) : am_f d scr L call 109 (n + 1) 11 lv st h = am_f d scr L call 109 n 12 lv (.int 0 :: st) h := k_nx (i := .iconst 0) rfl rfl
theorem s_109_12 (d L n : Nat) (scr : Nat → Int32) (call : Nat → List Value → am_H → Option am_X) (lv : am_L) (st : List Value) (h : am_H) (x : Int32) (a : Nat) : am_f d scr L call 109 (n + 1) 12 lv (.int x :: .ref a :: st) h = (match am_put h a 8 21 (.int x) with
    | some h' => am_f d scr L call 109 n 15 lv st h'
    | none => none) := k_pf (k := 167) rfl rfl rfl
theorem s_109_15 (d L n : Nat) (scr : Nat → Int32) (call : Nat → List Value → am_H → Option am_X) (lv : am_L) (st : List Value) (h : am_H) : am_f d scr L call 109 (n + 1) 15 lv st h = (match am_ld lv 0 with
    | some (.ref x) => am_f d scr L call 109 n 16 lv (.ref x :: st) h
    | _ => none) := k_la (i := .aload_n 0) rfl rfl rfl rfl
theorem s_109_16 (d L n : Nat) (scr : Nat → Int32) (call : Nat → List Value → am_H → Option am_X) (lv : am_L) (st : List Value) (h : am_H) : am_f d scr L call 109 (n + 1) 16 lv st h = am_f d scr L call 109 n 17 lv (.int 0 :: st) h := k_nx (i := .iconst 0) rfl rfl
theorem s_109_17 (d L n : Nat) (scr : Nat → Int32) (call : Nat → List Value → am_H → Option am_X) (lv : am_L) (st : List Value) (h : am_H) (x : Int32) (a : Nat) : am_f d scr L call 109 (n + 1) 17 lv (.int x :: .ref a :: st) h = (match am_put h a 8 18 (.int x) with
    | some h' => am_f d scr L call 109 n 20 lv st h'
    | none => none) := k_pf (k := 177) rfl rfl rfl
theorem s_109_20 (d L n : Nat) (scr : Nat → Int32) (call : Nat → List Value → am_H → Option am_X) (lv : am_L) (st : List Value) (h : am_H) : am_f d scr L call 109 (n + 1) 20 lv st h = am_f d scr L call 109 n 21 lv (.int 0 :: st) h := k_nx (i := .iconst 0) rfl rfl
theorem s_109_21 (d L n : Nat) (scr : Nat → Int32) (call : Nat → List Value → am_H → Option am_X) (lv : am_L) (st : List Value) (h : am_H) (x : Int32) : am_f d scr L call 109 (n + 1) 21 lv (.int x :: st) h = am_f d scr L call 109 n 22 (am_st1 lv 1 (.int x)) st h := k_nx (i := .istore_n 1) rfl rfl
theorem s_109_22 (d L n : Nat) (scr : Nat → Int32) (call : Nat → List Value → am_H → Option am_X) (lv : am_L) (st : List Value) (h : am_H) : am_f d scr L call 109 (n + 1) 22 lv st h = (match am_ld lv 1 with
    | some (.int x) => am_f d scr L call 109 n 23 lv (.int x :: st) h
    | _ => none) := k_li (i := .iload_n 1) rfl rfl rfl rfl
theorem s_109_23 (d L n : Nat) (scr : Nat → Int32) (call : Nat → List Value → am_H → Option am_X) (lv : am_L) (st : List Value) (h : am_H) : am_f d scr L call 109 (n + 1) 23 lv st h = am_f d scr L call 109 n 26 lv (.int 300 :: st) h := k_nx (i := .sipush 300) rfl rfl
theorem s_109_26 (d L n : Nat) (scr : Nat → Int32) (call : Nat → List Value → am_H → Option am_X) (lv : am_L) (st : List Value) (h : am_H) (x y : Int32) : am_f d scr L call 109 (n + 1) 26 lv (.int y :: .int x :: st) h = if y ≤ x then am_f d scr L call 109 n 216 lv st h else am_f d scr L call 109 n 29 lv st h := k_ic_ge (o := 190) rfl ⟨by decide, rfl⟩
theorem s_109_29 (d L n : Nat) (scr : Nat → Int32) (call : Nat → List Value → am_H → Option am_X) (lv : am_L) (st : List Value) (h : am_H) : am_f d scr L call 109 (n + 1) 29 lv st h = (match am_ld lv 0 with
    | some (.ref x) => am_f d scr L call 109 n 30 lv (.ref x :: st) h
    | _ => none) := k_la (i := .aload_n 0) rfl rfl rfl rfl
theorem s_109_30 (d L n : Nat) (scr : Nat → Int32) (call : Nat → List Value → am_H → Option am_X) (lv : am_L) (st : List Value) (h : am_H) (a : Nat) : am_f d scr L call 109 (n + 1) 30 lv (.ref a :: st) h = (match am_get h a 8 21 with
    | some v => am_f d scr L call 109 n 33 lv (v :: st) h
    | none => none) := k_gf (k := 167) rfl rfl
theorem s_109_33 (d L n : Nat) (scr : Nat → Int32) (call : Nat → List Value → am_H → Option am_X) (lv : am_L) (st : List Value) (h : am_H) (x : Int32) : am_f d scr L call 109 (n + 1) 33 lv (.int x :: st) h = am_f d scr L call 109 n 34 (am_st1 lv 2 (.int x)) st h := k_nx (i := .istore_n 2) rfl rfl
theorem s_109_34 (d L n : Nat) (scr : Nat → Int32) (call : Nat → List Value → am_H → Option am_X) (lv : am_L) (st : List Value) (h : am_H) : am_f d scr L call 109 (n + 1) 34 lv st h = (match am_ld lv 0 with
    | some (.ref x) => am_f d scr L call 109 n 35 lv (.ref x :: st) h
    | _ => none) := k_la (i := .aload_n 0) rfl rfl rfl rfl
theorem s_109_35 (d L n : Nat) (scr : Nat → Int32) (call : Nat → List Value → am_H → Option am_X) (lv : am_L) (st : List Value) (h : am_H) (a : Nat) : am_f d scr L call 109 (n + 1) 35 lv (.ref a :: st) h = (match am_get h a 8 8 with
    | some v => am_f d scr L call 109 n 38 lv (v :: st) h
    | none => none) := k_gf (k := 170) rfl rfl
theorem s_109_38 (d L n : Nat) (scr : Nat → Int32) (call : Nat → List Value → am_H → Option am_X) (lv : am_L) (st : List Value) (h : am_H) (x : Int32) : am_f d scr L call 109 (n + 1) 38 lv (.int x :: st) h = am_f d scr L call 109 n 39 (am_st1 lv 3 (.int x)) st h := k_nx (i := .istore_n 3) rfl rfl
theorem s_109_39 (d L n : Nat) (scr : Nat → Int32) (call : Nat → List Value → am_H → Option am_X) (lv : am_L) (st : List Value) (h : am_H) : am_f d scr L call 109 (n + 1) 39 lv st h = (match am_ld lv 0 with
    | some (.ref x) => am_f d scr L call 109 n 40 lv (.ref x :: st) h
    | _ => none) := k_la (i := .aload_n 0) rfl rfl rfl rfl
theorem s_109_40 (d L n : Nat) (scr : Nat → Int32) (call : Nat → List Value → am_H → Option am_X) (lv : am_L) (h : am_H) (o : Nat)   : am_f d scr L call 109 (n + 1) 40 lv (.ref o :: []) h = if am_at h o 8 = true then (match call 106 [.ref o] h with
    | some (v, h', dk, dn) => am_add dk dn (am_f d scr L call 109 n 43 lv (v.toList ++ []) h')
    | none => none) else none := k_iv0 (k := 180) (as := []) (r := []) rfl rfl rfl rfl (Nat.le_of_ble_eq_true rfl)
theorem s_109_43 (d L n : Nat) (scr : Nat → Int32) (call : Nat → List Value → am_H → Option am_X) (lv : am_L) (st : List Value) (h : am_H) (x : Int32) : am_f d scr L call 109 (n + 1) 43 lv (.int x :: st) h = if ¬ x = 0 then am_f d scr L call 109 n 48 lv st h else am_f d scr L call 109 n 46 lv st h := k_if_ne (o := 5) rfl ⟨by decide, rfl⟩
theorem s_109_46 (d L n : Nat) (scr : Nat → Int32) (call : Nat → List Value → am_H → Option am_X) (lv : am_L) (st : List Value) (h : am_H) : am_f d scr L call 109 (n + 1) 46 lv st h = am_f d scr L call 109 n 47 lv (.int 0 :: st) h := k_nx (i := .iconst 0) rfl rfl
theorem s_109_47 (d L n : Nat) (scr : Nat → Int32) (call : Nat → List Value → am_H → Option am_X) (lv : am_L) (h : am_H) (x : Int32) : am_f d scr L call 109 (n + 1) 47 lv [.int x] h = if x = 0 ∨ x = 1 then some (some (.int x), h, 0, 0) else none := k_zr rfl rfl
theorem s_109_48 (d L n : Nat) (scr : Nat → Int32) (call : Nat → List Value → am_H → Option am_X) (lv : am_L) (st : List Value) (h : am_H) : am_f d scr L call 109 (n + 1) 48 lv st h = (match am_ld lv 0 with
    | some (.ref x) => am_f d scr L call 109 n 49 lv (.ref x :: st) h
    | _ => none) := k_la (i := .aload_n 0) rfl rfl rfl rfl
theorem s_109_49 (d L n : Nat) (scr : Nat → Int32) (call : Nat → List Value → am_H → Option am_X) (lv : am_L) (st : List Value) (h : am_H) (a : Nat) : am_f d scr L call 109 (n + 1) 49 lv (.ref a :: st) h = (match am_get h a 8 21 with
    | some v => am_f d scr L call 109 n 52 lv (v :: st) h
    | none => none) := k_gf (k := 167) rfl rfl
theorem s_109_52 (d L n : Nat) (scr : Nat → Int32) (call : Nat → List Value → am_H → Option am_X) (lv : am_L) (st : List Value) (h : am_H) : am_f d scr L call 109 (n + 1) 52 lv st h = (match am_ld lv 2 with
    | some (.int x) => am_f d scr L call 109 n 53 lv (.int x :: st) h
    | _ => none) := k_li (i := .iload_n 2) rfl rfl rfl rfl
theorem s_109_53 (d L n : Nat) (scr : Nat → Int32) (call : Nat → List Value → am_H → Option am_X) (lv : am_L) (st : List Value) (h : am_H) (x y : Int32) : am_f d scr L call 109 (n + 1) 53 lv (.int y :: .int x :: st) h = if ¬ x = y then am_f d scr L call 109 n 60 lv st h else am_f d scr L call 109 n 56 lv st h := k_ic_ne (o := 7) rfl ⟨by decide, rfl⟩
theorem s_109_56 (d L n : Nat) (scr : Nat → Int32) (call : Nat → List Value → am_H → Option am_X) (lv : am_L) (st : List Value) (h : am_H) : am_f d scr L call 109 (n + 1) 56 lv st h = (match am_ld lv 3 with
    | some (.int x) => am_f d scr L call 109 n 57 lv (.int x :: st) h
    | _ => none) := k_li (i := .iload_n 3) rfl rfl rfl rfl
theorem s_109_57 (d L n : Nat) (scr : Nat → Int32) (call : Nat → List Value → am_H → Option am_X) (lv : am_L) (st : List Value) (h : am_H) : am_f d scr L call 109 (n + 1) 57 lv st h = am_f d scr L call 109 n 61 lv st h := k_nx (i := .goto 4) rfl rfl
theorem s_109_60 (d L n : Nat) (scr : Nat → Int32) (call : Nat → List Value → am_H → Option am_X) (lv : am_L) (st : List Value) (h : am_H) : am_f d scr L call 109 (n + 1) 60 lv st h = am_f d scr L call 109 n 61 lv (.int (-1) :: st) h := k_nx (i := .iconst (-1)) rfl rfl
theorem s_109_61 (d L n : Nat) (scr : Nat → Int32) (call : Nat → List Value → am_H → Option am_X) (lv : am_L) (st : List Value) (h : am_H) (x : Int32) : am_f d scr L call 109 (n + 1) 61 lv (.int x :: st) h = am_f d scr L call 109 n 63 (am_st1 lv 4 (.int x)) st h := k_nx (i := .istore 4) rfl rfl
theorem s_109_63 (d L n : Nat) (scr : Nat → Int32) (call : Nat → List Value → am_H → Option am_X) (lv : am_L) (st : List Value) (h : am_H) : am_f d scr L call 109 (n + 1) 63 lv st h = (match am_ld lv 4 with
    | some (.int x) => am_f d scr L call 109 n 65 lv (.int x :: st) h
    | _ => none) := k_li (i := .iload 4) rfl rfl rfl rfl
theorem s_109_65 (d L n : Nat) (scr : Nat → Int32) (call : Nat → List Value → am_H → Option am_X) (lv : am_L) (st : List Value) (h : am_H) (x : Int32) : am_f d scr L call 109 (n + 1) 65 lv (.int x :: st) h = if x < 0 then am_f d scr L call 109 n 210 lv st h else am_f d scr L call 109 n 68 lv st h := k_if_lt (o := 145) rfl ⟨by decide, rfl⟩
theorem s_109_68 (d L n : Nat) (scr : Nat → Int32) (call : Nat → List Value → am_H → Option am_X) (lv : am_L) (st : List Value) (h : am_H) : am_f d scr L call 109 (n + 1) 68 lv st h = (match am_ld lv 0 with
    | some (.ref x) => am_f d scr L call 109 n 69 lv (.ref x :: st) h
    | _ => none) := k_la (i := .aload_n 0) rfl rfl rfl rfl
theorem s_109_69 (d L n : Nat) (scr : Nat → Int32) (call : Nat → List Value → am_H → Option am_X) (lv : am_L) (st : List Value) (h : am_H) (a : Nat) : am_f d scr L call 109 (n + 1) 69 lv (.ref a :: st) h = (match am_get h a 8 19 with
    | some v => am_f d scr L call 109 n 72 lv (v :: st) h
    | none => none) := k_gf (k := 50) rfl rfl
theorem s_109_72 (d L n : Nat) (scr : Nat → Int32) (call : Nat → List Value → am_H → Option am_X) (lv : am_L) (st : List Value) (h : am_H) : am_f d scr L call 109 (n + 1) 72 lv st h = (match am_ld lv 0 with
    | some (.ref x) => am_f d scr L call 109 n 73 lv (.ref x :: st) h
    | _ => none) := k_la (i := .aload_n 0) rfl rfl rfl rfl
theorem s_109_73 (d L n : Nat) (scr : Nat → Int32) (call : Nat → List Value → am_H → Option am_X) (lv : am_L) (st : List Value) (h : am_H) (a : Nat) : am_f d scr L call 109 (n + 1) 73 lv (.ref a :: st) h = (match am_get h a 8 18 with
    | some v => am_f d scr L call 109 n 76 lv (v :: st) h
    | none => none) := k_gf (k := 177) rfl rfl
theorem s_109_76 (d L n : Nat) (scr : Nat → Int32) (call : Nat → List Value → am_H → Option am_X) (lv : am_L) (st : List Value) (h : am_H) : am_f d scr L call 109 (n + 1) 76 lv st h = (match am_ld lv 4 with
    | some (.int x) => am_f d scr L call 109 n 78 lv (.int x :: st) h
    | _ => none) := k_li (i := .iload 4) rfl rfl rfl rfl
theorem s_109_78 (d L n : Nat) (scr : Nat → Int32) (call : Nat → List Value → am_H → Option am_X) (lv : am_L) (st : List Value) (h : am_H) (a : Nat) (i : Int32) (x : Int32) : am_f d scr L call 109 (n + 1) 78 lv (.int x :: .int i :: .ref a :: st) h = (match am_ist h a i x with
    | some h' => am_f d scr L call 109 n 79 lv st h'
    | none => none) := k_is rfl
theorem s_109_79 (d L n : Nat) (scr : Nat → Int32) (call : Nat → List Value → am_H → Option am_X) (lv : am_L) (st : List Value) (h : am_H) : am_f d scr L call 109 (n + 1) 79 lv st h = (match am_ld lv 0 with
    | some (.ref x) => am_f d scr L call 109 n 80 lv (.ref x :: st) h
    | _ => none) := k_la (i := .aload_n 0) rfl rfl rfl rfl
theorem s_109_80 (d L n : Nat) (scr : Nat → Int32) (call : Nat → List Value → am_H → Option am_X) (lv : am_L) (st : List Value) (h : am_H) (x : Nat) : am_f d scr L call 109 (n + 1) 80 lv (.ref x :: st) h = am_f d scr L call 109 n 81 lv (.ref x :: .ref x :: st) h := k_nx (i := .dup) rfl rfl
theorem s_109_81 (d L n : Nat) (scr : Nat → Int32) (call : Nat → List Value → am_H → Option am_X) (lv : am_L) (st : List Value) (h : am_H) (a : Nat) : am_f d scr L call 109 (n + 1) 81 lv (.ref a :: st) h = (match am_get h a 8 18 with
    | some v => am_f d scr L call 109 n 84 lv (v :: st) h
    | none => none) := k_gf (k := 177) rfl rfl
theorem s_109_84 (d L n : Nat) (scr : Nat → Int32) (call : Nat → List Value → am_H → Option am_X) (lv : am_L) (st : List Value) (h : am_H) : am_f d scr L call 109 (n + 1) 84 lv st h = am_f d scr L call 109 n 85 lv (.int 1 :: st) h := k_nx (i := .iconst 1) rfl rfl
theorem s_109_85 (d L n : Nat) (scr : Nat → Int32) (call : Nat → List Value → am_H → Option am_X) (lv : am_L) (st : List Value) (h : am_H) (x y : Int32) : am_f d scr L call 109 (n + 1) 85 lv (.int y :: .int x :: st) h = am_f d scr L call 109 n 86 lv (.int (x + y) :: st) h := k_nx (i := .iadd) rfl rfl
theorem s_109_86 (d L n : Nat) (scr : Nat → Int32) (call : Nat → List Value → am_H → Option am_X) (lv : am_L) (st : List Value) (h : am_H) (x : Int32) (a : Nat) : am_f d scr L call 109 (n + 1) 86 lv (.int x :: .ref a :: st) h = (match am_put h a 8 18 (.int x) with
    | some h' => am_f d scr L call 109 n 89 lv st h'
    | none => none) := k_pf (k := 177) rfl rfl rfl
theorem s_109_89 (d L n : Nat) (scr : Nat → Int32) (call : Nat → List Value → am_H → Option am_X) (lv : am_L) (st : List Value) (h : am_H) : am_f d scr L call 109 (n + 1) 89 lv st h = (match am_ld lv 0 with
    | some (.ref x) => am_f d scr L call 109 n 90 lv (.ref x :: st) h
    | _ => none) := k_la (i := .aload_n 0) rfl rfl rfl rfl
theorem s_109_90 (d L n : Nat) (scr : Nat → Int32) (call : Nat → List Value → am_H → Option am_X) (lv : am_L) (st : List Value) (h : am_H) (a : Nat) : am_f d scr L call 109 (n + 1) 90 lv (.ref a :: st) h = (match am_get h a 8 21 with
    | some v => am_f d scr L call 109 n 93 lv (v :: st) h
    | none => none) := k_gf (k := 167) rfl rfl
theorem s_109_93 (d L n : Nat) (scr : Nat → Int32) (call : Nat → List Value → am_H → Option am_X) (lv : am_L) (st : List Value) (h : am_H) (x : Int32) : am_f d scr L call 109 (n + 1) 93 lv (.int x :: st) h = if ¬ x = 0 then am_f d scr L call 109 n 119 lv st h else am_f d scr L call 109 n 96 lv st h := k_if_ne (o := 26) rfl ⟨by decide, rfl⟩
theorem s_109_96 (d L n : Nat) (scr : Nat → Int32) (call : Nat → List Value → am_H → Option am_X) (lv : am_L) (st : List Value) (h : am_H) : am_f d scr L call 109 (n + 1) 96 lv st h = (match am_ld lv 0 with
    | some (.ref x) => am_f d scr L call 109 n 97 lv (.ref x :: st) h
    | _ => none) := k_la (i := .aload_n 0) rfl rfl rfl rfl
theorem s_109_97 (d L n : Nat) (scr : Nat → Int32) (call : Nat → List Value → am_H → Option am_X) (lv : am_L) (st : List Value) (h : am_H) : am_f d scr L call 109 (n + 1) 97 lv st h = (match am_ld lv 4 with
    | some (.int x) => am_f d scr L call 109 n 99 lv (.int x :: st) h
    | _ => none) := k_li (i := .iload 4) rfl rfl rfl rfl
theorem s_109_99 (d L n : Nat) (scr : Nat → Int32) (call : Nat → List Value → am_H → Option am_X) (lv : am_L) (st : List Value) (h : am_H) (x : Int32) (a : Nat) : am_f d scr L call 109 (n + 1) 99 lv (.int x :: .ref a :: st) h = (match am_put h a 8 26 (.int x) with
    | some h' => am_f d scr L call 109 n 102 lv st h'
    | none => none) := k_pf (k := 184) rfl rfl rfl
theorem s_109_102 (d L n : Nat) (scr : Nat → Int32) (call : Nat → List Value → am_H → Option am_X) (lv : am_L) (st : List Value) (h : am_H) : am_f d scr L call 109 (n + 1) 102 lv st h = (match am_ld lv 0 with
    | some (.ref x) => am_f d scr L call 109 n 103 lv (.ref x :: st) h
    | _ => none) := k_la (i := .aload_n 0) rfl rfl rfl rfl
theorem s_109_103 (d L n : Nat) (scr : Nat → Int32) (call : Nat → List Value → am_H → Option am_X) (lv : am_L) (st : List Value) (h : am_H) (a : Nat) : am_f d scr L call 109 (n + 1) 103 lv (.ref a :: st) h = (match am_get h a 8 20 with
    | some v => am_f d scr L call 109 n 106 lv (v :: st) h
    | none => none) := k_gf (k := 139) rfl rfl
theorem s_109_106 (d L n : Nat) (scr : Nat → Int32) (call : Nat → List Value → am_H → Option am_X) (lv : am_L) (st : List Value) (h : am_H) : am_f d scr L call 109 (n + 1) 106 lv st h = (match am_ld lv 0 with
    | some (.ref x) => am_f d scr L call 109 n 107 lv (.ref x :: st) h
    | _ => none) := k_la (i := .aload_n 0) rfl rfl rfl rfl
theorem s_109_107 (d L n : Nat) (scr : Nat → Int32) (call : Nat → List Value → am_H → Option am_X) (lv : am_L) (st : List Value) (h : am_H) (a : Nat) : am_f d scr L call 109 (n + 1) 107 lv (.ref a :: st) h = (match am_get h a 8 0 with
    | some v => am_f d scr L call 109 n 110 lv (v :: st) h
    | none => none) := k_gf (k := 120) rfl rfl
theorem s_109_110 (d L n : Nat) (scr : Nat → Int32) (call : Nat → List Value → am_H → Option am_X) (lv : am_L) (st : List Value) (h : am_H) (x y : Int32) : am_f d scr L call 109 (n + 1) 110 lv (.int y :: .int x :: st) h = if ¬ x = y then am_f d scr L call 109 n 117 lv st h else am_f d scr L call 109 n 113 lv st h := k_ic_ne (o := 7) rfl ⟨by decide, rfl⟩
theorem s_109_113 (d L n : Nat) (scr : Nat → Int32) (call : Nat → List Value → am_H → Option am_X) (lv : am_L) (st : List Value) (h : am_H) : am_f d scr L call 109 (n + 1) 113 lv st h = am_f d scr L call 109 n 114 lv (.int 1 :: st) h := k_nx (i := .iconst 1) rfl rfl
theorem s_109_114 (d L n : Nat) (scr : Nat → Int32) (call : Nat → List Value → am_H → Option am_X) (lv : am_L) (st : List Value) (h : am_H) : am_f d scr L call 109 (n + 1) 114 lv st h = am_f d scr L call 109 n 118 lv st h := k_nx (i := .goto 4) rfl rfl
theorem s_109_117 (d L n : Nat) (scr : Nat → Int32) (call : Nat → List Value → am_H → Option am_X) (lv : am_L) (st : List Value) (h : am_H) : am_f d scr L call 109 (n + 1) 117 lv st h = am_f d scr L call 109 n 118 lv (.int 0 :: st) h := k_nx (i := .iconst 0) rfl rfl
theorem s_109_118 (d L n : Nat) (scr : Nat → Int32) (call : Nat → List Value → am_H → Option am_X) (lv : am_L) (h : am_H) (x : Int32) : am_f d scr L call 109 (n + 1) 118 lv [.int x] h = if x = 0 ∨ x = 1 then some (some (.int x), h, 0, 0) else none := k_zr rfl rfl
theorem s_109_119 (d L n : Nat) (scr : Nat → Int32) (call : Nat → List Value → am_H → Option am_X) (lv : am_L) (st : List Value) (h : am_H) : am_f d scr L call 109 (n + 1) 119 lv st h = (match am_ld lv 0 with
    | some (.ref x) => am_f d scr L call 109 n 120 lv (.ref x :: st) h
    | _ => none) := k_la (i := .aload_n 0) rfl rfl rfl rfl
theorem s_109_120 (d L n : Nat) (scr : Nat → Int32) (call : Nat → List Value → am_H → Option am_X) (lv : am_L) (st : List Value) (h : am_H) (a : Nat) : am_f d scr L call 109 (n + 1) 120 lv (.ref a :: st) h = (match am_get h a 8 22 with
    | some v => am_f d scr L call 109 n 123 lv (v :: st) h
    | none => none) := k_gf (k := 53) rfl rfl
theorem s_109_123 (d L n : Nat) (scr : Nat → Int32) (call : Nat → List Value → am_H → Option am_X) (lv : am_L) (st : List Value) (h : am_H) : am_f d scr L call 109 (n + 1) 123 lv st h = (match am_ld lv 0 with
    | some (.ref x) => am_f d scr L call 109 n 124 lv (.ref x :: st) h
    | _ => none) := k_la (i := .aload_n 0) rfl rfl rfl rfl
theorem s_109_124 (d L n : Nat) (scr : Nat → Int32) (call : Nat → List Value → am_H → Option am_X) (lv : am_L) (st : List Value) (h : am_H) (a : Nat) : am_f d scr L call 109 (n + 1) 124 lv (.ref a :: st) h = (match am_get h a 8 21 with
    | some v => am_f d scr L call 109 n 127 lv (v :: st) h
    | none => none) := k_gf (k := 167) rfl rfl
theorem s_109_127 (d L n : Nat) (scr : Nat → Int32) (call : Nat → List Value → am_H → Option am_X) (lv : am_L) (st : List Value) (h : am_H) : am_f d scr L call 109 (n + 1) 127 lv st h = am_f d scr L call 109 n 128 lv (.int 1 :: st) h := k_nx (i := .iconst 1) rfl rfl
theorem s_109_128 (d L n : Nat) (scr : Nat → Int32) (call : Nat → List Value → am_H → Option am_X) (lv : am_L) (st : List Value) (h : am_H) (x y : Int32) : am_f d scr L call 109 (n + 1) 128 lv (.int y :: .int x :: st) h = am_f d scr L call 109 n 129 lv (.int (x - y) :: st) h := k_nx (i := .isub) rfl rfl
theorem s_109_129 (d L n : Nat) (scr : Nat → Int32) (call : Nat → List Value → am_H → Option am_X) (lv : am_L) (st : List Value) (h : am_H) (a : Nat) (i : Int32) : am_f d scr L call 109 (n + 1) 129 lv (.int i :: .ref a :: st) h = (match am_ild scr L h a i with
    | some x => am_f d scr L call 109 n 130 lv (.int x :: st) h
    | none => none) := k_ia rfl
theorem s_109_130 (d L n : Nat) (scr : Nat → Int32) (call : Nat → List Value → am_H → Option am_X) (lv : am_L) (st : List Value) (h : am_H) (x : Int32) : am_f d scr L call 109 (n + 1) 130 lv (.int x :: st) h = am_f d scr L call 109 n 132 (am_st1 lv 5 (.int x)) st h := k_nx (i := .istore 5) rfl rfl
theorem s_109_132 (d L n : Nat) (scr : Nat → Int32) (call : Nat → List Value → am_H → Option am_X) (lv : am_L) (st : List Value) (h : am_H) : am_f d scr L call 109 (n + 1) 132 lv st h = (match am_ld lv 0 with
    | some (.ref x) => am_f d scr L call 109 n 133 lv (.ref x :: st) h
    | _ => none) := k_la (i := .aload_n 0) rfl rfl rfl rfl
theorem s_109_133 (d L n : Nat) (scr : Nat → Int32) (call : Nat → List Value → am_H → Option am_X) (lv : am_L) (st : List Value) (h : am_H) : am_f d scr L call 109 (n + 1) 133 lv st h = (match am_ld lv 5 with
    | some (.int x) => am_f d scr L call 109 n 135 lv (.int x :: st) h
    | _ => none) := k_li (i := .iload 5) rfl rfl rfl rfl
theorem s_109_135 (d L n : Nat) (scr : Nat → Int32) (call : Nat → List Value → am_H → Option am_X) (lv : am_L) (st : List Value) (h : am_H) : am_f d scr L call 109 (n + 1) 135 lv st h = (match am_ld lv 4 with
    | some (.int x) => am_f d scr L call 109 n 137 lv (.int x :: st) h
    | _ => none) := k_li (i := .iload 4) rfl rfl rfl rfl
theorem s_109_137 (d L n : Nat) (scr : Nat → Int32) (call : Nat → List Value → am_H → Option am_X) (lv : am_L) (h : am_H) (o : Nat) (a0 : Int32) (a1 : Int32)  : am_f d scr L call 109 (n + 1) 137 lv (.int a1 :: .int a0 :: .ref o :: []) h = if am_at h o 8 = true then (match call 107 [.ref o, .int a0, .int a1] h with
    | some (v, h', dk, dn) => am_add dk dn (am_f d scr L call 109 n 140 lv (v.toList ++ []) h')
    | none => none) else none := k_iv0 (k := 187) (as := [.int a0, .int a1]) (r := []) rfl rfl rfl rfl (Nat.le_of_ble_eq_true rfl)
theorem s_109_140 (d L n : Nat) (scr : Nat → Int32) (call : Nat → List Value → am_H → Option am_X) (lv : am_L) (st : List Value) (h : am_H) (x : Int32) : am_f d scr L call 109 (n + 1) 140 lv (.int x :: st) h = if ¬ x = 0 then am_f d scr L call 109 n 145 lv st h else am_f d scr L call 109 n 143 lv st h := k_if_ne (o := 5) rfl ⟨by decide, rfl⟩
theorem s_109_143 (d L n : Nat) (scr : Nat → Int32) (call : Nat → List Value → am_H → Option am_X) (lv : am_L) (st : List Value) (h : am_H) : am_f d scr L call 109 (n + 1) 143 lv st h = am_f d scr L call 109 n 144 lv (.int 0 :: st) h := k_nx (i := .iconst 0) rfl rfl
theorem s_109_144 (d L n : Nat) (scr : Nat → Int32) (call : Nat → List Value → am_H → Option am_X) (lv : am_L) (h : am_H) (x : Int32) : am_f d scr L call 109 (n + 1) 144 lv [.int x] h = if x = 0 ∨ x = 1 then some (some (.int x), h, 0, 0) else none := k_zr rfl rfl
theorem s_109_145 (d L n : Nat) (scr : Nat → Int32) (call : Nat → List Value → am_H → Option am_X) (lv : am_L) (st : List Value) (h : am_H) : am_f d scr L call 109 (n + 1) 145 lv st h = (match am_ld lv 0 with
    | some (.ref x) => am_f d scr L call 109 n 146 lv (.ref x :: st) h
    | _ => none) := k_la (i := .aload_n 0) rfl rfl rfl rfl
set_option maxRecDepth 100000 in
theorem s_109_146 (d L n : Nat) (scr : Nat → Int32) (call : Nat → List Value → am_H → Option am_X) (lv : am_L) (st : List Value) (h : am_H) (a : Nat) : am_f d scr L call 109 (n + 1) 146 lv (.ref a :: st) h = (match am_get h a 8 17 with
    | some v => am_f d scr L call 109 n 149 lv (v :: st) h
    | none => none) := k_gf (k := 47) rfl rfl
set_option maxRecDepth 100000 in
theorem s_109_149 (d L n : Nat) (scr : Nat → Int32) (call : Nat → List Value → am_H → Option am_X) (lv : am_L) (st : List Value) (h : am_H) : am_f d scr L call 109 (n + 1) 149 lv st h = (match am_ld lv 5 with
    | some (.int x) => am_f d scr L call 109 n 151 lv (.int x :: st) h
    | _ => none) := k_li (i := .iload 5) rfl rfl rfl rfl
set_option maxRecDepth 100000 in
theorem s_109_151 (d L n : Nat) (scr : Nat → Int32) (call : Nat → List Value → am_H → Option am_X) (lv : am_L) (st : List Value) (h : am_H) (a : Nat) (i : Int32) : am_f d scr L call 109 (n + 1) 151 lv (.int i :: .ref a :: st) h = (match am_ild scr L h a i with
    | some x => am_f d scr L call 109 n 152 lv (.int x :: st) h
    | none => none) := k_ia rfl
set_option maxRecDepth 100000 in
theorem s_109_152 (d L n : Nat) (scr : Nat → Int32) (call : Nat → List Value → am_H → Option am_X) (lv : am_L) (st : List Value) (h : am_H) : am_f d scr L call 109 (n + 1) 152 lv st h = (match am_ld lv 0 with
    | some (.ref x) => am_f d scr L call 109 n 153 lv (.ref x :: st) h
    | _ => none) := k_la (i := .aload_n 0) rfl rfl rfl rfl
set_option maxRecDepth 100000 in
theorem s_109_153 (d L n : Nat) (scr : Nat → Int32) (call : Nat → List Value → am_H → Option am_X) (lv : am_L) (st : List Value) (h : am_H) (a : Nat) : am_f d scr L call 109 (n + 1) 153 lv (.ref a :: st) h = (match am_get h a 8 9 with
    | some v => am_f d scr L call 109 n 156 lv (v :: st) h
    | none => none) := k_gf (k := 23) rfl rfl
set_option maxRecDepth 100000 in
theorem s_109_156 (d L n : Nat) (scr : Nat → Int32) (call : Nat → List Value → am_H → Option am_X) (lv : am_L) (st : List Value) (h : am_H) : am_f d scr L call 109 (n + 1) 156 lv st h = (match am_ld lv 5 with
    | some (.int x) => am_f d scr L call 109 n 158 lv (.int x :: st) h
    | _ => none) := k_li (i := .iload 5) rfl rfl rfl rfl
set_option maxRecDepth 100000 in
theorem s_109_158 (d L n : Nat) (scr : Nat → Int32) (call : Nat → List Value → am_H → Option am_X) (lv : am_L) (st : List Value) (h : am_H) (a : Nat) (i : Int32) : am_f d scr L call 109 (n + 1) 158 lv (.int i :: .ref a :: st) h = (match am_ild scr L h a i with
    | some x => am_f d scr L call 109 n 159 lv (.int x :: st) h
    | none => none) := k_ia rfl
set_option maxRecDepth 100000 in
theorem s_109_159 (d L n : Nat) (scr : Nat → Int32) (call : Nat → List Value → am_H → Option am_X) (lv : am_L) (h : am_H) (a0 : Int32) (r0 : Int32) : am_f d scr L call 109 (n + 1) 159 lv (.int a0 :: .int r0 :: []) h = (match call 108 [.int a0] h with
    | some (v, h', dk, dn) => am_add dk dn (am_f d scr L call 109 n 162 lv (v.toList ++ [.int r0]) h')
    | none => none) := k_iv1 (k := 191) (as := [.int a0]) (r := [.int r0]) rfl rfl rfl rfl (Nat.le_of_ble_eq_true rfl)
set_option maxRecDepth 100000 in
theorem s_109_162 (d L n : Nat) (scr : Nat → Int32) (call : Nat → List Value → am_H → Option am_X) (lv : am_L) (st : List Value) (h : am_H) (x y : Int32) : am_f d scr L call 109 (n + 1) 162 lv (.int y :: .int x :: st) h = if ¬ x = y then am_f d scr L call 109 n 169 lv st h else am_f d scr L call 109 n 165 lv st h := k_ic_ne (o := 7) rfl ⟨by decide, rfl⟩
set_option maxRecDepth 100000 in
theorem s_109_165 (d L n : Nat) (scr : Nat → Int32) (call : Nat → List Value → am_H → Option am_X) (lv : am_L) (st : List Value) (h : am_H) : am_f d scr L call 109 (n + 1) 165 lv st h = am_f d scr L call 109 n 166 lv (.int 1 :: st) h := k_nx (i := .iconst 1) rfl rfl
set_option maxRecDepth 100000 in
theorem s_109_166 (d L n : Nat) (scr : Nat → Int32) (call : Nat → List Value → am_H → Option am_X) (lv : am_L) (st : List Value) (h : am_H) : am_f d scr L call 109 (n + 1) 166 lv st h = am_f d scr L call 109 n 170 lv st h := k_nx (i := .goto 4) rfl rfl
set_option maxRecDepth 100000 in
theorem s_109_169 (d L n : Nat) (scr : Nat → Int32) (call : Nat → List Value → am_H → Option am_X) (lv : am_L) (st : List Value) (h : am_H) : am_f d scr L call 109 (n + 1) 169 lv st h = am_f d scr L call 109 n 170 lv (.int 0 :: st) h := k_nx (i := .iconst 0) rfl rfl
set_option maxRecDepth 100000 in
theorem s_109_170 (d L n : Nat) (scr : Nat → Int32) (call : Nat → List Value → am_H → Option am_X) (lv : am_L) (st : List Value) (h : am_H) (x : Int32) : am_f d scr L call 109 (n + 1) 170 lv (.int x :: st) h = am_f d scr L call 109 n 172 (am_st1 lv 6 (.int x)) st h := k_nx (i := .istore 6) rfl rfl
set_option maxRecDepth 100000 in
theorem s_109_172 (d L n : Nat) (scr : Nat → Int32) (call : Nat → List Value → am_H → Option am_X) (lv : am_L) (st : List Value) (h : am_H) : am_f d scr L call 109 (n + 1) 172 lv st h = (match am_ld lv 0 with
    | some (.ref x) => am_f d scr L call 109 n 173 lv (.ref x :: st) h
    | _ => none) := k_la (i := .aload_n 0) rfl rfl rfl rfl
set_option maxRecDepth 100000 in
theorem s_109_173 (d L n : Nat) (scr : Nat → Int32) (call : Nat → List Value → am_H → Option am_X) (lv : am_L) (st : List Value) (h : am_H) : am_f d scr L call 109 (n + 1) 173 lv st h = (match am_ld lv 6 with
    | some (.int x) => am_f d scr L call 109 n 175 lv (.int x :: st) h
    | _ => none) := k_li (i := .iload 6) rfl rfl rfl rfl
set_option maxRecDepth 100000 in
theorem s_109_175 (d L n : Nat) (scr : Nat → Int32) (call : Nat → List Value → am_H → Option am_X) (lv : am_L) (st : List Value) (h : am_H) (x : Int32) : am_f d scr L call 109 (n + 1) 175 lv (.int x :: st) h = if x = 0 then am_f d scr L call 109 n 187 lv st h else am_f d scr L call 109 n 178 lv st h := k_if_eq (o := 12) rfl ⟨by decide, rfl⟩
set_option maxRecDepth 100000 in
theorem s_109_178 (d L n : Nat) (scr : Nat → Int32) (call : Nat → List Value → am_H → Option am_X) (lv : am_L) (st : List Value) (h : am_H) : am_f d scr L call 109 (n + 1) 178 lv st h = (match am_ld lv 0 with
    | some (.ref x) => am_f d scr L call 109 n 179 lv (.ref x :: st) h
    | _ => none) := k_la (i := .aload_n 0) rfl rfl rfl rfl
set_option maxRecDepth 100000 in
theorem s_109_179 (d L n : Nat) (scr : Nat → Int32) (call : Nat → List Value → am_H → Option am_X) (lv : am_L) (st : List Value) (h : am_H) (a : Nat) : am_f d scr L call 109 (n + 1) 179 lv (.ref a :: st) h = (match am_get h a 8 21 with
    | some v => am_f d scr L call 109 n 182 lv (v :: st) h
    | none => none) := k_gf (k := 167) rfl rfl
set_option maxRecDepth 100000 in
theorem s_109_182 (d L n : Nat) (scr : Nat → Int32) (call : Nat → List Value → am_H → Option am_X) (lv : am_L) (st : List Value) (h : am_H) : am_f d scr L call 109 (n + 1) 182 lv st h = am_f d scr L call 109 n 183 lv (.int 1 :: st) h := k_nx (i := .iconst 1) rfl rfl
set_option maxRecDepth 100000 in
theorem s_109_183 (d L n : Nat) (scr : Nat → Int32) (call : Nat → List Value → am_H → Option am_X) (lv : am_L) (st : List Value) (h : am_H) (x y : Int32) : am_f d scr L call 109 (n + 1) 183 lv (.int y :: .int x :: st) h = am_f d scr L call 109 n 184 lv (.int (x - y) :: st) h := k_nx (i := .isub) rfl rfl
set_option maxRecDepth 100000 in
theorem s_109_184 (d L n : Nat) (scr : Nat → Int32) (call : Nat → List Value → am_H → Option am_X) (lv : am_L) (st : List Value) (h : am_H) : am_f d scr L call 109 (n + 1) 184 lv st h = am_f d scr L call 109 n 191 lv st h := k_nx (i := .goto 7) rfl rfl
set_option maxRecDepth 100000 in
theorem s_109_187 (d L n : Nat) (scr : Nat → Int32) (call : Nat → List Value → am_H → Option am_X) (lv : am_L) (st : List Value) (h : am_H) : am_f d scr L call 109 (n + 1) 187 lv st h = (match am_ld lv 0 with
    | some (.ref x) => am_f d scr L call 109 n 188 lv (.ref x :: st) h
    | _ => none) := k_la (i := .aload_n 0) rfl rfl rfl rfl
set_option maxRecDepth 100000 in
theorem s_109_188 (d L n : Nat) (scr : Nat → Int32) (call : Nat → List Value → am_H → Option am_X) (lv : am_L) (st : List Value) (h : am_H) (a : Nat) : am_f d scr L call 109 (n + 1) 188 lv (.ref a :: st) h = (match am_get h a 8 21 with
    | some v => am_f d scr L call 109 n 191 lv (v :: st) h
    | none => none) := k_gf (k := 167) rfl rfl
set_option maxRecDepth 100000 in
theorem s_109_191 (d L n : Nat) (scr : Nat → Int32) (call : Nat → List Value → am_H → Option am_X) (lv : am_L) (st : List Value) (h : am_H) (x : Int32) (a : Nat) : am_f d scr L call 109 (n + 1) 191 lv (.int x :: .ref a :: st) h = (match am_put h a 8 21 (.int x) with
    | some h' => am_f d scr L call 109 n 194 lv st h'
    | none => none) := k_pf (k := 167) rfl rfl rfl
set_option maxRecDepth 100000 in
theorem s_109_194 (d L n : Nat) (scr : Nat → Int32) (call : Nat → List Value → am_H → Option am_X) (lv : am_L) (st : List Value) (h : am_H) : am_f d scr L call 109 (n + 1) 194 lv st h = (match am_ld lv 6 with
    | some (.int x) => am_f d scr L call 109 n 196 lv (.int x :: st) h
    | _ => none) := k_li (i := .iload 6) rfl rfl rfl rfl
set_option maxRecDepth 100000 in
theorem s_109_196 (d L n : Nat) (scr : Nat → Int32) (call : Nat → List Value → am_H → Option am_X) (lv : am_L) (st : List Value) (h : am_H) (x : Int32) : am_f d scr L call 109 (n + 1) 196 lv (.int x :: st) h = if x = 0 then am_f d scr L call 109 n 204 lv st h else am_f d scr L call 109 n 199 lv st h := k_if_eq (o := 8) rfl ⟨by decide, rfl⟩
set_option maxRecDepth 100000 in
theorem s_109_199 (d L n : Nat) (scr : Nat → Int32) (call : Nat → List Value → am_H → Option am_X) (lv : am_L) (st : List Value) (h : am_H) : am_f d scr L call 109 (n + 1) 199 lv st h = (match am_ld lv 5 with
    | some (.int x) => am_f d scr L call 109 n 201 lv (.int x :: st) h
    | _ => none) := k_li (i := .iload 5) rfl rfl rfl rfl
set_option maxRecDepth 100000 in
theorem s_109_201 (d L n : Nat) (scr : Nat → Int32) (call : Nat → List Value → am_H → Option am_X) (lv : am_L) (st : List Value) (h : am_H) : am_f d scr L call 109 (n + 1) 201 lv st h = am_f d scr L call 109 n 205 lv st h := k_nx (i := .goto 4) rfl rfl
set_option maxRecDepth 100000 in
theorem s_109_204 (d L n : Nat) (scr : Nat → Int32) (call : Nat → List Value → am_H → Option am_X) (lv : am_L) (st : List Value) (h : am_H) : am_f d scr L call 109 (n + 1) 204 lv st h = am_f d scr L call 109 n 205 lv (.int (-1) :: st) h := k_nx (i := .iconst (-1)) rfl rfl
set_option maxRecDepth 100000 in
theorem s_109_205 (d L n : Nat) (scr : Nat → Int32) (call : Nat → List Value → am_H → Option am_X) (lv : am_L) (st : List Value) (h : am_H) (x : Int32) : am_f d scr L call 109 (n + 1) 205 lv (.int x :: st) h = am_f d scr L call 109 n 207 (am_st1 lv 4 (.int x)) st h := k_nx (i := .istore 4) rfl rfl
set_option maxRecDepth 100000 in
theorem s_109_207 (d L n : Nat) (scr : Nat → Int32) (call : Nat → List Value → am_H → Option am_X) (lv : am_L) (st : List Value) (h : am_H) : am_f d scr L call 109 (n + 1) 207 lv st h = am_f d scr L call 109 n 63 lv st h := k_nx (i := .goto (-144)) rfl rfl
set_option maxRecDepth 100000 in
theorem s_109_210 (d L n : Nat) (scr : Nat → Int32) (call : Nat → List Value → am_H → Option am_X) (lv : am_L) (st : List Value) (h : am_H) : am_f d scr L call 109 (n + 1) 210 lv st h = (match am_ld lv 1 with
    | some (.int x) => am_f d scr L call 109 n 213 (am_st1 lv 1 (.int (x + 1))) st h
    | _ => none) := k_iinc (k := 1) (c := 1) rfl rfl (Nat.le_of_ble_eq_true rfl)
set_option maxRecDepth 100000 in
theorem s_109_213 (d L n : Nat) (scr : Nat → Int32) (call : Nat → List Value → am_H → Option am_X) (lv : am_L) (st : List Value) (h : am_H) : am_f d scr L call 109 (n + 1) 213 lv st h = am_f d scr L call 109 n 22 lv st h := k_nx (i := .goto (-191)) rfl rfl
set_option maxRecDepth 100000 in
theorem s_109_216 (d L n : Nat) (scr : Nat → Int32) (call : Nat → List Value → am_H → Option am_X) (lv : am_L) (st : List Value) (h : am_H) : am_f d scr L call 109 (n + 1) 216 lv st h = am_f d scr L call 109 n 217 lv (.int 0 :: st) h := k_nx (i := .iconst 0) rfl rfl
set_option maxRecDepth 100000 in
theorem s_109_217 (d L n : Nat) (scr : Nat → Int32) (call : Nat → List Value → am_H → Option am_X) (lv : am_L) (h : am_H) (x : Int32) : am_f d scr L call 109 (n + 1) 217 lv [.int x] h = if x = 0 ∨ x = 1 then some (some (.int x), h, 0, 0) else none := k_zr rfl rfl
-- 110: BlameDeskModel.typeOf(I)I
theorem s_110_0 (d L n : Nat) (scr : Nat → Int32) (call : Nat → List Value → am_H → Option am_X) (lv : am_L) (st : List Value) (h : am_H) : am_f d scr L call 110 (n + 1) 0 lv st h = (match am_ld lv 0 with
    | some (.ref x) => am_f d scr L call 110 n 1 lv (.ref x :: st) h
    | _ => none) := k_la (i := .aload_n 0) rfl rfl rfl rfl
theorem s_110_1 (d L n : Nat) (scr : Nat → Int32) (call : Nat → List Value → am_H → Option am_X) (lv : am_L) (st : List Value) (h : am_H) (a : Nat) : am_f d scr L call 110 (n + 1) 1 lv (.ref a :: st) h = (match am_get h a 8 9 with
    | some v => am_f d scr L call 110 n 4 lv (v :: st) h
    | none => none) := k_gf (k := 23) rfl rfl
theorem s_110_4 (d L n : Nat) (scr : Nat → Int32) (call : Nat → List Value → am_H → Option am_X) (lv : am_L) (st : List Value) (h : am_H) : am_f d scr L call 110 (n + 1) 4 lv st h = (match am_ld lv 1 with
    | some (.int x) => am_f d scr L call 110 n 5 lv (.int x :: st) h
    | _ => none) := k_li (i := .iload_n 1) rfl rfl rfl rfl
theorem s_110_5 (d L n : Nat) (scr : Nat → Int32) (call : Nat → List Value → am_H → Option am_X) (lv : am_L) (st : List Value) (h : am_H) (a : Nat) (i : Int32) : am_f d scr L call 110 (n + 1) 5 lv (.int i :: .ref a :: st) h = (match am_ild scr L h a i with
    | some x => am_f d scr L call 110 n 6 lv (.int x :: st) h
    | none => none) := k_ia rfl
theorem s_110_6 (d L n : Nat) (scr : Nat → Int32) (call : Nat → List Value → am_H → Option am_X) (lv : am_L) (st : List Value) (h : am_H) (x : Int32) : am_f d scr L call 110 (n + 1) 6 lv (.int x :: st) h = am_f d scr L call 110 n 7 (am_st1 lv 2 (.int x)) st h := k_nx (i := .istore_n 2) rfl rfl
theorem s_110_7 (d L n : Nat) (scr : Nat → Int32) (call : Nat → List Value → am_H → Option am_X) (lv : am_L) (st : List Value) (h : am_H) : am_f d scr L call 110 (n + 1) 7 lv st h = (match am_ld lv 2 with
    | some (.int x) => am_f d scr L call 110 n 8 lv (.int x :: st) h
    | _ => none) := k_li (i := .iload_n 2) rfl rfl rfl rfl
theorem s_110_8 (d L n : Nat) (scr : Nat → Int32) (call : Nat → List Value → am_H → Option am_X) (lv : am_L) (st : List Value) (h : am_H) : am_f d scr L call 110 (n + 1) 8 lv st h = am_f d scr L call 110 n 9 lv (.int 2 :: st) h := k_nx (i := .iconst 2) rfl rfl
theorem s_110_9 (d L n : Nat) (scr : Nat → Int32) (call : Nat → List Value → am_H → Option am_X) (lv : am_L) (st : List Value) (h : am_H) (x y : Int32) : am_f d scr L call 110 (n + 1) 9 lv (.int y :: .int x :: st) h = if x ≤ y then am_f d scr L call 110 n 26 lv st h else am_f d scr L call 110 n 12 lv st h := k_ic_le (o := 17) rfl ⟨by decide, rfl⟩
theorem s_110_12 (d L n : Nat) (scr : Nat → Int32) (call : Nat → List Value → am_H → Option am_X) (lv : am_L) (st : List Value) (h : am_H) : am_f d scr L call 110 (n + 1) 12 lv st h = (match am_ld lv 0 with
    | some (.ref x) => am_f d scr L call 110 n 13 lv (.ref x :: st) h
    | _ => none) := k_la (i := .aload_n 0) rfl rfl rfl rfl
theorem s_110_13 (d L n : Nat) (scr : Nat → Int32) (call : Nat → List Value → am_H → Option am_X) (lv : am_L) (st : List Value) (h : am_H) (a : Nat) : am_f d scr L call 110 (n + 1) 13 lv (.ref a :: st) h = (match am_get h a 8 61 with
    | some v => am_f d scr L call 110 n 16 lv (v :: st) h
    | none => none) := k_gf (k := 117) rfl rfl
theorem s_110_16 (d L n : Nat) (scr : Nat → Int32) (call : Nat → List Value → am_H → Option am_X) (lv : am_L) (st : List Value) (h : am_H) : am_f d scr L call 110 (n + 1) 16 lv st h = (match am_ld lv 0 with
    | some (.ref x) => am_f d scr L call 110 n 17 lv (.ref x :: st) h
    | _ => none) := k_la (i := .aload_n 0) rfl rfl rfl rfl
theorem s_110_17 (d L n : Nat) (scr : Nat → Int32) (call : Nat → List Value → am_H → Option am_X) (lv : am_L) (st : List Value) (h : am_H) (a : Nat) : am_f d scr L call 110 (n + 1) 17 lv (.ref a :: st) h = (match am_get h a 8 14 with
    | some v => am_f d scr L call 110 n 20 lv (v :: st) h
    | none => none) := k_gf (k := 38) rfl rfl
theorem s_110_20 (d L n : Nat) (scr : Nat → Int32) (call : Nat → List Value → am_H → Option am_X) (lv : am_L) (st : List Value) (h : am_H) : am_f d scr L call 110 (n + 1) 20 lv st h = (match am_ld lv 1 with
    | some (.int x) => am_f d scr L call 110 n 21 lv (.int x :: st) h
    | _ => none) := k_li (i := .iload_n 1) rfl rfl rfl rfl
theorem s_110_21 (d L n : Nat) (scr : Nat → Int32) (call : Nat → List Value → am_H → Option am_X) (lv : am_L) (st : List Value) (h : am_H) (a : Nat) (i : Int32) : am_f d scr L call 110 (n + 1) 21 lv (.int i :: .ref a :: st) h = (match am_ild scr L h a i with
    | some x => am_f d scr L call 110 n 22 lv (.int x :: st) h
    | none => none) := k_ia rfl
theorem s_110_22 (d L n : Nat) (scr : Nat → Int32) (call : Nat → List Value → am_H → Option am_X) (lv : am_L) (st : List Value) (h : am_H) (a : Nat) (i : Int32) : am_f d scr L call 110 (n + 1) 22 lv (.int i :: .ref a :: st) h = (match am_ild scr L h a i with
    | some x => am_f d scr L call 110 n 23 lv (.int x :: st) h
    | none => none) := k_ia rfl
theorem s_110_23 (d L n : Nat) (scr : Nat → Int32) (call : Nat → List Value → am_H → Option am_X) (lv : am_L) (st : List Value) (h : am_H) : am_f d scr L call 110 (n + 1) 23 lv st h = am_f d scr L call 110 n 27 lv st h := k_nx (i := .goto 4) rfl rfl
theorem s_110_26 (d L n : Nat) (scr : Nat → Int32) (call : Nat → List Value → am_H → Option am_X) (lv : am_L) (st : List Value) (h : am_H) : am_f d scr L call 110 (n + 1) 26 lv st h = am_f d scr L call 110 n 27 lv (.int 0 :: st) h := k_nx (i := .iconst 0) rfl rfl
theorem s_110_27 (d L n : Nat) (scr : Nat → Int32) (call : Nat → List Value → am_H → Option am_X) (lv : am_L) (st : List Value) (h : am_H) (x : Int32) : am_f d scr L call 110 (n + 1) 27 lv (.int x :: st) h = am_f d scr L call 110 n 28 (am_st1 lv 3 (.int x)) st h := k_nx (i := .istore_n 3) rfl rfl
theorem s_110_28 (d L n : Nat) (scr : Nat → Int32) (call : Nat → List Value → am_H → Option am_X) (lv : am_L) (st : List Value) (h : am_H) : am_f d scr L call 110 (n + 1) 28 lv st h = (match am_ld lv 2 with
    | some (.int x) => am_f d scr L call 110 n 29 lv (.int x :: st) h
    | _ => none) := k_li (i := .iload_n 2) rfl rfl rfl rfl
theorem s_110_29 (d L n : Nat) (scr : Nat → Int32) (call : Nat → List Value → am_H → Option am_X) (lv : am_L) (h : am_H) (a0 : Int32)  : am_f d scr L call 110 (n + 1) 29 lv (.int a0 :: []) h = (match call 108 [.int a0] h with
    | some (v, h', dk, dn) => am_add dk dn (am_f d scr L call 110 n 32 lv (v.toList ++ []) h')
    | none => none) := k_iv1 (k := 191) (as := [.int a0]) (r := []) rfl rfl rfl rfl (Nat.le_of_ble_eq_true rfl)
theorem s_110_32 (d L n : Nat) (scr : Nat → Int32) (call : Nat → List Value → am_H → Option am_X) (lv : am_L) (st : List Value) (h : am_H) : am_f d scr L call 110 (n + 1) 32 lv st h = am_f d scr L call 110 n 33 lv (.int 1 :: st) h := k_nx (i := .iconst 1) rfl rfl
theorem s_110_33 (d L n : Nat) (scr : Nat → Int32) (call : Nat → List Value → am_H → Option am_X) (lv : am_L) (st : List Value) (h : am_H) (x y : Int32) : am_f d scr L call 110 (n + 1) 33 lv (.int y :: .int x :: st) h = if x ≤ y then am_f d scr L call 110 n 50 lv st h else am_f d scr L call 110 n 36 lv st h := k_ic_le (o := 17) rfl ⟨by decide, rfl⟩
theorem s_110_36 (d L n : Nat) (scr : Nat → Int32) (call : Nat → List Value → am_H → Option am_X) (lv : am_L) (st : List Value) (h : am_H) : am_f d scr L call 110 (n + 1) 36 lv st h = (match am_ld lv 0 with
    | some (.ref x) => am_f d scr L call 110 n 37 lv (.ref x :: st) h
    | _ => none) := k_la (i := .aload_n 0) rfl rfl rfl rfl
theorem s_110_37 (d L n : Nat) (scr : Nat → Int32) (call : Nat → List Value → am_H → Option am_X) (lv : am_L) (st : List Value) (h : am_H) (a : Nat) : am_f d scr L call 110 (n + 1) 37 lv (.ref a :: st) h = (match am_get h a 8 61 with
    | some v => am_f d scr L call 110 n 40 lv (v :: st) h
    | none => none) := k_gf (k := 117) rfl rfl
theorem s_110_40 (d L n : Nat) (scr : Nat → Int32) (call : Nat → List Value → am_H → Option am_X) (lv : am_L) (st : List Value) (h : am_H) : am_f d scr L call 110 (n + 1) 40 lv st h = (match am_ld lv 0 with
    | some (.ref x) => am_f d scr L call 110 n 41 lv (.ref x :: st) h
    | _ => none) := k_la (i := .aload_n 0) rfl rfl rfl rfl
theorem s_110_41 (d L n : Nat) (scr : Nat → Int32) (call : Nat → List Value → am_H → Option am_X) (lv : am_L) (st : List Value) (h : am_H) (a : Nat) : am_f d scr L call 110 (n + 1) 41 lv (.ref a :: st) h = (match am_get h a 8 15 with
    | some v => am_f d scr L call 110 n 44 lv (v :: st) h
    | none => none) := k_gf (k := 41) rfl rfl
theorem s_110_44 (d L n : Nat) (scr : Nat → Int32) (call : Nat → List Value → am_H → Option am_X) (lv : am_L) (st : List Value) (h : am_H) : am_f d scr L call 110 (n + 1) 44 lv st h = (match am_ld lv 1 with
    | some (.int x) => am_f d scr L call 110 n 45 lv (.int x :: st) h
    | _ => none) := k_li (i := .iload_n 1) rfl rfl rfl rfl
theorem s_110_45 (d L n : Nat) (scr : Nat → Int32) (call : Nat → List Value → am_H → Option am_X) (lv : am_L) (st : List Value) (h : am_H) (a : Nat) (i : Int32) : am_f d scr L call 110 (n + 1) 45 lv (.int i :: .ref a :: st) h = (match am_ild scr L h a i with
    | some x => am_f d scr L call 110 n 46 lv (.int x :: st) h
    | none => none) := k_ia rfl
theorem s_110_46 (d L n : Nat) (scr : Nat → Int32) (call : Nat → List Value → am_H → Option am_X) (lv : am_L) (st : List Value) (h : am_H) (a : Nat) (i : Int32) : am_f d scr L call 110 (n + 1) 46 lv (.int i :: .ref a :: st) h = (match am_ild scr L h a i with
    | some x => am_f d scr L call 110 n 47 lv (.int x :: st) h
    | none => none) := k_ia rfl
theorem s_110_47 (d L n : Nat) (scr : Nat → Int32) (call : Nat → List Value → am_H → Option am_X) (lv : am_L) (st : List Value) (h : am_H) : am_f d scr L call 110 (n + 1) 47 lv st h = am_f d scr L call 110 n 51 lv st h := k_nx (i := .goto 4) rfl rfl
theorem s_110_50 (d L n : Nat) (scr : Nat → Int32) (call : Nat → List Value → am_H → Option am_X) (lv : am_L) (st : List Value) (h : am_H) : am_f d scr L call 110 (n + 1) 50 lv st h = am_f d scr L call 110 n 51 lv (.int 0 :: st) h := k_nx (i := .iconst 0) rfl rfl
theorem s_110_51 (d L n : Nat) (scr : Nat → Int32) (call : Nat → List Value → am_H → Option am_X) (lv : am_L) (st : List Value) (h : am_H) (x : Int32) : am_f d scr L call 110 (n + 1) 51 lv (.int x :: st) h = am_f d scr L call 110 n 53 (am_st1 lv 4 (.int x)) st h := k_nx (i := .istore 4) rfl rfl
theorem s_110_53 (d L n : Nat) (scr : Nat → Int32) (call : Nat → List Value → am_H → Option am_X) (lv : am_L) (st : List Value) (h : am_H) : am_f d scr L call 110 (n + 1) 53 lv st h = (match am_ld lv 2 with
    | some (.int x) => am_f d scr L call 110 n 54 lv (.int x :: st) h
    | _ => none) := k_li (i := .iload_n 2) rfl rfl rfl rfl
theorem s_110_54 (d L n : Nat) (scr : Nat → Int32) (call : Nat → List Value → am_H → Option am_X) (lv : am_L) (st : List Value) (h : am_H) : am_f d scr L call 110 (n + 1) 54 lv st h = am_f d scr L call 110 n 55 lv (.int 2 :: st) h := k_nx (i := .iconst 2) rfl rfl
theorem s_110_55 (d L n : Nat) (scr : Nat → Int32) (call : Nat → List Value → am_H → Option am_X) (lv : am_L) (st : List Value) (h : am_H) (x y : Int32) : am_f d scr L call 110 (n + 1) 55 lv (.int y :: .int x :: st) h = if y ≤ x then am_f d scr L call 110 n 68 lv st h else am_f d scr L call 110 n 58 lv st h := k_ic_ge (o := 13) rfl ⟨by decide, rfl⟩
theorem s_110_58 (d L n : Nat) (scr : Nat → Int32) (call : Nat → List Value → am_H → Option am_X) (lv : am_L) (st : List Value) (h : am_H) : am_f d scr L call 110 (n + 1) 58 lv st h = (match am_ld lv 2 with
    | some (.int x) => am_f d scr L call 110 n 59 lv (.int x :: st) h
    | _ => none) := k_li (i := .iload_n 2) rfl rfl rfl rfl
theorem s_110_59 (d L n : Nat) (scr : Nat → Int32) (call : Nat → List Value → am_H → Option am_X) (lv : am_L) (st : List Value) (h : am_H) (x : Int32) : am_f d scr L call 110 (n + 1) 59 lv (.int x :: st) h = if ¬ x = 0 then am_f d scr L call 110 n 66 lv st h else am_f d scr L call 110 n 62 lv st h := k_if_ne (o := 7) rfl ⟨by decide, rfl⟩
theorem s_110_62 (d L n : Nat) (scr : Nat → Int32) (call : Nat → List Value → am_H → Option am_X) (lv : am_L) (st : List Value) (h : am_H) : am_f d scr L call 110 (n + 1) 62 lv st h = am_f d scr L call 110 n 63 lv (.int 0 :: st) h := k_nx (i := .iconst 0) rfl rfl
theorem s_110_63 (d L n : Nat) (scr : Nat → Int32) (call : Nat → List Value → am_H → Option am_X) (lv : am_L) (st : List Value) (h : am_H) : am_f d scr L call 110 (n + 1) 63 lv st h = am_f d scr L call 110 n 67 lv st h := k_nx (i := .goto 4) rfl rfl
theorem s_110_66 (d L n : Nat) (scr : Nat → Int32) (call : Nat → List Value → am_H → Option am_X) (lv : am_L) (st : List Value) (h : am_H) : am_f d scr L call 110 (n + 1) 66 lv st h = am_f d scr L call 110 n 67 lv (.int 1 :: st) h := k_nx (i := .iconst 1) rfl rfl
theorem s_110_67 (d L n : Nat) (scr : Nat → Int32) (call : Nat → List Value → am_H → Option am_X) (lv : am_L) (h : am_H) (x : Int32) : am_f d scr L call 110 (n + 1) 67 lv [.int x] h = some (some (.int x), h, 0, 0) := k_ir rfl rfl
theorem s_110_68 (d L n : Nat) (scr : Nat → Int32) (call : Nat → List Value → am_H → Option am_X) (lv : am_L) (st : List Value) (h : am_H) : am_f d scr L call 110 (n + 1) 68 lv st h = (match am_ld lv 2 with
    | some (.int x) => am_f d scr L call 110 n 69 lv (.int x :: st) h
    | _ => none) := k_li (i := .iload_n 2) rfl rfl rfl rfl
theorem s_110_69 (d L n : Nat) (scr : Nat → Int32) (call : Nat → List Value → am_H → Option am_X) (lv : am_L) (st : List Value) (h : am_H) : am_f d scr L call 110 (n + 1) 69 lv st h = am_f d scr L call 110 n 70 lv (.int 2 :: st) h := k_nx (i := .iconst 2) rfl rfl
theorem s_110_70 (d L n : Nat) (scr : Nat → Int32) (call : Nat → List Value → am_H → Option am_X) (lv : am_L) (st : List Value) (h : am_H) (x y : Int32) : am_f d scr L call 110 (n + 1) 70 lv (.int y :: .int x :: st) h = if ¬ x = y then am_f d scr L call 110 n 144 lv st h else am_f d scr L call 110 n 73 lv st h := k_ic_ne (o := 74) rfl ⟨by decide, rfl⟩
theorem s_110_73 (d L n : Nat) (scr : Nat → Int32) (call : Nat → List Value → am_H → Option am_X) (lv : am_L) (st : List Value) (h : am_H) : am_f d scr L call 110 (n + 1) 73 lv st h = (match am_ld lv 0 with
    | some (.ref x) => am_f d scr L call 110 n 74 lv (.ref x :: st) h
    | _ => none) := k_la (i := .aload_n 0) rfl rfl rfl rfl
theorem s_110_74 (d L n : Nat) (scr : Nat → Int32) (call : Nat → List Value → am_H → Option am_X) (lv : am_L) (st : List Value) (h : am_H) (a : Nat) : am_f d scr L call 110 (n + 1) 74 lv (.ref a :: st) h = (match am_get h a 8 13 with
    | some v => am_f d scr L call 110 n 77 lv (v :: st) h
    | none => none) := k_gf (k := 35) rfl rfl
theorem s_110_77 (d L n : Nat) (scr : Nat → Int32) (call : Nat → List Value → am_H → Option am_X) (lv : am_L) (st : List Value) (h : am_H) : am_f d scr L call 110 (n + 1) 77 lv st h = (match am_ld lv 1 with
    | some (.int x) => am_f d scr L call 110 n 78 lv (.int x :: st) h
    | _ => none) := k_li (i := .iload_n 1) rfl rfl rfl rfl
theorem s_110_78 (d L n : Nat) (scr : Nat → Int32) (call : Nat → List Value → am_H → Option am_X) (lv : am_L) (st : List Value) (h : am_H) (a : Nat) (i : Int32) : am_f d scr L call 110 (n + 1) 78 lv (.int i :: .ref a :: st) h = (match am_ild scr L h a i with
    | some x => am_f d scr L call 110 n 79 lv (.int x :: st) h
    | none => none) := k_ia rfl
theorem s_110_79 (d L n : Nat) (scr : Nat → Int32) (call : Nat → List Value → am_H → Option am_X) (lv : am_L) (st : List Value) (h : am_H) (x : Int32) : am_f d scr L call 110 (n + 1) 79 lv (.int x :: st) h = am_f d scr L call 110 n 81 (am_st1 lv 5 (.int x)) st h := k_nx (i := .istore 5) rfl rfl
theorem s_110_81 (d L n : Nat) (scr : Nat → Int32) (call : Nat → List Value → am_H → Option am_X) (lv : am_L) (st : List Value) (h : am_H) : am_f d scr L call 110 (n + 1) 81 lv st h = (match am_ld lv 5 with
    | some (.int x) => am_f d scr L call 110 n 83 lv (.int x :: st) h
    | _ => none) := k_li (i := .iload 5) rfl rfl rfl rfl
theorem s_110_83 (d L n : Nat) (scr : Nat → Int32) (call : Nat → List Value → am_H → Option am_X) (lv : am_L) (st : List Value) (h : am_H) (x : Int32) : am_f d scr L call 110 (n + 1) 83 lv (.int x :: st) h = if x < 0 then am_f d scr L call 110 n 125 lv st h else am_f d scr L call 110 n 86 lv st h := k_if_lt (o := 42) rfl ⟨by decide, rfl⟩
theorem s_110_86 (d L n : Nat) (scr : Nat → Int32) (call : Nat → List Value → am_H → Option am_X) (lv : am_L) (st : List Value) (h : am_H) : am_f d scr L call 110 (n + 1) 86 lv st h = (match am_ld lv 0 with
    | some (.ref x) => am_f d scr L call 110 n 87 lv (.ref x :: st) h
    | _ => none) := k_la (i := .aload_n 0) rfl rfl rfl rfl
theorem s_110_87 (d L n : Nat) (scr : Nat → Int32) (call : Nat → List Value → am_H → Option am_X) (lv : am_L) (st : List Value) (h : am_H) (a : Nat) : am_f d scr L call 110 (n + 1) 87 lv (.ref a :: st) h = (match am_get h a 8 9 with
    | some v => am_f d scr L call 110 n 90 lv (v :: st) h
    | none => none) := k_gf (k := 23) rfl rfl
theorem s_110_90 (d L n : Nat) (scr : Nat → Int32) (call : Nat → List Value → am_H → Option am_X) (lv : am_L) (st : List Value) (h : am_H) : am_f d scr L call 110 (n + 1) 90 lv st h = (match am_ld lv 5 with
    | some (.int x) => am_f d scr L call 110 n 92 lv (.int x :: st) h
    | _ => none) := k_li (i := .iload 5) rfl rfl rfl rfl
theorem s_110_92 (d L n : Nat) (scr : Nat → Int32) (call : Nat → List Value → am_H → Option am_X) (lv : am_L) (st : List Value) (h : am_H) (a : Nat) (i : Int32) : am_f d scr L call 110 (n + 1) 92 lv (.int i :: .ref a :: st) h = (match am_ild scr L h a i with
    | some x => am_f d scr L call 110 n 93 lv (.int x :: st) h
    | none => none) := k_ia rfl
theorem s_110_93 (d L n : Nat) (scr : Nat → Int32) (call : Nat → List Value → am_H → Option am_X) (lv : am_L) (st : List Value) (h : am_H) : am_f d scr L call 110 (n + 1) 93 lv st h = am_f d scr L call 110 n 94 lv (.int 3 :: st) h := k_nx (i := .iconst 3) rfl rfl
theorem s_110_94 (d L n : Nat) (scr : Nat → Int32) (call : Nat → List Value → am_H → Option am_X) (lv : am_L) (st : List Value) (h : am_H) (x y : Int32) : am_f d scr L call 110 (n + 1) 94 lv (.int y :: .int x :: st) h = if ¬ x = y then am_f d scr L call 110 n 113 lv st h else am_f d scr L call 110 n 97 lv st h := k_ic_ne (o := 19) rfl ⟨by decide, rfl⟩
theorem s_110_97 (d L n : Nat) (scr : Nat → Int32) (call : Nat → List Value → am_H → Option am_X) (lv : am_L) (st : List Value) (h : am_H) : am_f d scr L call 110 (n + 1) 97 lv st h = (match am_ld lv 0 with
    | some (.ref x) => am_f d scr L call 110 n 98 lv (.ref x :: st) h
    | _ => none) := k_la (i := .aload_n 0) rfl rfl rfl rfl
theorem s_110_98 (d L n : Nat) (scr : Nat → Int32) (call : Nat → List Value → am_H → Option am_X) (lv : am_L) (st : List Value) (h : am_H) (a : Nat) : am_f d scr L call 110 (n + 1) 98 lv (.ref a :: st) h = (match am_get h a 8 11 with
    | some v => am_f d scr L call 110 n 101 lv (v :: st) h
    | none => none) := k_gf (k := 29) rfl rfl
theorem s_110_101 (d L n : Nat) (scr : Nat → Int32) (call : Nat → List Value → am_H → Option am_X) (lv : am_L) (st : List Value) (h : am_H) : am_f d scr L call 110 (n + 1) 101 lv st h = (match am_ld lv 5 with
    | some (.int x) => am_f d scr L call 110 n 103 lv (.int x :: st) h
    | _ => none) := k_li (i := .iload 5) rfl rfl rfl rfl
theorem s_110_103 (d L n : Nat) (scr : Nat → Int32) (call : Nat → List Value → am_H → Option am_X) (lv : am_L) (st : List Value) (h : am_H) (a : Nat) (i : Int32) : am_f d scr L call 110 (n + 1) 103 lv (.int i :: .ref a :: st) h = (match am_ild scr L h a i with
    | some x => am_f d scr L call 110 n 104 lv (.int x :: st) h
    | none => none) := k_ia rfl
theorem s_110_104 (d L n : Nat) (scr : Nat → Int32) (call : Nat → List Value → am_H → Option am_X) (lv : am_L) (st : List Value) (h : am_H) : am_f d scr L call 110 (n + 1) 104 lv st h = (match am_ld lv 0 with
    | some (.ref x) => am_f d scr L call 110 n 105 lv (.ref x :: st) h
    | _ => none) := k_la (i := .aload_n 0) rfl rfl rfl rfl
theorem s_110_105 (d L n : Nat) (scr : Nat → Int32) (call : Nat → List Value → am_H → Option am_X) (lv : am_L) (st : List Value) (h : am_H) (a : Nat) : am_f d scr L call 110 (n + 1) 105 lv (.ref a :: st) h = (match am_get h a 8 11 with
    | some v => am_f d scr L call 110 n 108 lv (v :: st) h
    | none => none) := k_gf (k := 29) rfl rfl
theorem s_110_108 (d L n : Nat) (scr : Nat → Int32) (call : Nat → List Value → am_H → Option am_X) (lv : am_L) (st : List Value) (h : am_H) : am_f d scr L call 110 (n + 1) 108 lv st h = (match am_ld lv 1 with
    | some (.int x) => am_f d scr L call 110 n 109 lv (.int x :: st) h
    | _ => none) := k_li (i := .iload_n 1) rfl rfl rfl rfl
theorem s_110_109 (d L n : Nat) (scr : Nat → Int32) (call : Nat → List Value → am_H → Option am_X) (lv : am_L) (st : List Value) (h : am_H) (a : Nat) (i : Int32) : am_f d scr L call 110 (n + 1) 109 lv (.int i :: .ref a :: st) h = (match am_ild scr L h a i with
    | some x => am_f d scr L call 110 n 110 lv (.int x :: st) h
    | none => none) := k_ia rfl
theorem s_110_110 (d L n : Nat) (scr : Nat → Int32) (call : Nat → List Value → am_H → Option am_X) (lv : am_L) (st : List Value) (h : am_H) (x y : Int32) : am_f d scr L call 110 (n + 1) 110 lv (.int y :: .int x :: st) h = if x = y then am_f d scr L call 110 n 125 lv st h else am_f d scr L call 110 n 113 lv st h := k_ic_eq (o := 15) rfl ⟨by decide, rfl⟩
theorem s_110_113 (d L n : Nat) (scr : Nat → Int32) (call : Nat → List Value → am_H → Option am_X) (lv : am_L) (st : List Value) (h : am_H) : am_f d scr L call 110 (n + 1) 113 lv st h = (match am_ld lv 0 with
    | some (.ref x) => am_f d scr L call 110 n 114 lv (.ref x :: st) h
    | _ => none) := k_la (i := .aload_n 0) rfl rfl rfl rfl
theorem s_110_114 (d L n : Nat) (scr : Nat → Int32) (call : Nat → List Value → am_H → Option am_X) (lv : am_L) (st : List Value) (h : am_H) (a : Nat) : am_f d scr L call 110 (n + 1) 114 lv (.ref a :: st) h = (match am_get h a 8 13 with
    | some v => am_f d scr L call 110 n 117 lv (v :: st) h
    | none => none) := k_gf (k := 35) rfl rfl
theorem s_110_117 (d L n : Nat) (scr : Nat → Int32) (call : Nat → List Value → am_H → Option am_X) (lv : am_L) (st : List Value) (h : am_H) : am_f d scr L call 110 (n + 1) 117 lv st h = (match am_ld lv 5 with
    | some (.int x) => am_f d scr L call 110 n 119 lv (.int x :: st) h
    | _ => none) := k_li (i := .iload 5) rfl rfl rfl rfl
theorem s_110_119 (d L n : Nat) (scr : Nat → Int32) (call : Nat → List Value → am_H → Option am_X) (lv : am_L) (st : List Value) (h : am_H) (a : Nat) (i : Int32) : am_f d scr L call 110 (n + 1) 119 lv (.int i :: .ref a :: st) h = (match am_ild scr L h a i with
    | some x => am_f d scr L call 110 n 120 lv (.int x :: st) h
    | none => none) := k_ia rfl
theorem s_110_120 (d L n : Nat) (scr : Nat → Int32) (call : Nat → List Value → am_H → Option am_X) (lv : am_L) (st : List Value) (h : am_H) (x : Int32) : am_f d scr L call 110 (n + 1) 120 lv (.int x :: st) h = am_f d scr L call 110 n 122 (am_st1 lv 5 (.int x)) st h := k_nx (i := .istore 5) rfl rfl
theorem s_110_122 (d L n : Nat) (scr : Nat → Int32) (call : Nat → List Value → am_H → Option am_X) (lv : am_L) (st : List Value) (h : am_H) : am_f d scr L call 110 (n + 1) 122 lv st h = am_f d scr L call 110 n 81 lv st h := k_nx (i := .goto (-41)) rfl rfl
theorem s_110_125 (d L n : Nat) (scr : Nat → Int32) (call : Nat → List Value → am_H → Option am_X) (lv : am_L) (st : List Value) (h : am_H) : am_f d scr L call 110 (n + 1) 125 lv st h = (match am_ld lv 5 with
    | some (.int x) => am_f d scr L call 110 n 127 lv (.int x :: st) h
    | _ => none) := k_li (i := .iload 5) rfl rfl rfl rfl
theorem s_110_127 (d L n : Nat) (scr : Nat → Int32) (call : Nat → List Value → am_H → Option am_X) (lv : am_L) (st : List Value) (h : am_H) (x : Int32) : am_f d scr L call 110 (n + 1) 127 lv (.int x :: st) h = if 0 ≤ x then am_f d scr L call 110 n 136 lv st h else am_f d scr L call 110 n 130 lv st h := k_if_ge (o := 9) rfl ⟨by decide, rfl⟩
theorem s_110_130 (d L n : Nat) (scr : Nat → Int32) (call : Nat → List Value → am_H → Option am_X) (lv : am_L) (st : List Value) (h : am_H) : am_f d scr L call 110 (n + 1) 130 lv st h = am_f d scr L call 110 n 131 lv (.int (-1) :: st) h := k_nx (i := .iconst (-1)) rfl rfl
theorem s_110_131 (d L n : Nat) (scr : Nat → Int32) (call : Nat → List Value → am_H → Option am_X) (lv : am_L) (st : List Value) (h : am_H) : am_f d scr L call 110 (n + 1) 131 lv st h = (match am_ld lv 1 with
    | some (.int x) => am_f d scr L call 110 n 132 lv (.int x :: st) h
    | _ => none) := k_li (i := .iload_n 1) rfl rfl rfl rfl
theorem s_110_132 (d L n : Nat) (scr : Nat → Int32) (call : Nat → List Value → am_H → Option am_X) (lv : am_L) (st : List Value) (h : am_H) (x y : Int32) : am_f d scr L call 110 (n + 1) 132 lv (.int y :: .int x :: st) h = am_f d scr L call 110 n 133 lv (.int (x - y) :: st) h := k_nx (i := .isub) rfl rfl
theorem s_110_133 (d L n : Nat) (scr : Nat → Int32) (call : Nat → List Value → am_H → Option am_X) (lv : am_L) (st : List Value) (h : am_H) : am_f d scr L call 110 (n + 1) 133 lv st h = am_f d scr L call 110 n 143 lv st h := k_nx (i := .goto 10) rfl rfl
theorem s_110_136 (d L n : Nat) (scr : Nat → Int32) (call : Nat → List Value → am_H → Option am_X) (lv : am_L) (st : List Value) (h : am_H) : am_f d scr L call 110 (n + 1) 136 lv st h = (match am_ld lv 0 with
    | some (.ref x) => am_f d scr L call 110 n 137 lv (.ref x :: st) h
    | _ => none) := k_la (i := .aload_n 0) rfl rfl rfl rfl
theorem s_110_137 (d L n : Nat) (scr : Nat → Int32) (call : Nat → List Value → am_H → Option am_X) (lv : am_L) (st : List Value) (h : am_H) (a : Nat) : am_f d scr L call 110 (n + 1) 137 lv (.ref a :: st) h = (match am_get h a 8 12 with
    | some v => am_f d scr L call 110 n 140 lv (v :: st) h
    | none => none) := k_gf (k := 32) rfl rfl
theorem s_110_140 (d L n : Nat) (scr : Nat → Int32) (call : Nat → List Value → am_H → Option am_X) (lv : am_L) (st : List Value) (h : am_H) : am_f d scr L call 110 (n + 1) 140 lv st h = (match am_ld lv 5 with
    | some (.int x) => am_f d scr L call 110 n 142 lv (.int x :: st) h
    | _ => none) := k_li (i := .iload 5) rfl rfl rfl rfl
set_option maxRecDepth 100000 in
theorem s_110_142 (d L n : Nat) (scr : Nat → Int32) (call : Nat → List Value → am_H → Option am_X) (lv : am_L) (st : List Value) (h : am_H) (a : Nat) (i : Int32) : am_f d scr L call 110 (n + 1) 142 lv (.int i :: .ref a :: st) h = (match am_ild scr L h a i with
    | some x => am_f d scr L call 110 n 143 lv (.int x :: st) h
    | none => none) := k_ia rfl
set_option maxRecDepth 100000 in
theorem s_110_143 (d L n : Nat) (scr : Nat → Int32) (call : Nat → List Value → am_H → Option am_X) (lv : am_L) (h : am_H) (x : Int32) : am_f d scr L call 110 (n + 1) 143 lv [.int x] h = some (some (.int x), h, 0, 0) := k_ir rfl rfl
set_option maxRecDepth 100000 in
theorem s_110_144 (d L n : Nat) (scr : Nat → Int32) (call : Nat → List Value → am_H → Option am_X) (lv : am_L) (st : List Value) (h : am_H) : am_f d scr L call 110 (n + 1) 144 lv st h = (match am_ld lv 2 with
    | some (.int x) => am_f d scr L call 110 n 145 lv (.int x :: st) h
    | _ => none) := k_li (i := .iload_n 2) rfl rfl rfl rfl
set_option maxRecDepth 100000 in
theorem s_110_145 (d L n : Nat) (scr : Nat → Int32) (call : Nat → List Value → am_H → Option am_X) (lv : am_L) (st : List Value) (h : am_H) : am_f d scr L call 110 (n + 1) 145 lv st h = am_f d scr L call 110 n 146 lv (.int 3 :: st) h := k_nx (i := .iconst 3) rfl rfl
set_option maxRecDepth 100000 in
theorem s_110_146 (d L n : Nat) (scr : Nat → Int32) (call : Nat → List Value → am_H → Option am_X) (lv : am_L) (st : List Value) (h : am_H) (x y : Int32) : am_f d scr L call 110 (n + 1) 146 lv (.int y :: .int x :: st) h = if ¬ x = y then am_f d scr L call 110 n 162 lv st h else am_f d scr L call 110 n 149 lv st h := k_ic_ne (o := 16) rfl ⟨by decide, rfl⟩
set_option maxRecDepth 100000 in
theorem s_110_149 (d L n : Nat) (scr : Nat → Int32) (call : Nat → List Value → am_H → Option am_X) (lv : am_L) (st : List Value) (h : am_H) : am_f d scr L call 110 (n + 1) 149 lv st h = (match am_ld lv 0 with
    | some (.ref x) => am_f d scr L call 110 n 150 lv (.ref x :: st) h
    | _ => none) := k_la (i := .aload_n 0) rfl rfl rfl rfl
set_option maxRecDepth 100000 in
theorem s_110_150 (d L n : Nat) (scr : Nat → Int32) (call : Nat → List Value → am_H → Option am_X) (lv : am_L) (st : List Value) (h : am_H) : am_f d scr L call 110 (n + 1) 150 lv st h = am_f d scr L call 110 n 151 lv (.int 3 :: st) h := k_nx (i := .iconst 3) rfl rfl
set_option maxRecDepth 100000 in
theorem s_110_151 (d L n : Nat) (scr : Nat → Int32) (call : Nat → List Value → am_H → Option am_X) (lv : am_L) (st : List Value) (h : am_H) : am_f d scr L call 110 (n + 1) 151 lv st h = (match am_ld lv 0 with
    | some (.ref x) => am_f d scr L call 110 n 152 lv (.ref x :: st) h
    | _ => none) := k_la (i := .aload_n 0) rfl rfl rfl rfl
set_option maxRecDepth 100000 in
theorem s_110_152 (d L n : Nat) (scr : Nat → Int32) (call : Nat → List Value → am_H → Option am_X) (lv : am_L) (st : List Value) (h : am_H) (a : Nat) : am_f d scr L call 110 (n + 1) 152 lv (.ref a :: st) h = (match am_get h a 8 12 with
    | some v => am_f d scr L call 110 n 155 lv (v :: st) h
    | none => none) := k_gf (k := 32) rfl rfl
set_option maxRecDepth 100000 in
theorem s_110_155 (d L n : Nat) (scr : Nat → Int32) (call : Nat → List Value → am_H → Option am_X) (lv : am_L) (st : List Value) (h : am_H) : am_f d scr L call 110 (n + 1) 155 lv st h = (match am_ld lv 1 with
    | some (.int x) => am_f d scr L call 110 n 156 lv (.int x :: st) h
    | _ => none) := k_li (i := .iload_n 1) rfl rfl rfl rfl
set_option maxRecDepth 100000 in
theorem s_110_156 (d L n : Nat) (scr : Nat → Int32) (call : Nat → List Value → am_H → Option am_X) (lv : am_L) (st : List Value) (h : am_H) (a : Nat) (i : Int32) : am_f d scr L call 110 (n + 1) 156 lv (.int i :: .ref a :: st) h = (match am_ild scr L h a i with
    | some x => am_f d scr L call 110 n 157 lv (.int x :: st) h
    | none => none) := k_ia rfl
set_option maxRecDepth 100000 in
theorem s_110_157 (d L n : Nat) (scr : Nat → Int32) (call : Nat → List Value → am_H → Option am_X) (lv : am_L) (st : List Value) (h : am_H) : am_f d scr L call 110 (n + 1) 157 lv st h = (match am_ld lv 3 with
    | some (.int x) => am_f d scr L call 110 n 158 lv (.int x :: st) h
    | _ => none) := k_li (i := .iload_n 3) rfl rfl rfl rfl
set_option maxRecDepth 100000 in
theorem s_110_158 (d L n : Nat) (scr : Nat → Int32) (call : Nat → List Value → am_H → Option am_X) (lv : am_L) (h : am_H) (o : Nat) (a0 : Int32) (a1 : Int32) (a2 : Int32)  : am_f d scr L call 110 (n + 1) 158 lv (.int a2 :: .int a1 :: .int a0 :: .ref o :: []) h = if am_at h o 8 = true then (match call 95 [.ref o, .int a0, .int a1, .int a2] h with
    | some (v, h', dk, dn) => am_add dk dn (am_f d scr L call 110 n 161 lv (v.toList ++ []) h')
    | none => none) else none := k_iv0 (k := 149) (as := [.int a0, .int a1, .int a2]) (r := []) rfl rfl rfl rfl (Nat.le_of_ble_eq_true rfl)
set_option maxRecDepth 100000 in
theorem s_110_161 (d L n : Nat) (scr : Nat → Int32) (call : Nat → List Value → am_H → Option am_X) (lv : am_L) (h : am_H) (x : Int32) : am_f d scr L call 110 (n + 1) 161 lv [.int x] h = some (some (.int x), h, 0, 0) := k_ir rfl rfl
set_option maxRecDepth 100000 in
theorem s_110_162 (d L n : Nat) (scr : Nat → Int32) (call : Nat → List Value → am_H → Option am_X) (lv : am_L) (st : List Value) (h : am_H) : am_f d scr L call 110 (n + 1) 162 lv st h = (match am_ld lv 2 with
    | some (.int x) => am_f d scr L call 110 n 163 lv (.int x :: st) h
    | _ => none) := k_li (i := .iload_n 2) rfl rfl rfl rfl
set_option maxRecDepth 100000 in
theorem s_110_163 (d L n : Nat) (scr : Nat → Int32) (call : Nat → List Value → am_H → Option am_X) (lv : am_L) (st : List Value) (h : am_H) : am_f d scr L call 110 (n + 1) 163 lv st h = am_f d scr L call 110 n 164 lv (.int 4 :: st) h := k_nx (i := .iconst 4) rfl rfl
set_option maxRecDepth 100000 in
theorem s_110_164 (d L n : Nat) (scr : Nat → Int32) (call : Nat → List Value → am_H → Option am_X) (lv : am_L) (st : List Value) (h : am_H) (x y : Int32) : am_f d scr L call 110 (n + 1) 164 lv (.int y :: .int x :: st) h = if x = y then am_f d scr L call 110 n 172 lv st h else am_f d scr L call 110 n 167 lv st h := k_ic_eq (o := 8) rfl ⟨by decide, rfl⟩
set_option maxRecDepth 100000 in
theorem s_110_167 (d L n : Nat) (scr : Nat → Int32) (call : Nat → List Value → am_H → Option am_X) (lv : am_L) (st : List Value) (h : am_H) : am_f d scr L call 110 (n + 1) 167 lv st h = (match am_ld lv 2 with
    | some (.int x) => am_f d scr L call 110 n 168 lv (.int x :: st) h
    | _ => none) := k_li (i := .iload_n 2) rfl rfl rfl rfl
set_option maxRecDepth 100000 in
theorem s_110_168 (d L n : Nat) (scr : Nat → Int32) (call : Nat → List Value → am_H → Option am_X) (lv : am_L) (st : List Value) (h : am_H) : am_f d scr L call 110 (n + 1) 168 lv st h = am_f d scr L call 110 n 169 lv (.int 5 :: st) h := k_nx (i := .iconst 5) rfl rfl
set_option maxRecDepth 100000 in
theorem s_110_169 (d L n : Nat) (scr : Nat → Int32) (call : Nat → List Value → am_H → Option am_X) (lv : am_L) (st : List Value) (h : am_H) (x y : Int32) : am_f d scr L call 110 (n + 1) 169 lv (.int y :: .int x :: st) h = if ¬ x = y then am_f d scr L call 110 n 260 lv st h else am_f d scr L call 110 n 172 lv st h := k_ic_ne (o := 91) rfl ⟨by decide, rfl⟩
set_option maxRecDepth 100000 in
theorem s_110_172 (d L n : Nat) (scr : Nat → Int32) (call : Nat → List Value → am_H → Option am_X) (lv : am_L) (st : List Value) (h : am_H) : am_f d scr L call 110 (n + 1) 172 lv st h = (match am_ld lv 2 with
    | some (.int x) => am_f d scr L call 110 n 173 lv (.int x :: st) h
    | _ => none) := k_li (i := .iload_n 2) rfl rfl rfl rfl
set_option maxRecDepth 100000 in
theorem s_110_173 (d L n : Nat) (scr : Nat → Int32) (call : Nat → List Value → am_H → Option am_X) (lv : am_L) (st : List Value) (h : am_H) : am_f d scr L call 110 (n + 1) 173 lv st h = am_f d scr L call 110 n 174 lv (.int 4 :: st) h := k_nx (i := .iconst 4) rfl rfl
set_option maxRecDepth 100000 in
theorem s_110_174 (d L n : Nat) (scr : Nat → Int32) (call : Nat → List Value → am_H → Option am_X) (lv : am_L) (st : List Value) (h : am_H) (x y : Int32) : am_f d scr L call 110 (n + 1) 174 lv (.int y :: .int x :: st) h = if ¬ x = y then am_f d scr L call 110 n 181 lv st h else am_f d scr L call 110 n 177 lv st h := k_ic_ne (o := 7) rfl ⟨by decide, rfl⟩
set_option maxRecDepth 100000 in
theorem s_110_177 (d L n : Nat) (scr : Nat → Int32) (call : Nat → List Value → am_H → Option am_X) (lv : am_L) (st : List Value) (h : am_H) : am_f d scr L call 110 (n + 1) 177 lv st h = am_f d scr L call 110 n 178 lv (.int 3 :: st) h := k_nx (i := .iconst 3) rfl rfl
set_option maxRecDepth 100000 in
theorem s_110_178 (d L n : Nat) (scr : Nat → Int32) (call : Nat → List Value → am_H → Option am_X) (lv : am_L) (st : List Value) (h : am_H) : am_f d scr L call 110 (n + 1) 178 lv st h = am_f d scr L call 110 n 182 lv st h := k_nx (i := .goto 4) rfl rfl
set_option maxRecDepth 100000 in
theorem s_110_181 (d L n : Nat) (scr : Nat → Int32) (call : Nat → List Value → am_H → Option am_X) (lv : am_L) (st : List Value) (h : am_H) : am_f d scr L call 110 (n + 1) 181 lv st h = am_f d scr L call 110 n 182 lv (.int 4 :: st) h := k_nx (i := .iconst 4) rfl rfl
set_option maxRecDepth 100000 in
theorem s_110_182 (d L n : Nat) (scr : Nat → Int32) (call : Nat → List Value → am_H → Option am_X) (lv : am_L) (st : List Value) (h : am_H) (x : Int32) : am_f d scr L call 110 (n + 1) 182 lv (.int x :: st) h = am_f d scr L call 110 n 184 (am_st1 lv 5 (.int x)) st h := k_nx (i := .istore 5) rfl rfl
set_option maxRecDepth 100000 in
theorem s_110_184 (d L n : Nat) (scr : Nat → Int32) (call : Nat → List Value → am_H → Option am_X) (lv : am_L) (st : List Value) (h : am_H) : am_f d scr L call 110 (n + 1) 184 lv st h = (match am_ld lv 0 with
    | some (.ref x) => am_f d scr L call 110 n 185 lv (.ref x :: st) h
    | _ => none) := k_la (i := .aload_n 0) rfl rfl rfl rfl
set_option maxRecDepth 100000 in
theorem s_110_185 (d L n : Nat) (scr : Nat → Int32) (call : Nat → List Value → am_H → Option am_X) (lv : am_L) (st : List Value) (h : am_H) (a : Nat) : am_f d scr L call 110 (n + 1) 185 lv (.ref a :: st) h = (match am_get h a 8 3 with
    | some v => am_f d scr L call 110 n 188 lv (v :: st) h
    | none => none) := k_gf (k := 13) rfl rfl
set_option maxRecDepth 100000 in
theorem s_110_188 (d L n : Nat) (scr : Nat → Int32) (call : Nat → List Value → am_H → Option am_X) (lv : am_L) (st : List Value) (h : am_H) : am_f d scr L call 110 (n + 1) 188 lv st h = (match am_ld lv 3 with
    | some (.int x) => am_f d scr L call 110 n 189 lv (.int x :: st) h
    | _ => none) := k_li (i := .iload_n 3) rfl rfl rfl rfl
set_option maxRecDepth 100000 in
theorem s_110_189 (d L n : Nat) (scr : Nat → Int32) (call : Nat → List Value → am_H → Option am_X) (lv : am_L) (st : List Value) (h : am_H) (a : Nat) (i : Int32) : am_f d scr L call 110 (n + 1) 189 lv (.int i :: .ref a :: st) h = (match am_ild scr L h a i with
    | some x => am_f d scr L call 110 n 190 lv (.int x :: st) h
    | none => none) := k_ia rfl
set_option maxRecDepth 100000 in
theorem s_110_190 (d L n : Nat) (scr : Nat → Int32) (call : Nat → List Value → am_H → Option am_X) (lv : am_L) (st : List Value) (h : am_H) : am_f d scr L call 110 (n + 1) 190 lv st h = (match am_ld lv 5 with
    | some (.int x) => am_f d scr L call 110 n 192 lv (.int x :: st) h
    | _ => none) := k_li (i := .iload 5) rfl rfl rfl rfl
set_option maxRecDepth 100000 in
theorem s_110_192 (d L n : Nat) (scr : Nat → Int32) (call : Nat → List Value → am_H → Option am_X) (lv : am_L) (st : List Value) (h : am_H) (x y : Int32) : am_f d scr L call 110 (n + 1) 192 lv (.int y :: .int x :: st) h = if x = y then am_f d scr L call 110 n 213 lv st h else am_f d scr L call 110 n 195 lv st h := k_ic_eq (o := 21) rfl ⟨by decide, rfl⟩
set_option maxRecDepth 100000 in
theorem s_110_195 (d L n : Nat) (scr : Nat → Int32) (call : Nat → List Value → am_H → Option am_X) (lv : am_L) (st : List Value) (h : am_H) : am_f d scr L call 110 (n + 1) 195 lv st h = (match am_ld lv 3 with
    | some (.int x) => am_f d scr L call 110 n 196 lv (.int x :: st) h
    | _ => none) := k_li (i := .iload_n 3) rfl rfl rfl rfl
set_option maxRecDepth 100000 in
theorem s_110_196 (d L n : Nat) (scr : Nat → Int32) (call : Nat → List Value → am_H → Option am_X) (lv : am_L) (st : List Value) (h : am_H) : am_f d scr L call 110 (n + 1) 196 lv st h = am_f d scr L call 110 n 197 lv (.int 2 :: st) h := k_nx (i := .iconst 2) rfl rfl
set_option maxRecDepth 100000 in
theorem s_110_197 (d L n : Nat) (scr : Nat → Int32) (call : Nat → List Value → am_H → Option am_X) (lv : am_L) (st : List Value) (h : am_H) (x y : Int32) : am_f d scr L call 110 (n + 1) 197 lv (.int y :: .int x :: st) h = if ¬ x = y then am_f d scr L call 110 n 204 lv st h else am_f d scr L call 110 n 200 lv st h := k_ic_ne (o := 7) rfl ⟨by decide, rfl⟩
set_option maxRecDepth 100000 in
theorem s_110_200 (d L n : Nat) (scr : Nat → Int32) (call : Nat → List Value → am_H → Option am_X) (lv : am_L) (st : List Value) (h : am_H) : am_f d scr L call 110 (n + 1) 200 lv st h = am_f d scr L call 110 n 201 lv (.int 2 :: st) h := k_nx (i := .iconst 2) rfl rfl
set_option maxRecDepth 100000 in
theorem s_110_201 (d L n : Nat) (scr : Nat → Int32) (call : Nat → List Value → am_H → Option am_X) (lv : am_L) (st : List Value) (h : am_H) : am_f d scr L call 110 (n + 1) 201 lv st h = am_f d scr L call 110 n 212 lv st h := k_nx (i := .goto 11) rfl rfl
set_option maxRecDepth 100000 in
theorem s_110_204 (d L n : Nat) (scr : Nat → Int32) (call : Nat → List Value → am_H → Option am_X) (lv : am_L) (st : List Value) (h : am_H) : am_f d scr L call 110 (n + 1) 204 lv st h = am_f d scr L call 110 n 205 lv (.int (-1) :: st) h := k_nx (i := .iconst (-1)) rfl rfl
set_option maxRecDepth 100000 in
theorem s_110_205 (d L n : Nat) (scr : Nat → Int32) (call : Nat → List Value → am_H → Option am_X) (lv : am_L) (st : List Value) (h : am_H) : am_f d scr L call 110 (n + 1) 205 lv st h = (match am_ld lv 0 with
    | some (.ref x) => am_f d scr L call 110 n 206 lv (.ref x :: st) h
    | _ => none) := k_la (i := .aload_n 0) rfl rfl rfl rfl
set_option maxRecDepth 100000 in
theorem s_110_206 (d L n : Nat) (scr : Nat → Int32) (call : Nat → List Value → am_H → Option am_X) (lv : am_L) (st : List Value) (h : am_H) (a : Nat) : am_f d scr L call 110 (n + 1) 206 lv (.ref a :: st) h = (match am_get h a 8 14 with
    | some v => am_f d scr L call 110 n 209 lv (v :: st) h
    | none => none) := k_gf (k := 38) rfl rfl
set_option maxRecDepth 100000 in
theorem s_110_209 (d L n : Nat) (scr : Nat → Int32) (call : Nat → List Value → am_H → Option am_X) (lv : am_L) (st : List Value) (h : am_H) : am_f d scr L call 110 (n + 1) 209 lv st h = (match am_ld lv 1 with
    | some (.int x) => am_f d scr L call 110 n 210 lv (.int x :: st) h
    | _ => none) := k_li (i := .iload_n 1) rfl rfl rfl rfl
set_option maxRecDepth 100000 in
theorem s_110_210 (d L n : Nat) (scr : Nat → Int32) (call : Nat → List Value → am_H → Option am_X) (lv : am_L) (st : List Value) (h : am_H) (a : Nat) (i : Int32) : am_f d scr L call 110 (n + 1) 210 lv (.int i :: .ref a :: st) h = (match am_ild scr L h a i with
    | some x => am_f d scr L call 110 n 211 lv (.int x :: st) h
    | none => none) := k_ia rfl
set_option maxRecDepth 100000 in
theorem s_110_211 (d L n : Nat) (scr : Nat → Int32) (call : Nat → List Value → am_H → Option am_X) (lv : am_L) (st : List Value) (h : am_H) (x y : Int32) : am_f d scr L call 110 (n + 1) 211 lv (.int y :: .int x :: st) h = am_f d scr L call 110 n 212 lv (.int (x - y) :: st) h := k_nx (i := .isub) rfl rfl
set_option maxRecDepth 100000 in
theorem s_110_212 (d L n : Nat) (scr : Nat → Int32) (call : Nat → List Value → am_H → Option am_X) (lv : am_L) (h : am_H) (x : Int32) : am_f d scr L call 110 (n + 1) 212 lv [.int x] h = some (some (.int x), h, 0, 0) := k_ir rfl rfl
set_option maxRecDepth 100000 in
theorem s_110_213 (d L n : Nat) (scr : Nat → Int32) (call : Nat → List Value → am_H → Option am_X) (lv : am_L) (st : List Value) (h : am_H) : am_f d scr L call 110 (n + 1) 213 lv st h = (match am_ld lv 0 with
    | some (.ref x) => am_f d scr L call 110 n 214 lv (.ref x :: st) h
    | _ => none) := k_la (i := .aload_n 0) rfl rfl rfl rfl
set_option maxRecDepth 100000 in
theorem s_110_214 (d L n : Nat) (scr : Nat → Int32) (call : Nat → List Value → am_H → Option am_X) (lv : am_L) (st : List Value) (h : am_H) : am_f d scr L call 110 (n + 1) 214 lv st h = (match am_ld lv 4 with
    | some (.int x) => am_f d scr L call 110 n 216 lv (.int x :: st) h
    | _ => none) := k_li (i := .iload 4) rfl rfl rfl rfl
set_option maxRecDepth 100000 in
theorem s_110_216 (d L n : Nat) (scr : Nat → Int32) (call : Nat → List Value → am_H → Option am_X) (lv : am_L) (st : List Value) (h : am_H) : am_f d scr L call 110 (n + 1) 216 lv st h = (match am_ld lv 0 with
    | some (.ref x) => am_f d scr L call 110 n 217 lv (.ref x :: st) h
    | _ => none) := k_la (i := .aload_n 0) rfl rfl rfl rfl
set_option maxRecDepth 100000 in
theorem s_110_217 (d L n : Nat) (scr : Nat → Int32) (call : Nat → List Value → am_H → Option am_X) (lv : am_L) (st : List Value) (h : am_H) (a : Nat) : am_f d scr L call 110 (n + 1) 217 lv (.ref a :: st) h = (match am_get h a 8 4 with
    | some v => am_f d scr L call 110 n 220 lv (v :: st) h
    | none => none) := k_gf (k := 17) rfl rfl
set_option maxRecDepth 100000 in
theorem s_110_220 (d L n : Nat) (scr : Nat → Int32) (call : Nat → List Value → am_H → Option am_X) (lv : am_L) (st : List Value) (h : am_H) : am_f d scr L call 110 (n + 1) 220 lv st h = (match am_ld lv 3 with
    | some (.int x) => am_f d scr L call 110 n 221 lv (.int x :: st) h
    | _ => none) := k_li (i := .iload_n 3) rfl rfl rfl rfl
set_option maxRecDepth 100000 in
theorem s_110_221 (d L n : Nat) (scr : Nat → Int32) (call : Nat → List Value → am_H → Option am_X) (lv : am_L) (st : List Value) (h : am_H) (a : Nat) (i : Int32) : am_f d scr L call 110 (n + 1) 221 lv (.int i :: .ref a :: st) h = (match am_ild scr L h a i with
    | some x => am_f d scr L call 110 n 222 lv (.int x :: st) h
    | none => none) := k_ia rfl
set_option maxRecDepth 100000 in
theorem s_110_222 (d L n : Nat) (scr : Nat → Int32) (call : Nat → List Value → am_H → Option am_X) (lv : am_L) (h : am_H) (o : Nat) (a0 : Int32) (a1 : Int32)  : am_f d scr L call 110 (n + 1) 222 lv (.int a1 :: .int a0 :: .ref o :: []) h = if am_at h o 8 = true then (match call 97 [.ref o, .int a0, .int a1] h with
    | some (v, h', dk, dn) => am_add dk dn (am_f d scr L call 110 n 225 lv (v.toList ++ []) h')
    | none => none) else none := k_iv0 (k := 194) (as := [.int a0, .int a1]) (r := []) rfl rfl rfl rfl (Nat.le_of_ble_eq_true rfl)
set_option maxRecDepth 100000 in
theorem s_110_225 (d L n : Nat) (scr : Nat → Int32) (call : Nat → List Value → am_H → Option am_X) (lv : am_L) (st : List Value) (h : am_H) (x : Int32) : am_f d scr L call 110 (n + 1) 225 lv (.int x :: st) h = if ¬ x = 0 then am_f d scr L call 110 n 239 lv st h else am_f d scr L call 110 n 228 lv st h := k_if_ne (o := 14) rfl ⟨by decide, rfl⟩
set_option maxRecDepth 100000 in
theorem s_110_228 (d L n : Nat) (scr : Nat → Int32) (call : Nat → List Value → am_H → Option am_X) (lv : am_L) (st : List Value) (h : am_H) : am_f d scr L call 110 (n + 1) 228 lv st h = am_f d scr L call 110 n 229 lv (.int (-1) :: st) h := k_nx (i := .iconst (-1)) rfl rfl
set_option maxRecDepth 100000 in
theorem s_110_229 (d L n : Nat) (scr : Nat → Int32) (call : Nat → List Value → am_H → Option am_X) (lv : am_L) (st : List Value) (h : am_H) : am_f d scr L call 110 (n + 1) 229 lv st h = (match am_ld lv 0 with
    | some (.ref x) => am_f d scr L call 110 n 230 lv (.ref x :: st) h
    | _ => none) := k_la (i := .aload_n 0) rfl rfl rfl rfl
set_option maxRecDepth 100000 in
theorem s_110_230 (d L n : Nat) (scr : Nat → Int32) (call : Nat → List Value → am_H → Option am_X) (lv : am_L) (st : List Value) (h : am_H) (a : Nat) : am_f d scr L call 110 (n + 1) 230 lv (.ref a :: st) h = (match am_get h a 8 15 with
    | some v => am_f d scr L call 110 n 233 lv (v :: st) h
    | none => none) := k_gf (k := 41) rfl rfl
set_option maxRecDepth 100000 in
theorem s_110_233 (d L n : Nat) (scr : Nat → Int32) (call : Nat → List Value → am_H → Option am_X) (lv : am_L) (st : List Value) (h : am_H) : am_f d scr L call 110 (n + 1) 233 lv st h = (match am_ld lv 1 with
    | some (.int x) => am_f d scr L call 110 n 234 lv (.int x :: st) h
    | _ => none) := k_li (i := .iload_n 1) rfl rfl rfl rfl
set_option maxRecDepth 100000 in
theorem s_110_234 (d L n : Nat) (scr : Nat → Int32) (call : Nat → List Value → am_H → Option am_X) (lv : am_L) (st : List Value) (h : am_H) (a : Nat) (i : Int32) : am_f d scr L call 110 (n + 1) 234 lv (.int i :: .ref a :: st) h = (match am_ild scr L h a i with
    | some x => am_f d scr L call 110 n 235 lv (.int x :: st) h
    | none => none) := k_ia rfl
set_option maxRecDepth 100000 in
theorem s_110_235 (d L n : Nat) (scr : Nat → Int32) (call : Nat → List Value → am_H → Option am_X) (lv : am_L) (st : List Value) (h : am_H) (x y : Int32) : am_f d scr L call 110 (n + 1) 235 lv (.int y :: .int x :: st) h = am_f d scr L call 110 n 236 lv (.int (x - y) :: st) h := k_nx (i := .isub) rfl rfl
set_option maxRecDepth 100000 in
theorem s_110_236 (d L n : Nat) (scr : Nat → Int32) (call : Nat → List Value → am_H → Option am_X) (lv : am_L) (st : List Value) (h : am_H) : am_f d scr L call 110 (n + 1) 236 lv st h = am_f d scr L call 110 n 259 lv st h := k_nx (i := .goto 23) rfl rfl
set_option maxRecDepth 100000 in
theorem s_110_239 (d L n : Nat) (scr : Nat → Int32) (call : Nat → List Value → am_H → Option am_X) (lv : am_L) (st : List Value) (h : am_H) : am_f d scr L call 110 (n + 1) 239 lv st h = (match am_ld lv 2 with
    | some (.int x) => am_f d scr L call 110 n 240 lv (.int x :: st) h
    | _ => none) := k_li (i := .iload_n 2) rfl rfl rfl rfl
set_option maxRecDepth 100000 in
theorem s_110_240 (d L n : Nat) (scr : Nat → Int32) (call : Nat → List Value → am_H → Option am_X) (lv : am_L) (st : List Value) (h : am_H) : am_f d scr L call 110 (n + 1) 240 lv st h = am_f d scr L call 110 n 241 lv (.int 4 :: st) h := k_nx (i := .iconst 4) rfl rfl
set_option maxRecDepth 100000 in
theorem s_110_241 (d L n : Nat) (scr : Nat → Int32) (call : Nat → List Value → am_H → Option am_X) (lv : am_L) (st : List Value) (h : am_H) (x y : Int32) : am_f d scr L call 110 (n + 1) 241 lv (.int y :: .int x :: st) h = if ¬ x = y then am_f d scr L call 110 n 253 lv st h else am_f d scr L call 110 n 244 lv st h := k_ic_ne (o := 12) rfl ⟨by decide, rfl⟩
set_option maxRecDepth 100000 in
theorem s_110_244 (d L n : Nat) (scr : Nat → Int32) (call : Nat → List Value → am_H → Option am_X) (lv : am_L) (st : List Value) (h : am_H) : am_f d scr L call 110 (n + 1) 244 lv st h = (match am_ld lv 0 with
    | some (.ref x) => am_f d scr L call 110 n 245 lv (.ref x :: st) h
    | _ => none) := k_la (i := .aload_n 0) rfl rfl rfl rfl
set_option maxRecDepth 100000 in
theorem s_110_245 (d L n : Nat) (scr : Nat → Int32) (call : Nat → List Value → am_H → Option am_X) (lv : am_L) (st : List Value) (h : am_H) (a : Nat) : am_f d scr L call 110 (n + 1) 245 lv (.ref a :: st) h = (match am_get h a 8 5 with
    | some v => am_f d scr L call 110 n 248 lv (v :: st) h
    | none => none) := k_gf (k := 20) rfl rfl
set_option maxRecDepth 100000 in
theorem s_110_248 (d L n : Nat) (scr : Nat → Int32) (call : Nat → List Value → am_H → Option am_X) (lv : am_L) (st : List Value) (h : am_H) : am_f d scr L call 110 (n + 1) 248 lv st h = (match am_ld lv 3 with
    | some (.int x) => am_f d scr L call 110 n 249 lv (.int x :: st) h
    | _ => none) := k_li (i := .iload_n 3) rfl rfl rfl rfl
set_option maxRecDepth 100000 in
theorem s_110_249 (d L n : Nat) (scr : Nat → Int32) (call : Nat → List Value → am_H → Option am_X) (lv : am_L) (st : List Value) (h : am_H) (a : Nat) (i : Int32) : am_f d scr L call 110 (n + 1) 249 lv (.int i :: .ref a :: st) h = (match am_ild scr L h a i with
    | some x => am_f d scr L call 110 n 250 lv (.int x :: st) h
    | none => none) := k_ia rfl
set_option maxRecDepth 100000 in
theorem s_110_250 (d L n : Nat) (scr : Nat → Int32) (call : Nat → List Value → am_H → Option am_X) (lv : am_L) (st : List Value) (h : am_H) : am_f d scr L call 110 (n + 1) 250 lv st h = am_f d scr L call 110 n 259 lv st h := k_nx (i := .goto 9) rfl rfl
set_option maxRecDepth 100000 in
theorem s_110_253 (d L n : Nat) (scr : Nat → Int32) (call : Nat → List Value → am_H → Option am_X) (lv : am_L) (st : List Value) (h : am_H) : am_f d scr L call 110 (n + 1) 253 lv st h = (match am_ld lv 0 with
    | some (.ref x) => am_f d scr L call 110 n 254 lv (.ref x :: st) h
    | _ => none) := k_la (i := .aload_n 0) rfl rfl rfl rfl
set_option maxRecDepth 100000 in
theorem s_110_254 (d L n : Nat) (scr : Nat → Int32) (call : Nat → List Value → am_H → Option am_X) (lv : am_L) (st : List Value) (h : am_H) (a : Nat) : am_f d scr L call 110 (n + 1) 254 lv (.ref a :: st) h = (match am_get h a 8 4 with
    | some v => am_f d scr L call 110 n 257 lv (v :: st) h
    | none => none) := k_gf (k := 17) rfl rfl
set_option maxRecDepth 100000 in
theorem s_110_257 (d L n : Nat) (scr : Nat → Int32) (call : Nat → List Value → am_H → Option am_X) (lv : am_L) (st : List Value) (h : am_H) : am_f d scr L call 110 (n + 1) 257 lv st h = (match am_ld lv 3 with
    | some (.int x) => am_f d scr L call 110 n 258 lv (.int x :: st) h
    | _ => none) := k_li (i := .iload_n 3) rfl rfl rfl rfl
set_option maxRecDepth 100000 in
theorem s_110_258 (d L n : Nat) (scr : Nat → Int32) (call : Nat → List Value → am_H → Option am_X) (lv : am_L) (st : List Value) (h : am_H) (a : Nat) (i : Int32) : am_f d scr L call 110 (n + 1) 258 lv (.int i :: .ref a :: st) h = (match am_ild scr L h a i with
    | some x => am_f d scr L call 110 n 259 lv (.int x :: st) h
    | none => none) := k_ia rfl
set_option maxRecDepth 100000 in
theorem s_110_259 (d L n : Nat) (scr : Nat → Int32) (call : Nat → List Value → am_H → Option am_X) (lv : am_L) (h : am_H) (x : Int32) : am_f d scr L call 110 (n + 1) 259 lv [.int x] h = some (some (.int x), h, 0, 0) := k_ir rfl rfl
set_option maxRecDepth 100000 in
theorem s_110_260 (d L n : Nat) (scr : Nat → Int32) (call : Nat → List Value → am_H → Option am_X) (lv : am_L) (st : List Value) (h : am_H) : am_f d scr L call 110 (n + 1) 260 lv st h = (match am_ld lv 2 with
    | some (.int x) => am_f d scr L call 110 n 261 lv (.int x :: st) h
    | _ => none) := k_li (i := .iload_n 2) rfl rfl rfl rfl
set_option maxRecDepth 100000 in
theorem s_110_261 (d L n : Nat) (scr : Nat → Int32) (call : Nat → List Value → am_H → Option am_X) (lv : am_L) (st : List Value) (h : am_H) : am_f d scr L call 110 (n + 1) 261 lv st h = am_f d scr L call 110 n 263 lv (.int 8 :: st) h := k_nx (i := .bipush 8) rfl rfl
set_option maxRecDepth 100000 in
theorem s_110_263 (d L n : Nat) (scr : Nat → Int32) (call : Nat → List Value → am_H → Option am_X) (lv : am_L) (st : List Value) (h : am_H) (x y : Int32) : am_f d scr L call 110 (n + 1) 263 lv (.int y :: .int x :: st) h = if y < x then am_f d scr L call 110 n 319 lv st h else am_f d scr L call 110 n 266 lv st h := k_ic_gt (o := 56) rfl ⟨by decide, rfl⟩
set_option maxRecDepth 100000 in
theorem s_110_266 (d L n : Nat) (scr : Nat → Int32) (call : Nat → List Value → am_H → Option am_X) (lv : am_L) (st : List Value) (h : am_H) : am_f d scr L call 110 (n + 1) 266 lv st h = (match am_ld lv 0 with
    | some (.ref x) => am_f d scr L call 110 n 267 lv (.ref x :: st) h
    | _ => none) := k_la (i := .aload_n 0) rfl rfl rfl rfl
set_option maxRecDepth 100000 in
theorem s_110_267 (d L n : Nat) (scr : Nat → Int32) (call : Nat → List Value → am_H → Option am_X) (lv : am_L) (st : List Value) (h : am_H) : am_f d scr L call 110 (n + 1) 267 lv st h = (match am_ld lv 3 with
    | some (.int x) => am_f d scr L call 110 n 268 lv (.int x :: st) h
    | _ => none) := k_li (i := .iload_n 3) rfl rfl rfl rfl
set_option maxRecDepth 100000 in
theorem s_110_268 (d L n : Nat) (scr : Nat → Int32) (call : Nat → List Value → am_H → Option am_X) (lv : am_L) (st : List Value) (h : am_H) : am_f d scr L call 110 (n + 1) 268 lv st h = am_f d scr L call 110 n 269 lv (.int 0 :: st) h := k_nx (i := .iconst 0) rfl rfl
set_option maxRecDepth 100000 in
theorem s_110_269 (d L n : Nat) (scr : Nat → Int32) (call : Nat → List Value → am_H → Option am_X) (lv : am_L) (h : am_H) (o : Nat) (a0 : Int32) (a1 : Int32)  : am_f d scr L call 110 (n + 1) 269 lv (.int a1 :: .int a0 :: .ref o :: []) h = if am_at h o 8 = true then (match call 97 [.ref o, .int a0, .int a1] h with
    | some (v, h', dk, dn) => am_add dk dn (am_f d scr L call 110 n 272 lv (v.toList ++ []) h')
    | none => none) else none := k_iv0 (k := 194) (as := [.int a0, .int a1]) (r := []) rfl rfl rfl rfl (Nat.le_of_ble_eq_true rfl)
set_option maxRecDepth 100000 in
theorem s_110_272 (d L n : Nat) (scr : Nat → Int32) (call : Nat → List Value → am_H → Option am_X) (lv : am_L) (st : List Value) (h : am_H) (x : Int32) : am_f d scr L call 110 (n + 1) 272 lv (.int x :: st) h = if ¬ x = 0 then am_f d scr L call 110 n 286 lv st h else am_f d scr L call 110 n 275 lv st h := k_if_ne (o := 14) rfl ⟨by decide, rfl⟩
set_option maxRecDepth 100000 in
theorem s_110_275 (d L n : Nat) (scr : Nat → Int32) (call : Nat → List Value → am_H → Option am_X) (lv : am_L) (st : List Value) (h : am_H) : am_f d scr L call 110 (n + 1) 275 lv st h = am_f d scr L call 110 n 276 lv (.int (-1) :: st) h := k_nx (i := .iconst (-1)) rfl rfl
set_option maxRecDepth 100000 in
theorem s_110_276 (d L n : Nat) (scr : Nat → Int32) (call : Nat → List Value → am_H → Option am_X) (lv : am_L) (st : List Value) (h : am_H) : am_f d scr L call 110 (n + 1) 276 lv st h = (match am_ld lv 0 with
    | some (.ref x) => am_f d scr L call 110 n 277 lv (.ref x :: st) h
    | _ => none) := k_la (i := .aload_n 0) rfl rfl rfl rfl
set_option maxRecDepth 100000 in
theorem s_110_277 (d L n : Nat) (scr : Nat → Int32) (call : Nat → List Value → am_H → Option am_X) (lv : am_L) (st : List Value) (h : am_H) (a : Nat) : am_f d scr L call 110 (n + 1) 277 lv (.ref a :: st) h = (match am_get h a 8 14 with
    | some v => am_f d scr L call 110 n 280 lv (v :: st) h
    | none => none) := k_gf (k := 38) rfl rfl
set_option maxRecDepth 100000 in
theorem s_110_280 (d L n : Nat) (scr : Nat → Int32) (call : Nat → List Value → am_H → Option am_X) (lv : am_L) (st : List Value) (h : am_H) : am_f d scr L call 110 (n + 1) 280 lv st h = (match am_ld lv 1 with
    | some (.int x) => am_f d scr L call 110 n 281 lv (.int x :: st) h
    | _ => none) := k_li (i := .iload_n 1) rfl rfl rfl rfl
set_option maxRecDepth 100000 in
theorem s_110_281 (d L n : Nat) (scr : Nat → Int32) (call : Nat → List Value → am_H → Option am_X) (lv : am_L) (st : List Value) (h : am_H) (a : Nat) (i : Int32) : am_f d scr L call 110 (n + 1) 281 lv (.int i :: .ref a :: st) h = (match am_ild scr L h a i with
    | some x => am_f d scr L call 110 n 282 lv (.int x :: st) h
    | none => none) := k_ia rfl
set_option maxRecDepth 100000 in
theorem s_110_282 (d L n : Nat) (scr : Nat → Int32) (call : Nat → List Value → am_H → Option am_X) (lv : am_L) (st : List Value) (h : am_H) (x y : Int32) : am_f d scr L call 110 (n + 1) 282 lv (.int y :: .int x :: st) h = am_f d scr L call 110 n 283 lv (.int (x - y) :: st) h := k_nx (i := .isub) rfl rfl
set_option maxRecDepth 100000 in
theorem s_110_283 (d L n : Nat) (scr : Nat → Int32) (call : Nat → List Value → am_H → Option am_X) (lv : am_L) (st : List Value) (h : am_H) : am_f d scr L call 110 (n + 1) 283 lv st h = am_f d scr L call 110 n 318 lv st h := k_nx (i := .goto 35) rfl rfl
set_option maxRecDepth 100000 in
theorem s_110_286 (d L n : Nat) (scr : Nat → Int32) (call : Nat → List Value → am_H → Option am_X) (lv : am_L) (st : List Value) (h : am_H) : am_f d scr L call 110 (n + 1) 286 lv st h = (match am_ld lv 0 with
    | some (.ref x) => am_f d scr L call 110 n 287 lv (.ref x :: st) h
    | _ => none) := k_la (i := .aload_n 0) rfl rfl rfl rfl
set_option maxRecDepth 100000 in
theorem s_110_287 (d L n : Nat) (scr : Nat → Int32) (call : Nat → List Value → am_H → Option am_X) (lv : am_L) (st : List Value) (h : am_H) : am_f d scr L call 110 (n + 1) 287 lv st h = (match am_ld lv 4 with
    | some (.int x) => am_f d scr L call 110 n 289 lv (.int x :: st) h
    | _ => none) := k_li (i := .iload 4) rfl rfl rfl rfl
set_option maxRecDepth 100000 in
theorem s_110_289 (d L n : Nat) (scr : Nat → Int32) (call : Nat → List Value → am_H → Option am_X) (lv : am_L) (st : List Value) (h : am_H) : am_f d scr L call 110 (n + 1) 289 lv st h = am_f d scr L call 110 n 290 lv (.int 0 :: st) h := k_nx (i := .iconst 0) rfl rfl
set_option maxRecDepth 100000 in
theorem s_110_290 (d L n : Nat) (scr : Nat → Int32) (call : Nat → List Value → am_H → Option am_X) (lv : am_L) (h : am_H) (o : Nat) (a0 : Int32) (a1 : Int32)  : am_f d scr L call 110 (n + 1) 290 lv (.int a1 :: .int a0 :: .ref o :: []) h = if am_at h o 8 = true then (match call 97 [.ref o, .int a0, .int a1] h with
    | some (v, h', dk, dn) => am_add dk dn (am_f d scr L call 110 n 293 lv (v.toList ++ []) h')
    | none => none) else none := k_iv0 (k := 194) (as := [.int a0, .int a1]) (r := []) rfl rfl rfl rfl (Nat.le_of_ble_eq_true rfl)
set_option maxRecDepth 100000 in
theorem s_110_293 (d L n : Nat) (scr : Nat → Int32) (call : Nat → List Value → am_H → Option am_X) (lv : am_L) (st : List Value) (h : am_H) (x : Int32) : am_f d scr L call 110 (n + 1) 293 lv (.int x :: st) h = if ¬ x = 0 then am_f d scr L call 110 n 307 lv st h else am_f d scr L call 110 n 296 lv st h := k_if_ne (o := 14) rfl ⟨by decide, rfl⟩
set_option maxRecDepth 100000 in
theorem s_110_296 (d L n : Nat) (scr : Nat → Int32) (call : Nat → List Value → am_H → Option am_X) (lv : am_L) (st : List Value) (h : am_H) : am_f d scr L call 110 (n + 1) 296 lv st h = am_f d scr L call 110 n 297 lv (.int (-1) :: st) h := k_nx (i := .iconst (-1)) rfl rfl
set_option maxRecDepth 100000 in
theorem s_110_297 (d L n : Nat) (scr : Nat → Int32) (call : Nat → List Value → am_H → Option am_X) (lv : am_L) (st : List Value) (h : am_H) : am_f d scr L call 110 (n + 1) 297 lv st h = (match am_ld lv 0 with
    | some (.ref x) => am_f d scr L call 110 n 298 lv (.ref x :: st) h
    | _ => none) := k_la (i := .aload_n 0) rfl rfl rfl rfl
set_option maxRecDepth 100000 in
theorem s_110_298 (d L n : Nat) (scr : Nat → Int32) (call : Nat → List Value → am_H → Option am_X) (lv : am_L) (st : List Value) (h : am_H) (a : Nat) : am_f d scr L call 110 (n + 1) 298 lv (.ref a :: st) h = (match am_get h a 8 15 with
    | some v => am_f d scr L call 110 n 301 lv (v :: st) h
    | none => none) := k_gf (k := 41) rfl rfl
set_option maxRecDepth 100000 in
theorem s_110_301 (d L n : Nat) (scr : Nat → Int32) (call : Nat → List Value → am_H → Option am_X) (lv : am_L) (st : List Value) (h : am_H) : am_f d scr L call 110 (n + 1) 301 lv st h = (match am_ld lv 1 with
    | some (.int x) => am_f d scr L call 110 n 302 lv (.int x :: st) h
    | _ => none) := k_li (i := .iload_n 1) rfl rfl rfl rfl
set_option maxRecDepth 100000 in
theorem s_110_302 (d L n : Nat) (scr : Nat → Int32) (call : Nat → List Value → am_H → Option am_X) (lv : am_L) (st : List Value) (h : am_H) (a : Nat) (i : Int32) : am_f d scr L call 110 (n + 1) 302 lv (.int i :: .ref a :: st) h = (match am_ild scr L h a i with
    | some x => am_f d scr L call 110 n 303 lv (.int x :: st) h
    | none => none) := k_ia rfl
set_option maxRecDepth 100000 in
theorem s_110_303 (d L n : Nat) (scr : Nat → Int32) (call : Nat → List Value → am_H → Option am_X) (lv : am_L) (st : List Value) (h : am_H) (x y : Int32) : am_f d scr L call 110 (n + 1) 303 lv (.int y :: .int x :: st) h = am_f d scr L call 110 n 304 lv (.int (x - y) :: st) h := k_nx (i := .isub) rfl rfl
set_option maxRecDepth 100000 in
theorem s_110_304 (d L n : Nat) (scr : Nat → Int32) (call : Nat → List Value → am_H → Option am_X) (lv : am_L) (st : List Value) (h : am_H) : am_f d scr L call 110 (n + 1) 304 lv st h = am_f d scr L call 110 n 318 lv st h := k_nx (i := .goto 14) rfl rfl
set_option maxRecDepth 100000 in
theorem s_110_307 (d L n : Nat) (scr : Nat → Int32) (call : Nat → List Value → am_H → Option am_X) (lv : am_L) (st : List Value) (h : am_H) : am_f d scr L call 110 (n + 1) 307 lv st h = (match am_ld lv 2 with
    | some (.int x) => am_f d scr L call 110 n 308 lv (.int x :: st) h
    | _ => none) := k_li (i := .iload_n 2) rfl rfl rfl rfl
set_option maxRecDepth 100000 in
theorem s_110_308 (d L n : Nat) (scr : Nat → Int32) (call : Nat → List Value → am_H → Option am_X) (lv : am_L) (st : List Value) (h : am_H) : am_f d scr L call 110 (n + 1) 308 lv st h = am_f d scr L call 110 n 310 lv (.int 8 :: st) h := k_nx (i := .bipush 8) rfl rfl
set_option maxRecDepth 100000 in
theorem s_110_310 (d L n : Nat) (scr : Nat → Int32) (call : Nat → List Value → am_H → Option am_X) (lv : am_L) (st : List Value) (h : am_H) (x y : Int32) : am_f d scr L call 110 (n + 1) 310 lv (.int y :: .int x :: st) h = if ¬ x = y then am_f d scr L call 110 n 317 lv st h else am_f d scr L call 110 n 313 lv st h := k_ic_ne (o := 7) rfl ⟨by decide, rfl⟩
set_option maxRecDepth 100000 in
theorem s_110_313 (d L n : Nat) (scr : Nat → Int32) (call : Nat → List Value → am_H → Option am_X) (lv : am_L) (st : List Value) (h : am_H) : am_f d scr L call 110 (n + 1) 313 lv st h = am_f d scr L call 110 n 314 lv (.int 1 :: st) h := k_nx (i := .iconst 1) rfl rfl
set_option maxRecDepth 100000 in
theorem s_110_314 (d L n : Nat) (scr : Nat → Int32) (call : Nat → List Value → am_H → Option am_X) (lv : am_L) (st : List Value) (h : am_H) : am_f d scr L call 110 (n + 1) 314 lv st h = am_f d scr L call 110 n 318 lv st h := k_nx (i := .goto 4) rfl rfl
set_option maxRecDepth 100000 in
theorem s_110_317 (d L n : Nat) (scr : Nat → Int32) (call : Nat → List Value → am_H → Option am_X) (lv : am_L) (st : List Value) (h : am_H) : am_f d scr L call 110 (n + 1) 317 lv st h = am_f d scr L call 110 n 318 lv (.int 0 :: st) h := k_nx (i := .iconst 0) rfl rfl
set_option maxRecDepth 100000 in
theorem s_110_318 (d L n : Nat) (scr : Nat → Int32) (call : Nat → List Value → am_H → Option am_X) (lv : am_L) (h : am_H) (x : Int32) : am_f d scr L call 110 (n + 1) 318 lv [.int x] h = some (some (.int x), h, 0, 0) := k_ir rfl rfl
set_option maxRecDepth 100000 in
theorem s_110_319 (d L n : Nat) (scr : Nat → Int32) (call : Nat → List Value → am_H → Option am_X) (lv : am_L) (st : List Value) (h : am_H) : am_f d scr L call 110 (n + 1) 319 lv st h = (match am_ld lv 2 with
    | some (.int x) => am_f d scr L call 110 n 320 lv (.int x :: st) h
    | _ => none) := k_li (i := .iload_n 2) rfl rfl rfl rfl
set_option maxRecDepth 100000 in
theorem s_110_320 (d L n : Nat) (scr : Nat → Int32) (call : Nat → List Value → am_H → Option am_X) (lv : am_L) (st : List Value) (h : am_H) : am_f d scr L call 110 (n + 1) 320 lv st h = am_f d scr L call 110 n 322 lv (.int 9 :: st) h := k_nx (i := .bipush 9) rfl rfl
set_option maxRecDepth 100000 in
theorem s_110_322 (d L n : Nat) (scr : Nat → Int32) (call : Nat → List Value → am_H → Option am_X) (lv : am_L) (st : List Value) (h : am_H) (x y : Int32) : am_f d scr L call 110 (n + 1) 322 lv (.int y :: .int x :: st) h = if ¬ x = y then am_f d scr L call 110 n 379 lv st h else am_f d scr L call 110 n 325 lv st h := k_ic_ne (o := 57) rfl ⟨by decide, rfl⟩
set_option maxRecDepth 100000 in
theorem s_110_325 (d L n : Nat) (scr : Nat → Int32) (call : Nat → List Value → am_H → Option am_X) (lv : am_L) (st : List Value) (h : am_H) : am_f d scr L call 110 (n + 1) 325 lv st h = (match am_ld lv 0 with
    | some (.ref x) => am_f d scr L call 110 n 326 lv (.ref x :: st) h
    | _ => none) := k_la (i := .aload_n 0) rfl rfl rfl rfl
set_option maxRecDepth 100000 in
theorem s_110_326 (d L n : Nat) (scr : Nat → Int32) (call : Nat → List Value → am_H → Option am_X) (lv : am_L) (st : List Value) (h : am_H) : am_f d scr L call 110 (n + 1) 326 lv st h = (match am_ld lv 3 with
    | some (.int x) => am_f d scr L call 110 n 327 lv (.int x :: st) h
    | _ => none) := k_li (i := .iload_n 3) rfl rfl rfl rfl
set_option maxRecDepth 100000 in
theorem s_110_327 (d L n : Nat) (scr : Nat → Int32) (call : Nat → List Value → am_H → Option am_X) (lv : am_L) (st : List Value) (h : am_H) : am_f d scr L call 110 (n + 1) 327 lv st h = am_f d scr L call 110 n 328 lv (.int 1 :: st) h := k_nx (i := .iconst 1) rfl rfl
set_option maxRecDepth 100000 in
theorem s_110_328 (d L n : Nat) (scr : Nat → Int32) (call : Nat → List Value → am_H → Option am_X) (lv : am_L) (h : am_H) (o : Nat) (a0 : Int32) (a1 : Int32)  : am_f d scr L call 110 (n + 1) 328 lv (.int a1 :: .int a0 :: .ref o :: []) h = if am_at h o 8 = true then (match call 97 [.ref o, .int a0, .int a1] h with
    | some (v, h', dk, dn) => am_add dk dn (am_f d scr L call 110 n 331 lv (v.toList ++ []) h')
    | none => none) else none := k_iv0 (k := 194) (as := [.int a0, .int a1]) (r := []) rfl rfl rfl rfl (Nat.le_of_ble_eq_true rfl)
set_option maxRecDepth 100000 in
theorem s_110_331 (d L n : Nat) (scr : Nat → Int32) (call : Nat → List Value → am_H → Option am_X) (lv : am_L) (st : List Value) (h : am_H) (x : Int32) : am_f d scr L call 110 (n + 1) 331 lv (.int x :: st) h = if ¬ x = 0 then am_f d scr L call 110 n 345 lv st h else am_f d scr L call 110 n 334 lv st h := k_if_ne (o := 14) rfl ⟨by decide, rfl⟩
set_option maxRecDepth 100000 in
theorem s_110_334 (d L n : Nat) (scr : Nat → Int32) (call : Nat → List Value → am_H → Option am_X) (lv : am_L) (st : List Value) (h : am_H) : am_f d scr L call 110 (n + 1) 334 lv st h = am_f d scr L call 110 n 335 lv (.int (-1) :: st) h := k_nx (i := .iconst (-1)) rfl rfl
set_option maxRecDepth 100000 in
theorem s_110_335 (d L n : Nat) (scr : Nat → Int32) (call : Nat → List Value → am_H → Option am_X) (lv : am_L) (st : List Value) (h : am_H) : am_f d scr L call 110 (n + 1) 335 lv st h = (match am_ld lv 0 with
    | some (.ref x) => am_f d scr L call 110 n 336 lv (.ref x :: st) h
    | _ => none) := k_la (i := .aload_n 0) rfl rfl rfl rfl
set_option maxRecDepth 100000 in
theorem s_110_336 (d L n : Nat) (scr : Nat → Int32) (call : Nat → List Value → am_H → Option am_X) (lv : am_L) (st : List Value) (h : am_H) (a : Nat) : am_f d scr L call 110 (n + 1) 336 lv (.ref a :: st) h = (match am_get h a 8 14 with
    | some v => am_f d scr L call 110 n 339 lv (v :: st) h
    | none => none) := k_gf (k := 38) rfl rfl
set_option maxRecDepth 100000 in
theorem s_110_339 (d L n : Nat) (scr : Nat → Int32) (call : Nat → List Value → am_H → Option am_X) (lv : am_L) (st : List Value) (h : am_H) : am_f d scr L call 110 (n + 1) 339 lv st h = (match am_ld lv 1 with
    | some (.int x) => am_f d scr L call 110 n 340 lv (.int x :: st) h
    | _ => none) := k_li (i := .iload_n 1) rfl rfl rfl rfl
set_option maxRecDepth 100000 in
theorem s_110_340 (d L n : Nat) (scr : Nat → Int32) (call : Nat → List Value → am_H → Option am_X) (lv : am_L) (st : List Value) (h : am_H) (a : Nat) (i : Int32) : am_f d scr L call 110 (n + 1) 340 lv (.int i :: .ref a :: st) h = (match am_ild scr L h a i with
    | some x => am_f d scr L call 110 n 341 lv (.int x :: st) h
    | none => none) := k_ia rfl
set_option maxRecDepth 100000 in
theorem s_110_341 (d L n : Nat) (scr : Nat → Int32) (call : Nat → List Value → am_H → Option am_X) (lv : am_L) (st : List Value) (h : am_H) (x y : Int32) : am_f d scr L call 110 (n + 1) 341 lv (.int y :: .int x :: st) h = am_f d scr L call 110 n 342 lv (.int (x - y) :: st) h := k_nx (i := .isub) rfl rfl
set_option maxRecDepth 100000 in
theorem s_110_342 (d L n : Nat) (scr : Nat → Int32) (call : Nat → List Value → am_H → Option am_X) (lv : am_L) (st : List Value) (h : am_H) : am_f d scr L call 110 (n + 1) 342 lv st h = am_f d scr L call 110 n 378 lv st h := k_nx (i := .goto 36) rfl rfl
set_option maxRecDepth 100000 in
theorem s_110_345 (d L n : Nat) (scr : Nat → Int32) (call : Nat → List Value → am_H → Option am_X) (lv : am_L) (st : List Value) (h : am_H) : am_f d scr L call 110 (n + 1) 345 lv st h = (match am_ld lv 0 with
    | some (.ref x) => am_f d scr L call 110 n 346 lv (.ref x :: st) h
    | _ => none) := k_la (i := .aload_n 0) rfl rfl rfl rfl
set_option maxRecDepth 100000 in
theorem s_110_346 (d L n : Nat) (scr : Nat → Int32) (call : Nat → List Value → am_H → Option am_X) (lv : am_L) (st : List Value) (h : am_H) : am_f d scr L call 110 (n + 1) 346 lv st h = (match am_ld lv 0 with
    | some (.ref x) => am_f d scr L call 110 n 347 lv (.ref x :: st) h
    | _ => none) := k_la (i := .aload_n 0) rfl rfl rfl rfl
set_option maxRecDepth 100000 in
theorem s_110_347 (d L n : Nat) (scr : Nat → Int32) (call : Nat → List Value → am_H → Option am_X) (lv : am_L) (st : List Value) (h : am_H) (a : Nat) : am_f d scr L call 110 (n + 1) 347 lv (.ref a :: st) h = (match am_get h a 8 61 with
    | some v => am_f d scr L call 110 n 350 lv (v :: st) h
    | none => none) := k_gf (k := 117) rfl rfl
set_option maxRecDepth 100000 in
theorem s_110_350 (d L n : Nat) (scr : Nat → Int32) (call : Nat → List Value → am_H → Option am_X) (lv : am_L) (st : List Value) (h : am_H) : am_f d scr L call 110 (n + 1) 350 lv st h = (match am_ld lv 0 with
    | some (.ref x) => am_f d scr L call 110 n 351 lv (.ref x :: st) h
    | _ => none) := k_la (i := .aload_n 0) rfl rfl rfl rfl
set_option maxRecDepth 100000 in
theorem s_110_351 (d L n : Nat) (scr : Nat → Int32) (call : Nat → List Value → am_H → Option am_X) (lv : am_L) (st : List Value) (h : am_H) (a : Nat) : am_f d scr L call 110 (n + 1) 351 lv (.ref a :: st) h = (match am_get h a 8 16 with
    | some v => am_f d scr L call 110 n 354 lv (v :: st) h
    | none => none) := k_gf (k := 44) rfl rfl
set_option maxRecDepth 100000 in
theorem s_110_354 (d L n : Nat) (scr : Nat → Int32) (call : Nat → List Value → am_H → Option am_X) (lv : am_L) (st : List Value) (h : am_H) : am_f d scr L call 110 (n + 1) 354 lv st h = (match am_ld lv 1 with
    | some (.int x) => am_f d scr L call 110 n 355 lv (.int x :: st) h
    | _ => none) := k_li (i := .iload_n 1) rfl rfl rfl rfl
set_option maxRecDepth 100000 in
theorem s_110_355 (d L n : Nat) (scr : Nat → Int32) (call : Nat → List Value → am_H → Option am_X) (lv : am_L) (st : List Value) (h : am_H) (a : Nat) (i : Int32) : am_f d scr L call 110 (n + 1) 355 lv (.int i :: .ref a :: st) h = (match am_ild scr L h a i with
    | some x => am_f d scr L call 110 n 356 lv (.int x :: st) h
    | none => none) := k_ia rfl
set_option maxRecDepth 100000 in
theorem s_110_356 (d L n : Nat) (scr : Nat → Int32) (call : Nat → List Value → am_H → Option am_X) (lv : am_L) (st : List Value) (h : am_H) (a : Nat) (i : Int32) : am_f d scr L call 110 (n + 1) 356 lv (.int i :: .ref a :: st) h = (match am_ild scr L h a i with
    | some x => am_f d scr L call 110 n 357 lv (.int x :: st) h
    | none => none) := k_ia rfl
set_option maxRecDepth 100000 in
theorem s_110_357 (d L n : Nat) (scr : Nat → Int32) (call : Nat → List Value → am_H → Option am_X) (lv : am_L) (st : List Value) (h : am_H) : am_f d scr L call 110 (n + 1) 357 lv st h = (match am_ld lv 4 with
    | some (.int x) => am_f d scr L call 110 n 359 lv (.int x :: st) h
    | _ => none) := k_li (i := .iload 4) rfl rfl rfl rfl
set_option maxRecDepth 100000 in
theorem s_110_359 (d L n : Nat) (scr : Nat → Int32) (call : Nat → List Value → am_H → Option am_X) (lv : am_L) (h : am_H) (o : Nat) (a0 : Int32) (a1 : Int32)  : am_f d scr L call 110 (n + 1) 359 lv (.int a1 :: .int a0 :: .ref o :: []) h = if am_at h o 8 = true then (match call 97 [.ref o, .int a0, .int a1] h with
    | some (v, h', dk, dn) => am_add dk dn (am_f d scr L call 110 n 362 lv (v.toList ++ []) h')
    | none => none) else none := k_iv0 (k := 194) (as := [.int a0, .int a1]) (r := []) rfl rfl rfl rfl (Nat.le_of_ble_eq_true rfl)
set_option maxRecDepth 100000 in
theorem s_110_362 (d L n : Nat) (scr : Nat → Int32) (call : Nat → List Value → am_H → Option am_X) (lv : am_L) (st : List Value) (h : am_H) (x : Int32) : am_f d scr L call 110 (n + 1) 362 lv (.int x :: st) h = if ¬ x = 0 then am_f d scr L call 110 n 376 lv st h else am_f d scr L call 110 n 365 lv st h := k_if_ne (o := 14) rfl ⟨by decide, rfl⟩
set_option maxRecDepth 100000 in
theorem s_110_365 (d L n : Nat) (scr : Nat → Int32) (call : Nat → List Value → am_H → Option am_X) (lv : am_L) (st : List Value) (h : am_H) : am_f d scr L call 110 (n + 1) 365 lv st h = am_f d scr L call 110 n 366 lv (.int (-1) :: st) h := k_nx (i := .iconst (-1)) rfl rfl
set_option maxRecDepth 100000 in
theorem s_110_366 (d L n : Nat) (scr : Nat → Int32) (call : Nat → List Value → am_H → Option am_X) (lv : am_L) (st : List Value) (h : am_H) : am_f d scr L call 110 (n + 1) 366 lv st h = (match am_ld lv 0 with
    | some (.ref x) => am_f d scr L call 110 n 367 lv (.ref x :: st) h
    | _ => none) := k_la (i := .aload_n 0) rfl rfl rfl rfl
set_option maxRecDepth 100000 in
theorem s_110_367 (d L n : Nat) (scr : Nat → Int32) (call : Nat → List Value → am_H → Option am_X) (lv : am_L) (st : List Value) (h : am_H) (a : Nat) : am_f d scr L call 110 (n + 1) 367 lv (.ref a :: st) h = (match am_get h a 8 16 with
    | some v => am_f d scr L call 110 n 370 lv (v :: st) h
    | none => none) := k_gf (k := 44) rfl rfl
set_option maxRecDepth 100000 in
theorem s_110_370 (d L n : Nat) (scr : Nat → Int32) (call : Nat → List Value → am_H → Option am_X) (lv : am_L) (st : List Value) (h : am_H) : am_f d scr L call 110 (n + 1) 370 lv st h = (match am_ld lv 1 with
    | some (.int x) => am_f d scr L call 110 n 371 lv (.int x :: st) h
    | _ => none) := k_li (i := .iload_n 1) rfl rfl rfl rfl
set_option maxRecDepth 100000 in
theorem s_110_371 (d L n : Nat) (scr : Nat → Int32) (call : Nat → List Value → am_H → Option am_X) (lv : am_L) (st : List Value) (h : am_H) (a : Nat) (i : Int32) : am_f d scr L call 110 (n + 1) 371 lv (.int i :: .ref a :: st) h = (match am_ild scr L h a i with
    | some x => am_f d scr L call 110 n 372 lv (.int x :: st) h
    | none => none) := k_ia rfl
set_option maxRecDepth 100000 in
theorem s_110_372 (d L n : Nat) (scr : Nat → Int32) (call : Nat → List Value → am_H → Option am_X) (lv : am_L) (st : List Value) (h : am_H) (x y : Int32) : am_f d scr L call 110 (n + 1) 372 lv (.int y :: .int x :: st) h = am_f d scr L call 110 n 373 lv (.int (x - y) :: st) h := k_nx (i := .isub) rfl rfl
set_option maxRecDepth 100000 in
theorem s_110_373 (d L n : Nat) (scr : Nat → Int32) (call : Nat → List Value → am_H → Option am_X) (lv : am_L) (st : List Value) (h : am_H) : am_f d scr L call 110 (n + 1) 373 lv st h = am_f d scr L call 110 n 378 lv st h := k_nx (i := .goto 5) rfl rfl
set_option maxRecDepth 100000 in
theorem s_110_376 (d L n : Nat) (scr : Nat → Int32) (call : Nat → List Value → am_H → Option am_X) (lv : am_L) (st : List Value) (h : am_H) : am_f d scr L call 110 (n + 1) 376 lv st h = (match am_ld lv 4 with
    | some (.int x) => am_f d scr L call 110 n 378 lv (.int x :: st) h
    | _ => none) := k_li (i := .iload 4) rfl rfl rfl rfl
set_option maxRecDepth 100000 in
theorem s_110_378 (d L n : Nat) (scr : Nat → Int32) (call : Nat → List Value → am_H → Option am_X) (lv : am_L) (h : am_H) (x : Int32) : am_f d scr L call 110 (n + 1) 378 lv [.int x] h = some (some (.int x), h, 0, 0) := k_ir rfl rfl
set_option maxRecDepth 100000 in
theorem s_110_379 (d L n : Nat) (scr : Nat → Int32) (call : Nat → List Value → am_H → Option am_X) (lv : am_L) (st : List Value) (h : am_H) : am_f d scr L call 110 (n + 1) 379 lv st h = (match am_ld lv 2 with
    | some (.int x) => am_f d scr L call 110 n 380 lv (.int x :: st) h
    | _ => none) := k_li (i := .iload_n 2) rfl rfl rfl rfl
set_option maxRecDepth 100000 in
theorem s_110_380 (d L n : Nat) (scr : Nat → Int32) (call : Nat → List Value → am_H → Option am_X) (lv : am_L) (st : List Value) (h : am_H) : am_f d scr L call 110 (n + 1) 380 lv st h = am_f d scr L call 110 n 382 lv (.int 10 :: st) h := k_nx (i := .bipush 10) rfl rfl
set_option maxRecDepth 100000 in
theorem s_110_382 (d L n : Nat) (scr : Nat → Int32) (call : Nat → List Value → am_H → Option am_X) (lv : am_L) (st : List Value) (h : am_H) (x y : Int32) : am_f d scr L call 110 (n + 1) 382 lv (.int y :: .int x :: st) h = if ¬ x = y then am_f d scr L call 110 n 393 lv st h else am_f d scr L call 110 n 385 lv st h := k_ic_ne (o := 11) rfl ⟨by decide, rfl⟩
set_option maxRecDepth 100000 in
theorem s_110_385 (d L n : Nat) (scr : Nat → Int32) (call : Nat → List Value → am_H → Option am_X) (lv : am_L) (st : List Value) (h : am_H) : am_f d scr L call 110 (n + 1) 385 lv st h = (match am_ld lv 0 with
    | some (.ref x) => am_f d scr L call 110 n 386 lv (.ref x :: st) h
    | _ => none) := k_la (i := .aload_n 0) rfl rfl rfl rfl
set_option maxRecDepth 100000 in
theorem s_110_386 (d L n : Nat) (scr : Nat → Int32) (call : Nat → List Value → am_H → Option am_X) (lv : am_L) (st : List Value) (h : am_H) : am_f d scr L call 110 (n + 1) 386 lv st h = am_f d scr L call 110 n 387 lv (.int 4 :: st) h := k_nx (i := .iconst 4) rfl rfl
set_option maxRecDepth 100000 in
theorem s_110_387 (d L n : Nat) (scr : Nat → Int32) (call : Nat → List Value → am_H → Option am_X) (lv : am_L) (st : List Value) (h : am_H) : am_f d scr L call 110 (n + 1) 387 lv st h = (match am_ld lv 3 with
    | some (.int x) => am_f d scr L call 110 n 388 lv (.int x :: st) h
    | _ => none) := k_li (i := .iload_n 3) rfl rfl rfl rfl
set_option maxRecDepth 100000 in
theorem s_110_388 (d L n : Nat) (scr : Nat → Int32) (call : Nat → List Value → am_H → Option am_X) (lv : am_L) (st : List Value) (h : am_H) : am_f d scr L call 110 (n + 1) 388 lv st h = am_f d scr L call 110 n 389 lv (.int 0 :: st) h := k_nx (i := .iconst 0) rfl rfl
set_option maxRecDepth 100000 in
theorem s_110_389 (d L n : Nat) (scr : Nat → Int32) (call : Nat → List Value → am_H → Option am_X) (lv : am_L) (h : am_H) (o : Nat) (a0 : Int32) (a1 : Int32) (a2 : Int32)  : am_f d scr L call 110 (n + 1) 389 lv (.int a2 :: .int a1 :: .int a0 :: .ref o :: []) h = if am_at h o 8 = true then (match call 95 [.ref o, .int a0, .int a1, .int a2] h with
    | some (v, h', dk, dn) => am_add dk dn (am_f d scr L call 110 n 392 lv (v.toList ++ []) h')
    | none => none) else none := k_iv0 (k := 149) (as := [.int a0, .int a1, .int a2]) (r := []) rfl rfl rfl rfl (Nat.le_of_ble_eq_true rfl)
set_option maxRecDepth 100000 in
theorem s_110_392 (d L n : Nat) (scr : Nat → Int32) (call : Nat → List Value → am_H → Option am_X) (lv : am_L) (h : am_H) (x : Int32) : am_f d scr L call 110 (n + 1) 392 lv [.int x] h = some (some (.int x), h, 0, 0) := k_ir rfl rfl
set_option maxRecDepth 100000 in
theorem s_110_393 (d L n : Nat) (scr : Nat → Int32) (call : Nat → List Value → am_H → Option am_X) (lv : am_L) (st : List Value) (h : am_H) : am_f d scr L call 110 (n + 1) 393 lv st h = (match am_ld lv 2 with
    | some (.int x) => am_f d scr L call 110 n 394 lv (.int x :: st) h
    | _ => none) := k_li (i := .iload_n 2) rfl rfl rfl rfl
set_option maxRecDepth 100000 in
theorem s_110_394 (d L n : Nat) (scr : Nat → Int32) (call : Nat → List Value → am_H → Option am_X) (lv : am_L) (st : List Value) (h : am_H) : am_f d scr L call 110 (n + 1) 394 lv st h = am_f d scr L call 110 n 396 lv (.int 11 :: st) h := k_nx (i := .bipush 11) rfl rfl
set_option maxRecDepth 100000 in
theorem s_110_396 (d L n : Nat) (scr : Nat → Int32) (call : Nat → List Value → am_H → Option am_X) (lv : am_L) (st : List Value) (h : am_H) (x y : Int32) : am_f d scr L call 110 (n + 1) 396 lv (.int y :: .int x :: st) h = if ¬ x = y then am_f d scr L call 110 n 436 lv st h else am_f d scr L call 110 n 399 lv st h := k_ic_ne (o := 40) rfl ⟨by decide, rfl⟩
set_option maxRecDepth 100000 in
theorem s_110_399 (d L n : Nat) (scr : Nat → Int32) (call : Nat → List Value → am_H → Option am_X) (lv : am_L) (st : List Value) (h : am_H) : am_f d scr L call 110 (n + 1) 399 lv st h = (match am_ld lv 0 with
    | some (.ref x) => am_f d scr L call 110 n 400 lv (.ref x :: st) h
    | _ => none) := k_la (i := .aload_n 0) rfl rfl rfl rfl
set_option maxRecDepth 100000 in
theorem s_110_400 (d L n : Nat) (scr : Nat → Int32) (call : Nat → List Value → am_H → Option am_X) (lv : am_L) (st : List Value) (h : am_H) (a : Nat) : am_f d scr L call 110 (n + 1) 400 lv (.ref a :: st) h = (match am_get h a 8 3 with
    | some v => am_f d scr L call 110 n 403 lv (v :: st) h
    | none => none) := k_gf (k := 13) rfl rfl
set_option maxRecDepth 100000 in
theorem s_110_403 (d L n : Nat) (scr : Nat → Int32) (call : Nat → List Value → am_H → Option am_X) (lv : am_L) (st : List Value) (h : am_H) : am_f d scr L call 110 (n + 1) 403 lv st h = (match am_ld lv 3 with
    | some (.int x) => am_f d scr L call 110 n 404 lv (.int x :: st) h
    | _ => none) := k_li (i := .iload_n 3) rfl rfl rfl rfl
set_option maxRecDepth 100000 in
theorem s_110_404 (d L n : Nat) (scr : Nat → Int32) (call : Nat → List Value → am_H → Option am_X) (lv : am_L) (st : List Value) (h : am_H) (a : Nat) (i : Int32) : am_f d scr L call 110 (n + 1) 404 lv (.int i :: .ref a :: st) h = (match am_ild scr L h a i with
    | some x => am_f d scr L call 110 n 405 lv (.int x :: st) h
    | none => none) := k_ia rfl
set_option maxRecDepth 100000 in
theorem s_110_405 (d L n : Nat) (scr : Nat → Int32) (call : Nat → List Value → am_H → Option am_X) (lv : am_L) (st : List Value) (h : am_H) : am_f d scr L call 110 (n + 1) 405 lv st h = am_f d scr L call 110 n 406 lv (.int 4 :: st) h := k_nx (i := .iconst 4) rfl rfl
set_option maxRecDepth 100000 in
theorem s_110_406 (d L n : Nat) (scr : Nat → Int32) (call : Nat → List Value → am_H → Option am_X) (lv : am_L) (st : List Value) (h : am_H) (x y : Int32) : am_f d scr L call 110 (n + 1) 406 lv (.int y :: .int x :: st) h = if ¬ x = y then am_f d scr L call 110 n 418 lv st h else am_f d scr L call 110 n 409 lv st h := k_ic_ne (o := 12) rfl ⟨by decide, rfl⟩
set_option maxRecDepth 100000 in
theorem s_110_409 (d L n : Nat) (scr : Nat → Int32) (call : Nat → List Value → am_H → Option am_X) (lv : am_L) (st : List Value) (h : am_H) : am_f d scr L call 110 (n + 1) 409 lv st h = (match am_ld lv 0 with
    | some (.ref x) => am_f d scr L call 110 n 410 lv (.ref x :: st) h
    | _ => none) := k_la (i := .aload_n 0) rfl rfl rfl rfl
set_option maxRecDepth 100000 in
theorem s_110_410 (d L n : Nat) (scr : Nat → Int32) (call : Nat → List Value → am_H → Option am_X) (lv : am_L) (st : List Value) (h : am_H) (a : Nat) : am_f d scr L call 110 (n + 1) 410 lv (.ref a :: st) h = (match am_get h a 8 4 with
    | some v => am_f d scr L call 110 n 413 lv (v :: st) h
    | none => none) := k_gf (k := 17) rfl rfl
set_option maxRecDepth 100000 in
theorem s_110_413 (d L n : Nat) (scr : Nat → Int32) (call : Nat → List Value → am_H → Option am_X) (lv : am_L) (st : List Value) (h : am_H) : am_f d scr L call 110 (n + 1) 413 lv st h = (match am_ld lv 3 with
    | some (.int x) => am_f d scr L call 110 n 414 lv (.int x :: st) h
    | _ => none) := k_li (i := .iload_n 3) rfl rfl rfl rfl
set_option maxRecDepth 100000 in
theorem s_110_414 (d L n : Nat) (scr : Nat → Int32) (call : Nat → List Value → am_H → Option am_X) (lv : am_L) (st : List Value) (h : am_H) (a : Nat) (i : Int32) : am_f d scr L call 110 (n + 1) 414 lv (.int i :: .ref a :: st) h = (match am_ild scr L h a i with
    | some x => am_f d scr L call 110 n 415 lv (.int x :: st) h
    | none => none) := k_ia rfl
set_option maxRecDepth 100000 in
theorem s_110_415 (d L n : Nat) (scr : Nat → Int32) (call : Nat → List Value → am_H → Option am_X) (lv : am_L) (st : List Value) (h : am_H) : am_f d scr L call 110 (n + 1) 415 lv st h = am_f d scr L call 110 n 435 lv st h := k_nx (i := .goto 20) rfl rfl
set_option maxRecDepth 100000 in
theorem s_110_418 (d L n : Nat) (scr : Nat → Int32) (call : Nat → List Value → am_H → Option am_X) (lv : am_L) (st : List Value) (h : am_H) : am_f d scr L call 110 (n + 1) 418 lv st h = (match am_ld lv 3 with
    | some (.int x) => am_f d scr L call 110 n 419 lv (.int x :: st) h
    | _ => none) := k_li (i := .iload_n 3) rfl rfl rfl rfl
set_option maxRecDepth 100000 in
theorem s_110_419 (d L n : Nat) (scr : Nat → Int32) (call : Nat → List Value → am_H → Option am_X) (lv : am_L) (st : List Value) (h : am_H) : am_f d scr L call 110 (n + 1) 419 lv st h = am_f d scr L call 110 n 420 lv (.int 2 :: st) h := k_nx (i := .iconst 2) rfl rfl
set_option maxRecDepth 100000 in
theorem s_110_420 (d L n : Nat) (scr : Nat → Int32) (call : Nat → List Value → am_H → Option am_X) (lv : am_L) (st : List Value) (h : am_H) (x y : Int32) : am_f d scr L call 110 (n + 1) 420 lv (.int y :: .int x :: st) h = if ¬ x = y then am_f d scr L call 110 n 427 lv st h else am_f d scr L call 110 n 423 lv st h := k_ic_ne (o := 7) rfl ⟨by decide, rfl⟩
set_option maxRecDepth 100000 in
theorem s_110_423 (d L n : Nat) (scr : Nat → Int32) (call : Nat → List Value → am_H → Option am_X) (lv : am_L) (st : List Value) (h : am_H) : am_f d scr L call 110 (n + 1) 423 lv st h = am_f d scr L call 110 n 424 lv (.int 2 :: st) h := k_nx (i := .iconst 2) rfl rfl
set_option maxRecDepth 100000 in
theorem s_110_424 (d L n : Nat) (scr : Nat → Int32) (call : Nat → List Value → am_H → Option am_X) (lv : am_L) (st : List Value) (h : am_H) : am_f d scr L call 110 (n + 1) 424 lv st h = am_f d scr L call 110 n 435 lv st h := k_nx (i := .goto 11) rfl rfl
set_option maxRecDepth 100000 in
theorem s_110_427 (d L n : Nat) (scr : Nat → Int32) (call : Nat → List Value → am_H → Option am_X) (lv : am_L) (st : List Value) (h : am_H) : am_f d scr L call 110 (n + 1) 427 lv st h = am_f d scr L call 110 n 428 lv (.int (-1) :: st) h := k_nx (i := .iconst (-1)) rfl rfl
set_option maxRecDepth 100000 in
theorem s_110_428 (d L n : Nat) (scr : Nat → Int32) (call : Nat → List Value → am_H → Option am_X) (lv : am_L) (st : List Value) (h : am_H) : am_f d scr L call 110 (n + 1) 428 lv st h = (match am_ld lv 0 with
    | some (.ref x) => am_f d scr L call 110 n 429 lv (.ref x :: st) h
    | _ => none) := k_la (i := .aload_n 0) rfl rfl rfl rfl
set_option maxRecDepth 100000 in
theorem s_110_429 (d L n : Nat) (scr : Nat → Int32) (call : Nat → List Value → am_H → Option am_X) (lv : am_L) (st : List Value) (h : am_H) (a : Nat) : am_f d scr L call 110 (n + 1) 429 lv (.ref a :: st) h = (match am_get h a 8 14 with
    | some v => am_f d scr L call 110 n 432 lv (v :: st) h
    | none => none) := k_gf (k := 38) rfl rfl
set_option maxRecDepth 100000 in
theorem s_110_432 (d L n : Nat) (scr : Nat → Int32) (call : Nat → List Value → am_H → Option am_X) (lv : am_L) (st : List Value) (h : am_H) : am_f d scr L call 110 (n + 1) 432 lv st h = (match am_ld lv 1 with
    | some (.int x) => am_f d scr L call 110 n 433 lv (.int x :: st) h
    | _ => none) := k_li (i := .iload_n 1) rfl rfl rfl rfl
set_option maxRecDepth 100000 in
theorem s_110_433 (d L n : Nat) (scr : Nat → Int32) (call : Nat → List Value → am_H → Option am_X) (lv : am_L) (st : List Value) (h : am_H) (a : Nat) (i : Int32) : am_f d scr L call 110 (n + 1) 433 lv (.int i :: .ref a :: st) h = (match am_ild scr L h a i with
    | some x => am_f d scr L call 110 n 434 lv (.int x :: st) h
    | none => none) := k_ia rfl
set_option maxRecDepth 100000 in
theorem s_110_434 (d L n : Nat) (scr : Nat → Int32) (call : Nat → List Value → am_H → Option am_X) (lv : am_L) (st : List Value) (h : am_H) (x y : Int32) : am_f d scr L call 110 (n + 1) 434 lv (.int y :: .int x :: st) h = am_f d scr L call 110 n 435 lv (.int (x - y) :: st) h := k_nx (i := .isub) rfl rfl
set_option maxRecDepth 100000 in
theorem s_110_435 (d L n : Nat) (scr : Nat → Int32) (call : Nat → List Value → am_H → Option am_X) (lv : am_L) (h : am_H) (x : Int32) : am_f d scr L call 110 (n + 1) 435 lv [.int x] h = some (some (.int x), h, 0, 0) := k_ir rfl rfl
set_option maxRecDepth 100000 in
theorem s_110_436 (d L n : Nat) (scr : Nat → Int32) (call : Nat → List Value → am_H → Option am_X) (lv : am_L) (st : List Value) (h : am_H) : am_f d scr L call 110 (n + 1) 436 lv st h = (match am_ld lv 2 with
    | some (.int x) => am_f d scr L call 110 n 437 lv (.int x :: st) h
    | _ => none) := k_li (i := .iload_n 2) rfl rfl rfl rfl
set_option maxRecDepth 100000 in
theorem s_110_437 (d L n : Nat) (scr : Nat → Int32) (call : Nat → List Value → am_H → Option am_X) (lv : am_L) (st : List Value) (h : am_H) : am_f d scr L call 110 (n + 1) 437 lv st h = am_f d scr L call 110 n 439 lv (.int 12 :: st) h := k_nx (i := .bipush 12) rfl rfl
set_option maxRecDepth 100000 in
theorem s_110_439 (d L n : Nat) (scr : Nat → Int32) (call : Nat → List Value → am_H → Option am_X) (lv : am_L) (st : List Value) (h : am_H) (x y : Int32) : am_f d scr L call 110 (n + 1) 439 lv (.int y :: .int x :: st) h = if ¬ x = y then am_f d scr L call 110 n 451 lv st h else am_f d scr L call 110 n 442 lv st h := k_ic_ne (o := 12) rfl ⟨by decide, rfl⟩
set_option maxRecDepth 100000 in
theorem s_110_442 (d L n : Nat) (scr : Nat → Int32) (call : Nat → List Value → am_H → Option am_X) (lv : am_L) (st : List Value) (h : am_H) : am_f d scr L call 110 (n + 1) 442 lv st h = (match am_ld lv 0 with
    | some (.ref x) => am_f d scr L call 110 n 443 lv (.ref x :: st) h
    | _ => none) := k_la (i := .aload_n 0) rfl rfl rfl rfl
set_option maxRecDepth 100000 in
theorem s_110_443 (d L n : Nat) (scr : Nat → Int32) (call : Nat → List Value → am_H → Option am_X) (lv : am_L) (st : List Value) (h : am_H) (a : Nat) : am_f d scr L call 110 (n + 1) 443 lv (.ref a :: st) h = (match am_get h a 8 12 with
    | some v => am_f d scr L call 110 n 446 lv (v :: st) h
    | none => none) := k_gf (k := 32) rfl rfl
set_option maxRecDepth 100000 in
theorem s_110_446 (d L n : Nat) (scr : Nat → Int32) (call : Nat → List Value → am_H → Option am_X) (lv : am_L) (st : List Value) (h : am_H) : am_f d scr L call 110 (n + 1) 446 lv st h = (match am_ld lv 1 with
    | some (.int x) => am_f d scr L call 110 n 447 lv (.int x :: st) h
    | _ => none) := k_li (i := .iload_n 1) rfl rfl rfl rfl
set_option maxRecDepth 100000 in
theorem s_110_447 (d L n : Nat) (scr : Nat → Int32) (call : Nat → List Value → am_H → Option am_X) (lv : am_L) (st : List Value) (h : am_H) (a : Nat) (i : Int32) : am_f d scr L call 110 (n + 1) 447 lv (.int i :: .ref a :: st) h = (match am_ild scr L h a i with
    | some x => am_f d scr L call 110 n 448 lv (.int x :: st) h
    | none => none) := k_ia rfl
set_option maxRecDepth 100000 in
theorem s_110_448 (d L n : Nat) (scr : Nat → Int32) (call : Nat → List Value → am_H → Option am_X) (lv : am_L) (st : List Value) (h : am_H) : am_f d scr L call 110 (n + 1) 448 lv st h = am_f d scr L call 110 n 452 lv st h := k_nx (i := .goto 4) rfl rfl
set_option maxRecDepth 100000 in
theorem s_110_451 (d L n : Nat) (scr : Nat → Int32) (call : Nat → List Value → am_H → Option am_X) (lv : am_L) (st : List Value) (h : am_H) : am_f d scr L call 110 (n + 1) 451 lv st h = am_f d scr L call 110 n 452 lv (.int 0 :: st) h := k_nx (i := .iconst 0) rfl rfl
set_option maxRecDepth 100000 in
theorem s_110_452 (d L n : Nat) (scr : Nat → Int32) (call : Nat → List Value → am_H → Option am_X) (lv : am_L) (st : List Value) (h : am_H) (x : Int32) : am_f d scr L call 110 (n + 1) 452 lv (.int x :: st) h = am_f d scr L call 110 n 454 (am_st1 lv 5 (.int x)) st h := k_nx (i := .istore 5) rfl rfl
set_option maxRecDepth 100000 in
theorem s_110_454 (d L n : Nat) (scr : Nat → Int32) (call : Nat → List Value → am_H → Option am_X) (lv : am_L) (st : List Value) (h : am_H) : am_f d scr L call 110 (n + 1) 454 lv st h = (match am_ld lv 0 with
    | some (.ref x) => am_f d scr L call 110 n 455 lv (.ref x :: st) h
    | _ => none) := k_la (i := .aload_n 0) rfl rfl rfl rfl
set_option maxRecDepth 100000 in
theorem s_110_455 (d L n : Nat) (scr : Nat → Int32) (call : Nat → List Value → am_H → Option am_X) (lv : am_L) (st : List Value) (h : am_H) : am_f d scr L call 110 (n + 1) 455 lv st h = (match am_ld lv 3 with
    | some (.int x) => am_f d scr L call 110 n 456 lv (.int x :: st) h
    | _ => none) := k_li (i := .iload_n 3) rfl rfl rfl rfl
set_option maxRecDepth 100000 in
theorem s_110_456 (d L n : Nat) (scr : Nat → Int32) (call : Nat → List Value → am_H → Option am_X) (lv : am_L) (st : List Value) (h : am_H) : am_f d scr L call 110 (n + 1) 456 lv st h = (match am_ld lv 5 with
    | some (.int x) => am_f d scr L call 110 n 458 lv (.int x :: st) h
    | _ => none) := k_li (i := .iload 5) rfl rfl rfl rfl
set_option maxRecDepth 100000 in
theorem s_110_458 (d L n : Nat) (scr : Nat → Int32) (call : Nat → List Value → am_H → Option am_X) (lv : am_L) (h : am_H) (o : Nat) (a0 : Int32) (a1 : Int32)  : am_f d scr L call 110 (n + 1) 458 lv (.int a1 :: .int a0 :: .ref o :: []) h = if am_at h o 8 = true then (match call 97 [.ref o, .int a0, .int a1] h with
    | some (v, h', dk, dn) => am_add dk dn (am_f d scr L call 110 n 461 lv (v.toList ++ []) h')
    | none => none) else none := k_iv0 (k := 194) (as := [.int a0, .int a1]) (r := []) rfl rfl rfl rfl (Nat.le_of_ble_eq_true rfl)
set_option maxRecDepth 100000 in
theorem s_110_461 (d L n : Nat) (scr : Nat → Int32) (call : Nat → List Value → am_H → Option am_X) (lv : am_L) (st : List Value) (h : am_H) (x : Int32) : am_f d scr L call 110 (n + 1) 461 lv (.int x :: st) h = if x = 0 then am_f d scr L call 110 n 469 lv st h else am_f d scr L call 110 n 464 lv st h := k_if_eq (o := 8) rfl ⟨by decide, rfl⟩
set_option maxRecDepth 100000 in
theorem s_110_464 (d L n : Nat) (scr : Nat → Int32) (call : Nat → List Value → am_H → Option am_X) (lv : am_L) (st : List Value) (h : am_H) : am_f d scr L call 110 (n + 1) 464 lv st h = (match am_ld lv 5 with
    | some (.int x) => am_f d scr L call 110 n 466 lv (.int x :: st) h
    | _ => none) := k_li (i := .iload 5) rfl rfl rfl rfl
set_option maxRecDepth 100000 in
theorem s_110_466 (d L n : Nat) (scr : Nat → Int32) (call : Nat → List Value → am_H → Option am_X) (lv : am_L) (st : List Value) (h : am_H) : am_f d scr L call 110 (n + 1) 466 lv st h = am_f d scr L call 110 n 477 lv st h := k_nx (i := .goto 11) rfl rfl
set_option maxRecDepth 100000 in
theorem s_110_469 (d L n : Nat) (scr : Nat → Int32) (call : Nat → List Value → am_H → Option am_X) (lv : am_L) (st : List Value) (h : am_H) : am_f d scr L call 110 (n + 1) 469 lv st h = am_f d scr L call 110 n 470 lv (.int (-1) :: st) h := k_nx (i := .iconst (-1)) rfl rfl
set_option maxRecDepth 100000 in
theorem s_110_470 (d L n : Nat) (scr : Nat → Int32) (call : Nat → List Value → am_H → Option am_X) (lv : am_L) (st : List Value) (h : am_H) : am_f d scr L call 110 (n + 1) 470 lv st h = (match am_ld lv 0 with
    | some (.ref x) => am_f d scr L call 110 n 471 lv (.ref x :: st) h
    | _ => none) := k_la (i := .aload_n 0) rfl rfl rfl rfl
set_option maxRecDepth 100000 in
theorem s_110_471 (d L n : Nat) (scr : Nat → Int32) (call : Nat → List Value → am_H → Option am_X) (lv : am_L) (st : List Value) (h : am_H) (a : Nat) : am_f d scr L call 110 (n + 1) 471 lv (.ref a :: st) h = (match am_get h a 8 14 with
    | some v => am_f d scr L call 110 n 474 lv (v :: st) h
    | none => none) := k_gf (k := 38) rfl rfl
set_option maxRecDepth 100000 in
theorem s_110_474 (d L n : Nat) (scr : Nat → Int32) (call : Nat → List Value → am_H → Option am_X) (lv : am_L) (st : List Value) (h : am_H) : am_f d scr L call 110 (n + 1) 474 lv st h = (match am_ld lv 1 with
    | some (.int x) => am_f d scr L call 110 n 475 lv (.int x :: st) h
    | _ => none) := k_li (i := .iload_n 1) rfl rfl rfl rfl
set_option maxRecDepth 100000 in
theorem s_110_475 (d L n : Nat) (scr : Nat → Int32) (call : Nat → List Value → am_H → Option am_X) (lv : am_L) (st : List Value) (h : am_H) (a : Nat) (i : Int32) : am_f d scr L call 110 (n + 1) 475 lv (.int i :: .ref a :: st) h = (match am_ild scr L h a i with
    | some x => am_f d scr L call 110 n 476 lv (.int x :: st) h
    | none => none) := k_ia rfl
set_option maxRecDepth 100000 in
theorem s_110_476 (d L n : Nat) (scr : Nat → Int32) (call : Nat → List Value → am_H → Option am_X) (lv : am_L) (st : List Value) (h : am_H) (x y : Int32) : am_f d scr L call 110 (n + 1) 476 lv (.int y :: .int x :: st) h = am_f d scr L call 110 n 477 lv (.int (x - y) :: st) h := k_nx (i := .isub) rfl rfl
set_option maxRecDepth 100000 in
theorem s_110_477 (d L n : Nat) (scr : Nat → Int32) (call : Nat → List Value → am_H → Option am_X) (lv : am_L) (h : am_H) (x : Int32) : am_f d scr L call 110 (n + 1) 477 lv [.int x] h = some (some (.int x), h, 0, 0) := k_ir rfl rfl
-- 111: BlameDeskModel.check()I
theorem s_111_0 (d L n : Nat) (scr : Nat → Int32) (call : Nat → List Value → am_H → Option am_X) (lv : am_L) (st : List Value) (h : am_H) : am_f d scr L call 111 (n + 1) 0 lv st h = (match am_ld lv 0 with
    | some (.ref x) => am_f d scr L call 111 n 1 lv (.ref x :: st) h
    | _ => none) := k_la (i := .aload_n 0) rfl rfl rfl rfl
theorem s_111_1 (d L n : Nat) (scr : Nat → Int32) (call : Nat → List Value → am_H → Option am_X) (lv : am_L) (st : List Value) (h : am_H) : am_f d scr L call 111 (n + 1) 1 lv st h = am_f d scr L call 111 n 2 lv (.int 3 :: st) h := k_nx (i := .iconst 3) rfl rfl
theorem s_111_2 (d L n : Nat) (scr : Nat → Int32) (call : Nat → List Value → am_H → Option am_X) (lv : am_L) (st : List Value) (h : am_H) (x : Int32) (a : Nat) : am_f d scr L call 111 (n + 1) 2 lv (.int x :: .ref a :: st) h = (match am_put h a 8 2 (.int x) with
    | some h' => am_f d scr L call 111 n 5 lv st h'
    | none => none) := k_pf (k := 123) rfl rfl rfl
theorem s_111_5 (d L n : Nat) (scr : Nat → Int32) (call : Nat → List Value → am_H → Option am_X) (lv : am_L) (st : List Value) (h : am_H) : am_f d scr L call 111 (n + 1) 5 lv st h = (match am_ld lv 0 with
    | some (.ref x) => am_f d scr L call 111 n 6 lv (.ref x :: st) h
    | _ => none) := k_la (i := .aload_n 0) rfl rfl rfl rfl
theorem s_111_6 (d L n : Nat) (scr : Nat → Int32) (call : Nat → List Value → am_H → Option am_X) (lv : am_L) (st : List Value) (h : am_H) (a : Nat) : am_f d scr L call 111 (n + 1) 6 lv (.ref a :: st) h = (match am_get h a 8 3 with
    | some v => am_f d scr L call 111 n 9 lv (v :: st) h
    | none => none) := k_gf (k := 13) rfl rfl
theorem s_111_9 (d L n : Nat) (scr : Nat → Int32) (call : Nat → List Value → am_H → Option am_X) (lv : am_L) (st : List Value) (h : am_H) : am_f d scr L call 111 (n + 1) 9 lv st h = am_f d scr L call 111 n 10 lv (.int 1 :: st) h := k_nx (i := .iconst 1) rfl rfl
theorem s_111_10 (d L n : Nat) (scr : Nat → Int32) (call : Nat → List Value → am_H → Option am_X) (lv : am_L) (st : List Value) (h : am_H) : am_f d scr L call 111 (n + 1) 10 lv st h = am_f d scr L call 111 n 11 lv (.int 1 :: st) h := k_nx (i := .iconst 1) rfl rfl
theorem s_111_11 (d L n : Nat) (scr : Nat → Int32) (call : Nat → List Value → am_H → Option am_X) (lv : am_L) (st : List Value) (h : am_H) (a : Nat) (i : Int32) (x : Int32) : am_f d scr L call 111 (n + 1) 11 lv (.int x :: .int i :: .ref a :: st) h = (match am_ist h a i x with
    | some h' => am_f d scr L call 111 n 12 lv st h'
    | none => none) := k_is rfl
theorem s_111_12 (d L n : Nat) (scr : Nat → Int32) (call : Nat → List Value → am_H → Option am_X) (lv : am_L) (st : List Value) (h : am_H) : am_f d scr L call 111 (n + 1) 12 lv st h = (match am_ld lv 0 with
    | some (.ref x) => am_f d scr L call 111 n 13 lv (.ref x :: st) h
    | _ => none) := k_la (i := .aload_n 0) rfl rfl rfl rfl
theorem s_111_13 (d L n : Nat) (scr : Nat → Int32) (call : Nat → List Value → am_H → Option am_X) (lv : am_L) (st : List Value) (h : am_H) (a : Nat) : am_f d scr L call 111 (n + 1) 13 lv (.ref a :: st) h = (match am_get h a 8 3 with
    | some v => am_f d scr L call 111 n 16 lv (v :: st) h
    | none => none) := k_gf (k := 13) rfl rfl
theorem s_111_16 (d L n : Nat) (scr : Nat → Int32) (call : Nat → List Value → am_H → Option am_X) (lv : am_L) (st : List Value) (h : am_H) : am_f d scr L call 111 (n + 1) 16 lv st h = am_f d scr L call 111 n 17 lv (.int 2 :: st) h := k_nx (i := .iconst 2) rfl rfl
theorem s_111_17 (d L n : Nat) (scr : Nat → Int32) (call : Nat → List Value → am_H → Option am_X) (lv : am_L) (st : List Value) (h : am_H) : am_f d scr L call 111 (n + 1) 17 lv st h = am_f d scr L call 111 n 18 lv (.int 2 :: st) h := k_nx (i := .iconst 2) rfl rfl
theorem s_111_18 (d L n : Nat) (scr : Nat → Int32) (call : Nat → List Value → am_H → Option am_X) (lv : am_L) (st : List Value) (h : am_H) (a : Nat) (i : Int32) (x : Int32) : am_f d scr L call 111 (n + 1) 18 lv (.int x :: .int i :: .ref a :: st) h = (match am_ist h a i x with
    | some h' => am_f d scr L call 111 n 19 lv st h'
    | none => none) := k_is rfl
theorem s_111_19 (d L n : Nat) (scr : Nat → Int32) (call : Nat → List Value → am_H → Option am_X) (lv : am_L) (st : List Value) (h : am_H) : am_f d scr L call 111 (n + 1) 19 lv st h = (match am_ld lv 0 with
    | some (.ref x) => am_f d scr L call 111 n 20 lv (.ref x :: st) h
    | _ => none) := k_la (i := .aload_n 0) rfl rfl rfl rfl
theorem s_111_20 (d L n : Nat) (scr : Nat → Int32) (call : Nat → List Value → am_H → Option am_X) (lv : am_L) (st : List Value) (h : am_H) : am_f d scr L call 111 (n + 1) 20 lv st h = (match am_ld lv 0 with
    | some (.ref x) => am_f d scr L call 111 n 21 lv (.ref x :: st) h
    | _ => none) := k_la (i := .aload_n 0) rfl rfl rfl rfl
theorem s_111_21 (d L n : Nat) (scr : Nat → Int32) (call : Nat → List Value → am_H → Option am_X) (lv : am_L) (st : List Value) (h : am_H) : am_f d scr L call 111 (n + 1) 21 lv st h = am_f d scr L call 111 n 22 lv (.int 3 :: st) h := k_nx (i := .iconst 3) rfl rfl
theorem s_111_22 (d L n : Nat) (scr : Nat → Int32) (call : Nat → List Value → am_H → Option am_X) (lv : am_L) (st : List Value) (h : am_H) : am_f d scr L call 111 (n + 1) 22 lv st h = am_f d scr L call 111 n 23 lv (.int 2 :: st) h := k_nx (i := .iconst 2) rfl rfl
theorem s_111_23 (d L n : Nat) (scr : Nat → Int32) (call : Nat → List Value → am_H → Option am_X) (lv : am_L) (st : List Value) (h : am_H) : am_f d scr L call 111 (n + 1) 23 lv st h = am_f d scr L call 111 n 24 lv (.int 2 :: st) h := k_nx (i := .iconst 2) rfl rfl
theorem s_111_24 (d L n : Nat) (scr : Nat → Int32) (call : Nat → List Value → am_H → Option am_X) (lv : am_L) (h : am_H) (o : Nat) (a0 : Int32) (a1 : Int32) (a2 : Int32) (r0 : Nat) : am_f d scr L call 111 (n + 1) 24 lv (.int a2 :: .int a1 :: .int a0 :: .ref o :: .ref r0 :: []) h = if am_at h o 8 = true then (match call 95 [.ref o, .int a0, .int a1, .int a2] h with
    | some (v, h', dk, dn) => am_add dk dn (am_f d scr L call 111 n 27 lv (v.toList ++ [.ref r0]) h')
    | none => none) else none := k_iv0 (k := 149) (as := [.int a0, .int a1, .int a2]) (r := [.ref r0]) rfl rfl rfl rfl (Nat.le_of_ble_eq_true rfl)
theorem s_111_27 (d L n : Nat) (scr : Nat → Int32) (call : Nat → List Value → am_H → Option am_X) (lv : am_L) (st : List Value) (h : am_H) (x : Int32) (a : Nat) : am_f d scr L call 111 (n + 1) 27 lv (.int x :: .ref a :: st) h = (match am_put h a 8 6 (.int x) with
    | some h' => am_f d scr L call 111 n 30 lv st h'
    | none => none) := k_pf (k := 126) rfl rfl rfl
theorem s_111_30 (d L n : Nat) (scr : Nat → Int32) (call : Nat → List Value → am_H → Option am_X) (lv : am_L) (st : List Value) (h : am_H) : am_f d scr L call 111 (n + 1) 30 lv st h = (match am_ld lv 0 with
    | some (.ref x) => am_f d scr L call 111 n 31 lv (.ref x :: st) h
    | _ => none) := k_la (i := .aload_n 0) rfl rfl rfl rfl
theorem s_111_31 (d L n : Nat) (scr : Nat → Int32) (call : Nat → List Value → am_H → Option am_X) (lv : am_L) (st : List Value) (h : am_H) : am_f d scr L call 111 (n + 1) 31 lv st h = (match am_ld lv 0 with
    | some (.ref x) => am_f d scr L call 111 n 32 lv (.ref x :: st) h
    | _ => none) := k_la (i := .aload_n 0) rfl rfl rfl rfl
theorem s_111_32 (d L n : Nat) (scr : Nat → Int32) (call : Nat → List Value → am_H → Option am_X) (lv : am_L) (st : List Value) (h : am_H) : am_f d scr L call 111 (n + 1) 32 lv st h = am_f d scr L call 111 n 33 lv (.int 4 :: st) h := k_nx (i := .iconst 4) rfl rfl
theorem s_111_33 (d L n : Nat) (scr : Nat → Int32) (call : Nat → List Value → am_H → Option am_X) (lv : am_L) (st : List Value) (h : am_H) : am_f d scr L call 111 (n + 1) 33 lv st h = am_f d scr L call 111 n 34 lv (.int 2 :: st) h := k_nx (i := .iconst 2) rfl rfl
theorem s_111_34 (d L n : Nat) (scr : Nat → Int32) (call : Nat → List Value → am_H → Option am_X) (lv : am_L) (st : List Value) (h : am_H) : am_f d scr L call 111 (n + 1) 34 lv st h = am_f d scr L call 111 n 35 lv (.int 0 :: st) h := k_nx (i := .iconst 0) rfl rfl
theorem s_111_35 (d L n : Nat) (scr : Nat → Int32) (call : Nat → List Value → am_H → Option am_X) (lv : am_L) (h : am_H) (o : Nat) (a0 : Int32) (a1 : Int32) (a2 : Int32) (r0 : Nat) : am_f d scr L call 111 (n + 1) 35 lv (.int a2 :: .int a1 :: .int a0 :: .ref o :: .ref r0 :: []) h = if am_at h o 8 = true then (match call 95 [.ref o, .int a0, .int a1, .int a2] h with
    | some (v, h', dk, dn) => am_add dk dn (am_f d scr L call 111 n 38 lv (v.toList ++ [.ref r0]) h')
    | none => none) else none := k_iv0 (k := 149) (as := [.int a0, .int a1, .int a2]) (r := [.ref r0]) rfl rfl rfl rfl (Nat.le_of_ble_eq_true rfl)
theorem s_111_38 (d L n : Nat) (scr : Nat → Int32) (call : Nat → List Value → am_H → Option am_X) (lv : am_L) (st : List Value) (h : am_H) (x : Int32) (a : Nat) : am_f d scr L call 111 (n + 1) 38 lv (.int x :: .ref a :: st) h = (match am_put h a 8 7 (.int x) with
    | some h' => am_f d scr L call 111 n 41 lv st h'
    | none => none) := k_pf (k := 129) rfl rfl rfl
theorem s_111_41 (d L n : Nat) (scr : Nat → Int32) (call : Nat → List Value → am_H → Option am_X) (lv : am_L) (st : List Value) (h : am_H) : am_f d scr L call 111 (n + 1) 41 lv st h = (match am_ld lv 0 with
    | some (.ref x) => am_f d scr L call 111 n 42 lv (.ref x :: st) h
    | _ => none) := k_la (i := .aload_n 0) rfl rfl rfl rfl
theorem s_111_42 (d L n : Nat) (scr : Nat → Int32) (call : Nat → List Value → am_H → Option am_X) (lv : am_L) (h : am_H) (o : Nat)   : am_f d scr L call 111 (n + 1) 42 lv (.ref o :: []) h = if am_at h o 8 = true then (match call 120 [.ref o] h with
    | some (v, h', dk, dn) => am_add dk dn (am_f d scr L call 111 n 45 lv (v.toList ++ []) h')
    | none => none) else none := k_iv0 (k := 197) (as := []) (r := []) rfl rfl rfl rfl (Nat.le_of_ble_eq_true rfl)
theorem s_111_45 (d L n : Nat) (scr : Nat → Int32) (call : Nat → List Value → am_H → Option am_X) (lv : am_L) (st : List Value) (h : am_H) : am_f d scr L call 111 (n + 1) 45 lv st h = (match am_ld lv 0 with
    | some (.ref x) => am_f d scr L call 111 n 46 lv (.ref x :: st) h
    | _ => none) := k_la (i := .aload_n 0) rfl rfl rfl rfl
theorem s_111_46 (d L n : Nat) (scr : Nat → Int32) (call : Nat → List Value → am_H → Option am_X) (lv : am_L) (st : List Value) (h : am_H) : am_f d scr L call 111 (n + 1) 46 lv st h = am_f d scr L call 111 n 47 lv (.int 0 :: st) h := k_nx (i := .iconst 0) rfl rfl
theorem s_111_47 (d L n : Nat) (scr : Nat → Int32) (call : Nat → List Value → am_H → Option am_X) (lv : am_L) (st : List Value) (h : am_H) (x : Int32) (a : Nat) : am_f d scr L call 111 (n + 1) 47 lv (.int x :: .ref a :: st) h = if x = 0 ∨ x = 1 then (match am_put h a 8 25 (.int x) with
    | some h' => am_f d scr L call 111 n 50 lv st h'
    | none => none) else none := k_pz (k := 200) rfl rfl
theorem s_111_50 (d L n : Nat) (scr : Nat → Int32) (call : Nat → List Value → am_H → Option am_X) (lv : am_L) (st : List Value) (h : am_H) : am_f d scr L call 111 (n + 1) 50 lv st h = (match am_ld lv 0 with
    | some (.ref x) => am_f d scr L call 111 n 51 lv (.ref x :: st) h
    | _ => none) := k_la (i := .aload_n 0) rfl rfl rfl rfl
theorem s_111_51 (d L n : Nat) (scr : Nat → Int32) (call : Nat → List Value → am_H → Option am_X) (lv : am_L) (st : List Value) (h : am_H) : am_f d scr L call 111 (n + 1) 51 lv st h = am_f d scr L call 111 n 52 lv (.int (-1) :: st) h := k_nx (i := .iconst (-1)) rfl rfl
theorem s_111_52 (d L n : Nat) (scr : Nat → Int32) (call : Nat → List Value → am_H → Option am_X) (lv : am_L) (st : List Value) (h : am_H) (x : Int32) (a : Nat) : am_f d scr L call 111 (n + 1) 52 lv (.int x :: .ref a :: st) h = (match am_put h a 8 27 (.int x) with
    | some h' => am_f d scr L call 111 n 55 lv st h'
    | none => none) := k_pf (k := 59) rfl rfl rfl
theorem s_111_55 (d L n : Nat) (scr : Nat → Int32) (call : Nat → List Value → am_H → Option am_X) (lv : am_L) (st : List Value) (h : am_H) : am_f d scr L call 111 (n + 1) 55 lv st h = (match am_ld lv 0 with
    | some (.ref x) => am_f d scr L call 111 n 56 lv (.ref x :: st) h
    | _ => none) := k_la (i := .aload_n 0) rfl rfl rfl rfl
theorem s_111_56 (d L n : Nat) (scr : Nat → Int32) (call : Nat → List Value → am_H → Option am_X) (lv : am_L) (st : List Value) (h : am_H) : am_f d scr L call 111 (n + 1) 56 lv st h = am_f d scr L call 111 n 57 lv (.int 0 :: st) h := k_nx (i := .iconst 0) rfl rfl
theorem s_111_57 (d L n : Nat) (scr : Nat → Int32) (call : Nat → List Value → am_H → Option am_X) (lv : am_L) (st : List Value) (h : am_H) (x : Int32) (a : Nat) : am_f d scr L call 111 (n + 1) 57 lv (.int x :: .ref a :: st) h = (match am_put h a 8 28 (.int x) with
    | some h' => am_f d scr L call 111 n 60 lv st h'
    | none => none) := k_pf (k := 132) rfl rfl rfl
theorem s_111_60 (d L n : Nat) (scr : Nat → Int32) (call : Nat → List Value → am_H → Option am_X) (lv : am_L) (st : List Value) (h : am_H) : am_f d scr L call 111 (n + 1) 60 lv st h = (match am_ld lv 0 with
    | some (.ref x) => am_f d scr L call 111 n 61 lv (.ref x :: st) h
    | _ => none) := k_la (i := .aload_n 0) rfl rfl rfl rfl
theorem s_111_61 (d L n : Nat) (scr : Nat → Int32) (call : Nat → List Value → am_H → Option am_X) (lv : am_L) (h : am_H) (o : Nat)   : am_f d scr L call 111 (n + 1) 61 lv (.ref o :: []) h = if am_at h o 8 = true then (match call 109 [.ref o] h with
    | some (v, h', dk, dn) => am_add dk dn (am_f d scr L call 111 n 64 lv (v.toList ++ []) h')
    | none => none) else none := k_iv0 (k := 204) (as := []) (r := []) rfl rfl rfl rfl (Nat.le_of_ble_eq_true rfl)
theorem s_111_64 (d L n : Nat) (scr : Nat → Int32) (call : Nat → List Value → am_H → Option am_X) (lv : am_L) (st : List Value) (h : am_H) (x : Int32) : am_f d scr L call 111 (n + 1) 64 lv (.int x :: st) h = am_f d scr L call 111 n 65 (am_st1 lv 1 (.int x)) st h := k_nx (i := .istore_n 1) rfl rfl
theorem s_111_65 (d L n : Nat) (scr : Nat → Int32) (call : Nat → List Value → am_H → Option am_X) (lv : am_L) (st : List Value) (h : am_H) : am_f d scr L call 111 (n + 1) 65 lv st h = (match am_ld lv 0 with
    | some (.ref x) => am_f d scr L call 111 n 66 lv (.ref x :: st) h
    | _ => none) := k_la (i := .aload_n 0) rfl rfl rfl rfl
theorem s_111_66 (d L n : Nat) (scr : Nat → Int32) (call : Nat → List Value → am_H → Option am_X) (lv : am_L) (st : List Value) (h : am_H) : am_f d scr L call 111 (n + 1) 66 lv st h = am_f d scr L call 111 n 67 lv (.int 0 :: st) h := k_nx (i := .iconst 0) rfl rfl
theorem s_111_67 (d L n : Nat) (scr : Nat → Int32) (call : Nat → List Value → am_H → Option am_X) (lv : am_L) (st : List Value) (h : am_H) (x : Int32) (a : Nat) : am_f d scr L call 111 (n + 1) 67 lv (.int x :: .ref a :: st) h = (match am_put h a 8 0 (.int x) with
    | some h' => am_f d scr L call 111 n 70 lv st h'
    | none => none) := k_pf (k := 120) rfl rfl rfl
theorem s_111_70 (d L n : Nat) (scr : Nat → Int32) (call : Nat → List Value → am_H → Option am_X) (lv : am_L) (st : List Value) (h : am_H) : am_f d scr L call 111 (n + 1) 70 lv st h = (match am_ld lv 1 with
    | some (.int x) => am_f d scr L call 111 n 71 lv (.int x :: st) h
    | _ => none) := k_li (i := .iload_n 1) rfl rfl rfl rfl
theorem s_111_71 (d L n : Nat) (scr : Nat → Int32) (call : Nat → List Value → am_H → Option am_X) (lv : am_L) (st : List Value) (h : am_H) (x : Int32) : am_f d scr L call 111 (n + 1) 71 lv (.int x :: st) h = if ¬ x = 0 then am_f d scr L call 111 n 76 lv st h else am_f d scr L call 111 n 74 lv st h := k_if_ne (o := 5) rfl ⟨by decide, rfl⟩
theorem s_111_74 (d L n : Nat) (scr : Nat → Int32) (call : Nat → List Value → am_H → Option am_X) (lv : am_L) (st : List Value) (h : am_H) : am_f d scr L call 111 (n + 1) 74 lv st h = am_f d scr L call 111 n 75 lv (.int 1 :: st) h := k_nx (i := .iconst 1) rfl rfl
theorem s_111_75 (d L n : Nat) (scr : Nat → Int32) (call : Nat → List Value → am_H → Option am_X) (lv : am_L) (h : am_H) (x : Int32) : am_f d scr L call 111 (n + 1) 75 lv [.int x] h = some (some (.int x), h, 0, 0) := k_ir rfl rfl
theorem s_111_76 (d L n : Nat) (scr : Nat → Int32) (call : Nat → List Value → am_H → Option am_X) (lv : am_L) (st : List Value) (h : am_H) : am_f d scr L call 111 (n + 1) 76 lv st h = am_f d scr L call 111 n 77 lv (.int 0 :: st) h := k_nx (i := .iconst 0) rfl rfl
theorem s_111_77 (d L n : Nat) (scr : Nat → Int32) (call : Nat → List Value → am_H → Option am_X) (lv : am_L) (st : List Value) (h : am_H) (x : Int32) : am_f d scr L call 111 (n + 1) 77 lv (.int x :: st) h = am_f d scr L call 111 n 78 (am_st1 lv 2 (.int x)) st h := k_nx (i := .istore_n 2) rfl rfl
theorem s_111_78 (d L n : Nat) (scr : Nat → Int32) (call : Nat → List Value → am_H → Option am_X) (lv : am_L) (st : List Value) (h : am_H) : am_f d scr L call 111 (n + 1) 78 lv st h = (match am_ld lv 2 with
    | some (.int x) => am_f d scr L call 111 n 79 lv (.int x :: st) h
    | _ => none) := k_li (i := .iload_n 2) rfl rfl rfl rfl
theorem s_111_79 (d L n : Nat) (scr : Nat → Int32) (call : Nat → List Value → am_H → Option am_X) (lv : am_L) (st : List Value) (h : am_H) : am_f d scr L call 111 (n + 1) 79 lv st h = (match am_ld lv 0 with
    | some (.ref x) => am_f d scr L call 111 n 80 lv (.ref x :: st) h
    | _ => none) := k_la (i := .aload_n 0) rfl rfl rfl rfl
theorem s_111_80 (d L n : Nat) (scr : Nat → Int32) (call : Nat → List Value → am_H → Option am_X) (lv : am_L) (st : List Value) (h : am_H) (a : Nat) : am_f d scr L call 111 (n + 1) 80 lv (.ref a :: st) h = (match am_get h a 8 18 with
    | some v => am_f d scr L call 111 n 83 lv (v :: st) h
    | none => none) := k_gf (k := 177) rfl rfl
theorem s_111_83 (d L n : Nat) (scr : Nat → Int32) (call : Nat → List Value → am_H → Option am_X) (lv : am_L) (st : List Value) (h : am_H) (x y : Int32) : am_f d scr L call 111 (n + 1) 83 lv (.int y :: .int x :: st) h = if y ≤ x then am_f d scr L call 111 n 138 lv st h else am_f d scr L call 111 n 86 lv st h := k_ic_ge (o := 55) rfl ⟨by decide, rfl⟩
theorem s_111_86 (d L n : Nat) (scr : Nat → Int32) (call : Nat → List Value → am_H → Option am_X) (lv : am_L) (st : List Value) (h : am_H) : am_f d scr L call 111 (n + 1) 86 lv st h = (match am_ld lv 0 with
    | some (.ref x) => am_f d scr L call 111 n 87 lv (.ref x :: st) h
    | _ => none) := k_la (i := .aload_n 0) rfl rfl rfl rfl
theorem s_111_87 (d L n : Nat) (scr : Nat → Int32) (call : Nat → List Value → am_H → Option am_X) (lv : am_L) (st : List Value) (h : am_H) (a : Nat) : am_f d scr L call 111 (n + 1) 87 lv (.ref a :: st) h = (match am_get h a 8 19 with
    | some v => am_f d scr L call 111 n 90 lv (v :: st) h
    | none => none) := k_gf (k := 50) rfl rfl
theorem s_111_90 (d L n : Nat) (scr : Nat → Int32) (call : Nat → List Value → am_H → Option am_X) (lv : am_L) (st : List Value) (h : am_H) : am_f d scr L call 111 (n + 1) 90 lv st h = (match am_ld lv 2 with
    | some (.int x) => am_f d scr L call 111 n 91 lv (.int x :: st) h
    | _ => none) := k_li (i := .iload_n 2) rfl rfl rfl rfl
theorem s_111_91 (d L n : Nat) (scr : Nat → Int32) (call : Nat → List Value → am_H → Option am_X) (lv : am_L) (st : List Value) (h : am_H) (a : Nat) (i : Int32) : am_f d scr L call 111 (n + 1) 91 lv (.int i :: .ref a :: st) h = (match am_ild scr L h a i with
    | some x => am_f d scr L call 111 n 92 lv (.int x :: st) h
    | none => none) := k_ia rfl
theorem s_111_92 (d L n : Nat) (scr : Nat → Int32) (call : Nat → List Value → am_H → Option am_X) (lv : am_L) (st : List Value) (h : am_H) (x : Int32) : am_f d scr L call 111 (n + 1) 92 lv (.int x :: st) h = am_f d scr L call 111 n 93 (am_st1 lv 3 (.int x)) st h := k_nx (i := .istore_n 3) rfl rfl
theorem s_111_93 (d L n : Nat) (scr : Nat → Int32) (call : Nat → List Value → am_H → Option am_X) (lv : am_L) (st : List Value) (h : am_H) : am_f d scr L call 111 (n + 1) 93 lv st h = (match am_ld lv 0 with
    | some (.ref x) => am_f d scr L call 111 n 94 lv (.ref x :: st) h
    | _ => none) := k_la (i := .aload_n 0) rfl rfl rfl rfl
theorem s_111_94 (d L n : Nat) (scr : Nat → Int32) (call : Nat → List Value → am_H → Option am_X) (lv : am_L) (st : List Value) (h : am_H) (a : Nat) : am_f d scr L call 111 (n + 1) 94 lv (.ref a :: st) h = (match am_get h a 8 61 with
    | some v => am_f d scr L call 111 n 97 lv (v :: st) h
    | none => none) := k_gf (k := 117) rfl rfl
theorem s_111_97 (d L n : Nat) (scr : Nat → Int32) (call : Nat → List Value → am_H → Option am_X) (lv : am_L) (st : List Value) (h : am_H) : am_f d scr L call 111 (n + 1) 97 lv st h = (match am_ld lv 3 with
    | some (.int x) => am_f d scr L call 111 n 98 lv (.int x :: st) h
    | _ => none) := k_li (i := .iload_n 3) rfl rfl rfl rfl
theorem s_111_98 (d L n : Nat) (scr : Nat → Int32) (call : Nat → List Value → am_H → Option am_X) (lv : am_L) (st : List Value) (h : am_H) : am_f d scr L call 111 (n + 1) 98 lv st h = (match am_ld lv 0 with
    | some (.ref x) => am_f d scr L call 111 n 99 lv (.ref x :: st) h
    | _ => none) := k_la (i := .aload_n 0) rfl rfl rfl rfl
theorem s_111_99 (d L n : Nat) (scr : Nat → Int32) (call : Nat → List Value → am_H → Option am_X) (lv : am_L) (st : List Value) (h : am_H) : am_f d scr L call 111 (n + 1) 99 lv st h = (match am_ld lv 3 with
    | some (.int x) => am_f d scr L call 111 n 100 lv (.int x :: st) h
    | _ => none) := k_li (i := .iload_n 3) rfl rfl rfl rfl
theorem s_111_100 (d L n : Nat) (scr : Nat → Int32) (call : Nat → List Value → am_H → Option am_X) (lv : am_L) (h : am_H) (o : Nat) (a0 : Int32) (r0 : Int32) (r1 : Nat) : am_f d scr L call 111 (n + 1) 100 lv (.int a0 :: .ref o :: .int r0 :: .ref r1 :: []) h = if am_at h o 8 = true then (match call 110 [.ref o, .int a0] h with
    | some (v, h', dk, dn) => am_add dk dn (am_f d scr L call 111 n 103 lv (v.toList ++ [.int r0, .ref r1]) h')
    | none => none) else none := k_iv0 (k := 207) (as := [.int a0]) (r := [.int r0, .ref r1]) rfl rfl rfl rfl (Nat.le_of_ble_eq_true rfl)
theorem s_111_103 (d L n : Nat) (scr : Nat → Int32) (call : Nat → List Value → am_H → Option am_X) (lv : am_L) (st : List Value) (h : am_H) (a : Nat) (i : Int32) (x : Int32) : am_f d scr L call 111 (n + 1) 103 lv (.int x :: .int i :: .ref a :: st) h = (match am_ist h a i x with
    | some h' => am_f d scr L call 111 n 104 lv st h'
    | none => none) := k_is rfl
theorem s_111_104 (d L n : Nat) (scr : Nat → Int32) (call : Nat → List Value → am_H → Option am_X) (lv : am_L) (st : List Value) (h : am_H) : am_f d scr L call 111 (n + 1) 104 lv st h = (match am_ld lv 0 with
    | some (.ref x) => am_f d scr L call 111 n 105 lv (.ref x :: st) h
    | _ => none) := k_la (i := .aload_n 0) rfl rfl rfl rfl
theorem s_111_105 (d L n : Nat) (scr : Nat → Int32) (call : Nat → List Value → am_H → Option am_X) (lv : am_L) (st : List Value) (h : am_H) (a : Nat) : am_f d scr L call 111 (n + 1) 105 lv (.ref a :: st) h = (match am_get h a 8 61 with
    | some v => am_f d scr L call 111 n 108 lv (v :: st) h
    | none => none) := k_gf (k := 117) rfl rfl
theorem s_111_108 (d L n : Nat) (scr : Nat → Int32) (call : Nat → List Value → am_H → Option am_X) (lv : am_L) (st : List Value) (h : am_H) : am_f d scr L call 111 (n + 1) 108 lv st h = (match am_ld lv 3 with
    | some (.int x) => am_f d scr L call 111 n 109 lv (.int x :: st) h
    | _ => none) := k_li (i := .iload_n 3) rfl rfl rfl rfl
theorem s_111_109 (d L n : Nat) (scr : Nat → Int32) (call : Nat → List Value → am_H → Option am_X) (lv : am_L) (st : List Value) (h : am_H) (a : Nat) (i : Int32) : am_f d scr L call 111 (n + 1) 109 lv (.int i :: .ref a :: st) h = (match am_ild scr L h a i with
    | some x => am_f d scr L call 111 n 110 lv (.int x :: st) h
    | none => none) := k_ia rfl
theorem s_111_110 (d L n : Nat) (scr : Nat → Int32) (call : Nat → List Value → am_H → Option am_X) (lv : am_L) (st : List Value) (h : am_H) (x : Int32) : am_f d scr L call 111 (n + 1) 110 lv (.int x :: st) h = if 0 ≤ x then am_f d scr L call 111 n 132 lv st h else am_f d scr L call 111 n 113 lv st h := k_if_ge (o := 22) rfl ⟨by decide, rfl⟩
theorem s_111_113 (d L n : Nat) (scr : Nat → Int32) (call : Nat → List Value → am_H → Option am_X) (lv : am_L) (st : List Value) (h : am_H) : am_f d scr L call 111 (n + 1) 113 lv st h = (match am_ld lv 0 with
    | some (.ref x) => am_f d scr L call 111 n 114 lv (.ref x :: st) h
    | _ => none) := k_la (i := .aload_n 0) rfl rfl rfl rfl
theorem s_111_114 (d L n : Nat) (scr : Nat → Int32) (call : Nat → List Value → am_H → Option am_X) (lv : am_L) (st : List Value) (h : am_H) : am_f d scr L call 111 (n + 1) 114 lv st h = (match am_ld lv 0 with
    | some (.ref x) => am_f d scr L call 111 n 115 lv (.ref x :: st) h
    | _ => none) := k_la (i := .aload_n 0) rfl rfl rfl rfl
theorem s_111_115 (d L n : Nat) (scr : Nat → Int32) (call : Nat → List Value → am_H → Option am_X) (lv : am_L) (st : List Value) (h : am_H) (a : Nat) : am_f d scr L call 111 (n + 1) 115 lv (.ref a :: st) h = (match am_get h a 8 10 with
    | some v => am_f d scr L call 111 n 118 lv (v :: st) h
    | none => none) := k_gf (k := 26) rfl rfl
theorem s_111_118 (d L n : Nat) (scr : Nat → Int32) (call : Nat → List Value → am_H → Option am_X) (lv : am_L) (st : List Value) (h : am_H) : am_f d scr L call 111 (n + 1) 118 lv st h = am_f d scr L call 111 n 119 lv (.int (-1) :: st) h := k_nx (i := .iconst (-1)) rfl rfl
theorem s_111_119 (d L n : Nat) (scr : Nat → Int32) (call : Nat → List Value → am_H → Option am_X) (lv : am_L) (st : List Value) (h : am_H) : am_f d scr L call 111 (n + 1) 119 lv st h = (match am_ld lv 0 with
    | some (.ref x) => am_f d scr L call 111 n 120 lv (.ref x :: st) h
    | _ => none) := k_la (i := .aload_n 0) rfl rfl rfl rfl
theorem s_111_120 (d L n : Nat) (scr : Nat → Int32) (call : Nat → List Value → am_H → Option am_X) (lv : am_L) (st : List Value) (h : am_H) (a : Nat) : am_f d scr L call 111 (n + 1) 120 lv (.ref a :: st) h = (match am_get h a 8 61 with
    | some v => am_f d scr L call 111 n 123 lv (v :: st) h
    | none => none) := k_gf (k := 117) rfl rfl
theorem s_111_123 (d L n : Nat) (scr : Nat → Int32) (call : Nat → List Value → am_H → Option am_X) (lv : am_L) (st : List Value) (h : am_H) : am_f d scr L call 111 (n + 1) 123 lv st h = (match am_ld lv 3 with
    | some (.int x) => am_f d scr L call 111 n 124 lv (.int x :: st) h
    | _ => none) := k_li (i := .iload_n 3) rfl rfl rfl rfl
theorem s_111_124 (d L n : Nat) (scr : Nat → Int32) (call : Nat → List Value → am_H → Option am_X) (lv : am_L) (st : List Value) (h : am_H) (a : Nat) (i : Int32) : am_f d scr L call 111 (n + 1) 124 lv (.int i :: .ref a :: st) h = (match am_ild scr L h a i with
    | some x => am_f d scr L call 111 n 125 lv (.int x :: st) h
    | none => none) := k_ia rfl
theorem s_111_125 (d L n : Nat) (scr : Nat → Int32) (call : Nat → List Value → am_H → Option am_X) (lv : am_L) (st : List Value) (h : am_H) (x y : Int32) : am_f d scr L call 111 (n + 1) 125 lv (.int y :: .int x :: st) h = am_f d scr L call 111 n 126 lv (.int (x - y) :: st) h := k_nx (i := .isub) rfl rfl
theorem s_111_126 (d L n : Nat) (scr : Nat → Int32) (call : Nat → List Value → am_H → Option am_X) (lv : am_L) (st : List Value) (h : am_H) (a : Nat) (i : Int32) : am_f d scr L call 111 (n + 1) 126 lv (.int i :: .ref a :: st) h = (match am_ild scr L h a i with
    | some x => am_f d scr L call 111 n 127 lv (.int x :: st) h
    | none => none) := k_ia rfl
set_option maxRecDepth 100000 in
theorem s_111_127 (d L n : Nat) (scr : Nat → Int32) (call : Nat → List Value → am_H → Option am_X) (lv : am_L) (st : List Value) (h : am_H) (x : Int32) (a : Nat) : am_f d scr L call 111 (n + 1) 127 lv (.int x :: .ref a :: st) h = (match am_put h a 8 27 (.int x) with
    | some h' => am_f d scr L call 111 n 130 lv st h'
    | none => none) := k_pf (k := 59) rfl rfl rfl
set_option maxRecDepth 100000 in
theorem s_111_130 (d L n : Nat) (scr : Nat → Int32) (call : Nat → List Value → am_H → Option am_X) (lv : am_L) (st : List Value) (h : am_H) : am_f d scr L call 111 (n + 1) 130 lv st h = am_f d scr L call 111 n 131 lv (.int 2 :: st) h := k_nx (i := .iconst 2) rfl rfl
set_option maxRecDepth 100000 in
theorem s_111_131 (d L n : Nat) (scr : Nat → Int32) (call : Nat → List Value → am_H → Option am_X) (lv : am_L) (h : am_H) (x : Int32) : am_f d scr L call 111 (n + 1) 131 lv [.int x] h = some (some (.int x), h, 0, 0) := k_ir rfl rfl
set_option maxRecDepth 100000 in
theorem s_111_132 (d L n : Nat) (scr : Nat → Int32) (call : Nat → List Value → am_H → Option am_X) (lv : am_L) (st : List Value) (h : am_H) : am_f d scr L call 111 (n + 1) 132 lv st h = (match am_ld lv 2 with
    | some (.int x) => am_f d scr L call 111 n 135 (am_st1 lv 2 (.int (x + 1))) st h
    | _ => none) := k_iinc (k := 2) (c := 1) rfl rfl (Nat.le_of_ble_eq_true rfl)
set_option maxRecDepth 100000 in
theorem s_111_135 (d L n : Nat) (scr : Nat → Int32) (call : Nat → List Value → am_H → Option am_X) (lv : am_L) (st : List Value) (h : am_H) : am_f d scr L call 111 (n + 1) 135 lv st h = am_f d scr L call 111 n 78 lv st h := k_nx (i := .goto (-57)) rfl rfl
set_option maxRecDepth 100000 in
theorem s_111_138 (d L n : Nat) (scr : Nat → Int32) (call : Nat → List Value → am_H → Option am_X) (lv : am_L) (st : List Value) (h : am_H) : am_f d scr L call 111 (n + 1) 138 lv st h = (match am_ld lv 0 with
    | some (.ref x) => am_f d scr L call 111 n 139 lv (.ref x :: st) h
    | _ => none) := k_la (i := .aload_n 0) rfl rfl rfl rfl
set_option maxRecDepth 100000 in
theorem s_111_139 (d L n : Nat) (scr : Nat → Int32) (call : Nat → List Value → am_H → Option am_X) (lv : am_L) (st : List Value) (h : am_H) : am_f d scr L call 111 (n + 1) 139 lv st h = (match am_ld lv 0 with
    | some (.ref x) => am_f d scr L call 111 n 140 lv (.ref x :: st) h
    | _ => none) := k_la (i := .aload_n 0) rfl rfl rfl rfl
set_option maxRecDepth 100000 in
theorem s_111_140 (d L n : Nat) (scr : Nat → Int32) (call : Nat → List Value → am_H → Option am_X) (lv : am_L) (st : List Value) (h : am_H) (a : Nat) : am_f d scr L call 111 (n + 1) 140 lv (.ref a :: st) h = (match am_get h a 8 61 with
    | some v => am_f d scr L call 111 n 143 lv (v :: st) h
    | none => none) := k_gf (k := 117) rfl rfl
set_option maxRecDepth 100000 in
theorem s_111_143 (d L n : Nat) (scr : Nat → Int32) (call : Nat → List Value → am_H → Option am_X) (lv : am_L) (st : List Value) (h : am_H) : am_f d scr L call 111 (n + 1) 143 lv st h = (match am_ld lv 0 with
    | some (.ref x) => am_f d scr L call 111 n 144 lv (.ref x :: st) h
    | _ => none) := k_la (i := .aload_n 0) rfl rfl rfl rfl
set_option maxRecDepth 100000 in
theorem s_111_144 (d L n : Nat) (scr : Nat → Int32) (call : Nat → List Value → am_H → Option am_X) (lv : am_L) (st : List Value) (h : am_H) (a : Nat) : am_f d scr L call 111 (n + 1) 144 lv (.ref a :: st) h = (match am_get h a 8 26 with
    | some v => am_f d scr L call 111 n 147 lv (v :: st) h
    | none => none) := k_gf (k := 184) rfl rfl
set_option maxRecDepth 100000 in
theorem s_111_147 (d L n : Nat) (scr : Nat → Int32) (call : Nat → List Value → am_H → Option am_X) (lv : am_L) (st : List Value) (h : am_H) (a : Nat) (i : Int32) : am_f d scr L call 111 (n + 1) 147 lv (.int i :: .ref a :: st) h = (match am_ild scr L h a i with
    | some x => am_f d scr L call 111 n 148 lv (.int x :: st) h
    | none => none) := k_ia rfl
set_option maxRecDepth 100000 in
theorem s_111_148 (d L n : Nat) (scr : Nat → Int32) (call : Nat → List Value → am_H → Option am_X) (lv : am_L) (h : am_H) (o : Nat) (a0 : Int32)  : am_f d scr L call 111 (n + 1) 148 lv (.int a0 :: .ref o :: []) h = if am_at h o 8 = true then (match call 98 [.ref o, .int a0] h with
    | some (v, h', dk, dn) => am_add dk dn (am_f d scr L call 111 n 151 lv (v.toList ++ []) h')
    | none => none) else none := k_iv0 (k := 210) (as := [.int a0]) (r := []) rfl rfl rfl rfl (Nat.le_of_ble_eq_true rfl)
set_option maxRecDepth 100000 in
theorem s_111_151 (d L n : Nat) (scr : Nat → Int32) (call : Nat → List Value → am_H → Option am_X) (lv : am_L) (st : List Value) (h : am_H) : am_f d scr L call 111 (n + 1) 151 lv st h = (match am_ld lv 0 with
    | some (.ref x) => am_f d scr L call 111 n 152 lv (.ref x :: st) h
    | _ => none) := k_la (i := .aload_n 0) rfl rfl rfl rfl
set_option maxRecDepth 100000 in
theorem s_111_152 (d L n : Nat) (scr : Nat → Int32) (call : Nat → List Value → am_H → Option am_X) (lv : am_L) (st : List Value) (h : am_H) : am_f d scr L call 111 (n + 1) 152 lv st h = am_f d scr L call 111 n 153 lv (.int 1 :: st) h := k_nx (i := .iconst 1) rfl rfl
set_option maxRecDepth 100000 in
theorem s_111_153 (d L n : Nat) (scr : Nat → Int32) (call : Nat → List Value → am_H → Option am_X) (lv : am_L) (st : List Value) (h : am_H) (x : Int32) (a : Nat) : am_f d scr L call 111 (n + 1) 153 lv (.int x :: .ref a :: st) h = if x = 0 ∨ x = 1 then (match am_put h a 8 25 (.int x) with
    | some h' => am_f d scr L call 111 n 156 lv st h'
    | none => none) else none := k_pz (k := 200) rfl rfl
set_option maxRecDepth 100000 in
theorem s_111_156 (d L n : Nat) (scr : Nat → Int32) (call : Nat → List Value → am_H → Option am_X) (lv : am_L) (st : List Value) (h : am_H) : am_f d scr L call 111 (n + 1) 156 lv st h = am_f d scr L call 111 n 157 lv (.int 0 :: st) h := k_nx (i := .iconst 0) rfl rfl
set_option maxRecDepth 100000 in
theorem s_111_157 (d L n : Nat) (scr : Nat → Int32) (call : Nat → List Value → am_H → Option am_X) (lv : am_L) (h : am_H) (x : Int32) : am_f d scr L call 111 (n + 1) 157 lv [.int x] h = some (some (.int x), h, 0, 0) := k_ir rfl rfl
-- 112: BlameDeskModel.newValue(III)I
theorem s_112_0 (d L n : Nat) (scr : Nat → Int32) (call : Nat → List Value → am_H → Option am_X) (lv : am_L) (st : List Value) (h : am_H) : am_f d scr L call 112 (n + 1) 0 lv st h = am_f d scr L call 112 n 1 lv (.int 0 :: st) h := k_nx (i := .iconst 0) rfl rfl
theorem s_112_1 (d L n : Nat) (scr : Nat → Int32) (call : Nat → List Value → am_H → Option am_X) (lv : am_L) (st : List Value) (h : am_H) (x : Int32) : am_f d scr L call 112 (n + 1) 1 lv (.int x :: st) h = am_f d scr L call 112 n 3 (am_st1 lv 4 (.int x)) st h := k_nx (i := .istore 4) rfl rfl
theorem s_112_3 (d L n : Nat) (scr : Nat → Int32) (call : Nat → List Value → am_H → Option am_X) (lv : am_L) (st : List Value) (h : am_H) : am_f d scr L call 112 (n + 1) 3 lv st h = (match am_ld lv 4 with
    | some (.int x) => am_f d scr L call 112 n 5 lv (.int x :: st) h
    | _ => none) := k_li (i := .iload 4) rfl rfl rfl rfl
theorem s_112_5 (d L n : Nat) (scr : Nat → Int32) (call : Nat → List Value → am_H → Option am_X) (lv : am_L) (st : List Value) (h : am_H) : am_f d scr L call 112 (n + 1) 5 lv st h = (match am_ld lv 0 with
    | some (.ref x) => am_f d scr L call 112 n 6 lv (.ref x :: st) h
    | _ => none) := k_la (i := .aload_n 0) rfl rfl rfl rfl
theorem s_112_6 (d L n : Nat) (scr : Nat → Int32) (call : Nat → List Value → am_H → Option am_X) (lv : am_L) (st : List Value) (h : am_H) (a : Nat) : am_f d scr L call 112 (n + 1) 6 lv (.ref a :: st) h = (match am_get h a 8 31 with
    | some v => am_f d scr L call 112 n 9 lv (v :: st) h
    | none => none) := k_gf (k := 213) rfl rfl
theorem s_112_9 (d L n : Nat) (scr : Nat → Int32) (call : Nat → List Value → am_H → Option am_X) (lv : am_L) (st : List Value) (h : am_H) (x y : Int32) : am_f d scr L call 112 (n + 1) 9 lv (.int y :: .int x :: st) h = if y ≤ x then am_f d scr L call 112 n 54 lv st h else am_f d scr L call 112 n 12 lv st h := k_ic_ge (o := 45) rfl ⟨by decide, rfl⟩
theorem s_112_12 (d L n : Nat) (scr : Nat → Int32) (call : Nat → List Value → am_H → Option am_X) (lv : am_L) (st : List Value) (h : am_H) : am_f d scr L call 112 (n + 1) 12 lv st h = (match am_ld lv 0 with
    | some (.ref x) => am_f d scr L call 112 n 13 lv (.ref x :: st) h
    | _ => none) := k_la (i := .aload_n 0) rfl rfl rfl rfl
theorem s_112_13 (d L n : Nat) (scr : Nat → Int32) (call : Nat → List Value → am_H → Option am_X) (lv : am_L) (st : List Value) (h : am_H) (a : Nat) : am_f d scr L call 112 (n + 1) 13 lv (.ref a :: st) h = (match am_get h a 8 32 with
    | some v => am_f d scr L call 112 n 16 lv (v :: st) h
    | none => none) := k_gf (k := 69) rfl rfl
theorem s_112_16 (d L n : Nat) (scr : Nat → Int32) (call : Nat → List Value → am_H → Option am_X) (lv : am_L) (st : List Value) (h : am_H) : am_f d scr L call 112 (n + 1) 16 lv st h = (match am_ld lv 4 with
    | some (.int x) => am_f d scr L call 112 n 18 lv (.int x :: st) h
    | _ => none) := k_li (i := .iload 4) rfl rfl rfl rfl
theorem s_112_18 (d L n : Nat) (scr : Nat → Int32) (call : Nat → List Value → am_H → Option am_X) (lv : am_L) (st : List Value) (h : am_H) (a : Nat) (i : Int32) : am_f d scr L call 112 (n + 1) 18 lv (.int i :: .ref a :: st) h = (match am_ild scr L h a i with
    | some x => am_f d scr L call 112 n 19 lv (.int x :: st) h
    | none => none) := k_ia rfl
theorem s_112_19 (d L n : Nat) (scr : Nat → Int32) (call : Nat → List Value → am_H → Option am_X) (lv : am_L) (st : List Value) (h : am_H) : am_f d scr L call 112 (n + 1) 19 lv st h = (match am_ld lv 1 with
    | some (.int x) => am_f d scr L call 112 n 20 lv (.int x :: st) h
    | _ => none) := k_li (i := .iload_n 1) rfl rfl rfl rfl
theorem s_112_20 (d L n : Nat) (scr : Nat → Int32) (call : Nat → List Value → am_H → Option am_X) (lv : am_L) (st : List Value) (h : am_H) (x y : Int32) : am_f d scr L call 112 (n + 1) 20 lv (.int y :: .int x :: st) h = if ¬ x = y then am_f d scr L call 112 n 48 lv st h else am_f d scr L call 112 n 23 lv st h := k_ic_ne (o := 28) rfl ⟨by decide, rfl⟩
theorem s_112_23 (d L n : Nat) (scr : Nat → Int32) (call : Nat → List Value → am_H → Option am_X) (lv : am_L) (st : List Value) (h : am_H) : am_f d scr L call 112 (n + 1) 23 lv st h = (match am_ld lv 0 with
    | some (.ref x) => am_f d scr L call 112 n 24 lv (.ref x :: st) h
    | _ => none) := k_la (i := .aload_n 0) rfl rfl rfl rfl
theorem s_112_24 (d L n : Nat) (scr : Nat → Int32) (call : Nat → List Value → am_H → Option am_X) (lv : am_L) (st : List Value) (h : am_H) (a : Nat) : am_f d scr L call 112 (n + 1) 24 lv (.ref a :: st) h = (match am_get h a 8 33 with
    | some v => am_f d scr L call 112 n 27 lv (v :: st) h
    | none => none) := k_gf (k := 72) rfl rfl
theorem s_112_27 (d L n : Nat) (scr : Nat → Int32) (call : Nat → List Value → am_H → Option am_X) (lv : am_L) (st : List Value) (h : am_H) : am_f d scr L call 112 (n + 1) 27 lv st h = (match am_ld lv 4 with
    | some (.int x) => am_f d scr L call 112 n 29 lv (.int x :: st) h
    | _ => none) := k_li (i := .iload 4) rfl rfl rfl rfl
theorem s_112_29 (d L n : Nat) (scr : Nat → Int32) (call : Nat → List Value → am_H → Option am_X) (lv : am_L) (st : List Value) (h : am_H) (a : Nat) (i : Int32) : am_f d scr L call 112 (n + 1) 29 lv (.int i :: .ref a :: st) h = (match am_ild scr L h a i with
    | some x => am_f d scr L call 112 n 30 lv (.int x :: st) h
    | none => none) := k_ia rfl
theorem s_112_30 (d L n : Nat) (scr : Nat → Int32) (call : Nat → List Value → am_H → Option am_X) (lv : am_L) (st : List Value) (h : am_H) : am_f d scr L call 112 (n + 1) 30 lv st h = (match am_ld lv 2 with
    | some (.int x) => am_f d scr L call 112 n 31 lv (.int x :: st) h
    | _ => none) := k_li (i := .iload_n 2) rfl rfl rfl rfl
theorem s_112_31 (d L n : Nat) (scr : Nat → Int32) (call : Nat → List Value → am_H → Option am_X) (lv : am_L) (st : List Value) (h : am_H) (x y : Int32) : am_f d scr L call 112 (n + 1) 31 lv (.int y :: .int x :: st) h = if ¬ x = y then am_f d scr L call 112 n 48 lv st h else am_f d scr L call 112 n 34 lv st h := k_ic_ne (o := 17) rfl ⟨by decide, rfl⟩
theorem s_112_34 (d L n : Nat) (scr : Nat → Int32) (call : Nat → List Value → am_H → Option am_X) (lv : am_L) (st : List Value) (h : am_H) : am_f d scr L call 112 (n + 1) 34 lv st h = (match am_ld lv 0 with
    | some (.ref x) => am_f d scr L call 112 n 35 lv (.ref x :: st) h
    | _ => none) := k_la (i := .aload_n 0) rfl rfl rfl rfl
theorem s_112_35 (d L n : Nat) (scr : Nat → Int32) (call : Nat → List Value → am_H → Option am_X) (lv : am_L) (st : List Value) (h : am_H) (a : Nat) : am_f d scr L call 112 (n + 1) 35 lv (.ref a :: st) h = (match am_get h a 8 34 with
    | some v => am_f d scr L call 112 n 38 lv (v :: st) h
    | none => none) := k_gf (k := 75) rfl rfl
theorem s_112_38 (d L n : Nat) (scr : Nat → Int32) (call : Nat → List Value → am_H → Option am_X) (lv : am_L) (st : List Value) (h : am_H) : am_f d scr L call 112 (n + 1) 38 lv st h = (match am_ld lv 4 with
    | some (.int x) => am_f d scr L call 112 n 40 lv (.int x :: st) h
    | _ => none) := k_li (i := .iload 4) rfl rfl rfl rfl
theorem s_112_40 (d L n : Nat) (scr : Nat → Int32) (call : Nat → List Value → am_H → Option am_X) (lv : am_L) (st : List Value) (h : am_H) (a : Nat) (i : Int32) : am_f d scr L call 112 (n + 1) 40 lv (.int i :: .ref a :: st) h = (match am_ild scr L h a i with
    | some x => am_f d scr L call 112 n 41 lv (.int x :: st) h
    | none => none) := k_ia rfl
theorem s_112_41 (d L n : Nat) (scr : Nat → Int32) (call : Nat → List Value → am_H → Option am_X) (lv : am_L) (st : List Value) (h : am_H) : am_f d scr L call 112 (n + 1) 41 lv st h = (match am_ld lv 3 with
    | some (.int x) => am_f d scr L call 112 n 42 lv (.int x :: st) h
    | _ => none) := k_li (i := .iload_n 3) rfl rfl rfl rfl
theorem s_112_42 (d L n : Nat) (scr : Nat → Int32) (call : Nat → List Value → am_H → Option am_X) (lv : am_L) (st : List Value) (h : am_H) (x y : Int32) : am_f d scr L call 112 (n + 1) 42 lv (.int y :: .int x :: st) h = if ¬ x = y then am_f d scr L call 112 n 48 lv st h else am_f d scr L call 112 n 45 lv st h := k_ic_ne (o := 6) rfl ⟨by decide, rfl⟩
theorem s_112_45 (d L n : Nat) (scr : Nat → Int32) (call : Nat → List Value → am_H → Option am_X) (lv : am_L) (st : List Value) (h : am_H) : am_f d scr L call 112 (n + 1) 45 lv st h = (match am_ld lv 4 with
    | some (.int x) => am_f d scr L call 112 n 47 lv (.int x :: st) h
    | _ => none) := k_li (i := .iload 4) rfl rfl rfl rfl
theorem s_112_47 (d L n : Nat) (scr : Nat → Int32) (call : Nat → List Value → am_H → Option am_X) (lv : am_L) (h : am_H) (x : Int32) : am_f d scr L call 112 (n + 1) 47 lv [.int x] h = some (some (.int x), h, 0, 0) := k_ir rfl rfl
theorem s_112_48 (d L n : Nat) (scr : Nat → Int32) (call : Nat → List Value → am_H → Option am_X) (lv : am_L) (st : List Value) (h : am_H) : am_f d scr L call 112 (n + 1) 48 lv st h = (match am_ld lv 4 with
    | some (.int x) => am_f d scr L call 112 n 51 (am_st1 lv 4 (.int (x + 1))) st h
    | _ => none) := k_iinc (k := 4) (c := 1) rfl rfl (Nat.le_of_ble_eq_true rfl)
theorem s_112_51 (d L n : Nat) (scr : Nat → Int32) (call : Nat → List Value → am_H → Option am_X) (lv : am_L) (st : List Value) (h : am_H) : am_f d scr L call 112 (n + 1) 51 lv st h = am_f d scr L call 112 n 3 lv st h := k_nx (i := .goto (-48)) rfl rfl
theorem s_112_54 (d L n : Nat) (scr : Nat → Int32) (call : Nat → List Value → am_H → Option am_X) (lv : am_L) (st : List Value) (h : am_H) : am_f d scr L call 112 (n + 1) 54 lv st h = (match am_ld lv 0 with
    | some (.ref x) => am_f d scr L call 112 n 55 lv (.ref x :: st) h
    | _ => none) := k_la (i := .aload_n 0) rfl rfl rfl rfl
theorem s_112_55 (d L n : Nat) (scr : Nat → Int32) (call : Nat → List Value → am_H → Option am_X) (lv : am_L) (st : List Value) (h : am_H) (a : Nat) : am_f d scr L call 112 (n + 1) 55 lv (.ref a :: st) h = (match am_get h a 8 32 with
    | some v => am_f d scr L call 112 n 58 lv (v :: st) h
    | none => none) := k_gf (k := 69) rfl rfl
theorem s_112_58 (d L n : Nat) (scr : Nat → Int32) (call : Nat → List Value → am_H → Option am_X) (lv : am_L) (st : List Value) (h : am_H) : am_f d scr L call 112 (n + 1) 58 lv st h = (match am_ld lv 0 with
    | some (.ref x) => am_f d scr L call 112 n 59 lv (.ref x :: st) h
    | _ => none) := k_la (i := .aload_n 0) rfl rfl rfl rfl
theorem s_112_59 (d L n : Nat) (scr : Nat → Int32) (call : Nat → List Value → am_H → Option am_X) (lv : am_L) (st : List Value) (h : am_H) (a : Nat) : am_f d scr L call 112 (n + 1) 59 lv (.ref a :: st) h = (match am_get h a 8 31 with
    | some v => am_f d scr L call 112 n 62 lv (v :: st) h
    | none => none) := k_gf (k := 213) rfl rfl
theorem s_112_62 (d L n : Nat) (scr : Nat → Int32) (call : Nat → List Value → am_H → Option am_X) (lv : am_L) (st : List Value) (h : am_H) : am_f d scr L call 112 (n + 1) 62 lv st h = (match am_ld lv 1 with
    | some (.int x) => am_f d scr L call 112 n 63 lv (.int x :: st) h
    | _ => none) := k_li (i := .iload_n 1) rfl rfl rfl rfl
theorem s_112_63 (d L n : Nat) (scr : Nat → Int32) (call : Nat → List Value → am_H → Option am_X) (lv : am_L) (st : List Value) (h : am_H) (a : Nat) (i : Int32) (x : Int32) : am_f d scr L call 112 (n + 1) 63 lv (.int x :: .int i :: .ref a :: st) h = (match am_ist h a i x with
    | some h' => am_f d scr L call 112 n 64 lv st h'
    | none => none) := k_is rfl
theorem s_112_64 (d L n : Nat) (scr : Nat → Int32) (call : Nat → List Value → am_H → Option am_X) (lv : am_L) (st : List Value) (h : am_H) : am_f d scr L call 112 (n + 1) 64 lv st h = (match am_ld lv 0 with
    | some (.ref x) => am_f d scr L call 112 n 65 lv (.ref x :: st) h
    | _ => none) := k_la (i := .aload_n 0) rfl rfl rfl rfl
theorem s_112_65 (d L n : Nat) (scr : Nat → Int32) (call : Nat → List Value → am_H → Option am_X) (lv : am_L) (st : List Value) (h : am_H) (a : Nat) : am_f d scr L call 112 (n + 1) 65 lv (.ref a :: st) h = (match am_get h a 8 33 with
    | some v => am_f d scr L call 112 n 68 lv (v :: st) h
    | none => none) := k_gf (k := 72) rfl rfl
theorem s_112_68 (d L n : Nat) (scr : Nat → Int32) (call : Nat → List Value → am_H → Option am_X) (lv : am_L) (st : List Value) (h : am_H) : am_f d scr L call 112 (n + 1) 68 lv st h = (match am_ld lv 0 with
    | some (.ref x) => am_f d scr L call 112 n 69 lv (.ref x :: st) h
    | _ => none) := k_la (i := .aload_n 0) rfl rfl rfl rfl
theorem s_112_69 (d L n : Nat) (scr : Nat → Int32) (call : Nat → List Value → am_H → Option am_X) (lv : am_L) (st : List Value) (h : am_H) (a : Nat) : am_f d scr L call 112 (n + 1) 69 lv (.ref a :: st) h = (match am_get h a 8 31 with
    | some v => am_f d scr L call 112 n 72 lv (v :: st) h
    | none => none) := k_gf (k := 213) rfl rfl
theorem s_112_72 (d L n : Nat) (scr : Nat → Int32) (call : Nat → List Value → am_H → Option am_X) (lv : am_L) (st : List Value) (h : am_H) : am_f d scr L call 112 (n + 1) 72 lv st h = (match am_ld lv 2 with
    | some (.int x) => am_f d scr L call 112 n 73 lv (.int x :: st) h
    | _ => none) := k_li (i := .iload_n 2) rfl rfl rfl rfl
theorem s_112_73 (d L n : Nat) (scr : Nat → Int32) (call : Nat → List Value → am_H → Option am_X) (lv : am_L) (st : List Value) (h : am_H) (a : Nat) (i : Int32) (x : Int32) : am_f d scr L call 112 (n + 1) 73 lv (.int x :: .int i :: .ref a :: st) h = (match am_ist h a i x with
    | some h' => am_f d scr L call 112 n 74 lv st h'
    | none => none) := k_is rfl
theorem s_112_74 (d L n : Nat) (scr : Nat → Int32) (call : Nat → List Value → am_H → Option am_X) (lv : am_L) (st : List Value) (h : am_H) : am_f d scr L call 112 (n + 1) 74 lv st h = (match am_ld lv 0 with
    | some (.ref x) => am_f d scr L call 112 n 75 lv (.ref x :: st) h
    | _ => none) := k_la (i := .aload_n 0) rfl rfl rfl rfl
theorem s_112_75 (d L n : Nat) (scr : Nat → Int32) (call : Nat → List Value → am_H → Option am_X) (lv : am_L) (st : List Value) (h : am_H) (a : Nat) : am_f d scr L call 112 (n + 1) 75 lv (.ref a :: st) h = (match am_get h a 8 34 with
    | some v => am_f d scr L call 112 n 78 lv (v :: st) h
    | none => none) := k_gf (k := 75) rfl rfl
theorem s_112_78 (d L n : Nat) (scr : Nat → Int32) (call : Nat → List Value → am_H → Option am_X) (lv : am_L) (st : List Value) (h : am_H) : am_f d scr L call 112 (n + 1) 78 lv st h = (match am_ld lv 0 with
    | some (.ref x) => am_f d scr L call 112 n 79 lv (.ref x :: st) h
    | _ => none) := k_la (i := .aload_n 0) rfl rfl rfl rfl
theorem s_112_79 (d L n : Nat) (scr : Nat → Int32) (call : Nat → List Value → am_H → Option am_X) (lv : am_L) (st : List Value) (h : am_H) (a : Nat) : am_f d scr L call 112 (n + 1) 79 lv (.ref a :: st) h = (match am_get h a 8 31 with
    | some v => am_f d scr L call 112 n 82 lv (v :: st) h
    | none => none) := k_gf (k := 213) rfl rfl
theorem s_112_82 (d L n : Nat) (scr : Nat → Int32) (call : Nat → List Value → am_H → Option am_X) (lv : am_L) (st : List Value) (h : am_H) : am_f d scr L call 112 (n + 1) 82 lv st h = (match am_ld lv 3 with
    | some (.int x) => am_f d scr L call 112 n 83 lv (.int x :: st) h
    | _ => none) := k_li (i := .iload_n 3) rfl rfl rfl rfl
theorem s_112_83 (d L n : Nat) (scr : Nat → Int32) (call : Nat → List Value → am_H → Option am_X) (lv : am_L) (st : List Value) (h : am_H) (a : Nat) (i : Int32) (x : Int32) : am_f d scr L call 112 (n + 1) 83 lv (.int x :: .int i :: .ref a :: st) h = (match am_ist h a i x with
    | some h' => am_f d scr L call 112 n 84 lv st h'
    | none => none) := k_is rfl
theorem s_112_84 (d L n : Nat) (scr : Nat → Int32) (call : Nat → List Value → am_H → Option am_X) (lv : am_L) (st : List Value) (h : am_H) : am_f d scr L call 112 (n + 1) 84 lv st h = (match am_ld lv 0 with
    | some (.ref x) => am_f d scr L call 112 n 85 lv (.ref x :: st) h
    | _ => none) := k_la (i := .aload_n 0) rfl rfl rfl rfl
theorem s_112_85 (d L n : Nat) (scr : Nat → Int32) (call : Nat → List Value → am_H → Option am_X) (lv : am_L) (st : List Value) (h : am_H) (x : Nat) : am_f d scr L call 112 (n + 1) 85 lv (.ref x :: st) h = am_f d scr L call 112 n 86 lv (.ref x :: .ref x :: st) h := k_nx (i := .dup) rfl rfl
theorem s_112_86 (d L n : Nat) (scr : Nat → Int32) (call : Nat → List Value → am_H → Option am_X) (lv : am_L) (st : List Value) (h : am_H) (a : Nat) : am_f d scr L call 112 (n + 1) 86 lv (.ref a :: st) h = (match am_get h a 8 31 with
    | some v => am_f d scr L call 112 n 89 lv (v :: st) h
    | none => none) := k_gf (k := 213) rfl rfl
theorem s_112_89 (d L n : Nat) (scr : Nat → Int32) (call : Nat → List Value → am_H → Option am_X) (lv : am_L) (st : List Value) (h : am_H) : am_f d scr L call 112 (n + 1) 89 lv st h = am_f d scr L call 112 n 90 lv (.int 1 :: st) h := k_nx (i := .iconst 1) rfl rfl
theorem s_112_90 (d L n : Nat) (scr : Nat → Int32) (call : Nat → List Value → am_H → Option am_X) (lv : am_L) (st : List Value) (h : am_H) (x y : Int32) : am_f d scr L call 112 (n + 1) 90 lv (.int y :: .int x :: st) h = am_f d scr L call 112 n 91 lv (.int (x + y) :: st) h := k_nx (i := .iadd) rfl rfl
theorem s_112_91 (d L n : Nat) (scr : Nat → Int32) (call : Nat → List Value → am_H → Option am_X) (lv : am_L) (st : List Value) (h : am_H) (x : Int32) (a : Nat) : am_f d scr L call 112 (n + 1) 91 lv (.int x :: .ref a :: st) h = (match am_put h a 8 31 (.int x) with
    | some h' => am_f d scr L call 112 n 94 lv st h'
    | none => none) := k_pf (k := 213) rfl rfl rfl
theorem s_112_94 (d L n : Nat) (scr : Nat → Int32) (call : Nat → List Value → am_H → Option am_X) (lv : am_L) (st : List Value) (h : am_H) : am_f d scr L call 112 (n + 1) 94 lv st h = (match am_ld lv 0 with
    | some (.ref x) => am_f d scr L call 112 n 95 lv (.ref x :: st) h
    | _ => none) := k_la (i := .aload_n 0) rfl rfl rfl rfl
theorem s_112_95 (d L n : Nat) (scr : Nat → Int32) (call : Nat → List Value → am_H → Option am_X) (lv : am_L) (st : List Value) (h : am_H) (a : Nat) : am_f d scr L call 112 (n + 1) 95 lv (.ref a :: st) h = (match am_get h a 8 31 with
    | some v => am_f d scr L call 112 n 98 lv (v :: st) h
    | none => none) := k_gf (k := 213) rfl rfl
theorem s_112_98 (d L n : Nat) (scr : Nat → Int32) (call : Nat → List Value → am_H → Option am_X) (lv : am_L) (st : List Value) (h : am_H) : am_f d scr L call 112 (n + 1) 98 lv st h = am_f d scr L call 112 n 99 lv (.int 1 :: st) h := k_nx (i := .iconst 1) rfl rfl
theorem s_112_99 (d L n : Nat) (scr : Nat → Int32) (call : Nat → List Value → am_H → Option am_X) (lv : am_L) (st : List Value) (h : am_H) (x y : Int32) : am_f d scr L call 112 (n + 1) 99 lv (.int y :: .int x :: st) h = am_f d scr L call 112 n 100 lv (.int (x - y) :: st) h := k_nx (i := .isub) rfl rfl
theorem s_112_100 (d L n : Nat) (scr : Nat → Int32) (call : Nat → List Value → am_H → Option am_X) (lv : am_L) (h : am_H) (x : Int32) : am_f d scr L call 112 (n + 1) 100 lv [.int x] h = some (some (.int x), h, 0, 0) := k_ir rfl rfl
-- 113: BlameDeskModel.end(I)V
theorem s_113_0 (d L n : Nat) (scr : Nat → Int32) (call : Nat → List Value → am_H → Option am_X) (lv : am_L) (st : List Value) (h : am_H) : am_f d scr L call 113 (n + 1) 0 lv st h = (match am_ld lv 0 with
    | some (.ref x) => am_f d scr L call 113 n 1 lv (.ref x :: st) h
    | _ => none) := k_la (i := .aload_n 0) rfl rfl rfl rfl
theorem s_113_1 (d L n : Nat) (scr : Nat → Int32) (call : Nat → List Value → am_H → Option am_X) (lv : am_L) (st : List Value) (h : am_H) : am_f d scr L call 113 (n + 1) 1 lv st h = (match am_ld lv 1 with
    | some (.int x) => am_f d scr L call 113 n 2 lv (.int x :: st) h
    | _ => none) := k_li (i := .iload_n 1) rfl rfl rfl rfl
theorem s_113_2 (d L n : Nat) (scr : Nat → Int32) (call : Nat → List Value → am_H → Option am_X) (lv : am_L) (st : List Value) (h : am_H) (x : Int32) (a : Nat) : am_f d scr L call 113 (n + 1) 2 lv (.int x :: .ref a :: st) h = (match am_put h a 8 51 (.int x) with
    | some h' => am_f d scr L call 113 n 5 lv st h'
    | none => none) := k_pf (k := 216) rfl rfl rfl
theorem s_113_5 (d L n : Nat) (scr : Nat → Int32) (call : Nat → List Value → am_H → Option am_X) (lv : am_L) (h : am_H) : am_f d scr L call 113 (n + 1) 5 lv [] h = some (none, h, 0, 0) := k_vr rfl rfl
-- 114: BlameDeskModel.cast(IIII)I
theorem s_114_0 (d L n : Nat) (scr : Nat → Int32) (call : Nat → List Value → am_H → Option am_X) (lv : am_L) (st : List Value) (h : am_H) : am_f d scr L call 114 (n + 1) 0 lv st h = (match am_ld lv 1 with
    | some (.int x) => am_f d scr L call 114 n 1 lv (.int x :: st) h
    | _ => none) := k_li (i := .iload_n 1) rfl rfl rfl rfl
theorem s_114_1 (d L n : Nat) (scr : Nat → Int32) (call : Nat → List Value → am_H → Option am_X) (lv : am_L) (st : List Value) (h : am_H) (x : Int32) : am_f d scr L call 114 (n + 1) 1 lv (.int x :: st) h = am_f d scr L call 114 n 3 (am_st1 lv 5 (.int x)) st h := k_nx (i := .istore 5) rfl rfl
theorem s_114_3 (d L n : Nat) (scr : Nat → Int32) (call : Nat → List Value → am_H → Option am_X) (lv : am_L) (st : List Value) (h : am_H) : am_f d scr L call 114 (n + 1) 3 lv st h = (match am_ld lv 2 with
    | some (.int x) => am_f d scr L call 114 n 4 lv (.int x :: st) h
    | _ => none) := k_li (i := .iload_n 2) rfl rfl rfl rfl
theorem s_114_4 (d L n : Nat) (scr : Nat → Int32) (call : Nat → List Value → am_H → Option am_X) (lv : am_L) (st : List Value) (h : am_H) (x : Int32) : am_f d scr L call 114 (n + 1) 4 lv (.int x :: st) h = am_f d scr L call 114 n 6 (am_st1 lv 6 (.int x)) st h := k_nx (i := .istore 6) rfl rfl
theorem s_114_6 (d L n : Nat) (scr : Nat → Int32) (call : Nat → List Value → am_H → Option am_X) (lv : am_L) (st : List Value) (h : am_H) : am_f d scr L call 114 (n + 1) 6 lv st h = (match am_ld lv 6 with
    | some (.int x) => am_f d scr L call 114 n 8 lv (.int x :: st) h
    | _ => none) := k_li (i := .iload 6) rfl rfl rfl rfl
theorem s_114_8 (d L n : Nat) (scr : Nat → Int32) (call : Nat → List Value → am_H → Option am_X) (lv : am_L) (st : List Value) (h : am_H) : am_f d scr L call 114 (n + 1) 8 lv st h = am_f d scr L call 114 n 9 lv (.int 2 :: st) h := k_nx (i := .iconst 2) rfl rfl
theorem s_114_9 (d L n : Nat) (scr : Nat → Int32) (call : Nat → List Value → am_H → Option am_X) (lv : am_L) (st : List Value) (h : am_H) (x y : Int32) : am_f d scr L call 114 (n + 1) 9 lv (.int y :: .int x :: st) h = if ¬ x = y then am_f d scr L call 114 n 63 lv st h else am_f d scr L call 114 n 12 lv st h := k_ic_ne (o := 54) rfl ⟨by decide, rfl⟩
theorem s_114_12 (d L n : Nat) (scr : Nat → Int32) (call : Nat → List Value → am_H → Option am_X) (lv : am_L) (st : List Value) (h : am_H) : am_f d scr L call 114 (n + 1) 12 lv st h = (match am_ld lv 3 with
    | some (.int x) => am_f d scr L call 114 n 13 lv (.int x :: st) h
    | _ => none) := k_li (i := .iload_n 3) rfl rfl rfl rfl
theorem s_114_13 (d L n : Nat) (scr : Nat → Int32) (call : Nat → List Value → am_H → Option am_X) (lv : am_L) (st : List Value) (h : am_H) : am_f d scr L call 114 (n + 1) 13 lv st h = am_f d scr L call 114 n 14 lv (.int 2 :: st) h := k_nx (i := .iconst 2) rfl rfl
theorem s_114_14 (d L n : Nat) (scr : Nat → Int32) (call : Nat → List Value → am_H → Option am_X) (lv : am_L) (st : List Value) (h : am_H) (x y : Int32) : am_f d scr L call 114 (n + 1) 14 lv (.int y :: .int x :: st) h = if x = y then am_f d scr L call 114 n 63 lv st h else am_f d scr L call 114 n 17 lv st h := k_ic_eq (o := 49) rfl ⟨by decide, rfl⟩
theorem s_114_17 (d L n : Nat) (scr : Nat → Int32) (call : Nat → List Value → am_H → Option am_X) (lv : am_L) (st : List Value) (h : am_H) : am_f d scr L call 114 (n + 1) 17 lv st h = (match am_ld lv 0 with
    | some (.ref x) => am_f d scr L call 114 n 18 lv (.ref x :: st) h
    | _ => none) := k_la (i := .aload_n 0) rfl rfl rfl rfl
theorem s_114_18 (d L n : Nat) (scr : Nat → Int32) (call : Nat → List Value → am_H → Option am_X) (lv : am_L) (st : List Value) (h : am_H) (a : Nat) : am_f d scr L call 114 (n + 1) 18 lv (.ref a :: st) h = (match am_get h a 8 34 with
    | some v => am_f d scr L call 114 n 21 lv (v :: st) h
    | none => none) := k_gf (k := 75) rfl rfl
theorem s_114_21 (d L n : Nat) (scr : Nat → Int32) (call : Nat → List Value → am_H → Option am_X) (lv : am_L) (st : List Value) (h : am_H) : am_f d scr L call 114 (n + 1) 21 lv st h = (match am_ld lv 5 with
    | some (.int x) => am_f d scr L call 114 n 23 lv (.int x :: st) h
    | _ => none) := k_li (i := .iload 5) rfl rfl rfl rfl
theorem s_114_23 (d L n : Nat) (scr : Nat → Int32) (call : Nat → List Value → am_H → Option am_X) (lv : am_L) (st : List Value) (h : am_H) (a : Nat) (i : Int32) : am_f d scr L call 114 (n + 1) 23 lv (.int i :: .ref a :: st) h = (match am_ild scr L h a i with
    | some x => am_f d scr L call 114 n 24 lv (.int x :: st) h
    | none => none) := k_ia rfl
theorem s_114_24 (d L n : Nat) (scr : Nat → Int32) (call : Nat → List Value → am_H → Option am_X) (lv : am_L) (st : List Value) (h : am_H) : am_f d scr L call 114 (n + 1) 24 lv st h = (match am_ld lv 0 with
    | some (.ref x) => am_f d scr L call 114 n 25 lv (.ref x :: st) h
    | _ => none) := k_la (i := .aload_n 0) rfl rfl rfl rfl
theorem s_114_25 (d L n : Nat) (scr : Nat → Int32) (call : Nat → List Value → am_H → Option am_X) (lv : am_L) (st : List Value) (h : am_H) : am_f d scr L call 114 (n + 1) 25 lv st h = (match am_ld lv 3 with
    | some (.int x) => am_f d scr L call 114 n 26 lv (.int x :: st) h
    | _ => none) := k_li (i := .iload_n 3) rfl rfl rfl rfl
theorem s_114_26 (d L n : Nat) (scr : Nat → Int32) (call : Nat → List Value → am_H → Option am_X) (lv : am_L) (h : am_H) (o : Nat) (a0 : Int32) (r0 : Int32) : am_f d scr L call 114 (n + 1) 26 lv (.int a0 :: .ref o :: .int r0 :: []) h = if am_at h o 8 = true then (match call 96 [.ref o, .int a0] h with
    | some (v, h', dk, dn) => am_add dk dn (am_f d scr L call 114 n 29 lv (v.toList ++ [.int r0]) h')
    | none => none) else none := k_iv0 (k := 219) (as := [.int a0]) (r := [.int r0]) rfl rfl rfl rfl (Nat.le_of_ble_eq_true rfl)
theorem s_114_29 (d L n : Nat) (scr : Nat → Int32) (call : Nat → List Value → am_H → Option am_X) (lv : am_L) (st : List Value) (h : am_H) (x y : Int32) : am_f d scr L call 114 (n + 1) 29 lv (.int y :: .int x :: st) h = if x = y then am_f d scr L call 114 n 45 lv st h else am_f d scr L call 114 n 32 lv st h := k_ic_eq (o := 16) rfl ⟨by decide, rfl⟩
theorem s_114_32 (d L n : Nat) (scr : Nat → Int32) (call : Nat → List Value → am_H → Option am_X) (lv : am_L) (st : List Value) (h : am_H) : am_f d scr L call 114 (n + 1) 32 lv st h = (match am_ld lv 0 with
    | some (.ref x) => am_f d scr L call 114 n 33 lv (.ref x :: st) h
    | _ => none) := k_la (i := .aload_n 0) rfl rfl rfl rfl
theorem s_114_33 (d L n : Nat) (scr : Nat → Int32) (call : Nat → List Value → am_H → Option am_X) (lv : am_L) (st : List Value) (h : am_H) : am_f d scr L call 114 (n + 1) 33 lv st h = (match am_ld lv 4 with
    | some (.int x) => am_f d scr L call 114 n 35 lv (.int x :: st) h
    | _ => none) := k_li (i := .iload 4) rfl rfl rfl rfl
theorem s_114_35 (d L n : Nat) (scr : Nat → Int32) (call : Nat → List Value → am_H → Option am_X) (lv : am_L) (st : List Value) (h : am_H) (x : Int32) (a : Nat) : am_f d scr L call 114 (n + 1) 35 lv (.int x :: .ref a :: st) h = (match am_put h a 8 54 (.int x) with
    | some h' => am_f d scr L call 114 n 38 lv st h'
    | none => none) := k_pf (k := 222) rfl rfl rfl
theorem s_114_38 (d L n : Nat) (scr : Nat → Int32) (call : Nat → List Value → am_H → Option am_X) (lv : am_L) (st : List Value) (h : am_H) : am_f d scr L call 114 (n + 1) 38 lv st h = (match am_ld lv 0 with
    | some (.ref x) => am_f d scr L call 114 n 39 lv (.ref x :: st) h
    | _ => none) := k_la (i := .aload_n 0) rfl rfl rfl rfl
theorem s_114_39 (d L n : Nat) (scr : Nat → Int32) (call : Nat → List Value → am_H → Option am_X) (lv : am_L) (st : List Value) (h : am_H) : am_f d scr L call 114 (n + 1) 39 lv st h = am_f d scr L call 114 n 40 lv (.int 2 :: st) h := k_nx (i := .iconst 2) rfl rfl
theorem s_114_40 (d L n : Nat) (scr : Nat → Int32) (call : Nat → List Value → am_H → Option am_X) (lv : am_L) (h : am_H) (o : Nat) (a0 : Int32)  : am_f d scr L call 114 (n + 1) 40 lv (.int a0 :: .ref o :: []) h = if am_at h o 8 = true then (match call 113 [.ref o, .int a0] h with
    | some (v, h', dk, dn) => am_add dk dn (am_f d scr L call 114 n 43 lv (v.toList ++ []) h')
    | none => none) else none := k_iv0 (k := 225) (as := [.int a0]) (r := []) rfl rfl rfl rfl (Nat.le_of_ble_eq_true rfl)
theorem s_114_43 (d L n : Nat) (scr : Nat → Int32) (call : Nat → List Value → am_H → Option am_X) (lv : am_L) (st : List Value) (h : am_H) : am_f d scr L call 114 (n + 1) 43 lv st h = (match am_ld lv 1 with
    | some (.int x) => am_f d scr L call 114 n 44 lv (.int x :: st) h
    | _ => none) := k_li (i := .iload_n 1) rfl rfl rfl rfl
theorem s_114_44 (d L n : Nat) (scr : Nat → Int32) (call : Nat → List Value → am_H → Option am_X) (lv : am_L) (h : am_H) (x : Int32) : am_f d scr L call 114 (n + 1) 44 lv [.int x] h = some (some (.int x), h, 0, 0) := k_ir rfl rfl
theorem s_114_45 (d L n : Nat) (scr : Nat → Int32) (call : Nat → List Value → am_H → Option am_X) (lv : am_L) (st : List Value) (h : am_H) : am_f d scr L call 114 (n + 1) 45 lv st h = (match am_ld lv 0 with
    | some (.ref x) => am_f d scr L call 114 n 46 lv (.ref x :: st) h
    | _ => none) := k_la (i := .aload_n 0) rfl rfl rfl rfl
theorem s_114_46 (d L n : Nat) (scr : Nat → Int32) (call : Nat → List Value → am_H → Option am_X) (lv : am_L) (st : List Value) (h : am_H) (a : Nat) : am_f d scr L call 114 (n + 1) 46 lv (.ref a :: st) h = (match am_get h a 8 34 with
    | some v => am_f d scr L call 114 n 49 lv (v :: st) h
    | none => none) := k_gf (k := 75) rfl rfl
theorem s_114_49 (d L n : Nat) (scr : Nat → Int32) (call : Nat → List Value → am_H → Option am_X) (lv : am_L) (st : List Value) (h : am_H) : am_f d scr L call 114 (n + 1) 49 lv st h = (match am_ld lv 5 with
    | some (.int x) => am_f d scr L call 114 n 51 lv (.int x :: st) h
    | _ => none) := k_li (i := .iload 5) rfl rfl rfl rfl
theorem s_114_51 (d L n : Nat) (scr : Nat → Int32) (call : Nat → List Value → am_H → Option am_X) (lv : am_L) (st : List Value) (h : am_H) (a : Nat) (i : Int32) : am_f d scr L call 114 (n + 1) 51 lv (.int i :: .ref a :: st) h = (match am_ild scr L h a i with
    | some x => am_f d scr L call 114 n 52 lv (.int x :: st) h
    | none => none) := k_ia rfl
theorem s_114_52 (d L n : Nat) (scr : Nat → Int32) (call : Nat → List Value → am_H → Option am_X) (lv : am_L) (st : List Value) (h : am_H) (x : Int32) : am_f d scr L call 114 (n + 1) 52 lv (.int x :: st) h = am_f d scr L call 114 n 54 (am_st1 lv 6 (.int x)) st h := k_nx (i := .istore 6) rfl rfl
theorem s_114_54 (d L n : Nat) (scr : Nat → Int32) (call : Nat → List Value → am_H → Option am_X) (lv : am_L) (st : List Value) (h : am_H) : am_f d scr L call 114 (n + 1) 54 lv st h = (match am_ld lv 0 with
    | some (.ref x) => am_f d scr L call 114 n 55 lv (.ref x :: st) h
    | _ => none) := k_la (i := .aload_n 0) rfl rfl rfl rfl
theorem s_114_55 (d L n : Nat) (scr : Nat → Int32) (call : Nat → List Value → am_H → Option am_X) (lv : am_L) (st : List Value) (h : am_H) (a : Nat) : am_f d scr L call 114 (n + 1) 55 lv (.ref a :: st) h = (match am_get h a 8 33 with
    | some v => am_f d scr L call 114 n 58 lv (v :: st) h
    | none => none) := k_gf (k := 72) rfl rfl
theorem s_114_58 (d L n : Nat) (scr : Nat → Int32) (call : Nat → List Value → am_H → Option am_X) (lv : am_L) (st : List Value) (h : am_H) : am_f d scr L call 114 (n + 1) 58 lv st h = (match am_ld lv 5 with
    | some (.int x) => am_f d scr L call 114 n 60 lv (.int x :: st) h
    | _ => none) := k_li (i := .iload 5) rfl rfl rfl rfl
theorem s_114_60 (d L n : Nat) (scr : Nat → Int32) (call : Nat → List Value → am_H → Option am_X) (lv : am_L) (st : List Value) (h : am_H) (a : Nat) (i : Int32) : am_f d scr L call 114 (n + 1) 60 lv (.int i :: .ref a :: st) h = (match am_ild scr L h a i with
    | some x => am_f d scr L call 114 n 61 lv (.int x :: st) h
    | none => none) := k_ia rfl
theorem s_114_61 (d L n : Nat) (scr : Nat → Int32) (call : Nat → List Value → am_H → Option am_X) (lv : am_L) (st : List Value) (h : am_H) (x : Int32) : am_f d scr L call 114 (n + 1) 61 lv (.int x :: st) h = am_f d scr L call 114 n 63 (am_st1 lv 5 (.int x)) st h := k_nx (i := .istore 5) rfl rfl
theorem s_114_63 (d L n : Nat) (scr : Nat → Int32) (call : Nat → List Value → am_H → Option am_X) (lv : am_L) (st : List Value) (h : am_H) : am_f d scr L call 114 (n + 1) 63 lv st h = (match am_ld lv 3 with
    | some (.int x) => am_f d scr L call 114 n 64 lv (.int x :: st) h
    | _ => none) := k_li (i := .iload_n 3) rfl rfl rfl rfl
theorem s_114_64 (d L n : Nat) (scr : Nat → Int32) (call : Nat → List Value → am_H → Option am_X) (lv : am_L) (st : List Value) (h : am_H) : am_f d scr L call 114 (n + 1) 64 lv st h = am_f d scr L call 114 n 65 lv (.int 2 :: st) h := k_nx (i := .iconst 2) rfl rfl
theorem s_114_65 (d L n : Nat) (scr : Nat → Int32) (call : Nat → List Value → am_H → Option am_X) (lv : am_L) (st : List Value) (h : am_H) (x y : Int32) : am_f d scr L call 114 (n + 1) 65 lv (.int y :: .int x :: st) h = if ¬ x = y then am_f d scr L call 114 n 83 lv st h else am_f d scr L call 114 n 68 lv st h := k_ic_ne (o := 18) rfl ⟨by decide, rfl⟩
theorem s_114_68 (d L n : Nat) (scr : Nat → Int32) (call : Nat → List Value → am_H → Option am_X) (lv : am_L) (st : List Value) (h : am_H) : am_f d scr L call 114 (n + 1) 68 lv st h = (match am_ld lv 6 with
    | some (.int x) => am_f d scr L call 114 n 70 lv (.int x :: st) h
    | _ => none) := k_li (i := .iload 6) rfl rfl rfl rfl
theorem s_114_70 (d L n : Nat) (scr : Nat → Int32) (call : Nat → List Value → am_H → Option am_X) (lv : am_L) (st : List Value) (h : am_H) : am_f d scr L call 114 (n + 1) 70 lv st h = am_f d scr L call 114 n 71 lv (.int 2 :: st) h := k_nx (i := .iconst 2) rfl rfl
theorem s_114_71 (d L n : Nat) (scr : Nat → Int32) (call : Nat → List Value → am_H → Option am_X) (lv : am_L) (st : List Value) (h : am_H) (x y : Int32) : am_f d scr L call 114 (n + 1) 71 lv (.int y :: .int x :: st) h = if x = y then am_f d scr L call 114 n 83 lv st h else am_f d scr L call 114 n 74 lv st h := k_ic_eq (o := 12) rfl ⟨by decide, rfl⟩
theorem s_114_74 (d L n : Nat) (scr : Nat → Int32) (call : Nat → List Value → am_H → Option am_X) (lv : am_L) (st : List Value) (h : am_H) : am_f d scr L call 114 (n + 1) 74 lv st h = (match am_ld lv 0 with
    | some (.ref x) => am_f d scr L call 114 n 75 lv (.ref x :: st) h
    | _ => none) := k_la (i := .aload_n 0) rfl rfl rfl rfl
theorem s_114_75 (d L n : Nat) (scr : Nat → Int32) (call : Nat → List Value → am_H → Option am_X) (lv : am_L) (st : List Value) (h : am_H) : am_f d scr L call 114 (n + 1) 75 lv st h = (match am_ld lv 6 with
    | some (.int x) => am_f d scr L call 114 n 77 lv (.int x :: st) h
    | _ => none) := k_li (i := .iload 6) rfl rfl rfl rfl
theorem s_114_77 (d L n : Nat) (scr : Nat → Int32) (call : Nat → List Value → am_H → Option am_X) (lv : am_L) (h : am_H) (o : Nat) (a0 : Int32)  : am_f d scr L call 114 (n + 1) 77 lv (.int a0 :: .ref o :: []) h = if am_at h o 8 = true then (match call 96 [.ref o, .int a0] h with
    | some (v, h', dk, dn) => am_add dk dn (am_f d scr L call 114 n 80 lv (v.toList ++ []) h')
    | none => none) else none := k_iv0 (k := 219) (as := [.int a0]) (r := []) rfl rfl rfl rfl (Nat.le_of_ble_eq_true rfl)
theorem s_114_80 (d L n : Nat) (scr : Nat → Int32) (call : Nat → List Value → am_H → Option am_X) (lv : am_L) (st : List Value) (h : am_H) : am_f d scr L call 114 (n + 1) 80 lv st h = am_f d scr L call 114 n 84 lv st h := k_nx (i := .goto 4) rfl rfl
theorem s_114_83 (d L n : Nat) (scr : Nat → Int32) (call : Nat → List Value → am_H → Option am_X) (lv : am_L) (st : List Value) (h : am_H) : am_f d scr L call 114 (n + 1) 83 lv st h = (match am_ld lv 3 with
    | some (.int x) => am_f d scr L call 114 n 84 lv (.int x :: st) h
    | _ => none) := k_li (i := .iload_n 3) rfl rfl rfl rfl
theorem s_114_84 (d L n : Nat) (scr : Nat → Int32) (call : Nat → List Value → am_H → Option am_X) (lv : am_L) (st : List Value) (h : am_H) (x : Int32) : am_f d scr L call 114 (n + 1) 84 lv (.int x :: st) h = am_f d scr L call 114 n 86 (am_st1 lv 7 (.int x)) st h := k_nx (i := .istore 7) rfl rfl
theorem s_114_86 (d L n : Nat) (scr : Nat → Int32) (call : Nat → List Value → am_H → Option am_X) (lv : am_L) (st : List Value) (h : am_H) : am_f d scr L call 114 (n + 1) 86 lv st h = (match am_ld lv 6 with
    | some (.int x) => am_f d scr L call 114 n 88 lv (.int x :: st) h
    | _ => none) := k_li (i := .iload 6) rfl rfl rfl rfl
theorem s_114_88 (d L n : Nat) (scr : Nat → Int32) (call : Nat → List Value → am_H → Option am_X) (lv : am_L) (st : List Value) (h : am_H) : am_f d scr L call 114 (n + 1) 88 lv st h = (match am_ld lv 7 with
    | some (.int x) => am_f d scr L call 114 n 90 lv (.int x :: st) h
    | _ => none) := k_li (i := .iload 7) rfl rfl rfl rfl
theorem s_114_90 (d L n : Nat) (scr : Nat → Int32) (call : Nat → List Value → am_H → Option am_X) (lv : am_L) (st : List Value) (h : am_H) (x y : Int32) : am_f d scr L call 114 (n + 1) 90 lv (.int y :: .int x :: st) h = if x = y then am_f d scr L call 114 n 178 lv st h else am_f d scr L call 114 n 93 lv st h := k_ic_eq (o := 88) rfl ⟨by decide, rfl⟩
theorem s_114_93 (d L n : Nat) (scr : Nat → Int32) (call : Nat → List Value → am_H → Option am_X) (lv : am_L) (st : List Value) (h : am_H) : am_f d scr L call 114 (n + 1) 93 lv st h = (match am_ld lv 0 with
    | some (.ref x) => am_f d scr L call 114 n 94 lv (.ref x :: st) h
    | _ => none) := k_la (i := .aload_n 0) rfl rfl rfl rfl
theorem s_114_94 (d L n : Nat) (scr : Nat → Int32) (call : Nat → List Value → am_H → Option am_X) (lv : am_L) (st : List Value) (h : am_H) (a : Nat) : am_f d scr L call 114 (n + 1) 94 lv (.ref a :: st) h = (match am_get h a 8 35 with
    | some v => am_f d scr L call 114 n 97 lv (v :: st) h
    | none => none) := k_gf (k := 228) rfl rfl
theorem s_114_97 (d L n : Nat) (scr : Nat → Int32) (call : Nat → List Value → am_H → Option am_X) (lv : am_L) (st : List Value) (h : am_H) : am_f d scr L call 114 (n + 1) 97 lv st h = am_f d scr L call 114 n 100 lv (.int 200 :: st) h := k_nx (i := .sipush 200) rfl rfl
theorem s_114_100 (d L n : Nat) (scr : Nat → Int32) (call : Nat → List Value → am_H → Option am_X) (lv : am_L) (st : List Value) (h : am_H) (x y : Int32) : am_f d scr L call 114 (n + 1) 100 lv (.int y :: .int x :: st) h = if ¬ x = y then am_f d scr L call 114 n 110 lv st h else am_f d scr L call 114 n 103 lv st h := k_ic_ne (o := 10) rfl ⟨by decide, rfl⟩
theorem s_114_103 (d L n : Nat) (scr : Nat → Int32) (call : Nat → List Value → am_H → Option am_X) (lv : am_L) (st : List Value) (h : am_H) : am_f d scr L call 114 (n + 1) 103 lv st h = (match am_ld lv 0 with
    | some (.ref x) => am_f d scr L call 114 n 104 lv (.ref x :: st) h
    | _ => none) := k_la (i := .aload_n 0) rfl rfl rfl rfl
theorem s_114_104 (d L n : Nat) (scr : Nat → Int32) (call : Nat → List Value → am_H → Option am_X) (lv : am_L) (st : List Value) (h : am_H) : am_f d scr L call 114 (n + 1) 104 lv st h = am_f d scr L call 114 n 105 lv (.int 4 :: st) h := k_nx (i := .iconst 4) rfl rfl
theorem s_114_105 (d L n : Nat) (scr : Nat → Int32) (call : Nat → List Value → am_H → Option am_X) (lv : am_L) (h : am_H) (o : Nat) (a0 : Int32)  : am_f d scr L call 114 (n + 1) 105 lv (.int a0 :: .ref o :: []) h = if am_at h o 8 = true then (match call 113 [.ref o, .int a0] h with
    | some (v, h', dk, dn) => am_add dk dn (am_f d scr L call 114 n 108 lv (v.toList ++ []) h')
    | none => none) else none := k_iv0 (k := 225) (as := [.int a0]) (r := []) rfl rfl rfl rfl (Nat.le_of_ble_eq_true rfl)
theorem s_114_108 (d L n : Nat) (scr : Nat → Int32) (call : Nat → List Value → am_H → Option am_X) (lv : am_L) (st : List Value) (h : am_H) : am_f d scr L call 114 (n + 1) 108 lv st h = (match am_ld lv 1 with
    | some (.int x) => am_f d scr L call 114 n 109 lv (.int x :: st) h
    | _ => none) := k_li (i := .iload_n 1) rfl rfl rfl rfl
theorem s_114_109 (d L n : Nat) (scr : Nat → Int32) (call : Nat → List Value → am_H → Option am_X) (lv : am_L) (h : am_H) (x : Int32) : am_f d scr L call 114 (n + 1) 109 lv [.int x] h = some (some (.int x), h, 0, 0) := k_ir rfl rfl
theorem s_114_110 (d L n : Nat) (scr : Nat → Int32) (call : Nat → List Value → am_H → Option am_X) (lv : am_L) (st : List Value) (h : am_H) : am_f d scr L call 114 (n + 1) 110 lv st h = (match am_ld lv 0 with
    | some (.ref x) => am_f d scr L call 114 n 111 lv (.ref x :: st) h
    | _ => none) := k_la (i := .aload_n 0) rfl rfl rfl rfl
theorem s_114_111 (d L n : Nat) (scr : Nat → Int32) (call : Nat → List Value → am_H → Option am_X) (lv : am_L) (st : List Value) (h : am_H) (a : Nat) : am_f d scr L call 114 (n + 1) 111 lv (.ref a :: st) h = (match am_get h a 8 36 with
    | some v => am_f d scr L call 114 n 114 lv (v :: st) h
    | none => none) := k_gf (k := 78) rfl rfl
theorem s_114_114 (d L n : Nat) (scr : Nat → Int32) (call : Nat → List Value → am_H → Option am_X) (lv : am_L) (st : List Value) (h : am_H) : am_f d scr L call 114 (n + 1) 114 lv st h = (match am_ld lv 0 with
    | some (.ref x) => am_f d scr L call 114 n 115 lv (.ref x :: st) h
    | _ => none) := k_la (i := .aload_n 0) rfl rfl rfl rfl
theorem s_114_115 (d L n : Nat) (scr : Nat → Int32) (call : Nat → List Value → am_H → Option am_X) (lv : am_L) (st : List Value) (h : am_H) (a : Nat) : am_f d scr L call 114 (n + 1) 115 lv (.ref a :: st) h = (match am_get h a 8 35 with
    | some v => am_f d scr L call 114 n 118 lv (v :: st) h
    | none => none) := k_gf (k := 228) rfl rfl
theorem s_114_118 (d L n : Nat) (scr : Nat → Int32) (call : Nat → List Value → am_H → Option am_X) (lv : am_L) (st : List Value) (h : am_H) : am_f d scr L call 114 (n + 1) 118 lv st h = (match am_ld lv 5 with
    | some (.int x) => am_f d scr L call 114 n 120 lv (.int x :: st) h
    | _ => none) := k_li (i := .iload 5) rfl rfl rfl rfl
theorem s_114_120 (d L n : Nat) (scr : Nat → Int32) (call : Nat → List Value → am_H → Option am_X) (lv : am_L) (st : List Value) (h : am_H) (a : Nat) (i : Int32) (x : Int32) : am_f d scr L call 114 (n + 1) 120 lv (.int x :: .int i :: .ref a :: st) h = (match am_ist h a i x with
    | some h' => am_f d scr L call 114 n 121 lv st h'
    | none => none) := k_is rfl
theorem s_114_121 (d L n : Nat) (scr : Nat → Int32) (call : Nat → List Value → am_H → Option am_X) (lv : am_L) (st : List Value) (h : am_H) : am_f d scr L call 114 (n + 1) 121 lv st h = (match am_ld lv 0 with
    | some (.ref x) => am_f d scr L call 114 n 122 lv (.ref x :: st) h
    | _ => none) := k_la (i := .aload_n 0) rfl rfl rfl rfl
theorem s_114_122 (d L n : Nat) (scr : Nat → Int32) (call : Nat → List Value → am_H → Option am_X) (lv : am_L) (st : List Value) (h : am_H) (a : Nat) : am_f d scr L call 114 (n + 1) 122 lv (.ref a :: st) h = (match am_get h a 8 37 with
    | some v => am_f d scr L call 114 n 125 lv (v :: st) h
    | none => none) := k_gf (k := 81) rfl rfl
theorem s_114_125 (d L n : Nat) (scr : Nat → Int32) (call : Nat → List Value → am_H → Option am_X) (lv : am_L) (st : List Value) (h : am_H) : am_f d scr L call 114 (n + 1) 125 lv st h = (match am_ld lv 0 with
    | some (.ref x) => am_f d scr L call 114 n 126 lv (.ref x :: st) h
    | _ => none) := k_la (i := .aload_n 0) rfl rfl rfl rfl
theorem s_114_126 (d L n : Nat) (scr : Nat → Int32) (call : Nat → List Value → am_H → Option am_X) (lv : am_L) (st : List Value) (h : am_H) (a : Nat) : am_f d scr L call 114 (n + 1) 126 lv (.ref a :: st) h = (match am_get h a 8 35 with
    | some v => am_f d scr L call 114 n 129 lv (v :: st) h
    | none => none) := k_gf (k := 228) rfl rfl
theorem s_114_129 (d L n : Nat) (scr : Nat → Int32) (call : Nat → List Value → am_H → Option am_X) (lv : am_L) (st : List Value) (h : am_H) : am_f d scr L call 114 (n + 1) 129 lv st h = (match am_ld lv 6 with
    | some (.int x) => am_f d scr L call 114 n 131 lv (.int x :: st) h
    | _ => none) := k_li (i := .iload 6) rfl rfl rfl rfl
theorem s_114_131 (d L n : Nat) (scr : Nat → Int32) (call : Nat → List Value → am_H → Option am_X) (lv : am_L) (st : List Value) (h : am_H) (a : Nat) (i : Int32) (x : Int32) : am_f d scr L call 114 (n + 1) 131 lv (.int x :: .int i :: .ref a :: st) h = (match am_ist h a i x with
    | some h' => am_f d scr L call 114 n 132 lv st h'
    | none => none) := k_is rfl
theorem s_114_132 (d L n : Nat) (scr : Nat → Int32) (call : Nat → List Value → am_H → Option am_X) (lv : am_L) (st : List Value) (h : am_H) : am_f d scr L call 114 (n + 1) 132 lv st h = (match am_ld lv 0 with
    | some (.ref x) => am_f d scr L call 114 n 133 lv (.ref x :: st) h
    | _ => none) := k_la (i := .aload_n 0) rfl rfl rfl rfl
theorem s_114_133 (d L n : Nat) (scr : Nat → Int32) (call : Nat → List Value → am_H → Option am_X) (lv : am_L) (st : List Value) (h : am_H) (a : Nat) : am_f d scr L call 114 (n + 1) 133 lv (.ref a :: st) h = (match am_get h a 8 38 with
    | some v => am_f d scr L call 114 n 136 lv (v :: st) h
    | none => none) := k_gf (k := 84) rfl rfl
theorem s_114_136 (d L n : Nat) (scr : Nat → Int32) (call : Nat → List Value → am_H → Option am_X) (lv : am_L) (st : List Value) (h : am_H) : am_f d scr L call 114 (n + 1) 136 lv st h = (match am_ld lv 0 with
    | some (.ref x) => am_f d scr L call 114 n 137 lv (.ref x :: st) h
    | _ => none) := k_la (i := .aload_n 0) rfl rfl rfl rfl
theorem s_114_137 (d L n : Nat) (scr : Nat → Int32) (call : Nat → List Value → am_H → Option am_X) (lv : am_L) (st : List Value) (h : am_H) (a : Nat) : am_f d scr L call 114 (n + 1) 137 lv (.ref a :: st) h = (match am_get h a 8 35 with
    | some v => am_f d scr L call 114 n 140 lv (v :: st) h
    | none => none) := k_gf (k := 228) rfl rfl
theorem s_114_140 (d L n : Nat) (scr : Nat → Int32) (call : Nat → List Value → am_H → Option am_X) (lv : am_L) (st : List Value) (h : am_H) : am_f d scr L call 114 (n + 1) 140 lv st h = (match am_ld lv 7 with
    | some (.int x) => am_f d scr L call 114 n 142 lv (.int x :: st) h
    | _ => none) := k_li (i := .iload 7) rfl rfl rfl rfl
theorem s_114_142 (d L n : Nat) (scr : Nat → Int32) (call : Nat → List Value → am_H → Option am_X) (lv : am_L) (st : List Value) (h : am_H) (a : Nat) (i : Int32) (x : Int32) : am_f d scr L call 114 (n + 1) 142 lv (.int x :: .int i :: .ref a :: st) h = (match am_ist h a i x with
    | some h' => am_f d scr L call 114 n 143 lv st h'
    | none => none) := k_is rfl
theorem s_114_143 (d L n : Nat) (scr : Nat → Int32) (call : Nat → List Value → am_H → Option am_X) (lv : am_L) (st : List Value) (h : am_H) : am_f d scr L call 114 (n + 1) 143 lv st h = (match am_ld lv 0 with
    | some (.ref x) => am_f d scr L call 114 n 144 lv (.ref x :: st) h
    | _ => none) := k_la (i := .aload_n 0) rfl rfl rfl rfl
theorem s_114_144 (d L n : Nat) (scr : Nat → Int32) (call : Nat → List Value → am_H → Option am_X) (lv : am_L) (st : List Value) (h : am_H) (a : Nat) : am_f d scr L call 114 (n + 1) 144 lv (.ref a :: st) h = (match am_get h a 8 39 with
    | some v => am_f d scr L call 114 n 147 lv (v :: st) h
    | none => none) := k_gf (k := 87) rfl rfl
theorem s_114_147 (d L n : Nat) (scr : Nat → Int32) (call : Nat → List Value → am_H → Option am_X) (lv : am_L) (st : List Value) (h : am_H) : am_f d scr L call 114 (n + 1) 147 lv st h = (match am_ld lv 0 with
    | some (.ref x) => am_f d scr L call 114 n 148 lv (.ref x :: st) h
    | _ => none) := k_la (i := .aload_n 0) rfl rfl rfl rfl
set_option maxRecDepth 100000 in
theorem s_114_148 (d L n : Nat) (scr : Nat → Int32) (call : Nat → List Value → am_H → Option am_X) (lv : am_L) (st : List Value) (h : am_H) (a : Nat) : am_f d scr L call 114 (n + 1) 148 lv (.ref a :: st) h = (match am_get h a 8 35 with
    | some v => am_f d scr L call 114 n 151 lv (v :: st) h
    | none => none) := k_gf (k := 228) rfl rfl
set_option maxRecDepth 100000 in
theorem s_114_151 (d L n : Nat) (scr : Nat → Int32) (call : Nat → List Value → am_H → Option am_X) (lv : am_L) (st : List Value) (h : am_H) : am_f d scr L call 114 (n + 1) 151 lv st h = (match am_ld lv 4 with
    | some (.int x) => am_f d scr L call 114 n 153 lv (.int x :: st) h
    | _ => none) := k_li (i := .iload 4) rfl rfl rfl rfl
set_option maxRecDepth 100000 in
theorem s_114_153 (d L n : Nat) (scr : Nat → Int32) (call : Nat → List Value → am_H → Option am_X) (lv : am_L) (st : List Value) (h : am_H) (a : Nat) (i : Int32) (x : Int32) : am_f d scr L call 114 (n + 1) 153 lv (.int x :: .int i :: .ref a :: st) h = (match am_ist h a i x with
    | some h' => am_f d scr L call 114 n 154 lv st h'
    | none => none) := k_is rfl
set_option maxRecDepth 100000 in
theorem s_114_154 (d L n : Nat) (scr : Nat → Int32) (call : Nat → List Value → am_H → Option am_X) (lv : am_L) (st : List Value) (h : am_H) : am_f d scr L call 114 (n + 1) 154 lv st h = (match am_ld lv 0 with
    | some (.ref x) => am_f d scr L call 114 n 155 lv (.ref x :: st) h
    | _ => none) := k_la (i := .aload_n 0) rfl rfl rfl rfl
set_option maxRecDepth 100000 in
theorem s_114_155 (d L n : Nat) (scr : Nat → Int32) (call : Nat → List Value → am_H → Option am_X) (lv : am_L) (st : List Value) (h : am_H) (x : Nat) : am_f d scr L call 114 (n + 1) 155 lv (.ref x :: st) h = am_f d scr L call 114 n 156 lv (.ref x :: .ref x :: st) h := k_nx (i := .dup) rfl rfl
set_option maxRecDepth 100000 in
theorem s_114_156 (d L n : Nat) (scr : Nat → Int32) (call : Nat → List Value → am_H → Option am_X) (lv : am_L) (st : List Value) (h : am_H) (a : Nat) : am_f d scr L call 114 (n + 1) 156 lv (.ref a :: st) h = (match am_get h a 8 35 with
    | some v => am_f d scr L call 114 n 159 lv (v :: st) h
    | none => none) := k_gf (k := 228) rfl rfl
set_option maxRecDepth 100000 in
theorem s_114_159 (d L n : Nat) (scr : Nat → Int32) (call : Nat → List Value → am_H → Option am_X) (lv : am_L) (st : List Value) (h : am_H) : am_f d scr L call 114 (n + 1) 159 lv st h = am_f d scr L call 114 n 160 lv (.int 1 :: st) h := k_nx (i := .iconst 1) rfl rfl
set_option maxRecDepth 100000 in
theorem s_114_160 (d L n : Nat) (scr : Nat → Int32) (call : Nat → List Value → am_H → Option am_X) (lv : am_L) (st : List Value) (h : am_H) (x y : Int32) : am_f d scr L call 114 (n + 1) 160 lv (.int y :: .int x :: st) h = am_f d scr L call 114 n 161 lv (.int (x + y) :: st) h := k_nx (i := .iadd) rfl rfl
set_option maxRecDepth 100000 in
theorem s_114_161 (d L n : Nat) (scr : Nat → Int32) (call : Nat → List Value → am_H → Option am_X) (lv : am_L) (st : List Value) (h : am_H) (x : Int32) (a : Nat) : am_f d scr L call 114 (n + 1) 161 lv (.int x :: .ref a :: st) h = (match am_put h a 8 35 (.int x) with
    | some h' => am_f d scr L call 114 n 164 lv st h'
    | none => none) := k_pf (k := 228) rfl rfl rfl
set_option maxRecDepth 100000 in
theorem s_114_164 (d L n : Nat) (scr : Nat → Int32) (call : Nat → List Value → am_H → Option am_X) (lv : am_L) (st : List Value) (h : am_H) : am_f d scr L call 114 (n + 1) 164 lv st h = (match am_ld lv 0 with
    | some (.ref x) => am_f d scr L call 114 n 165 lv (.ref x :: st) h
    | _ => none) := k_la (i := .aload_n 0) rfl rfl rfl rfl
set_option maxRecDepth 100000 in
theorem s_114_165 (d L n : Nat) (scr : Nat → Int32) (call : Nat → List Value → am_H → Option am_X) (lv : am_L) (st : List Value) (h : am_H) : am_f d scr L call 114 (n + 1) 165 lv st h = am_f d scr L call 114 n 166 lv (.int 4 :: st) h := k_nx (i := .iconst 4) rfl rfl
set_option maxRecDepth 100000 in
theorem s_114_166 (d L n : Nat) (scr : Nat → Int32) (call : Nat → List Value → am_H → Option am_X) (lv : am_L) (st : List Value) (h : am_H) : am_f d scr L call 114 (n + 1) 166 lv st h = (match am_ld lv 0 with
    | some (.ref x) => am_f d scr L call 114 n 167 lv (.ref x :: st) h
    | _ => none) := k_la (i := .aload_n 0) rfl rfl rfl rfl
set_option maxRecDepth 100000 in
theorem s_114_167 (d L n : Nat) (scr : Nat → Int32) (call : Nat → List Value → am_H → Option am_X) (lv : am_L) (st : List Value) (h : am_H) (a : Nat) : am_f d scr L call 114 (n + 1) 167 lv (.ref a :: st) h = (match am_get h a 8 35 with
    | some v => am_f d scr L call 114 n 170 lv (v :: st) h
    | none => none) := k_gf (k := 228) rfl rfl
set_option maxRecDepth 100000 in
theorem s_114_170 (d L n : Nat) (scr : Nat → Int32) (call : Nat → List Value → am_H → Option am_X) (lv : am_L) (st : List Value) (h : am_H) : am_f d scr L call 114 (n + 1) 170 lv st h = am_f d scr L call 114 n 171 lv (.int 1 :: st) h := k_nx (i := .iconst 1) rfl rfl
set_option maxRecDepth 100000 in
theorem s_114_171 (d L n : Nat) (scr : Nat → Int32) (call : Nat → List Value → am_H → Option am_X) (lv : am_L) (st : List Value) (h : am_H) (x y : Int32) : am_f d scr L call 114 (n + 1) 171 lv (.int y :: .int x :: st) h = am_f d scr L call 114 n 172 lv (.int (x - y) :: st) h := k_nx (i := .isub) rfl rfl
set_option maxRecDepth 100000 in
theorem s_114_172 (d L n : Nat) (scr : Nat → Int32) (call : Nat → List Value → am_H → Option am_X) (lv : am_L) (st : List Value) (h : am_H) : am_f d scr L call 114 (n + 1) 172 lv st h = am_f d scr L call 114 n 173 lv (.int 0 :: st) h := k_nx (i := .iconst 0) rfl rfl
set_option maxRecDepth 100000 in
theorem s_114_173 (d L n : Nat) (scr : Nat → Int32) (call : Nat → List Value → am_H → Option am_X) (lv : am_L) (h : am_H) (o : Nat) (a0 : Int32) (a1 : Int32) (a2 : Int32)  : am_f d scr L call 114 (n + 1) 173 lv (.int a2 :: .int a1 :: .int a0 :: .ref o :: []) h = if am_at h o 8 = true then (match call 112 [.ref o, .int a0, .int a1, .int a2] h with
    | some (v, h', dk, dn) => am_add dk dn (am_f d scr L call 114 n 176 lv (v.toList ++ []) h')
    | none => none) else none := k_iv0 (k := 231) (as := [.int a0, .int a1, .int a2]) (r := []) rfl rfl rfl rfl (Nat.le_of_ble_eq_true rfl)
set_option maxRecDepth 100000 in
theorem s_114_176 (d L n : Nat) (scr : Nat → Int32) (call : Nat → List Value → am_H → Option am_X) (lv : am_L) (st : List Value) (h : am_H) (x : Int32) : am_f d scr L call 114 (n + 1) 176 lv (.int x :: st) h = am_f d scr L call 114 n 178 (am_st1 lv 5 (.int x)) st h := k_nx (i := .istore 5) rfl rfl
set_option maxRecDepth 100000 in
theorem s_114_178 (d L n : Nat) (scr : Nat → Int32) (call : Nat → List Value → am_H → Option am_X) (lv : am_L) (st : List Value) (h : am_H) : am_f d scr L call 114 (n + 1) 178 lv st h = (match am_ld lv 7 with
    | some (.int x) => am_f d scr L call 114 n 180 lv (.int x :: st) h
    | _ => none) := k_li (i := .iload 7) rfl rfl rfl rfl
set_option maxRecDepth 100000 in
theorem s_114_180 (d L n : Nat) (scr : Nat → Int32) (call : Nat → List Value → am_H → Option am_X) (lv : am_L) (st : List Value) (h : am_H) : am_f d scr L call 114 (n + 1) 180 lv st h = (match am_ld lv 3 with
    | some (.int x) => am_f d scr L call 114 n 181 lv (.int x :: st) h
    | _ => none) := k_li (i := .iload_n 3) rfl rfl rfl rfl
set_option maxRecDepth 100000 in
theorem s_114_181 (d L n : Nat) (scr : Nat → Int32) (call : Nat → List Value → am_H → Option am_X) (lv : am_L) (st : List Value) (h : am_H) (x y : Int32) : am_f d scr L call 114 (n + 1) 181 lv (.int y :: .int x :: st) h = if ¬ x = y then am_f d scr L call 114 n 189 lv st h else am_f d scr L call 114 n 184 lv st h := k_ic_ne (o := 8) rfl ⟨by decide, rfl⟩
set_option maxRecDepth 100000 in
theorem s_114_184 (d L n : Nat) (scr : Nat → Int32) (call : Nat → List Value → am_H → Option am_X) (lv : am_L) (st : List Value) (h : am_H) : am_f d scr L call 114 (n + 1) 184 lv st h = (match am_ld lv 5 with
    | some (.int x) => am_f d scr L call 114 n 186 lv (.int x :: st) h
    | _ => none) := k_li (i := .iload 5) rfl rfl rfl rfl
set_option maxRecDepth 100000 in
theorem s_114_186 (d L n : Nat) (scr : Nat → Int32) (call : Nat → List Value → am_H → Option am_X) (lv : am_L) (st : List Value) (h : am_H) : am_f d scr L call 114 (n + 1) 186 lv st h = am_f d scr L call 114 n 199 lv st h := k_nx (i := .goto 13) rfl rfl
set_option maxRecDepth 100000 in
theorem s_114_189 (d L n : Nat) (scr : Nat → Int32) (call : Nat → List Value → am_H → Option am_X) (lv : am_L) (st : List Value) (h : am_H) : am_f d scr L call 114 (n + 1) 189 lv st h = (match am_ld lv 0 with
    | some (.ref x) => am_f d scr L call 114 n 190 lv (.ref x :: st) h
    | _ => none) := k_la (i := .aload_n 0) rfl rfl rfl rfl
set_option maxRecDepth 100000 in
theorem s_114_190 (d L n : Nat) (scr : Nat → Int32) (call : Nat → List Value → am_H → Option am_X) (lv : am_L) (st : List Value) (h : am_H) : am_f d scr L call 114 (n + 1) 190 lv st h = am_f d scr L call 114 n 192 lv (.int 6 :: st) h := k_nx (i := .bipush 6) rfl rfl
set_option maxRecDepth 100000 in
theorem s_114_192 (d L n : Nat) (scr : Nat → Int32) (call : Nat → List Value → am_H → Option am_X) (lv : am_L) (st : List Value) (h : am_H) : am_f d scr L call 114 (n + 1) 192 lv st h = (match am_ld lv 5 with
    | some (.int x) => am_f d scr L call 114 n 194 lv (.int x :: st) h
    | _ => none) := k_li (i := .iload 5) rfl rfl rfl rfl
set_option maxRecDepth 100000 in
theorem s_114_194 (d L n : Nat) (scr : Nat → Int32) (call : Nat → List Value → am_H → Option am_X) (lv : am_L) (st : List Value) (h : am_H) : am_f d scr L call 114 (n + 1) 194 lv st h = (match am_ld lv 7 with
    | some (.int x) => am_f d scr L call 114 n 196 lv (.int x :: st) h
    | _ => none) := k_li (i := .iload 7) rfl rfl rfl rfl
set_option maxRecDepth 100000 in
theorem s_114_196 (d L n : Nat) (scr : Nat → Int32) (call : Nat → List Value → am_H → Option am_X) (lv : am_L) (h : am_H) (o : Nat) (a0 : Int32) (a1 : Int32) (a2 : Int32)  : am_f d scr L call 114 (n + 1) 196 lv (.int a2 :: .int a1 :: .int a0 :: .ref o :: []) h = if am_at h o 8 = true then (match call 112 [.ref o, .int a0, .int a1, .int a2] h with
    | some (v, h', dk, dn) => am_add dk dn (am_f d scr L call 114 n 199 lv (v.toList ++ []) h')
    | none => none) else none := k_iv0 (k := 231) (as := [.int a0, .int a1, .int a2]) (r := []) rfl rfl rfl rfl (Nat.le_of_ble_eq_true rfl)
set_option maxRecDepth 100000 in
theorem s_114_199 (d L n : Nat) (scr : Nat → Int32) (call : Nat → List Value → am_H → Option am_X) (lv : am_L) (h : am_H) (x : Int32) : am_f d scr L call 114 (n + 1) 199 lv [.int x] h = some (some (.int x), h, 0, 0) := k_ir rfl rfl
-- 115: BlameDeskModel.bare(I)I
theorem s_115_0 (d L n : Nat) (scr : Nat → Int32) (call : Nat → List Value → am_H → Option am_X) (lv : am_L) (st : List Value) (h : am_H) : am_f d scr L call 115 (n + 1) 0 lv st h = (match am_ld lv 1 with
    | some (.int x) => am_f d scr L call 115 n 1 lv (.int x :: st) h
    | _ => none) := k_li (i := .iload_n 1) rfl rfl rfl rfl
theorem s_115_1 (d L n : Nat) (scr : Nat → Int32) (call : Nat → List Value → am_H → Option am_X) (lv : am_L) (st : List Value) (h : am_H) (x : Int32) : am_f d scr L call 115 (n + 1) 1 lv (.int x :: st) h = am_f d scr L call 115 n 2 (am_st1 lv 2 (.int x)) st h := k_nx (i := .istore_n 2) rfl rfl
theorem s_115_2 (d L n : Nat) (scr : Nat → Int32) (call : Nat → List Value → am_H → Option am_X) (lv : am_L) (st : List Value) (h : am_H) : am_f d scr L call 115 (n + 1) 2 lv st h = (match am_ld lv 0 with
    | some (.ref x) => am_f d scr L call 115 n 3 lv (.ref x :: st) h
    | _ => none) := k_la (i := .aload_n 0) rfl rfl rfl rfl
theorem s_115_3 (d L n : Nat) (scr : Nat → Int32) (call : Nat → List Value → am_H → Option am_X) (lv : am_L) (st : List Value) (h : am_H) (a : Nat) : am_f d scr L call 115 (n + 1) 3 lv (.ref a :: st) h = (match am_get h a 8 32 with
    | some v => am_f d scr L call 115 n 6 lv (v :: st) h
    | none => none) := k_gf (k := 69) rfl rfl
theorem s_115_6 (d L n : Nat) (scr : Nat → Int32) (call : Nat → List Value → am_H → Option am_X) (lv : am_L) (st : List Value) (h : am_H) : am_f d scr L call 115 (n + 1) 6 lv st h = (match am_ld lv 2 with
    | some (.int x) => am_f d scr L call 115 n 7 lv (.int x :: st) h
    | _ => none) := k_li (i := .iload_n 2) rfl rfl rfl rfl
theorem s_115_7 (d L n : Nat) (scr : Nat → Int32) (call : Nat → List Value → am_H → Option am_X) (lv : am_L) (st : List Value) (h : am_H) (a : Nat) (i : Int32) : am_f d scr L call 115 (n + 1) 7 lv (.int i :: .ref a :: st) h = (match am_ild scr L h a i with
    | some x => am_f d scr L call 115 n 8 lv (.int x :: st) h
    | none => none) := k_ia rfl
theorem s_115_8 (d L n : Nat) (scr : Nat → Int32) (call : Nat → List Value → am_H → Option am_X) (lv : am_L) (st : List Value) (h : am_H) : am_f d scr L call 115 (n + 1) 8 lv st h = am_f d scr L call 115 n 9 lv (.int 4 :: st) h := k_nx (i := .iconst 4) rfl rfl
theorem s_115_9 (d L n : Nat) (scr : Nat → Int32) (call : Nat → List Value → am_H → Option am_X) (lv : am_L) (st : List Value) (h : am_H) (x y : Int32) : am_f d scr L call 115 (n + 1) 9 lv (.int y :: .int x :: st) h = if ¬ x = y then am_f d scr L call 115 n 27 lv st h else am_f d scr L call 115 n 12 lv st h := k_ic_ne (o := 18) rfl ⟨by decide, rfl⟩
theorem s_115_12 (d L n : Nat) (scr : Nat → Int32) (call : Nat → List Value → am_H → Option am_X) (lv : am_L) (st : List Value) (h : am_H) : am_f d scr L call 115 (n + 1) 12 lv st h = (match am_ld lv 0 with
    | some (.ref x) => am_f d scr L call 115 n 13 lv (.ref x :: st) h
    | _ => none) := k_la (i := .aload_n 0) rfl rfl rfl rfl
theorem s_115_13 (d L n : Nat) (scr : Nat → Int32) (call : Nat → List Value → am_H → Option am_X) (lv : am_L) (st : List Value) (h : am_H) (a : Nat) : am_f d scr L call 115 (n + 1) 13 lv (.ref a :: st) h = (match am_get h a 8 36 with
    | some v => am_f d scr L call 115 n 16 lv (v :: st) h
    | none => none) := k_gf (k := 78) rfl rfl
theorem s_115_16 (d L n : Nat) (scr : Nat → Int32) (call : Nat → List Value → am_H → Option am_X) (lv : am_L) (st : List Value) (h : am_H) : am_f d scr L call 115 (n + 1) 16 lv st h = (match am_ld lv 0 with
    | some (.ref x) => am_f d scr L call 115 n 17 lv (.ref x :: st) h
    | _ => none) := k_la (i := .aload_n 0) rfl rfl rfl rfl
theorem s_115_17 (d L n : Nat) (scr : Nat → Int32) (call : Nat → List Value → am_H → Option am_X) (lv : am_L) (st : List Value) (h : am_H) (a : Nat) : am_f d scr L call 115 (n + 1) 17 lv (.ref a :: st) h = (match am_get h a 8 33 with
    | some v => am_f d scr L call 115 n 20 lv (v :: st) h
    | none => none) := k_gf (k := 72) rfl rfl
theorem s_115_20 (d L n : Nat) (scr : Nat → Int32) (call : Nat → List Value → am_H → Option am_X) (lv : am_L) (st : List Value) (h : am_H) : am_f d scr L call 115 (n + 1) 20 lv st h = (match am_ld lv 2 with
    | some (.int x) => am_f d scr L call 115 n 21 lv (.int x :: st) h
    | _ => none) := k_li (i := .iload_n 2) rfl rfl rfl rfl
theorem s_115_21 (d L n : Nat) (scr : Nat → Int32) (call : Nat → List Value → am_H → Option am_X) (lv : am_L) (st : List Value) (h : am_H) (a : Nat) (i : Int32) : am_f d scr L call 115 (n + 1) 21 lv (.int i :: .ref a :: st) h = (match am_ild scr L h a i with
    | some x => am_f d scr L call 115 n 22 lv (.int x :: st) h
    | none => none) := k_ia rfl
theorem s_115_22 (d L n : Nat) (scr : Nat → Int32) (call : Nat → List Value → am_H → Option am_X) (lv : am_L) (st : List Value) (h : am_H) (a : Nat) (i : Int32) : am_f d scr L call 115 (n + 1) 22 lv (.int i :: .ref a :: st) h = (match am_ild scr L h a i with
    | some x => am_f d scr L call 115 n 23 lv (.int x :: st) h
    | none => none) := k_ia rfl
theorem s_115_23 (d L n : Nat) (scr : Nat → Int32) (call : Nat → List Value → am_H → Option am_X) (lv : am_L) (st : List Value) (h : am_H) (x : Int32) : am_f d scr L call 115 (n + 1) 23 lv (.int x :: st) h = am_f d scr L call 115 n 24 (am_st1 lv 2 (.int x)) st h := k_nx (i := .istore_n 2) rfl rfl
theorem s_115_24 (d L n : Nat) (scr : Nat → Int32) (call : Nat → List Value → am_H → Option am_X) (lv : am_L) (st : List Value) (h : am_H) : am_f d scr L call 115 (n + 1) 24 lv st h = am_f d scr L call 115 n 2 lv st h := k_nx (i := .goto (-22)) rfl rfl
theorem s_115_27 (d L n : Nat) (scr : Nat → Int32) (call : Nat → List Value → am_H → Option am_X) (lv : am_L) (st : List Value) (h : am_H) : am_f d scr L call 115 (n + 1) 27 lv st h = (match am_ld lv 2 with
    | some (.int x) => am_f d scr L call 115 n 28 lv (.int x :: st) h
    | _ => none) := k_li (i := .iload_n 2) rfl rfl rfl rfl
theorem s_115_28 (d L n : Nat) (scr : Nat → Int32) (call : Nat → List Value → am_H → Option am_X) (lv : am_L) (h : am_H) (x : Int32) : am_f d scr L call 115 (n + 1) 28 lv [.int x] h = some (some (.int x), h, 0, 0) := k_ir rfl rfl
