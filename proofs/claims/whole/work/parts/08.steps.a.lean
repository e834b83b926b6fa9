/-! Steps of BlameDeskLaw, BlameDesk, BlameDesk$Outputs, BlameDesk$Types, BlameDesk$Program: a row an instruction, by program. -/
-- 0: BlameDeskLaw.law([I)Z
theorem s_0_0 (d L n : Nat) (scr : Nat → Int32) (call : Nat → List Value → am_H → Option am_X) (lv : am_L) (st : List Value) (h : am_H) : am_f d scr L call 0 (n + 1) 0 lv st h = am_add 1 6 (am_f d scr L call 0 n 3 lv (.ref (h.length + 1) :: st) (h ++ [.inr (0, pm_d0)])) := k_new (k := 7) (ci := 0) rfl rfl rfl rfl
theorem s_0_3 (d L n : Nat) (scr : Nat → Int32) (call : Nat → List Value → am_H → Option am_X) (lv : am_L) (st : List Value) (h : am_H) (x : Nat) : am_f d scr L call 0 (n + 1) 3 lv (.ref x :: st) h = am_f d scr L call 0 n 4 lv (.ref x :: .ref x :: st) h := k_nx (i := .dup) rfl rfl
theorem s_0_4 (d L n : Nat) (scr : Nat → Int32) (call : Nat → List Value → am_H → Option am_X) (lv : am_L) (h : am_H) (o : Nat)  (r0 : Nat) : am_f d scr L call 0 (n + 1) 4 lv (.ref o :: .ref r0 :: []) h = (match call 1 [.ref o] h with
    | some (v, h', dk, dn) => am_add dk dn (am_f d scr L call 0 n 7 lv (v.toList ++ [.ref r0]) h')
    | none => none) := k_iv2 (k := 9) (as := []) (r := [.ref r0]) rfl rfl rfl rfl rfl (Nat.le_of_ble_eq_true rfl)
theorem s_0_7 (d L n : Nat) (scr : Nat → Int32) (call : Nat → List Value → am_H → Option am_X) (lv : am_L) (st : List Value) (h : am_H) (x : Nat) : am_f d scr L call 0 (n + 1) 7 lv (.ref x :: st) h = am_f d scr L call 0 n 8 (am_st1 lv 1 (.ref x)) st h := k_nx (i := .astore_n 1) rfl rfl
theorem s_0_8 (d L n : Nat) (scr : Nat → Int32) (call : Nat → List Value → am_H → Option am_X) (lv : am_L) (st : List Value) (h : am_H) : am_f d scr L call 0 (n + 1) 8 lv st h = am_add 1 62 (am_f d scr L call 0 n 11 lv (.ref (h.length + 1) :: st) (h ++ [.inr (8, pm_d8)])) := k_new (k := 10) (ci := 8) rfl rfl rfl rfl
theorem s_0_11 (d L n : Nat) (scr : Nat → Int32) (call : Nat → List Value → am_H → Option am_X) (lv : am_L) (st : List Value) (h : am_H) (x : Nat) : am_f d scr L call 0 (n + 1) 11 lv (.ref x :: st) h = am_f d scr L call 0 n 12 lv (.ref x :: .ref x :: st) h := k_nx (i := .dup) rfl rfl
theorem s_0_12 (d L n : Nat) (scr : Nat → Int32) (call : Nat → List Value → am_H → Option am_X) (lv : am_L) (h : am_H) (o : Nat)  (r0 : Nat) : am_f d scr L call 0 (n + 1) 12 lv (.ref o :: .ref r0 :: []) h = (match call 93 [.ref o] h with
    | some (v, h', dk, dn) => am_add dk dn (am_f d scr L call 0 n 15 lv (v.toList ++ [.ref r0]) h')
    | none => none) := k_iv2 (k := 12) (as := []) (r := [.ref r0]) rfl rfl rfl rfl rfl (Nat.le_of_ble_eq_true rfl)
theorem s_0_15 (d L n : Nat) (scr : Nat → Int32) (call : Nat → List Value → am_H → Option am_X) (lv : am_L) (st : List Value) (h : am_H) (x : Nat) : am_f d scr L call 0 (n + 1) 15 lv (.ref x :: st) h = am_f d scr L call 0 n 16 (am_st1 lv 2 (.ref x)) st h := k_nx (i := .astore_n 2) rfl rfl
theorem s_0_16 (d L n : Nat) (scr : Nat → Int32) (call : Nat → List Value → am_H → Option am_X) (lv : am_L) (st : List Value) (h : am_H) : am_f d scr L call 0 (n + 1) 16 lv st h = am_f d scr L call 0 n 17 lv (.int 0 :: st) h := k_nx (i := .iconst 0) rfl rfl
theorem s_0_17 (d L n : Nat) (scr : Nat → Int32) (call : Nat → List Value → am_H → Option am_X) (lv : am_L) (st : List Value) (h : am_H) (x : Int32) : am_f d scr L call 0 (n + 1) 17 lv (.int x :: st) h = am_f d scr L call 0 n 18 (am_st1 lv 3 (.int x)) st h := k_nx (i := .istore_n 3) rfl rfl
theorem s_0_18 (d L n : Nat) (scr : Nat → Int32) (call : Nat → List Value → am_H → Option am_X) (lv : am_L) (st : List Value) (h : am_H) : am_f d scr L call 0 (n + 1) 18 lv st h = (match am_ld lv 3 with
    | some (.int x) => am_f d scr L call 0 n 19 lv (.int x :: st) h
    | _ => none) := k_li (i := .iload_n 3) rfl rfl rfl rfl
theorem s_0_19 (d L n : Nat) (scr : Nat → Int32) (call : Nat → List Value → am_H → Option am_X) (lv : am_L) (st : List Value) (h : am_H) : am_f d scr L call 0 (n + 1) 19 lv st h = (match am_ld lv 0 with
    | some (.ref x) => am_f d scr L call 0 n 20 lv (.ref x :: st) h
    | _ => none) := k_la (i := .aload_n 0) rfl rfl rfl rfl
theorem s_0_20 (d L n : Nat) (scr : Nat → Int32) (call : Nat → List Value → am_H → Option am_X) (lv : am_L) (st : List Value) (h : am_H) : am_f d scr L call 0 (n + 1) 20 lv (.ref 0 :: st) h = am_f d scr L call 0 n 21 lv (.int (Int32.ofNat L) :: st) h := k_nx (i := .arraylength) rfl rfl
theorem s_0_21 (d L n : Nat) (scr : Nat → Int32) (call : Nat → List Value → am_H → Option am_X) (lv : am_L) (st : List Value) (h : am_H) : am_f d scr L call 0 (n + 1) 21 lv st h = am_f d scr L call 0 n 22 lv (.int 3 :: st) h := k_nx (i := .iconst 3) rfl rfl
theorem s_0_22 (d L n : Nat) (scr : Nat → Int32) (call : Nat → List Value → am_H → Option am_X) (lv : am_L) (st : List Value) (h : am_H) (x y : Int32) : am_f d scr L call 0 (n + 1) 22 lv (.int y :: .int x :: st) h = am_f d scr L call 0 n 23 lv (.int (x - y) :: st) h := k_nx (i := .isub) rfl rfl
theorem s_0_23 (d L n : Nat) (scr : Nat → Int32) (call : Nat → List Value → am_H → Option am_X) (lv : am_L) (st : List Value) (h : am_H) (x y : Int32) : am_f d scr L call 0 (n + 1) 23 lv (.int y :: .int x :: st) h = if y < x then am_f d scr L call 0 n 304 lv st h else am_f d scr L call 0 n 26 lv st h := k_ic_gt (o := 281) rfl ⟨by decide, rfl⟩
theorem s_0_26 (d L n : Nat) (scr : Nat → Int32) (call : Nat → List Value → am_H → Option am_X) (lv : am_L) (st : List Value) (h : am_H) : am_f d scr L call 0 (n + 1) 26 lv st h = (match am_ld lv 0 with
    | some (.ref x) => am_f d scr L call 0 n 27 lv (.ref x :: st) h
    | _ => none) := k_la (i := .aload_n 0) rfl rfl rfl rfl
theorem s_0_27 (d L n : Nat) (scr : Nat → Int32) (call : Nat → List Value → am_H → Option am_X) (lv : am_L) (st : List Value) (h : am_H) : am_f d scr L call 0 (n + 1) 27 lv st h = (match am_ld lv 3 with
    | some (.int x) => am_f d scr L call 0 n 28 lv (.int x :: st) h
    | _ => none) := k_li (i := .iload_n 3) rfl rfl rfl rfl
theorem s_0_28 (d L n : Nat) (scr : Nat → Int32) (call : Nat → List Value → am_H → Option am_X) (lv : am_L) (st : List Value) (h : am_H) (a : Nat) (i : Int32) : am_f d scr L call 0 (n + 1) 28 lv (.int i :: .ref a :: st) h = (match am_ild scr L h a i with
    | some x => am_f d scr L call 0 n 29 lv (.int x :: st) h
    | none => none) := k_ia rfl
theorem s_0_29 (d L n : Nat) (scr : Nat → Int32) (call : Nat → List Value → am_H → Option am_X) (lv : am_L) (st : List Value) (h : am_H) : am_f d scr L call 0 (n + 1) 29 lv st h = am_f d scr L call 0 n 31 lv (.int 15 :: st) h := k_nx (i := .bipush 15) rfl rfl
theorem s_0_31 (d L n : Nat) (scr : Nat → Int32) (call : Nat → List Value → am_H → Option am_X) (lv : am_L) (st : List Value) (h : am_H) (x y : Int32) : am_f d scr L call 0 (n + 1) 31 lv (.int y :: .int x :: st) h = am_f d scr L call 0 n 32 lv (.int (x &&& y) :: st) h := k_nx (i := .iand) rfl rfl
set_option maxRecDepth 100000 in
theorem s_0_32 (d L n : Nat) (scr : Nat → Int32) (call : Nat → List Value → am_H → Option am_X) (lv : am_L) (st : List Value) (h : am_H) (x : Int32) : am_f d scr L call 0 (n + 1) 32 lv (.int x :: st) h = if x = 0 then am_f d scr L call 0 n 88 lv st h else if x = 1 then am_f d scr L call 0 n 141 lv st h else if x = 2 then am_f d scr L call 0 n 154 lv st h else if x = 3 then am_f d scr L call 0 n 167 lv st h else if x = 4 then am_f d scr L call 0 n 190 lv st h else if x = 5 then am_f d scr L call 0 n 213 lv st h else if x = 6 then am_f d scr L call 0 n 236 lv st h else if x = 7 then am_f d scr L call 0 n 249 lv st h else if x = 8 then am_f d scr L call 0 n 272 lv st h else if x = 9 then am_f d scr L call 0 n 285 lv st h else am_f d scr L call 0 n 298 lv st h := by
  by_cases h0 : x = 0
  · subst h0
    exact k_nx (i := .tableswitch 266 0 9 #[56, 109, 122, 135, 158, 181, 204, 217, 240, 253]) rfl rfl
  by_cases h1 : x = 1
  · subst h1
    exact k_nx (i := .tableswitch 266 0 9 #[56, 109, 122, 135, 158, 181, 204, 217, 240, 253]) rfl rfl
  by_cases h2 : x = 2
  · subst h2
    exact k_nx (i := .tableswitch 266 0 9 #[56, 109, 122, 135, 158, 181, 204, 217, 240, 253]) rfl rfl
  by_cases h3 : x = 3
  · subst h3
    exact k_nx (i := .tableswitch 266 0 9 #[56, 109, 122, 135, 158, 181, 204, 217, 240, 253]) rfl rfl
  by_cases h4 : x = 4
  · subst h4
    exact k_nx (i := .tableswitch 266 0 9 #[56, 109, 122, 135, 158, 181, 204, 217, 240, 253]) rfl rfl
  by_cases h5 : x = 5
  · subst h5
    exact k_nx (i := .tableswitch 266 0 9 #[56, 109, 122, 135, 158, 181, 204, 217, 240, 253]) rfl rfl
  by_cases h6 : x = 6
  · subst h6
    exact k_nx (i := .tableswitch 266 0 9 #[56, 109, 122, 135, 158, 181, 204, 217, 240, 253]) rfl rfl
  by_cases h7 : x = 7
  · subst h7
    exact k_nx (i := .tableswitch 266 0 9 #[56, 109, 122, 135, 158, 181, 204, 217, 240, 253]) rfl rfl
  by_cases h8 : x = 8
  · subst h8
    exact k_nx (i := .tableswitch 266 0 9 #[56, 109, 122, 135, 158, 181, 204, 217, 240, 253]) rfl rfl
  by_cases h9 : x = 9
  · subst h9
    exact k_nx (i := .tableswitch 266 0 9 #[56, 109, 122, 135, 158, 181, 204, 217, 240, 253]) rfl rfl
  have hn : x.toInt < 0 ∨ 9 < x.toInt := by
    have hh : ∀ k : Int32, ¬ x = k → ¬ x.toInt = k.toInt := fun k hk z => hk (Int32.toInt_inj.mp z)
    have g0 : ¬ x.toInt = 0 := hh 0 h0
    have g1 : ¬ x.toInt = 1 := hh 1 h1
    have g2 : ¬ x.toInt = 2 := hh 2 h2
    have g3 : ¬ x.toInt = 3 := hh 3 h3
    have g4 : ¬ x.toInt = 4 := hh 4 h4
    have g5 : ¬ x.toInt = 5 := hh 5 h5
    have g6 : ¬ x.toInt = 6 := hh 6 h6
    have g7 : ¬ x.toInt = 7 := hh 7 h7
    have g8 : ¬ x.toInt = 8 := hh 8 h8
    have g9 : ¬ x.toInt = 9 := hh 9 h9
    omega
  rw [if_neg h0, if_neg h1, if_neg h2, if_neg h3, if_neg h4, if_neg h5, if_neg h6, if_neg h7, if_neg h8, if_neg h9]
  refine k_nx (i := .tableswitch 266 0 9 #[56, 109, 122, 135, 158, 181, 204, 217, 240, 253]) rfl ?_
  simp only [am_s, if_pos hn]
  rfl
theorem s_0_88 (d L n : Nat) (scr : Nat → Int32) (call : Nat → List Value → am_H → Option am_X) (lv : am_L) (st : List Value) (h : am_H) : am_f d scr L call 0 (n + 1) 88 lv st h = (match am_ld lv 1 with
    | some (.ref x) => am_f d scr L call 0 n 89 lv (.ref x :: st) h
    | _ => none) := k_la (i := .aload_n 1) rfl rfl rfl rfl
theorem s_0_89 (d L n : Nat) (scr : Nat → Int32) (call : Nat → List Value → am_H → Option am_X) (lv : am_L) (st : List Value) (h : am_H) : am_f d scr L call 0 (n + 1) 89 lv st h = (match am_ld lv 0 with
    | some (.ref x) => am_f d scr L call 0 n 90 lv (.ref x :: st) h
    | _ => none) := k_la (i := .aload_n 0) rfl rfl rfl rfl
theorem s_0_90 (d L n : Nat) (scr : Nat → Int32) (call : Nat → List Value → am_H → Option am_X) (lv : am_L) (st : List Value) (h : am_H) : am_f d scr L call 0 (n + 1) 90 lv st h = (match am_ld lv 3 with
    | some (.int x) => am_f d scr L call 0 n 91 lv (.int x :: st) h
    | _ => none) := k_li (i := .iload_n 3) rfl rfl rfl rfl
theorem s_0_91 (d L n : Nat) (scr : Nat → Int32) (call : Nat → List Value → am_H → Option am_X) (lv : am_L) (st : List Value) (h : am_H) : am_f d scr L call 0 (n + 1) 91 lv st h = am_f d scr L call 0 n 92 lv (.int 1 :: st) h := k_nx (i := .iconst 1) rfl rfl
theorem s_0_92 (d L n : Nat) (scr : Nat → Int32) (call : Nat → List Value → am_H → Option am_X) (lv : am_L) (st : List Value) (h : am_H) (x y : Int32) : am_f d scr L call 0 (n + 1) 92 lv (.int y :: .int x :: st) h = am_f d scr L call 0 n 93 lv (.int (x + y) :: st) h := k_nx (i := .iadd) rfl rfl
theorem s_0_93 (d L n : Nat) (scr : Nat → Int32) (call : Nat → List Value → am_H → Option am_X) (lv : am_L) (st : List Value) (h : am_H) (a : Nat) (i : Int32) : am_f d scr L call 0 (n + 1) 93 lv (.int i :: .ref a :: st) h = (match am_ild scr L h a i with
    | some x => am_f d scr L call 0 n 94 lv (.int x :: st) h
    | none => none) := k_ia rfl
theorem s_0_94 (d L n : Nat) (scr : Nat → Int32) (call : Nat → List Value → am_H → Option am_X) (lv : am_L) (st : List Value) (h : am_H) (x : Int32) : am_f d scr L call 0 (n + 1) 94 lv (.int x :: st) h = am_f d scr L call 0 n 95 lv (.long x.toInt64 :: st) h := k_nx (i := .i2l) rfl rfl
theorem s_0_95 (d L n : Nat) (scr : Nat → Int32) (call : Nat → List Value → am_H → Option am_X) (lv : am_L) (st : List Value) (h : am_H) : am_f d scr L call 0 (n + 1) 95 lv st h = am_f d scr L call 0 n 97 lv (.int 32 :: st) h := k_nx (i := .bipush 32) rfl rfl
theorem s_0_97 (d L n : Nat) (scr : Nat → Int32) (call : Nat → List Value → am_H → Option am_X) (lv : am_L) (st : List Value) (h : am_H) (x : Int64) (y : Int32) : am_f d scr L call 0 (n + 1) 97 lv (.int y :: .long x :: st) h = am_f d scr L call 0 n 98 lv (.long (x <<< (y.toInt64 &&& 63)) :: st) h := k_nx (i := .lshl) rfl rfl
theorem s_0_98 (d L n : Nat) (scr : Nat → Int32) (call : Nat → List Value → am_H → Option am_X) (lv : am_L) (st : List Value) (h : am_H) : am_f d scr L call 0 (n + 1) 98 lv st h = (match am_ld lv 0 with
    | some (.ref x) => am_f d scr L call 0 n 99 lv (.ref x :: st) h
    | _ => none) := k_la (i := .aload_n 0) rfl rfl rfl rfl
theorem s_0_99 (d L n : Nat) (scr : Nat → Int32) (call : Nat → List Value → am_H → Option am_X) (lv : am_L) (st : List Value) (h : am_H) : am_f d scr L call 0 (n + 1) 99 lv st h = (match am_ld lv 3 with
    | some (.int x) => am_f d scr L call 0 n 100 lv (.int x :: st) h
    | _ => none) := k_li (i := .iload_n 3) rfl rfl rfl rfl
theorem s_0_100 (d L n : Nat) (scr : Nat → Int32) (call : Nat → List Value → am_H → Option am_X) (lv : am_L) (st : List Value) (h : am_H) : am_f d scr L call 0 (n + 1) 100 lv st h = am_f d scr L call 0 n 101 lv (.int 2 :: st) h := k_nx (i := .iconst 2) rfl rfl
theorem s_0_101 (d L n : Nat) (scr : Nat → Int32) (call : Nat → List Value → am_H → Option am_X) (lv : am_L) (st : List Value) (h : am_H) (x y : Int32) : am_f d scr L call 0 (n + 1) 101 lv (.int y :: .int x :: st) h = am_f d scr L call 0 n 102 lv (.int (x + y) :: st) h := k_nx (i := .iadd) rfl rfl
theorem s_0_102 (d L n : Nat) (scr : Nat → Int32) (call : Nat → List Value → am_H → Option am_X) (lv : am_L) (st : List Value) (h : am_H) (a : Nat) (i : Int32) : am_f d scr L call 0 (n + 1) 102 lv (.int i :: .ref a :: st) h = (match am_ild scr L h a i with
    | some x => am_f d scr L call 0 n 103 lv (.int x :: st) h
    | none => none) := k_ia rfl
theorem s_0_103 (d L n : Nat) (scr : Nat → Int32) (call : Nat → List Value → am_H → Option am_X) (lv : am_L) (st : List Value) (h : am_H) (x : Int32) : am_f d scr L call 0 (n + 1) 103 lv (.int x :: st) h = am_f d scr L call 0 n 104 lv (.long x.toInt64 :: st) h := k_nx (i := .i2l) rfl rfl
theorem s_0_104 (d L n : Nat) (scr : Nat → Int32) (call : Nat → List Value → am_H → Option am_X) (lv : am_L) (st : List Value) (h : am_H) : am_f d scr L call 0 (n + 1) 104 lv st h = am_f d scr L call 0 n 107 lv (.long 4294967295 :: st) h := k_nx (i := .ldc2_w 13) rfl rfl
theorem s_0_107 (d L n : Nat) (scr : Nat → Int32) (call : Nat → List Value → am_H → Option am_X) (lv : am_L) (st : List Value) (h : am_H) (x y : Int64) : am_f d scr L call 0 (n + 1) 107 lv (.long y :: .long x :: st) h = am_f d scr L call 0 n 108 lv (.long (x &&& y) :: st) h := k_nx (i := .land) rfl rfl
theorem s_0_108 (d L n : Nat) (scr : Nat → Int32) (call : Nat → List Value → am_H → Option am_X) (lv : am_L) (st : List Value) (h : am_H) (x y : Int64) : am_f d scr L call 0 (n + 1) 108 lv (.long y :: .long x :: st) h = am_f d scr L call 0 n 109 lv (.long (x ||| y) :: st) h := k_nx (i := .lor) rfl rfl
theorem s_0_109 (d L n : Nat) (scr : Nat → Int32) (call : Nat → List Value → am_H → Option am_X) (lv : am_L) (h : am_H) (o : Nat) (a0 : Int64)  : am_f d scr L call 0 (n + 1) 109 lv (.long a0 :: .ref o :: []) h = if am_at h o 0 = true then (match call 2 [.ref o, .long a0] h with
    | some (v, h', dk, dn) => am_add dk dn (am_f d scr L call 0 n 112 lv (v.toList ++ []) h')
    | none => none) else none := k_iv0 (k := 15) (as := [.long a0]) (r := []) rfl rfl rfl rfl (Nat.le_of_ble_eq_true rfl)
theorem s_0_112 (d L n : Nat) (scr : Nat → Int32) (call : Nat → List Value → am_H → Option am_X) (lv : am_L) (st : List Value) (h : am_H) : am_f d scr L call 0 (n + 1) 112 lv st h = (match am_ld lv 2 with
    | some (.ref x) => am_f d scr L call 0 n 113 lv (.ref x :: st) h
    | _ => none) := k_la (i := .aload_n 2) rfl rfl rfl rfl
theorem s_0_113 (d L n : Nat) (scr : Nat → Int32) (call : Nat → List Value → am_H → Option am_X) (lv : am_L) (st : List Value) (h : am_H) : am_f d scr L call 0 (n + 1) 113 lv st h = (match am_ld lv 0 with
    | some (.ref x) => am_f d scr L call 0 n 114 lv (.ref x :: st) h
    | _ => none) := k_la (i := .aload_n 0) rfl rfl rfl rfl
theorem s_0_114 (d L n : Nat) (scr : Nat → Int32) (call : Nat → List Value → am_H → Option am_X) (lv : am_L) (st : List Value) (h : am_H) : am_f d scr L call 0 (n + 1) 114 lv st h = (match am_ld lv 3 with
    | some (.int x) => am_f d scr L call 0 n 115 lv (.int x :: st) h
    | _ => none) := k_li (i := .iload_n 3) rfl rfl rfl rfl
theorem s_0_115 (d L n : Nat) (scr : Nat → Int32) (call : Nat → List Value → am_H → Option am_X) (lv : am_L) (st : List Value) (h : am_H) : am_f d scr L call 0 (n + 1) 115 lv st h = am_f d scr L call 0 n 116 lv (.int 1 :: st) h := k_nx (i := .iconst 1) rfl rfl
theorem s_0_116 (d L n : Nat) (scr : Nat → Int32) (call : Nat → List Value → am_H → Option am_X) (lv : am_L) (st : List Value) (h : am_H) (x y : Int32) : am_f d scr L call 0 (n + 1) 116 lv (.int y :: .int x :: st) h = am_f d scr L call 0 n 117 lv (.int (x + y) :: st) h := k_nx (i := .iadd) rfl rfl
theorem s_0_117 (d L n : Nat) (scr : Nat → Int32) (call : Nat → List Value → am_H → Option am_X) (lv : am_L) (st : List Value) (h : am_H) (a : Nat) (i : Int32) : am_f d scr L call 0 (n + 1) 117 lv (.int i :: .ref a :: st) h = (match am_ild scr L h a i with
    | some x => am_f d scr L call 0 n 118 lv (.int x :: st) h
    | none => none) := k_ia rfl
theorem s_0_118 (d L n : Nat) (scr : Nat → Int32) (call : Nat → List Value → am_H → Option am_X) (lv : am_L) (st : List Value) (h : am_H) (x : Int32) : am_f d scr L call 0 (n + 1) 118 lv (.int x :: st) h = am_f d scr L call 0 n 119 lv (.long x.toInt64 :: st) h := k_nx (i := .i2l) rfl rfl
theorem s_0_119 (d L n : Nat) (scr : Nat → Int32) (call : Nat → List Value → am_H → Option am_X) (lv : am_L) (st : List Value) (h : am_H) : am_f d scr L call 0 (n + 1) 119 lv st h = am_f d scr L call 0 n 121 lv (.int 32 :: st) h := k_nx (i := .bipush 32) rfl rfl
theorem s_0_121 (d L n : Nat) (scr : Nat → Int32) (call : Nat → List Value → am_H → Option am_X) (lv : am_L) (st : List Value) (h : am_H) (x : Int64) (y : Int32) : am_f d scr L call 0 (n + 1) 121 lv (.int y :: .long x :: st) h = am_f d scr L call 0 n 122 lv (.long (x <<< (y.toInt64 &&& 63)) :: st) h := k_nx (i := .lshl) rfl rfl
theorem s_0_122 (d L n : Nat) (scr : Nat → Int32) (call : Nat → List Value → am_H → Option am_X) (lv : am_L) (st : List Value) (h : am_H) : am_f d scr L call 0 (n + 1) 122 lv st h = (match am_ld lv 0 with
    | some (.ref x) => am_f d scr L call 0 n 123 lv (.ref x :: st) h
    | _ => none) := k_la (i := .aload_n 0) rfl rfl rfl rfl
theorem s_0_123 (d L n : Nat) (scr : Nat → Int32) (call : Nat → List Value → am_H → Option am_X) (lv : am_L) (st : List Value) (h : am_H) : am_f d scr L call 0 (n + 1) 123 lv st h = (match am_ld lv 3 with
    | some (.int x) => am_f d scr L call 0 n 124 lv (.int x :: st) h
    | _ => none) := k_li (i := .iload_n 3) rfl rfl rfl rfl
theorem s_0_124 (d L n : Nat) (scr : Nat → Int32) (call : Nat → List Value → am_H → Option am_X) (lv : am_L) (st : List Value) (h : am_H) : am_f d scr L call 0 (n + 1) 124 lv st h = am_f d scr L call 0 n 125 lv (.int 2 :: st) h := k_nx (i := .iconst 2) rfl rfl
theorem s_0_125 (d L n : Nat) (scr : Nat → Int32) (call : Nat → List Value → am_H → Option am_X) (lv : am_L) (st : List Value) (h : am_H) (x y : Int32) : am_f d scr L call 0 (n + 1) 125 lv (.int y :: .int x :: st) h = am_f d scr L call 0 n 126 lv (.int (x + y) :: st) h := k_nx (i := .iadd) rfl rfl
theorem s_0_126 (d L n : Nat) (scr : Nat → Int32) (call : Nat → List Value → am_H → Option am_X) (lv : am_L) (st : List Value) (h : am_H) (a : Nat) (i : Int32) : am_f d scr L call 0 (n + 1) 126 lv (.int i :: .ref a :: st) h = (match am_ild scr L h a i with
    | some x => am_f d scr L call 0 n 127 lv (.int x :: st) h
    | none => none) := k_ia rfl
theorem s_0_127 (d L n : Nat) (scr : Nat → Int32) (call : Nat → List Value → am_H → Option am_X) (lv : am_L) (st : List Value) (h : am_H) (x : Int32) : am_f d scr L call 0 (n + 1) 127 lv (.int x :: st) h = am_f d scr L call 0 n 128 lv (.long x.toInt64 :: st) h := k_nx (i := .i2l) rfl rfl
theorem s_0_128 (d L n : Nat) (scr : Nat → Int32) (call : Nat → List Value → am_H → Option am_X) (lv : am_L) (st : List Value) (h : am_H) : am_f d scr L call 0 (n + 1) 128 lv st h = am_f d scr L call 0 n 131 lv (.long 4294967295 :: st) h := k_nx (i := .ldc2_w 13) rfl rfl
theorem s_0_131 (d L n : Nat) (scr : Nat → Int32) (call : Nat → List Value → am_H → Option am_X) (lv : am_L) (st : List Value) (h : am_H) (x y : Int64) : am_f d scr L call 0 (n + 1) 131 lv (.long y :: .long x :: st) h = am_f d scr L call 0 n 132 lv (.long (x &&& y) :: st) h := k_nx (i := .land) rfl rfl
theorem s_0_132 (d L n : Nat) (scr : Nat → Int32) (call : Nat → List Value → am_H → Option am_X) (lv : am_L) (st : List Value) (h : am_H) (x y : Int64) : am_f d scr L call 0 (n + 1) 132 lv (.long y :: .long x :: st) h = am_f d scr L call 0 n 133 lv (.long (x ||| y) :: st) h := k_nx (i := .lor) rfl rfl
theorem s_0_133 (d L n : Nat) (scr : Nat → Int32) (call : Nat → List Value → am_H → Option am_X) (lv : am_L) (h : am_H) (o : Nat) (a0 : Int64) (r0 : Int32) : am_f d scr L call 0 (n + 1) 133 lv (.long a0 :: .ref o :: .int r0 :: []) h = if am_at h o 8 = true then (match call 94 [.ref o, .long a0] h with
    | some (v, h', dk, dn) => am_add dk dn (am_f d scr L call 0 n 136 lv (v.toList ++ [.int r0]) h')
    | none => none) else none := k_iv0 (k := 19) (as := [.long a0]) (r := [.int r0]) rfl rfl rfl rfl (Nat.le_of_ble_eq_true rfl)
theorem s_0_136 (d L n : Nat) (scr : Nat → Int32) (call : Nat → List Value → am_H → Option am_X) (lv : am_L) (st : List Value) (h : am_H) (x y : Int32) : am_f d scr L call 0 (n + 1) 136 lv (.int y :: .int x :: st) h = if x = y then am_f d scr L call 0 n 298 lv st h else am_f d scr L call 0 n 139 lv st h := k_ic_eq (o := 162) rfl ⟨by decide, rfl⟩
theorem s_0_139 (d L n : Nat) (scr : Nat → Int32) (call : Nat → List Value → am_H → Option am_X) (lv : am_L) (st : List Value) (h : am_H) : am_f d scr L call 0 (n + 1) 139 lv st h = am_f d scr L call 0 n 140 lv (.int 0 :: st) h := k_nx (i := .iconst 0) rfl rfl
theorem s_0_140 (d L n : Nat) (scr : Nat → Int32) (call : Nat → List Value → am_H → Option am_X) (lv : am_L) (h : am_H) (x : Int32) : am_f d scr L call 0 (n + 1) 140 lv [.int x] h = if x = 0 ∨ x = 1 then some (some (.int x), h, 0, 0) else none := k_zr rfl rfl
theorem s_0_141 (d L n : Nat) (scr : Nat → Int32) (call : Nat → List Value → am_H → Option am_X) (lv : am_L) (st : List Value) (h : am_H) : am_f d scr L call 0 (n + 1) 141 lv st h = (match am_ld lv 1 with
    | some (.ref x) => am_f d scr L call 0 n 142 lv (.ref x :: st) h
    | _ => none) := k_la (i := .aload_n 1) rfl rfl rfl rfl
theorem s_0_142 (d L n : Nat) (scr : Nat → Int32) (call : Nat → List Value → am_H → Option am_X) (lv : am_L) (h : am_H) (o : Nat)   : am_f d scr L call 0 (n + 1) 142 lv (.ref o :: []) h = if am_at h o 0 = true then (match call 3 [.ref o] h with
    | some (v, h', dk, dn) => am_add dk dn (am_f d scr L call 0 n 145 lv (v.toList ++ []) h')
    | none => none) else none := k_iv0 (k := 20) (as := []) (r := []) rfl rfl rfl rfl (Nat.le_of_ble_eq_true rfl)
theorem s_0_145 (d L n : Nat) (scr : Nat → Int32) (call : Nat → List Value → am_H → Option am_X) (lv : am_L) (st : List Value) (h : am_H) : am_f d scr L call 0 (n + 1) 145 lv st h = (match am_ld lv 2 with
    | some (.ref x) => am_f d scr L call 0 n 146 lv (.ref x :: st) h
    | _ => none) := k_la (i := .aload_n 2) rfl rfl rfl rfl
theorem s_0_146 (d L n : Nat) (scr : Nat → Int32) (call : Nat → List Value → am_H → Option am_X) (lv : am_L) (h : am_H) (o : Nat)  (r0 : Int32) : am_f d scr L call 0 (n + 1) 146 lv (.ref o :: .int r0 :: []) h = if am_at h o 8 = true then (match call 111 [.ref o] h with
    | some (v, h', dk, dn) => am_add dk dn (am_f d scr L call 0 n 149 lv (v.toList ++ [.int r0]) h')
    | none => none) else none := k_iv0 (k := 24) (as := []) (r := [.int r0]) rfl rfl rfl rfl (Nat.le_of_ble_eq_true rfl)
theorem s_0_149 (d L n : Nat) (scr : Nat → Int32) (call : Nat → List Value → am_H → Option am_X) (lv : am_L) (st : List Value) (h : am_H) (x y : Int32) : am_f d scr L call 0 (n + 1) 149 lv (.int y :: .int x :: st) h = if x = y then am_f d scr L call 0 n 298 lv st h else am_f d scr L call 0 n 152 lv st h := k_ic_eq (o := 149) rfl ⟨by decide, rfl⟩
theorem s_0_152 (d L n : Nat) (scr : Nat → Int32) (call : Nat → List Value → am_H → Option am_X) (lv : am_L) (st : List Value) (h : am_H) : am_f d scr L call 0 (n + 1) 152 lv st h = am_f d scr L call 0 n 153 lv (.int 0 :: st) h := k_nx (i := .iconst 0) rfl rfl
theorem s_0_153 (d L n : Nat) (scr : Nat → Int32) (call : Nat → List Value → am_H → Option am_X) (lv : am_L) (h : am_H) (x : Int32) : am_f d scr L call 0 (n + 1) 153 lv [.int x] h = if x = 0 ∨ x = 1 then some (some (.int x), h, 0, 0) else none := k_zr rfl rfl
theorem s_0_154 (d L n : Nat) (scr : Nat → Int32) (call : Nat → List Value → am_H → Option am_X) (lv : am_L) (st : List Value) (h : am_H) : am_f d scr L call 0 (n + 1) 154 lv st h = (match am_ld lv 1 with
    | some (.ref x) => am_f d scr L call 0 n 155 lv (.ref x :: st) h
    | _ => none) := k_la (i := .aload_n 1) rfl rfl rfl rfl
theorem s_0_155 (d L n : Nat) (scr : Nat → Int32) (call : Nat → List Value → am_H → Option am_X) (lv : am_L) (h : am_H) (o : Nat)   : am_f d scr L call 0 (n + 1) 155 lv (.ref o :: []) h = if am_at h o 0 = true then (match call 4 [.ref o] h with
    | some (v, h', dk, dn) => am_add dk dn (am_f d scr L call 0 n 158 lv (v.toList ++ []) h')
    | none => none) else none := k_iv0 (k := 25) (as := []) (r := []) rfl rfl rfl rfl (Nat.le_of_ble_eq_true rfl)
theorem s_0_158 (d L n : Nat) (scr : Nat → Int32) (call : Nat → List Value → am_H → Option am_X) (lv : am_L) (st : List Value) (h : am_H) : am_f d scr L call 0 (n + 1) 158 lv st h = (match am_ld lv 2 with
    | some (.ref x) => am_f d scr L call 0 n 159 lv (.ref x :: st) h
    | _ => none) := k_la (i := .aload_n 2) rfl rfl rfl rfl
theorem s_0_159 (d L n : Nat) (scr : Nat → Int32) (call : Nat → List Value → am_H → Option am_X) (lv : am_L) (h : am_H) (o : Nat)  (r0 : Int32) : am_f d scr L call 0 (n + 1) 159 lv (.ref o :: .int r0 :: []) h = if am_at h o 8 = true then (match call 132 [.ref o] h with
    | some (v, h', dk, dn) => am_add dk dn (am_f d scr L call 0 n 162 lv (v.toList ++ [.int r0]) h')
    | none => none) else none := k_iv0 (k := 28) (as := []) (r := [.int r0]) rfl rfl rfl rfl (Nat.le_of_ble_eq_true rfl)
theorem s_0_162 (d L n : Nat) (scr : Nat → Int32) (call : Nat → List Value → am_H → Option am_X) (lv : am_L) (st : List Value) (h : am_H) (x y : Int32) : am_f d scr L call 0 (n + 1) 162 lv (.int y :: .int x :: st) h = if x = y then am_f d scr L call 0 n 298 lv st h else am_f d scr L call 0 n 165 lv st h := k_ic_eq (o := 136) rfl ⟨by decide, rfl⟩
theorem s_0_165 (d L n : Nat) (scr : Nat → Int32) (call : Nat → List Value → am_H → Option am_X) (lv : am_L) (st : List Value) (h : am_H) : am_f d scr L call 0 (n + 1) 165 lv st h = am_f d scr L call 0 n 166 lv (.int 0 :: st) h := k_nx (i := .iconst 0) rfl rfl
theorem s_0_166 (d L n : Nat) (scr : Nat → Int32) (call : Nat → List Value → am_H → Option am_X) (lv : am_L) (h : am_H) (x : Int32) : am_f d scr L call 0 (n + 1) 166 lv [.int x] h = if x = 0 ∨ x = 1 then some (some (.int x), h, 0, 0) else none := k_zr rfl rfl
theorem s_0_167 (d L n : Nat) (scr : Nat → Int32) (call : Nat → List Value → am_H → Option am_X) (lv : am_L) (st : List Value) (h : am_H) : am_f d scr L call 0 (n + 1) 167 lv st h = (match am_ld lv 1 with
    | some (.ref x) => am_f d scr L call 0 n 168 lv (.ref x :: st) h
    | _ => none) := k_la (i := .aload_n 1) rfl rfl rfl rfl
theorem s_0_168 (d L n : Nat) (scr : Nat → Int32) (call : Nat → List Value → am_H → Option am_X) (lv : am_L) (st : List Value) (h : am_H) : am_f d scr L call 0 (n + 1) 168 lv st h = (match am_ld lv 0 with
    | some (.ref x) => am_f d scr L call 0 n 169 lv (.ref x :: st) h
    | _ => none) := k_la (i := .aload_n 0) rfl rfl rfl rfl
theorem s_0_169 (d L n : Nat) (scr : Nat → Int32) (call : Nat → List Value → am_H → Option am_X) (lv : am_L) (st : List Value) (h : am_H) : am_f d scr L call 0 (n + 1) 169 lv st h = (match am_ld lv 3 with
    | some (.int x) => am_f d scr L call 0 n 170 lv (.int x :: st) h
    | _ => none) := k_li (i := .iload_n 3) rfl rfl rfl rfl
theorem s_0_170 (d L n : Nat) (scr : Nat → Int32) (call : Nat → List Value → am_H → Option am_X) (lv : am_L) (st : List Value) (h : am_H) : am_f d scr L call 0 (n + 1) 170 lv st h = am_f d scr L call 0 n 171 lv (.int 1 :: st) h := k_nx (i := .iconst 1) rfl rfl
set_option maxRecDepth 100000 in
theorem s_0_171 (d L n : Nat) (scr : Nat → Int32) (call : Nat → List Value → am_H → Option am_X) (lv : am_L) (st : List Value) (h : am_H) (x y : Int32) : am_f d scr L call 0 (n + 1) 171 lv (.int y :: .int x :: st) h = am_f d scr L call 0 n 172 lv (.int (x + y) :: st) h := k_nx (i := .iadd) rfl rfl
set_option maxRecDepth 100000 in
theorem s_0_172 (d L n : Nat) (scr : Nat → Int32) (call : Nat → List Value → am_H → Option am_X) (lv : am_L) (st : List Value) (h : am_H) (a : Nat) (i : Int32) : am_f d scr L call 0 (n + 1) 172 lv (.int i :: .ref a :: st) h = (match am_ild scr L h a i with
    | some x => am_f d scr L call 0 n 173 lv (.int x :: st) h
    | none => none) := k_ia rfl
set_option maxRecDepth 100000 in
theorem s_0_173 (d L n : Nat) (scr : Nat → Int32) (call : Nat → List Value → am_H → Option am_X) (lv : am_L) (h : am_H) (o : Nat) (a0 : Int32)  : am_f d scr L call 0 (n + 1) 173 lv (.int a0 :: .ref o :: []) h = if am_at h o 0 = true then (match call 5 [.ref o, .int a0] h with
    | some (v, h', dk, dn) => am_add dk dn (am_f d scr L call 0 n 176 lv (v.toList ++ []) h')
    | none => none) else none := k_iv0 (k := 29) (as := [.int a0]) (r := []) rfl rfl rfl rfl (Nat.le_of_ble_eq_true rfl)
set_option maxRecDepth 100000 in
theorem s_0_176 (d L n : Nat) (scr : Nat → Int32) (call : Nat → List Value → am_H → Option am_X) (lv : am_L) (st : List Value) (h : am_H) : am_f d scr L call 0 (n + 1) 176 lv st h = (match am_ld lv 2 with
    | some (.ref x) => am_f d scr L call 0 n 177 lv (.ref x :: st) h
    | _ => none) := k_la (i := .aload_n 2) rfl rfl rfl rfl
set_option maxRecDepth 100000 in
theorem s_0_177 (d L n : Nat) (scr : Nat → Int32) (call : Nat → List Value → am_H → Option am_X) (lv : am_L) (st : List Value) (h : am_H) : am_f d scr L call 0 (n + 1) 177 lv st h = (match am_ld lv 0 with
    | some (.ref x) => am_f d scr L call 0 n 178 lv (.ref x :: st) h
    | _ => none) := k_la (i := .aload_n 0) rfl rfl rfl rfl
set_option maxRecDepth 100000 in
theorem s_0_178 (d L n : Nat) (scr : Nat → Int32) (call : Nat → List Value → am_H → Option am_X) (lv : am_L) (st : List Value) (h : am_H) : am_f d scr L call 0 (n + 1) 178 lv st h = (match am_ld lv 3 with
    | some (.int x) => am_f d scr L call 0 n 179 lv (.int x :: st) h
    | _ => none) := k_li (i := .iload_n 3) rfl rfl rfl rfl
set_option maxRecDepth 100000 in
theorem s_0_179 (d L n : Nat) (scr : Nat → Int32) (call : Nat → List Value → am_H → Option am_X) (lv : am_L) (st : List Value) (h : am_H) : am_f d scr L call 0 (n + 1) 179 lv st h = am_f d scr L call 0 n 180 lv (.int 1 :: st) h := k_nx (i := .iconst 1) rfl rfl
set_option maxRecDepth 100000 in
theorem s_0_180 (d L n : Nat) (scr : Nat → Int32) (call : Nat → List Value → am_H → Option am_X) (lv : am_L) (st : List Value) (h : am_H) (x y : Int32) : am_f d scr L call 0 (n + 1) 180 lv (.int y :: .int x :: st) h = am_f d scr L call 0 n 181 lv (.int (x + y) :: st) h := k_nx (i := .iadd) rfl rfl
set_option maxRecDepth 100000 in
theorem s_0_181 (d L n : Nat) (scr : Nat → Int32) (call : Nat → List Value → am_H → Option am_X) (lv : am_L) (st : List Value) (h : am_H) (a : Nat) (i : Int32) : am_f d scr L call 0 (n + 1) 181 lv (.int i :: .ref a :: st) h = (match am_ild scr L h a i with
    | some x => am_f d scr L call 0 n 182 lv (.int x :: st) h
    | none => none) := k_ia rfl
set_option maxRecDepth 100000 in
theorem s_0_182 (d L n : Nat) (scr : Nat → Int32) (call : Nat → List Value → am_H → Option am_X) (lv : am_L) (h : am_H) (o : Nat) (a0 : Int32) (r0 : Int32) : am_f d scr L call 0 (n + 1) 182 lv (.int a0 :: .ref o :: .int r0 :: []) h = if am_at h o 8 = true then (match call 133 [.ref o, .int a0] h with
    | some (v, h', dk, dn) => am_add dk dn (am_f d scr L call 0 n 185 lv (v.toList ++ [.int r0]) h')
    | none => none) else none := k_iv0 (k := 33) (as := [.int a0]) (r := [.int r0]) rfl rfl rfl rfl (Nat.le_of_ble_eq_true rfl)
set_option maxRecDepth 100000 in
theorem s_0_185 (d L n : Nat) (scr : Nat → Int32) (call : Nat → List Value → am_H → Option am_X) (lv : am_L) (st : List Value) (h : am_H) (x y : Int32) : am_f d scr L call 0 (n + 1) 185 lv (.int y :: .int x :: st) h = if x = y then am_f d scr L call 0 n 298 lv st h else am_f d scr L call 0 n 188 lv st h := k_ic_eq (o := 113) rfl ⟨by decide, rfl⟩
set_option maxRecDepth 100000 in
theorem s_0_188 (d L n : Nat) (scr : Nat → Int32) (call : Nat → List Value → am_H → Option am_X) (lv : am_L) (st : List Value) (h : am_H) : am_f d scr L call 0 (n + 1) 188 lv st h = am_f d scr L call 0 n 189 lv (.int 0 :: st) h := k_nx (i := .iconst 0) rfl rfl
set_option maxRecDepth 100000 in
theorem s_0_189 (d L n : Nat) (scr : Nat → Int32) (call : Nat → List Value → am_H → Option am_X) (lv : am_L) (h : am_H) (x : Int32) : am_f d scr L call 0 (n + 1) 189 lv [.int x] h = if x = 0 ∨ x = 1 then some (some (.int x), h, 0, 0) else none := k_zr rfl rfl
set_option maxRecDepth 100000 in
theorem s_0_190 (d L n : Nat) (scr : Nat → Int32) (call : Nat → List Value → am_H → Option am_X) (lv : am_L) (st : List Value) (h : am_H) : am_f d scr L call 0 (n + 1) 190 lv st h = (match am_ld lv 1 with
    | some (.ref x) => am_f d scr L call 0 n 191 lv (.ref x :: st) h
    | _ => none) := k_la (i := .aload_n 1) rfl rfl rfl rfl
set_option maxRecDepth 100000 in
theorem s_0_191 (d L n : Nat) (scr : Nat → Int32) (call : Nat → List Value → am_H → Option am_X) (lv : am_L) (st : List Value) (h : am_H) : am_f d scr L call 0 (n + 1) 191 lv st h = (match am_ld lv 0 with
    | some (.ref x) => am_f d scr L call 0 n 192 lv (.ref x :: st) h
    | _ => none) := k_la (i := .aload_n 0) rfl rfl rfl rfl
set_option maxRecDepth 100000 in
theorem s_0_192 (d L n : Nat) (scr : Nat → Int32) (call : Nat → List Value → am_H → Option am_X) (lv : am_L) (st : List Value) (h : am_H) : am_f d scr L call 0 (n + 1) 192 lv st h = (match am_ld lv 3 with
    | some (.int x) => am_f d scr L call 0 n 193 lv (.int x :: st) h
    | _ => none) := k_li (i := .iload_n 3) rfl rfl rfl rfl
set_option maxRecDepth 100000 in
theorem s_0_193 (d L n : Nat) (scr : Nat → Int32) (call : Nat → List Value → am_H → Option am_X) (lv : am_L) (st : List Value) (h : am_H) : am_f d scr L call 0 (n + 1) 193 lv st h = am_f d scr L call 0 n 194 lv (.int 1 :: st) h := k_nx (i := .iconst 1) rfl rfl
set_option maxRecDepth 100000 in
theorem s_0_194 (d L n : Nat) (scr : Nat → Int32) (call : Nat → List Value → am_H → Option am_X) (lv : am_L) (st : List Value) (h : am_H) (x y : Int32) : am_f d scr L call 0 (n + 1) 194 lv (.int y :: .int x :: st) h = am_f d scr L call 0 n 195 lv (.int (x + y) :: st) h := k_nx (i := .iadd) rfl rfl
set_option maxRecDepth 100000 in
theorem s_0_195 (d L n : Nat) (scr : Nat → Int32) (call : Nat → List Value → am_H → Option am_X) (lv : am_L) (st : List Value) (h : am_H) (a : Nat) (i : Int32) : am_f d scr L call 0 (n + 1) 195 lv (.int i :: .ref a :: st) h = (match am_ild scr L h a i with
    | some x => am_f d scr L call 0 n 196 lv (.int x :: st) h
    | none => none) := k_ia rfl
set_option maxRecDepth 100000 in
theorem s_0_196 (d L n : Nat) (scr : Nat → Int32) (call : Nat → List Value → am_H → Option am_X) (lv : am_L) (h : am_H) (o : Nat) (a0 : Int32)  : am_f d scr L call 0 (n + 1) 196 lv (.int a0 :: .ref o :: []) h = if am_at h o 0 = true then (match call 6 [.ref o, .int a0] h with
    | some (v, h', dk, dn) => am_add dk dn (am_f d scr L call 0 n 199 lv (v.toList ++ []) h')
    | none => none) else none := k_iv0 (k := 34) (as := [.int a0]) (r := []) rfl rfl rfl rfl (Nat.le_of_ble_eq_true rfl)
set_option maxRecDepth 100000 in
theorem s_0_199 (d L n : Nat) (scr : Nat → Int32) (call : Nat → List Value → am_H → Option am_X) (lv : am_L) (st : List Value) (h : am_H) : am_f d scr L call 0 (n + 1) 199 lv st h = (match am_ld lv 2 with
    | some (.ref x) => am_f d scr L call 0 n 200 lv (.ref x :: st) h
    | _ => none) := k_la (i := .aload_n 2) rfl rfl rfl rfl
set_option maxRecDepth 100000 in
theorem s_0_200 (d L n : Nat) (scr : Nat → Int32) (call : Nat → List Value → am_H → Option am_X) (lv : am_L) (st : List Value) (h : am_H) : am_f d scr L call 0 (n + 1) 200 lv st h = (match am_ld lv 0 with
    | some (.ref x) => am_f d scr L call 0 n 201 lv (.ref x :: st) h
    | _ => none) := k_la (i := .aload_n 0) rfl rfl rfl rfl
set_option maxRecDepth 100000 in
theorem s_0_201 (d L n : Nat) (scr : Nat → Int32) (call : Nat → List Value → am_H → Option am_X) (lv : am_L) (st : List Value) (h : am_H) : am_f d scr L call 0 (n + 1) 201 lv st h = (match am_ld lv 3 with
    | some (.int x) => am_f d scr L call 0 n 202 lv (.int x :: st) h
    | _ => none) := k_li (i := .iload_n 3) rfl rfl rfl rfl
set_option maxRecDepth 100000 in
theorem s_0_202 (d L n : Nat) (scr : Nat → Int32) (call : Nat → List Value → am_H → Option am_X) (lv : am_L) (st : List Value) (h : am_H) : am_f d scr L call 0 (n + 1) 202 lv st h = am_f d scr L call 0 n 203 lv (.int 1 :: st) h := k_nx (i := .iconst 1) rfl rfl
set_option maxRecDepth 100000 in
theorem s_0_203 (d L n : Nat) (scr : Nat → Int32) (call : Nat → List Value → am_H → Option am_X) (lv : am_L) (st : List Value) (h : am_H) (x y : Int32) : am_f d scr L call 0 (n + 1) 203 lv (.int y :: .int x :: st) h = am_f d scr L call 0 n 204 lv (.int (x + y) :: st) h := k_nx (i := .iadd) rfl rfl
set_option maxRecDepth 100000 in
theorem s_0_204 (d L n : Nat) (scr : Nat → Int32) (call : Nat → List Value → am_H → Option am_X) (lv : am_L) (st : List Value) (h : am_H) (a : Nat) (i : Int32) : am_f d scr L call 0 (n + 1) 204 lv (.int i :: .ref a :: st) h = (match am_ild scr L h a i with
    | some x => am_f d scr L call 0 n 205 lv (.int x :: st) h
    | none => none) := k_ia rfl
set_option maxRecDepth 100000 in
theorem s_0_205 (d L n : Nat) (scr : Nat → Int32) (call : Nat → List Value → am_H → Option am_X) (lv : am_L) (h : am_H) (o : Nat) (a0 : Int32) (r0 : Int32) : am_f d scr L call 0 (n + 1) 205 lv (.int a0 :: .ref o :: .int r0 :: []) h = if am_at h o 8 = true then (match call 131 [.ref o, .int a0] h with
    | some (v, h', dk, dn) => am_add dk dn (am_f d scr L call 0 n 208 lv (v.toList ++ [.int r0]) h')
    | none => none) else none := k_iv0 (k := 37) (as := [.int a0]) (r := [.int r0]) rfl rfl rfl rfl (Nat.le_of_ble_eq_true rfl)
set_option maxRecDepth 100000 in
theorem s_0_208 (d L n : Nat) (scr : Nat → Int32) (call : Nat → List Value → am_H → Option am_X) (lv : am_L) (st : List Value) (h : am_H) (x y : Int32) : am_f d scr L call 0 (n + 1) 208 lv (.int y :: .int x :: st) h = if x = y then am_f d scr L call 0 n 298 lv st h else am_f d scr L call 0 n 211 lv st h := k_ic_eq (o := 90) rfl ⟨by decide, rfl⟩
set_option maxRecDepth 100000 in
theorem s_0_211 (d L n : Nat) (scr : Nat → Int32) (call : Nat → List Value → am_H → Option am_X) (lv : am_L) (st : List Value) (h : am_H) : am_f d scr L call 0 (n + 1) 211 lv st h = am_f d scr L call 0 n 212 lv (.int 0 :: st) h := k_nx (i := .iconst 0) rfl rfl
set_option maxRecDepth 100000 in
theorem s_0_212 (d L n : Nat) (scr : Nat → Int32) (call : Nat → List Value → am_H → Option am_X) (lv : am_L) (h : am_H) (x : Int32) : am_f d scr L call 0 (n + 1) 212 lv [.int x] h = if x = 0 ∨ x = 1 then some (some (.int x), h, 0, 0) else none := k_zr rfl rfl
set_option maxRecDepth 100000 in
theorem s_0_213 (d L n : Nat) (scr : Nat → Int32) (call : Nat → List Value → am_H → Option am_X) (lv : am_L) (st : List Value) (h : am_H) : am_f d scr L call 0 (n + 1) 213 lv st h = (match am_ld lv 1 with
    | some (.ref x) => am_f d scr L call 0 n 214 lv (.ref x :: st) h
    | _ => none) := k_la (i := .aload_n 1) rfl rfl rfl rfl
set_option maxRecDepth 100000 in
theorem s_0_214 (d L n : Nat) (scr : Nat → Int32) (call : Nat → List Value → am_H → Option am_X) (lv : am_L) (st : List Value) (h : am_H) : am_f d scr L call 0 (n + 1) 214 lv st h = (match am_ld lv 0 with
    | some (.ref x) => am_f d scr L call 0 n 215 lv (.ref x :: st) h
    | _ => none) := k_la (i := .aload_n 0) rfl rfl rfl rfl
set_option maxRecDepth 100000 in
theorem s_0_215 (d L n : Nat) (scr : Nat → Int32) (call : Nat → List Value → am_H → Option am_X) (lv : am_L) (st : List Value) (h : am_H) : am_f d scr L call 0 (n + 1) 215 lv st h = (match am_ld lv 3 with
    | some (.int x) => am_f d scr L call 0 n 216 lv (.int x :: st) h
    | _ => none) := k_li (i := .iload_n 3) rfl rfl rfl rfl
set_option maxRecDepth 100000 in
theorem s_0_216 (d L n : Nat) (scr : Nat → Int32) (call : Nat → List Value → am_H → Option am_X) (lv : am_L) (st : List Value) (h : am_H) : am_f d scr L call 0 (n + 1) 216 lv st h = am_f d scr L call 0 n 217 lv (.int 1 :: st) h := k_nx (i := .iconst 1) rfl rfl
set_option maxRecDepth 100000 in
theorem s_0_217 (d L n : Nat) (scr : Nat → Int32) (call : Nat → List Value → am_H → Option am_X) (lv : am_L) (st : List Value) (h : am_H) (x y : Int32) : am_f d scr L call 0 (n + 1) 217 lv (.int y :: .int x :: st) h = am_f d scr L call 0 n 218 lv (.int (x + y) :: st) h := k_nx (i := .iadd) rfl rfl
set_option maxRecDepth 100000 in
theorem s_0_218 (d L n : Nat) (scr : Nat → Int32) (call : Nat → List Value → am_H → Option am_X) (lv : am_L) (st : List Value) (h : am_H) (a : Nat) (i : Int32) : am_f d scr L call 0 (n + 1) 218 lv (.int i :: .ref a :: st) h = (match am_ild scr L h a i with
    | some x => am_f d scr L call 0 n 219 lv (.int x :: st) h
    | none => none) := k_ia rfl
set_option maxRecDepth 100000 in
theorem s_0_219 (d L n : Nat) (scr : Nat → Int32) (call : Nat → List Value → am_H → Option am_X) (lv : am_L) (h : am_H) (o : Nat) (a0 : Int32)  : am_f d scr L call 0 (n + 1) 219 lv (.int a0 :: .ref o :: []) h = if am_at h o 0 = true then (match call 7 [.ref o, .int a0] h with
    | some (v, h', dk, dn) => am_add dk dn (am_f d scr L call 0 n 222 lv (v.toList ++ []) h')
    | none => none) else none := k_iv0 (k := 38) (as := [.int a0]) (r := []) rfl rfl rfl rfl (Nat.le_of_ble_eq_true rfl)
set_option maxRecDepth 100000 in
theorem s_0_222 (d L n : Nat) (scr : Nat → Int32) (call : Nat → List Value → am_H → Option am_X) (lv : am_L) (st : List Value) (h : am_H) : am_f d scr L call 0 (n + 1) 222 lv st h = (match am_ld lv 2 with
    | some (.ref x) => am_f d scr L call 0 n 223 lv (.ref x :: st) h
    | _ => none) := k_la (i := .aload_n 2) rfl rfl rfl rfl
set_option maxRecDepth 100000 in
theorem s_0_223 (d L n : Nat) (scr : Nat → Int32) (call : Nat → List Value → am_H → Option am_X) (lv : am_L) (st : List Value) (h : am_H) : am_f d scr L call 0 (n + 1) 223 lv st h = (match am_ld lv 0 with
    | some (.ref x) => am_f d scr L call 0 n 224 lv (.ref x :: st) h
    | _ => none) := k_la (i := .aload_n 0) rfl rfl rfl rfl
set_option maxRecDepth 100000 in
theorem s_0_224 (d L n : Nat) (scr : Nat → Int32) (call : Nat → List Value → am_H → Option am_X) (lv : am_L) (st : List Value) (h : am_H) : am_f d scr L call 0 (n + 1) 224 lv st h = (match am_ld lv 3 with
    | some (.int x) => am_f d scr L call 0 n 225 lv (.int x :: st) h
    | _ => none) := k_li (i := .iload_n 3) rfl rfl rfl rfl
set_option maxRecDepth 100000 in
theorem s_0_225 (d L n : Nat) (scr : Nat → Int32) (call : Nat → List Value → am_H → Option am_X) (lv : am_L) (st : List Value) (h : am_H) : am_f d scr L call 0 (n + 1) 225 lv st h = am_f d scr L call 0 n 226 lv (.int 1 :: st) h := k_nx (i := .iconst 1) rfl rfl
set_option maxRecDepth 100000 in
theorem s_0_226 (d L n : Nat) (scr : Nat → Int32) (call : Nat → List Value → am_H → Option am_X) (lv : am_L) (st : List Value) (h : am_H) (x y : Int32) : am_f d scr L call 0 (n + 1) 226 lv (.int y :: .int x :: st) h = am_f d scr L call 0 n 227 lv (.int (x + y) :: st) h := k_nx (i := .iadd) rfl rfl
set_option maxRecDepth 100000 in
theorem s_0_227 (d L n : Nat) (scr : Nat → Int32) (call : Nat → List Value → am_H → Option am_X) (lv : am_L) (st : List Value) (h : am_H) (a : Nat) (i : Int32) : am_f d scr L call 0 (n + 1) 227 lv (.int i :: .ref a :: st) h = (match am_ild scr L h a i with
    | some x => am_f d scr L call 0 n 228 lv (.int x :: st) h
    | none => none) := k_ia rfl
set_option maxRecDepth 100000 in
theorem s_0_228 (d L n : Nat) (scr : Nat → Int32) (call : Nat → List Value → am_H → Option am_X) (lv : am_L) (h : am_H) (o : Nat) (a0 : Int32) (r0 : Int32) : am_f d scr L call 0 (n + 1) 228 lv (.int a0 :: .ref o :: .int r0 :: []) h = if am_at h o 8 = true then (match call 134 [.ref o, .int a0] h with
    | some (v, h', dk, dn) => am_add dk dn (am_f d scr L call 0 n 231 lv (v.toList ++ [.int r0]) h')
    | none => none) else none := k_iv0 (k := 41) (as := [.int a0]) (r := [.int r0]) rfl rfl rfl rfl (Nat.le_of_ble_eq_true rfl)
set_option maxRecDepth 100000 in
theorem s_0_231 (d L n : Nat) (scr : Nat → Int32) (call : Nat → List Value → am_H → Option am_X) (lv : am_L) (st : List Value) (h : am_H) (x y : Int32) : am_f d scr L call 0 (n + 1) 231 lv (.int y :: .int x :: st) h = if x = y then am_f d scr L call 0 n 298 lv st h else am_f d scr L call 0 n 234 lv st h := k_ic_eq (o := 67) rfl ⟨by decide, rfl⟩
set_option maxRecDepth 100000 in
theorem s_0_234 (d L n : Nat) (scr : Nat → Int32) (call : Nat → List Value → am_H → Option am_X) (lv : am_L) (st : List Value) (h : am_H) : am_f d scr L call 0 (n + 1) 234 lv st h = am_f d scr L call 0 n 235 lv (.int 0 :: st) h := k_nx (i := .iconst 0) rfl rfl
set_option maxRecDepth 100000 in
theorem s_0_235 (d L n : Nat) (scr : Nat → Int32) (call : Nat → List Value → am_H → Option am_X) (lv : am_L) (h : am_H) (x : Int32) : am_f d scr L call 0 (n + 1) 235 lv [.int x] h = if x = 0 ∨ x = 1 then some (some (.int x), h, 0, 0) else none := k_zr rfl rfl
set_option maxRecDepth 100000 in
theorem s_0_236 (d L n : Nat) (scr : Nat → Int32) (call : Nat → List Value → am_H → Option am_X) (lv : am_L) (st : List Value) (h : am_H) : am_f d scr L call 0 (n + 1) 236 lv st h = (match am_ld lv 1 with
    | some (.ref x) => am_f d scr L call 0 n 237 lv (.ref x :: st) h
    | _ => none) := k_la (i := .aload_n 1) rfl rfl rfl rfl
set_option maxRecDepth 100000 in
theorem s_0_237 (d L n : Nat) (scr : Nat → Int32) (call : Nat → List Value → am_H → Option am_X) (lv : am_L) (h : am_H) (o : Nat)   : am_f d scr L call 0 (n + 1) 237 lv (.ref o :: []) h = if am_at h o 0 = true then (match call 8 [.ref o] h with
    | some (v, h', dk, dn) => am_add dk dn (am_f d scr L call 0 n 240 lv (v.toList ++ []) h')
    | none => none) else none := k_iv0 (k := 42) (as := []) (r := []) rfl rfl rfl rfl (Nat.le_of_ble_eq_true rfl)
set_option maxRecDepth 100000 in
theorem s_0_240 (d L n : Nat) (scr : Nat → Int32) (call : Nat → List Value → am_H → Option am_X) (lv : am_L) (st : List Value) (h : am_H) : am_f d scr L call 0 (n + 1) 240 lv st h = (match am_ld lv 2 with
    | some (.ref x) => am_f d scr L call 0 n 241 lv (.ref x :: st) h
    | _ => none) := k_la (i := .aload_n 2) rfl rfl rfl rfl
set_option maxRecDepth 100000 in
theorem s_0_241 (d L n : Nat) (scr : Nat → Int32) (call : Nat → List Value → am_H → Option am_X) (lv : am_L) (h : am_H) (o : Nat)  (r0 : Int32) : am_f d scr L call 0 (n + 1) 241 lv (.ref o :: .int r0 :: []) h = if am_at h o 8 = true then (match call 135 [.ref o] h with
    | some (v, h', dk, dn) => am_add dk dn (am_f d scr L call 0 n 244 lv (v.toList ++ [.int r0]) h')
    | none => none) else none := k_iv0 (k := 45) (as := []) (r := [.int r0]) rfl rfl rfl rfl (Nat.le_of_ble_eq_true rfl)
set_option maxRecDepth 100000 in
theorem s_0_244 (d L n : Nat) (scr : Nat → Int32) (call : Nat → List Value → am_H → Option am_X) (lv : am_L) (st : List Value) (h : am_H) (x y : Int32) : am_f d scr L call 0 (n + 1) 244 lv (.int y :: .int x :: st) h = if x = y then am_f d scr L call 0 n 298 lv st h else am_f d scr L call 0 n 247 lv st h := k_ic_eq (o := 54) rfl ⟨by decide, rfl⟩
set_option maxRecDepth 100000 in
theorem s_0_247 (d L n : Nat) (scr : Nat → Int32) (call : Nat → List Value → am_H → Option am_X) (lv : am_L) (st : List Value) (h : am_H) : am_f d scr L call 0 (n + 1) 247 lv st h = am_f d scr L call 0 n 248 lv (.int 0 :: st) h := k_nx (i := .iconst 0) rfl rfl
set_option maxRecDepth 100000 in
theorem s_0_248 (d L n : Nat) (scr : Nat → Int32) (call : Nat → List Value → am_H → Option am_X) (lv : am_L) (h : am_H) (x : Int32) : am_f d scr L call 0 (n + 1) 248 lv [.int x] h = if x = 0 ∨ x = 1 then some (some (.int x), h, 0, 0) else none := k_zr rfl rfl
set_option maxRecDepth 100000 in
theorem s_0_249 (d L n : Nat) (scr : Nat → Int32) (call : Nat → List Value → am_H → Option am_X) (lv : am_L) (st : List Value) (h : am_H) : am_f d scr L call 0 (n + 1) 249 lv st h = (match am_ld lv 1 with
    | some (.ref x) => am_f d scr L call 0 n 250 lv (.ref x :: st) h
    | _ => none) := k_la (i := .aload_n 1) rfl rfl rfl rfl
set_option maxRecDepth 100000 in
theorem s_0_250 (d L n : Nat) (scr : Nat → Int32) (call : Nat → List Value → am_H → Option am_X) (lv : am_L) (st : List Value) (h : am_H) : am_f d scr L call 0 (n + 1) 250 lv st h = (match am_ld lv 0 with
    | some (.ref x) => am_f d scr L call 0 n 251 lv (.ref x :: st) h
    | _ => none) := k_la (i := .aload_n 0) rfl rfl rfl rfl
set_option maxRecDepth 100000 in
theorem s_0_251 (d L n : Nat) (scr : Nat → Int32) (call : Nat → List Value → am_H → Option am_X) (lv : am_L) (st : List Value) (h : am_H) : am_f d scr L call 0 (n + 1) 251 lv st h = (match am_ld lv 3 with
    | some (.int x) => am_f d scr L call 0 n 252 lv (.int x :: st) h
    | _ => none) := k_li (i := .iload_n 3) rfl rfl rfl rfl
set_option maxRecDepth 100000 in
theorem s_0_252 (d L n : Nat) (scr : Nat → Int32) (call : Nat → List Value → am_H → Option am_X) (lv : am_L) (st : List Value) (h : am_H) : am_f d scr L call 0 (n + 1) 252 lv st h = am_f d scr L call 0 n 253 lv (.int 1 :: st) h := k_nx (i := .iconst 1) rfl rfl
set_option maxRecDepth 100000 in
theorem s_0_253 (d L n : Nat) (scr : Nat → Int32) (call : Nat → List Value → am_H → Option am_X) (lv : am_L) (st : List Value) (h : am_H) (x y : Int32) : am_f d scr L call 0 (n + 1) 253 lv (.int y :: .int x :: st) h = am_f d scr L call 0 n 254 lv (.int (x + y) :: st) h := k_nx (i := .iadd) rfl rfl
set_option maxRecDepth 100000 in
theorem s_0_254 (d L n : Nat) (scr : Nat → Int32) (call : Nat → List Value → am_H → Option am_X) (lv : am_L) (st : List Value) (h : am_H) (a : Nat) (i : Int32) : am_f d scr L call 0 (n + 1) 254 lv (.int i :: .ref a :: st) h = (match am_ild scr L h a i with
    | some x => am_f d scr L call 0 n 255 lv (.int x :: st) h
    | none => none) := k_ia rfl
set_option maxRecDepth 100000 in
theorem s_0_255 (d L n : Nat) (scr : Nat → Int32) (call : Nat → List Value → am_H → Option am_X) (lv : am_L) (h : am_H) (o : Nat) (a0 : Int32)  : am_f d scr L call 0 (n + 1) 255 lv (.int a0 :: .ref o :: []) h = if am_at h o 0 = true then (match call 9 [.ref o, .int a0] h with
    | some (v, h', dk, dn) => am_add dk dn (am_f d scr L call 0 n 258 lv (v.toList ++ []) h')
    | none => none) else none := k_iv0 (k := 46) (as := [.int a0]) (r := []) rfl rfl rfl rfl (Nat.le_of_ble_eq_true rfl)
set_option maxRecDepth 100000 in
theorem s_0_258 (d L n : Nat) (scr : Nat → Int32) (call : Nat → List Value → am_H → Option am_X) (lv : am_L) (st : List Value) (h : am_H) : am_f d scr L call 0 (n + 1) 258 lv st h = (match am_ld lv 2 with
    | some (.ref x) => am_f d scr L call 0 n 259 lv (.ref x :: st) h
    | _ => none) := k_la (i := .aload_n 2) rfl rfl rfl rfl
set_option maxRecDepth 100000 in
theorem s_0_259 (d L n : Nat) (scr : Nat → Int32) (call : Nat → List Value → am_H → Option am_X) (lv : am_L) (st : List Value) (h : am_H) : am_f d scr L call 0 (n + 1) 259 lv st h = (match am_ld lv 0 with
    | some (.ref x) => am_f d scr L call 0 n 260 lv (.ref x :: st) h
    | _ => none) := k_la (i := .aload_n 0) rfl rfl rfl rfl
set_option maxRecDepth 100000 in
theorem s_0_260 (d L n : Nat) (scr : Nat → Int32) (call : Nat → List Value → am_H → Option am_X) (lv : am_L) (st : List Value) (h : am_H) : am_f d scr L call 0 (n + 1) 260 lv st h = (match am_ld lv 3 with
    | some (.int x) => am_f d scr L call 0 n 261 lv (.int x :: st) h
    | _ => none) := k_li (i := .iload_n 3) rfl rfl rfl rfl
set_option maxRecDepth 100000 in
theorem s_0_261 (d L n : Nat) (scr : Nat → Int32) (call : Nat → List Value → am_H → Option am_X) (lv : am_L) (st : List Value) (h : am_H) : am_f d scr L call 0 (n + 1) 261 lv st h = am_f d scr L call 0 n 262 lv (.int 1 :: st) h := k_nx (i := .iconst 1) rfl rfl
set_option maxRecDepth 100000 in
theorem s_0_262 (d L n : Nat) (scr : Nat → Int32) (call : Nat → List Value → am_H → Option am_X) (lv : am_L) (st : List Value) (h : am_H) (x y : Int32) : am_f d scr L call 0 (n + 1) 262 lv (.int y :: .int x :: st) h = am_f d scr L call 0 n 263 lv (.int (x + y) :: st) h := k_nx (i := .iadd) rfl rfl
set_option maxRecDepth 100000 in
theorem s_0_263 (d L n : Nat) (scr : Nat → Int32) (call : Nat → List Value → am_H → Option am_X) (lv : am_L) (st : List Value) (h : am_H) (a : Nat) (i : Int32) : am_f d scr L call 0 (n + 1) 263 lv (.int i :: .ref a :: st) h = (match am_ild scr L h a i with
    | some x => am_f d scr L call 0 n 264 lv (.int x :: st) h
    | none => none) := k_ia rfl
set_option maxRecDepth 100000 in
theorem s_0_264 (d L n : Nat) (scr : Nat → Int32) (call : Nat → List Value → am_H → Option am_X) (lv : am_L) (h : am_H) (o : Nat) (a0 : Int32) (r0 : Int32) : am_f d scr L call 0 (n + 1) 264 lv (.int a0 :: .ref o :: .int r0 :: []) h = if am_at h o 8 = true then (match call 136 [.ref o, .int a0] h with
    | some (v, h', dk, dn) => am_add dk dn (am_f d scr L call 0 n 267 lv (v.toList ++ [.int r0]) h')
    | none => none) else none := k_iv0 (k := 49) (as := [.int a0]) (r := [.int r0]) rfl rfl rfl rfl (Nat.le_of_ble_eq_true rfl)
set_option maxRecDepth 100000 in
theorem s_0_267 (d L n : Nat) (scr : Nat → Int32) (call : Nat → List Value → am_H → Option am_X) (lv : am_L) (st : List Value) (h : am_H) (x y : Int32) : am_f d scr L call 0 (n + 1) 267 lv (.int y :: .int x :: st) h = if x = y then am_f d scr L call 0 n 298 lv st h else am_f d scr L call 0 n 270 lv st h := k_ic_eq (o := 31) rfl ⟨by decide, rfl⟩
set_option maxRecDepth 100000 in
theorem s_0_270 (d L n : Nat) (scr : Nat → Int32) (call : Nat → List Value → am_H → Option am_X) (lv : am_L) (st : List Value) (h : am_H) : am_f d scr L call 0 (n + 1) 270 lv st h = am_f d scr L call 0 n 271 lv (.int 0 :: st) h := k_nx (i := .iconst 0) rfl rfl
set_option maxRecDepth 100000 in
theorem s_0_271 (d L n : Nat) (scr : Nat → Int32) (call : Nat → List Value → am_H → Option am_X) (lv : am_L) (h : am_H) (x : Int32) : am_f d scr L call 0 (n + 1) 271 lv [.int x] h = if x = 0 ∨ x = 1 then some (some (.int x), h, 0, 0) else none := k_zr rfl rfl
set_option maxRecDepth 100000 in
theorem s_0_272 (d L n : Nat) (scr : Nat → Int32) (call : Nat → List Value → am_H → Option am_X) (lv : am_L) (st : List Value) (h : am_H) : am_f d scr L call 0 (n + 1) 272 lv st h = (match am_ld lv 1 with
    | some (.ref x) => am_f d scr L call 0 n 273 lv (.ref x :: st) h
    | _ => none) := k_la (i := .aload_n 1) rfl rfl rfl rfl
set_option maxRecDepth 100000 in
theorem s_0_273 (d L n : Nat) (scr : Nat → Int32) (call : Nat → List Value → am_H → Option am_X) (lv : am_L) (h : am_H) (o : Nat)   : am_f d scr L call 0 (n + 1) 273 lv (.ref o :: []) h = if am_at h o 0 = true then (match call 10 [.ref o] h with
    | some (v, h', dk, dn) => am_add dk dn (am_f d scr L call 0 n 276 lv (v.toList ++ []) h')
    | none => none) else none := k_iv0 (k := 50) (as := []) (r := []) rfl rfl rfl rfl (Nat.le_of_ble_eq_true rfl)
set_option maxRecDepth 100000 in
theorem s_0_276 (d L n : Nat) (scr : Nat → Int32) (call : Nat → List Value → am_H → Option am_X) (lv : am_L) (st : List Value) (h : am_H) : am_f d scr L call 0 (n + 1) 276 lv st h = (match am_ld lv 2 with
    | some (.ref x) => am_f d scr L call 0 n 277 lv (.ref x :: st) h
    | _ => none) := k_la (i := .aload_n 2) rfl rfl rfl rfl
set_option maxRecDepth 100000 in
theorem s_0_277 (d L n : Nat) (scr : Nat → Int32) (call : Nat → List Value → am_H → Option am_X) (lv : am_L) (h : am_H) (o : Nat)  (r0 : Int32) : am_f d scr L call 0 (n + 1) 277 lv (.ref o :: .int r0 :: []) h = if am_at h o 8 = true then (match call 137 [.ref o] h with
    | some (v, h', dk, dn) => am_add dk dn (am_f d scr L call 0 n 280 lv (v.toList ++ [.int r0]) h')
    | none => none) else none := k_iv0 (k := 53) (as := []) (r := [.int r0]) rfl rfl rfl rfl (Nat.le_of_ble_eq_true rfl)
set_option maxRecDepth 100000 in
theorem s_0_280 (d L n : Nat) (scr : Nat → Int32) (call : Nat → List Value → am_H → Option am_X) (lv : am_L) (st : List Value) (h : am_H) (x y : Int32) : am_f d scr L call 0 (n + 1) 280 lv (.int y :: .int x :: st) h = if x = y then am_f d scr L call 0 n 298 lv st h else am_f d scr L call 0 n 283 lv st h := k_ic_eq (o := 18) rfl ⟨by decide, rfl⟩
set_option maxRecDepth 100000 in
theorem s_0_283 (d L n : Nat) (scr : Nat → Int32) (call : Nat → List Value → am_H → Option am_X) (lv : am_L) (st : List Value) (h : am_H) : am_f d scr L call 0 (n + 1) 283 lv st h = am_f d scr L call 0 n 284 lv (.int 0 :: st) h := k_nx (i := .iconst 0) rfl rfl
set_option maxRecDepth 100000 in
theorem s_0_284 (d L n : Nat) (scr : Nat → Int32) (call : Nat → List Value → am_H → Option am_X) (lv : am_L) (h : am_H) (x : Int32) : am_f d scr L call 0 (n + 1) 284 lv [.int x] h = if x = 0 ∨ x = 1 then some (some (.int x), h, 0, 0) else none := k_zr rfl rfl
set_option maxRecDepth 100000 in
theorem s_0_285 (d L n : Nat) (scr : Nat → Int32) (call : Nat → List Value → am_H → Option am_X) (lv : am_L) (st : List Value) (h : am_H) : am_f d scr L call 0 (n + 1) 285 lv st h = (match am_ld lv 1 with
    | some (.ref x) => am_f d scr L call 0 n 286 lv (.ref x :: st) h
    | _ => none) := k_la (i := .aload_n 1) rfl rfl rfl rfl
set_option maxRecDepth 100000 in
theorem s_0_286 (d L n : Nat) (scr : Nat → Int32) (call : Nat → List Value → am_H → Option am_X) (lv : am_L) (h : am_H) (o : Nat)   : am_f d scr L call 0 (n + 1) 286 lv (.ref o :: []) h = if am_at h o 0 = true then (match call 11 [.ref o] h with
    | some (v, h', dk, dn) => am_add dk dn (am_f d scr L call 0 n 289 lv (v.toList ++ []) h')
    | none => none) else none := k_iv0 (k := 54) (as := []) (r := []) rfl rfl rfl rfl (Nat.le_of_ble_eq_true rfl)
set_option maxRecDepth 100000 in
theorem s_0_289 (d L n : Nat) (scr : Nat → Int32) (call : Nat → List Value → am_H → Option am_X) (lv : am_L) (st : List Value) (h : am_H) : am_f d scr L call 0 (n + 1) 289 lv st h = (match am_ld lv 2 with
    | some (.ref x) => am_f d scr L call 0 n 290 lv (.ref x :: st) h
    | _ => none) := k_la (i := .aload_n 2) rfl rfl rfl rfl
set_option maxRecDepth 100000 in
theorem s_0_290 (d L n : Nat) (scr : Nat → Int32) (call : Nat → List Value → am_H → Option am_X) (lv : am_L) (h : am_H) (o : Nat)  (r0 : Int32) : am_f d scr L call 0 (n + 1) 290 lv (.ref o :: .int r0 :: []) h = if am_at h o 8 = true then (match call 138 [.ref o] h with
    | some (v, h', dk, dn) => am_add dk dn (am_f d scr L call 0 n 293 lv (v.toList ++ [.int r0]) h')
    | none => none) else none := k_iv0 (k := 57) (as := []) (r := [.int r0]) rfl rfl rfl rfl (Nat.le_of_ble_eq_true rfl)
set_option maxRecDepth 100000 in
theorem s_0_293 (d L n : Nat) (scr : Nat → Int32) (call : Nat → List Value → am_H → Option am_X) (lv : am_L) (st : List Value) (h : am_H) (x y : Int32) : am_f d scr L call 0 (n + 1) 293 lv (.int y :: .int x :: st) h = if x = y then am_f d scr L call 0 n 298 lv st h else am_f d scr L call 0 n 296 lv st h := k_ic_eq (o := 5) rfl ⟨by decide, rfl⟩
set_option maxRecDepth 100000 in
theorem s_0_296 (d L n : Nat) (scr : Nat → Int32) (call : Nat → List Value → am_H → Option am_X) (lv : am_L) (st : List Value) (h : am_H) : am_f d scr L call 0 (n + 1) 296 lv st h = am_f d scr L call 0 n 297 lv (.int 0 :: st) h := k_nx (i := .iconst 0) rfl rfl
set_option maxRecDepth 100000 in
theorem s_0_297 (d L n : Nat) (scr : Nat → Int32) (call : Nat → List Value → am_H → Option am_X) (lv : am_L) (h : am_H) (x : Int32) : am_f d scr L call 0 (n + 1) 297 lv [.int x] h = if x = 0 ∨ x = 1 then some (some (.int x), h, 0, 0) else none := k_zr rfl rfl
set_option maxRecDepth 100000 in
theorem s_0_298 (d L n : Nat) (scr : Nat → Int32) (call : Nat → List Value → am_H → Option am_X) (lv : am_L) (st : List Value) (h : am_H) : am_f d scr L call 0 (n + 1) 298 lv st h = (match am_ld lv 3 with
    | some (.int x) => am_f d scr L call 0 n 301 (am_st1 lv 3 (.int (x + 3))) st h
    | _ => none) := k_iinc (k := 3) (c := 3) rfl rfl (Nat.le_of_ble_eq_true rfl)
set_option maxRecDepth 100000 in
theorem s_0_301 (d L n : Nat) (scr : Nat → Int32) (call : Nat → List Value → am_H → Option am_X) (lv : am_L) (st : List Value) (h : am_H) : am_f d scr L call 0 (n + 1) 301 lv st h = am_f d scr L call 0 n 18 lv st h := k_nx (i := .goto (-283)) rfl rfl
set_option maxRecDepth 100000 in
theorem s_0_304 (d L n : Nat) (scr : Nat → Int32) (call : Nat → List Value → am_H → Option am_X) (lv : am_L) (st : List Value) (h : am_H) : am_f d scr L call 0 (n + 1) 304 lv st h = am_f d scr L call 0 n 305 lv (.int 1 :: st) h := k_nx (i := .iconst 1) rfl rfl
set_option maxRecDepth 100000 in
theorem s_0_305 (d L n : Nat) (scr : Nat → Int32) (call : Nat → List Value → am_H → Option am_X) (lv : am_L) (h : am_H) (x : Int32) : am_f d scr L call 0 (n + 1) 305 lv [.int x] h = if x = 0 ∨ x = 1 then some (some (.int x), h, 0, 0) else none := k_zr rfl rfl
-- 1: BlameDesk.<init>()V
theorem s_1_0 (d L n : Nat) (scr : Nat → Int32) (call : Nat → List Value → am_H → Option am_X) (lv : am_L) (st : List Value) (h : am_H) : am_f d scr L call 1 (n + 1) 0 lv st h = (match am_ld lv 0 with
    | some (.ref x) => am_f d scr L call 1 n 1 lv (.ref x :: st) h
    | _ => none) := k_la (i := .aload_n 0) rfl rfl rfl rfl
theorem s_1_1 (d L n a : Nat) (scr : Nat → Int32) (call : Nat → List Value → am_H → Option am_X) (lv : am_L) (h : am_H)  : am_f (d + 1) scr L call 1 (n + 1) 1 lv (.ref a :: []) h = am_f (d + 1) scr L call 1 n 4 lv [] h := k_ob (k := 1) rfl rfl (Nat.le_of_ble_eq_true rfl)
theorem s_1_4 (d L n : Nat) (scr : Nat → Int32) (call : Nat → List Value → am_H → Option am_X) (lv : am_L) (st : List Value) (h : am_H) : am_f d scr L call 1 (n + 1) 4 lv st h = am_add 1 13 (am_f d scr L call 1 n 7 lv (.ref (h.length + 1) :: st) (h ++ [.inr (5, pm_d5)])) := k_new (k := 7) (ci := 5) rfl rfl rfl rfl
theorem s_1_7 (d L n : Nat) (scr : Nat → Int32) (call : Nat → List Value → am_H → Option am_X) (lv : am_L) (st : List Value) (h : am_H) (x : Nat) : am_f d scr L call 1 (n + 1) 7 lv (.ref x :: st) h = am_f d scr L call 1 n 8 lv (.ref x :: .ref x :: st) h := k_nx (i := .dup) rfl rfl
theorem s_1_8 (d L n : Nat) (scr : Nat → Int32) (call : Nat → List Value → am_H → Option am_X) (lv : am_L) (h : am_H) (o : Nat)  (r0 : Nat) : am_f d scr L call 1 (n + 1) 8 lv (.ref o :: .ref r0 :: []) h = (match call 51 [.ref o] h with
    | some (v, h', dk, dn) => am_add dk dn (am_f d scr L call 1 n 11 lv (v.toList ++ [.ref r0]) h')
    | none => none) := k_iv2 (k := 9) (as := []) (r := [.ref r0]) rfl rfl rfl rfl rfl (Nat.le_of_ble_eq_true rfl)
theorem s_1_11 (d L n : Nat) (scr : Nat → Int32) (call : Nat → List Value → am_H → Option am_X) (lv : am_L) (st : List Value) (h : am_H) (x : Nat) : am_f d scr L call 1 (n + 1) 11 lv (.ref x :: st) h = am_f d scr L call 1 n 12 (am_st1 lv 1 (.ref x)) st h := k_nx (i := .astore_n 1) rfl rfl
theorem s_1_12 (d L n : Nat) (scr : Nat → Int32) (call : Nat → List Value → am_H → Option am_X) (lv : am_L) (st : List Value) (h : am_H) : am_f d scr L call 1 (n + 1) 12 lv st h = (match am_ld lv 0 with
    | some (.ref x) => am_f d scr L call 1 n 13 lv (.ref x :: st) h
    | _ => none) := k_la (i := .aload_n 0) rfl rfl rfl rfl
theorem s_1_13 (d L n : Nat) (scr : Nat → Int32) (call : Nat → List Value → am_H → Option am_X) (lv : am_L) (st : List Value) (h : am_H) : am_f d scr L call 1 (n + 1) 13 lv st h = (match am_ld lv 1 with
    | some (.ref x) => am_f d scr L call 1 n 14 lv (.ref x :: st) h
    | _ => none) := k_la (i := .aload_n 1) rfl rfl rfl rfl
theorem s_1_14 (d L n : Nat) (scr : Nat → Int32) (call : Nat → List Value → am_H → Option am_X) (lv : am_L) (st : List Value) (h : am_H) (x : Nat) (a : Nat) : am_f d scr L call 1 (n + 1) 14 lv (.ref x :: .ref a :: st) h = (match am_put h a 0 0 (.ref x) with
    | some h' => am_f d scr L call 1 n 17 lv st h'
    | none => none) := k_pf (k := 10) rfl rfl rfl
theorem s_1_17 (d L n : Nat) (scr : Nat → Int32) (call : Nat → List Value → am_H → Option am_X) (lv : am_L) (st : List Value) (h : am_H) : am_f d scr L call 1 (n + 1) 17 lv st h = (match am_ld lv 0 with
    | some (.ref x) => am_f d scr L call 1 n 18 lv (.ref x :: st) h
    | _ => none) := k_la (i := .aload_n 0) rfl rfl rfl rfl
theorem s_1_18 (d L n : Nat) (scr : Nat → Int32) (call : Nat → List Value → am_H → Option am_X) (lv : am_L) (st : List Value) (h : am_H) : am_f d scr L call 1 (n + 1) 18 lv st h = am_add 1 4 (am_f d scr L call 1 n 21 lv (.ref (h.length + 1) :: st) (h ++ [.inr (6, pm_d6)])) := k_new (k := 16) (ci := 6) rfl rfl rfl rfl
theorem s_1_21 (d L n : Nat) (scr : Nat → Int32) (call : Nat → List Value → am_H → Option am_X) (lv : am_L) (st : List Value) (h : am_H) (x : Nat) : am_f d scr L call 1 (n + 1) 21 lv (.ref x :: st) h = am_f d scr L call 1 n 22 lv (.ref x :: .ref x :: st) h := k_nx (i := .dup) rfl rfl
theorem s_1_22 (d L n : Nat) (scr : Nat → Int32) (call : Nat → List Value → am_H → Option am_X) (lv : am_L) (st : List Value) (h : am_H) : am_f d scr L call 1 (n + 1) 22 lv st h = (match am_ld lv 1 with
    | some (.ref x) => am_f d scr L call 1 n 23 lv (.ref x :: st) h
    | _ => none) := k_la (i := .aload_n 1) rfl rfl rfl rfl
theorem s_1_23 (d L n : Nat) (scr : Nat → Int32) (call : Nat → List Value → am_H → Option am_X) (lv : am_L) (h : am_H) (o : Nat) (a0 : Nat) (r0 : Nat) (r1 : Nat) : am_f d scr L call 1 (n + 1) 23 lv (.ref a0 :: .ref o :: .ref r0 :: .ref r1 :: []) h = (match call 55 [.ref o, .ref a0] h with
    | some (v, h', dk, dn) => am_add dk dn (am_f d scr L call 1 n 26 lv (v.toList ++ [.ref r0, .ref r1]) h')
    | none => none) := k_iv2 (k := 18) (as := [.ref a0]) (r := [.ref r0, .ref r1]) rfl rfl rfl rfl rfl (Nat.le_of_ble_eq_true rfl)
theorem s_1_26 (d L n : Nat) (scr : Nat → Int32) (call : Nat → List Value → am_H → Option am_X) (lv : am_L) (st : List Value) (h : am_H) (x : Nat) (a : Nat) : am_f d scr L call 1 (n + 1) 26 lv (.ref x :: .ref a :: st) h = (match am_put h a 0 1 (.ref x) with
    | some h' => am_f d scr L call 1 n 29 lv st h'
    | none => none) := k_pf (k := 21) rfl rfl rfl
theorem s_1_29 (d L n : Nat) (scr : Nat → Int32) (call : Nat → List Value → am_H → Option am_X) (lv : am_L) (st : List Value) (h : am_H) : am_f d scr L call 1 (n + 1) 29 lv st h = (match am_ld lv 0 with
    | some (.ref x) => am_f d scr L call 1 n 30 lv (.ref x :: st) h
    | _ => none) := k_la (i := .aload_n 0) rfl rfl rfl rfl
theorem s_1_30 (d L n : Nat) (scr : Nat → Int32) (call : Nat → List Value → am_H → Option am_X) (lv : am_L) (st : List Value) (h : am_H) : am_f d scr L call 1 (n + 1) 30 lv st h = am_add 1 2 (am_f d scr L call 1 n 33 lv (.ref (h.length + 1) :: st) (h ++ [.inr (2, pm_d2)])) := k_new (k := 25) (ci := 2) rfl rfl rfl rfl
theorem s_1_33 (d L n : Nat) (scr : Nat → Int32) (call : Nat → List Value → am_H → Option am_X) (lv : am_L) (st : List Value) (h : am_H) (x : Nat) : am_f d scr L call 1 (n + 1) 33 lv (.ref x :: st) h = am_f d scr L call 1 n 34 lv (.ref x :: .ref x :: st) h := k_nx (i := .dup) rfl rfl
theorem s_1_34 (d L n : Nat) (scr : Nat → Int32) (call : Nat → List Value → am_H → Option am_X) (lv : am_L) (st : List Value) (h : am_H) : am_f d scr L call 1 (n + 1) 34 lv st h = (match am_ld lv 1 with
    | some (.ref x) => am_f d scr L call 1 n 35 lv (.ref x :: st) h
    | _ => none) := k_la (i := .aload_n 1) rfl rfl rfl rfl
theorem s_1_35 (d L n : Nat) (scr : Nat → Int32) (call : Nat → List Value → am_H → Option am_X) (lv : am_L) (h : am_H) (o : Nat) (a0 : Nat) (r0 : Nat) (r1 : Nat) : am_f d scr L call 1 (n + 1) 35 lv (.ref a0 :: .ref o :: .ref r0 :: .ref r1 :: []) h = (match call 19 [.ref o, .ref a0] h with
    | some (v, h', dk, dn) => am_add dk dn (am_f d scr L call 1 n 38 lv (v.toList ++ [.ref r0, .ref r1]) h')
    | none => none) := k_iv2 (k := 27) (as := [.ref a0]) (r := [.ref r0, .ref r1]) rfl rfl rfl rfl rfl (Nat.le_of_ble_eq_true rfl)
theorem s_1_38 (d L n : Nat) (scr : Nat → Int32) (call : Nat → List Value → am_H → Option am_X) (lv : am_L) (st : List Value) (h : am_H) (x : Nat) (a : Nat) : am_f d scr L call 1 (n + 1) 38 lv (.ref x :: .ref a :: st) h = (match am_put h a 0 2 (.ref x) with
    | some h' => am_f d scr L call 1 n 41 lv st h'
    | none => none) := k_pf (k := 28) rfl rfl rfl
theorem s_1_41 (d L n : Nat) (scr : Nat → Int32) (call : Nat → List Value → am_H → Option am_X) (lv : am_L) (st : List Value) (h : am_H) : am_f d scr L call 1 (n + 1) 41 lv st h = (match am_ld lv 0 with
    | some (.ref x) => am_f d scr L call 1 n 42 lv (.ref x :: st) h
    | _ => none) := k_la (i := .aload_n 0) rfl rfl rfl rfl
theorem s_1_42 (d L n : Nat) (scr : Nat → Int32) (call : Nat → List Value → am_H → Option am_X) (lv : am_L) (st : List Value) (h : am_H) : am_f d scr L call 1 (n + 1) 42 lv st h = am_add 1 18 (am_f d scr L call 1 n 45 lv (.ref (h.length + 1) :: st) (h ++ [.inr (3, pm_d3)])) := k_new (k := 32) (ci := 3) rfl rfl rfl rfl
theorem s_1_45 (d L n : Nat) (scr : Nat → Int32) (call : Nat → List Value → am_H → Option am_X) (lv : am_L) (st : List Value) (h : am_H) (x : Nat) : am_f d scr L call 1 (n + 1) 45 lv (.ref x :: st) h = am_f d scr L call 1 n 46 lv (.ref x :: .ref x :: st) h := k_nx (i := .dup) rfl rfl
theorem s_1_46 (d L n : Nat) (scr : Nat → Int32) (call : Nat → List Value → am_H → Option am_X) (lv : am_L) (st : List Value) (h : am_H) : am_f d scr L call 1 (n + 1) 46 lv st h = (match am_ld lv 1 with
    | some (.ref x) => am_f d scr L call 1 n 47 lv (.ref x :: st) h
    | _ => none) := k_la (i := .aload_n 1) rfl rfl rfl rfl
theorem s_1_47 (d L n : Nat) (scr : Nat → Int32) (call : Nat → List Value → am_H → Option am_X) (lv : am_L) (h : am_H) (o : Nat) (a0 : Nat) (r0 : Nat) (r1 : Nat) : am_f d scr L call 1 (n + 1) 47 lv (.ref a0 :: .ref o :: .ref r0 :: .ref r1 :: []) h = (match call 29 [.ref o, .ref a0] h with
    | some (v, h', dk, dn) => am_add dk dn (am_f d scr L call 1 n 50 lv (v.toList ++ [.ref r0, .ref r1]) h')
    | none => none) := k_iv2 (k := 34) (as := [.ref a0]) (r := [.ref r0, .ref r1]) rfl rfl rfl rfl rfl (Nat.le_of_ble_eq_true rfl)
theorem s_1_50 (d L n : Nat) (scr : Nat → Int32) (call : Nat → List Value → am_H → Option am_X) (lv : am_L) (st : List Value) (h : am_H) (x : Nat) (a : Nat) : am_f d scr L call 1 (n + 1) 50 lv (.ref x :: .ref a :: st) h = (match am_put h a 0 3 (.ref x) with
    | some h' => am_f d scr L call 1 n 53 lv st h'
    | none => none) := k_pf (k := 35) rfl rfl rfl
theorem s_1_53 (d L n : Nat) (scr : Nat → Int32) (call : Nat → List Value → am_H → Option am_X) (lv : am_L) (st : List Value) (h : am_H) : am_f d scr L call 1 (n + 1) 53 lv st h = (match am_ld lv 0 with
    | some (.ref x) => am_f d scr L call 1 n 54 lv (.ref x :: st) h
    | _ => none) := k_la (i := .aload_n 0) rfl rfl rfl rfl
theorem s_1_54 (d L n : Nat) (scr : Nat → Int32) (call : Nat → List Value → am_H → Option am_X) (lv : am_L) (st : List Value) (h : am_H) : am_f d scr L call 1 (n + 1) 54 lv st h = am_f d scr L call 1 n 55 lv (.int 0 :: st) h := k_nx (i := .iconst 0) rfl rfl
theorem s_1_55 (d L n : Nat) (scr : Nat → Int32) (call : Nat → List Value → am_H → Option am_X) (lv : am_L) (st : List Value) (h : am_H) (x : Int32) (a : Nat) : am_f d scr L call 1 (n + 1) 55 lv (.int x :: .ref a :: st) h = if x = 0 ∨ x = 1 then (match am_put h a 0 4 (.int x) with
    | some h' => am_f d scr L call 1 n 58 lv st h'
    | none => none) else none := k_pz (k := 39) rfl rfl
theorem s_1_58 (d L n : Nat) (scr : Nat → Int32) (call : Nat → List Value → am_H → Option am_X) (lv : am_L) (st : List Value) (h : am_H) : am_f d scr L call 1 (n + 1) 58 lv st h = (match am_ld lv 0 with
    | some (.ref x) => am_f d scr L call 1 n 59 lv (.ref x :: st) h
    | _ => none) := k_la (i := .aload_n 0) rfl rfl rfl rfl
theorem s_1_59 (d L n : Nat) (scr : Nat → Int32) (call : Nat → List Value → am_H → Option am_X) (lv : am_L) (st : List Value) (h : am_H) : am_f d scr L call 1 (n + 1) 59 lv st h = am_f d scr L call 1 n 60 lv (.int (-1) :: st) h := k_nx (i := .iconst (-1)) rfl rfl
theorem s_1_60 (d L n : Nat) (scr : Nat → Int32) (call : Nat → List Value → am_H → Option am_X) (lv : am_L) (st : List Value) (h : am_H) (x : Int32) (a : Nat) : am_f d scr L call 1 (n + 1) 60 lv (.int x :: .ref a :: st) h = (match am_put h a 0 5 (.int x) with
    | some h' => am_f d scr L call 1 n 63 lv st h'
    | none => none) := k_pf (k := 43) rfl rfl rfl
theorem s_1_63 (d L n : Nat) (scr : Nat → Int32) (call : Nat → List Value → am_H → Option am_X) (lv : am_L) (h : am_H) : am_f d scr L call 1 (n + 1) 63 lv [] h = some (none, h, 0, 0) := k_vr rfl rfl
-- 2: BlameDesk.write(J)Z
theorem s_2_0 (d L n : Nat) (scr : Nat → Int32) (call : Nat → List Value → am_H → Option am_X) (lv : am_L) (st : List Value) (h : am_H) : am_f d scr L call 2 (n + 1) 0 lv st h = (match am_ld lv 0 with
    | some (.ref x) => am_f d scr L call 2 n 1 lv (.ref x :: st) h
    | _ => none) := k_la (i := .aload_n 0) rfl rfl rfl rfl
theorem s_2_1 (d L n : Nat) (scr : Nat → Int32) (call : Nat → List Value → am_H → Option am_X) (lv : am_L) (st : List Value) (h : am_H) (a : Nat) : am_f d scr L call 2 (n + 1) 1 lv (.ref a :: st) h = (match am_get h a 0 1 with
    | some v => am_f d scr L call 2 n 4 lv (v :: st) h
    | none => none) := k_gf (k := 21) rfl rfl
theorem s_2_4 (d L n : Nat) (scr : Nat → Int32) (call : Nat → List Value → am_H → Option am_X) (lv : am_L) (st : List Value) (h : am_H) : am_f d scr L call 2 (n + 1) 4 lv st h = (match am_ld lv 1 with
    | some (.long x) => am_f d scr L call 2 n 5 lv (.long x :: st) h
    | _ => none) := k_ll (i := .lload_n 1) rfl rfl rfl rfl
theorem s_2_5 (d L n : Nat) (scr : Nat → Int32) (call : Nat → List Value → am_H → Option am_X) (lv : am_L) (h : am_H) (o : Nat) (a0 : Int64)  : am_f d scr L call 2 (n + 1) 5 lv (.long a0 :: .ref o :: []) h = if am_at h o 6 = true then (match call 57 [.ref o, .long a0] h with
    | some (v, h', dk, dn) => am_add dk dn (am_f d scr L call 2 n 8 lv (v.toList ++ []) h')
    | none => none) else none := k_iv0 (k := 47) (as := [.long a0]) (r := []) rfl rfl rfl rfl (Nat.le_of_ble_eq_true rfl)
theorem s_2_8 (d L n : Nat) (scr : Nat → Int32) (call : Nat → List Value → am_H → Option am_X) (lv : am_L) (h : am_H) (x : Int32) : am_f d scr L call 2 (n + 1) 8 lv [.int x] h = if x = 0 ∨ x = 1 then some (some (.int x), h, 0, 0) else none := k_zr rfl rfl
-- 3: BlameDesk.check()I
theorem s_3_0 (d L n : Nat) (scr : Nat → Int32) (call : Nat → List Value → am_H → Option am_X) (lv : am_L) (st : List Value) (h : am_H) : am_f d scr L call 3 (n + 1) 0 lv st h = (match am_ld lv 0 with
    | some (.ref x) => am_f d scr L call 3 n 1 lv (.ref x :: st) h
    | _ => none) := k_la (i := .aload_n 0) rfl rfl rfl rfl
theorem s_3_1 (d L n : Nat) (scr : Nat → Int32) (call : Nat → List Value → am_H → Option am_X) (lv : am_L) (st : List Value) (h : am_H) (a : Nat) : am_f d scr L call 3 (n + 1) 1 lv (.ref a :: st) h = (match am_get h a 0 3 with
    | some v => am_f d scr L call 3 n 4 lv (v :: st) h
    | none => none) := k_gf (k := 35) rfl rfl
theorem s_3_4 (d L n : Nat) (scr : Nat → Int32) (call : Nat → List Value → am_H → Option am_X) (lv : am_L) (h : am_H) (o : Nat)   : am_f d scr L call 3 (n + 1) 4 lv (.ref o :: []) h = if am_at h o 3 = true then (match call 30 [.ref o] h with
    | some (v, h', dk, dn) => am_add dk dn (am_f d scr L call 3 n 7 lv (v.toList ++ []) h')
    | none => none) else none := k_iv0 (k := 51) (as := []) (r := []) rfl rfl rfl rfl (Nat.le_of_ble_eq_true rfl)
theorem s_3_7 (d L n : Nat) (scr : Nat → Int32) (call : Nat → List Value → am_H → Option am_X) (lv : am_L) (st : List Value) (h : am_H) : am_f d scr L call 3 (n + 1) 7 lv st h = (match am_ld lv 0 with
    | some (.ref x) => am_f d scr L call 3 n 8 lv (.ref x :: st) h
    | _ => none) := k_la (i := .aload_n 0) rfl rfl rfl rfl
theorem s_3_8 (d L n : Nat) (scr : Nat → Int32) (call : Nat → List Value → am_H → Option am_X) (lv : am_L) (st : List Value) (h : am_H) : am_f d scr L call 3 (n + 1) 8 lv st h = am_f d scr L call 3 n 9 lv (.int 0 :: st) h := k_nx (i := .iconst 0) rfl rfl
theorem s_3_9 (d L n : Nat) (scr : Nat → Int32) (call : Nat → List Value → am_H → Option am_X) (lv : am_L) (st : List Value) (h : am_H) (x : Int32) (a : Nat) : am_f d scr L call 3 (n + 1) 9 lv (.int x :: .ref a :: st) h = if x = 0 ∨ x = 1 then (match am_put h a 0 4 (.int x) with
    | some h' => am_f d scr L call 3 n 12 lv st h'
    | none => none) else none := k_pz (k := 39) rfl rfl
theorem s_3_12 (d L n : Nat) (scr : Nat → Int32) (call : Nat → List Value → am_H → Option am_X) (lv : am_L) (st : List Value) (h : am_H) : am_f d scr L call 3 (n + 1) 12 lv st h = (match am_ld lv 0 with
    | some (.ref x) => am_f d scr L call 3 n 13 lv (.ref x :: st) h
    | _ => none) := k_la (i := .aload_n 0) rfl rfl rfl rfl
theorem s_3_13 (d L n : Nat) (scr : Nat → Int32) (call : Nat → List Value → am_H → Option am_X) (lv : am_L) (st : List Value) (h : am_H) : am_f d scr L call 3 (n + 1) 13 lv st h = am_f d scr L call 3 n 14 lv (.int (-1) :: st) h := k_nx (i := .iconst (-1)) rfl rfl
theorem s_3_14 (d L n : Nat) (scr : Nat → Int32) (call : Nat → List Value → am_H → Option am_X) (lv : am_L) (st : List Value) (h : am_H) (x : Int32) (a : Nat) : am_f d scr L call 3 (n + 1) 14 lv (.int x :: .ref a :: st) h = (match am_put h a 0 5 (.int x) with
    | some h' => am_f d scr L call 3 n 17 lv st h'
    | none => none) := k_pf (k := 43) rfl rfl rfl
theorem s_3_17 (d L n : Nat) (scr : Nat → Int32) (call : Nat → List Value → am_H → Option am_X) (lv : am_L) (st : List Value) (h : am_H) : am_f d scr L call 3 (n + 1) 17 lv st h = (match am_ld lv 0 with
    | some (.ref x) => am_f d scr L call 3 n 18 lv (.ref x :: st) h
    | _ => none) := k_la (i := .aload_n 0) rfl rfl rfl rfl
theorem s_3_18 (d L n : Nat) (scr : Nat → Int32) (call : Nat → List Value → am_H → Option am_X) (lv : am_L) (st : List Value) (h : am_H) (a : Nat) : am_f d scr L call 3 (n + 1) 18 lv (.ref a :: st) h = (match am_get h a 0 1 with
    | some v => am_f d scr L call 3 n 21 lv (v :: st) h
    | none => none) := k_gf (k := 21) rfl rfl
theorem s_3_21 (d L n : Nat) (scr : Nat → Int32) (call : Nat → List Value → am_H → Option am_X) (lv : am_L) (h : am_H) (o : Nat)   : am_f d scr L call 3 (n + 1) 21 lv (.ref o :: []) h = if am_at h o 6 = true then (match call 58 [.ref o] h with
    | some (v, h', dk, dn) => am_add dk dn (am_f d scr L call 3 n 24 lv (v.toList ++ []) h')
    | none => none) else none := k_iv0 (k := 54) (as := []) (r := []) rfl rfl rfl rfl (Nat.le_of_ble_eq_true rfl)
theorem s_3_24 (d L n : Nat) (scr : Nat → Int32) (call : Nat → List Value → am_H → Option am_X) (lv : am_L) (st : List Value) (h : am_H) (x : Int32) : am_f d scr L call 3 (n + 1) 24 lv (.int x :: st) h = am_f d scr L call 3 n 25 (am_st1 lv 1 (.int x)) st h := k_nx (i := .istore_n 1) rfl rfl
theorem s_3_25 (d L n : Nat) (scr : Nat → Int32) (call : Nat → List Value → am_H → Option am_X) (lv : am_L) (st : List Value) (h : am_H) : am_f d scr L call 3 (n + 1) 25 lv st h = (match am_ld lv 0 with
    | some (.ref x) => am_f d scr L call 3 n 26 lv (.ref x :: st) h
    | _ => none) := k_la (i := .aload_n 0) rfl rfl rfl rfl
theorem s_3_26 (d L n : Nat) (scr : Nat → Int32) (call : Nat → List Value → am_H → Option am_X) (lv : am_L) (st : List Value) (h : am_H) (a : Nat) : am_f d scr L call 3 (n + 1) 26 lv (.ref a :: st) h = (match am_get h a 0 1 with
    | some v => am_f d scr L call 3 n 29 lv (v :: st) h
    | none => none) := k_gf (k := 21) rfl rfl
theorem s_3_29 (d L n : Nat) (scr : Nat → Int32) (call : Nat → List Value → am_H → Option am_X) (lv : am_L) (h : am_H) (o : Nat)   : am_f d scr L call 3 (n + 1) 29 lv (.ref o :: []) h = if am_at h o 6 = true then (match call 56 [.ref o] h with
    | some (v, h', dk, dn) => am_add dk dn (am_f d scr L call 3 n 32 lv (v.toList ++ []) h')
    | none => none) else none := k_iv0 (k := 58) (as := []) (r := []) rfl rfl rfl rfl (Nat.le_of_ble_eq_true rfl)
theorem s_3_32 (d L n : Nat) (scr : Nat → Int32) (call : Nat → List Value → am_H → Option am_X) (lv : am_L) (st : List Value) (h : am_H) : am_f d scr L call 3 (n + 1) 32 lv st h = (match am_ld lv 1 with
    | some (.int x) => am_f d scr L call 3 n 33 lv (.int x :: st) h
    | _ => none) := k_li (i := .iload_n 1) rfl rfl rfl rfl
theorem s_3_33 (d L n : Nat) (scr : Nat → Int32) (call : Nat → List Value → am_H → Option am_X) (lv : am_L) (st : List Value) (h : am_H) (x : Int32) : am_f d scr L call 3 (n + 1) 33 lv (.int x :: st) h = if ¬ x = 0 then am_f d scr L call 3 n 38 lv st h else am_f d scr L call 3 n 36 lv st h := k_if_ne (o := 5) rfl ⟨by decide, rfl⟩
theorem s_3_36 (d L n : Nat) (scr : Nat → Int32) (call : Nat → List Value → am_H → Option am_X) (lv : am_L) (st : List Value) (h : am_H) : am_f d scr L call 3 (n + 1) 36 lv st h = am_f d scr L call 3 n 37 lv (.int 1 :: st) h := k_nx (i := .iconst 1) rfl rfl
theorem s_3_37 (d L n : Nat) (scr : Nat → Int32) (call : Nat → List Value → am_H → Option am_X) (lv : am_L) (h : am_H) (x : Int32) : am_f d scr L call 3 (n + 1) 37 lv [.int x] h = some (some (.int x), h, 0, 0) := k_ir rfl rfl
theorem s_3_38 (d L n : Nat) (scr : Nat → Int32) (call : Nat → List Value → am_H → Option am_X) (lv : am_L) (st : List Value) (h : am_H) : am_f d scr L call 3 (n + 1) 38 lv st h = (match am_ld lv 0 with
    | some (.ref x) => am_f d scr L call 3 n 39 lv (.ref x :: st) h
    | _ => none) := k_la (i := .aload_n 0) rfl rfl rfl rfl
theorem s_3_39 (d L n : Nat) (scr : Nat → Int32) (call : Nat → List Value → am_H → Option am_X) (lv : am_L) (st : List Value) (h : am_H) : am_f d scr L call 3 (n + 1) 39 lv st h = (match am_ld lv 0 with
    | some (.ref x) => am_f d scr L call 3 n 40 lv (.ref x :: st) h
    | _ => none) := k_la (i := .aload_n 0) rfl rfl rfl rfl
theorem s_3_40 (d L n : Nat) (scr : Nat → Int32) (call : Nat → List Value → am_H → Option am_X) (lv : am_L) (st : List Value) (h : am_H) (a : Nat) : am_f d scr L call 3 (n + 1) 40 lv (.ref a :: st) h = (match am_get h a 0 2 with
    | some v => am_f d scr L call 3 n 43 lv (v :: st) h
    | none => none) := k_gf (k := 28) rfl rfl
theorem s_3_43 (d L n : Nat) (scr : Nat → Int32) (call : Nat → List Value → am_H → Option am_X) (lv : am_L) (h : am_H) (o : Nat)  (r0 : Nat) : am_f d scr L call 3 (n + 1) 43 lv (.ref o :: .ref r0 :: []) h = if am_at h o 2 = true then (match call 20 [.ref o] h with
    | some (v, h', dk, dn) => am_add dk dn (am_f d scr L call 3 n 46 lv (v.toList ++ [.ref r0]) h')
    | none => none) else none := k_iv0 (k := 61) (as := []) (r := [.ref r0]) rfl rfl rfl rfl (Nat.le_of_ble_eq_true rfl)
theorem s_3_46 (d L n : Nat) (scr : Nat → Int32) (call : Nat → List Value → am_H → Option am_X) (lv : am_L) (st : List Value) (h : am_H) (x : Int32) (a : Nat) : am_f d scr L call 3 (n + 1) 46 lv (.int x :: .ref a :: st) h = (match am_put h a 0 5 (.int x) with
    | some h' => am_f d scr L call 3 n 49 lv st h'
    | none => none) := k_pf (k := 43) rfl rfl rfl
theorem s_3_49 (d L n : Nat) (scr : Nat → Int32) (call : Nat → List Value → am_H → Option am_X) (lv : am_L) (st : List Value) (h : am_H) : am_f d scr L call 3 (n + 1) 49 lv st h = (match am_ld lv 0 with
    | some (.ref x) => am_f d scr L call 3 n 50 lv (.ref x :: st) h
    | _ => none) := k_la (i := .aload_n 0) rfl rfl rfl rfl
theorem s_3_50 (d L n : Nat) (scr : Nat → Int32) (call : Nat → List Value → am_H → Option am_X) (lv : am_L) (st : List Value) (h : am_H) (a : Nat) : am_f d scr L call 3 (n + 1) 50 lv (.ref a :: st) h = (match am_get h a 0 5 with
    | some v => am_f d scr L call 3 n 53 lv (v :: st) h
    | none => none) := k_gf (k := 43) rfl rfl
theorem s_3_53 (d L n : Nat) (scr : Nat → Int32) (call : Nat → List Value → am_H → Option am_X) (lv : am_L) (st : List Value) (h : am_H) : am_f d scr L call 3 (n + 1) 53 lv st h = am_f d scr L call 3 n 54 lv (.int (-1) :: st) h := k_nx (i := .iconst (-1)) rfl rfl
theorem s_3_54 (d L n : Nat) (scr : Nat → Int32) (call : Nat → List Value → am_H → Option am_X) (lv : am_L) (st : List Value) (h : am_H) (x y : Int32) : am_f d scr L call 3 (n + 1) 54 lv (.int y :: .int x :: st) h = if x = y then am_f d scr L call 3 n 59 lv st h else am_f d scr L call 3 n 57 lv st h := k_ic_eq (o := 5) rfl ⟨by decide, rfl⟩
theorem s_3_57 (d L n : Nat) (scr : Nat → Int32) (call : Nat → List Value → am_H → Option am_X) (lv : am_L) (st : List Value) (h : am_H) : am_f d scr L call 3 (n + 1) 57 lv st h = am_f d scr L call 3 n 58 lv (.int 2 :: st) h := k_nx (i := .iconst 2) rfl rfl
theorem s_3_58 (d L n : Nat) (scr : Nat → Int32) (call : Nat → List Value → am_H → Option am_X) (lv : am_L) (h : am_H) (x : Int32) : am_f d scr L call 3 (n + 1) 58 lv [.int x] h = some (some (.int x), h, 0, 0) := k_ir rfl rfl
theorem s_3_59 (d L n : Nat) (scr : Nat → Int32) (call : Nat → List Value → am_H → Option am_X) (lv : am_L) (st : List Value) (h : am_H) : am_f d scr L call 3 (n + 1) 59 lv st h = (match am_ld lv 0 with
    | some (.ref x) => am_f d scr L call 3 n 60 lv (.ref x :: st) h
    | _ => none) := k_la (i := .aload_n 0) rfl rfl rfl rfl
theorem s_3_60 (d L n : Nat) (scr : Nat → Int32) (call : Nat → List Value → am_H → Option am_X) (lv : am_L) (st : List Value) (h : am_H) : am_f d scr L call 3 (n + 1) 60 lv st h = am_f d scr L call 3 n 61 lv (.int 1 :: st) h := k_nx (i := .iconst 1) rfl rfl
theorem s_3_61 (d L n : Nat) (scr : Nat → Int32) (call : Nat → List Value → am_H → Option am_X) (lv : am_L) (st : List Value) (h : am_H) (x : Int32) (a : Nat) : am_f d scr L call 3 (n + 1) 61 lv (.int x :: .ref a :: st) h = if x = 0 ∨ x = 1 then (match am_put h a 0 4 (.int x) with
    | some h' => am_f d scr L call 3 n 64 lv st h'
    | none => none) else none := k_pz (k := 39) rfl rfl
theorem s_3_64 (d L n : Nat) (scr : Nat → Int32) (call : Nat → List Value → am_H → Option am_X) (lv : am_L) (st : List Value) (h : am_H) : am_f d scr L call 3 (n + 1) 64 lv st h = am_f d scr L call 3 n 65 lv (.int 0 :: st) h := k_nx (i := .iconst 0) rfl rfl
theorem s_3_65 (d L n : Nat) (scr : Nat → Int32) (call : Nat → List Value → am_H → Option am_X) (lv : am_L) (h : am_H) (x : Int32) : am_f d scr L call 3 (n + 1) 65 lv [.int x] h = some (some (.int x), h, 0, 0) := k_ir rfl rfl
-- 4: BlameDesk.position()I
theorem s_4_0 (d L n : Nat) (scr : Nat → Int32) (call : Nat → List Value → am_H → Option am_X) (lv : am_L) (st : List Value) (h : am_H) : am_f d scr L call 4 (n + 1) 0 lv st h = (match am_ld lv 0 with
    | some (.ref x) => am_f d scr L call 4 n 1 lv (.ref x :: st) h
    | _ => none) := k_la (i := .aload_n 0) rfl rfl rfl rfl
theorem s_4_1 (d L n : Nat) (scr : Nat → Int32) (call : Nat → List Value → am_H → Option am_X) (lv : am_L) (st : List Value) (h : am_H) (a : Nat) : am_f d scr L call 4 (n + 1) 1 lv (.ref a :: st) h = (match am_get h a 0 5 with
    | some v => am_f d scr L call 4 n 4 lv (v :: st) h
    | none => none) := k_gf (k := 43) rfl rfl
theorem s_4_4 (d L n : Nat) (scr : Nat → Int32) (call : Nat → List Value → am_H → Option am_X) (lv : am_L) (h : am_H) (x : Int32) : am_f d scr L call 4 (n + 1) 4 lv [.int x] h = some (some (.int x), h, 0, 0) := k_ir rfl rfl
-- 5: BlameDesk.type(I)I
theorem s_5_0 (d L n : Nat) (scr : Nat → Int32) (call : Nat → List Value → am_H → Option am_X) (lv : am_L) (st : List Value) (h : am_H) : am_f d scr L call 5 (n + 1) 0 lv st h = (match am_ld lv 0 with
    | some (.ref x) => am_f d scr L call 5 n 1 lv (.ref x :: st) h
    | _ => none) := k_la (i := .aload_n 0) rfl rfl rfl rfl
theorem s_5_1 (d L n : Nat) (scr : Nat → Int32) (call : Nat → List Value → am_H → Option am_X) (lv : am_L) (st : List Value) (h : am_H) (a : Nat) : am_f d scr L call 5 (n + 1) 1 lv (.ref a :: st) h = (match am_get h a 0 4 with
    | some v => am_f d scr L call 5 n 4 lv (v :: st) h
    | none => none) := k_gf (k := 39) rfl rfl
theorem s_5_4 (d L n : Nat) (scr : Nat → Int32) (call : Nat → List Value → am_H → Option am_X) (lv : am_L) (st : List Value) (h : am_H) (x : Int32) : am_f d scr L call 5 (n + 1) 4 lv (.int x :: st) h = if x = 0 then am_f d scr L call 5 n 30 lv st h else am_f d scr L call 5 n 7 lv st h := k_if_eq (o := 26) rfl ⟨by decide, rfl⟩
theorem s_5_7 (d L n : Nat) (scr : Nat → Int32) (call : Nat → List Value → am_H → Option am_X) (lv : am_L) (st : List Value) (h : am_H) : am_f d scr L call 5 (n + 1) 7 lv st h = (match am_ld lv 0 with
    | some (.ref x) => am_f d scr L call 5 n 8 lv (.ref x :: st) h
    | _ => none) := k_la (i := .aload_n 0) rfl rfl rfl rfl
theorem s_5_8 (d L n : Nat) (scr : Nat → Int32) (call : Nat → List Value → am_H → Option am_X) (lv : am_L) (st : List Value) (h : am_H) (a : Nat) : am_f d scr L call 5 (n + 1) 8 lv (.ref a :: st) h = (match am_get h a 0 0 with
    | some v => am_f d scr L call 5 n 11 lv (v :: st) h
    | none => none) := k_gf (k := 10) rfl rfl
theorem s_5_11 (d L n : Nat) (scr : Nat → Int32) (call : Nat → List Value → am_H → Option am_X) (lv : am_L) (st : List Value) (h : am_H) (a : Nat) : am_f d scr L call 5 (n + 1) 11 lv (.ref a :: st) h = (match am_get h a 5 0 with
    | some v => am_f d scr L call 5 n 14 lv (v :: st) h
    | none => none) := k_gf (k := 65) rfl rfl
theorem s_5_14 (d L n : Nat) (scr : Nat → Int32) (call : Nat → List Value → am_H → Option am_X) (lv : am_L) (st : List Value) (h : am_H) : am_f d scr L call 5 (n + 1) 14 lv st h = (match am_ld lv 0 with
    | some (.ref x) => am_f d scr L call 5 n 15 lv (.ref x :: st) h
    | _ => none) := k_la (i := .aload_n 0) rfl rfl rfl rfl
theorem s_5_15 (d L n : Nat) (scr : Nat → Int32) (call : Nat → List Value → am_H → Option am_X) (lv : am_L) (st : List Value) (h : am_H) (a : Nat) : am_f d scr L call 5 (n + 1) 15 lv (.ref a :: st) h = (match am_get h a 0 0 with
    | some v => am_f d scr L call 5 n 18 lv (v :: st) h
    | none => none) := k_gf (k := 10) rfl rfl
theorem s_5_18 (d L n : Nat) (scr : Nat → Int32) (call : Nat → List Value → am_H → Option am_X) (lv : am_L) (st : List Value) (h : am_H) (a : Nat) : am_f d scr L call 5 (n + 1) 18 lv (.ref a :: st) h = (match am_get h a 5 9 with
    | some v => am_f d scr L call 5 n 21 lv (v :: st) h
    | none => none) := k_gf (k := 69) rfl rfl
theorem s_5_21 (d L n : Nat) (scr : Nat → Int32) (call : Nat → List Value → am_H → Option am_X) (lv : am_L) (st : List Value) (h : am_H) : am_f d scr L call 5 (n + 1) 21 lv st h = am_f d scr L call 5 n 22 lv (.int 0 :: st) h := k_nx (i := .iconst 0) rfl rfl
theorem s_5_22 (d L n : Nat) (scr : Nat → Int32) (call : Nat → List Value → am_H → Option am_X) (lv : am_L) (st : List Value) (h : am_H) (a : Nat) (i : Int32) : am_f d scr L call 5 (n + 1) 22 lv (.int i :: .ref a :: st) h = (match am_ild scr L h a i with
    | some x => am_f d scr L call 5 n 23 lv (.int x :: st) h
    | none => none) := k_ia rfl
theorem s_5_23 (d L n : Nat) (scr : Nat → Int32) (call : Nat → List Value → am_H → Option am_X) (lv : am_L) (st : List Value) (h : am_H) : am_f d scr L call 5 (n + 1) 23 lv st h = (match am_ld lv 1 with
    | some (.int x) => am_f d scr L call 5 n 24 lv (.int x :: st) h
    | _ => none) := k_li (i := .iload_n 1) rfl rfl rfl rfl
theorem s_5_24 (d L n : Nat) (scr : Nat → Int32) (call : Nat → List Value → am_H → Option am_X) (lv : am_L) (h : am_H) (o : Nat) (a0 : Int32) (a1 : Int32)  : am_f d scr L call 5 (n + 1) 24 lv (.int a1 :: .int a0 :: .ref o :: []) h = if am_at h o 7 = true then (match call 83 [.ref o, .int a0, .int a1] h with
    | some (v, h', dk, dn) => am_add dk dn (am_f d scr L call 5 n 27 lv (v.toList ++ []) h')
    | none => none) else none := k_iv0 (k := 73) (as := [.int a0, .int a1]) (r := []) rfl rfl rfl rfl (Nat.le_of_ble_eq_true rfl)
theorem s_5_27 (d L n : Nat) (scr : Nat → Int32) (call : Nat → List Value → am_H → Option am_X) (lv : am_L) (st : List Value) (h : am_H) : am_f d scr L call 5 (n + 1) 27 lv st h = am_f d scr L call 5 n 31 lv st h := k_nx (i := .goto 4) rfl rfl
theorem s_5_30 (d L n : Nat) (scr : Nat → Int32) (call : Nat → List Value → am_H → Option am_X) (lv : am_L) (st : List Value) (h : am_H) : am_f d scr L call 5 (n + 1) 30 lv st h = am_f d scr L call 5 n 31 lv (.int (-1) :: st) h := k_nx (i := .iconst (-1)) rfl rfl
theorem s_5_31 (d L n : Nat) (scr : Nat → Int32) (call : Nat → List Value → am_H → Option am_X) (lv : am_L) (h : am_H) (x : Int32) : am_f d scr L call 5 (n + 1) 31 lv [.int x] h = some (some (.int x), h, 0, 0) := k_ir rfl rfl
-- 6: BlameDesk.run(I)I
theorem s_6_0 (d L n : Nat) (scr : Nat → Int32) (call : Nat → List Value → am_H → Option am_X) (lv : am_L) (st : List Value) (h : am_H) : am_f d scr L call 6 (n + 1) 0 lv st h = (match am_ld lv 0 with
    | some (.ref x) => am_f d scr L call 6 n 1 lv (.ref x :: st) h
    | _ => none) := k_la (i := .aload_n 0) rfl rfl rfl rfl
theorem s_6_1 (d L n : Nat) (scr : Nat → Int32) (call : Nat → List Value → am_H → Option am_X) (lv : am_L) (st : List Value) (h : am_H) (a : Nat) : am_f d scr L call 6 (n + 1) 1 lv (.ref a :: st) h = (match am_get h a 0 4 with
    | some v => am_f d scr L call 6 n 4 lv (v :: st) h
    | none => none) := k_gf (k := 39) rfl rfl
theorem s_6_4 (d L n : Nat) (scr : Nat → Int32) (call : Nat → List Value → am_H → Option am_X) (lv : am_L) (st : List Value) (h : am_H) (x : Int32) : am_f d scr L call 6 (n + 1) 4 lv (.int x :: st) h = if x = 0 then am_f d scr L call 6 n 17 lv st h else am_f d scr L call 6 n 7 lv st h := k_if_eq (o := 13) rfl ⟨by decide, rfl⟩
theorem s_6_7 (d L n : Nat) (scr : Nat → Int32) (call : Nat → List Value → am_H → Option am_X) (lv : am_L) (st : List Value) (h : am_H) : am_f d scr L call 6 (n + 1) 7 lv st h = (match am_ld lv 1 with
    | some (.int x) => am_f d scr L call 6 n 8 lv (.int x :: st) h
    | _ => none) := k_li (i := .iload_n 1) rfl rfl rfl rfl
theorem s_6_8 (d L n : Nat) (scr : Nat → Int32) (call : Nat → List Value → am_H → Option am_X) (lv : am_L) (st : List Value) (h : am_H) (x : Int32) : am_f d scr L call 6 (n + 1) 8 lv (.int x :: st) h = if x < 0 then am_f d scr L call 6 n 17 lv st h else am_f d scr L call 6 n 11 lv st h := k_if_lt (o := 9) rfl ⟨by decide, rfl⟩
theorem s_6_11 (d L n : Nat) (scr : Nat → Int32) (call : Nat → List Value → am_H → Option am_X) (lv : am_L) (st : List Value) (h : am_H) : am_f d scr L call 6 (n + 1) 11 lv st h = (match am_ld lv 1 with
    | some (.int x) => am_f d scr L call 6 n 12 lv (.int x :: st) h
    | _ => none) := k_li (i := .iload_n 1) rfl rfl rfl rfl
theorem s_6_12 (d L n : Nat) (scr : Nat → Int32) (call : Nat → List Value → am_H → Option am_X) (lv : am_L) (st : List Value) (h : am_H) : am_f d scr L call 6 (n + 1) 12 lv st h = am_f d scr L call 6 n 14 lv (.int 40 :: st) h := k_nx (i := .bipush 40) rfl rfl
theorem s_6_14 (d L n : Nat) (scr : Nat → Int32) (call : Nat → List Value → am_H → Option am_X) (lv : am_L) (st : List Value) (h : am_H) (x y : Int32) : am_f d scr L call 6 (n + 1) 14 lv (.int y :: .int x :: st) h = if x ≤ y then am_f d scr L call 6 n 19 lv st h else am_f d scr L call 6 n 17 lv st h := k_ic_le (o := 5) rfl ⟨by decide, rfl⟩
theorem s_6_17 (d L n : Nat) (scr : Nat → Int32) (call : Nat → List Value → am_H → Option am_X) (lv : am_L) (st : List Value) (h : am_H) : am_f d scr L call 6 (n + 1) 17 lv st h = am_f d scr L call 6 n 18 lv (.int (-1) :: st) h := k_nx (i := .iconst (-1)) rfl rfl
theorem s_6_18 (d L n : Nat) (scr : Nat → Int32) (call : Nat → List Value → am_H → Option am_X) (lv : am_L) (h : am_H) (x : Int32) : am_f d scr L call 6 (n + 1) 18 lv [.int x] h = some (some (.int x), h, 0, 0) := k_ir rfl rfl
theorem s_6_19 (d L n : Nat) (scr : Nat → Int32) (call : Nat → List Value → am_H → Option am_X) (lv : am_L) (st : List Value) (h : am_H) : am_f d scr L call 6 (n + 1) 19 lv st h = (match am_ld lv 0 with
    | some (.ref x) => am_f d scr L call 6 n 20 lv (.ref x :: st) h
    | _ => none) := k_la (i := .aload_n 0) rfl rfl rfl rfl
theorem s_6_20 (d L n : Nat) (scr : Nat → Int32) (call : Nat → List Value → am_H → Option am_X) (lv : am_L) (st : List Value) (h : am_H) (a : Nat) : am_f d scr L call 6 (n + 1) 20 lv (.ref a :: st) h = (match am_get h a 0 3 with
    | some v => am_f d scr L call 6 n 23 lv (v :: st) h
    | none => none) := k_gf (k := 35) rfl rfl
theorem s_6_23 (d L n : Nat) (scr : Nat → Int32) (call : Nat → List Value → am_H → Option am_X) (lv : am_L) (st : List Value) (h : am_H) : am_f d scr L call 6 (n + 1) 23 lv st h = (match am_ld lv 1 with
    | some (.int x) => am_f d scr L call 6 n 24 lv (.int x :: st) h
    | _ => none) := k_li (i := .iload_n 1) rfl rfl rfl rfl
theorem s_6_24 (d L n : Nat) (scr : Nat → Int32) (call : Nat → List Value → am_H → Option am_X) (lv : am_L) (h : am_H) (o : Nat) (a0 : Int32)  : am_f d scr L call 6 (n + 1) 24 lv (.int a0 :: .ref o :: []) h = if am_at h o 3 = true then (match call 31 [.ref o, .int a0] h with
    | some (v, h', dk, dn) => am_add dk dn (am_f d scr L call 6 n 27 lv (v.toList ++ []) h')
    | none => none) else none := k_iv0 (k := 79) (as := [.int a0]) (r := []) rfl rfl rfl rfl (Nat.le_of_ble_eq_true rfl)
theorem s_6_27 (d L n : Nat) (scr : Nat → Int32) (call : Nat → List Value → am_H → Option am_X) (lv : am_L) (h : am_H) (x : Int32) : am_f d scr L call 6 (n + 1) 27 lv [.int x] h = some (some (.int x), h, 0, 0) := k_ir rfl rfl
-- 7: BlameDesk.result(I)I
theorem s_7_0 (d L n : Nat) (scr : Nat → Int32) (call : Nat → List Value → am_H → Option am_X) (lv : am_L) (st : List Value) (h : am_H) : am_f d scr L call 7 (n + 1) 0 lv st h = (match am_ld lv 0 with
    | some (.ref x) => am_f d scr L call 7 n 1 lv (.ref x :: st) h
    | _ => none) := k_la (i := .aload_n 0) rfl rfl rfl rfl
theorem s_7_1 (d L n : Nat) (scr : Nat → Int32) (call : Nat → List Value → am_H → Option am_X) (lv : am_L) (st : List Value) (h : am_H) (a : Nat) : am_f d scr L call 7 (n + 1) 1 lv (.ref a :: st) h = (match am_get h a 0 3 with
    | some v => am_f d scr L call 7 n 4 lv (v :: st) h
    | none => none) := k_gf (k := 35) rfl rfl
theorem s_7_4 (d L n : Nat) (scr : Nat → Int32) (call : Nat → List Value → am_H → Option am_X) (lv : am_L) (st : List Value) (h : am_H) : am_f d scr L call 7 (n + 1) 4 lv st h = (match am_ld lv 1 with
    | some (.int x) => am_f d scr L call 7 n 5 lv (.int x :: st) h
    | _ => none) := k_li (i := .iload_n 1) rfl rfl rfl rfl
theorem s_7_5 (d L n : Nat) (scr : Nat → Int32) (call : Nat → List Value → am_H → Option am_X) (lv : am_L) (h : am_H) (o : Nat) (a0 : Int32)  : am_f d scr L call 7 (n + 1) 5 lv (.int a0 :: .ref o :: []) h = if am_at h o 3 = true then (match call 33 [.ref o, .int a0] h with
    | some (v, h', dk, dn) => am_add dk dn (am_f d scr L call 7 n 8 lv (v.toList ++ []) h')
    | none => none) else none := k_iv0 (k := 83) (as := [.int a0]) (r := []) rfl rfl rfl rfl (Nat.le_of_ble_eq_true rfl)
theorem s_7_8 (d L n : Nat) (scr : Nat → Int32) (call : Nat → List Value → am_H → Option am_X) (lv : am_L) (h : am_H) (x : Int32) : am_f d scr L call 7 (n + 1) 8 lv [.int x] h = some (some (.int x), h, 0, 0) := k_ir rfl rfl
-- 8: BlameDesk.blamed()I
theorem s_8_0 (d L n : Nat) (scr : Nat → Int32) (call : Nat → List Value → am_H → Option am_X) (lv : am_L) (st : List Value) (h : am_H) : am_f d scr L call 8 (n + 1) 0 lv st h = (match am_ld lv 0 with
    | some (.ref x) => am_f d scr L call 8 n 1 lv (.ref x :: st) h
    | _ => none) := k_la (i := .aload_n 0) rfl rfl rfl rfl
theorem s_8_1 (d L n : Nat) (scr : Nat → Int32) (call : Nat → List Value → am_H → Option am_X) (lv : am_L) (st : List Value) (h : am_H) (a : Nat) : am_f d scr L call 8 (n + 1) 1 lv (.ref a :: st) h = (match am_get h a 0 3 with
    | some v => am_f d scr L call 8 n 4 lv (v :: st) h
    | none => none) := k_gf (k := 35) rfl rfl
theorem s_8_4 (d L n : Nat) (scr : Nat → Int32) (call : Nat → List Value → am_H → Option am_X) (lv : am_L) (st : List Value) (h : am_H) (a : Nat) : am_f d scr L call 8 (n + 1) 4 lv (.ref a :: st) h = (match am_get h a 3 12 with
    | some v => am_f d scr L call 8 n 7 lv (v :: st) h
    | none => none) := k_gf (k := 86) rfl rfl
theorem s_8_7 (d L n : Nat) (scr : Nat → Int32) (call : Nat → List Value → am_H → Option am_X) (lv : am_L) (st : List Value) (h : am_H) : am_f d scr L call 8 (n + 1) 7 lv st h = am_f d scr L call 8 n 8 lv (.int 2 :: st) h := k_nx (i := .iconst 2) rfl rfl
theorem s_8_8 (d L n : Nat) (scr : Nat → Int32) (call : Nat → List Value → am_H → Option am_X) (lv : am_L) (st : List Value) (h : am_H) (x y : Int32) : am_f d scr L call 8 (n + 1) 8 lv (.int y :: .int x :: st) h = if ¬ x = y then am_f d scr L call 8 n 24 lv st h else am_f d scr L call 8 n 11 lv st h := k_ic_ne (o := 16) rfl ⟨by decide, rfl⟩
theorem s_8_11 (d L n : Nat) (scr : Nat → Int32) (call : Nat → List Value → am_H → Option am_X) (lv : am_L) (st : List Value) (h : am_H) : am_f d scr L call 8 (n + 1) 11 lv st h = (match am_ld lv 0 with
    | some (.ref x) => am_f d scr L call 8 n 12 lv (.ref x :: st) h
    | _ => none) := k_la (i := .aload_n 0) rfl rfl rfl rfl
theorem s_8_12 (d L n : Nat) (scr : Nat → Int32) (call : Nat → List Value → am_H → Option am_X) (lv : am_L) (st : List Value) (h : am_H) (a : Nat) : am_f d scr L call 8 (n + 1) 12 lv (.ref a :: st) h = (match am_get h a 0 3 with
    | some v => am_f d scr L call 8 n 15 lv (v :: st) h
    | none => none) := k_gf (k := 35) rfl rfl
theorem s_8_15 (d L n : Nat) (scr : Nat → Int32) (call : Nat → List Value → am_H → Option am_X) (lv : am_L) (st : List Value) (h : am_H) (a : Nat) : am_f d scr L call 8 (n + 1) 15 lv (.ref a :: st) h = (match am_get h a 3 1 with
    | some v => am_f d scr L call 8 n 18 lv (v :: st) h
    | none => none) := k_gf (k := 89) rfl rfl
theorem s_8_18 (d L n : Nat) (scr : Nat → Int32) (call : Nat → List Value → am_H → Option am_X) (lv : am_L) (st : List Value) (h : am_H) (a : Nat) : am_f d scr L call 8 (n + 1) 18 lv (.ref a :: st) h = (match am_get h a 1 8 with
    | some v => am_f d scr L call 8 n 21 lv (v :: st) h
    | none => none) := k_gf (k := 93) rfl rfl
theorem s_8_21 (d L n : Nat) (scr : Nat → Int32) (call : Nat → List Value → am_H → Option am_X) (lv : am_L) (st : List Value) (h : am_H) : am_f d scr L call 8 (n + 1) 21 lv st h = am_f d scr L call 8 n 25 lv st h := k_nx (i := .goto 4) rfl rfl
theorem s_8_24 (d L n : Nat) (scr : Nat → Int32) (call : Nat → List Value → am_H → Option am_X) (lv : am_L) (st : List Value) (h : am_H) : am_f d scr L call 8 (n + 1) 24 lv st h = am_f d scr L call 8 n 25 lv (.int (-1) :: st) h := k_nx (i := .iconst (-1)) rfl rfl
theorem s_8_25 (d L n : Nat) (scr : Nat → Int32) (call : Nat → List Value → am_H → Option am_X) (lv : am_L) (h : am_H) (x : Int32) : am_f d scr L call 8 (n + 1) 25 lv [.int x] h = some (some (.int x), h, 0, 0) := k_ir rfl rfl
-- 9: BlameDesk.output(I)I
theorem s_9_0 (d L n : Nat) (scr : Nat → Int32) (call : Nat → List Value → am_H → Option am_X) (lv : am_L) (st : List Value) (h : am_H) : am_f d scr L call 9 (n + 1) 0 lv st h = (match am_ld lv 1 with
    | some (.int x) => am_f d scr L call 9 n 1 lv (.int x :: st) h
    | _ => none) := k_li (i := .iload_n 1) rfl rfl rfl rfl
theorem s_9_1 (d L n : Nat) (scr : Nat → Int32) (call : Nat → List Value → am_H → Option am_X) (lv : am_L) (st : List Value) (h : am_H) : am_f d scr L call 9 (n + 1) 1 lv st h = am_f d scr L call 9 n 2 lv (.int (-1) :: st) h := k_nx (i := .iconst (-1)) rfl rfl
theorem s_9_2 (d L n : Nat) (scr : Nat → Int32) (call : Nat → List Value → am_H → Option am_X) (lv : am_L) (st : List Value) (h : am_H) (x y : Int32) : am_f d scr L call 9 (n + 1) 2 lv (.int y :: .int x :: st) h = if ¬ x = y then am_f d scr L call 9 n 18 lv st h else am_f d scr L call 9 n 5 lv st h := k_ic_ne (o := 16) rfl ⟨by decide, rfl⟩
theorem s_9_5 (d L n : Nat) (scr : Nat → Int32) (call : Nat → List Value → am_H → Option am_X) (lv : am_L) (st : List Value) (h : am_H) : am_f d scr L call 9 (n + 1) 5 lv st h = (match am_ld lv 0 with
    | some (.ref x) => am_f d scr L call 9 n 6 lv (.ref x :: st) h
    | _ => none) := k_la (i := .aload_n 0) rfl rfl rfl rfl
theorem s_9_6 (d L n : Nat) (scr : Nat → Int32) (call : Nat → List Value → am_H → Option am_X) (lv : am_L) (st : List Value) (h : am_H) (a : Nat) : am_f d scr L call 9 (n + 1) 6 lv (.ref a :: st) h = (match am_get h a 0 3 with
    | some v => am_f d scr L call 9 n 9 lv (v :: st) h
    | none => none) := k_gf (k := 35) rfl rfl
theorem s_9_9 (d L n : Nat) (scr : Nat → Int32) (call : Nat → List Value → am_H → Option am_X) (lv : am_L) (st : List Value) (h : am_H) (a : Nat) : am_f d scr L call 9 (n + 1) 9 lv (.ref a :: st) h = (match am_get h a 3 2 with
    | some v => am_f d scr L call 9 n 12 lv (v :: st) h
    | none => none) := k_gf (k := 98) rfl rfl
theorem s_9_12 (d L n : Nat) (scr : Nat → Int32) (call : Nat → List Value → am_H → Option am_X) (lv : am_L) (st : List Value) (h : am_H) (a : Nat) : am_f d scr L call 9 (n + 1) 12 lv (.ref a :: st) h = (match am_get h a 4 1 with
    | some v => am_f d scr L call 9 n 15 lv (v :: st) h
    | none => none) := k_gf (k := 102) rfl rfl
theorem s_9_15 (d L n : Nat) (scr : Nat → Int32) (call : Nat → List Value → am_H → Option am_X) (lv : am_L) (st : List Value) (h : am_H) : am_f d scr L call 9 (n + 1) 15 lv st h = am_f d scr L call 9 n 29 lv st h := k_nx (i := .goto 14) rfl rfl
theorem s_9_18 (d L n : Nat) (scr : Nat → Int32) (call : Nat → List Value → am_H → Option am_X) (lv : am_L) (st : List Value) (h : am_H) : am_f d scr L call 9 (n + 1) 18 lv st h = (match am_ld lv 0 with
    | some (.ref x) => am_f d scr L call 9 n 19 lv (.ref x :: st) h
    | _ => none) := k_la (i := .aload_n 0) rfl rfl rfl rfl
theorem s_9_19 (d L n : Nat) (scr : Nat → Int32) (call : Nat → List Value → am_H → Option am_X) (lv : am_L) (st : List Value) (h : am_H) (a : Nat) : am_f d scr L call 9 (n + 1) 19 lv (.ref a :: st) h = (match am_get h a 0 3 with
    | some v => am_f d scr L call 9 n 22 lv (v :: st) h
    | none => none) := k_gf (k := 35) rfl rfl
theorem s_9_22 (d L n : Nat) (scr : Nat → Int32) (call : Nat → List Value → am_H → Option am_X) (lv : am_L) (st : List Value) (h : am_H) (a : Nat) : am_f d scr L call 9 (n + 1) 22 lv (.ref a :: st) h = (match am_get h a 3 2 with
    | some v => am_f d scr L call 9 n 25 lv (v :: st) h
    | none => none) := k_gf (k := 98) rfl rfl
theorem s_9_25 (d L n : Nat) (scr : Nat → Int32) (call : Nat → List Value → am_H → Option am_X) (lv : am_L) (st : List Value) (h : am_H) : am_f d scr L call 9 (n + 1) 25 lv st h = (match am_ld lv 1 with
    | some (.int x) => am_f d scr L call 9 n 26 lv (.int x :: st) h
    | _ => none) := k_li (i := .iload_n 1) rfl rfl rfl rfl
theorem s_9_26 (d L n : Nat) (scr : Nat → Int32) (call : Nat → List Value → am_H → Option am_X) (lv : am_L) (h : am_H) (o : Nat) (a0 : Int32)  : am_f d scr L call 9 (n + 1) 26 lv (.int a0 :: .ref o :: []) h = if am_at h o 4 = true then (match call 50 [.ref o, .int a0] h with
    | some (v, h', dk, dn) => am_add dk dn (am_f d scr L call 9 n 29 lv (v.toList ++ []) h')
    | none => none) else none := k_iv0 (k := 107) (as := [.int a0]) (r := []) rfl rfl rfl rfl (Nat.le_of_ble_eq_true rfl)
theorem s_9_29 (d L n : Nat) (scr : Nat → Int32) (call : Nat → List Value → am_H → Option am_X) (lv : am_L) (h : am_H) (x : Int32) : am_f d scr L call 9 (n + 1) 29 lv [.int x] h = some (some (.int x), h, 0, 0) := k_ir rfl rfl
-- 10: BlameDesk.calls()I
theorem s_10_0 (d L n : Nat) (scr : Nat → Int32) (call : Nat → List Value → am_H → Option am_X) (lv : am_L) (st : List Value) (h : am_H) : am_f d scr L call 10 (n + 1) 0 lv st h = (match am_ld lv 0 with
    | some (.ref x) => am_f d scr L call 10 n 1 lv (.ref x :: st) h
    | _ => none) := k_la (i := .aload_n 0) rfl rfl rfl rfl
theorem s_10_1 (d L n : Nat) (scr : Nat → Int32) (call : Nat → List Value → am_H → Option am_X) (lv : am_L) (st : List Value) (h : am_H) (a : Nat) : am_f d scr L call 10 (n + 1) 1 lv (.ref a :: st) h = (match am_get h a 0 3 with
    | some v => am_f d scr L call 10 n 4 lv (v :: st) h
    | none => none) := k_gf (k := 35) rfl rfl
theorem s_10_4 (d L n : Nat) (scr : Nat → Int32) (call : Nat → List Value → am_H → Option am_X) (lv : am_L) (st : List Value) (h : am_H) (a : Nat) : am_f d scr L call 10 (n + 1) 4 lv (.ref a :: st) h = (match am_get h a 3 11 with
    | some v => am_f d scr L call 10 n 7 lv (v :: st) h
    | none => none) := k_gf (k := 110) rfl rfl
theorem s_10_7 (d L n : Nat) (scr : Nat → Int32) (call : Nat → List Value → am_H → Option am_X) (lv : am_L) (h : am_H) (x : Int32) : am_f d scr L call 10 (n + 1) 7 lv [.int x] h = some (some (.int x), h, 0, 0) := k_ir rfl rfl
-- 11: BlameDesk.stored()I
theorem s_11_0 (d L n : Nat) (scr : Nat → Int32) (call : Nat → List Value → am_H → Option am_X) (lv : am_L) (st : List Value) (h : am_H) : am_f d scr L call 11 (n + 1) 0 lv st h = (match am_ld lv 0 with
    | some (.ref x) => am_f d scr L call 11 n 1 lv (.ref x :: st) h
    | _ => none) := k_la (i := .aload_n 0) rfl rfl rfl rfl
theorem s_11_1 (d L n : Nat) (scr : Nat → Int32) (call : Nat → List Value → am_H → Option am_X) (lv : am_L) (st : List Value) (h : am_H) (a : Nat) : am_f d scr L call 11 (n + 1) 1 lv (.ref a :: st) h = (match am_get h a 0 3 with
    | some v => am_f d scr L call 11 n 4 lv (v :: st) h
    | none => none) := k_gf (k := 35) rfl rfl
theorem s_11_4 (d L n : Nat) (scr : Nat → Int32) (call : Nat → List Value → am_H → Option am_X) (lv : am_L) (st : List Value) (h : am_H) (a : Nat) : am_f d scr L call 11 (n + 1) 4 lv (.ref a :: st) h = (match am_get h a 3 10 with
    | some v => am_f d scr L call 11 n 7 lv (v :: st) h
    | none => none) := k_gf (k := 113) rfl rfl
theorem s_11_7 (d L n : Nat) (scr : Nat → Int32) (call : Nat → List Value → am_H → Option am_X) (lv : am_L) (h : am_H) (x : Int32) : am_f d scr L call 11 (n + 1) 7 lv [.int x] h = some (some (.int x), h, 0, 0) := k_ir rfl rfl
-- 47: BlameDesk$Outputs.<init>()V
theorem s_47_0 (d L n : Nat) (scr : Nat → Int32) (call : Nat → List Value → am_H → Option am_X) (lv : am_L) (st : List Value) (h : am_H) : am_f d scr L call 47 (n + 1) 0 lv st h = (match am_ld lv 0 with
    | some (.ref x) => am_f d scr L call 47 n 1 lv (.ref x :: st) h
    | _ => none) := k_la (i := .aload_n 0) rfl rfl rfl rfl
theorem s_47_1 (d L n a : Nat) (scr : Nat → Int32) (call : Nat → List Value → am_H → Option am_X) (lv : am_L) (h : am_H)  : am_f (d + 1) scr L call 47 (n + 1) 1 lv (.ref a :: []) h = am_f (d + 1) scr L call 47 n 4 lv [] h := k_ob (k := 1) rfl rfl (Nat.le_of_ble_eq_true rfl)
theorem s_47_4 (d L n : Nat) (scr : Nat → Int32) (call : Nat → List Value → am_H → Option am_X) (lv : am_L) (st : List Value) (h : am_H) : am_f d scr L call 47 (n + 1) 4 lv st h = (match am_ld lv 0 with
    | some (.ref x) => am_f d scr L call 47 n 5 lv (.ref x :: st) h
    | _ => none) := k_la (i := .aload_n 0) rfl rfl rfl rfl
theorem s_47_5 (d L n : Nat) (scr : Nat → Int32) (call : Nat → List Value → am_H → Option am_X) (lv : am_L) (st : List Value) (h : am_H) : am_f d scr L call 47 (n + 1) 5 lv st h = am_f d scr L call 47 n 7 lv (.int 16 :: st) h := k_nx (i := .bipush 16) rfl rfl
theorem s_47_9 (d L n : Nat) (scr : Nat → Int32) (call : Nat → List Value → am_H → Option am_X) (lv : am_L) (st : List Value) (h : am_H) (x : Nat) (a : Nat) : am_f d scr L call 47 (n + 1) 9 lv (.ref x :: .ref a :: st) h = (match am_put h a 4 0 (.ref x) with
    | some h' => am_f d scr L call 47 n 12 lv st h'
    | none => none) := k_pf (k := 9) rfl rfl rfl
theorem s_47_12 (d L n : Nat) (scr : Nat → Int32) (call : Nat → List Value → am_H → Option am_X) (lv : am_L) (st : List Value) (h : am_H) : am_f d scr L call 47 (n + 1) 12 lv st h = (match am_ld lv 0 with
    | some (.ref x) => am_f d scr L call 47 n 13 lv (.ref x :: st) h
    | _ => none) := k_la (i := .aload_n 0) rfl rfl rfl rfl
theorem s_47_13 (d L n : Nat) (scr : Nat → Int32) (call : Nat → List Value → am_H → Option am_X) (lv : am_L) (st : List Value) (h : am_H) : am_f d scr L call 47 (n + 1) 13 lv st h = am_f d scr L call 47 n 14 lv (.int 0 :: st) h := k_nx (i := .iconst 0) rfl rfl
theorem s_47_14 (d L n : Nat) (scr : Nat → Int32) (call : Nat → List Value → am_H → Option am_X) (lv : am_L) (st : List Value) (h : am_H) (x : Int32) (a : Nat) : am_f d scr L call 47 (n + 1) 14 lv (.int x :: .ref a :: st) h = (match am_put h a 4 1 (.int x) with
    | some h' => am_f d scr L call 47 n 17 lv st h'
    | none => none) := k_pf (k := 13) rfl rfl rfl
theorem s_47_17 (d L n : Nat) (scr : Nat → Int32) (call : Nat → List Value → am_H → Option am_X) (lv : am_L) (h : am_H) : am_f d scr L call 47 (n + 1) 17 lv [] h = some (none, h, 0, 0) := k_vr rfl rfl
-- 48: BlameDesk$Outputs.clear()V
theorem s_48_0 (d L n : Nat) (scr : Nat → Int32) (call : Nat → List Value → am_H → Option am_X) (lv : am_L) (st : List Value) (h : am_H) : am_f d scr L call 48 (n + 1) 0 lv st h = (match am_ld lv 0 with
    | some (.ref x) => am_f d scr L call 48 n 1 lv (.ref x :: st) h
    | _ => none) := k_la (i := .aload_n 0) rfl rfl rfl rfl
theorem s_48_1 (d L n : Nat) (scr : Nat → Int32) (call : Nat → List Value → am_H → Option am_X) (lv : am_L) (st : List Value) (h : am_H) : am_f d scr L call 48 (n + 1) 1 lv st h = am_f d scr L call 48 n 2 lv (.int 0 :: st) h := k_nx (i := .iconst 0) rfl rfl
theorem s_48_2 (d L n : Nat) (scr : Nat → Int32) (call : Nat → List Value → am_H → Option am_X) (lv : am_L) (st : List Value) (h : am_H) (x : Int32) (a : Nat) : am_f d scr L call 48 (n + 1) 2 lv (.int x :: .ref a :: st) h = (match am_put h a 4 1 (.int x) with
    | some h' => am_f d scr L call 48 n 5 lv st h'
    | none => none) := k_pf (k := 13) rfl rfl rfl
theorem s_48_5 (d L n : Nat) (scr : Nat → Int32) (call : Nat → List Value → am_H → Option am_X) (lv : am_L) (h : am_H) : am_f d scr L call 48 (n + 1) 5 lv [] h = some (none, h, 0, 0) := k_vr rfl rfl
-- 49: BlameDesk$Outputs.put(I)V
theorem s_49_0 (d L n : Nat) (scr : Nat → Int32) (call : Nat → List Value → am_H → Option am_X) (lv : am_L) (st : List Value) (h : am_H) : am_f d scr L call 49 (n + 1) 0 lv st h = (match am_ld lv 0 with
    | some (.ref x) => am_f d scr L call 49 n 1 lv (.ref x :: st) h
    | _ => none) := k_la (i := .aload_n 0) rfl rfl rfl rfl
theorem s_49_1 (d L n : Nat) (scr : Nat → Int32) (call : Nat → List Value → am_H → Option am_X) (lv : am_L) (st : List Value) (h : am_H) (a : Nat) : am_f d scr L call 49 (n + 1) 1 lv (.ref a :: st) h = (match am_get h a 4 0 with
    | some v => am_f d scr L call 49 n 4 lv (v :: st) h
    | none => none) := k_gf (k := 9) rfl rfl
theorem s_49_4 (d L n : Nat) (scr : Nat → Int32) (call : Nat → List Value → am_H → Option am_X) (lv : am_L) (st : List Value) (h : am_H) : am_f d scr L call 49 (n + 1) 4 lv st h = (match am_ld lv 0 with
    | some (.ref x) => am_f d scr L call 49 n 5 lv (.ref x :: st) h
    | _ => none) := k_la (i := .aload_n 0) rfl rfl rfl rfl
theorem s_49_5 (d L n : Nat) (scr : Nat → Int32) (call : Nat → List Value → am_H → Option am_X) (lv : am_L) (st : List Value) (h : am_H) (a : Nat) : am_f d scr L call 49 (n + 1) 5 lv (.ref a :: st) h = (match am_get h a 4 1 with
    | some v => am_f d scr L call 49 n 8 lv (v :: st) h
    | none => none) := k_gf (k := 13) rfl rfl
theorem s_49_8 (d L n : Nat) (scr : Nat → Int32) (call : Nat → List Value → am_H → Option am_X) (lv : am_L) (st : List Value) (h : am_H) : am_f d scr L call 49 (n + 1) 8 lv st h = am_f d scr L call 49 n 10 lv (.int 15 :: st) h := k_nx (i := .bipush 15) rfl rfl
theorem s_49_10 (d L n : Nat) (scr : Nat → Int32) (call : Nat → List Value → am_H → Option am_X) (lv : am_L) (st : List Value) (h : am_H) (x y : Int32) : am_f d scr L call 49 (n + 1) 10 lv (.int y :: .int x :: st) h = am_f d scr L call 49 n 11 lv (.int (x &&& y) :: st) h := k_nx (i := .iand) rfl rfl
theorem s_49_11 (d L n : Nat) (scr : Nat → Int32) (call : Nat → List Value → am_H → Option am_X) (lv : am_L) (st : List Value) (h : am_H) : am_f d scr L call 49 (n + 1) 11 lv st h = (match am_ld lv 1 with
    | some (.int x) => am_f d scr L call 49 n 12 lv (.int x :: st) h
    | _ => none) := k_li (i := .iload_n 1) rfl rfl rfl rfl
theorem s_49_12 (d L n : Nat) (scr : Nat → Int32) (call : Nat → List Value → am_H → Option am_X) (lv : am_L) (st : List Value) (h : am_H) (a : Nat) (i : Int32) (x : Int32) : am_f d scr L call 49 (n + 1) 12 lv (.int x :: .int i :: .ref a :: st) h = (match am_ist h a i x with
    | some h' => am_f d scr L call 49 n 13 lv st h'
    | none => none) := k_is rfl
theorem s_49_13 (d L n : Nat) (scr : Nat → Int32) (call : Nat → List Value → am_H → Option am_X) (lv : am_L) (st : List Value) (h : am_H) : am_f d scr L call 49 (n + 1) 13 lv st h = (match am_ld lv 0 with
    | some (.ref x) => am_f d scr L call 49 n 14 lv (.ref x :: st) h
    | _ => none) := k_la (i := .aload_n 0) rfl rfl rfl rfl
theorem s_49_14 (d L n : Nat) (scr : Nat → Int32) (call : Nat → List Value → am_H → Option am_X) (lv : am_L) (st : List Value) (h : am_H) (x : Nat) : am_f d scr L call 49 (n + 1) 14 lv (.ref x :: st) h = am_f d scr L call 49 n 15 lv (.ref x :: .ref x :: st) h := k_nx (i := .dup) rfl rfl
theorem s_49_15 (d L n : Nat) (scr : Nat → Int32) (call : Nat → List Value → am_H → Option am_X) (lv : am_L) (st : List Value) (h : am_H) (a : Nat) : am_f d scr L call 49 (n + 1) 15 lv (.ref a :: st) h = (match am_get h a 4 1 with
    | some v => am_f d scr L call 49 n 18 lv (v :: st) h
    | none => none) := k_gf (k := 13) rfl rfl
theorem s_49_18 (d L n : Nat) (scr : Nat → Int32) (call : Nat → List Value → am_H → Option am_X) (lv : am_L) (st : List Value) (h : am_H) : am_f d scr L call 49 (n + 1) 18 lv st h = am_f d scr L call 49 n 19 lv (.int 1 :: st) h := k_nx (i := .iconst 1) rfl rfl
theorem s_49_19 (d L n : Nat) (scr : Nat → Int32) (call : Nat → List Value → am_H → Option am_X) (lv : am_L) (st : List Value) (h : am_H) (x y : Int32) : am_f d scr L call 49 (n + 1) 19 lv (.int y :: .int x :: st) h = am_f d scr L call 49 n 20 lv (.int (x + y) :: st) h := k_nx (i := .iadd) rfl rfl
theorem s_49_20 (d L n : Nat) (scr : Nat → Int32) (call : Nat → List Value → am_H → Option am_X) (lv : am_L) (st : List Value) (h : am_H) (x : Int32) (a : Nat) : am_f d scr L call 49 (n + 1) 20 lv (.int x :: .ref a :: st) h = (match am_put h a 4 1 (.int x) with
    | some h' => am_f d scr L call 49 n 23 lv st h'
    | none => none) := k_pf (k := 13) rfl rfl rfl
theorem s_49_23 (d L n : Nat) (scr : Nat → Int32) (call : Nat → List Value → am_H → Option am_X) (lv : am_L) (h : am_H) : am_f d scr L call 49 (n + 1) 23 lv [] h = some (none, h, 0, 0) := k_vr rfl rfl
-- 50: BlameDesk$Outputs.back(I)I
theorem s_50_0 (d L n : Nat) (scr : Nat → Int32) (call : Nat → List Value → am_H → Option am_X) (lv : am_L) (st : List Value) (h : am_H) : am_f d scr L call 50 (n + 1) 0 lv st h = (match am_ld lv 1 with
    | some (.int x) => am_f d scr L call 50 n 1 lv (.int x :: st) h
    | _ => none) := k_li (i := .iload_n 1) rfl rfl rfl rfl
theorem s_50_1 (d L n : Nat) (scr : Nat → Int32) (call : Nat → List Value → am_H → Option am_X) (lv : am_L) (st : List Value) (h : am_H) (x : Int32) : am_f d scr L call 50 (n + 1) 1 lv (.int x :: st) h = if x < 0 then am_f d scr L call 50 n 18 lv st h else am_f d scr L call 50 n 4 lv st h := k_if_lt (o := 17) rfl ⟨by decide, rfl⟩
theorem s_50_4 (d L n : Nat) (scr : Nat → Int32) (call : Nat → List Value → am_H → Option am_X) (lv : am_L) (st : List Value) (h : am_H) : am_f d scr L call 50 (n + 1) 4 lv st h = (match am_ld lv 1 with
    | some (.int x) => am_f d scr L call 50 n 5 lv (.int x :: st) h
    | _ => none) := k_li (i := .iload_n 1) rfl rfl rfl rfl
theorem s_50_5 (d L n : Nat) (scr : Nat → Int32) (call : Nat → List Value → am_H → Option am_X) (lv : am_L) (st : List Value) (h : am_H) : am_f d scr L call 50 (n + 1) 5 lv st h = am_f d scr L call 50 n 7 lv (.int 16 :: st) h := k_nx (i := .bipush 16) rfl rfl
theorem s_50_7 (d L n : Nat) (scr : Nat → Int32) (call : Nat → List Value → am_H → Option am_X) (lv : am_L) (st : List Value) (h : am_H) (x y : Int32) : am_f d scr L call 50 (n + 1) 7 lv (.int y :: .int x :: st) h = if y ≤ x then am_f d scr L call 50 n 18 lv st h else am_f d scr L call 50 n 10 lv st h := k_ic_ge (o := 11) rfl ⟨by decide, rfl⟩
theorem s_50_10 (d L n : Nat) (scr : Nat → Int32) (call : Nat → List Value → am_H → Option am_X) (lv : am_L) (st : List Value) (h : am_H) : am_f d scr L call 50 (n + 1) 10 lv st h = (match am_ld lv 1 with
    | some (.int x) => am_f d scr L call 50 n 11 lv (.int x :: st) h
    | _ => none) := k_li (i := .iload_n 1) rfl rfl rfl rfl
theorem s_50_11 (d L n : Nat) (scr : Nat → Int32) (call : Nat → List Value → am_H → Option am_X) (lv : am_L) (st : List Value) (h : am_H) : am_f d scr L call 50 (n + 1) 11 lv st h = (match am_ld lv 0 with
    | some (.ref x) => am_f d scr L call 50 n 12 lv (.ref x :: st) h
    | _ => none) := k_la (i := .aload_n 0) rfl rfl rfl rfl
theorem s_50_12 (d L n : Nat) (scr : Nat → Int32) (call : Nat → List Value → am_H → Option am_X) (lv : am_L) (st : List Value) (h : am_H) (a : Nat) : am_f d scr L call 50 (n + 1) 12 lv (.ref a :: st) h = (match am_get h a 4 1 with
    | some v => am_f d scr L call 50 n 15 lv (v :: st) h
    | none => none) := k_gf (k := 13) rfl rfl
theorem s_50_15 (d L n : Nat) (scr : Nat → Int32) (call : Nat → List Value → am_H → Option am_X) (lv : am_L) (st : List Value) (h : am_H) (x y : Int32) : am_f d scr L call 50 (n + 1) 15 lv (.int y :: .int x :: st) h = if x < y then am_f d scr L call 50 n 20 lv st h else am_f d scr L call 50 n 18 lv st h := k_ic_lt (o := 5) rfl ⟨by decide, rfl⟩
theorem s_50_18 (d L n : Nat) (scr : Nat → Int32) (call : Nat → List Value → am_H → Option am_X) (lv : am_L) (st : List Value) (h : am_H) : am_f d scr L call 50 (n + 1) 18 lv st h = am_f d scr L call 50 n 19 lv (.int 0 :: st) h := k_nx (i := .iconst 0) rfl rfl
theorem s_50_19 (d L n : Nat) (scr : Nat → Int32) (call : Nat → List Value → am_H → Option am_X) (lv : am_L) (h : am_H) (x : Int32) : am_f d scr L call 50 (n + 1) 19 lv [.int x] h = some (some (.int x), h, 0, 0) := k_ir rfl rfl
theorem s_50_20 (d L n : Nat) (scr : Nat → Int32) (call : Nat → List Value → am_H → Option am_X) (lv : am_L) (st : List Value) (h : am_H) : am_f d scr L call 50 (n + 1) 20 lv st h = (match am_ld lv 0 with
    | some (.ref x) => am_f d scr L call 50 n 21 lv (.ref x :: st) h
    | _ => none) := k_la (i := .aload_n 0) rfl rfl rfl rfl
theorem s_50_21 (d L n : Nat) (scr : Nat → Int32) (call : Nat → List Value → am_H → Option am_X) (lv : am_L) (st : List Value) (h : am_H) (a : Nat) : am_f d scr L call 50 (n + 1) 21 lv (.ref a :: st) h = (match am_get h a 4 0 with
    | some v => am_f d scr L call 50 n 24 lv (v :: st) h
    | none => none) := k_gf (k := 9) rfl rfl
theorem s_50_24 (d L n : Nat) (scr : Nat → Int32) (call : Nat → List Value → am_H → Option am_X) (lv : am_L) (st : List Value) (h : am_H) : am_f d scr L call 50 (n + 1) 24 lv st h = (match am_ld lv 0 with
    | some (.ref x) => am_f d scr L call 50 n 25 lv (.ref x :: st) h
    | _ => none) := k_la (i := .aload_n 0) rfl rfl rfl rfl
theorem s_50_25 (d L n : Nat) (scr : Nat → Int32) (call : Nat → List Value → am_H → Option am_X) (lv : am_L) (st : List Value) (h : am_H) (a : Nat) : am_f d scr L call 50 (n + 1) 25 lv (.ref a :: st) h = (match am_get h a 4 1 with
    | some v => am_f d scr L call 50 n 28 lv (v :: st) h
    | none => none) := k_gf (k := 13) rfl rfl
theorem s_50_28 (d L n : Nat) (scr : Nat → Int32) (call : Nat → List Value → am_H → Option am_X) (lv : am_L) (st : List Value) (h : am_H) : am_f d scr L call 50 (n + 1) 28 lv st h = am_f d scr L call 50 n 29 lv (.int 1 :: st) h := k_nx (i := .iconst 1) rfl rfl
theorem s_50_29 (d L n : Nat) (scr : Nat → Int32) (call : Nat → List Value → am_H → Option am_X) (lv : am_L) (st : List Value) (h : am_H) (x y : Int32) : am_f d scr L call 50 (n + 1) 29 lv (.int y :: .int x :: st) h = am_f d scr L call 50 n 30 lv (.int (x - y) :: st) h := k_nx (i := .isub) rfl rfl
theorem s_50_30 (d L n : Nat) (scr : Nat → Int32) (call : Nat → List Value → am_H → Option am_X) (lv : am_L) (st : List Value) (h : am_H) : am_f d scr L call 50 (n + 1) 30 lv st h = (match am_ld lv 1 with
    | some (.int x) => am_f d scr L call 50 n 31 lv (.int x :: st) h
    | _ => none) := k_li (i := .iload_n 1) rfl rfl rfl rfl
theorem s_50_31 (d L n : Nat) (scr : Nat → Int32) (call : Nat → List Value → am_H → Option am_X) (lv : am_L) (st : List Value) (h : am_H) (x y : Int32) : am_f d scr L call 50 (n + 1) 31 lv (.int y :: .int x :: st) h = am_f d scr L call 50 n 32 lv (.int (x - y) :: st) h := k_nx (i := .isub) rfl rfl
theorem s_50_32 (d L n : Nat) (scr : Nat → Int32) (call : Nat → List Value → am_H → Option am_X) (lv : am_L) (st : List Value) (h : am_H) : am_f d scr L call 50 (n + 1) 32 lv st h = am_f d scr L call 50 n 34 lv (.int 15 :: st) h := k_nx (i := .bipush 15) rfl rfl
theorem s_50_34 (d L n : Nat) (scr : Nat → Int32) (call : Nat → List Value → am_H → Option am_X) (lv : am_L) (st : List Value) (h : am_H) (x y : Int32) : am_f d scr L call 50 (n + 1) 34 lv (.int y :: .int x :: st) h = am_f d scr L call 50 n 35 lv (.int (x &&& y) :: st) h := k_nx (i := .iand) rfl rfl
theorem s_50_35 (d L n : Nat) (scr : Nat → Int32) (call : Nat → List Value → am_H → Option am_X) (lv : am_L) (st : List Value) (h : am_H) (a : Nat) (i : Int32) : am_f d scr L call 50 (n + 1) 35 lv (.int i :: .ref a :: st) h = (match am_ild scr L h a i with
    | some x => am_f d scr L call 50 n 36 lv (.int x :: st) h
    | none => none) := k_ia rfl
theorem s_50_36 (d L n : Nat) (scr : Nat → Int32) (call : Nat → List Value → am_H → Option am_X) (lv : am_L) (h : am_H) (x : Int32) : am_f d scr L call 50 (n + 1) 36 lv [.int x] h = some (some (.int x), h, 0, 0) := k_ir rfl rfl
-- 51: BlameDesk$Program.<init>()V
theorem s_51_0 (d L n : Nat) (scr : Nat → Int32) (call : Nat → List Value → am_H → Option am_X) (lv : am_L) (st : List Value) (h : am_H) : am_f d scr L call 51 (n + 1) 0 lv st h = (match am_ld lv 0 with
    | some (.ref x) => am_f d scr L call 51 n 1 lv (.ref x :: st) h
    | _ => none) := k_la (i := .aload_n 0) rfl rfl rfl rfl
theorem s_51_1 (d L n a : Nat) (scr : Nat → Int32) (call : Nat → List Value → am_H → Option am_X) (lv : am_L) (h : am_H)  : am_f (d + 1) scr L call 51 (n + 1) 1 lv (.ref a :: []) h = am_f (d + 1) scr L call 51 n 4 lv [] h := k_ob (k := 3) rfl rfl (Nat.le_of_ble_eq_true rfl)
theorem s_51_4 (d L n : Nat) (scr : Nat → Int32) (call : Nat → List Value → am_H → Option am_X) (lv : am_L) (st : List Value) (h : am_H) : am_f d scr L call 51 (n + 1) 4 lv st h = (match am_ld lv 0 with
    | some (.ref x) => am_f d scr L call 51 n 5 lv (.ref x :: st) h
    | _ => none) := k_la (i := .aload_n 0) rfl rfl rfl rfl
theorem s_51_5 (d L n : Nat) (scr : Nat → Int32) (call : Nat → List Value → am_H → Option am_X) (lv : am_L) (st : List Value) (h : am_H) : am_f d scr L call 51 (n + 1) 5 lv st h = am_add 1 5 (am_f d scr L call 51 n 8 lv (.ref (h.length + 1) :: st) (h ++ [.inr (7, pm_d7)])) := k_new (k := 9) (ci := 7) rfl rfl rfl rfl
theorem s_51_8 (d L n : Nat) (scr : Nat → Int32) (call : Nat → List Value → am_H → Option am_X) (lv : am_L) (st : List Value) (h : am_H) (x : Nat) : am_f d scr L call 51 (n + 1) 8 lv (.ref x :: st) h = am_f d scr L call 51 n 9 lv (.ref x :: .ref x :: st) h := k_nx (i := .dup) rfl rfl
theorem s_51_9 (d L n : Nat) (scr : Nat → Int32) (call : Nat → List Value → am_H → Option am_X) (lv : am_L) (h : am_H) (o : Nat)  (r0 : Nat) (r1 : Nat) : am_f d scr L call 51 (n + 1) 9 lv (.ref o :: .ref r0 :: .ref r1 :: []) h = (match call 75 [.ref o] h with
    | some (v, h', dk, dn) => am_add dk dn (am_f d scr L call 51 n 12 lv (v.toList ++ [.ref r0, .ref r1]) h')
    | none => none) := k_iv2 (k := 11) (as := []) (r := [.ref r0, .ref r1]) rfl rfl rfl rfl rfl (Nat.le_of_ble_eq_true rfl)
theorem s_51_12 (d L n : Nat) (scr : Nat → Int32) (call : Nat → List Value → am_H → Option am_X) (lv : am_L) (st : List Value) (h : am_H) (x : Nat) (a : Nat) : am_f d scr L call 51 (n + 1) 12 lv (.ref x :: .ref a :: st) h = (match am_put h a 5 0 (.ref x) with
    | some h' => am_f d scr L call 51 n 15 lv st h'
    | none => none) := k_pf (k := 12) rfl rfl rfl
theorem s_51_15 (d L n : Nat) (scr : Nat → Int32) (call : Nat → List Value → am_H → Option am_X) (lv : am_L) (st : List Value) (h : am_H) : am_f d scr L call 51 (n + 1) 15 lv st h = (match am_ld lv 0 with
    | some (.ref x) => am_f d scr L call 51 n 16 lv (.ref x :: st) h
    | _ => none) := k_la (i := .aload_n 0) rfl rfl rfl rfl
theorem s_51_16 (d L n : Nat) (scr : Nat → Int32) (call : Nat → List Value → am_H → Option am_X) (lv : am_L) (st : List Value) (h : am_H) : am_f d scr L call 51 (n + 1) 16 lv st h = am_f d scr L call 51 n 18 lv (.int 100 :: st) h := k_nx (i := .bipush 100) rfl rfl
theorem s_51_20 (d L n : Nat) (scr : Nat → Int32) (call : Nat → List Value → am_H → Option am_X) (lv : am_L) (st : List Value) (h : am_H) (x : Nat) (a : Nat) : am_f d scr L call 51 (n + 1) 20 lv (.ref x :: .ref a :: st) h = (match am_put h a 5 1 (.ref x) with
    | some h' => am_f d scr L call 51 n 23 lv st h'
    | none => none) := k_pf (k := 18) rfl rfl rfl
theorem s_51_23 (d L n : Nat) (scr : Nat → Int32) (call : Nat → List Value → am_H → Option am_X) (lv : am_L) (st : List Value) (h : am_H) : am_f d scr L call 51 (n + 1) 23 lv st h = (match am_ld lv 0 with
    | some (.ref x) => am_f d scr L call 51 n 24 lv (.ref x :: st) h
    | _ => none) := k_la (i := .aload_n 0) rfl rfl rfl rfl
theorem s_51_24 (d L n : Nat) (scr : Nat → Int32) (call : Nat → List Value → am_H → Option am_X) (lv : am_L) (st : List Value) (h : am_H) : am_f d scr L call 51 (n + 1) 24 lv st h = am_f d scr L call 51 n 26 lv (.int 100 :: st) h := k_nx (i := .bipush 100) rfl rfl
theorem s_51_28 (d L n : Nat) (scr : Nat → Int32) (call : Nat → List Value → am_H → Option am_X) (lv : am_L) (st : List Value) (h : am_H) (x : Nat) (a : Nat) : am_f d scr L call 51 (n + 1) 28 lv (.ref x :: .ref a :: st) h = (match am_put h a 5 2 (.ref x) with
    | some h' => am_f d scr L call 51 n 31 lv st h'
    | none => none) := k_pf (k := 22) rfl rfl rfl
theorem s_51_31 (d L n : Nat) (scr : Nat → Int32) (call : Nat → List Value → am_H → Option am_X) (lv : am_L) (st : List Value) (h : am_H) : am_f d scr L call 51 (n + 1) 31 lv st h = (match am_ld lv 0 with
    | some (.ref x) => am_f d scr L call 51 n 32 lv (.ref x :: st) h
    | _ => none) := k_la (i := .aload_n 0) rfl rfl rfl rfl
theorem s_51_32 (d L n : Nat) (scr : Nat → Int32) (call : Nat → List Value → am_H → Option am_X) (lv : am_L) (st : List Value) (h : am_H) : am_f d scr L call 51 (n + 1) 32 lv st h = am_f d scr L call 51 n 34 lv (.int 100 :: st) h := k_nx (i := .bipush 100) rfl rfl
theorem s_51_36 (d L n : Nat) (scr : Nat → Int32) (call : Nat → List Value → am_H → Option am_X) (lv : am_L) (st : List Value) (h : am_H) (x : Nat) (a : Nat) : am_f d scr L call 51 (n + 1) 36 lv (.ref x :: .ref a :: st) h = (match am_put h a 5 3 (.ref x) with
    | some h' => am_f d scr L call 51 n 39 lv st h'
    | none => none) := k_pf (k := 25) rfl rfl rfl
theorem s_51_39 (d L n : Nat) (scr : Nat → Int32) (call : Nat → List Value → am_H → Option am_X) (lv : am_L) (st : List Value) (h : am_H) : am_f d scr L call 51 (n + 1) 39 lv st h = (match am_ld lv 0 with
    | some (.ref x) => am_f d scr L call 51 n 40 lv (.ref x :: st) h
    | _ => none) := k_la (i := .aload_n 0) rfl rfl rfl rfl
theorem s_51_40 (d L n : Nat) (scr : Nat → Int32) (call : Nat → List Value → am_H → Option am_X) (lv : am_L) (st : List Value) (h : am_H) : am_f d scr L call 51 (n + 1) 40 lv st h = am_f d scr L call 51 n 42 lv (.int 100 :: st) h := k_nx (i := .bipush 100) rfl rfl
theorem s_51_44 (d L n : Nat) (scr : Nat → Int32) (call : Nat → List Value → am_H → Option am_X) (lv : am_L) (st : List Value) (h : am_H) (x : Nat) (a : Nat) : am_f d scr L call 51 (n + 1) 44 lv (.ref x :: .ref a :: st) h = (match am_put h a 5 4 (.ref x) with
    | some h' => am_f d scr L call 51 n 47 lv st h'
    | none => none) := k_pf (k := 28) rfl rfl rfl
theorem s_51_47 (d L n : Nat) (scr : Nat → Int32) (call : Nat → List Value → am_H → Option am_X) (lv : am_L) (st : List Value) (h : am_H) : am_f d scr L call 51 (n + 1) 47 lv st h = (match am_ld lv 0 with
    | some (.ref x) => am_f d scr L call 51 n 48 lv (.ref x :: st) h
    | _ => none) := k_la (i := .aload_n 0) rfl rfl rfl rfl
theorem s_51_48 (d L n : Nat) (scr : Nat → Int32) (call : Nat → List Value → am_H → Option am_X) (lv : am_L) (st : List Value) (h : am_H) : am_f d scr L call 51 (n + 1) 48 lv st h = am_f d scr L call 51 n 50 lv (.int 100 :: st) h := k_nx (i := .bipush 100) rfl rfl
theorem s_51_52 (d L n : Nat) (scr : Nat → Int32) (call : Nat → List Value → am_H → Option am_X) (lv : am_L) (st : List Value) (h : am_H) (x : Nat) (a : Nat) : am_f d scr L call 51 (n + 1) 52 lv (.ref x :: .ref a :: st) h = (match am_put h a 5 5 (.ref x) with
    | some h' => am_f d scr L call 51 n 55 lv st h'
    | none => none) := k_pf (k := 31) rfl rfl rfl
theorem s_51_55 (d L n : Nat) (scr : Nat → Int32) (call : Nat → List Value → am_H → Option am_X) (lv : am_L) (st : List Value) (h : am_H) : am_f d scr L call 51 (n + 1) 55 lv st h = (match am_ld lv 0 with
    | some (.ref x) => am_f d scr L call 51 n 56 lv (.ref x :: st) h
    | _ => none) := k_la (i := .aload_n 0) rfl rfl rfl rfl
theorem s_51_56 (d L n : Nat) (scr : Nat → Int32) (call : Nat → List Value → am_H → Option am_X) (lv : am_L) (st : List Value) (h : am_H) : am_f d scr L call 51 (n + 1) 56 lv st h = am_f d scr L call 51 n 58 lv (.int 100 :: st) h := k_nx (i := .bipush 100) rfl rfl
theorem s_51_60 (d L n : Nat) (scr : Nat → Int32) (call : Nat → List Value → am_H → Option am_X) (lv : am_L) (st : List Value) (h : am_H) (x : Nat) (a : Nat) : am_f d scr L call 51 (n + 1) 60 lv (.ref x :: .ref a :: st) h = (match am_put h a 5 6 (.ref x) with
    | some h' => am_f d scr L call 51 n 63 lv st h'
    | none => none) := k_pf (k := 34) rfl rfl rfl
theorem s_51_63 (d L n : Nat) (scr : Nat → Int32) (call : Nat → List Value → am_H → Option am_X) (lv : am_L) (st : List Value) (h : am_H) : am_f d scr L call 51 (n + 1) 63 lv st h = (match am_ld lv 0 with
    | some (.ref x) => am_f d scr L call 51 n 64 lv (.ref x :: st) h
    | _ => none) := k_la (i := .aload_n 0) rfl rfl rfl rfl
theorem s_51_64 (d L n : Nat) (scr : Nat → Int32) (call : Nat → List Value → am_H → Option am_X) (lv : am_L) (st : List Value) (h : am_H) : am_f d scr L call 51 (n + 1) 64 lv st h = am_f d scr L call 51 n 66 lv (.int 100 :: st) h := k_nx (i := .bipush 100) rfl rfl
theorem s_51_68 (d L n : Nat) (scr : Nat → Int32) (call : Nat → List Value → am_H → Option am_X) (lv : am_L) (st : List Value) (h : am_H) (x : Nat) (a : Nat) : am_f d scr L call 51 (n + 1) 68 lv (.ref x :: .ref a :: st) h = (match am_put h a 5 7 (.ref x) with
    | some h' => am_f d scr L call 51 n 71 lv st h'
    | none => none) := k_pf (k := 37) rfl rfl rfl
theorem s_51_71 (d L n : Nat) (scr : Nat → Int32) (call : Nat → List Value → am_H → Option am_X) (lv : am_L) (st : List Value) (h : am_H) : am_f d scr L call 51 (n + 1) 71 lv st h = (match am_ld lv 0 with
    | some (.ref x) => am_f d scr L call 51 n 72 lv (.ref x :: st) h
    | _ => none) := k_la (i := .aload_n 0) rfl rfl rfl rfl
theorem s_51_72 (d L n : Nat) (scr : Nat → Int32) (call : Nat → List Value → am_H → Option am_X) (lv : am_L) (st : List Value) (h : am_H) : am_f d scr L call 51 (n + 1) 72 lv st h = am_f d scr L call 51 n 74 lv (.int 100 :: st) h := k_nx (i := .bipush 100) rfl rfl
theorem s_51_76 (d L n : Nat) (scr : Nat → Int32) (call : Nat → List Value → am_H → Option am_X) (lv : am_L) (st : List Value) (h : am_H) (x : Nat) (a : Nat) : am_f d scr L call 51 (n + 1) 76 lv (.ref x :: .ref a :: st) h = (match am_put h a 5 8 (.ref x) with
    | some h' => am_f d scr L call 51 n 79 lv st h'
    | none => none) := k_pf (k := 40) rfl rfl rfl
theorem s_51_79 (d L n : Nat) (scr : Nat → Int32) (call : Nat → List Value → am_H → Option am_X) (lv : am_L) (st : List Value) (h : am_H) : am_f d scr L call 51 (n + 1) 79 lv st h = (match am_ld lv 0 with
    | some (.ref x) => am_f d scr L call 51 n 80 lv (.ref x :: st) h
    | _ => none) := k_la (i := .aload_n 0) rfl rfl rfl rfl
theorem s_51_80 (d L n : Nat) (scr : Nat → Int32) (call : Nat → List Value → am_H → Option am_X) (lv : am_L) (st : List Value) (h : am_H) : am_f d scr L call 51 (n + 1) 80 lv st h = am_f d scr L call 51 n 82 lv (.int 100 :: st) h := k_nx (i := .bipush 100) rfl rfl
theorem s_51_84 (d L n : Nat) (scr : Nat → Int32) (call : Nat → List Value → am_H → Option am_X) (lv : am_L) (st : List Value) (h : am_H) (x : Nat) (a : Nat) : am_f d scr L call 51 (n + 1) 84 lv (.ref x :: .ref a :: st) h = (match am_put h a 5 9 (.ref x) with
    | some h' => am_f d scr L call 51 n 87 lv st h'
    | none => none) := k_pf (k := 43) rfl rfl rfl
theorem s_51_87 (d L n : Nat) (scr : Nat → Int32) (call : Nat → List Value → am_H → Option am_X) (lv : am_L) (st : List Value) (h : am_H) : am_f d scr L call 51 (n + 1) 87 lv st h = (match am_ld lv 0 with
    | some (.ref x) => am_f d scr L call 51 n 88 lv (.ref x :: st) h
    | _ => none) := k_la (i := .aload_n 0) rfl rfl rfl rfl
theorem s_51_88 (d L n : Nat) (scr : Nat → Int32) (call : Nat → List Value → am_H → Option am_X) (lv : am_L) (st : List Value) (h : am_H) : am_f d scr L call 51 (n + 1) 88 lv st h = am_f d scr L call 51 n 90 lv (.int 100 :: st) h := k_nx (i := .bipush 100) rfl rfl
theorem s_51_92 (d L n : Nat) (scr : Nat → Int32) (call : Nat → List Value → am_H → Option am_X) (lv : am_L) (st : List Value) (h : am_H) (x : Nat) (a : Nat) : am_f d scr L call 51 (n + 1) 92 lv (.ref x :: .ref a :: st) h = (match am_put h a 5 10 (.ref x) with
    | some h' => am_f d scr L call 51 n 95 lv st h'
    | none => none) := k_pf (k := 46) rfl rfl rfl
theorem s_51_95 (d L n : Nat) (scr : Nat → Int32) (call : Nat → List Value → am_H → Option am_X) (lv : am_L) (st : List Value) (h : am_H) : am_f d scr L call 51 (n + 1) 95 lv st h = (match am_ld lv 0 with
    | some (.ref x) => am_f d scr L call 51 n 96 lv (.ref x :: st) h
    | _ => none) := k_la (i := .aload_n 0) rfl rfl rfl rfl
theorem s_51_96 (d L n : Nat) (scr : Nat → Int32) (call : Nat → List Value → am_H → Option am_X) (lv : am_L) (st : List Value) (h : am_H) : am_f d scr L call 51 (n + 1) 96 lv st h = am_f d scr L call 51 n 98 lv (.int 100 :: st) h := k_nx (i := .bipush 100) rfl rfl
theorem s_51_100 (d L n : Nat) (scr : Nat → Int32) (call : Nat → List Value → am_H → Option am_X) (lv : am_L) (st : List Value) (h : am_H) (x : Nat) (a : Nat) : am_f d scr L call 51 (n + 1) 100 lv (.ref x :: .ref a :: st) h = (match am_put h a 5 11 (.ref x) with
    | some h' => am_f d scr L call 51 n 103 lv st h'
    | none => none) := k_pf (k := 49) rfl rfl rfl
theorem s_51_103 (d L n : Nat) (scr : Nat → Int32) (call : Nat → List Value → am_H → Option am_X) (lv : am_L) (st : List Value) (h : am_H) : am_f d scr L call 51 (n + 1) 103 lv st h = (match am_ld lv 0 with
    | some (.ref x) => am_f d scr L call 51 n 104 lv (.ref x :: st) h
    | _ => none) := k_la (i := .aload_n 0) rfl rfl rfl rfl
theorem s_51_104 (d L n : Nat) (scr : Nat → Int32) (call : Nat → List Value → am_H → Option am_X) (lv : am_L) (st : List Value) (h : am_H) : am_f d scr L call 51 (n + 1) 104 lv st h = am_f d scr L call 51 n 105 lv (.int 0 :: st) h := k_nx (i := .iconst 0) rfl rfl
theorem s_51_105 (d L n : Nat) (scr : Nat → Int32) (call : Nat → List Value → am_H → Option am_X) (lv : am_L) (st : List Value) (h : am_H) (x : Int32) (a : Nat) : am_f d scr L call 51 (n + 1) 105 lv (.int x :: .ref a :: st) h = (match am_put h a 5 12 (.int x) with
    | some h' => am_f d scr L call 51 n 108 lv st h'
    | none => none) := k_pf (k := 52) rfl rfl rfl
theorem s_51_108 (d L n : Nat) (scr : Nat → Int32) (call : Nat → List Value → am_H → Option am_X) (lv : am_L) (h : am_H) : am_f d scr L call 51 (n + 1) 108 lv [] h = some (none, h, 0, 0) := k_vr rfl rfl
-- 52: BlameDesk$Program.clear()V
theorem s_52_0 (d L n : Nat) (scr : Nat → Int32) (call : Nat → List Value → am_H → Option am_X) (lv : am_L) (st : List Value) (h : am_H) : am_f d scr L call 52 (n + 1) 0 lv st h = (match am_ld lv 0 with
    | some (.ref x) => am_f d scr L call 52 n 1 lv (.ref x :: st) h
    | _ => none) := k_la (i := .aload_n 0) rfl rfl rfl rfl
theorem s_52_1 (d L n : Nat) (scr : Nat → Int32) (call : Nat → List Value → am_H → Option am_X) (lv : am_L) (st : List Value) (h : am_H) (a : Nat) : am_f d scr L call 52 (n + 1) 1 lv (.ref a :: st) h = (match am_get h a 5 0 with
    | some v => am_f d scr L call 52 n 4 lv (v :: st) h
    | none => none) := k_gf (k := 12) rfl rfl
theorem s_52_4 (d L n : Nat) (scr : Nat → Int32) (call : Nat → List Value → am_H → Option am_X) (lv : am_L) (h : am_H) (o : Nat)   : am_f d scr L call 52 (n + 1) 4 lv (.ref o :: []) h = if am_at h o 7 = true then (match call 76 [.ref o] h with
    | some (v, h', dk, dn) => am_add dk dn (am_f d scr L call 52 n 7 lv (v.toList ++ []) h')
    | none => none) else none := k_iv0 (k := 56) (as := []) (r := []) rfl rfl rfl rfl (Nat.le_of_ble_eq_true rfl)
theorem s_52_7 (d L n : Nat) (scr : Nat → Int32) (call : Nat → List Value → am_H → Option am_X) (lv : am_L) (st : List Value) (h : am_H) : am_f d scr L call 52 (n + 1) 7 lv st h = (match am_ld lv 0 with
    | some (.ref x) => am_f d scr L call 52 n 8 lv (.ref x :: st) h
    | _ => none) := k_la (i := .aload_n 0) rfl rfl rfl rfl
theorem s_52_8 (d L n : Nat) (scr : Nat → Int32) (call : Nat → List Value → am_H → Option am_X) (lv : am_L) (st : List Value) (h : am_H) : am_f d scr L call 52 (n + 1) 8 lv st h = am_f d scr L call 52 n 9 lv (.int 0 :: st) h := k_nx (i := .iconst 0) rfl rfl
theorem s_52_9 (d L n : Nat) (scr : Nat → Int32) (call : Nat → List Value → am_H → Option am_X) (lv : am_L) (st : List Value) (h : am_H) (x : Int32) (a : Nat) : am_f d scr L call 52 (n + 1) 9 lv (.int x :: .ref a :: st) h = (match am_put h a 5 12 (.int x) with
    | some h' => am_f d scr L call 52 n 12 lv st h'
    | none => none) := k_pf (k := 52) rfl rfl rfl
theorem s_52_12 (d L n : Nat) (scr : Nat → Int32) (call : Nat → List Value → am_H → Option am_X) (lv : am_L) (h : am_H) : am_f d scr L call 52 (n + 1) 12 lv [] h = some (none, h, 0, 0) := k_vr rfl rfl
-- 53: BlameDesk$Program.begin(II)V
theorem s_53_0 (d L n : Nat) (scr : Nat → Int32) (call : Nat → List Value → am_H → Option am_X) (lv : am_L) (st : List Value) (h : am_H) : am_f d scr L call 53 (n + 1) 0 lv st h = (match am_ld lv 0 with
    | some (.ref x) => am_f d scr L call 53 n 1 lv (.ref x :: st) h
    | _ => none) := k_la (i := .aload_n 0) rfl rfl rfl rfl
theorem s_53_1 (d L n : Nat) (scr : Nat → Int32) (call : Nat → List Value → am_H → Option am_X) (lv : am_L) (st : List Value) (h : am_H) (a : Nat) : am_f d scr L call 53 (n + 1) 1 lv (.ref a :: st) h = (match am_get h a 5 2 with
    | some v => am_f d scr L call 53 n 4 lv (v :: st) h
    | none => none) := k_gf (k := 22) rfl rfl
theorem s_53_4 (d L n : Nat) (scr : Nat → Int32) (call : Nat → List Value → am_H → Option am_X) (lv : am_L) (st : List Value) (h : am_H) : am_f d scr L call 53 (n + 1) 4 lv st h = (match am_ld lv 1 with
    | some (.int x) => am_f d scr L call 53 n 5 lv (.int x :: st) h
    | _ => none) := k_li (i := .iload_n 1) rfl rfl rfl rfl
theorem s_53_5 (d L n : Nat) (scr : Nat → Int32) (call : Nat → List Value → am_H → Option am_X) (lv : am_L) (st : List Value) (h : am_H) : am_f d scr L call 53 (n + 1) 5 lv st h = (match am_ld lv 2 with
    | some (.int x) => am_f d scr L call 53 n 6 lv (.int x :: st) h
    | _ => none) := k_li (i := .iload_n 2) rfl rfl rfl rfl
theorem s_53_6 (d L n : Nat) (scr : Nat → Int32) (call : Nat → List Value → am_H → Option am_X) (lv : am_L) (st : List Value) (h : am_H) (a : Nat) (i : Int32) (x : Int32) : am_f d scr L call 53 (n + 1) 6 lv (.int x :: .int i :: .ref a :: st) h = (match am_ist h a i x with
    | some h' => am_f d scr L call 53 n 7 lv st h'
    | none => none) := k_is rfl
theorem s_53_7 (d L n : Nat) (scr : Nat → Int32) (call : Nat → List Value → am_H → Option am_X) (lv : am_L) (st : List Value) (h : am_H) : am_f d scr L call 53 (n + 1) 7 lv st h = (match am_ld lv 0 with
    | some (.ref x) => am_f d scr L call 53 n 8 lv (.ref x :: st) h
    | _ => none) := k_la (i := .aload_n 0) rfl rfl rfl rfl
theorem s_53_8 (d L n : Nat) (scr : Nat → Int32) (call : Nat → List Value → am_H → Option am_X) (lv : am_L) (st : List Value) (h : am_H) (a : Nat) : am_f d scr L call 53 (n + 1) 8 lv (.ref a :: st) h = (match am_get h a 5 3 with
    | some v => am_f d scr L call 53 n 11 lv (v :: st) h
    | none => none) := k_gf (k := 25) rfl rfl
theorem s_53_11 (d L n : Nat) (scr : Nat → Int32) (call : Nat → List Value → am_H → Option am_X) (lv : am_L) (st : List Value) (h : am_H) : am_f d scr L call 53 (n + 1) 11 lv st h = (match am_ld lv 1 with
    | some (.int x) => am_f d scr L call 53 n 12 lv (.int x :: st) h
    | _ => none) := k_li (i := .iload_n 1) rfl rfl rfl rfl
theorem s_53_12 (d L n : Nat) (scr : Nat → Int32) (call : Nat → List Value → am_H → Option am_X) (lv : am_L) (st : List Value) (h : am_H) : am_f d scr L call 53 (n + 1) 12 lv st h = am_f d scr L call 53 n 13 lv (.int (-1) :: st) h := k_nx (i := .iconst (-1)) rfl rfl
theorem s_53_13 (d L n : Nat) (scr : Nat → Int32) (call : Nat → List Value → am_H → Option am_X) (lv : am_L) (st : List Value) (h : am_H) (a : Nat) (i : Int32) (x : Int32) : am_f d scr L call 53 (n + 1) 13 lv (.int x :: .int i :: .ref a :: st) h = (match am_ist h a i x with
    | some h' => am_f d scr L call 53 n 14 lv st h'
    | none => none) := k_is rfl
theorem s_53_14 (d L n : Nat) (scr : Nat → Int32) (call : Nat → List Value → am_H → Option am_X) (lv : am_L) (st : List Value) (h : am_H) : am_f d scr L call 53 (n + 1) 14 lv st h = (match am_ld lv 0 with
    | some (.ref x) => am_f d scr L call 53 n 15 lv (.ref x :: st) h
    | _ => none) := k_la (i := .aload_n 0) rfl rfl rfl rfl
theorem s_53_15 (d L n : Nat) (scr : Nat → Int32) (call : Nat → List Value → am_H → Option am_X) (lv : am_L) (st : List Value) (h : am_H) (a : Nat) : am_f d scr L call 53 (n + 1) 15 lv (.ref a :: st) h = (match am_get h a 5 4 with
    | some v => am_f d scr L call 53 n 18 lv (v :: st) h
    | none => none) := k_gf (k := 28) rfl rfl
theorem s_53_18 (d L n : Nat) (scr : Nat → Int32) (call : Nat → List Value → am_H → Option am_X) (lv : am_L) (st : List Value) (h : am_H) : am_f d scr L call 53 (n + 1) 18 lv st h = (match am_ld lv 1 with
    | some (.int x) => am_f d scr L call 53 n 19 lv (.int x :: st) h
    | _ => none) := k_li (i := .iload_n 1) rfl rfl rfl rfl
theorem s_53_19 (d L n : Nat) (scr : Nat → Int32) (call : Nat → List Value → am_H → Option am_X) (lv : am_L) (st : List Value) (h : am_H) : am_f d scr L call 53 (n + 1) 19 lv st h = am_f d scr L call 53 n 20 lv (.int (-1) :: st) h := k_nx (i := .iconst (-1)) rfl rfl
theorem s_53_20 (d L n : Nat) (scr : Nat → Int32) (call : Nat → List Value → am_H → Option am_X) (lv : am_L) (st : List Value) (h : am_H) (a : Nat) (i : Int32) (x : Int32) : am_f d scr L call 53 (n + 1) 20 lv (.int x :: .int i :: .ref a :: st) h = (match am_ist h a i x with
    | some h' => am_f d scr L call 53 n 21 lv st h'
    | none => none) := k_is rfl
theorem s_53_21 (d L n : Nat) (scr : Nat → Int32) (call : Nat → List Value → am_H → Option am_X) (lv : am_L) (st : List Value) (h : am_H) : am_f d scr L call 53 (n + 1) 21 lv st h = (match am_ld lv 0 with
    | some (.ref x) => am_f d scr L call 53 n 22 lv (.ref x :: st) h
    | _ => none) := k_la (i := .aload_n 0) rfl rfl rfl rfl
theorem s_53_22 (d L n : Nat) (scr : Nat → Int32) (call : Nat → List Value → am_H → Option am_X) (lv : am_L) (st : List Value) (h : am_H) (a : Nat) : am_f d scr L call 53 (n + 1) 22 lv (.ref a :: st) h = (match am_get h a 5 5 with
    | some v => am_f d scr L call 53 n 25 lv (v :: st) h
    | none => none) := k_gf (k := 31) rfl rfl
theorem s_53_25 (d L n : Nat) (scr : Nat → Int32) (call : Nat → List Value → am_H → Option am_X) (lv : am_L) (st : List Value) (h : am_H) : am_f d scr L call 53 (n + 1) 25 lv st h = (match am_ld lv 1 with
    | some (.int x) => am_f d scr L call 53 n 26 lv (.int x :: st) h
    | _ => none) := k_li (i := .iload_n 1) rfl rfl rfl rfl
theorem s_53_26 (d L n : Nat) (scr : Nat → Int32) (call : Nat → List Value → am_H → Option am_X) (lv : am_L) (st : List Value) (h : am_H) : am_f d scr L call 53 (n + 1) 26 lv st h = am_f d scr L call 53 n 27 lv (.int (-1) :: st) h := k_nx (i := .iconst (-1)) rfl rfl
theorem s_53_27 (d L n : Nat) (scr : Nat → Int32) (call : Nat → List Value → am_H → Option am_X) (lv : am_L) (st : List Value) (h : am_H) (a : Nat) (i : Int32) (x : Int32) : am_f d scr L call 53 (n + 1) 27 lv (.int x :: .int i :: .ref a :: st) h = (match am_ist h a i x with
    | some h' => am_f d scr L call 53 n 28 lv st h'
    | none => none) := k_is rfl
theorem s_53_28 (d L n : Nat) (scr : Nat → Int32) (call : Nat → List Value → am_H → Option am_X) (lv : am_L) (h : am_H) : am_f d scr L call 53 (n + 1) 28 lv [] h = some (none, h, 0, 0) := k_vr rfl rfl
-- 54: BlameDesk$Program.end(I)V
theorem s_54_0 (d L n : Nat) (scr : Nat → Int32) (call : Nat → List Value → am_H → Option am_X) (lv : am_L) (st : List Value) (h : am_H) : am_f d scr L call 54 (n + 1) 0 lv st h = (match am_ld lv 0 with
    | some (.ref x) => am_f d scr L call 54 n 1 lv (.ref x :: st) h
    | _ => none) := k_la (i := .aload_n 0) rfl rfl rfl rfl
theorem s_54_1 (d L n : Nat) (scr : Nat → Int32) (call : Nat → List Value → am_H → Option am_X) (lv : am_L) (st : List Value) (h : am_H) (a : Nat) : am_f d scr L call 54 (n + 1) 1 lv (.ref a :: st) h = (match am_get h a 5 12 with
    | some v => am_f d scr L call 54 n 4 lv (v :: st) h
    | none => none) := k_gf (k := 52) rfl rfl
theorem s_54_4 (d L n : Nat) (scr : Nat → Int32) (call : Nat → List Value → am_H → Option am_X) (lv : am_L) (st : List Value) (h : am_H) : am_f d scr L call 54 (n + 1) 4 lv st h = am_f d scr L call 54 n 6 lv (.int 100 :: st) h := k_nx (i := .bipush 100) rfl rfl
theorem s_54_6 (d L n : Nat) (scr : Nat → Int32) (call : Nat → List Value → am_H → Option am_X) (lv : am_L) (st : List Value) (h : am_H) (x y : Int32) : am_f d scr L call 54 (n + 1) 6 lv (.int y :: .int x :: st) h = if y ≤ x then am_f d scr L call 54 n 29 lv st h else am_f d scr L call 54 n 9 lv st h := k_ic_ge (o := 23) rfl ⟨by decide, rfl⟩
theorem s_54_9 (d L n : Nat) (scr : Nat → Int32) (call : Nat → List Value → am_H → Option am_X) (lv : am_L) (st : List Value) (h : am_H) : am_f d scr L call 54 (n + 1) 9 lv st h = (match am_ld lv 0 with
    | some (.ref x) => am_f d scr L call 54 n 10 lv (.ref x :: st) h
    | _ => none) := k_la (i := .aload_n 0) rfl rfl rfl rfl
theorem s_54_10 (d L n : Nat) (scr : Nat → Int32) (call : Nat → List Value → am_H → Option am_X) (lv : am_L) (st : List Value) (h : am_H) (a : Nat) : am_f d scr L call 54 (n + 1) 10 lv (.ref a :: st) h = (match am_get h a 5 11 with
    | some v => am_f d scr L call 54 n 13 lv (v :: st) h
    | none => none) := k_gf (k := 49) rfl rfl
theorem s_54_13 (d L n : Nat) (scr : Nat → Int32) (call : Nat → List Value → am_H → Option am_X) (lv : am_L) (st : List Value) (h : am_H) : am_f d scr L call 54 (n + 1) 13 lv st h = (match am_ld lv 0 with
    | some (.ref x) => am_f d scr L call 54 n 14 lv (.ref x :: st) h
    | _ => none) := k_la (i := .aload_n 0) rfl rfl rfl rfl
theorem s_54_14 (d L n : Nat) (scr : Nat → Int32) (call : Nat → List Value → am_H → Option am_X) (lv : am_L) (st : List Value) (h : am_H) (a : Nat) : am_f d scr L call 54 (n + 1) 14 lv (.ref a :: st) h = (match am_get h a 5 12 with
    | some v => am_f d scr L call 54 n 17 lv (v :: st) h
    | none => none) := k_gf (k := 52) rfl rfl
theorem s_54_17 (d L n : Nat) (scr : Nat → Int32) (call : Nat → List Value → am_H → Option am_X) (lv : am_L) (st : List Value) (h : am_H) : am_f d scr L call 54 (n + 1) 17 lv st h = (match am_ld lv 1 with
    | some (.int x) => am_f d scr L call 54 n 18 lv (.int x :: st) h
    | _ => none) := k_li (i := .iload_n 1) rfl rfl rfl rfl
theorem s_54_18 (d L n : Nat) (scr : Nat → Int32) (call : Nat → List Value → am_H → Option am_X) (lv : am_L) (st : List Value) (h : am_H) (a : Nat) (i : Int32) (x : Int32) : am_f d scr L call 54 (n + 1) 18 lv (.int x :: .int i :: .ref a :: st) h = (match am_ist h a i x with
    | some h' => am_f d scr L call 54 n 19 lv st h'
    | none => none) := k_is rfl
theorem s_54_19 (d L n : Nat) (scr : Nat → Int32) (call : Nat → List Value → am_H → Option am_X) (lv : am_L) (st : List Value) (h : am_H) : am_f d scr L call 54 (n + 1) 19 lv st h = (match am_ld lv 0 with
    | some (.ref x) => am_f d scr L call 54 n 20 lv (.ref x :: st) h
    | _ => none) := k_la (i := .aload_n 0) rfl rfl rfl rfl
theorem s_54_20 (d L n : Nat) (scr : Nat → Int32) (call : Nat → List Value → am_H → Option am_X) (lv : am_L) (st : List Value) (h : am_H) (x : Nat) : am_f d scr L call 54 (n + 1) 20 lv (.ref x :: st) h = am_f d scr L call 54 n 21 lv (.ref x :: .ref x :: st) h := k_nx (i := .dup) rfl rfl
theorem s_54_21 (d L n : Nat) (scr : Nat → Int32) (call : Nat → List Value → am_H → Option am_X) (lv : am_L) (st : List Value) (h : am_H) (a : Nat) : am_f d scr L call 54 (n + 1) 21 lv (.ref a :: st) h = (match am_get h a 5 12 with
    | some v => am_f d scr L call 54 n 24 lv (v :: st) h
    | none => none) := k_gf (k := 52) rfl rfl
theorem s_54_24 (d L n : Nat) (scr : Nat → Int32) (call : Nat → List Value → am_H → Option am_X) (lv : am_L) (st : List Value) (h : am_H) : am_f d scr L call 54 (n + 1) 24 lv st h = am_f d scr L call 54 n 25 lv (.int 1 :: st) h := k_nx (i := .iconst 1) rfl rfl
theorem s_54_25 (d L n : Nat) (scr : Nat → Int32) (call : Nat → List Value → am_H → Option am_X) (lv : am_L) (st : List Value) (h : am_H) (x y : Int32) : am_f d scr L call 54 (n + 1) 25 lv (.int y :: .int x :: st) h = am_f d scr L call 54 n 26 lv (.int (x + y) :: st) h := k_nx (i := .iadd) rfl rfl
theorem s_54_26 (d L n : Nat) (scr : Nat → Int32) (call : Nat → List Value → am_H → Option am_X) (lv : am_L) (st : List Value) (h : am_H) (x : Int32) (a : Nat) : am_f d scr L call 54 (n + 1) 26 lv (.int x :: .ref a :: st) h = (match am_put h a 5 12 (.int x) with
    | some h' => am_f d scr L call 54 n 29 lv st h'
    | none => none) := k_pf (k := 52) rfl rfl rfl
theorem s_54_29 (d L n : Nat) (scr : Nat → Int32) (call : Nat → List Value → am_H → Option am_X) (lv : am_L) (h : am_H) : am_f d scr L call 54 (n + 1) 29 lv [] h = some (none, h, 0, 0) := k_vr rfl rfl
-- 75: BlameDesk$Types.<init>()V
theorem s_75_0 (d L n : Nat) (scr : Nat → Int32) (call : Nat → List Value → am_H → Option am_X) (lv : am_L) (st : List Value) (h : am_H) : am_f d scr L call 75 (n + 1) 0 lv st h = (match am_ld lv 0 with
    | some (.ref x) => am_f d scr L call 75 n 1 lv (.ref x :: st) h
    | _ => none) := k_la (i := .aload_n 0) rfl rfl rfl rfl
theorem s_75_1 (d L n a : Nat) (scr : Nat → Int32) (call : Nat → List Value → am_H → Option am_X) (lv : am_L) (h : am_H)  : am_f (d + 1) scr L call 75 (n + 1) 1 lv (.ref a :: []) h = am_f (d + 1) scr L call 75 n 4 lv [] h := k_ob (k := 5) rfl rfl (Nat.le_of_ble_eq_true rfl)
theorem s_75_4 (d L n : Nat) (scr : Nat → Int32) (call : Nat → List Value → am_H → Option am_X) (lv : am_L) (st : List Value) (h : am_H) : am_f d scr L call 75 (n + 1) 4 lv st h = (match am_ld lv 0 with
    | some (.ref x) => am_f d scr L call 75 n 5 lv (.ref x :: st) h
    | _ => none) := k_la (i := .aload_n 0) rfl rfl rfl rfl
theorem s_75_5 (d L n : Nat) (scr : Nat → Int32) (call : Nat → List Value → am_H → Option am_X) (lv : am_L) (st : List Value) (h : am_H) : am_f d scr L call 75 (n + 1) 5 lv st h = am_f d scr L call 75 n 7 lv (.int 105 :: st) h := k_nx (i := .bipush 105) rfl rfl
theorem s_75_9 (d L n : Nat) (scr : Nat → Int32) (call : Nat → List Value → am_H → Option am_X) (lv : am_L) (st : List Value) (h : am_H) (x : Nat) (a : Nat) : am_f d scr L call 75 (n + 1) 9 lv (.ref x :: .ref a :: st) h = (match am_put h a 7 0 (.ref x) with
    | some h' => am_f d scr L call 75 n 12 lv st h'
    | none => none) := k_pf (k := 11) rfl rfl rfl
theorem s_75_12 (d L n : Nat) (scr : Nat → Int32) (call : Nat → List Value → am_H → Option am_X) (lv : am_L) (st : List Value) (h : am_H) : am_f d scr L call 75 (n + 1) 12 lv st h = (match am_ld lv 0 with
    | some (.ref x) => am_f d scr L call 75 n 13 lv (.ref x :: st) h
    | _ => none) := k_la (i := .aload_n 0) rfl rfl rfl rfl
theorem s_75_13 (d L n : Nat) (scr : Nat → Int32) (call : Nat → List Value → am_H → Option am_X) (lv : am_L) (st : List Value) (h : am_H) : am_f d scr L call 75 (n + 1) 13 lv st h = am_f d scr L call 75 n 15 lv (.int 105 :: st) h := k_nx (i := .bipush 105) rfl rfl
theorem s_75_17 (d L n : Nat) (scr : Nat → Int32) (call : Nat → List Value → am_H → Option am_X) (lv : am_L) (st : List Value) (h : am_H) (x : Nat) (a : Nat) : am_f d scr L call 75 (n + 1) 17 lv (.ref x :: .ref a :: st) h = (match am_put h a 7 1 (.ref x) with
    | some h' => am_f d scr L call 75 n 20 lv st h'
    | none => none) := k_pf (k := 15) rfl rfl rfl
theorem s_75_20 (d L n : Nat) (scr : Nat → Int32) (call : Nat → List Value → am_H → Option am_X) (lv : am_L) (st : List Value) (h : am_H) : am_f d scr L call 75 (n + 1) 20 lv st h = (match am_ld lv 0 with
    | some (.ref x) => am_f d scr L call 75 n 21 lv (.ref x :: st) h
    | _ => none) := k_la (i := .aload_n 0) rfl rfl rfl rfl
theorem s_75_21 (d L n : Nat) (scr : Nat → Int32) (call : Nat → List Value → am_H → Option am_X) (lv : am_L) (st : List Value) (h : am_H) : am_f d scr L call 75 (n + 1) 21 lv st h = am_f d scr L call 75 n 23 lv (.int 105 :: st) h := k_nx (i := .bipush 105) rfl rfl
theorem s_75_25 (d L n : Nat) (scr : Nat → Int32) (call : Nat → List Value → am_H → Option am_X) (lv : am_L) (st : List Value) (h : am_H) (x : Nat) (a : Nat) : am_f d scr L call 75 (n + 1) 25 lv (.ref x :: .ref a :: st) h = (match am_put h a 7 2 (.ref x) with
    | some h' => am_f d scr L call 75 n 28 lv st h'
    | none => none) := k_pf (k := 18) rfl rfl rfl
theorem s_75_28 (d L n : Nat) (scr : Nat → Int32) (call : Nat → List Value → am_H → Option am_X) (lv : am_L) (st : List Value) (h : am_H) : am_f d scr L call 75 (n + 1) 28 lv st h = (match am_ld lv 0 with
    | some (.ref x) => am_f d scr L call 75 n 29 lv (.ref x :: st) h
    | _ => none) := k_la (i := .aload_n 0) rfl rfl rfl rfl
theorem s_75_29 (d L n : Nat) (scr : Nat → Int32) (call : Nat → List Value → am_H → Option am_X) (lv : am_L) (st : List Value) (h : am_H) : am_f d scr L call 75 (n + 1) 29 lv st h = am_f d scr L call 75 n 31 lv (.int 105 :: st) h := k_nx (i := .bipush 105) rfl rfl
theorem s_75_33 (d L n : Nat) (scr : Nat → Int32) (call : Nat → List Value → am_H → Option am_X) (lv : am_L) (st : List Value) (h : am_H) (x : Nat) (a : Nat) : am_f d scr L call 75 (n + 1) 33 lv (.ref x :: .ref a :: st) h = (match am_put h a 7 3 (.ref x) with
    | some h' => am_f d scr L call 75 n 36 lv st h'
    | none => none) := k_pf (k := 21) rfl rfl rfl
theorem s_75_36 (d L n : Nat) (scr : Nat → Int32) (call : Nat → List Value → am_H → Option am_X) (lv : am_L) (st : List Value) (h : am_H) : am_f d scr L call 75 (n + 1) 36 lv st h = am_f d scr L call 75 n 37 lv (.int 0 :: st) h := k_nx (i := .iconst 0) rfl rfl
theorem s_75_37 (d L n : Nat) (scr : Nat → Int32) (call : Nat → List Value → am_H → Option am_X) (lv : am_L) (st : List Value) (h : am_H) (x : Int32) : am_f d scr L call 75 (n + 1) 37 lv (.int x :: st) h = am_f d scr L call 75 n 38 (am_st1 lv 1 (.int x)) st h := k_nx (i := .istore_n 1) rfl rfl
theorem s_75_38 (d L n : Nat) (scr : Nat → Int32) (call : Nat → List Value → am_H → Option am_X) (lv : am_L) (st : List Value) (h : am_H) : am_f d scr L call 75 (n + 1) 38 lv st h = (match am_ld lv 1 with
    | some (.int x) => am_f d scr L call 75 n 39 lv (.int x :: st) h
    | _ => none) := k_li (i := .iload_n 1) rfl rfl rfl rfl
theorem s_75_39 (d L n : Nat) (scr : Nat → Int32) (call : Nat → List Value → am_H → Option am_X) (lv : am_L) (st : List Value) (h : am_H) : am_f d scr L call 75 (n + 1) 39 lv st h = am_f d scr L call 75 n 40 lv (.int 5 :: st) h := k_nx (i := .iconst 5) rfl rfl
theorem s_75_40 (d L n : Nat) (scr : Nat → Int32) (call : Nat → List Value → am_H → Option am_X) (lv : am_L) (st : List Value) (h : am_H) (x y : Int32) : am_f d scr L call 75 (n + 1) 40 lv (.int y :: .int x :: st) h = if y ≤ x then am_f d scr L call 75 n 63 lv st h else am_f d scr L call 75 n 43 lv st h := k_ic_ge (o := 23) rfl ⟨by decide, rfl⟩
theorem s_75_43 (d L n : Nat) (scr : Nat → Int32) (call : Nat → List Value → am_H → Option am_X) (lv : am_L) (st : List Value) (h : am_H) : am_f d scr L call 75 (n + 1) 43 lv st h = (match am_ld lv 0 with
    | some (.ref x) => am_f d scr L call 75 n 44 lv (.ref x :: st) h
    | _ => none) := k_la (i := .aload_n 0) rfl rfl rfl rfl
theorem s_75_44 (d L n : Nat) (scr : Nat → Int32) (call : Nat → List Value → am_H → Option am_X) (lv : am_L) (st : List Value) (h : am_H) (a : Nat) : am_f d scr L call 75 (n + 1) 44 lv (.ref a :: st) h = (match am_get h a 7 0 with
    | some v => am_f d scr L call 75 n 47 lv (v :: st) h
    | none => none) := k_gf (k := 11) rfl rfl
theorem s_75_47 (d L n : Nat) (scr : Nat → Int32) (call : Nat → List Value → am_H → Option am_X) (lv : am_L) (st : List Value) (h : am_H) : am_f d scr L call 75 (n + 1) 47 lv st h = (match am_ld lv 1 with
    | some (.int x) => am_f d scr L call 75 n 48 lv (.int x :: st) h
    | _ => none) := k_li (i := .iload_n 1) rfl rfl rfl rfl
theorem s_75_48 (d L n : Nat) (scr : Nat → Int32) (call : Nat → List Value → am_H → Option am_X) (lv : am_L) (st : List Value) (h : am_H) : am_f d scr L call 75 (n + 1) 48 lv st h = (match am_ld lv 1 with
    | some (.int x) => am_f d scr L call 75 n 49 lv (.int x :: st) h
    | _ => none) := k_li (i := .iload_n 1) rfl rfl rfl rfl
theorem s_75_49 (d L n : Nat) (scr : Nat → Int32) (call : Nat → List Value → am_H → Option am_X) (lv : am_L) (st : List Value) (h : am_H) (a : Nat) (i : Int32) (x : Int32) : am_f d scr L call 75 (n + 1) 49 lv (.int x :: .int i :: .ref a :: st) h = (match am_ist h a i x with
    | some h' => am_f d scr L call 75 n 50 lv st h'
    | none => none) := k_is rfl
theorem s_75_50 (d L n : Nat) (scr : Nat → Int32) (call : Nat → List Value → am_H → Option am_X) (lv : am_L) (st : List Value) (h : am_H) : am_f d scr L call 75 (n + 1) 50 lv st h = (match am_ld lv 0 with
    | some (.ref x) => am_f d scr L call 75 n 51 lv (.ref x :: st) h
    | _ => none) := k_la (i := .aload_n 0) rfl rfl rfl rfl
theorem s_75_51 (d L n : Nat) (scr : Nat → Int32) (call : Nat → List Value → am_H → Option am_X) (lv : am_L) (st : List Value) (h : am_H) (a : Nat) : am_f d scr L call 75 (n + 1) 51 lv (.ref a :: st) h = (match am_get h a 7 3 with
    | some v => am_f d scr L call 75 n 54 lv (v :: st) h
    | none => none) := k_gf (k := 21) rfl rfl
theorem s_75_54 (d L n : Nat) (scr : Nat → Int32) (call : Nat → List Value → am_H → Option am_X) (lv : am_L) (st : List Value) (h : am_H) : am_f d scr L call 75 (n + 1) 54 lv st h = (match am_ld lv 1 with
    | some (.int x) => am_f d scr L call 75 n 55 lv (.int x :: st) h
    | _ => none) := k_li (i := .iload_n 1) rfl rfl rfl rfl
theorem s_75_55 (d L n : Nat) (scr : Nat → Int32) (call : Nat → List Value → am_H → Option am_X) (lv : am_L) (st : List Value) (h : am_H) : am_f d scr L call 75 (n + 1) 55 lv st h = am_f d scr L call 75 n 56 lv (.int 1 :: st) h := k_nx (i := .iconst 1) rfl rfl
theorem s_75_56 (d L n : Nat) (scr : Nat → Int32) (call : Nat → List Value → am_H → Option am_X) (lv : am_L) (st : List Value) (h : am_H) (a : Nat) (i : Int32) (x : Int32) : am_f d scr L call 75 (n + 1) 56 lv (.int x :: .int i :: .ref a :: st) h = (match am_ist h a i x with
    | some h' => am_f d scr L call 75 n 57 lv st h'
    | none => none) := k_is rfl
theorem s_75_57 (d L n : Nat) (scr : Nat → Int32) (call : Nat → List Value → am_H → Option am_X) (lv : am_L) (st : List Value) (h : am_H) : am_f d scr L call 75 (n + 1) 57 lv st h = (match am_ld lv 1 with
    | some (.int x) => am_f d scr L call 75 n 60 (am_st1 lv 1 (.int (x + 1))) st h
    | _ => none) := k_iinc (k := 1) (c := 1) rfl rfl (Nat.le_of_ble_eq_true rfl)
theorem s_75_60 (d L n : Nat) (scr : Nat → Int32) (call : Nat → List Value → am_H → Option am_X) (lv : am_L) (st : List Value) (h : am_H) : am_f d scr L call 75 (n + 1) 60 lv st h = am_f d scr L call 75 n 38 lv st h := k_nx (i := .goto (-22)) rfl rfl
theorem s_75_63 (d L n : Nat) (scr : Nat → Int32) (call : Nat → List Value → am_H → Option am_X) (lv : am_L) (st : List Value) (h : am_H) : am_f d scr L call 75 (n + 1) 63 lv st h = (match am_ld lv 0 with
    | some (.ref x) => am_f d scr L call 75 n 64 lv (.ref x :: st) h
    | _ => none) := k_la (i := .aload_n 0) rfl rfl rfl rfl
theorem s_75_64 (d L n : Nat) (scr : Nat → Int32) (call : Nat → List Value → am_H → Option am_X) (lv : am_L) (st : List Value) (h : am_H) (a : Nat) : am_f d scr L call 75 (n + 1) 64 lv (.ref a :: st) h = (match am_get h a 7 3 with
    | some v => am_f d scr L call 75 n 67 lv (v :: st) h
    | none => none) := k_gf (k := 21) rfl rfl
theorem s_75_67 (d L n : Nat) (scr : Nat → Int32) (call : Nat → List Value → am_H → Option am_X) (lv : am_L) (st : List Value) (h : am_H) : am_f d scr L call 75 (n + 1) 67 lv st h = am_f d scr L call 75 n 68 lv (.int 3 :: st) h := k_nx (i := .iconst 3) rfl rfl
theorem s_75_68 (d L n : Nat) (scr : Nat → Int32) (call : Nat → List Value → am_H → Option am_X) (lv : am_L) (st : List Value) (h : am_H) : am_f d scr L call 75 (n + 1) 68 lv st h = am_f d scr L call 75 n 69 lv (.int 5 :: st) h := k_nx (i := .iconst 5) rfl rfl
theorem s_75_69 (d L n : Nat) (scr : Nat → Int32) (call : Nat → List Value → am_H → Option am_X) (lv : am_L) (st : List Value) (h : am_H) (a : Nat) (i : Int32) (x : Int32) : am_f d scr L call 75 (n + 1) 69 lv (.int x :: .int i :: .ref a :: st) h = (match am_ist h a i x with
    | some h' => am_f d scr L call 75 n 70 lv st h'
    | none => none) := k_is rfl
theorem s_75_70 (d L n : Nat) (scr : Nat → Int32) (call : Nat → List Value → am_H → Option am_X) (lv : am_L) (st : List Value) (h : am_H) : am_f d scr L call 75 (n + 1) 70 lv st h = (match am_ld lv 0 with
    | some (.ref x) => am_f d scr L call 75 n 71 lv (.ref x :: st) h
    | _ => none) := k_la (i := .aload_n 0) rfl rfl rfl rfl
theorem s_75_71 (d L n : Nat) (scr : Nat → Int32) (call : Nat → List Value → am_H → Option am_X) (lv : am_L) (st : List Value) (h : am_H) (a : Nat) : am_f d scr L call 75 (n + 1) 71 lv (.ref a :: st) h = (match am_get h a 7 3 with
    | some v => am_f d scr L call 75 n 74 lv (v :: st) h
    | none => none) := k_gf (k := 21) rfl rfl
theorem s_75_74 (d L n : Nat) (scr : Nat → Int32) (call : Nat → List Value → am_H → Option am_X) (lv : am_L) (st : List Value) (h : am_H) : am_f d scr L call 75 (n + 1) 74 lv st h = am_f d scr L call 75 n 75 lv (.int 4 :: st) h := k_nx (i := .iconst 4) rfl rfl
theorem s_75_75 (d L n : Nat) (scr : Nat → Int32) (call : Nat → List Value → am_H → Option am_X) (lv : am_L) (st : List Value) (h : am_H) : am_f d scr L call 75 (n + 1) 75 lv st h = am_f d scr L call 75 n 76 lv (.int 2 :: st) h := k_nx (i := .iconst 2) rfl rfl
theorem s_75_76 (d L n : Nat) (scr : Nat → Int32) (call : Nat → List Value → am_H → Option am_X) (lv : am_L) (st : List Value) (h : am_H) (a : Nat) (i : Int32) (x : Int32) : am_f d scr L call 75 (n + 1) 76 lv (.int x :: .int i :: .ref a :: st) h = (match am_ist h a i x with
    | some h' => am_f d scr L call 75 n 77 lv st h'
    | none => none) := k_is rfl
theorem s_75_77 (d L n : Nat) (scr : Nat → Int32) (call : Nat → List Value → am_H → Option am_X) (lv : am_L) (st : List Value) (h : am_H) : am_f d scr L call 75 (n + 1) 77 lv st h = (match am_ld lv 0 with
    | some (.ref x) => am_f d scr L call 75 n 78 lv (.ref x :: st) h
    | _ => none) := k_la (i := .aload_n 0) rfl rfl rfl rfl
theorem s_75_78 (d L n : Nat) (scr : Nat → Int32) (call : Nat → List Value → am_H → Option am_X) (lv : am_L) (st : List Value) (h : am_H) : am_f d scr L call 75 (n + 1) 78 lv st h = am_f d scr L call 75 n 79 lv (.int 5 :: st) h := k_nx (i := .iconst 5) rfl rfl
theorem s_75_79 (d L n : Nat) (scr : Nat → Int32) (call : Nat → List Value → am_H → Option am_X) (lv : am_L) (st : List Value) (h : am_H) (x : Int32) (a : Nat) : am_f d scr L call 75 (n + 1) 79 lv (.int x :: .ref a :: st) h = (match am_put h a 7 4 (.int x) with
    | some h' => am_f d scr L call 75 n 82 lv st h'
    | none => none) := k_pf (k := 24) rfl rfl rfl
theorem s_75_82 (d L n : Nat) (scr : Nat → Int32) (call : Nat → List Value → am_H → Option am_X) (lv : am_L) (h : am_H) : am_f d scr L call 75 (n + 1) 82 lv [] h = some (none, h, 0, 0) := k_vr rfl rfl
-- 76: BlameDesk$Types.clear()V
theorem s_76_0 (d L n : Nat) (scr : Nat → Int32) (call : Nat → List Value → am_H → Option am_X) (lv : am_L) (st : List Value) (h : am_H) : am_f d scr L call 76 (n + 1) 0 lv st h = (match am_ld lv 0 with
    | some (.ref x) => am_f d scr L call 76 n 1 lv (.ref x :: st) h
    | _ => none) := k_la (i := .aload_n 0) rfl rfl rfl rfl
theorem s_76_1 (d L n : Nat) (scr : Nat → Int32) (call : Nat → List Value → am_H → Option am_X) (lv : am_L) (st : List Value) (h : am_H) : am_f d scr L call 76 (n + 1) 1 lv st h = am_f d scr L call 76 n 2 lv (.int 5 :: st) h := k_nx (i := .iconst 5) rfl rfl
theorem s_76_2 (d L n : Nat) (scr : Nat → Int32) (call : Nat → List Value → am_H → Option am_X) (lv : am_L) (st : List Value) (h : am_H) (x : Int32) (a : Nat) : am_f d scr L call 76 (n + 1) 2 lv (.int x :: .ref a :: st) h = (match am_put h a 7 4 (.int x) with
    | some h' => am_f d scr L call 76 n 5 lv st h'
    | none => none) := k_pf (k := 24) rfl rfl rfl
theorem s_76_5 (d L n : Nat) (scr : Nat → Int32) (call : Nat → List Value → am_H → Option am_X) (lv : am_L) (h : am_H) : am_f d scr L call 76 (n + 1) 5 lv [] h = some (none, h, 0, 0) := k_vr rfl rfl
-- 77: BlameDesk$Types.function(II)I
theorem s_77_0 (d L n : Nat) (scr : Nat → Int32) (call : Nat → List Value → am_H → Option am_X) (lv : am_L) (st : List Value) (h : am_H) : am_f d scr L call 77 (n + 1) 0 lv st h = (match am_ld lv 0 with
    | some (.ref x) => am_f d scr L call 77 n 1 lv (.ref x :: st) h
    | _ => none) := k_la (i := .aload_n 0) rfl rfl rfl rfl
theorem s_77_1 (d L n : Nat) (scr : Nat → Int32) (call : Nat → List Value → am_H → Option am_X) (lv : am_L) (st : List Value) (h : am_H) : am_f d scr L call 77 (n + 1) 1 lv st h = am_f d scr L call 77 n 2 lv (.int 3 :: st) h := k_nx (i := .iconst 3) rfl rfl
theorem s_77_2 (d L n : Nat) (scr : Nat → Int32) (call : Nat → List Value → am_H → Option am_X) (lv : am_L) (st : List Value) (h : am_H) : am_f d scr L call 77 (n + 1) 2 lv st h = (match am_ld lv 1 with
    | some (.int x) => am_f d scr L call 77 n 3 lv (.int x :: st) h
    | _ => none) := k_li (i := .iload_n 1) rfl rfl rfl rfl
theorem s_77_3 (d L n : Nat) (scr : Nat → Int32) (call : Nat → List Value → am_H → Option am_X) (lv : am_L) (st : List Value) (h : am_H) : am_f d scr L call 77 (n + 1) 3 lv st h = (match am_ld lv 2 with
    | some (.int x) => am_f d scr L call 77 n 4 lv (.int x :: st) h
    | _ => none) := k_li (i := .iload_n 2) rfl rfl rfl rfl
theorem s_77_4 (d L n : Nat) (scr : Nat → Int32) (call : Nat → List Value → am_H → Option am_X) (lv : am_L) (st : List Value) (h : am_H) : am_f d scr L call 77 (n + 1) 4 lv st h = (match am_ld lv 0 with
    | some (.ref x) => am_f d scr L call 77 n 5 lv (.ref x :: st) h
    | _ => none) := k_la (i := .aload_n 0) rfl rfl rfl rfl
theorem s_77_5 (d L n : Nat) (scr : Nat → Int32) (call : Nat → List Value → am_H → Option am_X) (lv : am_L) (st : List Value) (h : am_H) (a : Nat) : am_f d scr L call 77 (n + 1) 5 lv (.ref a :: st) h = (match am_get h a 7 3 with
    | some v => am_f d scr L call 77 n 8 lv (v :: st) h
    | none => none) := k_gf (k := 21) rfl rfl
theorem s_77_8 (d L n : Nat) (scr : Nat → Int32) (call : Nat → List Value → am_H → Option am_X) (lv : am_L) (st : List Value) (h : am_H) : am_f d scr L call 77 (n + 1) 8 lv st h = (match am_ld lv 1 with
    | some (.int x) => am_f d scr L call 77 n 9 lv (.int x :: st) h
    | _ => none) := k_li (i := .iload_n 1) rfl rfl rfl rfl
theorem s_77_9 (d L n : Nat) (scr : Nat → Int32) (call : Nat → List Value → am_H → Option am_X) (lv : am_L) (st : List Value) (h : am_H) (a : Nat) (i : Int32) : am_f d scr L call 77 (n + 1) 9 lv (.int i :: .ref a :: st) h = (match am_ild scr L h a i with
    | some x => am_f d scr L call 77 n 10 lv (.int x :: st) h
    | none => none) := k_ia rfl
theorem s_77_10 (d L n : Nat) (scr : Nat → Int32) (call : Nat → List Value → am_H → Option am_X) (lv : am_L) (st : List Value) (h : am_H) : am_f d scr L call 77 (n + 1) 10 lv st h = (match am_ld lv 0 with
    | some (.ref x) => am_f d scr L call 77 n 11 lv (.ref x :: st) h
    | _ => none) := k_la (i := .aload_n 0) rfl rfl rfl rfl
theorem s_77_11 (d L n : Nat) (scr : Nat → Int32) (call : Nat → List Value → am_H → Option am_X) (lv : am_L) (st : List Value) (h : am_H) (a : Nat) : am_f d scr L call 77 (n + 1) 11 lv (.ref a :: st) h = (match am_get h a 7 3 with
    | some v => am_f d scr L call 77 n 14 lv (v :: st) h
    | none => none) := k_gf (k := 21) rfl rfl
theorem s_77_14 (d L n : Nat) (scr : Nat → Int32) (call : Nat → List Value → am_H → Option am_X) (lv : am_L) (st : List Value) (h : am_H) : am_f d scr L call 77 (n + 1) 14 lv st h = (match am_ld lv 2 with
    | some (.int x) => am_f d scr L call 77 n 15 lv (.int x :: st) h
    | _ => none) := k_li (i := .iload_n 2) rfl rfl rfl rfl
theorem s_77_15 (d L n : Nat) (scr : Nat → Int32) (call : Nat → List Value → am_H → Option am_X) (lv : am_L) (st : List Value) (h : am_H) (a : Nat) (i : Int32) : am_f d scr L call 77 (n + 1) 15 lv (.int i :: .ref a :: st) h = (match am_ild scr L h a i with
    | some x => am_f d scr L call 77 n 16 lv (.int x :: st) h
    | none => none) := k_ia rfl
theorem s_77_16 (d L n : Nat) (scr : Nat → Int32) (call : Nat → List Value → am_H → Option am_X) (lv : am_L) (st : List Value) (h : am_H) (x y : Int32) : am_f d scr L call 77 (n + 1) 16 lv (.int y :: .int x :: st) h = am_f d scr L call 77 n 17 lv (.int (x + y) :: st) h := k_nx (i := .iadd) rfl rfl
theorem s_77_17 (d L n : Nat) (scr : Nat → Int32) (call : Nat → List Value → am_H → Option am_X) (lv : am_L) (st : List Value) (h : am_H) : am_f d scr L call 77 (n + 1) 17 lv st h = am_f d scr L call 77 n 18 lv (.int 3 :: st) h := k_nx (i := .iconst 3) rfl rfl
theorem s_77_18 (d L n : Nat) (scr : Nat → Int32) (call : Nat → List Value → am_H → Option am_X) (lv : am_L) (st : List Value) (h : am_H) (x y : Int32) : am_f d scr L call 77 (n + 1) 18 lv (.int y :: .int x :: st) h = am_f d scr L call 77 n 19 lv (.int (x + y) :: st) h := k_nx (i := .iadd) rfl rfl
theorem s_77_19 (d L n : Nat) (scr : Nat → Int32) (call : Nat → List Value → am_H → Option am_X) (lv : am_L) (h : am_H) (o : Nat) (a0 : Int32) (a1 : Int32) (a2 : Int32) (a3 : Int32)  : am_f d scr L call 77 (n + 1) 19 lv (.int a3 :: .int a2 :: .int a1 :: .int a0 :: .ref o :: []) h = if am_at h o 7 = true then (match call 79 [.ref o, .int a0, .int a1, .int a2, .int a3] h with
    | some (v, h', dk, dn) => am_add dk dn (am_f d scr L call 77 n 22 lv (v.toList ++ []) h')
    | none => none) else none := k_iv0 (k := 28) (as := [.int a0, .int a1, .int a2, .int a3]) (r := []) rfl rfl rfl rfl (Nat.le_of_ble_eq_true rfl)
theorem s_77_22 (d L n : Nat) (scr : Nat → Int32) (call : Nat → List Value → am_H → Option am_X) (lv : am_L) (h : am_H) (x : Int32) : am_f d scr L call 77 (n + 1) 22 lv [.int x] h = some (some (.int x), h, 0, 0) := k_ir rfl rfl
-- 78: BlameDesk$Types.cell(I)I
theorem s_78_0 (d L n : Nat) (scr : Nat → Int32) (call : Nat → List Value → am_H → Option am_X) (lv : am_L) (st : List Value) (h : am_H) : am_f d scr L call 78 (n + 1) 0 lv st h = (match am_ld lv 0 with
    | some (.ref x) => am_f d scr L call 78 n 1 lv (.ref x :: st) h
    | _ => none) := k_la (i := .aload_n 0) rfl rfl rfl rfl
theorem s_78_1 (d L n : Nat) (scr : Nat → Int32) (call : Nat → List Value → am_H → Option am_X) (lv : am_L) (st : List Value) (h : am_H) : am_f d scr L call 78 (n + 1) 1 lv st h = am_f d scr L call 78 n 2 lv (.int 4 :: st) h := k_nx (i := .iconst 4) rfl rfl
theorem s_78_2 (d L n : Nat) (scr : Nat → Int32) (call : Nat → List Value → am_H → Option am_X) (lv : am_L) (st : List Value) (h : am_H) : am_f d scr L call 78 (n + 1) 2 lv st h = (match am_ld lv 1 with
    | some (.int x) => am_f d scr L call 78 n 3 lv (.int x :: st) h
    | _ => none) := k_li (i := .iload_n 1) rfl rfl rfl rfl
theorem s_78_3 (d L n : Nat) (scr : Nat → Int32) (call : Nat → List Value → am_H → Option am_X) (lv : am_L) (st : List Value) (h : am_H) : am_f d scr L call 78 (n + 1) 3 lv st h = (match am_ld lv 1 with
    | some (.int x) => am_f d scr L call 78 n 4 lv (.int x :: st) h
    | _ => none) := k_li (i := .iload_n 1) rfl rfl rfl rfl
theorem s_78_4 (d L n : Nat) (scr : Nat → Int32) (call : Nat → List Value → am_H → Option am_X) (lv : am_L) (st : List Value) (h : am_H) : am_f d scr L call 78 (n + 1) 4 lv st h = (match am_ld lv 0 with
    | some (.ref x) => am_f d scr L call 78 n 5 lv (.ref x :: st) h
    | _ => none) := k_la (i := .aload_n 0) rfl rfl rfl rfl
theorem s_78_5 (d L n : Nat) (scr : Nat → Int32) (call : Nat → List Value → am_H → Option am_X) (lv : am_L) (st : List Value) (h : am_H) (a : Nat) : am_f d scr L call 78 (n + 1) 5 lv (.ref a :: st) h = (match am_get h a 7 3 with
    | some v => am_f d scr L call 78 n 8 lv (v :: st) h
    | none => none) := k_gf (k := 21) rfl rfl
theorem s_78_8 (d L n : Nat) (scr : Nat → Int32) (call : Nat → List Value → am_H → Option am_X) (lv : am_L) (st : List Value) (h : am_H) : am_f d scr L call 78 (n + 1) 8 lv st h = (match am_ld lv 1 with
    | some (.int x) => am_f d scr L call 78 n 9 lv (.int x :: st) h
    | _ => none) := k_li (i := .iload_n 1) rfl rfl rfl rfl
theorem s_78_9 (d L n : Nat) (scr : Nat → Int32) (call : Nat → List Value → am_H → Option am_X) (lv : am_L) (st : List Value) (h : am_H) (a : Nat) (i : Int32) : am_f d scr L call 78 (n + 1) 9 lv (.int i :: .ref a :: st) h = (match am_ild scr L h a i with
    | some x => am_f d scr L call 78 n 10 lv (.int x :: st) h
    | none => none) := k_ia rfl
theorem s_78_10 (d L n : Nat) (scr : Nat → Int32) (call : Nat → List Value → am_H → Option am_X) (lv : am_L) (st : List Value) (h : am_H) : am_f d scr L call 78 (n + 1) 10 lv st h = am_f d scr L call 78 n 11 lv (.int 1 :: st) h := k_nx (i := .iconst 1) rfl rfl
theorem s_78_11 (d L n : Nat) (scr : Nat → Int32) (call : Nat → List Value → am_H → Option am_X) (lv : am_L) (st : List Value) (h : am_H) (x y : Int32) : am_f d scr L call 78 (n + 1) 11 lv (.int y :: .int x :: st) h = am_f d scr L call 78 n 12 lv (.int (x + y) :: st) h := k_nx (i := .iadd) rfl rfl
theorem s_78_12 (d L n : Nat) (scr : Nat → Int32) (call : Nat → List Value → am_H → Option am_X) (lv : am_L) (h : am_H) (o : Nat) (a0 : Int32) (a1 : Int32) (a2 : Int32) (a3 : Int32)  : am_f d scr L call 78 (n + 1) 12 lv (.int a3 :: .int a2 :: .int a1 :: .int a0 :: .ref o :: []) h = if am_at h o 7 = true then (match call 79 [.ref o, .int a0, .int a1, .int a2, .int a3] h with
    | some (v, h', dk, dn) => am_add dk dn (am_f d scr L call 78 n 15 lv (v.toList ++ []) h')
    | none => none) else none := k_iv0 (k := 28) (as := [.int a0, .int a1, .int a2, .int a3]) (r := []) rfl rfl rfl rfl (Nat.le_of_ble_eq_true rfl)
theorem s_78_15 (d L n : Nat) (scr : Nat → Int32) (call : Nat → List Value → am_H → Option am_X) (lv : am_L) (h : am_H) (x : Int32) : am_f d scr L call 78 (n + 1) 15 lv [.int x] h = some (some (.int x), h, 0, 0) := k_ir rfl rfl
-- 79: BlameDesk$Types.kept(IIII)I
theorem s_79_0 (d L n : Nat) (scr : Nat → Int32) (call : Nat → List Value → am_H → Option am_X) (lv : am_L) (st : List Value) (h : am_H) : am_f d scr L call 79 (n + 1) 0 lv st h = am_f d scr L call 79 n 1 lv (.int 3 :: st) h := k_nx (i := .iconst 3) rfl rfl
theorem s_79_1 (d L n : Nat) (scr : Nat → Int32) (call : Nat → List Value → am_H → Option am_X) (lv : am_L) (st : List Value) (h : am_H) (x : Int32) : am_f d scr L call 79 (n + 1) 1 lv (.int x :: st) h = am_f d scr L call 79 n 3 (am_st1 lv 5 (.int x)) st h := k_nx (i := .istore 5) rfl rfl
theorem s_79_3 (d L n : Nat) (scr : Nat → Int32) (call : Nat → List Value → am_H → Option am_X) (lv : am_L) (st : List Value) (h : am_H) : am_f d scr L call 79 (n + 1) 3 lv st h = (match am_ld lv 5 with
    | some (.int x) => am_f d scr L call 79 n 5 lv (.int x :: st) h
    | _ => none) := k_li (i := .iload 5) rfl rfl rfl rfl
theorem s_79_5 (d L n : Nat) (scr : Nat → Int32) (call : Nat → List Value → am_H → Option am_X) (lv : am_L) (st : List Value) (h : am_H) : am_f d scr L call 79 (n + 1) 5 lv st h = (match am_ld lv 0 with
    | some (.ref x) => am_f d scr L call 79 n 6 lv (.ref x :: st) h
    | _ => none) := k_la (i := .aload_n 0) rfl rfl rfl rfl
theorem s_79_6 (d L n : Nat) (scr : Nat → Int32) (call : Nat → List Value → am_H → Option am_X) (lv : am_L) (st : List Value) (h : am_H) (a : Nat) : am_f d scr L call 79 (n + 1) 6 lv (.ref a :: st) h = (match am_get h a 7 4 with
    | some v => am_f d scr L call 79 n 9 lv (v :: st) h
    | none => none) := k_gf (k := 24) rfl rfl
theorem s_79_9 (d L n : Nat) (scr : Nat → Int32) (call : Nat → List Value → am_H → Option am_X) (lv : am_L) (st : List Value) (h : am_H) (x y : Int32) : am_f d scr L call 79 (n + 1) 9 lv (.int y :: .int x :: st) h = if y ≤ x then am_f d scr L call 79 n 54 lv st h else am_f d scr L call 79 n 12 lv st h := k_ic_ge (o := 45) rfl ⟨by decide, rfl⟩
theorem s_79_12 (d L n : Nat) (scr : Nat → Int32) (call : Nat → List Value → am_H → Option am_X) (lv : am_L) (st : List Value) (h : am_H) : am_f d scr L call 79 (n + 1) 12 lv st h = (match am_ld lv 0 with
    | some (.ref x) => am_f d scr L call 79 n 13 lv (.ref x :: st) h
    | _ => none) := k_la (i := .aload_n 0) rfl rfl rfl rfl
theorem s_79_13 (d L n : Nat) (scr : Nat → Int32) (call : Nat → List Value → am_H → Option am_X) (lv : am_L) (st : List Value) (h : am_H) (a : Nat) : am_f d scr L call 79 (n + 1) 13 lv (.ref a :: st) h = (match am_get h a 7 0 with
    | some v => am_f d scr L call 79 n 16 lv (v :: st) h
    | none => none) := k_gf (k := 11) rfl rfl
theorem s_79_16 (d L n : Nat) (scr : Nat → Int32) (call : Nat → List Value → am_H → Option am_X) (lv : am_L) (st : List Value) (h : am_H) : am_f d scr L call 79 (n + 1) 16 lv st h = (match am_ld lv 5 with
    | some (.int x) => am_f d scr L call 79 n 18 lv (.int x :: st) h
    | _ => none) := k_li (i := .iload 5) rfl rfl rfl rfl
theorem s_79_18 (d L n : Nat) (scr : Nat → Int32) (call : Nat → List Value → am_H → Option am_X) (lv : am_L) (st : List Value) (h : am_H) (a : Nat) (i : Int32) : am_f d scr L call 79 (n + 1) 18 lv (.int i :: .ref a :: st) h = (match am_ild scr L h a i with
    | some x => am_f d scr L call 79 n 19 lv (.int x :: st) h
    | none => none) := k_ia rfl
theorem s_79_19 (d L n : Nat) (scr : Nat → Int32) (call : Nat → List Value → am_H → Option am_X) (lv : am_L) (st : List Value) (h : am_H) : am_f d scr L call 79 (n + 1) 19 lv st h = (match am_ld lv 1 with
    | some (.int x) => am_f d scr L call 79 n 20 lv (.int x :: st) h
    | _ => none) := k_li (i := .iload_n 1) rfl rfl rfl rfl
theorem s_79_20 (d L n : Nat) (scr : Nat → Int32) (call : Nat → List Value → am_H → Option am_X) (lv : am_L) (st : List Value) (h : am_H) (x y : Int32) : am_f d scr L call 79 (n + 1) 20 lv (.int y :: .int x :: st) h = if ¬ x = y then am_f d scr L call 79 n 48 lv st h else am_f d scr L call 79 n 23 lv st h := k_ic_ne (o := 28) rfl ⟨by decide, rfl⟩
theorem s_79_23 (d L n : Nat) (scr : Nat → Int32) (call : Nat → List Value → am_H → Option am_X) (lv : am_L) (st : List Value) (h : am_H) : am_f d scr L call 79 (n + 1) 23 lv st h = (match am_ld lv 0 with
    | some (.ref x) => am_f d scr L call 79 n 24 lv (.ref x :: st) h
    | _ => none) := k_la (i := .aload_n 0) rfl rfl rfl rfl
theorem s_79_24 (d L n : Nat) (scr : Nat → Int32) (call : Nat → List Value → am_H → Option am_X) (lv : am_L) (st : List Value) (h : am_H) (a : Nat) : am_f d scr L call 79 (n + 1) 24 lv (.ref a :: st) h = (match am_get h a 7 1 with
    | some v => am_f d scr L call 79 n 27 lv (v :: st) h
    | none => none) := k_gf (k := 15) rfl rfl
theorem s_79_27 (d L n : Nat) (scr : Nat → Int32) (call : Nat → List Value → am_H → Option am_X) (lv : am_L) (st : List Value) (h : am_H) : am_f d scr L call 79 (n + 1) 27 lv st h = (match am_ld lv 5 with
    | some (.int x) => am_f d scr L call 79 n 29 lv (.int x :: st) h
    | _ => none) := k_li (i := .iload 5) rfl rfl rfl rfl
theorem s_79_29 (d L n : Nat) (scr : Nat → Int32) (call : Nat → List Value → am_H → Option am_X) (lv : am_L) (st : List Value) (h : am_H) (a : Nat) (i : Int32) : am_f d scr L call 79 (n + 1) 29 lv (.int i :: .ref a :: st) h = (match am_ild scr L h a i with
    | some x => am_f d scr L call 79 n 30 lv (.int x :: st) h
    | none => none) := k_ia rfl
theorem s_79_30 (d L n : Nat) (scr : Nat → Int32) (call : Nat → List Value → am_H → Option am_X) (lv : am_L) (st : List Value) (h : am_H) : am_f d scr L call 79 (n + 1) 30 lv st h = (match am_ld lv 2 with
    | some (.int x) => am_f d scr L call 79 n 31 lv (.int x :: st) h
    | _ => none) := k_li (i := .iload_n 2) rfl rfl rfl rfl
theorem s_79_31 (d L n : Nat) (scr : Nat → Int32) (call : Nat → List Value → am_H → Option am_X) (lv : am_L) (st : List Value) (h : am_H) (x y : Int32) : am_f d scr L call 79 (n + 1) 31 lv (.int y :: .int x :: st) h = if ¬ x = y then am_f d scr L call 79 n 48 lv st h else am_f d scr L call 79 n 34 lv st h := k_ic_ne (o := 17) rfl ⟨by decide, rfl⟩
theorem s_79_34 (d L n : Nat) (scr : Nat → Int32) (call : Nat → List Value → am_H → Option am_X) (lv : am_L) (st : List Value) (h : am_H) : am_f d scr L call 79 (n + 1) 34 lv st h = (match am_ld lv 0 with
    | some (.ref x) => am_f d scr L call 79 n 35 lv (.ref x :: st) h
    | _ => none) := k_la (i := .aload_n 0) rfl rfl rfl rfl
theorem s_79_35 (d L n : Nat) (scr : Nat → Int32) (call : Nat → List Value → am_H → Option am_X) (lv : am_L) (st : List Value) (h : am_H) (a : Nat) : am_f d scr L call 79 (n + 1) 35 lv (.ref a :: st) h = (match am_get h a 7 2 with
    | some v => am_f d scr L call 79 n 38 lv (v :: st) h
    | none => none) := k_gf (k := 18) rfl rfl
theorem s_79_38 (d L n : Nat) (scr : Nat → Int32) (call : Nat → List Value → am_H → Option am_X) (lv : am_L) (st : List Value) (h : am_H) : am_f d scr L call 79 (n + 1) 38 lv st h = (match am_ld lv 5 with
    | some (.int x) => am_f d scr L call 79 n 40 lv (.int x :: st) h
    | _ => none) := k_li (i := .iload 5) rfl rfl rfl rfl
theorem s_79_40 (d L n : Nat) (scr : Nat → Int32) (call : Nat → List Value → am_H → Option am_X) (lv : am_L) (st : List Value) (h : am_H) (a : Nat) (i : Int32) : am_f d scr L call 79 (n + 1) 40 lv (.int i :: .ref a :: st) h = (match am_ild scr L h a i with
    | some x => am_f d scr L call 79 n 41 lv (.int x :: st) h
    | none => none) := k_ia rfl
theorem s_79_41 (d L n : Nat) (scr : Nat → Int32) (call : Nat → List Value → am_H → Option am_X) (lv : am_L) (st : List Value) (h : am_H) : am_f d scr L call 79 (n + 1) 41 lv st h = (match am_ld lv 3 with
    | some (.int x) => am_f d scr L call 79 n 42 lv (.int x :: st) h
    | _ => none) := k_li (i := .iload_n 3) rfl rfl rfl rfl
theorem s_79_42 (d L n : Nat) (scr : Nat → Int32) (call : Nat → List Value → am_H → Option am_X) (lv : am_L) (st : List Value) (h : am_H) (x y : Int32) : am_f d scr L call 79 (n + 1) 42 lv (.int y :: .int x :: st) h = if ¬ x = y then am_f d scr L call 79 n 48 lv st h else am_f d scr L call 79 n 45 lv st h := k_ic_ne (o := 6) rfl ⟨by decide, rfl⟩
theorem s_79_45 (d L n : Nat) (scr : Nat → Int32) (call : Nat → List Value → am_H → Option am_X) (lv : am_L) (st : List Value) (h : am_H) : am_f d scr L call 79 (n + 1) 45 lv st h = (match am_ld lv 5 with
    | some (.int x) => am_f d scr L call 79 n 47 lv (.int x :: st) h
    | _ => none) := k_li (i := .iload 5) rfl rfl rfl rfl
theorem s_79_47 (d L n : Nat) (scr : Nat → Int32) (call : Nat → List Value → am_H → Option am_X) (lv : am_L) (h : am_H) (x : Int32) : am_f d scr L call 79 (n + 1) 47 lv [.int x] h = some (some (.int x), h, 0, 0) := k_ir rfl rfl
theorem s_79_48 (d L n : Nat) (scr : Nat → Int32) (call : Nat → List Value → am_H → Option am_X) (lv : am_L) (st : List Value) (h : am_H) : am_f d scr L call 79 (n + 1) 48 lv st h = (match am_ld lv 5 with
    | some (.int x) => am_f d scr L call 79 n 51 (am_st1 lv 5 (.int (x + 1))) st h
    | _ => none) := k_iinc (k := 5) (c := 1) rfl rfl (Nat.le_of_ble_eq_true rfl)
theorem s_79_51 (d L n : Nat) (scr : Nat → Int32) (call : Nat → List Value → am_H → Option am_X) (lv : am_L) (st : List Value) (h : am_H) : am_f d scr L call 79 (n + 1) 51 lv st h = am_f d scr L call 79 n 3 lv st h := k_nx (i := .goto (-48)) rfl rfl
theorem s_79_54 (d L n : Nat) (scr : Nat → Int32) (call : Nat → List Value → am_H → Option am_X) (lv : am_L) (st : List Value) (h : am_H) : am_f d scr L call 79 (n + 1) 54 lv st h = (match am_ld lv 0 with
    | some (.ref x) => am_f d scr L call 79 n 55 lv (.ref x :: st) h
    | _ => none) := k_la (i := .aload_n 0) rfl rfl rfl rfl
theorem s_79_55 (d L n : Nat) (scr : Nat → Int32) (call : Nat → List Value → am_H → Option am_X) (lv : am_L) (st : List Value) (h : am_H) (a : Nat) : am_f d scr L call 79 (n + 1) 55 lv (.ref a :: st) h = (match am_get h a 7 4 with
    | some v => am_f d scr L call 79 n 58 lv (v :: st) h
    | none => none) := k_gf (k := 24) rfl rfl
theorem s_79_58 (d L n : Nat) (scr : Nat → Int32) (call : Nat → List Value → am_H → Option am_X) (lv : am_L) (st : List Value) (h : am_H) : am_f d scr L call 79 (n + 1) 58 lv st h = am_f d scr L call 79 n 60 lv (.int 105 :: st) h := k_nx (i := .bipush 105) rfl rfl
theorem s_79_60 (d L n : Nat) (scr : Nat → Int32) (call : Nat → List Value → am_H → Option am_X) (lv : am_L) (st : List Value) (h : am_H) (x y : Int32) : am_f d scr L call 79 (n + 1) 60 lv (.int y :: .int x :: st) h = if x < y then am_f d scr L call 79 n 65 lv st h else am_f d scr L call 79 n 63 lv st h := k_ic_lt (o := 5) rfl ⟨by decide, rfl⟩
theorem s_79_63 (d L n : Nat) (scr : Nat → Int32) (call : Nat → List Value → am_H → Option am_X) (lv : am_L) (st : List Value) (h : am_H) : am_f d scr L call 79 (n + 1) 63 lv st h = am_f d scr L call 79 n 64 lv (.int 0 :: st) h := k_nx (i := .iconst 0) rfl rfl
theorem s_79_64 (d L n : Nat) (scr : Nat → Int32) (call : Nat → List Value → am_H → Option am_X) (lv : am_L) (h : am_H) (x : Int32) : am_f d scr L call 79 (n + 1) 64 lv [.int x] h = some (some (.int x), h, 0, 0) := k_ir rfl rfl
theorem s_79_65 (d L n : Nat) (scr : Nat → Int32) (call : Nat → List Value → am_H → Option am_X) (lv : am_L) (st : List Value) (h : am_H) : am_f d scr L call 79 (n + 1) 65 lv st h = (match am_ld lv 0 with
    | some (.ref x) => am_f d scr L call 79 n 66 lv (.ref x :: st) h
    | _ => none) := k_la (i := .aload_n 0) rfl rfl rfl rfl
theorem s_79_66 (d L n : Nat) (scr : Nat → Int32) (call : Nat → List Value → am_H → Option am_X) (lv : am_L) (st : List Value) (h : am_H) (a : Nat) : am_f d scr L call 79 (n + 1) 66 lv (.ref a :: st) h = (match am_get h a 7 0 with
    | some v => am_f d scr L call 79 n 69 lv (v :: st) h
    | none => none) := k_gf (k := 11) rfl rfl
theorem s_79_69 (d L n : Nat) (scr : Nat → Int32) (call : Nat → List Value → am_H → Option am_X) (lv : am_L) (st : List Value) (h : am_H) : am_f d scr L call 79 (n + 1) 69 lv st h = (match am_ld lv 0 with
    | some (.ref x) => am_f d scr L call 79 n 70 lv (.ref x :: st) h
    | _ => none) := k_la (i := .aload_n 0) rfl rfl rfl rfl
theorem s_79_70 (d L n : Nat) (scr : Nat → Int32) (call : Nat → List Value → am_H → Option am_X) (lv : am_L) (st : List Value) (h : am_H) (a : Nat) : am_f d scr L call 79 (n + 1) 70 lv (.ref a :: st) h = (match am_get h a 7 4 with
    | some v => am_f d scr L call 79 n 73 lv (v :: st) h
    | none => none) := k_gf (k := 24) rfl rfl
theorem s_79_73 (d L n : Nat) (scr : Nat → Int32) (call : Nat → List Value → am_H → Option am_X) (lv : am_L) (st : List Value) (h : am_H) : am_f d scr L call 79 (n + 1) 73 lv st h = (match am_ld lv 1 with
    | some (.int x) => am_f d scr L call 79 n 74 lv (.int x :: st) h
    | _ => none) := k_li (i := .iload_n 1) rfl rfl rfl rfl
theorem s_79_74 (d L n : Nat) (scr : Nat → Int32) (call : Nat → List Value → am_H → Option am_X) (lv : am_L) (st : List Value) (h : am_H) (a : Nat) (i : Int32) (x : Int32) : am_f d scr L call 79 (n + 1) 74 lv (.int x :: .int i :: .ref a :: st) h = (match am_ist h a i x with
    | some h' => am_f d scr L call 79 n 75 lv st h'
    | none => none) := k_is rfl
theorem s_79_75 (d L n : Nat) (scr : Nat → Int32) (call : Nat → List Value → am_H → Option am_X) (lv : am_L) (st : List Value) (h : am_H) : am_f d scr L call 79 (n + 1) 75 lv st h = (match am_ld lv 0 with
    | some (.ref x) => am_f d scr L call 79 n 76 lv (.ref x :: st) h
    | _ => none) := k_la (i := .aload_n 0) rfl rfl rfl rfl
theorem s_79_76 (d L n : Nat) (scr : Nat → Int32) (call : Nat → List Value → am_H → Option am_X) (lv : am_L) (st : List Value) (h : am_H) (a : Nat) : am_f d scr L call 79 (n + 1) 76 lv (.ref a :: st) h = (match am_get h a 7 1 with
    | some v => am_f d scr L call 79 n 79 lv (v :: st) h
    | none => none) := k_gf (k := 15) rfl rfl
theorem s_79_79 (d L n : Nat) (scr : Nat → Int32) (call : Nat → List Value → am_H → Option am_X) (lv : am_L) (st : List Value) (h : am_H) : am_f d scr L call 79 (n + 1) 79 lv st h = (match am_ld lv 0 with
    | some (.ref x) => am_f d scr L call 79 n 80 lv (.ref x :: st) h
    | _ => none) := k_la (i := .aload_n 0) rfl rfl rfl rfl
theorem s_79_80 (d L n : Nat) (scr : Nat → Int32) (call : Nat → List Value → am_H → Option am_X) (lv : am_L) (st : List Value) (h : am_H) (a : Nat) : am_f d scr L call 79 (n + 1) 80 lv (.ref a :: st) h = (match am_get h a 7 4 with
    | some v => am_f d scr L call 79 n 83 lv (v :: st) h
    | none => none) := k_gf (k := 24) rfl rfl
theorem s_79_83 (d L n : Nat) (scr : Nat → Int32) (call : Nat → List Value → am_H → Option am_X) (lv : am_L) (st : List Value) (h : am_H) : am_f d scr L call 79 (n + 1) 83 lv st h = (match am_ld lv 2 with
    | some (.int x) => am_f d scr L call 79 n 84 lv (.int x :: st) h
    | _ => none) := k_li (i := .iload_n 2) rfl rfl rfl rfl
theorem s_79_84 (d L n : Nat) (scr : Nat → Int32) (call : Nat → List Value → am_H → Option am_X) (lv : am_L) (st : List Value) (h : am_H) (a : Nat) (i : Int32) (x : Int32) : am_f d scr L call 79 (n + 1) 84 lv (.int x :: .int i :: .ref a :: st) h = (match am_ist h a i x with
    | some h' => am_f d scr L call 79 n 85 lv st h'
    | none => none) := k_is rfl
theorem s_79_85 (d L n : Nat) (scr : Nat → Int32) (call : Nat → List Value → am_H → Option am_X) (lv : am_L) (st : List Value) (h : am_H) : am_f d scr L call 79 (n + 1) 85 lv st h = (match am_ld lv 0 with
    | some (.ref x) => am_f d scr L call 79 n 86 lv (.ref x :: st) h
    | _ => none) := k_la (i := .aload_n 0) rfl rfl rfl rfl
theorem s_79_86 (d L n : Nat) (scr : Nat → Int32) (call : Nat → List Value → am_H → Option am_X) (lv : am_L) (st : List Value) (h : am_H) (a : Nat) : am_f d scr L call 79 (n + 1) 86 lv (.ref a :: st) h = (match am_get h a 7 2 with
    | some v => am_f d scr L call 79 n 89 lv (v :: st) h
    | none => none) := k_gf (k := 18) rfl rfl
theorem s_79_89 (d L n : Nat) (scr : Nat → Int32) (call : Nat → List Value → am_H → Option am_X) (lv : am_L) (st : List Value) (h : am_H) : am_f d scr L call 79 (n + 1) 89 lv st h = (match am_ld lv 0 with
    | some (.ref x) => am_f d scr L call 79 n 90 lv (.ref x :: st) h
    | _ => none) := k_la (i := .aload_n 0) rfl rfl rfl rfl
theorem s_79_90 (d L n : Nat) (scr : Nat → Int32) (call : Nat → List Value → am_H → Option am_X) (lv : am_L) (st : List Value) (h : am_H) (a : Nat) : am_f d scr L call 79 (n + 1) 90 lv (.ref a :: st) h = (match am_get h a 7 4 with
    | some v => am_f d scr L call 79 n 93 lv (v :: st) h
    | none => none) := k_gf (k := 24) rfl rfl
theorem s_79_93 (d L n : Nat) (scr : Nat → Int32) (call : Nat → List Value → am_H → Option am_X) (lv : am_L) (st : List Value) (h : am_H) : am_f d scr L call 79 (n + 1) 93 lv st h = (match am_ld lv 3 with
    | some (.int x) => am_f d scr L call 79 n 94 lv (.int x :: st) h
    | _ => none) := k_li (i := .iload_n 3) rfl rfl rfl rfl
theorem s_79_94 (d L n : Nat) (scr : Nat → Int32) (call : Nat → List Value → am_H → Option am_X) (lv : am_L) (st : List Value) (h : am_H) (a : Nat) (i : Int32) (x : Int32) : am_f d scr L call 79 (n + 1) 94 lv (.int x :: .int i :: .ref a :: st) h = (match am_ist h a i x with
    | some h' => am_f d scr L call 79 n 95 lv st h'
    | none => none) := k_is rfl
theorem s_79_95 (d L n : Nat) (scr : Nat → Int32) (call : Nat → List Value → am_H → Option am_X) (lv : am_L) (st : List Value) (h : am_H) : am_f d scr L call 79 (n + 1) 95 lv st h = (match am_ld lv 0 with
    | some (.ref x) => am_f d scr L call 79 n 96 lv (.ref x :: st) h
    | _ => none) := k_la (i := .aload_n 0) rfl rfl rfl rfl
theorem s_79_96 (d L n : Nat) (scr : Nat → Int32) (call : Nat → List Value → am_H → Option am_X) (lv : am_L) (st : List Value) (h : am_H) (a : Nat) : am_f d scr L call 79 (n + 1) 96 lv (.ref a :: st) h = (match am_get h a 7 3 with
    | some v => am_f d scr L call 79 n 99 lv (v :: st) h
    | none => none) := k_gf (k := 21) rfl rfl
theorem s_79_99 (d L n : Nat) (scr : Nat → Int32) (call : Nat → List Value → am_H → Option am_X) (lv : am_L) (st : List Value) (h : am_H) : am_f d scr L call 79 (n + 1) 99 lv st h = (match am_ld lv 0 with
    | some (.ref x) => am_f d scr L call 79 n 100 lv (.ref x :: st) h
    | _ => none) := k_la (i := .aload_n 0) rfl rfl rfl rfl
theorem s_79_100 (d L n : Nat) (scr : Nat → Int32) (call : Nat → List Value → am_H → Option am_X) (lv : am_L) (st : List Value) (h : am_H) (a : Nat) : am_f d scr L call 79 (n + 1) 100 lv (.ref a :: st) h = (match am_get h a 7 4 with
    | some v => am_f d scr L call 79 n 103 lv (v :: st) h
    | none => none) := k_gf (k := 24) rfl rfl
theorem s_79_103 (d L n : Nat) (scr : Nat → Int32) (call : Nat → List Value → am_H → Option am_X) (lv : am_L) (st : List Value) (h : am_H) : am_f d scr L call 79 (n + 1) 103 lv st h = (match am_ld lv 4 with
    | some (.int x) => am_f d scr L call 79 n 105 lv (.int x :: st) h
    | _ => none) := k_li (i := .iload 4) rfl rfl rfl rfl
theorem s_79_105 (d L n : Nat) (scr : Nat → Int32) (call : Nat → List Value → am_H → Option am_X) (lv : am_L) (st : List Value) (h : am_H) (a : Nat) (i : Int32) (x : Int32) : am_f d scr L call 79 (n + 1) 105 lv (.int x :: .int i :: .ref a :: st) h = (match am_ist h a i x with
    | some h' => am_f d scr L call 79 n 106 lv st h'
    | none => none) := k_is rfl
theorem s_79_106 (d L n : Nat) (scr : Nat → Int32) (call : Nat → List Value → am_H → Option am_X) (lv : am_L) (st : List Value) (h : am_H) : am_f d scr L call 79 (n + 1) 106 lv st h = (match am_ld lv 0 with
    | some (.ref x) => am_f d scr L call 79 n 107 lv (.ref x :: st) h
    | _ => none) := k_la (i := .aload_n 0) rfl rfl rfl rfl
theorem s_79_107 (d L n : Nat) (scr : Nat → Int32) (call : Nat → List Value → am_H → Option am_X) (lv : am_L) (st : List Value) (h : am_H) (x : Nat) : am_f d scr L call 79 (n + 1) 107 lv (.ref x :: st) h = am_f d scr L call 79 n 108 lv (.ref x :: .ref x :: st) h := k_nx (i := .dup) rfl rfl
theorem s_79_108 (d L n : Nat) (scr : Nat → Int32) (call : Nat → List Value → am_H → Option am_X) (lv : am_L) (st : List Value) (h : am_H) (a : Nat) : am_f d scr L call 79 (n + 1) 108 lv (.ref a :: st) h = (match am_get h a 7 4 with
    | some v => am_f d scr L call 79 n 111 lv (v :: st) h
    | none => none) := k_gf (k := 24) rfl rfl
theorem s_79_111 (d L n : Nat) (scr : Nat → Int32) (call : Nat → List Value → am_H → Option am_X) (lv : am_L) (st : List Value) (h : am_H) : am_f d scr L call 79 (n + 1) 111 lv st h = am_f d scr L call 79 n 112 lv (.int 1 :: st) h := k_nx (i := .iconst 1) rfl rfl
theorem s_79_112 (d L n : Nat) (scr : Nat → Int32) (call : Nat → List Value → am_H → Option am_X) (lv : am_L) (st : List Value) (h : am_H) (x y : Int32) : am_f d scr L call 79 (n + 1) 112 lv (.int y :: .int x :: st) h = am_f d scr L call 79 n 113 lv (.int (x + y) :: st) h := k_nx (i := .iadd) rfl rfl
theorem s_79_113 (d L n : Nat) (scr : Nat → Int32) (call : Nat → List Value → am_H → Option am_X) (lv : am_L) (st : List Value) (h : am_H) (x : Int32) (a : Nat) : am_f d scr L call 79 (n + 1) 113 lv (.int x :: .ref a :: st) h = (match am_put h a 7 4 (.int x) with
    | some h' => am_f d scr L call 79 n 116 lv st h'
    | none => none) := k_pf (k := 24) rfl rfl rfl
theorem s_79_116 (d L n : Nat) (scr : Nat → Int32) (call : Nat → List Value → am_H → Option am_X) (lv : am_L) (st : List Value) (h : am_H) : am_f d scr L call 79 (n + 1) 116 lv st h = (match am_ld lv 0 with
    | some (.ref x) => am_f d scr L call 79 n 117 lv (.ref x :: st) h
    | _ => none) := k_la (i := .aload_n 0) rfl rfl rfl rfl
theorem s_79_117 (d L n : Nat) (scr : Nat → Int32) (call : Nat → List Value → am_H → Option am_X) (lv : am_L) (st : List Value) (h : am_H) (a : Nat) : am_f d scr L call 79 (n + 1) 117 lv (.ref a :: st) h = (match am_get h a 7 4 with
    | some v => am_f d scr L call 79 n 120 lv (v :: st) h
    | none => none) := k_gf (k := 24) rfl rfl
theorem s_79_120 (d L n : Nat) (scr : Nat → Int32) (call : Nat → List Value → am_H → Option am_X) (lv : am_L) (st : List Value) (h : am_H) : am_f d scr L call 79 (n + 1) 120 lv st h = am_f d scr L call 79 n 121 lv (.int 1 :: st) h := k_nx (i := .iconst 1) rfl rfl
theorem s_79_121 (d L n : Nat) (scr : Nat → Int32) (call : Nat → List Value → am_H → Option am_X) (lv : am_L) (st : List Value) (h : am_H) (x y : Int32) : am_f d scr L call 79 (n + 1) 121 lv (.int y :: .int x :: st) h = am_f d scr L call 79 n 122 lv (.int (x - y) :: st) h := k_nx (i := .isub) rfl rfl
theorem s_79_122 (d L n : Nat) (scr : Nat → Int32) (call : Nat → List Value → am_H → Option am_X) (lv : am_L) (h : am_H) (x : Int32) : am_f d scr L call 79 (n + 1) 122 lv [.int x] h = some (some (.int x), h, 0, 0) := k_ir rfl rfl
-- 80: BlameDesk$Types.ground(I)I
theorem s_80_0 (d L n : Nat) (scr : Nat → Int32) (call : Nat → List Value → am_H → Option am_X) (lv : am_L) (st : List Value) (h : am_H) : am_f d scr L call 80 (n + 1) 0 lv st h = (match am_ld lv 0 with
    | some (.ref x) => am_f d scr L call 80 n 1 lv (.ref x :: st) h
    | _ => none) := k_la (i := .aload_n 0) rfl rfl rfl rfl
theorem s_80_1 (d L n : Nat) (scr : Nat → Int32) (call : Nat → List Value → am_H → Option am_X) (lv : am_L) (st : List Value) (h : am_H) (a : Nat) : am_f d scr L call 80 (n + 1) 1 lv (.ref a :: st) h = (match am_get h a 7 0 with
    | some v => am_f d scr L call 80 n 4 lv (v :: st) h
    | none => none) := k_gf (k := 11) rfl rfl
theorem s_80_4 (d L n : Nat) (scr : Nat → Int32) (call : Nat → List Value → am_H → Option am_X) (lv : am_L) (st : List Value) (h : am_H) : am_f d scr L call 80 (n + 1) 4 lv st h = (match am_ld lv 1 with
    | some (.int x) => am_f d scr L call 80 n 5 lv (.int x :: st) h
    | _ => none) := k_li (i := .iload_n 1) rfl rfl rfl rfl
theorem s_80_5 (d L n : Nat) (scr : Nat → Int32) (call : Nat → List Value → am_H → Option am_X) (lv : am_L) (st : List Value) (h : am_H) (a : Nat) (i : Int32) : am_f d scr L call 80 (n + 1) 5 lv (.int i :: .ref a :: st) h = (match am_ild scr L h a i with
    | some x => am_f d scr L call 80 n 6 lv (.int x :: st) h
    | none => none) := k_ia rfl
theorem s_80_6 (d L n : Nat) (scr : Nat → Int32) (call : Nat → List Value → am_H → Option am_X) (lv : am_L) (h : am_H) (x : Int32) : am_f d scr L call 80 (n + 1) 6 lv [.int x] h = some (some (.int x), h, 0, 0) := k_ir rfl rfl
-- 81: BlameDesk$Types.areConsistent(II)Z
theorem s_81_0 (d L n : Nat) (scr : Nat → Int32) (call : Nat → List Value → am_H → Option am_X) (lv : am_L) (st : List Value) (h : am_H) : am_f d scr L call 81 (n + 1) 0 lv st h = (match am_ld lv 0 with
    | some (.ref x) => am_f d scr L call 81 n 1 lv (.ref x :: st) h
    | _ => none) := k_la (i := .aload_n 0) rfl rfl rfl rfl
theorem s_81_1 (d L n : Nat) (scr : Nat → Int32) (call : Nat → List Value → am_H → Option am_X) (lv : am_L) (st : List Value) (h : am_H) : am_f d scr L call 81 (n + 1) 1 lv st h = (match am_ld lv 1 with
    | some (.int x) => am_f d scr L call 81 n 2 lv (.int x :: st) h
    | _ => none) := k_li (i := .iload_n 1) rfl rfl rfl rfl
theorem s_81_2 (d L n : Nat) (scr : Nat → Int32) (call : Nat → List Value → am_H → Option am_X) (lv : am_L) (st : List Value) (h : am_H) : am_f d scr L call 81 (n + 1) 2 lv st h = (match am_ld lv 2 with
    | some (.int x) => am_f d scr L call 81 n 3 lv (.int x :: st) h
    | _ => none) := k_li (i := .iload_n 2) rfl rfl rfl rfl
theorem s_81_3 (d L n : Nat) (scr : Nat → Int32) (call : Nat → List Value → am_H → Option am_X) (lv : am_L) (st : List Value) (h : am_H) : am_f d scr L call 81 (n + 1) 3 lv st h = am_f d scr L call 81 n 4 lv (.int 1 :: st) h := k_nx (i := .iconst 1) rfl rfl
theorem s_81_4 (d L n : Nat) (scr : Nat → Int32) (call : Nat → List Value → am_H → Option am_X) (lv : am_L) (h : am_H) (o : Nat) (a0 : Int32) (a1 : Int32) (a2 : Int32)  : am_f d scr L call 81 (n + 1) 4 lv (.int a2 :: .int a1 :: .int a0 :: .ref o :: []) h = if am_at h o 7 = true then (match call 82 [.ref o, .int a0, .int a1, .int a2] h with
    | some (v, h', dk, dn) => am_add dk dn (am_f d scr L call 81 n 7 lv (v.toList ++ []) h')
    | none => none) else none := k_iv0 (k := 32) (as := [.int a0, .int a1, .int a2]) (r := []) rfl rfl rfl rfl (Nat.le_of_ble_eq_true rfl)
theorem s_81_7 (d L n : Nat) (scr : Nat → Int32) (call : Nat → List Value → am_H → Option am_X) (lv : am_L) (h : am_H) (x : Int32) : am_f d scr L call 81 (n + 1) 7 lv [.int x] h = if x = 0 ∨ x = 1 then some (some (.int x), h, 0, 0) else none := k_zr rfl rfl
-- 82: BlameDesk$Types.partsAreConsistent(III)Z
theorem s_82_0 (d L n : Nat) (scr : Nat → Int32) (call : Nat → List Value → am_H → Option am_X) (lv : am_L) (st : List Value) (h : am_H) : am_f d scr L call 82 (n + 1) 0 lv st h = (match am_ld lv 1 with
    | some (.int x) => am_f d scr L call 82 n 1 lv (.int x :: st) h
    | _ => none) := k_li (i := .iload_n 1) rfl rfl rfl rfl
theorem s_82_1 (d L n : Nat) (scr : Nat → Int32) (call : Nat → List Value → am_H → Option am_X) (lv : am_L) (st : List Value) (h : am_H) : am_f d scr L call 82 (n + 1) 1 lv st h = (match am_ld lv 2 with
    | some (.int x) => am_f d scr L call 82 n 2 lv (.int x :: st) h
    | _ => none) := k_li (i := .iload_n 2) rfl rfl rfl rfl
theorem s_82_2 (d L n : Nat) (scr : Nat → Int32) (call : Nat → List Value → am_H → Option am_X) (lv : am_L) (st : List Value) (h : am_H) (x y : Int32) : am_f d scr L call 82 (n + 1) 2 lv (.int y :: .int x :: st) h = if x = y then am_f d scr L call 82 n 13 lv st h else am_f d scr L call 82 n 5 lv st h := k_ic_eq (o := 11) rfl ⟨by decide, rfl⟩
theorem s_82_5 (d L n : Nat) (scr : Nat → Int32) (call : Nat → List Value → am_H → Option am_X) (lv : am_L) (st : List Value) (h : am_H) : am_f d scr L call 82 (n + 1) 5 lv st h = (match am_ld lv 1 with
    | some (.int x) => am_f d scr L call 82 n 6 lv (.int x :: st) h
    | _ => none) := k_li (i := .iload_n 1) rfl rfl rfl rfl
theorem s_82_6 (d L n : Nat) (scr : Nat → Int32) (call : Nat → List Value → am_H → Option am_X) (lv : am_L) (st : List Value) (h : am_H) (x : Int32) : am_f d scr L call 82 (n + 1) 6 lv (.int x :: st) h = if x = 0 then am_f d scr L call 82 n 13 lv st h else am_f d scr L call 82 n 9 lv st h := k_if_eq (o := 7) rfl ⟨by decide, rfl⟩
theorem s_82_9 (d L n : Nat) (scr : Nat → Int32) (call : Nat → List Value → am_H → Option am_X) (lv : am_L) (st : List Value) (h : am_H) : am_f d scr L call 82 (n + 1) 9 lv st h = (match am_ld lv 2 with
    | some (.int x) => am_f d scr L call 82 n 10 lv (.int x :: st) h
    | _ => none) := k_li (i := .iload_n 2) rfl rfl rfl rfl
theorem s_82_10 (d L n : Nat) (scr : Nat → Int32) (call : Nat → List Value → am_H → Option am_X) (lv : am_L) (st : List Value) (h : am_H) (x : Int32) : am_f d scr L call 82 (n + 1) 10 lv (.int x :: st) h = if ¬ x = 0 then am_f d scr L call 82 n 15 lv st h else am_f d scr L call 82 n 13 lv st h := k_if_ne (o := 5) rfl ⟨by decide, rfl⟩
theorem s_82_13 (d L n : Nat) (scr : Nat → Int32) (call : Nat → List Value → am_H → Option am_X) (lv : am_L) (st : List Value) (h : am_H) : am_f d scr L call 82 (n + 1) 13 lv st h = am_f d scr L call 82 n 14 lv (.int 1 :: st) h := k_nx (i := .iconst 1) rfl rfl
theorem s_82_14 (d L n : Nat) (scr : Nat → Int32) (call : Nat → List Value → am_H → Option am_X) (lv : am_L) (h : am_H) (x : Int32) : am_f d scr L call 82 (n + 1) 14 lv [.int x] h = if x = 0 ∨ x = 1 then some (some (.int x), h, 0, 0) else none := k_zr rfl rfl
theorem s_82_15 (d L n : Nat) (scr : Nat → Int32) (call : Nat → List Value → am_H → Option am_X) (lv : am_L) (st : List Value) (h : am_H) : am_f d scr L call 82 (n + 1) 15 lv st h = (match am_ld lv 0 with
    | some (.ref x) => am_f d scr L call 82 n 16 lv (.ref x :: st) h
    | _ => none) := k_la (i := .aload_n 0) rfl rfl rfl rfl
theorem s_82_16 (d L n : Nat) (scr : Nat → Int32) (call : Nat → List Value → am_H → Option am_X) (lv : am_L) (st : List Value) (h : am_H) (a : Nat) : am_f d scr L call 82 (n + 1) 16 lv (.ref a :: st) h = (match am_get h a 7 0 with
    | some v => am_f d scr L call 82 n 19 lv (v :: st) h
    | none => none) := k_gf (k := 11) rfl rfl
theorem s_82_19 (d L n : Nat) (scr : Nat → Int32) (call : Nat → List Value → am_H → Option am_X) (lv : am_L) (st : List Value) (h : am_H) : am_f d scr L call 82 (n + 1) 19 lv st h = (match am_ld lv 1 with
    | some (.int x) => am_f d scr L call 82 n 20 lv (.int x :: st) h
    | _ => none) := k_li (i := .iload_n 1) rfl rfl rfl rfl
theorem s_82_20 (d L n : Nat) (scr : Nat → Int32) (call : Nat → List Value → am_H → Option am_X) (lv : am_L) (st : List Value) (h : am_H) (a : Nat) (i : Int32) : am_f d scr L call 82 (n + 1) 20 lv (.int i :: .ref a :: st) h = (match am_ild scr L h a i with
    | some x => am_f d scr L call 82 n 21 lv (.int x :: st) h
    | none => none) := k_ia rfl
theorem s_82_21 (d L n : Nat) (scr : Nat → Int32) (call : Nat → List Value → am_H → Option am_X) (lv : am_L) (st : List Value) (h : am_H) : am_f d scr L call 82 (n + 1) 21 lv st h = (match am_ld lv 0 with
    | some (.ref x) => am_f d scr L call 82 n 22 lv (.ref x :: st) h
    | _ => none) := k_la (i := .aload_n 0) rfl rfl rfl rfl
theorem s_82_22 (d L n : Nat) (scr : Nat → Int32) (call : Nat → List Value → am_H → Option am_X) (lv : am_L) (st : List Value) (h : am_H) (a : Nat) : am_f d scr L call 82 (n + 1) 22 lv (.ref a :: st) h = (match am_get h a 7 0 with
    | some v => am_f d scr L call 82 n 25 lv (v :: st) h
    | none => none) := k_gf (k := 11) rfl rfl
theorem s_82_25 (d L n : Nat) (scr : Nat → Int32) (call : Nat → List Value → am_H → Option am_X) (lv : am_L) (st : List Value) (h : am_H) : am_f d scr L call 82 (n + 1) 25 lv st h = (match am_ld lv 2 with
    | some (.int x) => am_f d scr L call 82 n 26 lv (.int x :: st) h
    | _ => none) := k_li (i := .iload_n 2) rfl rfl rfl rfl
theorem s_82_26 (d L n : Nat) (scr : Nat → Int32) (call : Nat → List Value → am_H → Option am_X) (lv : am_L) (st : List Value) (h : am_H) (a : Nat) (i : Int32) : am_f d scr L call 82 (n + 1) 26 lv (.int i :: .ref a :: st) h = (match am_ild scr L h a i with
    | some x => am_f d scr L call 82 n 27 lv (.int x :: st) h
    | none => none) := k_ia rfl
theorem s_82_27 (d L n : Nat) (scr : Nat → Int32) (call : Nat → List Value → am_H → Option am_X) (lv : am_L) (st : List Value) (h : am_H) (x y : Int32) : am_f d scr L call 82 (n + 1) 27 lv (.int y :: .int x :: st) h = if ¬ x = y then am_f d scr L call 82 n 36 lv st h else am_f d scr L call 82 n 30 lv st h := k_ic_ne (o := 9) rfl ⟨by decide, rfl⟩
theorem s_82_30 (d L n : Nat) (scr : Nat → Int32) (call : Nat → List Value → am_H → Option am_X) (lv : am_L) (st : List Value) (h : am_H) : am_f d scr L call 82 (n + 1) 30 lv st h = (match am_ld lv 3 with
    | some (.int x) => am_f d scr L call 82 n 31 lv (.int x :: st) h
    | _ => none) := k_li (i := .iload_n 3) rfl rfl rfl rfl
theorem s_82_31 (d L n : Nat) (scr : Nat → Int32) (call : Nat → List Value → am_H → Option am_X) (lv : am_L) (st : List Value) (h : am_H) : am_f d scr L call 82 (n + 1) 31 lv st h = am_f d scr L call 82 n 33 lv (.int 40 :: st) h := k_nx (i := .bipush 40) rfl rfl
theorem s_82_33 (d L n : Nat) (scr : Nat → Int32) (call : Nat → List Value → am_H → Option am_X) (lv : am_L) (st : List Value) (h : am_H) (x y : Int32) : am_f d scr L call 82 (n + 1) 33 lv (.int y :: .int x :: st) h = if x ≤ y then am_f d scr L call 82 n 38 lv st h else am_f d scr L call 82 n 36 lv st h := k_ic_le (o := 5) rfl ⟨by decide, rfl⟩
theorem s_82_36 (d L n : Nat) (scr : Nat → Int32) (call : Nat → List Value → am_H → Option am_X) (lv : am_L) (st : List Value) (h : am_H) : am_f d scr L call 82 (n + 1) 36 lv st h = am_f d scr L call 82 n 37 lv (.int 0 :: st) h := k_nx (i := .iconst 0) rfl rfl
theorem s_82_37 (d L n : Nat) (scr : Nat → Int32) (call : Nat → List Value → am_H → Option am_X) (lv : am_L) (h : am_H) (x : Int32) : am_f d scr L call 82 (n + 1) 37 lv [.int x] h = if x = 0 ∨ x = 1 then some (some (.int x), h, 0, 0) else none := k_zr rfl rfl
theorem s_82_38 (d L n : Nat) (scr : Nat → Int32) (call : Nat → List Value → am_H → Option am_X) (lv : am_L) (st : List Value) (h : am_H) : am_f d scr L call 82 (n + 1) 38 lv st h = (match am_ld lv 0 with
    | some (.ref x) => am_f d scr L call 82 n 39 lv (.ref x :: st) h
    | _ => none) := k_la (i := .aload_n 0) rfl rfl rfl rfl
theorem s_82_39 (d L n : Nat) (scr : Nat → Int32) (call : Nat → List Value → am_H → Option am_X) (lv : am_L) (st : List Value) (h : am_H) (a : Nat) : am_f d scr L call 82 (n + 1) 39 lv (.ref a :: st) h = (match am_get h a 7 0 with
    | some v => am_f d scr L call 82 n 42 lv (v :: st) h
    | none => none) := k_gf (k := 11) rfl rfl
theorem s_82_42 (d L n : Nat) (scr : Nat → Int32) (call : Nat → List Value → am_H → Option am_X) (lv : am_L) (st : List Value) (h : am_H) : am_f d scr L call 82 (n + 1) 42 lv st h = (match am_ld lv 1 with
    | some (.int x) => am_f d scr L call 82 n 43 lv (.int x :: st) h
    | _ => none) := k_li (i := .iload_n 1) rfl rfl rfl rfl
theorem s_82_43 (d L n : Nat) (scr : Nat → Int32) (call : Nat → List Value → am_H → Option am_X) (lv : am_L) (st : List Value) (h : am_H) (a : Nat) (i : Int32) : am_f d scr L call 82 (n + 1) 43 lv (.int i :: .ref a :: st) h = (match am_ild scr L h a i with
    | some x => am_f d scr L call 82 n 44 lv (.int x :: st) h
    | none => none) := k_ia rfl
theorem s_82_44 (d L n : Nat) (scr : Nat → Int32) (call : Nat → List Value → am_H → Option am_X) (lv : am_L) (st : List Value) (h : am_H) : am_f d scr L call 82 (n + 1) 44 lv st h = am_f d scr L call 82 n 45 lv (.int 3 :: st) h := k_nx (i := .iconst 3) rfl rfl
theorem s_82_45 (d L n : Nat) (scr : Nat → Int32) (call : Nat → List Value → am_H → Option am_X) (lv : am_L) (st : List Value) (h : am_H) (x y : Int32) : am_f d scr L call 82 (n + 1) 45 lv (.int y :: .int x :: st) h = if ¬ x = y then am_f d scr L call 82 n 72 lv st h else am_f d scr L call 82 n 48 lv st h := k_ic_ne (o := 27) rfl ⟨by decide, rfl⟩
theorem s_82_48 (d L n : Nat) (scr : Nat → Int32) (call : Nat → List Value → am_H → Option am_X) (lv : am_L) (st : List Value) (h : am_H) : am_f d scr L call 82 (n + 1) 48 lv st h = (match am_ld lv 0 with
    | some (.ref x) => am_f d scr L call 82 n 49 lv (.ref x :: st) h
    | _ => none) := k_la (i := .aload_n 0) rfl rfl rfl rfl
theorem s_82_49 (d L n : Nat) (scr : Nat → Int32) (call : Nat → List Value → am_H → Option am_X) (lv : am_L) (st : List Value) (h : am_H) : am_f d scr L call 82 (n + 1) 49 lv st h = (match am_ld lv 0 with
    | some (.ref x) => am_f d scr L call 82 n 50 lv (.ref x :: st) h
    | _ => none) := k_la (i := .aload_n 0) rfl rfl rfl rfl
theorem s_82_50 (d L n : Nat) (scr : Nat → Int32) (call : Nat → List Value → am_H → Option am_X) (lv : am_L) (st : List Value) (h : am_H) (a : Nat) : am_f d scr L call 82 (n + 1) 50 lv (.ref a :: st) h = (match am_get h a 7 1 with
    | some v => am_f d scr L call 82 n 53 lv (v :: st) h
    | none => none) := k_gf (k := 15) rfl rfl
theorem s_82_53 (d L n : Nat) (scr : Nat → Int32) (call : Nat → List Value → am_H → Option am_X) (lv : am_L) (st : List Value) (h : am_H) : am_f d scr L call 82 (n + 1) 53 lv st h = (match am_ld lv 1 with
    | some (.int x) => am_f d scr L call 82 n 54 lv (.int x :: st) h
    | _ => none) := k_li (i := .iload_n 1) rfl rfl rfl rfl
theorem s_82_54 (d L n : Nat) (scr : Nat → Int32) (call : Nat → List Value → am_H → Option am_X) (lv : am_L) (st : List Value) (h : am_H) (a : Nat) (i : Int32) : am_f d scr L call 82 (n + 1) 54 lv (.int i :: .ref a :: st) h = (match am_ild scr L h a i with
    | some x => am_f d scr L call 82 n 55 lv (.int x :: st) h
    | none => none) := k_ia rfl
theorem s_82_55 (d L n : Nat) (scr : Nat → Int32) (call : Nat → List Value → am_H → Option am_X) (lv : am_L) (st : List Value) (h : am_H) : am_f d scr L call 82 (n + 1) 55 lv st h = (match am_ld lv 0 with
    | some (.ref x) => am_f d scr L call 82 n 56 lv (.ref x :: st) h
    | _ => none) := k_la (i := .aload_n 0) rfl rfl rfl rfl
theorem s_82_56 (d L n : Nat) (scr : Nat → Int32) (call : Nat → List Value → am_H → Option am_X) (lv : am_L) (st : List Value) (h : am_H) (a : Nat) : am_f d scr L call 82 (n + 1) 56 lv (.ref a :: st) h = (match am_get h a 7 1 with
    | some v => am_f d scr L call 82 n 59 lv (v :: st) h
    | none => none) := k_gf (k := 15) rfl rfl
theorem s_82_59 (d L n : Nat) (scr : Nat → Int32) (call : Nat → List Value → am_H → Option am_X) (lv : am_L) (st : List Value) (h : am_H) : am_f d scr L call 82 (n + 1) 59 lv st h = (match am_ld lv 2 with
    | some (.int x) => am_f d scr L call 82 n 60 lv (.int x :: st) h
    | _ => none) := k_li (i := .iload_n 2) rfl rfl rfl rfl
theorem s_82_60 (d L n : Nat) (scr : Nat → Int32) (call : Nat → List Value → am_H → Option am_X) (lv : am_L) (st : List Value) (h : am_H) (a : Nat) (i : Int32) : am_f d scr L call 82 (n + 1) 60 lv (.int i :: .ref a :: st) h = (match am_ild scr L h a i with
    | some x => am_f d scr L call 82 n 61 lv (.int x :: st) h
    | none => none) := k_ia rfl
theorem s_82_61 (d L n : Nat) (scr : Nat → Int32) (call : Nat → List Value → am_H → Option am_X) (lv : am_L) (st : List Value) (h : am_H) : am_f d scr L call 82 (n + 1) 61 lv st h = (match am_ld lv 3 with
    | some (.int x) => am_f d scr L call 82 n 62 lv (.int x :: st) h
    | _ => none) := k_li (i := .iload_n 3) rfl rfl rfl rfl
theorem s_82_62 (d L n : Nat) (scr : Nat → Int32) (call : Nat → List Value → am_H → Option am_X) (lv : am_L) (st : List Value) (h : am_H) : am_f d scr L call 82 (n + 1) 62 lv st h = am_f d scr L call 82 n 63 lv (.int 1 :: st) h := k_nx (i := .iconst 1) rfl rfl
theorem s_82_63 (d L n : Nat) (scr : Nat → Int32) (call : Nat → List Value → am_H → Option am_X) (lv : am_L) (st : List Value) (h : am_H) (x y : Int32) : am_f d scr L call 82 (n + 1) 63 lv (.int y :: .int x :: st) h = am_f d scr L call 82 n 64 lv (.int (x + y) :: st) h := k_nx (i := .iadd) rfl rfl
theorem s_82_64 (d L n : Nat) (scr : Nat → Int32) (call : Nat → List Value → am_H → Option am_X) (lv : am_L) (h : am_H) (o : Nat) (a0 : Int32) (a1 : Int32) (a2 : Int32)  : am_f d scr L call 82 (n + 1) 64 lv (.int a2 :: .int a1 :: .int a0 :: .ref o :: []) h = if am_at h o 7 = true then (match call 82 [.ref o, .int a0, .int a1, .int a2] h with
    | some (v, h', dk, dn) => am_add dk dn (am_f d scr L call 82 n 67 lv (v.toList ++ []) h')
    | none => none) else none := k_iv0 (k := 32) (as := [.int a0, .int a1, .int a2]) (r := []) rfl rfl rfl rfl (Nat.le_of_ble_eq_true rfl)
theorem s_82_67 (d L n : Nat) (scr : Nat → Int32) (call : Nat → List Value → am_H → Option am_X) (lv : am_L) (st : List Value) (h : am_H) (x : Int32) : am_f d scr L call 82 (n + 1) 67 lv (.int x :: st) h = if ¬ x = 0 then am_f d scr L call 82 n 72 lv st h else am_f d scr L call 82 n 70 lv st h := k_if_ne (o := 5) rfl ⟨by decide, rfl⟩
theorem s_82_70 (d L n : Nat) (scr : Nat → Int32) (call : Nat → List Value → am_H → Option am_X) (lv : am_L) (st : List Value) (h : am_H) : am_f d scr L call 82 (n + 1) 70 lv st h = am_f d scr L call 82 n 71 lv (.int 0 :: st) h := k_nx (i := .iconst 0) rfl rfl
theorem s_82_71 (d L n : Nat) (scr : Nat → Int32) (call : Nat → List Value → am_H → Option am_X) (lv : am_L) (h : am_H) (x : Int32) : am_f d scr L call 82 (n + 1) 71 lv [.int x] h = if x = 0 ∨ x = 1 then some (some (.int x), h, 0, 0) else none := k_zr rfl rfl
theorem s_82_72 (d L n : Nat) (scr : Nat → Int32) (call : Nat → List Value → am_H → Option am_X) (lv : am_L) (st : List Value) (h : am_H) : am_f d scr L call 82 (n + 1) 72 lv st h = (match am_ld lv 0 with
    | some (.ref x) => am_f d scr L call 82 n 73 lv (.ref x :: st) h
    | _ => none) := k_la (i := .aload_n 0) rfl rfl rfl rfl
theorem s_82_73 (d L n : Nat) (scr : Nat → Int32) (call : Nat → List Value → am_H → Option am_X) (lv : am_L) (st : List Value) (h : am_H) : am_f d scr L call 82 (n + 1) 73 lv st h = (match am_ld lv 0 with
    | some (.ref x) => am_f d scr L call 82 n 74 lv (.ref x :: st) h
    | _ => none) := k_la (i := .aload_n 0) rfl rfl rfl rfl
theorem s_82_74 (d L n : Nat) (scr : Nat → Int32) (call : Nat → List Value → am_H → Option am_X) (lv : am_L) (st : List Value) (h : am_H) (a : Nat) : am_f d scr L call 82 (n + 1) 74 lv (.ref a :: st) h = (match am_get h a 7 2 with
    | some v => am_f d scr L call 82 n 77 lv (v :: st) h
    | none => none) := k_gf (k := 18) rfl rfl
theorem s_82_77 (d L n : Nat) (scr : Nat → Int32) (call : Nat → List Value → am_H → Option am_X) (lv : am_L) (st : List Value) (h : am_H) : am_f d scr L call 82 (n + 1) 77 lv st h = (match am_ld lv 1 with
    | some (.int x) => am_f d scr L call 82 n 78 lv (.int x :: st) h
    | _ => none) := k_li (i := .iload_n 1) rfl rfl rfl rfl
theorem s_82_78 (d L n : Nat) (scr : Nat → Int32) (call : Nat → List Value → am_H → Option am_X) (lv : am_L) (st : List Value) (h : am_H) (a : Nat) (i : Int32) : am_f d scr L call 82 (n + 1) 78 lv (.int i :: .ref a :: st) h = (match am_ild scr L h a i with
    | some x => am_f d scr L call 82 n 79 lv (.int x :: st) h
    | none => none) := k_ia rfl
theorem s_82_79 (d L n : Nat) (scr : Nat → Int32) (call : Nat → List Value → am_H → Option am_X) (lv : am_L) (st : List Value) (h : am_H) : am_f d scr L call 82 (n + 1) 79 lv st h = (match am_ld lv 0 with
    | some (.ref x) => am_f d scr L call 82 n 80 lv (.ref x :: st) h
    | _ => none) := k_la (i := .aload_n 0) rfl rfl rfl rfl
theorem s_82_80 (d L n : Nat) (scr : Nat → Int32) (call : Nat → List Value → am_H → Option am_X) (lv : am_L) (st : List Value) (h : am_H) (a : Nat) : am_f d scr L call 82 (n + 1) 80 lv (.ref a :: st) h = (match am_get h a 7 2 with
    | some v => am_f d scr L call 82 n 83 lv (v :: st) h
    | none => none) := k_gf (k := 18) rfl rfl
theorem s_82_83 (d L n : Nat) (scr : Nat → Int32) (call : Nat → List Value → am_H → Option am_X) (lv : am_L) (st : List Value) (h : am_H) : am_f d scr L call 82 (n + 1) 83 lv st h = (match am_ld lv 2 with
    | some (.int x) => am_f d scr L call 82 n 84 lv (.int x :: st) h
    | _ => none) := k_li (i := .iload_n 2) rfl rfl rfl rfl
theorem s_82_84 (d L n : Nat) (scr : Nat → Int32) (call : Nat → List Value → am_H → Option am_X) (lv : am_L) (st : List Value) (h : am_H) (a : Nat) (i : Int32) : am_f d scr L call 82 (n + 1) 84 lv (.int i :: .ref a :: st) h = (match am_ild scr L h a i with
    | some x => am_f d scr L call 82 n 85 lv (.int x :: st) h
    | none => none) := k_ia rfl
theorem s_82_85 (d L n : Nat) (scr : Nat → Int32) (call : Nat → List Value → am_H → Option am_X) (lv : am_L) (st : List Value) (h : am_H) : am_f d scr L call 82 (n + 1) 85 lv st h = (match am_ld lv 3 with
    | some (.int x) => am_f d scr L call 82 n 86 lv (.int x :: st) h
    | _ => none) := k_li (i := .iload_n 3) rfl rfl rfl rfl
theorem s_82_86 (d L n : Nat) (scr : Nat → Int32) (call : Nat → List Value → am_H → Option am_X) (lv : am_L) (st : List Value) (h : am_H) : am_f d scr L call 82 (n + 1) 86 lv st h = am_f d scr L call 82 n 87 lv (.int 1 :: st) h := k_nx (i := .iconst 1) rfl rfl
theorem s_82_87 (d L n : Nat) (scr : Nat → Int32) (call : Nat → List Value → am_H → Option am_X) (lv : am_L) (st : List Value) (h : am_H) (x y : Int32) : am_f d scr L call 82 (n + 1) 87 lv (.int y :: .int x :: st) h = am_f d scr L call 82 n 88 lv (.int (x + y) :: st) h := k_nx (i := .iadd) rfl rfl
theorem s_82_88 (d L n : Nat) (scr : Nat → Int32) (call : Nat → List Value → am_H → Option am_X) (lv : am_L) (h : am_H) (o : Nat) (a0 : Int32) (a1 : Int32) (a2 : Int32)  : am_f d scr L call 82 (n + 1) 88 lv (.int a2 :: .int a1 :: .int a0 :: .ref o :: []) h = if am_at h o 7 = true then (match call 82 [.ref o, .int a0, .int a1, .int a2] h with
    | some (v, h', dk, dn) => am_add dk dn (am_f d scr L call 82 n 91 lv (v.toList ++ []) h')
    | none => none) else none := k_iv0 (k := 32) (as := [.int a0, .int a1, .int a2]) (r := []) rfl rfl rfl rfl (Nat.le_of_ble_eq_true rfl)
theorem s_82_91 (d L n : Nat) (scr : Nat → Int32) (call : Nat → List Value → am_H → Option am_X) (lv : am_L) (h : am_H) (x : Int32) : am_f d scr L call 82 (n + 1) 91 lv [.int x] h = if x = 0 ∨ x = 1 then some (some (.int x), h, 0, 0) else none := k_zr rfl rfl
-- 83: BlameDesk$Types.character(II)I
theorem s_83_0 (d L n : Nat) (scr : Nat → Int32) (call : Nat → List Value → am_H → Option am_X) (lv : am_L) (st : List Value) (h : am_H) : am_f d scr L call 83 (n + 1) 0 lv st h = (match am_ld lv 1 with
    | some (.int x) => am_f d scr L call 83 n 1 lv (.int x :: st) h
    | _ => none) := k_li (i := .iload_n 1) rfl rfl rfl rfl
theorem s_83_1 (d L n : Nat) (scr : Nat → Int32) (call : Nat → List Value → am_H → Option am_X) (lv : am_L) (st : List Value) (h : am_H) (x : Int32) : am_f d scr L call 83 (n + 1) 1 lv (.int x :: st) h = am_f d scr L call 83 n 2 (am_st1 lv 3 (.int x)) st h := k_nx (i := .istore_n 3) rfl rfl
theorem s_83_2 (d L n : Nat) (scr : Nat → Int32) (call : Nat → List Value → am_H → Option am_X) (lv : am_L) (st : List Value) (h : am_H) : am_f d scr L call 83 (n + 1) 2 lv st h = (match am_ld lv 2 with
    | some (.int x) => am_f d scr L call 83 n 3 lv (.int x :: st) h
    | _ => none) := k_li (i := .iload_n 2) rfl rfl rfl rfl
theorem s_83_3 (d L n : Nat) (scr : Nat → Int32) (call : Nat → List Value → am_H → Option am_X) (lv : am_L) (st : List Value) (h : am_H) (x : Int32) : am_f d scr L call 83 (n + 1) 3 lv (.int x :: st) h = am_f d scr L call 83 n 5 (am_st1 lv 4 (.int x)) st h := k_nx (i := .istore 4) rfl rfl
theorem s_83_5 (d L n : Nat) (scr : Nat → Int32) (call : Nat → List Value → am_H → Option am_X) (lv : am_L) (st : List Value) (h : am_H) : am_f d scr L call 83 (n + 1) 5 lv st h = am_f d scr L call 83 n 6 lv (.int 0 :: st) h := k_nx (i := .iconst 0) rfl rfl
theorem s_83_6 (d L n : Nat) (scr : Nat → Int32) (call : Nat → List Value → am_H → Option am_X) (lv : am_L) (st : List Value) (h : am_H) (x : Int32) : am_f d scr L call 83 (n + 1) 6 lv (.int x :: st) h = am_f d scr L call 83 n 8 (am_st1 lv 5 (.int x)) st h := k_nx (i := .istore 5) rfl rfl
theorem s_83_8 (d L n : Nat) (scr : Nat → Int32) (call : Nat → List Value → am_H → Option am_X) (lv : am_L) (st : List Value) (h : am_H) : am_f d scr L call 83 (n + 1) 8 lv st h = (match am_ld lv 5 with
    | some (.int x) => am_f d scr L call 83 n 10 lv (.int x :: st) h
    | _ => none) := k_li (i := .iload 5) rfl rfl rfl rfl
theorem s_83_10 (d L n : Nat) (scr : Nat → Int32) (call : Nat → List Value → am_H → Option am_X) (lv : am_L) (st : List Value) (h : am_H) : am_f d scr L call 83 (n + 1) 10 lv st h = am_f d scr L call 83 n 12 lv (.int 40 :: st) h := k_nx (i := .bipush 40) rfl rfl
theorem s_83_12 (d L n : Nat) (scr : Nat → Int32) (call : Nat → List Value → am_H → Option am_X) (lv : am_L) (st : List Value) (h : am_H) (x y : Int32) : am_f d scr L call 83 (n + 1) 12 lv (.int y :: .int x :: st) h = if y < x then am_f d scr L call 83 n 176 lv st h else am_f d scr L call 83 n 15 lv st h := k_ic_gt (o := 164) rfl ⟨by decide, rfl⟩
theorem s_83_15 (d L n : Nat) (scr : Nat → Int32) (call : Nat → List Value → am_H → Option am_X) (lv : am_L) (st : List Value) (h : am_H) : am_f d scr L call 83 (n + 1) 15 lv st h = (match am_ld lv 4 with
    | some (.int x) => am_f d scr L call 83 n 17 lv (.int x :: st) h
    | _ => none) := k_li (i := .iload 4) rfl rfl rfl rfl
theorem s_83_17 (d L n : Nat) (scr : Nat → Int32) (call : Nat → List Value → am_H → Option am_X) (lv : am_L) (st : List Value) (h : am_H) (x : Int32) : am_f d scr L call 83 (n + 1) 17 lv (.int x :: st) h = if x < 0 then am_f d scr L call 83 n 31 lv st h else am_f d scr L call 83 n 20 lv st h := k_if_lt (o := 14) rfl ⟨by decide, rfl⟩
theorem s_83_20 (d L n : Nat) (scr : Nat → Int32) (call : Nat → List Value → am_H → Option am_X) (lv : am_L) (st : List Value) (h : am_H) : am_f d scr L call 83 (n + 1) 20 lv st h = (match am_ld lv 4 with
    | some (.int x) => am_f d scr L call 83 n 22 lv (.int x :: st) h
    | _ => none) := k_li (i := .iload 4) rfl rfl rfl rfl
theorem s_83_22 (d L n : Nat) (scr : Nat → Int32) (call : Nat → List Value → am_H → Option am_X) (lv : am_L) (st : List Value) (h : am_H) : am_f d scr L call 83 (n + 1) 22 lv st h = (match am_ld lv 0 with
    | some (.ref x) => am_f d scr L call 83 n 23 lv (.ref x :: st) h
    | _ => none) := k_la (i := .aload_n 0) rfl rfl rfl rfl
theorem s_83_23 (d L n : Nat) (scr : Nat → Int32) (call : Nat → List Value → am_H → Option am_X) (lv : am_L) (st : List Value) (h : am_H) (a : Nat) : am_f d scr L call 83 (n + 1) 23 lv (.ref a :: st) h = (match am_get h a 7 3 with
    | some v => am_f d scr L call 83 n 26 lv (v :: st) h
    | none => none) := k_gf (k := 21) rfl rfl
theorem s_83_26 (d L n : Nat) (scr : Nat → Int32) (call : Nat → List Value → am_H → Option am_X) (lv : am_L) (st : List Value) (h : am_H) : am_f d scr L call 83 (n + 1) 26 lv st h = (match am_ld lv 3 with
    | some (.int x) => am_f d scr L call 83 n 27 lv (.int x :: st) h
    | _ => none) := k_li (i := .iload_n 3) rfl rfl rfl rfl
theorem s_83_27 (d L n : Nat) (scr : Nat → Int32) (call : Nat → List Value → am_H → Option am_X) (lv : am_L) (st : List Value) (h : am_H) (a : Nat) (i : Int32) : am_f d scr L call 83 (n + 1) 27 lv (.int i :: .ref a :: st) h = (match am_ild scr L h a i with
    | some x => am_f d scr L call 83 n 28 lv (.int x :: st) h
    | none => none) := k_ia rfl
theorem s_83_28 (d L n : Nat) (scr : Nat → Int32) (call : Nat → List Value → am_H → Option am_X) (lv : am_L) (st : List Value) (h : am_H) (x y : Int32) : am_f d scr L call 83 (n + 1) 28 lv (.int y :: .int x :: st) h = if x < y then am_f d scr L call 83 n 33 lv st h else am_f d scr L call 83 n 31 lv st h := k_ic_lt (o := 5) rfl ⟨by decide, rfl⟩
theorem s_83_31 (d L n : Nat) (scr : Nat → Int32) (call : Nat → List Value → am_H → Option am_X) (lv : am_L) (st : List Value) (h : am_H) : am_f d scr L call 83 (n + 1) 31 lv st h = am_f d scr L call 83 n 32 lv (.int (-1) :: st) h := k_nx (i := .iconst (-1)) rfl rfl
theorem s_83_32 (d L n : Nat) (scr : Nat → Int32) (call : Nat → List Value → am_H → Option am_X) (lv : am_L) (h : am_H) (x : Int32) : am_f d scr L call 83 (n + 1) 32 lv [.int x] h = some (some (.int x), h, 0, 0) := k_ir rfl rfl
theorem s_83_33 (d L n : Nat) (scr : Nat → Int32) (call : Nat → List Value → am_H → Option am_X) (lv : am_L) (st : List Value) (h : am_H) : am_f d scr L call 83 (n + 1) 33 lv st h = (match am_ld lv 0 with
    | some (.ref x) => am_f d scr L call 83 n 34 lv (.ref x :: st) h
    | _ => none) := k_la (i := .aload_n 0) rfl rfl rfl rfl
theorem s_83_34 (d L n : Nat) (scr : Nat → Int32) (call : Nat → List Value → am_H → Option am_X) (lv : am_L) (st : List Value) (h : am_H) (a : Nat) : am_f d scr L call 83 (n + 1) 34 lv (.ref a :: st) h = (match am_get h a 7 0 with
    | some v => am_f d scr L call 83 n 37 lv (v :: st) h
    | none => none) := k_gf (k := 11) rfl rfl
theorem s_83_37 (d L n : Nat) (scr : Nat → Int32) (call : Nat → List Value → am_H → Option am_X) (lv : am_L) (st : List Value) (h : am_H) : am_f d scr L call 83 (n + 1) 37 lv st h = (match am_ld lv 3 with
    | some (.int x) => am_f d scr L call 83 n 38 lv (.int x :: st) h
    | _ => none) := k_li (i := .iload_n 3) rfl rfl rfl rfl
theorem s_83_38 (d L n : Nat) (scr : Nat → Int32) (call : Nat → List Value → am_H → Option am_X) (lv : am_L) (st : List Value) (h : am_H) (a : Nat) (i : Int32) : am_f d scr L call 83 (n + 1) 38 lv (.int i :: .ref a :: st) h = (match am_ild scr L h a i with
    | some x => am_f d scr L call 83 n 39 lv (.int x :: st) h
    | none => none) := k_ia rfl
theorem s_83_39 (d L n : Nat) (scr : Nat → Int32) (call : Nat → List Value → am_H → Option am_X) (lv : am_L) (st : List Value) (h : am_H) : am_f d scr L call 83 (n + 1) 39 lv st h = am_f d scr L call 83 n 40 lv (.int 3 :: st) h := k_nx (i := .iconst 3) rfl rfl
theorem s_83_40 (d L n : Nat) (scr : Nat → Int32) (call : Nat → List Value → am_H → Option am_X) (lv : am_L) (st : List Value) (h : am_H) (x y : Int32) : am_f d scr L call 83 (n + 1) 40 lv (.int y :: .int x :: st) h = if y ≤ x then am_f d scr L call 83 n 55 lv st h else am_f d scr L call 83 n 43 lv st h := k_ic_ge (o := 15) rfl ⟨by decide, rfl⟩
theorem s_83_45 (d L n : Nat) (scr : Nat → Int32) (call : Nat → List Value → am_H → Option am_X) (lv : am_L) (st : List Value) (h : am_H) : am_f d scr L call 83 (n + 1) 45 lv st h = (match am_ld lv 0 with
    | some (.ref x) => am_f d scr L call 83 n 46 lv (.ref x :: st) h
    | _ => none) := k_la (i := .aload_n 0) rfl rfl rfl rfl
theorem s_83_46 (d L n : Nat) (scr : Nat → Int32) (call : Nat → List Value → am_H → Option am_X) (lv : am_L) (st : List Value) (h : am_H) (a : Nat) : am_f d scr L call 83 (n + 1) 46 lv (.ref a :: st) h = (match am_get h a 7 0 with
    | some v => am_f d scr L call 83 n 49 lv (v :: st) h
    | none => none) := k_gf (k := 11) rfl rfl
theorem s_83_49 (d L n : Nat) (scr : Nat → Int32) (call : Nat → List Value → am_H → Option am_X) (lv : am_L) (st : List Value) (h : am_H) : am_f d scr L call 83 (n + 1) 49 lv st h = (match am_ld lv 3 with
    | some (.int x) => am_f d scr L call 83 n 50 lv (.int x :: st) h
    | _ => none) := k_li (i := .iload_n 3) rfl rfl rfl rfl
theorem s_83_50 (d L n : Nat) (scr : Nat → Int32) (call : Nat → List Value → am_H → Option am_X) (lv : am_L) (st : List Value) (h : am_H) (a : Nat) (i : Int32) : am_f d scr L call 83 (n + 1) 50 lv (.int i :: .ref a :: st) h = (match am_ild scr L h a i with
    | some x => am_f d scr L call 83 n 51 lv (.int x :: st) h
    | none => none) := k_ia rfl
theorem s_83_54 (d L n : Nat) (scr : Nat → Int32) (call : Nat → List Value → am_H → Option am_X) (lv : am_L) (h : am_H) (x : Int32) : am_f d scr L call 83 (n + 1) 54 lv [.int x] h = some (some (.int x), h, 0, 0) := k_ir rfl rfl
theorem s_83_55 (d L n : Nat) (scr : Nat → Int32) (call : Nat → List Value → am_H → Option am_X) (lv : am_L) (st : List Value) (h : am_H) : am_f d scr L call 83 (n + 1) 55 lv st h = (match am_ld lv 4 with
    | some (.int x) => am_f d scr L call 83 n 57 lv (.int x :: st) h
    | _ => none) := k_li (i := .iload 4) rfl rfl rfl rfl
theorem s_83_57 (d L n : Nat) (scr : Nat → Int32) (call : Nat → List Value → am_H → Option am_X) (lv : am_L) (st : List Value) (h : am_H) (x : Int32) : am_f d scr L call 83 (n + 1) 57 lv (.int x :: st) h = if ¬ x = 0 then am_f d scr L call 83 n 78 lv st h else am_f d scr L call 83 n 60 lv st h := k_if_ne (o := 21) rfl ⟨by decide, rfl⟩
theorem s_83_60 (d L n : Nat) (scr : Nat → Int32) (call : Nat → List Value → am_H → Option am_X) (lv : am_L) (st : List Value) (h : am_H) : am_f d scr L call 83 (n + 1) 60 lv st h = (match am_ld lv 0 with
    | some (.ref x) => am_f d scr L call 83 n 61 lv (.ref x :: st) h
    | _ => none) := k_la (i := .aload_n 0) rfl rfl rfl rfl
theorem s_83_61 (d L n : Nat) (scr : Nat → Int32) (call : Nat → List Value → am_H → Option am_X) (lv : am_L) (st : List Value) (h : am_H) (a : Nat) : am_f d scr L call 83 (n + 1) 61 lv (.ref a :: st) h = (match am_get h a 7 0 with
    | some v => am_f d scr L call 83 n 64 lv (v :: st) h
    | none => none) := k_gf (k := 11) rfl rfl
theorem s_83_64 (d L n : Nat) (scr : Nat → Int32) (call : Nat → List Value → am_H → Option am_X) (lv : am_L) (st : List Value) (h : am_H) : am_f d scr L call 83 (n + 1) 64 lv st h = (match am_ld lv 3 with
    | some (.int x) => am_f d scr L call 83 n 65 lv (.int x :: st) h
    | _ => none) := k_li (i := .iload_n 3) rfl rfl rfl rfl
theorem s_83_65 (d L n : Nat) (scr : Nat → Int32) (call : Nat → List Value → am_H → Option am_X) (lv : am_L) (st : List Value) (h : am_H) (a : Nat) (i : Int32) : am_f d scr L call 83 (n + 1) 65 lv (.int i :: .ref a :: st) h = (match am_ild scr L h a i with
    | some x => am_f d scr L call 83 n 66 lv (.int x :: st) h
    | none => none) := k_ia rfl
theorem s_83_66 (d L n : Nat) (scr : Nat → Int32) (call : Nat → List Value → am_H → Option am_X) (lv : am_L) (st : List Value) (h : am_H) : am_f d scr L call 83 (n + 1) 66 lv st h = am_f d scr L call 83 n 67 lv (.int 4 :: st) h := k_nx (i := .iconst 4) rfl rfl
theorem s_83_67 (d L n : Nat) (scr : Nat → Int32) (call : Nat → List Value → am_H → Option am_X) (lv : am_L) (st : List Value) (h : am_H) (x y : Int32) : am_f d scr L call 83 (n + 1) 67 lv (.int y :: .int x :: st) h = if ¬ x = y then am_f d scr L call 83 n 75 lv st h else am_f d scr L call 83 n 70 lv st h := k_ic_ne (o := 8) rfl ⟨by decide, rfl⟩
theorem s_83_70 (d L n : Nat) (scr : Nat → Int32) (call : Nat → List Value → am_H → Option am_X) (lv : am_L) (st : List Value) (h : am_H) : am_f d scr L call 83 (n + 1) 70 lv st h = am_f d scr L call 83 n 72 lv (.int 38 :: st) h := k_nx (i := .bipush 38) rfl rfl
theorem s_83_72 (d L n : Nat) (scr : Nat → Int32) (call : Nat → List Value → am_H → Option am_X) (lv : am_L) (st : List Value) (h : am_H) : am_f d scr L call 83 (n + 1) 72 lv st h = am_f d scr L call 83 n 77 lv st h := k_nx (i := .goto 5) rfl rfl
theorem s_83_75 (d L n : Nat) (scr : Nat → Int32) (call : Nat → List Value → am_H → Option am_X) (lv : am_L) (st : List Value) (h : am_H) : am_f d scr L call 83 (n + 1) 75 lv st h = am_f d scr L call 83 n 77 lv (.int 40 :: st) h := k_nx (i := .bipush 40) rfl rfl
theorem s_83_77 (d L n : Nat) (scr : Nat → Int32) (call : Nat → List Value → am_H → Option am_X) (lv : am_L) (h : am_H) (x : Int32) : am_f d scr L call 83 (n + 1) 77 lv [.int x] h = some (some (.int x), h, 0, 0) := k_ir rfl rfl
theorem s_83_78 (d L n : Nat) (scr : Nat → Int32) (call : Nat → List Value → am_H → Option am_X) (lv : am_L) (st : List Value) (h : am_H) : am_f d scr L call 83 (n + 1) 78 lv st h = (match am_ld lv 4 with
    | some (.int x) => am_f d scr L call 83 n 81 (am_st1 lv 4 (.int (x + (-1)))) st h
    | _ => none) := k_iinc (k := 4) (c := (-1)) rfl rfl (Nat.le_of_ble_eq_true rfl)
theorem s_83_81 (d L n : Nat) (scr : Nat → Int32) (call : Nat → List Value → am_H → Option am_X) (lv : am_L) (st : List Value) (h : am_H) : am_f d scr L call 83 (n + 1) 81 lv st h = (match am_ld lv 0 with
    | some (.ref x) => am_f d scr L call 83 n 82 lv (.ref x :: st) h
    | _ => none) := k_la (i := .aload_n 0) rfl rfl rfl rfl
theorem s_83_82 (d L n : Nat) (scr : Nat → Int32) (call : Nat → List Value → am_H → Option am_X) (lv : am_L) (st : List Value) (h : am_H) (a : Nat) : am_f d scr L call 83 (n + 1) 82 lv (.ref a :: st) h = (match am_get h a 7 0 with
    | some v => am_f d scr L call 83 n 85 lv (v :: st) h
    | none => none) := k_gf (k := 11) rfl rfl
theorem s_83_85 (d L n : Nat) (scr : Nat → Int32) (call : Nat → List Value → am_H → Option am_X) (lv : am_L) (st : List Value) (h : am_H) : am_f d scr L call 83 (n + 1) 85 lv st h = (match am_ld lv 3 with
    | some (.int x) => am_f d scr L call 83 n 86 lv (.int x :: st) h
    | _ => none) := k_li (i := .iload_n 3) rfl rfl rfl rfl
theorem s_83_86 (d L n : Nat) (scr : Nat → Int32) (call : Nat → List Value → am_H → Option am_X) (lv : am_L) (st : List Value) (h : am_H) (a : Nat) (i : Int32) : am_f d scr L call 83 (n + 1) 86 lv (.int i :: .ref a :: st) h = (match am_ild scr L h a i with
    | some x => am_f d scr L call 83 n 87 lv (.int x :: st) h
    | none => none) := k_ia rfl
theorem s_83_87 (d L n : Nat) (scr : Nat → Int32) (call : Nat → List Value → am_H → Option am_X) (lv : am_L) (st : List Value) (h : am_H) : am_f d scr L call 83 (n + 1) 87 lv st h = am_f d scr L call 83 n 88 lv (.int 4 :: st) h := k_nx (i := .iconst 4) rfl rfl
theorem s_83_88 (d L n : Nat) (scr : Nat → Int32) (call : Nat → List Value → am_H → Option am_X) (lv : am_L) (st : List Value) (h : am_H) (x y : Int32) : am_f d scr L call 83 (n + 1) 88 lv (.int y :: .int x :: st) h = if x = y then am_f d scr L call 83 n 107 lv st h else am_f d scr L call 83 n 91 lv st h := k_ic_eq (o := 19) rfl ⟨by decide, rfl⟩
theorem s_83_91 (d L n : Nat) (scr : Nat → Int32) (call : Nat → List Value → am_H → Option am_X) (lv : am_L) (st : List Value) (h : am_H) : am_f d scr L call 83 (n + 1) 91 lv st h = (match am_ld lv 4 with
    | some (.int x) => am_f d scr L call 83 n 93 lv (.int x :: st) h
    | _ => none) := k_li (i := .iload 4) rfl rfl rfl rfl
theorem s_83_93 (d L n : Nat) (scr : Nat → Int32) (call : Nat → List Value → am_H → Option am_X) (lv : am_L) (st : List Value) (h : am_H) : am_f d scr L call 83 (n + 1) 93 lv st h = (match am_ld lv 0 with
    | some (.ref x) => am_f d scr L call 83 n 94 lv (.ref x :: st) h
    | _ => none) := k_la (i := .aload_n 0) rfl rfl rfl rfl
theorem s_83_94 (d L n : Nat) (scr : Nat → Int32) (call : Nat → List Value → am_H → Option am_X) (lv : am_L) (st : List Value) (h : am_H) (a : Nat) : am_f d scr L call 83 (n + 1) 94 lv (.ref a :: st) h = (match am_get h a 7 3 with
    | some v => am_f d scr L call 83 n 97 lv (v :: st) h
    | none => none) := k_gf (k := 21) rfl rfl
theorem s_83_97 (d L n : Nat) (scr : Nat → Int32) (call : Nat → List Value → am_H → Option am_X) (lv : am_L) (st : List Value) (h : am_H) : am_f d scr L call 83 (n + 1) 97 lv st h = (match am_ld lv 0 with
    | some (.ref x) => am_f d scr L call 83 n 98 lv (.ref x :: st) h
    | _ => none) := k_la (i := .aload_n 0) rfl rfl rfl rfl
theorem s_83_98 (d L n : Nat) (scr : Nat → Int32) (call : Nat → List Value → am_H → Option am_X) (lv : am_L) (st : List Value) (h : am_H) (a : Nat) : am_f d scr L call 83 (n + 1) 98 lv (.ref a :: st) h = (match am_get h a 7 1 with
    | some v => am_f d scr L call 83 n 101 lv (v :: st) h
    | none => none) := k_gf (k := 15) rfl rfl
theorem s_83_101 (d L n : Nat) (scr : Nat → Int32) (call : Nat → List Value → am_H → Option am_X) (lv : am_L) (st : List Value) (h : am_H) : am_f d scr L call 83 (n + 1) 101 lv st h = (match am_ld lv 3 with
    | some (.int x) => am_f d scr L call 83 n 102 lv (.int x :: st) h
    | _ => none) := k_li (i := .iload_n 3) rfl rfl rfl rfl
theorem s_83_102 (d L n : Nat) (scr : Nat → Int32) (call : Nat → List Value → am_H → Option am_X) (lv : am_L) (st : List Value) (h : am_H) (a : Nat) (i : Int32) : am_f d scr L call 83 (n + 1) 102 lv (.int i :: .ref a :: st) h = (match am_ild scr L h a i with
    | some x => am_f d scr L call 83 n 103 lv (.int x :: st) h
    | none => none) := k_ia rfl
theorem s_83_103 (d L n : Nat) (scr : Nat → Int32) (call : Nat → List Value → am_H → Option am_X) (lv : am_L) (st : List Value) (h : am_H) (a : Nat) (i : Int32) : am_f d scr L call 83 (n + 1) 103 lv (.int i :: .ref a :: st) h = (match am_ild scr L h a i with
    | some x => am_f d scr L call 83 n 104 lv (.int x :: st) h
    | none => none) := k_ia rfl
theorem s_83_104 (d L n : Nat) (scr : Nat → Int32) (call : Nat → List Value → am_H → Option am_X) (lv : am_L) (st : List Value) (h : am_H) (x y : Int32) : am_f d scr L call 83 (n + 1) 104 lv (.int y :: .int x :: st) h = if y ≤ x then am_f d scr L call 83 n 117 lv st h else am_f d scr L call 83 n 107 lv st h := k_ic_ge (o := 13) rfl ⟨by decide, rfl⟩
theorem s_83_107 (d L n : Nat) (scr : Nat → Int32) (call : Nat → List Value → am_H → Option am_X) (lv : am_L) (st : List Value) (h : am_H) : am_f d scr L call 83 (n + 1) 107 lv st h = (match am_ld lv 0 with
    | some (.ref x) => am_f d scr L call 83 n 108 lv (.ref x :: st) h
    | _ => none) := k_la (i := .aload_n 0) rfl rfl rfl rfl
theorem s_83_108 (d L n : Nat) (scr : Nat → Int32) (call : Nat → List Value → am_H → Option am_X) (lv : am_L) (st : List Value) (h : am_H) (a : Nat) : am_f d scr L call 83 (n + 1) 108 lv (.ref a :: st) h = (match am_get h a 7 1 with
    | some v => am_f d scr L call 83 n 111 lv (v :: st) h
    | none => none) := k_gf (k := 15) rfl rfl
theorem s_83_111 (d L n : Nat) (scr : Nat → Int32) (call : Nat → List Value → am_H → Option am_X) (lv : am_L) (st : List Value) (h : am_H) : am_f d scr L call 83 (n + 1) 111 lv st h = (match am_ld lv 3 with
    | some (.int x) => am_f d scr L call 83 n 112 lv (.int x :: st) h
    | _ => none) := k_li (i := .iload_n 3) rfl rfl rfl rfl
theorem s_83_112 (d L n : Nat) (scr : Nat → Int32) (call : Nat → List Value → am_H → Option am_X) (lv : am_L) (st : List Value) (h : am_H) (a : Nat) (i : Int32) : am_f d scr L call 83 (n + 1) 112 lv (.int i :: .ref a :: st) h = (match am_ild scr L h a i with
    | some x => am_f d scr L call 83 n 113 lv (.int x :: st) h
    | none => none) := k_ia rfl
theorem s_83_113 (d L n : Nat) (scr : Nat → Int32) (call : Nat → List Value → am_H → Option am_X) (lv : am_L) (st : List Value) (h : am_H) (x : Int32) : am_f d scr L call 83 (n + 1) 113 lv (.int x :: st) h = am_f d scr L call 83 n 114 (am_st1 lv 3 (.int x)) st h := k_nx (i := .istore_n 3) rfl rfl
theorem s_83_114 (d L n : Nat) (scr : Nat → Int32) (call : Nat → List Value → am_H → Option am_X) (lv : am_L) (st : List Value) (h : am_H) : am_f d scr L call 83 (n + 1) 114 lv st h = am_f d scr L call 83 n 170 lv st h := k_nx (i := .goto 56) rfl rfl
theorem s_83_117 (d L n : Nat) (scr : Nat → Int32) (call : Nat → List Value → am_H → Option am_X) (lv : am_L) (st : List Value) (h : am_H) : am_f d scr L call 83 (n + 1) 117 lv st h = (match am_ld lv 4 with
    | some (.int x) => am_f d scr L call 83 n 119 lv (.int x :: st) h
    | _ => none) := k_li (i := .iload 4) rfl rfl rfl rfl
theorem s_83_119 (d L n : Nat) (scr : Nat → Int32) (call : Nat → List Value → am_H → Option am_X) (lv : am_L) (st : List Value) (h : am_H) : am_f d scr L call 83 (n + 1) 119 lv st h = (match am_ld lv 0 with
    | some (.ref x) => am_f d scr L call 83 n 120 lv (.ref x :: st) h
    | _ => none) := k_la (i := .aload_n 0) rfl rfl rfl rfl
theorem s_83_120 (d L n : Nat) (scr : Nat → Int32) (call : Nat → List Value → am_H → Option am_X) (lv : am_L) (st : List Value) (h : am_H) (a : Nat) : am_f d scr L call 83 (n + 1) 120 lv (.ref a :: st) h = (match am_get h a 7 3 with
    | some v => am_f d scr L call 83 n 123 lv (v :: st) h
    | none => none) := k_gf (k := 21) rfl rfl
theorem s_83_123 (d L n : Nat) (scr : Nat → Int32) (call : Nat → List Value → am_H → Option am_X) (lv : am_L) (st : List Value) (h : am_H) : am_f d scr L call 83 (n + 1) 123 lv st h = (match am_ld lv 0 with
    | some (.ref x) => am_f d scr L call 83 n 124 lv (.ref x :: st) h
    | _ => none) := k_la (i := .aload_n 0) rfl rfl rfl rfl
theorem s_83_124 (d L n : Nat) (scr : Nat → Int32) (call : Nat → List Value → am_H → Option am_X) (lv : am_L) (st : List Value) (h : am_H) (a : Nat) : am_f d scr L call 83 (n + 1) 124 lv (.ref a :: st) h = (match am_get h a 7 1 with
    | some v => am_f d scr L call 83 n 127 lv (v :: st) h
    | none => none) := k_gf (k := 15) rfl rfl
theorem s_83_127 (d L n : Nat) (scr : Nat → Int32) (call : Nat → List Value → am_H → Option am_X) (lv : am_L) (st : List Value) (h : am_H) : am_f d scr L call 83 (n + 1) 127 lv st h = (match am_ld lv 3 with
    | some (.int x) => am_f d scr L call 83 n 128 lv (.int x :: st) h
    | _ => none) := k_li (i := .iload_n 3) rfl rfl rfl rfl
theorem s_83_128 (d L n : Nat) (scr : Nat → Int32) (call : Nat → List Value → am_H → Option am_X) (lv : am_L) (st : List Value) (h : am_H) (a : Nat) (i : Int32) : am_f d scr L call 83 (n + 1) 128 lv (.int i :: .ref a :: st) h = (match am_ild scr L h a i with
    | some x => am_f d scr L call 83 n 129 lv (.int x :: st) h
    | none => none) := k_ia rfl
theorem s_83_129 (d L n : Nat) (scr : Nat → Int32) (call : Nat → List Value → am_H → Option am_X) (lv : am_L) (st : List Value) (h : am_H) (a : Nat) (i : Int32) : am_f d scr L call 83 (n + 1) 129 lv (.int i :: .ref a :: st) h = (match am_ild scr L h a i with
    | some x => am_f d scr L call 83 n 130 lv (.int x :: st) h
    | none => none) := k_ia rfl
theorem s_83_130 (d L n : Nat) (scr : Nat → Int32) (call : Nat → List Value → am_H → Option am_X) (lv : am_L) (st : List Value) (h : am_H) (x y : Int32) : am_f d scr L call 83 (n + 1) 130 lv (.int y :: .int x :: st) h = am_f d scr L call 83 n 131 lv (.int (x - y) :: st) h := k_nx (i := .isub) rfl rfl
theorem s_83_131 (d L n : Nat) (scr : Nat → Int32) (call : Nat → List Value → am_H → Option am_X) (lv : am_L) (st : List Value) (h : am_H) (x : Int32) : am_f d scr L call 83 (n + 1) 131 lv (.int x :: st) h = am_f d scr L call 83 n 133 (am_st1 lv 4 (.int x)) st h := k_nx (i := .istore 4) rfl rfl
theorem s_83_133 (d L n : Nat) (scr : Nat → Int32) (call : Nat → List Value → am_H → Option am_X) (lv : am_L) (st : List Value) (h : am_H) : am_f d scr L call 83 (n + 1) 133 lv st h = (match am_ld lv 4 with
    | some (.int x) => am_f d scr L call 83 n 135 lv (.int x :: st) h
    | _ => none) := k_li (i := .iload 4) rfl rfl rfl rfl
theorem s_83_135 (d L n : Nat) (scr : Nat → Int32) (call : Nat → List Value → am_H → Option am_X) (lv : am_L) (st : List Value) (h : am_H) (x : Int32) : am_f d scr L call 83 (n + 1) 135 lv (.int x :: st) h = if ¬ x = 0 then am_f d scr L call 83 n 141 lv st h else am_f d scr L call 83 n 138 lv st h := k_if_ne (o := 6) rfl ⟨by decide, rfl⟩
theorem s_83_138 (d L n : Nat) (scr : Nat → Int32) (call : Nat → List Value → am_H → Option am_X) (lv : am_L) (st : List Value) (h : am_H) : am_f d scr L call 83 (n + 1) 138 lv st h = am_f d scr L call 83 n 140 lv (.int 62 :: st) h := k_nx (i := .bipush 62) rfl rfl
theorem s_83_140 (d L n : Nat) (scr : Nat → Int32) (call : Nat → List Value → am_H → Option am_X) (lv : am_L) (h : am_H) (x : Int32) : am_f d scr L call 83 (n + 1) 140 lv [.int x] h = some (some (.int x), h, 0, 0) := k_ir rfl rfl
theorem s_83_141 (d L n : Nat) (scr : Nat → Int32) (call : Nat → List Value → am_H → Option am_X) (lv : am_L) (st : List Value) (h : am_H) : am_f d scr L call 83 (n + 1) 141 lv st h = (match am_ld lv 4 with
    | some (.int x) => am_f d scr L call 83 n 144 (am_st1 lv 4 (.int (x + (-1)))) st h
    | _ => none) := k_iinc (k := 4) (c := (-1)) rfl rfl (Nat.le_of_ble_eq_true rfl)
set_option maxRecDepth 100000 in
theorem s_83_144 (d L n : Nat) (scr : Nat → Int32) (call : Nat → List Value → am_H → Option am_X) (lv : am_L) (st : List Value) (h : am_H) : am_f d scr L call 83 (n + 1) 144 lv st h = (match am_ld lv 4 with
    | some (.int x) => am_f d scr L call 83 n 146 lv (.int x :: st) h
    | _ => none) := k_li (i := .iload 4) rfl rfl rfl rfl
set_option maxRecDepth 100000 in
theorem s_83_146 (d L n : Nat) (scr : Nat → Int32) (call : Nat → List Value → am_H → Option am_X) (lv : am_L) (st : List Value) (h : am_H) : am_f d scr L call 83 (n + 1) 146 lv st h = (match am_ld lv 0 with
    | some (.ref x) => am_f d scr L call 83 n 147 lv (.ref x :: st) h
    | _ => none) := k_la (i := .aload_n 0) rfl rfl rfl rfl
set_option maxRecDepth 100000 in
theorem s_83_147 (d L n : Nat) (scr : Nat → Int32) (call : Nat → List Value → am_H → Option am_X) (lv : am_L) (st : List Value) (h : am_H) (a : Nat) : am_f d scr L call 83 (n + 1) 147 lv (.ref a :: st) h = (match am_get h a 7 3 with
    | some v => am_f d scr L call 83 n 150 lv (v :: st) h
    | none => none) := k_gf (k := 21) rfl rfl
set_option maxRecDepth 100000 in
theorem s_83_150 (d L n : Nat) (scr : Nat → Int32) (call : Nat → List Value → am_H → Option am_X) (lv : am_L) (st : List Value) (h : am_H) : am_f d scr L call 83 (n + 1) 150 lv st h = (match am_ld lv 0 with
    | some (.ref x) => am_f d scr L call 83 n 151 lv (.ref x :: st) h
    | _ => none) := k_la (i := .aload_n 0) rfl rfl rfl rfl
set_option maxRecDepth 100000 in
theorem s_83_151 (d L n : Nat) (scr : Nat → Int32) (call : Nat → List Value → am_H → Option am_X) (lv : am_L) (st : List Value) (h : am_H) (a : Nat) : am_f d scr L call 83 (n + 1) 151 lv (.ref a :: st) h = (match am_get h a 7 2 with
    | some v => am_f d scr L call 83 n 154 lv (v :: st) h
    | none => none) := k_gf (k := 18) rfl rfl
set_option maxRecDepth 100000 in
theorem s_83_154 (d L n : Nat) (scr : Nat → Int32) (call : Nat → List Value → am_H → Option am_X) (lv : am_L) (st : List Value) (h : am_H) : am_f d scr L call 83 (n + 1) 154 lv st h = (match am_ld lv 3 with
    | some (.int x) => am_f d scr L call 83 n 155 lv (.int x :: st) h
    | _ => none) := k_li (i := .iload_n 3) rfl rfl rfl rfl
set_option maxRecDepth 100000 in
theorem s_83_155 (d L n : Nat) (scr : Nat → Int32) (call : Nat → List Value → am_H → Option am_X) (lv : am_L) (st : List Value) (h : am_H) (a : Nat) (i : Int32) : am_f d scr L call 83 (n + 1) 155 lv (.int i :: .ref a :: st) h = (match am_ild scr L h a i with
    | some x => am_f d scr L call 83 n 156 lv (.int x :: st) h
    | none => none) := k_ia rfl
set_option maxRecDepth 100000 in
theorem s_83_156 (d L n : Nat) (scr : Nat → Int32) (call : Nat → List Value → am_H → Option am_X) (lv : am_L) (st : List Value) (h : am_H) (a : Nat) (i : Int32) : am_f d scr L call 83 (n + 1) 156 lv (.int i :: .ref a :: st) h = (match am_ild scr L h a i with
    | some x => am_f d scr L call 83 n 157 lv (.int x :: st) h
    | none => none) := k_ia rfl
set_option maxRecDepth 100000 in
theorem s_83_157 (d L n : Nat) (scr : Nat → Int32) (call : Nat → List Value → am_H → Option am_X) (lv : am_L) (st : List Value) (h : am_H) (x y : Int32) : am_f d scr L call 83 (n + 1) 157 lv (.int y :: .int x :: st) h = if ¬ x = y then am_f d scr L call 83 n 163 lv st h else am_f d scr L call 83 n 160 lv st h := k_ic_ne (o := 6) rfl ⟨by decide, rfl⟩
set_option maxRecDepth 100000 in
theorem s_83_160 (d L n : Nat) (scr : Nat → Int32) (call : Nat → List Value → am_H → Option am_X) (lv : am_L) (st : List Value) (h : am_H) : am_f d scr L call 83 (n + 1) 160 lv st h = am_f d scr L call 83 n 162 lv (.int 41 :: st) h := k_nx (i := .bipush 41) rfl rfl
set_option maxRecDepth 100000 in
theorem s_83_162 (d L n : Nat) (scr : Nat → Int32) (call : Nat → List Value → am_H → Option am_X) (lv : am_L) (h : am_H) (x : Int32) : am_f d scr L call 83 (n + 1) 162 lv [.int x] h = some (some (.int x), h, 0, 0) := k_ir rfl rfl
set_option maxRecDepth 100000 in
theorem s_83_163 (d L n : Nat) (scr : Nat → Int32) (call : Nat → List Value → am_H → Option am_X) (lv : am_L) (st : List Value) (h : am_H) : am_f d scr L call 83 (n + 1) 163 lv st h = (match am_ld lv 0 with
    | some (.ref x) => am_f d scr L call 83 n 164 lv (.ref x :: st) h
    | _ => none) := k_la (i := .aload_n 0) rfl rfl rfl rfl
set_option maxRecDepth 100000 in
theorem s_83_164 (d L n : Nat) (scr : Nat → Int32) (call : Nat → List Value → am_H → Option am_X) (lv : am_L) (st : List Value) (h : am_H) (a : Nat) : am_f d scr L call 83 (n + 1) 164 lv (.ref a :: st) h = (match am_get h a 7 2 with
    | some v => am_f d scr L call 83 n 167 lv (v :: st) h
    | none => none) := k_gf (k := 18) rfl rfl
set_option maxRecDepth 100000 in
theorem s_83_167 (d L n : Nat) (scr : Nat → Int32) (call : Nat → List Value → am_H → Option am_X) (lv : am_L) (st : List Value) (h : am_H) : am_f d scr L call 83 (n + 1) 167 lv st h = (match am_ld lv 3 with
    | some (.int x) => am_f d scr L call 83 n 168 lv (.int x :: st) h
    | _ => none) := k_li (i := .iload_n 3) rfl rfl rfl rfl
set_option maxRecDepth 100000 in
theorem s_83_168 (d L n : Nat) (scr : Nat → Int32) (call : Nat → List Value → am_H → Option am_X) (lv : am_L) (st : List Value) (h : am_H) (a : Nat) (i : Int32) : am_f d scr L call 83 (n + 1) 168 lv (.int i :: .ref a :: st) h = (match am_ild scr L h a i with
    | some x => am_f d scr L call 83 n 169 lv (.int x :: st) h
    | none => none) := k_ia rfl
set_option maxRecDepth 100000 in
theorem s_83_169 (d L n : Nat) (scr : Nat → Int32) (call : Nat → List Value → am_H → Option am_X) (lv : am_L) (st : List Value) (h : am_H) (x : Int32) : am_f d scr L call 83 (n + 1) 169 lv (.int x :: st) h = am_f d scr L call 83 n 170 (am_st1 lv 3 (.int x)) st h := k_nx (i := .istore_n 3) rfl rfl
set_option maxRecDepth 100000 in
theorem s_83_170 (d L n : Nat) (scr : Nat → Int32) (call : Nat → List Value → am_H → Option am_X) (lv : am_L) (st : List Value) (h : am_H) : am_f d scr L call 83 (n + 1) 170 lv st h = (match am_ld lv 5 with
    | some (.int x) => am_f d scr L call 83 n 173 (am_st1 lv 5 (.int (x + 1))) st h
    | _ => none) := k_iinc (k := 5) (c := 1) rfl rfl (Nat.le_of_ble_eq_true rfl)
set_option maxRecDepth 100000 in
theorem s_83_173 (d L n : Nat) (scr : Nat → Int32) (call : Nat → List Value → am_H → Option am_X) (lv : am_L) (st : List Value) (h : am_H) : am_f d scr L call 83 (n + 1) 173 lv st h = am_f d scr L call 83 n 8 lv st h := k_nx (i := .goto (-165)) rfl rfl
set_option maxRecDepth 100000 in
theorem s_83_176 (d L n : Nat) (scr : Nat → Int32) (call : Nat → List Value → am_H → Option am_X) (lv : am_L) (st : List Value) (h : am_H) : am_f d scr L call 83 (n + 1) 176 lv st h = am_f d scr L call 83 n 177 lv (.int (-1) :: st) h := k_nx (i := .iconst (-1)) rfl rfl
set_option maxRecDepth 100000 in
theorem s_83_177 (d L n : Nat) (scr : Nat → Int32) (call : Nat → List Value → am_H → Option am_X) (lv : am_L) (h : am_H) (x : Int32) : am_f d scr L call 83 (n + 1) 177 lv [.int x] h = some (some (.int x), h, 0, 0) := k_ir rfl rfl
