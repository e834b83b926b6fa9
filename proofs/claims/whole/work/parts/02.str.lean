/-! A String constant: charAt of it, by the JDK's own methods. -/
def jk_n1 : MethodName := ⟨"jdk/internal/util/Preconditions", "checkIndex", "(IILjava/util/function/BiFunction;)I"⟩
def jk_n2 : MethodName := ⟨"java/lang/String", "checkIndex", "(II)V"⟩
def jk_n3 : MethodName := ⟨"java/lang/StringLatin1", "charAt", "([BI)C"⟩
def jk_n4 : MethodName := ⟨"java/lang/String", "isLatin1", "()Z"⟩
def jk_n5 : MethodName := ⟨"java/lang/String", "charAt", "(I)C"⟩
def jk_w1 : List Cond := Cond.code jk_n1 prog_15_method_11_code 3 (some .int) :: pm_tb
def jk_w2 : List Cond := Cond.code jk_n2 prog_12_method_155_code 2 none :: pm_tb
def jk_w3 : List Cond := Cond.code jk_n3 prog_13_method_2_code 2 (some .char) :: pm_tb
def jk_w4 : List Cond := Cond.code jk_n4 prog_12_method_154_code 1 (some .boolean) :: pm_tb
def jk_w5 : List Cond := Cond.code jk_n5 prog_12_method_56_code 2 (some .char) :: pm_tb
def jk_rm (d : Nat) : Room := { frames := d, cells := 0, slots := 0, locals := 64 * d }
theorem jk_in {w : Cond} (i : Nat) (h : tables_1[i]? = some w) (hg : goodWord w = true) : w ∈ pm_tb := List.mem_filter.mpr ⟨List.mem_append_right _ (List.mem_of_getElem? h), hg⟩
theorem jk_gd {w : Cond} (h : w ∈ pm_tb) : GoodIn pm_tb (w :: pm_tb) := fun x hx => by
  rcases List.mem_cons.mp hx with rfl | hx
  · exact ⟨h, pm_tb_good _ h⟩
  · exact ⟨hx, pm_tb_good _ hx⟩
theorem jk_t476 : Cond.stringRef "BlameDesk$Types" 36 "?ib" ∈ lw_tbl := List.mem_append_right _ (List.mem_of_getElem? (i := 476) (by decide +kernel))
theorem jk_t477 : Cond.methodLink "BlameDesk$Types" 38 jk_n5 ∈ pm_tb := jk_in 477 (by decide +kernel) (by decide +kernel)
theorem jk_t478 : Cond.instanceMethod jk_n5 ∈ pm_tb := jk_in 478 (by decide +kernel) (by decide +kernel)
theorem jk_t479 : Cond.selects "java/lang/String" jk_n5 jk_n5 ∈ pm_tb := jk_in 479 (by decide +kernel) (by decide +kernel)
theorem jk_t480 : Cond.code jk_n5 prog_12_method_56_code 2 (some .char) ∈ pm_tb := jk_in 480 (by decide +kernel) (by decide +kernel)
theorem jk_t481 : Cond.methodLink "java/lang/String" 492 jk_n4 ∈ pm_tb := jk_in 481 (by decide +kernel) (by decide +kernel)
theorem jk_t482 : Cond.instanceMethod jk_n4 ∈ pm_tb := jk_in 482 (by decide +kernel) (by decide +kernel)
theorem jk_t483 : Cond.selects "java/lang/String" jk_n4 jk_n4 ∈ pm_tb := jk_in 483 (by decide +kernel) (by decide +kernel)
theorem jk_t484 : Cond.code jk_n4 prog_12_method_154_code 1 (some .boolean) ∈ pm_tb := jk_in 484 (by decide +kernel) (by decide +kernel)
theorem jk_t485 : Cond.fieldLink "java/lang/String" 38 "java/lang/String" "COMPACT_STRINGS" "Z" ∈ pm_tb := jk_in 485 (by decide +kernel) (by decide +kernel)
theorem jk_t486 : Cond.laysStatic "java/lang/String" "COMPACT_STRINGS" "Z" ∈ lw_tbl := List.mem_append_right _ (List.mem_of_getElem? (i := 486) (by decide +kernel))
theorem jk_t487 : Cond.methodLink "java/lang/String" 495 jk_n3 ∈ pm_tb := jk_in 487 (by decide +kernel) (by decide +kernel)
theorem jk_t488 : Cond.static jk_n3 ∈ pm_tb := jk_in 488 (by decide +kernel) (by decide +kernel)
theorem jk_t489 : Cond.code jk_n3 prog_13_method_2_code 2 (some .char) ∈ pm_tb := jk_in 489 (by decide +kernel) (by decide +kernel)
theorem jk_t490 : Cond.methodLink "java/lang/StringLatin1" 9 jk_n2 ∈ pm_tb := jk_in 490 (by decide +kernel) (by decide +kernel)
theorem jk_t491 : Cond.static jk_n2 ∈ pm_tb := jk_in 491 (by decide +kernel) (by decide +kernel)
theorem jk_t492 : Cond.code jk_n2 prog_12_method_155_code 2 none ∈ pm_tb := jk_in 492 (by decide +kernel) (by decide +kernel)
theorem jk_t493 : Cond.fieldLink "java/lang/String" 1053 "jdk/internal/util/Preconditions" "SIOOBE_FORMATTER" "Ljava/util/function/BiFunction;" ∈ pm_tb := jk_in 493 (by decide +kernel) (by decide +kernel)
theorem jk_t494 : Cond.laysStatic "jdk/internal/util/Preconditions" "SIOOBE_FORMATTER" "Ljava/util/function/BiFunction;" ∈ lw_tbl := List.mem_append_right _ (List.mem_of_getElem? (i := 494) (by decide +kernel))
theorem jk_t495 : Cond.methodLink "java/lang/String" 1059 jk_n1 ∈ pm_tb := jk_in 495 (by decide +kernel) (by decide +kernel)
theorem jk_t496 : Cond.static jk_n1 ∈ pm_tb := jk_in 496 (by decide +kernel) (by decide +kernel)
theorem jk_t497 : Cond.code jk_n1 prog_15_method_11_code 3 (some .int) ∈ pm_tb := jk_in 497 (by decide +kernel) (by decide +kernel)
theorem jk_t1051 : Cond.fieldLink "java/lang/String" 15 "java/lang/String" "coder" "B" ∈ pm_tb := jk_in 1051 (by decide +kernel) (by decide +kernel)
theorem jk_t1052 : Cond.fieldLink "java/lang/String" 9 "java/lang/String" "value" "[B" ∈ pm_tb := jk_in 1052 (by decide +kernel) (by decide +kernel)
theorem jk_t10 : Cond.initialized "java/lang/String" ∈ pm_tb := jk_in 10 (by decide +kernel) (by decide +kernel)
theorem jk_t11 : Cond.initialized "java/lang/StringLatin1" ∈ pm_tb := jk_in 11 (by decide +kernel) (by decide +kernel)
theorem jk_t12 : Cond.initialized "jdk/internal/util/Preconditions" ∈ pm_tb := jk_in 12 (by decide +kernel) (by decide +kernel)
def jk_W (A : Nat → Prop) (q t : Nat) (f : Value) (U : State) (H : Heap) : Prop := vk_S 1 [3] [[63, 105, 98]] (fun _ => q) (fun _ => t) A U H ∧ va_Z "java/lang/String" "COMPACT_STRINGS" "Z" (.int 1) A U H ∧ va_Z "jdk/internal/util/Preconditions" "SIOOBE_FORMATTER" "Ljava/util/function/BiFunction;" f A U H ∧ f.category = 1
theorem jk_W.moved {A : Nat → Prop} {q t : Nat} {f : Value} {u U : State} {H : Heap} (hvm : u.vm.Alike U.vm) (h : jk_W A q t f u H) : jk_W A q t f U H := ⟨vk_S.moved hvm h.1, va_Z.moved hvm h.2.1, va_Z.moved hvm h.2.2.1, h.2.2.2⟩
theorem jk_W.kept {A : Nat → Prop} {q t : Nat} {f : Value} {U : State} {H H1 : Heap} (h : jk_W A q t f U H) (hq : ∀ a : Nat, a < H.size → ¬ A a → H1[a]? = H[a]?) : jk_W A q t f U H1 := ⟨vk_S.kept h.1 hq, va_Z.kept h.2.1 hq, va_Z.kept h.2.2.1 hq, h.2.2.2⟩
def jk_Q (A : Nat → Prop) (PH : Heap → Prop) (r : Option Value) : Array Value → State → Outcome → State → Prop := fun _ st oc t => oc = .returned r ∧ PH t.heap ∧ va_F A st t
def jk_P (A : Nat → Prop) (PH : Heap → Prop) (q t : Nat) (f : Value) (as : List Value) : Array Value → State → Prop := fun v U => v = as.toArray ∧ PH U.heap ∧ jk_W A q t f U U.heap
theorem jk_bl (A : Nat → Prop) (PH : Heap → Prop) (q t : Nat) (f : Value) (as : List Value) : FrameBlind (jk_P A PH q t f as) := fun a U g mk z => ⟨z.1, z.2.1, jk_W.moved (u := U) (U := U.calling g mk a) (Vm.Alike.refl U.vm) z.2.2⟩
section JKS
variable {p : Program} {l : Launch} {e : Env} {R : Room} {s : State} {m : MethodId} {args : Array Value} {below : List Frame} {meth : Method} {c : Code} {H H0 : Heap} {locs : List Loc} {cells slots : Nat} {Q : State → Prop} {pc : Nat} {ls : Array Slot} {rest : List Value} {A : Nat → Prop} {PH : Heap → Prop} {q t : Nat} {f : Value}
theorem jk_pre {as : List Value} (hW : jk_W A q t f s s.heap) (hS : va_S A s.heap H locs) (hP : PH H) (U : State) (hU : U.heap = H) (hw : s.WarmedH U.vm) : jk_P A PH q t f as as.toArray U := ⟨rfl, by rw [hU]; exact hP, by rw [hU]; exact jk_W.moved hw.alike (hW.kept hS.2.1)⟩
theorem jk_call {st0 : List Value} {av : Array Value} {r : Option Value} (hr : va_Run p l e R s m args below meth c H locs cells slots 0 0 (F0 m pc ls st0) rest (jk_Q A PH r av) A) (hS : va_S A H0 H locs)
    (kk : ∀ (H1 : Heap) (locs1 : List Loc), PH H1 → va_S A H0 H1 locs1 → W p l e R s m args below meth c H1 locs1 cells slots Q (F0 m (pc + 3) ls (r.toList ++ rest))) : W p l e R s m args below meth c H locs cells slots Q (F0 m pc ls st0) := by
  intro T hT X
  obtain ⟨v, st₀, t, T', Lc, h0, X', hL, e1, e2, ⟨hv, hRn, hz, hk⟩, st⟩ := hr T hT X
  obtain rfl : v = r := Outcome.returned.inj hv
  rw [h0] at hz hk
  obtain ⟨t2, a1, b1⟩ := kk T'.heap (locs ++ Lc) (by rw [e1]; exact hRn)
    ⟨Nat.le_trans hS.1 (by rw [e1]; exact hz), fun q h1 h2 => by rw [e1, hk q (Nat.lt_of_lt_of_le h1 hS.1) h2]; exact hS.2.1 q h1 h2, fun q hq => by
      rcases List.mem_append.mp hq with h | h
      · exact hS.2.2 q h
      · exact hL q h⟩ T' rfl X'
  exact ⟨t2, st t2 a1, b1⟩
end JKS
theorem jk_1 (l : Launch) (A : Nat → Prop) (PH : Heap → Prop) (q t : Nat) (f : Value) (i n : Int32) (h1 : ¬ i < 0) (h2 : i < n) : Met l jk_n1 jk_w1 (jk_rm 0) (jk_P A PH q t f [.int i, .int n, f]) (jk_Q A PH (some (.int i))) 0 0 A := by
  refine Met.ofW (cc := prog_15_method_11_code) (maxL := 3) (ret := some .int) (by decide +kernel) rfl ?_
  intro p e s m args below meth c s₁ B hml hv
  obtain ⟨rfl, hH, hW⟩ := hv
  have hf := hW.2.2.2
  have hl := lv_entry [.int i, .int n, f] (n := 3) (by cases f <;> first | (simp [lg_sl, Value.category]; done) | (simp [Value.category] at hf))
  rw [lg_entry_eq]
  have g0 := hl.2.2 (0, .int i) (by simp [lv_args])
  have g1 := hl.2.2 (1, .int n) (by simp [lv_args, Value.category])
  refine lv_iload_n B.exec B.bytes (k := 0) (i := 0) (by decide +kernel) rfl g0 ?_
  refine lv_if_lt B.exec B.bytes (off := 8) (tgt := 9) (by decide +kernel) (by decide) (fun h => absurd h h1) (fun _ => ?_)
  refine lv_iload_n B.exec B.bytes (k := 0) (i := 0) (by decide +kernel) rfl g0 ?_
  refine lv_iload_n B.exec B.bytes (k := 1) (i := 1) (by decide +kernel) rfl g1 ?_
  refine lv_icmp_lt B.exec B.bytes (off := 10) (tgt := 16) (by decide +kernel) (by decide) (fun _ => ?_) (fun h => absurd h2 h)
  refine lv_iload_n B.exec B.bytes (k := 0) (i := 0) (by decide +kernel) rfl g0 ?_
  exact W.zret B.exec B.bytes B.returns rfl (fun t ht hW => ⟨rfl, by rw [ht]; exact hH, va_S.rf.F ht⟩) (fun _ h => by cases h) (by decide +kernel) B.notSynchronized
theorem jk_2 (l : Launch) (A : Nat → Prop) (PH : Heap → Prop) (q t : Nat) (f : Value) (i n : Int32) (h1 : ¬ i < 0) (h2 : i < n) : Met l jk_n2 jk_w2 (jk_rm 1) (jk_P A PH q t f [.int i, .int n]) (jk_Q A PH none) 0 0 A := by
  refine Met.ofW (cc := prog_12_method_155_code) (maxL := 2) (ret := none) (by decide +kernel) rfl ?_
  intro p e s m args below meth c s₁ B hml hv
  obtain ⟨rfl, hH, hW⟩ := hv
  have hts0 := atoms_spec (ws := jk_w2) B.pre
  have hts : ∀ w ∈ pm_tb, w.before ([Value.int i, Value.int n]).toArray s = true := fun w hw => hts0 w (List.mem_cons_of_mem _ hw)
  have hown : s.vm.findClass "java/lang/String" = some m.cls := findClass_of_methodNamed B.named
  have hl := lv_entry [.int i, .int n] (n := 2) (by simp [lg_sl, Value.category])
  rw [lg_entry_eq]
  have g0 := hl.2.2 (0, .int i) (by simp [lv_args])
  have g1 := hl.2.2 (1, .int n) (by simp [lv_args, Value.category])
  refine lv_iload_n B.exec B.bytes (k := 0) (i := 0) (by decide +kernel) rfl g0 ?_
  refine lv_iload_n B.exec B.bytes (k := 1) (i := 1) (by decide +kernel) rfl g1 ?_
  refine va_gets B.exec B.bytes (index := 1053) (own := "java/lang/String") (ref := "jdk/internal/util/Preconditions") hW.2.2.1 va_S.rf hown (hts _ jk_t493) (fun _ h => h) (by decide +kernel) ?_
  refine jk_call (rest := []) (r := some (.int i)) (PH := PH) (A := A) (av := ([Value.int i, Value.int n, f]).toArray) (va_runS (Ts := pm_tb) (As := [.int i, .int n, f]) (rest := []) (index := 1059) (own := "java/lang/String") (nL := 2) (n := 3) (cc := prog_12_method_155_code) ⟨B.exec, B.bytes, hml, hown, hts⟩ (jk_1 l A PH q t f i n h1 h2) ⟨callB_of (Ts := pm_tb) (ws' := pm_tb) 3 hts (jk_gd jk_t497) rfl rfl rfl (hts _ jk_t12) (hts _ jk_t495) ⟨by decide +kernel, by decide +kernel, by decide +kernel⟩ ⟨by decide, by decide⟩, hts _ jk_t496⟩ ⟨jk_bl A PH q t f _, fun U hU hw => jk_pre hW va_S.rf hH U hU hw⟩ rfl rfl hl.1 rfl (lv_room (by decide)) (show decode prog_12_method_155_code 5 = .ok (.invokestatic 1059, 3) by decide +kernel) ⟨by decide, by decide⟩) va_S.rf (fun H1 locs1 hP1 hS1 => ?_)
  refine lv_pop B.exec B.bytes (by decide +kernel) rfl ?_
  exact W.vret B.exec B.bytes B.returns (fun t ht hW => ⟨rfl, by rw [ht]; exact hP1, hS1.F ht⟩) hS1.2.2 (by decide +kernel) B.notSynchronized
def jk_ch (k : Nat) : Int32 := ([63, 105, 98] : List Int32).getD k 0
theorem jk_3 (l : Launch) (A : Nat → Prop) (PH : Heap → Prop) (q t : Nat) (f : Value) (k : Nat) (hk : k < 3) : Met l jk_n3 jk_w3 (jk_rm 2) (jk_P A PH q t f [.ref t, .int (nI k)]) (jk_Q A PH (some (.int (jk_ch k)))) 0 0 A := by
  refine Met.ofW (cc := prog_13_method_2_code) (maxL := 2) (ret := some .char) (by decide +kernel) rfl ?_
  intro p e s m args below meth c s₁ B hml hv
  obtain ⟨rfl, hH, hW⟩ := hv
  have hts0 := atoms_spec (ws := jk_w3) B.pre
  have hts : ∀ w ∈ pm_tb, w.before ([Value.ref t, Value.int (nI k)]).toArray s = true := fun w hw => hts0 w (List.mem_cons_of_mem _ hw)
  have hown : s.vm.findClass "java/lang/StringLatin1" = some m.cls := findClass_of_methodNamed B.named
  have hl := lv_entry [.ref t, .int (nI k)] (n := 2) (by simp [lg_sl, Value.category])
  rw [lg_entry_eq]
  have g0 := hl.2.2 (0, .ref t) (by simp [lv_args])
  have g1 := hl.2.2 (1, .int (nI k)) (by simp [lv_args, Value.category])
  have hT := (hW.1.1 0 (by decide)).2.2.2
  refine lv_iload_n B.exec B.bytes (k := 1) (i := 1) (by decide +kernel) rfl g1 ?_
  refine lv_aload_n B.exec B.bytes (k := 0) (i := 0) (by decide +kernel) rfl g0 ?_
  refine va_tlen B.exec B.bytes hT va_S.rf (v := 3) (by decide +kernel) (by decide +kernel) ?_
  refine jk_call (rest := []) (r := none) (PH := PH) (A := A) (av := ([Value.int (nI k), Value.int 3]).toArray) (va_runS (Ts := pm_tb) (As := [.int (nI k), .int 3]) (rest := []) (index := 9) (own := "java/lang/StringLatin1") (nL := 2) (n := 2) (cc := prog_13_method_2_code) ⟨B.exec, B.bytes, hml, hown, hts⟩ (jk_2 l A PH q t f (nI k) 3 (nI_pos (by omega)) (nI_lt (a := k) (b := 3) hk (by omega))) ⟨callB_of (Ts := pm_tb) (ws' := pm_tb) 2 hts (jk_gd jk_t492) rfl rfl rfl (hts _ jk_t10) (hts _ jk_t490) ⟨by decide +kernel, by decide +kernel, by decide +kernel⟩ ⟨by decide, by decide⟩, hts _ jk_t491⟩ ⟨jk_bl A PH q t f _, fun U hU hw => jk_pre hW va_S.rf hH U hU hw⟩ rfl rfl hl.1 rfl (lv_room (by decide)) (show decode prog_13_method_2_code 3 = .ok (.invokestatic 9, 3) by decide +kernel) ⟨by decide, by decide⟩) va_S.rf (fun H1 locs1 hP1 hS1 => ?_)
  refine lv_aload_n B.exec B.bytes (k := 0) (i := 0) (by decide +kernel) rfl g0 ?_
  refine lv_iload_n B.exec B.bytes (k := 1) (i := 1) (by decide +kernel) rfl g1 ?_
  refine va_tb B.exec B.bytes hT hS1 (i := nI k) (v := .int (jk_ch k)) (show vp_in (nI k) 3 from vp_in_nI hk (by omega)) (by rw [nI_clamp (by omega)]; rfl) (by decide +kernel) ?_
  refine lv_sipush B.exec B.bytes (n := 255) (v := 255) (by decide +kernel) (by decide +kernel) ?_
  refine lv_iand B.exec B.bytes (by decide +kernel) ?_
  have hcs : k = 0 ∨ k = 1 ∨ k = 2 := by omega
  have hx : ((jk_ch k &&& 255).toUInt32 % 65536).toInt32 = jk_ch k := by
    rcases hcs with z | z | z <;> subst z <;> decide +kernel
  refine lv_i2c B.exec B.bytes (v := jk_ch k) (by decide +kernel) hx ?_
  refine W.zret B.exec B.bytes B.returns ?_ (fun t ht hW => ⟨rfl, by rw [ht]; exact hP1, hS1.F ht⟩) hS1.2.2 (by decide +kernel) B.notSynchronized
  rcases hcs with z | z | z <;> subst z <;> decide +kernel
theorem jk_4 (l : Launch) (A : Nat → Prop) (PH : Heap → Prop) (q t : Nat) (f : Value) : Met l jk_n4 jk_w4 (jk_rm 0) (jk_P A PH q t f [.ref q]) (jk_Q A PH (some (.int 1))) 0 0 A := by
  refine Met.ofW (cc := prog_12_method_154_code) (maxL := 1) (ret := some .boolean) (by decide +kernel) rfl ?_
  intro p e s m args below meth c s₁ B hml hv
  obtain ⟨rfl, hH, hW⟩ := hv
  have hts0 := atoms_spec (ws := jk_w4) B.pre
  have hts : ∀ w ∈ pm_tb, w.before ([Value.ref q]).toArray s = true := fun w hw => hts0 w (List.mem_cons_of_mem _ hw)
  have hown : s.vm.findClass "java/lang/String" = some m.cls := findClass_of_methodNamed B.named
  have hl := lv_entry [.ref q] (n := 1) (by simp [lg_sl, Value.category])
  rw [lg_entry_eq]
  have g0 := hl.2.2 (0, .ref q) (by simp [lv_args])
  refine va_gets B.exec B.bytes (index := 38) (own := "java/lang/String") (ref := "java/lang/String") hW.2.1 va_S.rf hown (hts _ jk_t485) (fun _ h => h) (by decide +kernel) ?_
  refine lv_if_eq B.exec B.bytes (off := 14) (tgt := 17) (by decide +kernel) (by decide) (fun h => absurd h (by decide)) (fun _ => ?_)
  refine lv_aload_n B.exec B.bytes (k := 0) (i := 0) (by decide +kernel) rfl g0 ?_
  refine vk_getf B.exec B.bytes (own := "java/lang/String") (ref := "java/lang/String") (index := 15) (hW.1.1 0 (by decide)).2.1 va_S.rf hown (hts _ jk_t1051) (fun _ h => h) (by decide +kernel) ?_
  refine lv_if_ne B.exec B.bytes (off := 7) (tgt := 17) (by decide +kernel) (by decide) (fun h => absurd rfl h) (fun _ => ?_)
  refine lv_iconst B.exec B.bytes (n := 1) (v := 1) (by decide +kernel) (by decide) ?_
  refine lv_goto B.exec B.bytes (off := 4) (tgt := 18) (by decide +kernel) (by decide) ?_
  exact W.zret B.exec B.bytes B.returns (by decide) (fun t ht hW => ⟨rfl, by rw [ht]; exact hH, va_S.rf.F ht⟩) (fun _ h => by cases h) (by decide +kernel) B.notSynchronized
theorem jk_5 (l : Launch) (A : Nat → Prop) (PH : Heap → Prop) (q t : Nat) (f : Value) (k : Nat) (hk : k < 3) : Met l jk_n5 jk_w5 (jk_rm 3) (jk_P A PH q t f [.ref q, .int (nI k)]) (jk_Q A PH (some (.int (jk_ch k)))) 0 0 A := by
  refine Met.ofW (cc := prog_12_method_56_code) (maxL := 2) (ret := some .char) (by decide +kernel) rfl ?_
  intro p e s m args below meth c s₁ B hml hv
  obtain ⟨rfl, hH, hW⟩ := hv
  have hts0 := atoms_spec (ws := jk_w5) B.pre
  have hts : ∀ w ∈ pm_tb, w.before ([Value.ref q, Value.int (nI k)]).toArray s = true := fun w hw => hts0 w (List.mem_cons_of_mem _ hw)
  have hown : s.vm.findClass "java/lang/String" = some m.cls := findClass_of_methodNamed B.named
  have hl := lv_entry [.ref q, .int (nI k)] (n := 2) (by simp [lg_sl, Value.category])
  rw [lg_entry_eq]
  have g0 := hl.2.2 (0, .ref q) (by simp [lv_args])
  have g1 := hl.2.2 (1, .int (nI k)) (by simp [lv_args, Value.category])
  refine lv_aload_n B.exec B.bytes (k := 0) (i := 0) (by decide +kernel) rfl g0 ?_
  refine jk_call (rest := []) (r := some (.int 1)) (PH := PH) (A := A) (av := ([Value.ref q]).toArray) (va_runV (Ts := pm_tb) (As := []) (rest := []) (b := q) (index := 492) (own := "java/lang/String") (C := "java/lang/String") (nL := 2) (n := 0) (cc := prog_12_method_56_code) ⟨B.exec, B.bytes, hml, hown, hts⟩ (jk_4 l A PH q t f) (cwV (Ts := pm_tb) (ws' := pm_tb) 0 hts ?_ rfl rfl rfl ⟨rfl, by decide +kernel, by decide +kernel, by decide +kernel⟩ ⟨by decide, by decide⟩) ⟨jk_bl A PH q t f _, vk_recv (i := 0) hW.1 (by decide) va_S.rf, fun U hU hw => jk_pre hW va_S.rf hH U hU hw⟩ rfl rfl hl.1 rfl (lv_room (by decide)) (show decode prog_12_method_56_code 1 = .ok (.invokevirtual 492, 3) by decide +kernel) ⟨by decide, by decide⟩) va_S.rf (fun H1 locs1 hP1 hS1 => ?_)
  · intro w hw
    simp only [wsV, List.mem_append, List.mem_cons, List.not_mem_nil, or_false] at hw
    rcases hw with (rfl | rfl | rfl | rfl) | hw
    · exact ⟨jk_t481, pm_tb_good _ jk_t481⟩
    · exact ⟨jk_t482, pm_tb_good _ jk_t482⟩
    · exact ⟨jk_t483, pm_tb_good _ jk_t483⟩
    · exact ⟨jk_t10, pm_tb_good _ jk_t10⟩
    · exact jk_gd jk_t484 w hw
  refine lv_if_eq B.exec B.bytes (off := 12) (tgt := 16) (by decide +kernel) (by decide) (fun h => absurd h (by decide)) (fun _ => ?_)
  refine lv_aload_n B.exec B.bytes (k := 0) (i := 0) (by decide +kernel) rfl g0 ?_
  refine vk_getf B.exec B.bytes (own := "java/lang/String") (ref := "java/lang/String") (index := 9) (hW.1.1 0 (by decide)).2.2.1 hS1 hown (hts _ jk_t1052) (fun _ h => h) (by decide +kernel) ?_
  refine lv_iload_n B.exec B.bytes (k := 1) (i := 1) (by decide +kernel) rfl g1 ?_
  refine jk_call (rest := []) (r := some (.int (jk_ch k))) (PH := PH) (A := A) (av := ([Value.ref t, Value.int (nI k)]).toArray) (va_runS (Ts := pm_tb) (As := [.ref t, .int (nI k)]) (rest := []) (index := 495) (own := "java/lang/String") (nL := 2) (n := 2) (cc := prog_12_method_56_code) ⟨B.exec, B.bytes, hml, hown, hts⟩ (jk_3 l A PH q t f k hk) ⟨callB_of (Ts := pm_tb) (ws' := pm_tb) 2 hts (jk_gd jk_t489) rfl rfl rfl (hts _ jk_t11) (hts _ jk_t487) ⟨by decide +kernel, by decide +kernel, by decide +kernel⟩ ⟨by decide, by decide⟩, hts _ jk_t488⟩ ⟨jk_bl A PH q t f _, fun U hU hw => jk_pre hW hS1 hP1 U hU hw⟩ rfl rfl hl.1 rfl (lv_room (by decide)) (show decode prog_12_method_56_code 12 = .ok (.invokestatic 495, 3) by decide +kernel) ⟨by decide, by decide⟩) hS1 (fun H2 locs2 hP2 hS2 => ?_)
  refine W.zret B.exec B.bytes B.returns ?_ (fun t ht hW => ⟨rfl, by rw [ht]; exact hP2, hS2.F ht⟩) hS2.2.2 (by decide +kernel) B.notSynchronized
  have hcs : k = 0 ∨ k = 1 ∨ k = 2 := by omega
  rcases hcs with z | z | z <;> subst z <;> decide +kernel
