theorem am_i0_eq {mi k mj : Nat} {st as r : List Value} {h : am_H} (hs : am_i0 mi k st h = some (mj, as, r)) : ∃ (n ci a : Nat) (as' : List Value), pm_mth mi k = some (0, mj, n, ci) ∧ (r.map fun v => v.category).sum ≤ 8 ∧ st = as'.reverse ++ .ref a :: r ∧ as = .ref a :: as' ∧ as'.length = n ∧ am_at h a ci = true := by
  unfold am_i0 at hs
  split at hs
  · cases hs
  · rename_i kd mj' n ci hm
    split at hs
    · rename_i hc
      obtain ⟨rfl, hn⟩ := hc
      split at hs
      · rename_i a r' hdr
        split at hs
        · rename_i hc2
          simp only [Option.some.injEq, Prod.mk.injEq] at hs
          obtain ⟨rfl, rfl, rfl⟩ := hs
          refine ⟨n, ci, a, (st.take n).reverse, hm, hc2.2, ?_, rfl, ?_, hc2.1⟩
          · rw [List.reverse_reverse, ← hdr, List.take_append_drop]
          · rw [List.length_reverse, List.length_take]; omega
        · cases hs
      · cases hs
    · cases hs
theorem am_i1_eq {mi k mj : Nat} {st as r : List Value} (hs : am_i1 mi k st = some (mj, as, r)) : ∃ (n ci : Nat), pm_mth mi k = some (1, mj, n, ci) ∧ (r.map fun v => v.category).sum ≤ 8 ∧ st = as.reverse ++ r ∧ as.length = n := by
  unfold am_i1 at hs
  split at hs
  · cases hs
  · rename_i kd mj' n ci hm
    split at hs
    · rename_i hc
      obtain ⟨rfl, hn, hc2⟩ := hc
      simp only [Option.some.injEq, Prod.mk.injEq] at hs
      obtain ⟨rfl, rfl, rfl⟩ := hs
      refine ⟨n, ci, hm, hc2, ?_, ?_⟩
      · rw [List.reverse_reverse, List.take_append_drop]
      · rw [List.length_reverse, List.length_take]; omega
    · cases hs
theorem am_i2_eq {mi k mj : Nat} {st as r : List Value} (hs : am_i2 mi k st = some (mj, as, r)) : ∃ (n ci a : Nat) (as' : List Value), pm_mth mi k = some (2, mj, n, ci) ∧ (r.map fun v => v.category).sum ≤ 8 ∧ st = as'.reverse ++ .ref a :: r ∧ as = .ref a :: as' ∧ as'.length = n := by
  unfold am_i2 at hs
  split at hs
  · cases hs
  · rename_i kd mj' n ci hm
    split at hs
    · rename_i hc
      obtain ⟨rfl, hn⟩ := hc
      split at hs
      · rename_i a r' hdr
        split at hs
        · rename_i hc2
          simp only [Option.some.injEq, Prod.mk.injEq] at hs
          obtain ⟨rfl, rfl, rfl⟩ := hs
          refine ⟨n, ci, a, (st.take n).reverse, hm, hc2, ?_, rfl, ?_⟩
          · rw [List.reverse_reverse, ← hdr, List.take_append_drop]
          · rw [List.length_reverse, List.length_take]; omega
        · cases hs
      · cases hs
    · cases hs
theorem am_add_eq {dk dn k' n' : Nat} {x : Option am_X} {v : Option Value} {h' : am_H} (hs : am_add dk dn x = some (v, h', k', n')) : ∃ k2 n2 : Nat, x = some (v, h', k2, n2) ∧ k' = dk + k2 ∧ n' = dn + n2 := by
  unfold am_add at hs
  split at hs
  · simp only [Option.some.injEq, Prod.mk.injEq] at hs
    obtain ⟨rfl, rfl, rfl, rfl⟩ := hs
    exact ⟨_, _, rfl, rfl, rfl⟩
  · cases hs
theorem am_toL (sb b : Nat) (v : Option Value) : v.toList.map (am_v sb b) = (v.map (am_v sb b)).toList := by cases v <;> rfl
/-- a call's words -/
theorem am_gd {xs : List Cond} (h : ∀ w ∈ xs, w ∈ pm_tb) : GoodIn pm_tb xs := fun w hw => ⟨h w hw, pm_tb_good w (h w hw)⟩
theorem am_ws_in {mj n : Nat} (h : pm_cw mj n) : ∀ w ∈ am_ws mj, w ∈ pm_tb := by
  intro w hw
  rcases List.mem_cons.mp hw with rfl | hw
  · exact h.1
  · exact hw
section AMF
variable {p : Program} {l : Launch} {e : Env} {R : Room} {s : State} {m : MethodId} {args : Array Value} {below : List Frame} {meth : Method} {c : Code} {Q : State → Prop}
variable {sb b L mi d : Nat} {scr : Nat → Int32} {D : va_G} {cT : Nat → ClassId}
set_option maxHeartbeats 4000000 in
set_option maxRecDepth 100000 in
theorem am_c_ok (E : am_E p s m args meth c R sb b scr L D cT (d + 1) mi) {pc mj dk dn cells slots : Nat} {lv : am_L} {st as r : List Value} {h h' : am_H} {i : Jvm.ClassFile.Instr} {v : Option Value} (hd : decode (pm_code mi) pc = .ok (i, am_len pc i)) (hs : am_cv mi st h i = some (mj, as, r))
    (hM : Met l (pm_name mj) (am_ws mj) (am_rm d dk dn) (am_Pc sb b scr L D cT as h) (am_Qc sb b D cT v h') dk dn (fun q => b ≤ q))
    (hcm : cells + dk ≤ R.cells) (hsm : slots + dn ≤ R.slots) (K : am_W p l e R s m args below meth c Q sb b D cT mi (pc + 3) lv (v.toList ++ r) h' (cells + dk) (slots + dn)) : am_W p l e R s m args below meth c Q sb b D cT mi pc lv st h cells slots := by
  obtain ⟨hx, hb, hml, hown, hts, hK, hX, hsb, hbs, hin, hfr, hlo, hG⟩ := E
  intro ls H locs hl hR hS
  have hXH : va_X sb L scr s H := hX.kept (hS.2.1 sb (Nat.lt_of_lt_of_le hsb hbs) (Nat.not_le.mpr hsb))
  have pre : ∀ U : State, U.heap = H → s.WarmedH U.vm → am_Pc sb b scr L D cT as h (as.map (am_v sb b)).toArray U := fun U hU hW => ⟨rfl, by rw [hU]; exact hR, va_K.moved hW.alike hK, by rw [hU]; exact va_X.moved hW.alike hXH, hsb, by rw [hU]; exact (hG.kept hS.2.1).warm hW⟩
  have blind : FrameBlind (am_Pc sb b scr L D cT as h) := fun a U g mk q => ⟨q.1, q.2.1, va_K.moved (u := U) (U := U.calling g mk a) (Vm.Alike.refl U.vm) q.2.2.1, va_X.moved (u := U) (U := U.calling g mk a) (Vm.Alike.refl U.vm) q.2.2.2.1, q.2.2.2.2.1, am_G.same (u := U) (U := U.calling g mk a) rfl q.2.2.2.2.2⟩
  have fin : va_Run p l e R s m args below meth c H locs cells slots dk dn (F0 m pc ls (st.map (am_v sb b))) (r.map (am_v sb b)) (am_Qc sb b D cT v h' (as.map (am_v sb b)).toArray) (fun q => b ≤ q) → W p l e R s m args below meth c H locs cells slots Q (F0 m pc ls (st.map (am_v sb b))) := fun hr => am_call hr hS (fun H1 locs1 hR1 hS1 => by
    have K1 := K ls H1 locs1 hl hR1 hS1
    rw [List.map_append, am_toL] at K1
    exact K1)
  have room : ∀ n, pm_cw mj n → (am_rm d dk dn).frames + 1 ≤ R.frames ∧ 8 + (pm_maxL mj + 11) + (am_rm d dk dn).locals ≤ R.locals := fun n hw => ⟨hfr, by
    have h1 := hw.2.2.2.2
    show 8 + (pm_maxL mj + 11) + 64 * d ≤ R.locals
    omega⟩
  cases i with
  | invokevirtual k =>
    obtain ⟨n, ci, a, as', hm, hsum, hst, rfl, hlen, hat⟩ := am_i0_eq hs
    obtain ⟨q, fs, rfl, hq⟩ := am_at_eq hat
    obtain ⟨C, T, N, hc, hC, w1, w2, w3, w4, hcw⟩ := pm_mth_ok0 hm
    refine fin (va_runV (Ts := pm_tb) (As := as'.map (am_v sb b)) (rest := r.map (am_v sb b)) (b := b + q) ⟨hx, hb, hml, hown, hts⟩ hM (cwV (Ts := pm_tb) (ws' := pm_tb) n hts (am_gd ?_) rfl rfl rfl ⟨hC, hcw.2.1, hcw.2.2.1, hcw.2.2.2.1⟩ (room n hcw)) ⟨blind, va_recv hK hR.2 hc (am_w_obj hq), pre⟩ rfl (by rw [List.length_map]; exact hlen) hl.1 ?_ (lv_room (by rw [am_sum]; exact hsum)) hd ⟨hcm, hsm⟩)
    · intro w hw
      simp only [wsV, List.mem_append, List.mem_cons, List.not_mem_nil, or_false] at hw
      rcases hw with (rfl | rfl | rfl | rfl) | hw
      · exact w1
      · exact w2
      · exact w3
      · exact w4
      · exact am_ws_in hcw w hw
    · show st.map (am_v sb b) = (as'.map (am_v sb b)).reverse ++ .ref (b + q) :: r.map (am_v sb b)
      rw [hst, List.map_append, List.map_reverse]
      rfl
  | invokestatic k =>
    obtain ⟨n, ci, hm, hsum, hst, hlen⟩ := am_i1_eq hs
    obtain ⟨w1, w2, w3, hcw⟩ := pm_mth_ok1 hm
    refine fin (va_runS (Ts := pm_tb) (As := as.map (am_v sb b)) (rest := r.map (am_v sb b)) ⟨hx, hb, hml, hown, hts⟩ hM ⟨callB_of (Ts := pm_tb) (ws' := pm_tb) n hts (am_gd (am_ws_in hcw)) rfl rfl rfl (hts _ w3) (hts _ w1) ⟨hcw.2.1, hcw.2.2.1, hcw.2.2.2.1⟩ (room n hcw), hts _ w2⟩ ⟨blind, pre⟩ rfl (by rw [List.length_map]; exact hlen) hl.1 ?_ (lv_room (by rw [am_sum]; exact hsum)) hd ⟨hcm, hsm⟩)
    show st.map (am_v sb b) = (as.map (am_v sb b)).reverse ++ r.map (am_v sb b)
    rw [hst, List.map_append, List.map_reverse]
  | invokespecial k =>
    obtain ⟨n, ci, a, as', hm, hsum, hst, rfl, hlen⟩ := am_i2_eq hs
    obtain ⟨w1, w2, w3, hnm, hno, hcw⟩ := pm_mth_ok2 hm
    refine fin (va_runI (Ts := pm_tb) (As := as'.map (am_v sb b)) (rest := r.map (am_v sb b)) (b := am_a sb b a) ⟨hx, hb, hml, hown, hts⟩ hM (cwI (Ts := pm_tb) (ws' := pm_tb) n hts (am_gd (am_ws_in hcw)) (by unfold am_ws; rw [hno]) rfl rfl (hts _ w3) (hts _ w1) (hts _ w2) hnm ⟨hcw.2.1, hcw.2.2.1, hcw.2.2.2.1⟩ (room n hcw)) ⟨blind, pre⟩ rfl (by rw [List.length_map]; exact hlen) hl.1 ?_ (lv_room (by rw [am_sum]; exact hsum)) hd ⟨hcm, hsm⟩)
    show st.map (am_v sb b) = (as'.map (am_v sb b)).reverse ++ .ref (am_a sb b a) :: r.map (am_v sb b)
    rw [hst, List.map_append, List.map_reverse]
    rfl
  | _ => exact nomatch (show (none : Option am_V) = some _ from hs)
theorem am_ret_ok (E : am_E p s m args meth c R sb b scr L D cT d mi) (hr : meth.sig.returnType = pm_ret mi) (hlk : meth.locks = false) {pc cells slots : Nat} {lv : am_L} {st : List Value} {h : am_H} {i : Jvm.ClassFile.Instr} {v : Option Value} (hd : decode (pm_code mi) pc = .ok (i, am_len pc i)) (hs : am_rt mi st i = some v) :
    am_W p l e R s m args below meth c (MQ below (am_Qc sb b D cT v h) args s cells slots (fun q => b ≤ q)) sb b D cT mi pc lv st h cells slots := by
  obtain ⟨hx, hb, hml, hown, hts, hK, hX, hsb, hbs, hin, hfr, hlo, hG⟩ := E
  intro ls H locs hl hR hS
  cases i with
  | ireturn =>
    simp only [am_rt] at hs
    split at hs
    · rename_i x
      split at hs
      · rename_i hok
        cases hs
        have hn : ∃ ty, pm_ret mi = some ty ∧ narrow ty (.int x) = .int x := by
          unfold am_rok at hok
          split at hok
          · rename_i he
            exact ⟨_, he, rfl⟩
          · rename_i he
            refine ⟨_, he, ?_⟩
            have hx2 : x = 0 ∨ x = 1 := by simpa using hok
            rcases hx2 with rfl | rfl <;> decide
          · rename_i he
            refine ⟨_, he, ?_⟩
            have h1 := eq_of_beq hok
            rw [vp_nar_char] at h1
            show Value.int x.toUInt32.toUInt16.toUInt32.toInt32 = .int x
            rw [h1]
          · cases hok
        obtain ⟨ty, he, hn⟩ := hn
        exact W.zret hx hb (hr.trans he) hn (fun t ht hW => ⟨rfl, by rw [ht]; exact hR, hS.F ht⟩) hS.2.2 hd hlk
      · cases hs
    · cases hs
  | lreturn =>
    simp only [am_rt] at hs
    split at hs
    · split at hs
      · rename_i hok
        cases hs
        exact W.lret hx hb (hr.trans hok) (fun t ht hW => ⟨rfl, by rw [ht]; exact hR, hS.F ht⟩) hS.2.2 hd hlk
      · cases hs
    · cases hs
  | return_ =>
    simp only [am_rt] at hs
    split at hs
    · split at hs
      · rename_i hok
        cases hs
        exact W.vret hx hb (hr.trans hok) (fun t ht hW => ⟨rfl, by rw [ht]; exact hR, hS.F ht⟩) hS.2.2 hd hlk
      · cases hs
    · cases hs
  | _ => exact nomatch (show (none : Option (Option Value)) = some _ from hs)
theorem am_f_ok {call : Nat → List Value → am_H → Option am_X} (E : am_E p s m args meth c R sb b scr L D cT d mi)
    (hcall : ∀ (mj : Nat) (as : List Value) (h : am_H) (v : Option Value) (h' : am_H) (dk dn : Nat), call mj as h = some (v, h', dk, dn) → ∃ d', d = d' + 1 ∧ Met l (pm_name mj) (am_ws mj) (am_rm d' dk dn) (am_Pc sb b scr L D cT as h) (am_Qc sb b D cT v h') dk dn (fun q => b ≤ q))
    {v : Option Value} {h' : am_H} {KC KS : Nat} (hKC : KC ≤ R.cells) (hKS : KS ≤ R.slots)
    (hret : ∀ (pc : Nat) (lv : am_L) (st : List Value) (i : Jvm.ClassFile.Instr), pm_it mi pc = some i → am_rt mi st i = some v → am_W p l e R s m args below meth c Q sb b D cT mi pc lv st h' KC KS) :
    ∀ (n pc : Nat) (lv : am_L) (st : List Value) (h : am_H) (k' n' cells slots : Nat), am_f d scr L call mi n pc lv st h = some (v, h', k', n') → cells + k' = KC → slots + n' = KS → am_W p l e R s m args below meth c Q sb b D cT mi pc lv st h cells slots := by
  intro n
  induction n with
  | zero =>
    intro pc lv st h k' n' cells slots hf
    cases hf
  | succ n ih =>
    intro pc lv st h k' n' cells slots hf hc hs
    simp only [am_f] at hf
    split at hf
    · cases hf
    · rename_i i hi
      split at hf
      · rename_i pc1 lv1 st1 h1 dk dn hst
        obtain ⟨k2, n2, hf2, rfl, rfl⟩ := am_add_eq hf
        exact am_s_ok E (pm_it_ok hi) hst (by omega) (by omega) (ih _ _ _ _ _ _ _ _ hf2 (by omega) (by omega))
      · split at hf
        · rename_i mj as r hst
          split at hf
          · rename_i v1 h1 dk dn hcl
            obtain ⟨k2, n2, hf2, rfl, rfl⟩ := am_add_eq hf
            obtain ⟨d', rfl, hM⟩ := hcall _ _ _ _ _ _ _ hcl
            exact am_c_ok E (pm_it_ok hi) hst hM (by omega) (by omega) (ih _ _ _ _ _ _ _ _ hf2 (by omega) (by omega))
          · cases hf
        · split at hf
          · rename_i v1 hst
            simp only [Option.some.injEq, Prod.mk.injEq] at hf
            obtain ⟨rfl, rfl, rfl, rfl⟩ := hf
            obtain rfl : cells = KC := by omega
            obtain rfl : slots = KS := by omega
            exact hret pc lv st i hi hst
          · cases hf
end AMF
set_option maxHeartbeats 4000000 in
theorem am_met1 (l : Launch) (sb b : Nat) (scr : Nat → Int32) (L F : Nat) (D : va_G) (cT : Nat → ClassId) (d : Nat)
    (hcall : ∀ (mj : Nat) (as : List Value) (h : am_H) (v : Option Value) (h' : am_H) (dk dn : Nat), am_r scr L F d mj as h = some (v, h', dk, dn) → ∃ d', d = d' + 1 ∧ Met l (pm_name mj) (am_ws mj) (am_rm d' dk dn) (am_Pc sb b scr L D cT as h) (am_Qc sb b D cT v h') dk dn (fun q => b ≤ q))
    (mi : Nat) (as : List Value) (h : am_H) (v : Option Value) (h' : am_H) (k n : Nat) (hr : am_r scr L F (d + 1) mi as h = some (v, h', k, n)) : Met l (pm_name mi) (am_ws mi) (am_rm d k n) (am_Pc sb b scr L D cT as h) (am_Qc sb b D cT v h') k n (fun q => b ≤ q) := by
  simp only [am_r] at hr
  split at hr
  · rename_i hsl
    refine Met.ofW (cc := pm_code mi) (maxL := pm_maxL mi) (ret := pm_ret mi) (pm_plain mi) rfl ?_
    intro p e s m args below meth c s₁ B hml hv
    obtain ⟨rfl, hR, hK, hX, hsb, hG⟩ := hv
    have hts0 := atoms_spec (ws := am_ws mi) B.pre
    have hown : s.vm.findClass (pm_own mi) = some m.cls := by rw [pm_own_eq]; exact findClass_of_methodNamed B.named
    have E : am_E p s m (as.map (am_v sb b)).toArray meth c (am_rm d k n) sb b scr L D cT d mi := ⟨B.exec, B.bytes, hml, hown, fun w hw => hts0 w (List.mem_cons_of_mem _ hw), hK, hX, hsb, by rw [hR.1]; exact Nat.le_add_right _ _, fun hct => (name_of_methodNamed B.named B.method).1.trans (pm_ctor_ok hct), Nat.le_refl _, Nat.le_refl _, hG⟩
    have hl := lv_entry (as.map (am_v sb b)) (n := pm_maxL mi) (by rw [am_sl]; exact hsl)
    rw [lg_entry_eq]
    rw [am_args] at hl
    exact am_f_ok E hcall (Nat.le_refl _) (Nat.le_refl _) (fun pc lv st i hi hst => am_ret_ok E B.returns B.notSynchronized (pm_it_ok hi) hst) F 0 (lv_args 0 as) [] h k n 0 0 hr (Nat.zero_add _) (Nat.zero_add _) _ s.heap [] hl hR va_S.rf
  · cases hr
set_option maxHeartbeats 4000000 in
/-- a method of the abstract machine is a contract of the method itself -/
theorem am_met (l : Launch) (sb b : Nat) (scr : Nat → Int32) (L F : Nat) (D : va_G) (cT : Nat → ClassId) : ∀ (d mi : Nat) (as : List Value) (h : am_H) (v : Option Value) (h' : am_H) (k n : Nat), am_r scr L F (d + 1) mi as h = some (v, h', k, n) →
    Met l (pm_name mi) (am_ws mi) (am_rm d k n) (am_Pc sb b scr L D cT as h) (am_Qc sb b D cT v h') k n (fun q => b ≤ q) := by
  intro d
  induction d with
  | zero =>
    intro mi as h v h' k n hr
    exact am_met1 l sb b scr L F D cT 0 (fun mj as h v h' dk dn hc => by cases hc) mi as h v h' k n hr
  | succ d ih =>
    intro mi as h v h' k n hr
    exact am_met1 l sb b scr L F D cT (d + 1) (fun mj as h v h' dk dn hc => ⟨d, rfl, ih mj as h v h' dk dn hc⟩) mi as h v h' k n hr
