section AMS
variable {p : Program} {l : Launch} {e : Env} {R : Room} {s : State} {m : MethodId} {args : Array Value} {below : List Frame} {meth : Method} {c : Code} {H : Heap} {locs : List Loc} {cells slots : Nat} {Q : State → Prop}
variable {cc : ByteArray} {pc : Nat} {ls : Array Slot} {rest : List Value} {D : va_G} {cl : List vw_C} {A : Nat → Prop} {a : Nat} {tys : List (ClassId × FieldType)} {ws : va_W} {H0 : Heap}
/-- stores and makings once more, with the heap's size -/
theorem am_xi (hexec : p.tables.exec = Jvm.exec) (hb : c.code = cc) (hK : va_K D cl tys s) (hP : va_P D cl ws H) (hD : va_D A ws) (hS : va_S A H0 H locs) (q0 t0 : Nat) {cA : ClassId} {n : Nat} {f : Nat → Int32} (ha : ws[q0]? = some (a, .inl (cA, n, .inl f))) (ht : tys[t0]? = some (cA, .int)) {i x : Int32} (hin : vp_in i n) (hdg : decode cc pc = .ok (.iastore, 1))
    (kk : ∀ (H1 : Heap) (locs1 : List Loc), H1.size = H.size → va_P D cl (ws.set q0 (a, .inl (cA, n, .inl (upd f i.toNatClampNeg x)))) H1 → va_S A H0 H1 locs1 → W p l e R s m args below meth c H1 locs1 cells slots Q (F0 m (pc + 1) ls rest)) : W p l e R s m args below meth c H locs cells slots Q (F0 m pc ls (.int x :: .int i :: .ref a :: rest)) := by
  refine W.iast hexec hb (hP q0 _ ha) ((hK.2 t0 _ ht).1 n (fun j => .int (f j))) (fun q => by cases q) (by rw [show (vp_cell cA (n, Sum.inl f)).slots.size = n from arrV_size _ _ _]; exact hin) rfl rfl hdg fun H1 he hz ho => ?_
  refine kk H1 _ hz (hP.set hD ha ?_ ho) (hS.put hz ho (hD.2 q0 _ ha))
  refine Eq.trans he (congrArg some ?_)
  rw [vp_cell_i, vp_cell_i, arrV_store]
  refine congrArg (arrV cA n) (funext fun q => ?_)
  by_cases hq : q = i.toNatClampNeg <;> simp [updV, upd, hq]
theorem am_xc (hexec : p.tables.exec = Jvm.exec) (hb : c.code = cc) (hK : va_K D cl tys s) (hP : va_P D cl ws H) (hD : va_D A ws) (hS : va_S A H0 H locs) (q0 t0 : Nat) {cA : ClassId} {n : Nat} {f : Nat → Int32} (ha : ws[q0]? = some (a, .inl (cA, n, .inl f))) (ht : tys[t0]? = some (cA, .char)) {i x : Int32} (hin : vp_in i n) (hdg : decode cc pc = .ok (.castore, 1))
    (kk : ∀ (H1 : Heap) (locs1 : List Loc), H1.size = H.size → va_P D cl (ws.set q0 (a, .inl (cA, n, .inl (upd f i.toNatClampNeg (vp_nar .char x))))) H1 → va_S A H0 H1 locs1 → W p l e R s m args below meth c H1 locs1 cells slots Q (F0 m (pc + 1) ls rest)) : W p l e R s m args below meth c H locs cells slots Q (F0 m pc ls (.int x :: .int i :: .ref a :: rest)) := by
  refine W.cast hexec hb (hP q0 _ ha) ((hK.2 t0 _ ht).1 n (fun j => .int (f j))) (fun q => by cases q) (by rw [show (vp_cell cA (n, Sum.inl f)).slots.size = n from arrV_size _ _ _]; exact hin) rfl rfl hdg fun H1 he hz ho => ?_
  refine kk H1 _ hz (hP.set hD ha ?_ ho) (hS.put hz ho (hD.2 q0 _ ha))
  refine Eq.trans he (congrArg some ?_)
  rw [vp_cell_i, vp_cell_i, arrV_store]
  refine congrArg (arrV cA n) (funext fun q => ?_)
  by_cases hq : q = i.toNatClampNeg
  · subst hq
    simp [updV, upd, vp_nar]
    try rfl
  · simp [updV, upd, hq]
theorem am_xl (hexec : p.tables.exec = Jvm.exec) (hb : c.code = cc) (hK : va_K D cl tys s) (hP : va_P D cl ws H) (hD : va_D A ws) (hS : va_S A H0 H locs) (q0 t0 : Nat) {cA : ClassId} {n : Nat} {f : Nat → Int64} (ha : ws[q0]? = some (a, .inl (cA, n, .inr (.inl f)))) (ht : tys[t0]? = some (cA, .long)) {i : Int32} {x : Int64} (hin : vp_in i n) (hdg : decode cc pc = .ok (.lastore, 1))
    (kk : ∀ (H1 : Heap) (locs1 : List Loc), H1.size = H.size → va_P D cl (ws.set q0 (a, .inl (cA, n, .inr (.inl (vp_updL f i.toNatClampNeg x))))) H1 → va_S A H0 H1 locs1 → W p l e R s m args below meth c H1 locs1 cells slots Q (F0 m (pc + 1) ls rest)) : W p l e R s m args below meth c H locs cells slots Q (F0 m pc ls (.long x :: .int i :: .ref a :: rest)) := by
  refine W.last hexec hb (hP q0 _ ha) ((hK.2 t0 _ ht).1 n (fun j => .long (f j))) (fun q => by cases q) (by rw [show (vp_cell cA (n, Sum.inr (Sum.inl f))).slots.size = n from arrV_size _ _ _]; exact hin) rfl rfl hdg fun H1 he hz ho => ?_
  refine kk H1 _ hz (hP.set hD ha ?_ ho) (hS.put hz ho (hD.2 q0 _ ha))
  refine Eq.trans he (congrArg some ?_)
  rw [vp_cell_l, vp_cell_l, arrV_store]
  refine congrArg (arrV cA n) (funext fun q => ?_)
  by_cases hq : q = i.toNatClampNeg <;> simp [updV, vp_updL, hq]
theorem am_xp (hexec : p.tables.exec = Jvm.exec) (hb : c.code = cc) {own C : String} {T : u_T} {N ci index : Nat} {Ts : List Cond} (hts : ∀ w ∈ Ts, w.before args s = true) (hin : ∀ w ∈ u_ws C T N, w ∈ Ts) (ty0 : Nat → FieldType) (hty : ∀ k, k < N → parseFieldDescriptor (T k).2.2.1 = some (ty0 k)) (hnm : ∀ a, a < N → ∀ b, b < N → a ≠ b → (T a).2.1 ≠ (T b).2.1) (hown : s.vm.findClass own = some m.cls) (hK : va_K D cl tys s) (hP : va_P D cl ws H) (hD : va_D A ws) (hS0 : va_S A H0 H locs) (q0 : Nat) {fs : List Value} (he : ws[q0]? = some (a, .inr (ci, fs))) (hc : cl[ci]? = some (C, T, N)) (k : Nat) (hk : k < N) (hlink : (Cond.fieldLink own index (T k).1 (T k).2.1 (T k).2.2.1).before args s = true)
    (hfin : (T k).2.2.2 = false ∨ ((T k).2.2.2 = true ∧ meth.name = "<init>" ∧ (T k).1 = own)) {ty : FieldType} {v : Value} (hd : parseFieldDescriptor (T k).2.2.1 = some ty) (hn : narrow ty v = v) (hfit : fits ty v = true) (hl : k < fs.length) (hdg : decode cc pc = .ok (.putfield index, 3))
    (kk : ∀ (H1 : Heap) (locs1 : List Loc), H1.size = H.size → va_P D cl (ws.set q0 (a, .inr (ci, fs.set k v))) H1 → va_S A H0 H1 locs1 → W p l e R s m args below meth c H1 locs1 cells slots Q (F0 m (pc + 3) ls rest)) : W p l e R s m args below meth c H locs cells slots Q (F0 m pc ls (v :: .ref a :: rest)) := by
  have hap := va_apart (own := own) hts hin ty0 hty hnm hK hc
  obtain ⟨r, h1, cell, q1, q2, q3, q4⟩ := hP q0 _ he
  obtain rfl : r = (C, T, N) := Option.some.inj (h1.symm.trans hc)
  obtain ⟨hS, hfc, kC, hkC, hkind⟩ := hK.1 ci _ hc
  obtain ⟨cf, kf, fi, f, hi, hsl⟩ := hS k hk
  have hlay := hts _ (hin _ (u_in_lay hk))
  have hst := (u_facts hfc hkC (u_lays hts hin hk) hi).1
  unfold u_lay at hlay
  rcases hfin with hfin | ⟨hfin, hin2, hdecl⟩
  · rw [if_neg (by rw [hfin]; decide)] at hlay
    have h6 := u_store hfc hkC hkind hlay hi hd hn hfit
    refine W.putK hexec hb (f := f) ⟨hown, hlink, ⟨_, _, _, hi⟩, hst⟩ (by rw [q2]; exact h6) q1 q3 (by rw [hsl]; exact k2_hasslot (q4 k hk)) rfl rfl hdg fun H' e1 e2 e3 => ?_
    rw [hsl] at e1 ⊢
    exact kk H' _ e2 (hP.set hD he ⟨_, hc, t_OB.to (V := updV (vp_V fs) k v) ⟨_, e1, q2, q3, t_set q4 hap hk v⟩ (fun j _ => vp_updV_set hl v j)⟩ e3) (hS0.put e2 e3 (hD.2 q0 _ he))
  · rw [if_pos hfin] at hlay
    have hcf : m.cls = cf := by
      obtain ⟨_, _, c', _, _, _, -, -, hf', -, -, -, hown2, -⟩ := Cond.laysFinal_spec hlay
      have e1 : c' = cf := by have := hi.symm.trans hf'; simp at this; exact this.1.symm
      rw [hdecl] at hown2
      rw [← e1]; exact Option.some.inj (hown.symm.trans hown2)
    have h6 := u_fits hfc hkC hkind (Or.inr hlay) hi hd hn hfit
    refine W.putFinK hexec hb hown hlink hi hst hcf hin2 (by rw [q2]; exact h6) q1 q3 (by rw [hsl]; exact k2_hasslot (q4 k hk)) rfl rfl hdg fun H' e1 e2 e3 => ?_
    rw [hsl] at e1 ⊢
    exact kk H' _ e2 (hP.set hD he ⟨_, hc, t_OB.to (V := updV (vp_V fs) k v) ⟨_, e1, q2, q3, t_set q4 hap hk v⟩ (fun j _ => vp_updV_set hl v j)⟩ e3) (hS0.put e2 e3 (hD.2 q0 _ he))
/-- the String constant as it was at the law's beginning -/
def am_G (b : Nat) (U : State) (H : Heap) : Prop := ∃ (q t : Nat) (f : Value), vk_R "BlameDesk$Types" 36 "?ib" q U ∧ jk_W (fun z => b ≤ z) q t f U H
theorem am_G.warm {b : Nat} {s U : State} {H : Heap} (hW : s.WarmedH U.vm) (h : am_G b s H) : am_G b U H := by
  obtain ⟨q, t, f, h1, h2⟩ := h
  exact ⟨q, t, f, vk_R.warm hW h1, jk_W.moved hW.alike h2⟩
theorem am_G.same {b : Nat} {u U : State} {H : Heap} (hv : U.vm = u.vm) (h : am_G b u H) : am_G b U H := by
  obtain ⟨q, t, f, h1, h2⟩ := h
  exact ⟨q, t, f, vk_R.same hv h1, jk_W.moved (by rw [hv]; exact Vm.Alike.refl u.vm) h2⟩
theorem am_G.kept {b : Nat} {U : State} {H H1 : Heap} (h : am_G b U H) (hq : ∀ a : Nat, a < H.size → ¬ b ≤ a → H1[a]? = H[a]?) : am_G b U H1 := by
  obtain ⟨q, t, f, h1, h2⟩ := h
  exact ⟨q, t, f, h1, h2.kept hq⟩
/-- a call, whatever it answers -/
def am_Qc (sb b : Nat) (D : va_G) (cT : Nat → ClassId) (r : Option Value) (h' : am_H) : Array Value → State → Outcome → State → Prop := fun _ st oc t => oc = .returned (r.map (am_v sb b)) ∧ am_R sb b D cT h' t.heap ∧ va_F (fun q => b ≤ q) st t
def am_Pc (sb b : Nat) (scr : Nat → Int32) (L : Nat) (D : va_G) (cT : Nat → ClassId) (as : List Value) (h : am_H) : Array Value → State → Prop := fun v U => v = (as.map (am_v sb b)).toArray ∧ am_R sb b D cT h U.heap ∧ va_K D pm_cl (am_ty cT) U ∧ va_X sb L scr U U.heap ∧ sb < b ∧ am_G b U U.heap
def am_ws (mi : Nat) : List Cond := Cond.code (pm_name mi) (pm_code mi) (pm_maxL mi) (pm_ret mi) :: pm_tb
def am_rm (d k n : Nat) : Room := { frames := d, cells := k, slots := n, locals := 64 * d }
theorem am_call {sb b : Nat} {cT : Nat → ClassId} {st0 : List Value} {av : Array Value} {mc ms : Nat} {r : Option Value} {h' : am_H} (hr : va_Run p l e R s m args below meth c H locs cells slots mc ms (F0 m pc ls st0) rest (am_Qc sb b D cT r h' av) (fun q => b ≤ q)) (hS : va_S (fun q => b ≤ q) H0 H locs)
    (kk : ∀ (H1 : Heap) (locs1 : List Loc), am_R sb b D cT h' H1 → va_S (fun q => b ≤ q) H0 H1 locs1 → W p l e R s m args below meth c H1 locs1 (cells + mc) (slots + ms) Q (F0 m (pc + 3) ls ((r.map (am_v sb b)).toList ++ rest))) : W p l e R s m args below meth c H locs cells slots Q (F0 m pc ls st0) := by
  intro T hT X
  obtain ⟨v, st₀, t, T', Lc, h0, X', hL, e1, e2, ⟨hv, hRn, hz, hk⟩, st⟩ := hr T hT X
  obtain rfl : v = r.map (am_v sb b) := Outcome.returned.inj hv
  rw [h0] at hz hk
  obtain ⟨t2, a1, b1⟩ := kk T'.heap (locs ++ Lc) (by rw [e1]; exact hRn)
    ⟨Nat.le_trans hS.1 (by rw [e1]; exact hz), fun q h1 h2 => by rw [e1, hk q (Nat.lt_of_lt_of_le h1 hS.1) h2]; exact hS.2.1 q h1 h2, fun q hq => by
      rcases List.mem_append.mp hq with h | h
      · exact hS.2.2 q h
      · exact hL q h⟩ T' rfl X'
  exact ⟨t2, st t2 a1, b1⟩
end AMS
theorem am_w_obj {sb b : Nat} {cT : Nat → ClassId} {h : am_H} {q ci : Nat} {fs : List Value} (hq : h[q]? = some (.inr (ci, fs))) : (am_w sb b cT 0 h)[q]? = some (b + q, .inr (ci, fs.map (am_v sb b))) := by
  rw [am_w_get, hq, Nat.zero_add]
  rfl
theorem am_w_arr {sb b : Nat} {cT : Nat → ClassId} {h : am_H} {q t : Nat} {x : vp_A} (hq : h[q]? = some (.inl (t, x))) : (am_w sb b cT 0 h)[q]? = some (b + q, .inl (cT t, x)) := by
  rw [am_w_get, hq, Nat.zero_add]
  rfl
theorem am_def_v (sb b ci j : Nat) : vp_V ((pm_def ci).map (am_v sb b)) j = vp_V (pm_def ci) j := by
  unfold vp_V
  rw [List.getD_eq_getElem?_getD, List.getD_eq_getElem?_getD, List.getElem?_map]
  cases hv : (pm_def ci)[j]? with
  | none => rfl
  | some v =>
    have h1 := pm_def_nr ci v (List.mem_of_getElem? hv)
    cases v <;> first | rfl | exact absurd h1 (by simp [pm_nr])
/-- what each small function says -/
theorem am_nx_eq {pc pc' dk dn : Nat} {lv lv' : am_L} {st st' : List Value} {h h' : am_H} (hs : am_nx pc lv st h = some (pc', lv', st', h', dk, dn)) : pc' = pc ∧ lv' = lv ∧ st' = st ∧ h' = h ∧ dk = 0 ∧ dn = 0 := by
  unfold am_nx at hs
  cases hs
  exact ⟨rfl, rfl, rfl, rfl, rfl, rfl⟩
theorem am_p1_eq {pc pc' dk dn : Nat} {lv lv' : am_L} {st st' : List Value} {h h' : am_H} {f : Int32 → Value} (hs : am_p1 pc lv h f st = some (pc', lv', st', h', dk, dn)) : ∃ (x : Int32) (r : List Value), st = .int x :: r ∧ pc' = pc ∧ lv' = lv ∧ st' = f x :: r ∧ h' = h ∧ dk = 0 ∧ dn = 0 := by
  unfold am_p1 at hs
  split at hs
  · obtain ⟨rfl, rfl, rfl, rfl, rfl, rfl⟩ := am_nx_eq hs
    exact ⟨_, _, rfl, rfl, rfl, rfl, rfl, rfl, rfl⟩
  · cases hs
theorem am_q1_eq {pc pc' dk dn : Nat} {lv lv' : am_L} {st st' : List Value} {h h' : am_H} {f : Int64 → Value} (hs : am_q1 pc lv h f st = some (pc', lv', st', h', dk, dn)) : ∃ (x : Int64) (r : List Value), st = .long x :: r ∧ pc' = pc ∧ lv' = lv ∧ st' = f x :: r ∧ h' = h ∧ dk = 0 ∧ dn = 0 := by
  unfold am_q1 at hs
  split at hs
  · obtain ⟨rfl, rfl, rfl, rfl, rfl, rfl⟩ := am_nx_eq hs
    exact ⟨_, _, rfl, rfl, rfl, rfl, rfl, rfl, rfl⟩
  · cases hs
theorem am_p2_eq {pc pc' dk dn : Nat} {lv lv' : am_L} {st st' : List Value} {h h' : am_H} {f : Int32 → Int32 → Int32} (hs : am_p2 pc lv h f st = some (pc', lv', st', h', dk, dn)) : ∃ (x y : Int32) (r : List Value), st = .int y :: .int x :: r ∧ pc' = pc ∧ lv' = lv ∧ st' = .int (f x y) :: r ∧ h' = h ∧ dk = 0 ∧ dn = 0 := by
  unfold am_p2 at hs
  split at hs
  · obtain ⟨rfl, rfl, rfl, rfl, rfl, rfl⟩ := am_nx_eq hs
    exact ⟨_, _, _, rfl, rfl, rfl, rfl, rfl, rfl, rfl⟩
  · cases hs
theorem am_q2_eq {pc pc' dk dn : Nat} {lv lv' : am_L} {st st' : List Value} {h h' : am_H} {f : Int64 → Int64 → Value} (hs : am_q2 pc lv h f st = some (pc', lv', st', h', dk, dn)) : ∃ (x y : Int64) (r : List Value), st = .long y :: .long x :: r ∧ pc' = pc ∧ lv' = lv ∧ st' = f x y :: r ∧ h' = h ∧ dk = 0 ∧ dn = 0 := by
  unfold am_q2 at hs
  split at hs
  · obtain ⟨rfl, rfl, rfl, rfl, rfl, rfl⟩ := am_nx_eq hs
    exact ⟨_, _, _, rfl, rfl, rfl, rfl, rfl, rfl, rfl⟩
  · cases hs
theorem am_qi_eq {pc pc' dk dn : Nat} {lv lv' : am_L} {st st' : List Value} {h h' : am_H} {f : Int64 → Int32 → Int64} (hs : am_qi pc lv h f st = some (pc', lv', st', h', dk, dn)) : ∃ (x : Int64) (y : Int32) (r : List Value), st = .int y :: .long x :: r ∧ pc' = pc ∧ lv' = lv ∧ st' = .long (f x y) :: r ∧ h' = h ∧ dk = 0 ∧ dn = 0 := by
  unfold am_qi at hs
  split at hs
  · obtain ⟨rfl, rfl, rfl, rfl, rfl, rfl⟩ := am_nx_eq hs
    exact ⟨_, _, _, rfl, rfl, rfl, rfl, rfl, rfl, rfl⟩
  · cases hs
theorem am_dz_eq {pc pc' dk dn : Nat} {lv lv' : am_L} {st st' : List Value} {h h' : am_H} {f : Int32 → Int32 → Int32} (hs : am_dz pc lv h f st = some (pc', lv', st', h', dk, dn)) : ∃ (x y : Int32) (r : List Value), st = .int y :: .int x :: r ∧ ¬ y = 0 ∧ pc' = pc ∧ lv' = lv ∧ st' = .int (f x y) :: r ∧ h' = h ∧ dk = 0 ∧ dn = 0 := by
  unfold am_dz at hs
  split at hs
  · split at hs
    · cases hs
    · rename_i hy
      obtain ⟨rfl, rfl, rfl, rfl, rfl, rfl⟩ := am_nx_eq hs
      exact ⟨_, _, _, rfl, hy, rfl, rfl, rfl, rfl, rfl, rfl⟩
  · cases hs
theorem am_li_eq {pc pc' dk dn : Nat} {lv lv' : am_L} {st st' : List Value} {h h' : am_H} {o : Option Value} (hs : am_li pc lv st h o = some (pc', lv', st', h', dk, dn)) : ∃ x : Int32, o = some (.int x) ∧ pc' = pc ∧ lv' = lv ∧ st' = .int x :: st ∧ h' = h ∧ dk = 0 ∧ dn = 0 := by
  unfold am_li at hs
  split at hs
  · obtain ⟨rfl, rfl, rfl, rfl, rfl, rfl⟩ := am_nx_eq hs
    exact ⟨_, rfl, rfl, rfl, rfl, rfl, rfl, rfl⟩
  · cases hs
theorem am_ll_eq {pc pc' dk dn : Nat} {lv lv' : am_L} {st st' : List Value} {h h' : am_H} {o : Option Value} (hs : am_ll pc lv st h o = some (pc', lv', st', h', dk, dn)) : ∃ x : Int64, o = some (.long x) ∧ pc' = pc ∧ lv' = lv ∧ st' = .long x :: st ∧ h' = h ∧ dk = 0 ∧ dn = 0 := by
  unfold am_ll at hs
  split at hs
  · obtain ⟨rfl, rfl, rfl, rfl, rfl, rfl⟩ := am_nx_eq hs
    exact ⟨_, rfl, rfl, rfl, rfl, rfl, rfl, rfl⟩
  · cases hs
theorem am_la_eq {pc pc' dk dn : Nat} {lv lv' : am_L} {st st' : List Value} {h h' : am_H} {o : Option Value} (hs : am_la pc lv st h o = some (pc', lv', st', h', dk, dn)) : ∃ x : Nat, o = some (.ref x) ∧ pc' = pc ∧ lv' = lv ∧ st' = .ref x :: st ∧ h' = h ∧ dk = 0 ∧ dn = 0 := by
  unfold am_la at hs
  split at hs
  · obtain ⟨rfl, rfl, rfl, rfl, rfl, rfl⟩ := am_nx_eq hs
    exact ⟨_, rfl, rfl, rfl, rfl, rfl, rfl, rfl⟩
  · cases hs
theorem am_si_eq {pc pc' mi i dk dn : Nat} {lv lv' : am_L} {st st' : List Value} {h h' : am_H} (hs : am_si pc mi i lv st h = some (pc', lv', st', h', dk, dn)) : ∃ (x : Int32) (r : List Value), st = .int x :: r ∧ i < pm_maxL mi ∧ pc' = pc ∧ lv' = am_st1 lv i (.int x) ∧ st' = r ∧ h' = h ∧ dk = 0 ∧ dn = 0 := by
  unfold am_si at hs
  split at hs
  · split at hs
    · rename_i hi
      obtain ⟨rfl, rfl, rfl, rfl, rfl, rfl⟩ := am_nx_eq hs
      exact ⟨_, _, rfl, hi, rfl, rfl, rfl, rfl, rfl, rfl⟩
    · cases hs
  · cases hs
theorem am_sl2_eq {pc pc' mi i dk dn : Nat} {lv lv' : am_L} {st st' : List Value} {h h' : am_H} (hs : am_sl2 pc mi i lv st h = some (pc', lv', st', h', dk, dn)) : ∃ (x : Int64) (r : List Value), st = .long x :: r ∧ i + 1 < pm_maxL mi ∧ pc' = pc ∧ lv' = am_st2 lv i (.long x) ∧ st' = r ∧ h' = h ∧ dk = 0 ∧ dn = 0 := by
  unfold am_sl2 at hs
  split at hs
  · split at hs
    · rename_i hi
      obtain ⟨rfl, rfl, rfl, rfl, rfl, rfl⟩ := am_nx_eq hs
      exact ⟨_, _, rfl, hi, rfl, rfl, rfl, rfl, rfl, rfl⟩
    · cases hs
  · cases hs
theorem am_sa_eq {pc pc' mi i dk dn : Nat} {lv lv' : am_L} {st st' : List Value} {h h' : am_H} (hs : am_sa pc mi i lv st h = some (pc', lv', st', h', dk, dn)) : ∃ (x : Nat) (r : List Value), st = .ref x :: r ∧ i < pm_maxL mi ∧ pc' = pc ∧ lv' = am_st1 lv i (.ref x) ∧ st' = r ∧ h' = h ∧ dk = 0 ∧ dn = 0 := by
  unfold am_sa at hs
  split at hs
  · split at hs
    · rename_i hi
      obtain ⟨rfl, rfl, rfl, rfl, rfl, rfl⟩ := am_nx_eq hs
      exact ⟨_, _, rfl, hi, rfl, rfl, rfl, rfl, rfl, rfl⟩
    · cases hs
  · cases hs
theorem am_tg_eq {pc : Nat} {off : Int} (h : ¬ (pc : Int) + off < 0) : (pc : Int) + off = (am_tg pc off : Nat) := by
  unfold am_tg
  omega
theorem am_jp_eq {pc pc' dk dn : Nat} {off : Int} {t : Bool} {lv lv' : am_L} {st st' : List Value} {h h' : am_H} (hs : am_jp pc off t lv st h = some (pc', lv', st', h', dk, dn)) : (pc : Int) + off = (am_tg pc off : Nat) ∧ pc' = (if t = true then am_tg pc off else pc + 3) ∧ lv' = lv ∧ st' = st ∧ h' = h ∧ dk = 0 ∧ dn = 0 := by
  unfold am_jp at hs
  split at hs
  · cases hs
  · rename_i hi
    obtain ⟨rfl, rfl, rfl, rfl, rfl, rfl⟩ := am_nx_eq hs
    exact ⟨am_tg_eq hi, rfl, rfl, rfl, rfl, rfl, rfl⟩
theorem am_get_eq {h : am_H} {a ci j : Nat} {v : Value} (hs : am_get h a ci j = some v) : ∃ (q : Nat) (fs : List Value), a = q + 1 ∧ h[q]? = some (.inr (ci, fs)) ∧ fs[j]? = some v := by
  unfold am_get at hs
  split at hs
  · cases hs
  · split at hs
    · rename_i hq
      split at hs
      · rename_i hc
        subst hc
        exact ⟨_, _, rfl, hq, hs⟩
      · cases hs
    · cases hs
theorem am_put_eq {h h' : am_H} {a ci j : Nat} {v : Value} (hs : am_put h a ci j v = some h') : ∃ (q : Nat) (fs : List Value), a = q + 1 ∧ h[q]? = some (.inr (ci, fs)) ∧ j < fs.length ∧ h' = h.set q (.inr (ci, fs.set j v)) := by
  unfold am_put at hs
  split at hs
  · cases hs
  · split at hs
    · rename_i hq
      split at hs
      · rename_i hc
        obtain ⟨rfl, hj⟩ := hc
        cases hs
        exact ⟨_, _, rfl, hq, hj, rfl⟩
      · cases hs
    · cases hs
theorem am_at_eq {h : am_H} {a ci : Nat} (hs : am_at h a ci = true) : ∃ (q : Nat) (fs : List Value), a = q + 1 ∧ h[q]? = some (.inr (ci, fs)) := by
  unfold am_at at hs
  split at hs
  · cases hs
  · split at hs
    · rename_i hq
      have hc := eq_of_beq hs
      subst hc
      exact ⟨_, _, rfl, hq⟩
    · cases hs
theorem am_fit_ok {ty : FieldType} {v : Value} (sb b : Nat) (hs : am_fit ty v = true) : narrow ty (am_v sb b v) = am_v sb b v ∧ fits ty (am_v sb b v) = true := by
  unfold am_fit at hs
  split at hs
  · exact ⟨rfl, rfl⟩
  · exact ⟨rfl, rfl⟩
  · rename_i x
    have hx : x = 0 ∨ x = 1 := by simpa using hs
    rcases hx with rfl | rfl
    · exact ⟨show narrow .boolean (.int 0) = .int 0 from by decide, show fits .boolean (.int 0) = true from by decide⟩
    · exact ⟨show narrow .boolean (.int 1) = .int 1 from by decide, show fits .boolean (.int 1) = true from by decide⟩
  · exact ⟨rfl, rfl⟩
  · exact ⟨rfl, rfl⟩
  · cases hs
theorem am_cld_eq {h : am_H} {a : Nat} {i : Int32} {x : Int32} (hs : am_cld h a i = some x) : ∃ (q n : Nat) (f : Nat → Int32), a = q + 1 ∧ h[q]? = some (.inl (2, n, .inl f)) ∧ vp_in i n ∧ x = f i.toNatClampNeg := by
  unfold am_cld at hs
  split at hs
  · cases hs
  · split at hs
    · rename_i hq
      split at hs
      · cases hs
      · rename_i hi
        cases hs
        exact ⟨_, _, _, rfl, hq, hi, rfl⟩
    · cases hs
theorem am_lld_eq {h : am_H} {a : Nat} {i : Int32} {x : Int64} (hs : am_lld h a i = some x) : ∃ (q n : Nat) (f : Nat → Int64), a = q + 1 ∧ h[q]? = some (.inl (1, n, .inr (.inl f))) ∧ vp_in i n ∧ x = f i.toNatClampNeg := by
  unfold am_lld at hs
  split at hs
  · cases hs
  · split at hs
    · rename_i hq
      split at hs
      · cases hs
      · rename_i hi
        cases hs
        exact ⟨_, _, _, rfl, hq, hi, rfl⟩
    · cases hs
theorem am_ild_eq {scr : Nat → Int32} {L : Nat} {h : am_H} {a : Nat} {i x : Int32} (hs : am_ild scr L h a i = some x) : (a = 0 ∧ vp_in i L ∧ x = scr i.toNatClampNeg) ∨ ∃ (q n : Nat) (f : Nat → Int32), a = q + 1 ∧ h[q]? = some (.inl (0, n, .inl f)) ∧ vp_in i n ∧ x = f i.toNatClampNeg := by
  unfold am_ild at hs
  split at hs
  · split at hs
    · cases hs
    · rename_i hi
      cases hs
      exact Or.inl ⟨rfl, hi, rfl⟩
  · split at hs
    · rename_i hq
      split at hs
      · cases hs
      · rename_i hi
        cases hs
        exact Or.inr ⟨_, _, _, rfl, hq, hi, rfl⟩
    · cases hs
theorem am_ist_eq {h h' : am_H} {a : Nat} {i : Int32} {x : Int32} (hs : am_ist h a i x = some h') : ∃ (q n : Nat) (f : Nat → Int32), a = q + 1 ∧ h[q]? = some (.inl (0, n, .inl f)) ∧ vp_in i n ∧ h' = h.set q (.inl (0, n, .inl (upd f i.toNatClampNeg x))) := by
  unfold am_ist at hs
  split at hs
  · cases hs
  · split at hs
    · rename_i hq
      split at hs
      · cases hs
      · rename_i hi
        cases hs
        exact ⟨_, _, _, rfl, hq, hi, rfl⟩
    · cases hs
theorem am_cst_eq {h h' : am_H} {a : Nat} {i : Int32} {x : Int32} (hs : am_cst h a i x = some h') : ∃ (q n : Nat) (f : Nat → Int32), a = q + 1 ∧ h[q]? = some (.inl (2, n, .inl f)) ∧ vp_in i n ∧ h' = h.set q (.inl (2, n, .inl (upd f i.toNatClampNeg (vp_nar .char x)))) := by
  unfold am_cst at hs
  split at hs
  · cases hs
  · split at hs
    · rename_i hq
      split at hs
      · cases hs
      · rename_i hi
        cases hs
        exact ⟨_, _, _, rfl, hq, hi, rfl⟩
    · cases hs
theorem am_lst_eq {h h' : am_H} {a : Nat} {i : Int32} {x : Int64} (hs : am_lst h a i x = some h') : ∃ (q n : Nat) (f : Nat → Int64), a = q + 1 ∧ h[q]? = some (.inl (1, n, .inr (.inl f))) ∧ vp_in i n ∧ h' = h.set q (.inl (1, n, .inr (.inl (vp_updL f i.toNatClampNeg x)))) := by
  unfold am_lst at hs
  split at hs
  · cases hs
  · split at hs
    · rename_i hq
      split at hs
      · cases hs
      · rename_i hi
        cases hs
        exact ⟨_, _, _, rfl, hq, hi, rfl⟩
    · cases hs
section AME
variable {p : Program} {l : Launch} {e : Env} {R : Room} {s : State} {m : MethodId} {args : Array Value} {below : List Frame} {meth : Method} {c : Code} {Q : State → Prop}
variable {sb b L mi d : Nat} {scr : Nat → Int32} {D : va_G} {cT : Nat → ClassId}
/-- where a frame stands -/
def am_E (p : Program) (s : State) (m : MethodId) (args : Array Value) (meth : Method) (c : Code) (R : Room) (sb b : Nat) (scr : Nat → Int32) (L : Nat) (D : va_G) (cT : Nat → ClassId) (d mi : Nat) : Prop :=
  p.tables.exec = Jvm.exec ∧ c.code = pm_code mi ∧ c.maxLocals = pm_maxL mi ∧ s.vm.findClass (pm_own mi) = some m.cls ∧ (∀ w ∈ pm_tb, w.before args s = true) ∧ va_K D pm_cl (am_ty cT) s ∧ va_X sb L scr s s.heap ∧ sb < b ∧ b ≤ s.heap.size ∧ (pm_ctor mi = true → meth.name = "<init>") ∧ d ≤ R.frames ∧ 64 * d ≤ R.locals ∧ am_G b s s.heap
/-- the machine is well from such a configuration on -/
def am_W (p : Program) (l : Launch) (e : Env) (R : Room) (s : State) (m : MethodId) (args : Array Value) (below : List Frame) (meth : Method) (c : Code) (Q : State → Prop) (sb b : Nat) (D : va_G) (cT : Nat → ClassId) (mi pc : Nat) (lv : am_L) (st : List Value) (h : am_H) (cells slots : Nat) : Prop :=
  ∀ (ls : Array Slot) (H : Heap) (locs : List Loc), lv_has ls (pm_maxL mi) (am_l sb b lv) → am_R sb b D cT h H → va_S (fun q => b ≤ q) s.heap H locs → W p l e R s m args below meth c H locs cells slots Q (F0 m pc ls (st.map (am_v sb b)))
set_option maxHeartbeats 8000000 in
set_option maxRecDepth 100000 in
theorem am_s_ok (E : am_E p s m args meth c R sb b scr L D cT d mi) {pc pc' dk dn cells slots : Nat} {lv lv' : am_L} {st st' : List Value} {h h' : am_H} {i : Jvm.ClassFile.Instr} (hd : decode (pm_code mi) pc = .ok (i, am_len pc i)) (hs : am_s d scr L mi pc lv st h i = some (pc', lv', st', h', dk, dn))
    (hcm : cells + dk ≤ R.cells) (hsm : slots + dn ≤ R.slots) (K : am_W p l e R s m args below meth c Q sb b D cT mi pc' lv' st' h' (cells + dk) (slots + dn)) : am_W p l e R s m args below meth c Q sb b D cT mi pc lv st h cells slots := by
  obtain ⟨hx, hb, hml, hown, hts, hK, hX, hsb, hbs, hin, hfr, hlo, hG⟩ := E
  intro ls H locs hl hR hS
  have hD := am_w_D sb b cT h
  have hA : ∀ q, s.heap.size ≤ q → b ≤ q := fun q hq => Nat.le_trans hbs hq
  cases i with
  | iconst n =>
    obtain ⟨rfl, rfl, rfl, rfl, rfl, rfl⟩ := am_nx_eq hs
    exact lv_iconst hx hb hd rfl (K ls H locs hl hR hS)
  | bipush n =>
    obtain ⟨rfl, rfl, rfl, rfl, rfl, rfl⟩ := am_nx_eq hs
    exact lv_bipush hx hb hd rfl (K ls H locs hl hR hS)
  | sipush n =>
    obtain ⟨rfl, rfl, rfl, rfl, rfl, rfl⟩ := am_nx_eq hs
    exact lv_sipush hx hb hd rfl (K ls H locs hl hR hS)
  | lconst n =>
    obtain ⟨rfl, rfl, rfl, rfl, rfl, rfl⟩ := am_nx_eq hs
    exact lv_lconst hx hb hd rfl (K ls H locs hl hR hS)
  | ldc k =>
    simp only [am_s] at hs
    split at hs
    · rename_i v hv
      obtain ⟨rfl, rfl, rfl, rfl, rfl, rfl⟩ := am_nx_eq hs
      exact lv_ldc hx hb hown (hts _ (pm_int_ok hv)) hd (K ls H locs hl hR hS)
    · simp only [am_chr] at hs
      split at hs
      · rename_i hc
        obtain ⟨rfl, rfl, hd4⟩ := hc
        split at hs
        · split at hs
          · rename_i a h0
            split at hs
            · rename_i x h3
              split at hs
              · rename_i ci j hf
                split at hs
                · rename_i r hv
                  split at hs
                  · rename_i sv hil
                    split at hs
                    · cases hs
                    · rename_i hlt
                      obtain ⟨rfl, rfl, rfl, rfl, rfl, rfl⟩ := am_nx_eq hs
                      obtain ⟨q, fs, rfl, hq, hj⟩ := am_get_eq hv
                      obtain ⟨C, T, N, hcl, hjN, hlk, hTC⟩ := pm_fld_ok hf
                      obtain ⟨qs, ts, fo, hvk, hjw⟩ := hG
                      have hk36 : k = 36 := by
                        have e1 : decode (pm_code 83) 43 = .ok (.ldc 36, 2) := by decide +kernel
                        rw [e1] at hd
                        injection hd with hd
                        injection hd with hd1 hd2
                        injection hd1 with hd1
                        exact hd1.symm
                      subst hk36
                      have hlt1 : ¬ sv < 0 := fun z => hlt (Or.inl z)
                      obtain ⟨kk, hkk, hsv⟩ := nI_of hlt1
                      have hk3 : kk < 3 := by
                        refine Nat.lt_of_not_le (fun z => hlt (Or.inr ?_))
                        rw [hsv, nI_clamp hkk]
                        exact z
                      have hcl2 : sv.toNatClampNeg = kk := by rw [hsv, nI_clamp hkk]
                      refine va_ldcS hx hb hown hvk hd ?_
                      refine lv_aload_n hx hb (k := 0) (i := 0) (show decode (pm_code 83) 45 = .ok (.aload_n 0, 1) by decide +kernel) rfl (am_ld_at hl h0) ?_
                      refine va_get (D := D) hx hb hts (pm_cl_ok hcl).1 hown hK hR.2 q (am_w_obj hq) hcl j hjN (hts _ hlk) (fun x9 h9 => by rw [← hTC]; exact h9) (by rw [List.getElem?_map, hj]; rfl) (show decode (pm_code 83) 46 = .ok (.getfield 11, 3) by decide +kernel) ?_
                      refine lv_iload_n hx hb (k := 3) (i := 3) (show decode (pm_code 83) 49 = .ok (.iload_n 3, 1) by decide +kernel) rfl (am_ld_at hl h3) ?_
                      have hcont : W p l e R s m args below meth c H locs cells slots Q (F0 m 51 ls (.int sv :: .ref qs :: [])) := by
                        rw [hsv]
                        refine jk_call (rest := []) (r := some (.int (jk_ch kk))) (PH := fun H => am_R sb b D cT h' H) (A := fun z => b ≤ z) (av := ([Value.ref qs, Value.int (nI kk)]).toArray) (va_runV (Ts := pm_tb) (As := [.int (nI kk)]) (rest := []) (b := qs) (index := 38) (own := pm_own 83) (C := "java/lang/String") (nL := pm_maxL 83) (n := 1) (cc := pm_code 83) ⟨hx, hb, hml, hown, hts⟩ (jk_5 l (fun z => b ≤ z) (fun H => am_R sb b D cT h' H) qs ts fo kk hk3) (cwV (Ts := pm_tb) (ws' := pm_tb) 1 hts ?_ rfl rfl rfl ⟨rfl, by decide +kernel, by decide +kernel, by decide +kernel⟩ ⟨Nat.le_trans hd4 hfr, by show 8 + (2 + 11) + 64 * 3 ≤ R.locals; omega⟩) ⟨jk_bl _ _ qs ts fo _, vk_recv (i := 0) hjw.1 (by decide) hS, fun U hU hw => jk_pre hjw hS hR U hU hw⟩ rfl rfl hl.1 rfl (lv_room (by decide)) (show decode (pm_code 83) 51 = .ok (.invokevirtual 38, 3) by decide +kernel) ⟨hcm, hsm⟩) hS (fun H1 locs1 hP1 hS1 => ?_)
                        · intro w hw
                          simp only [wsV, List.mem_append, List.mem_cons, List.not_mem_nil, or_false] at hw
                          rcases hw with (rfl | rfl | rfl | rfl) | hw
                          · exact ⟨jk_t477, pm_tb_good _ jk_t477⟩
                          · exact ⟨jk_t478, pm_tb_good _ jk_t478⟩
                          · exact ⟨jk_t479, pm_tb_good _ jk_t479⟩
                          · exact ⟨jk_t10, pm_tb_good _ jk_t10⟩
                          · exact jk_gd jk_t480 w hw
                        · have K1 := K ls H1 locs1 hl hP1 hS1
                          rw [hcl2] at K1
                          exact K1
                      rcases am_ild_eq hil with ⟨rfl, hi, hx2⟩ | ⟨q2, n2, f2, rfl, hq2, hi, hx2⟩
                      · rw [hx2] at hcont
                        exact va_sld hx hb hX (Nat.lt_of_lt_of_le hsb hbs) (Nat.not_le.mpr hsb) hS hi (show decode (pm_code 83) 50 = .ok (.iaload, 1) by decide +kernel) hcont
                      · rw [hx2] at hcont
                        exact va_iald hx hb hK hR.2 q2 0 (am_w_arr hq2) rfl hi (show decode (pm_code 83) 50 = .ok (.iaload, 1) by decide +kernel) hcont
                  · cases hs
                · cases hs
              · cases hs
            · cases hs
          · cases hs
        · cases hs
      · cases hs
  | ldc_w k =>
    simp only [am_s] at hs
    split at hs
    · rename_i v hv
      obtain ⟨rfl, rfl, rfl, rfl, rfl, rfl⟩ := am_nx_eq hs
      exact lv_ldcw hx hb hown (hts _ (pm_int_ok hv)) hd (K ls H locs hl hR hS)
    · cases hs
  | ldc2_w k =>
    simp only [am_s] at hs
    split at hs
    · rename_i v hv
      obtain ⟨rfl, rfl, rfl, rfl, rfl, rfl⟩ := am_nx_eq hs
      exact lv_ldc2 hx hb hown (hts _ (pm_long_ok hv)) hd (K ls H locs hl hR hS)
    · cases hs
  | iload k =>
    obtain ⟨x, hv, rfl, rfl, rfl, rfl, rfl, rfl⟩ := am_li_eq hs
    exact lv_iload hx hb hd (am_ld_at hl hv) (K ls H locs hl hR hS)
  | iload_n k =>
    obtain ⟨x, hv, rfl, rfl, rfl, rfl, rfl, rfl⟩ := am_li_eq hs
    exact lv_iload_n hx hb hd rfl (am_ld_at hl hv) (K ls H locs hl hR hS)
  | lload k =>
    obtain ⟨x, hv, rfl, rfl, rfl, rfl, rfl, rfl⟩ := am_ll_eq hs
    exact lv_lload hx hb hd (am_ld_at hl hv) (K ls H locs hl hR hS)
  | lload_n k =>
    obtain ⟨x, hv, rfl, rfl, rfl, rfl, rfl, rfl⟩ := am_ll_eq hs
    exact lv_lload_n hx hb hd rfl (am_ld_at hl hv) (K ls H locs hl hR hS)
  | aload k =>
    obtain ⟨x, hv, rfl, rfl, rfl, rfl, rfl, rfl⟩ := am_la_eq hs
    exact lv_aload hx hb hd (am_ld_at hl hv) (K ls H locs hl hR hS)
  | aload_n k =>
    obtain ⟨x, hv, rfl, rfl, rfl, rfl, rfl, rfl⟩ := am_la_eq hs
    exact lv_aload_n hx hb hd rfl (am_ld_at hl hv) (K ls H locs hl hR hS)
  | istore k =>
    obtain ⟨x, r, rfl, hi, rfl, rfl, rfl, rfl, rfl, rfl⟩ := am_si_eq hs
    exact lv_istore hx hb hd hl hi (am_st1_l sb b lv _ (.int x)) (fun ls' hl' => K ls' H locs (am_has_sub hl' (am_st1_sub _ _ _)) hR hS)
  | istore_n k =>
    obtain ⟨x, r, rfl, hi, rfl, rfl, rfl, rfl, rfl, rfl⟩ := am_si_eq hs
    exact lv_istore_n hx hb hd rfl hl hi (am_st1_l sb b lv _ (.int x)) (fun ls' hl' => K ls' H locs (am_has_sub hl' (am_st1_sub _ _ _)) hR hS)
  | lstore k =>
    obtain ⟨x, r, rfl, hi, rfl, rfl, rfl, rfl, rfl, rfl⟩ := am_sl2_eq hs
    exact lv_lstore hx hb hd hl hi (am_st2_l sb b lv _ (.long x)) (fun ls' hl' => K ls' H locs (am_has_sub hl' (am_st2_sub _ _ _)) hR hS)
  | lstore_n k =>
    obtain ⟨x, r, rfl, hi, rfl, rfl, rfl, rfl, rfl, rfl⟩ := am_sl2_eq hs
    exact lv_lstore_n hx hb hd rfl hl hi (am_st2_l sb b lv _ (.long x)) (fun ls' hl' => K ls' H locs (am_has_sub hl' (am_st2_sub _ _ _)) hR hS)
  | astore k =>
    obtain ⟨x, r, rfl, hi, rfl, rfl, rfl, rfl, rfl, rfl⟩ := am_sa_eq hs
    exact lv_astore hx hb hd hl hi (am_st1_l sb b lv _ (.ref x)) (fun ls' hl' => K ls' H locs (am_has_sub hl' (am_st1_sub _ _ _)) hR hS)
  | astore_n k =>
    obtain ⟨x, r, rfl, hi, rfl, rfl, rfl, rfl, rfl, rfl⟩ := am_sa_eq hs
    exact lv_astore_n hx hb hd rfl hl hi (am_st1_l sb b lv _ (.ref x)) (fun ls' hl' => K ls' H locs (am_has_sub hl' (am_st1_sub _ _ _)) hR hS)
  | iinc k n =>
    simp only [am_s] at hs
    split at hs
    · rename_i x hv
      split at hs
      · rename_i hi
        obtain ⟨rfl, rfl, rfl, rfl, rfl, rfl⟩ := am_nx_eq hs
        obtain ⟨kx, hk⟩ := am_ld_ix (sb := sb) (b := b) hv
        exact lv_iinc hx hb hd hl hk rfl hi (am_st1_l sb b lv _ (.int (x + Int32.ofInt n))) (fun ls' hl' => K ls' H locs (am_has_sub hl' (am_st1_sub _ _ _)) hR hS)
      · cases hs
    · cases hs
  | iadd =>
    obtain ⟨x, y, r, rfl, rfl, rfl, rfl, rfl, rfl, rfl⟩ := am_p2_eq hs
    exact lv_iadd hx hb hd (K ls H locs hl hR hS)
  | isub =>
    obtain ⟨x, y, r, rfl, rfl, rfl, rfl, rfl, rfl, rfl⟩ := am_p2_eq hs
    exact lv_isub hx hb hd (K ls H locs hl hR hS)
  | imul =>
    obtain ⟨x, y, r, rfl, rfl, rfl, rfl, rfl, rfl, rfl⟩ := am_p2_eq hs
    exact lv_imul hx hb hd (K ls H locs hl hR hS)
  | iand =>
    obtain ⟨x, y, r, rfl, rfl, rfl, rfl, rfl, rfl, rfl⟩ := am_p2_eq hs
    exact lv_iand hx hb hd (K ls H locs hl hR hS)
  | ior =>
    obtain ⟨x, y, r, rfl, rfl, rfl, rfl, rfl, rfl, rfl⟩ := am_p2_eq hs
    exact lv_ior hx hb hd (K ls H locs hl hR hS)
  | ixor =>
    obtain ⟨x, y, r, rfl, rfl, rfl, rfl, rfl, rfl, rfl⟩ := am_p2_eq hs
    exact lv_ixor hx hb hd (K ls H locs hl hR hS)
  | ishl =>
    obtain ⟨x, y, r, rfl, rfl, rfl, rfl, rfl, rfl, rfl⟩ := am_p2_eq hs
    exact lv_ishl hx hb hd (K ls H locs hl hR hS)
  | ishr =>
    obtain ⟨x, y, r, rfl, rfl, rfl, rfl, rfl, rfl, rfl⟩ := am_p2_eq hs
    exact lv_ishr hx hb hd (K ls H locs hl hR hS)
  | idiv =>
    obtain ⟨x, y, r, rfl, hy, rfl, rfl, rfl, rfl, rfl, rfl⟩ := am_dz_eq hs
    exact lv_idiv hx hb hd hy (K ls H locs hl hR hS)
  | irem =>
    obtain ⟨x, y, r, rfl, hy, rfl, rfl, rfl, rfl, rfl, rfl⟩ := am_dz_eq hs
    exact lv_irem hx hb hd hy (K ls H locs hl hR hS)
  | ladd =>
    obtain ⟨x, y, r, rfl, rfl, rfl, rfl, rfl, rfl, rfl⟩ := am_q2_eq hs
    exact lv_ladd hx hb hd (K ls H locs hl hR hS)
  | lsub =>
    obtain ⟨x, y, r, rfl, rfl, rfl, rfl, rfl, rfl, rfl⟩ := am_q2_eq hs
    exact lv_lsub hx hb hd (K ls H locs hl hR hS)
  | land =>
    obtain ⟨x, y, r, rfl, rfl, rfl, rfl, rfl, rfl, rfl⟩ := am_q2_eq hs
    exact lv_land hx hb hd (K ls H locs hl hR hS)
  | lor =>
    obtain ⟨x, y, r, rfl, rfl, rfl, rfl, rfl, rfl, rfl⟩ := am_q2_eq hs
    exact lv_lor hx hb hd (K ls H locs hl hR hS)
  | lxor =>
    obtain ⟨x, y, r, rfl, rfl, rfl, rfl, rfl, rfl, rfl⟩ := am_q2_eq hs
    exact lv_lxor hx hb hd (K ls H locs hl hR hS)
  | lcmp =>
    obtain ⟨x, y, r, rfl, rfl, rfl, rfl, rfl, rfl, rfl⟩ := am_q2_eq hs
    exact W.lcmp hx hb hd (K ls H locs hl hR hS)
  | lushr =>
    obtain ⟨x, y, r, rfl, rfl, rfl, rfl, rfl, rfl, rfl⟩ := am_qi_eq hs
    exact lv_lushr hx hb hd rfl (K ls H locs hl hR hS)
  | lshl =>
    obtain ⟨x, y, r, rfl, rfl, rfl, rfl, rfl, rfl, rfl⟩ := am_qi_eq hs
    exact lv_lshl hx hb hd rfl (K ls H locs hl hR hS)
  | lshr =>
    obtain ⟨x, y, r, rfl, rfl, rfl, rfl, rfl, rfl, rfl⟩ := am_qi_eq hs
    exact lv_lshr hx hb hd rfl (K ls H locs hl hR hS)
  | i2l =>
    obtain ⟨x, r, rfl, rfl, rfl, rfl, rfl, rfl, rfl⟩ := am_p1_eq hs
    exact lv_i2l hx hb hd rfl (K ls H locs hl hR hS)
  | i2c =>
    obtain ⟨x, r, rfl, rfl, rfl, rfl, rfl, rfl, rfl⟩ := am_p1_eq hs
    exact lv_i2c hx hb hd rfl (K ls H locs hl hR hS)
  | ineg =>
    obtain ⟨x, r, rfl, rfl, rfl, rfl, rfl, rfl, rfl⟩ := am_p1_eq hs
    exact lv_ineg hx hb hd (K ls H locs hl hR hS)
  | l2i =>
    obtain ⟨x, r, rfl, rfl, rfl, rfl, rfl, rfl, rfl⟩ := am_q1_eq hs
    exact lv_l2i hx hb hd rfl (K ls H locs hl hR hS)
  | dup =>
    simp only [am_s] at hs
    split at hs
    · split at hs
      · rename_i v r hv
        obtain ⟨rfl, rfl, rfl, rfl, rfl, rfl⟩ := am_nx_eq hs
        exact lv_dup hx hb hd ((am_cat sb b v).trans hv) (K ls H locs hl hR hS)
      · cases hs
    · cases hs
  | pop =>
    simp only [am_s] at hs
    split at hs
    · split at hs
      · rename_i v r hv
        obtain ⟨rfl, rfl, rfl, rfl, rfl, rfl⟩ := am_nx_eq hs
        exact lv_pop hx hb hd ((am_cat sb b v).trans hv) (K ls H locs hl hR hS)
      · cases hs
    · cases hs
  | dup_x1 =>
    simp only [am_s] at hs
    split at hs
    · split at hs
      · rename_i v u r hv
        obtain ⟨rfl, rfl, rfl, rfl, rfl, rfl⟩ := am_nx_eq hs
        exact lv_dup_x1 hx hb hd ((am_cat sb b v).trans hv.1) ((am_cat sb b u).trans hv.2) (K ls H locs hl hR hS)
      · cases hs
    · cases hs
  | dup2 =>
    simp only [am_s] at hs
    split at hs
    · split at hs
      · rename_i v u r hv
        obtain ⟨rfl, rfl, rfl, rfl, rfl, rfl⟩ := am_nx_eq hs
        exact lv_dup2_11 hx hb hd ((am_cat sb b v).trans hv.1) ((am_cat sb b u).trans hv.2) (K ls H locs hl hR hS)
      · cases hs
    · cases hs
  | dup_x2 =>
    simp only [am_s] at hs
    split at hs
    · split at hs
      · rename_i v u t r hv
        obtain ⟨rfl, rfl, rfl, rfl, rfl, rfl⟩ := am_nx_eq hs
        exact lv_dup_x2 hx hb hd ((am_cat sb b v).trans hv.1) ((am_cat sb b u).trans hv.2.1) ((am_cat sb b t).trans hv.2.2) (K ls H locs hl hR hS)
      · cases hs
    · cases hs
  | goto o =>
    simp only [am_s] at hs
    split at hs
    · cases hs
    · rename_i hi
      obtain ⟨rfl, rfl, rfl, rfl, rfl, rfl⟩ := am_nx_eq hs
      exact lv_goto hx hb hd (am_tg_eq hi) (K ls H locs hl hR hS)
  | ifCond cnd o =>
    simp only [am_s] at hs
    split at hs
    · rename_i x r
      obtain ⟨ht, rfl, rfl, rfl, rfl, rfl, rfl⟩ := am_jp_eq hs
      have K1 := K ls H locs hl hR hS
      cases cnd with
      | eq =>
        refine lv_if_eq hx hb hd ht (fun hc => ?_) (fun hc => ?_)
        · rw [if_pos (show am_c0 .eq x = true from by simpa [am_c0] using hc)] at K1
          exact K1
        · rw [if_neg (show ¬ am_c0 .eq x = true from by simpa [am_c0] using hc)] at K1
          exact K1
      | ne =>
        refine lv_if_ne hx hb hd ht (fun hc => ?_) (fun hc => ?_)
        · rw [if_pos (show am_c0 .ne x = true from by simpa [am_c0] using hc)] at K1
          exact K1
        · rw [if_neg (show ¬ am_c0 .ne x = true from by simpa [am_c0] using hc)] at K1
          exact K1
      | lt =>
        refine lv_if_lt hx hb hd ht (fun hc => ?_) (fun hc => ?_)
        · rw [if_pos (show am_c0 .lt x = true from by simpa [am_c0] using hc)] at K1
          exact K1
        · rw [if_neg (show ¬ am_c0 .lt x = true from by simpa [am_c0] using hc)] at K1
          exact K1
      | ge =>
        refine lv_if_ge hx hb hd ht (fun hc => ?_) (fun hc => ?_)
        · rw [if_pos (show am_c0 .ge x = true from by simpa [am_c0] using hc)] at K1
          exact K1
        · rw [if_neg (show ¬ am_c0 .ge x = true from by simpa [am_c0] using hc)] at K1
          exact K1
      | gt =>
        refine lv_if_gt hx hb hd ht (fun hc => ?_) (fun hc => ?_)
        · rw [if_pos (show am_c0 .gt x = true from by simpa [am_c0] using hc)] at K1
          exact K1
        · rw [if_neg (show ¬ am_c0 .gt x = true from by simpa [am_c0] using hc)] at K1
          exact K1
      | le =>
        refine lv_if_le hx hb hd ht (fun hc => ?_) (fun hc => ?_)
        · rw [if_pos (show am_c0 .le x = true from by simpa [am_c0] using hc)] at K1
          exact K1
        · rw [if_neg (show ¬ am_c0 .le x = true from by simpa [am_c0] using hc)] at K1
          exact K1
    · cases hs
  | if_icmp cnd o =>
    simp only [am_s] at hs
    split at hs
    · rename_i y x r
      obtain ⟨ht, rfl, rfl, rfl, rfl, rfl, rfl⟩ := am_jp_eq hs
      have K1 := K ls H locs hl hR hS
      cases cnd with
      | eq =>
        refine lv_icmp_eq hx hb hd ht (fun hc => ?_) (fun hc => ?_)
        · rw [if_pos (show am_c2 .eq x y = true from by simpa [am_c2] using hc)] at K1
          exact K1
        · rw [if_neg (show ¬ am_c2 .eq x y = true from by simpa [am_c2] using hc)] at K1
          exact K1
      | ne =>
        refine lv_icmp_ne hx hb hd ht (fun hc => ?_) (fun hc => ?_)
        · rw [if_pos (show am_c2 .ne x y = true from by simpa [am_c2] using hc)] at K1
          exact K1
        · rw [if_neg (show ¬ am_c2 .ne x y = true from by simpa [am_c2] using hc)] at K1
          exact K1
      | lt =>
        refine lv_icmp_lt hx hb hd ht (fun hc => ?_) (fun hc => ?_)
        · rw [if_pos (show am_c2 .lt x y = true from by simpa [am_c2] using hc)] at K1
          exact K1
        · rw [if_neg (show ¬ am_c2 .lt x y = true from by simpa [am_c2] using hc)] at K1
          exact K1
      | ge =>
        refine lv_icmp_ge hx hb hd ht (fun hc => ?_) (fun hc => ?_)
        · rw [if_pos (show am_c2 .ge x y = true from by simpa [am_c2] using hc)] at K1
          exact K1
        · rw [if_neg (show ¬ am_c2 .ge x y = true from by simpa [am_c2] using hc)] at K1
          exact K1
      | gt =>
        refine lv_icmp_gt hx hb hd ht (fun hc => ?_) (fun hc => ?_)
        · rw [if_pos (show am_c2 .gt x y = true from by simpa [am_c2] using hc)] at K1
          exact K1
        · rw [if_neg (show ¬ am_c2 .gt x y = true from by simpa [am_c2] using hc)] at K1
          exact K1
      | le =>
        refine lv_icmp_le hx hb hd ht (fun hc => ?_) (fun hc => ?_)
        · rw [if_pos (show am_c2 .le x y = true from by simpa [am_c2] using hc)] at K1
          exact K1
        · rw [if_neg (show ¬ am_c2 .le x y = true from by simpa [am_c2] using hc)] at K1
          exact K1
    · cases hs
  | tableswitch dflt lo hi offs =>
    simp only [am_s] at hs
    split at hs
    · split at hs
      · rename_i hr
        split at hs
        · cases hs
        · rename_i hi2
          obtain ⟨rfl, rfl, rfl, rfl, rfl, rfl⟩ := am_nx_eq hs
          exact lv_tableOut hx hb hd hr (am_tg_eq hi2) (K ls H locs hl hR hS)
      · rename_i hr
        split at hs
        · rename_i o ho
          split at hs
          · cases hs
          · rename_i hi2
            obtain ⟨rfl, rfl, rfl, rfl, rfl, rfl⟩ := am_nx_eq hs
            exact lv_tableIn hx hb hd (fun z => hr (Or.inl z)) (fun z => hr (Or.inr z)) ho (am_tg_eq hi2) (K ls H locs hl hR hS)
        · cases hs
    · cases hs
  | lookupswitch dflt ps =>
    simp only [am_s] at hs
    split at hs
    · split at hs
      · rename_i hp
        split at hs
        · cases hs
        · rename_i hi2
          obtain ⟨rfl, rfl, rfl, rfl, rfl, rfl⟩ := am_nx_eq hs
          exact lv_lookup hx hb hd hp rfl (am_tg_eq hi2) (K ls H locs hl hR hS)
      · cases hs
    · cases hs
  | getfield k =>
    simp only [am_s] at hs
    split at hs
    · split at hs
      · rename_i ci j hf
        split at hs
        · rename_i v hv
          obtain ⟨rfl, rfl, rfl, rfl, rfl, rfl⟩ := am_nx_eq hs
          obtain ⟨q, fs, rfl, hq, hj⟩ := am_get_eq hv
          obtain ⟨C, T, N, hc, hjN, hlk, hTC⟩ := pm_fld_ok hf
          exact va_get (D := D) hx hb hts (pm_cl_ok hc).1 hown hK hR.2 q (am_w_obj hq) hc j hjN (hts _ hlk) (fun x9 h9 => by rw [← hTC]; exact h9) (by rw [List.getElem?_map, hj]; rfl) hd (K ls H locs hl hR hS)
        · cases hs
      · cases hs
    · cases hs
  | putfield k =>
    simp only [am_s] at hs
    split at hs
    · rename_i v a r
      split at hs
      · rename_i ci j ty hf
        split at hs
        · rename_i hfit
          split at hs
          · rename_i h2 hp
            obtain ⟨rfl, rfl, rfl, rfl, rfl, rfl⟩ := am_nx_eq hs
            obtain ⟨q, fs, rfl, hq, hj, rfl⟩ := am_put_eq hp
            obtain ⟨C, T, N, hc, hjN, hlk, hty, hfin⟩ := pm_pfl_ok hf
            obtain ⟨hin9, ty0, hty0, hnm, -⟩ := pm_cl_ok hc
            obtain ⟨hn1, hn2⟩ := am_fit_ok sb b hfit
            refine am_xp hx hb hts hin9 ty0 hty0 hnm hown hK hR.2 hD hS q (am_w_obj hq) hc j hjN (hts _ hlk) ?_ hty hn1 hn2 (by rw [List.length_map]; exact hj) hd (fun H1 locs1 hz hP1 hS1 => K ls H1 locs1 hl ⟨?_, ?_⟩ hS1)
            · rcases hfin with hfin | ⟨h1, h2, h3⟩
              · exact Or.inl hfin
              · exact Or.inr ⟨h1, hin h2, h3⟩
            · rw [hz, hR.1, List.length_set]
            · rw [am_w_set, Nat.zero_add]
              show va_P D pm_cl ((am_w sb b cT 0 h).set q (b + q, .inr (ci, (fs.set j v).map (am_v sb b)))) H1
              rw [List.map_set]
              exact hP1
          · cases hs
        · cases hs
      · cases hs
    · cases hs
  | iaload =>
    simp only [am_s] at hs
    split at hs
    · split at hs
      · rename_i x hv
        obtain ⟨rfl, rfl, rfl, rfl, rfl, rfl⟩ := am_nx_eq hs
        rcases am_ild_eq hv with ⟨rfl, hi, rfl⟩ | ⟨q, n, f, rfl, hq, hi, rfl⟩
        · exact va_sld hx hb hX (Nat.lt_of_lt_of_le hsb hbs) (Nat.not_le.mpr hsb) hS hi hd (K ls H locs hl hR hS)
        · exact va_iald hx hb hK hR.2 q 0 (am_w_arr hq) rfl hi hd (K ls H locs hl hR hS)
      · cases hs
    · cases hs
  | caload =>
    simp only [am_s] at hs
    split at hs
    · split at hs
      · rename_i x hv
        obtain ⟨rfl, rfl, rfl, rfl, rfl, rfl⟩ := am_nx_eq hs
        obtain ⟨q, n, f, rfl, hq, hi, rfl⟩ := am_cld_eq hv
        exact va_cald hx hb hK hR.2 q 2 (am_w_arr hq) rfl hi hd (K ls H locs hl hR hS)
      · cases hs
    · cases hs
  | laload =>
    simp only [am_s] at hs
    split at hs
    · split at hs
      · rename_i x hv
        obtain ⟨rfl, rfl, rfl, rfl, rfl, rfl⟩ := am_nx_eq hs
        obtain ⟨q, n, f, rfl, hq, hi, rfl⟩ := am_lld_eq hv
        exact va_lald hx hb hK hR.2 q 1 (am_w_arr hq) rfl hi hd (K ls H locs hl hR hS)
      · cases hs
    · cases hs
  | iastore =>
    simp only [am_s] at hs
    split at hs
    · split at hs
      · rename_i h2 hv
        obtain ⟨rfl, rfl, rfl, rfl, rfl, rfl⟩ := am_nx_eq hs
        obtain ⟨q, n, f, rfl, hq, hi, rfl⟩ := am_ist_eq hv
        refine am_xi hx hb hK hR.2 hD hS q 0 (am_w_arr hq) rfl hi hd (fun H1 locs1 hz hP1 hS1 => K ls H1 locs1 hl ⟨?_, ?_⟩ hS1)
        · rw [hz, hR.1, List.length_set]
        · rw [am_w_set, Nat.zero_add]
          exact hP1
      · cases hs
    · cases hs
  | castore =>
    simp only [am_s] at hs
    split at hs
    · split at hs
      · rename_i h2 hv
        obtain ⟨rfl, rfl, rfl, rfl, rfl, rfl⟩ := am_nx_eq hs
        obtain ⟨q, n, f, rfl, hq, hi, rfl⟩ := am_cst_eq hv
        refine am_xc hx hb hK hR.2 hD hS q 2 (am_w_arr hq) rfl hi hd (fun H1 locs1 hz hP1 hS1 => K ls H1 locs1 hl ⟨?_, ?_⟩ hS1)
        · rw [hz, hR.1, List.length_set]
        · rw [am_w_set, Nat.zero_add]
          exact hP1
      · cases hs
    · cases hs
  | lastore =>
    simp only [am_s] at hs
    split at hs
    · split at hs
      · rename_i h2 hv
        obtain ⟨rfl, rfl, rfl, rfl, rfl, rfl⟩ := am_nx_eq hs
        obtain ⟨q, n, f, rfl, hq, hi, rfl⟩ := am_lst_eq hv
        refine am_xl hx hb hK hR.2 hD hS q 1 (am_w_arr hq) rfl hi hd (fun H1 locs1 hz hP1 hS1 => K ls H1 locs1 hl ⟨?_, ?_⟩ hS1)
        · rw [hz, hR.1, List.length_set]
        · rw [am_w_set, Nat.zero_add]
          exact hP1
      · cases hs
    · cases hs
  | arraylength =>
    simp only [am_s] at hs
    split at hs
    · obtain ⟨rfl, rfl, rfl, rfl, rfl, rfl⟩ := am_nx_eq hs
      exact va_slen hx hb hX (Nat.lt_of_lt_of_le hsb hbs) (Nat.not_le.mpr hsb) hS hd (K ls H locs hl hR hS)
    · cases hs
  | new k =>
    simp only [am_s] at hs
    split at hs
    · rename_i ci hci
      cases hs
      obtain ⟨C, T, N, hc, hlk⟩ := pm_cls_ok hci
      obtain ⟨hin9, ty0, hty0, hnm, hdf, hdl, hins, hini⟩ := pm_cl_ok hc
      have hKn := hK.1 ci _ hc
      rw [hdl] at hsm K
      refine W.newcK hx hb hown (hts _ hlk) (hts _ hins) (hts _ hini) rfl hd hcm hsm hKn.2.1 hR.1 fun H1 kC hkC e1 z1 o1 => ?_
      have hk : ∀ (k : Nat) (x : Nat × va_E), (am_w sb b cT 0 h)[k]? = some x → H1[x.1]? = H[x.1]? := fun k x hx => o1 x.1 (by rw [← hR.1]; exact ((hR.2 k x hx).lt))
      refine K ls H1 locs hl ⟨by rw [z1, List.length_append]; rfl, ?_⟩ ⟨Nat.le_trans hS.1 (by rw [z1, hR.1]; omega), fun x h1 h2 => (o1 x (by rw [← hR.1]; exact Nat.lt_of_lt_of_le h1 hS.1)).trans (hS.2.1 x h1 h2), hS.2.2⟩
      rw [am_w_app, Nat.zero_add]
      refine (hR.2.kept hk).app (fun k x hx => ?_)
      have hz : k < 1 := (List.getElem?_eq_some_iff.mp hx).1
      rw [show k = 0 by omega] at hx
      cases hx
      refine ⟨_, hc, (u_born ty0 hts hin9 hKn hkC e1 hty0).to (fun j hj => ?_)⟩
      rw [hdf j hj]
      exact (am_def_v sb b ci j).symm
    · cases hs
  | newarray t =>
    simp only [am_s, am_na] at hs
    split at hs
    · rename_i n r
      split at hs
      · cases hs
      · rename_i hn
        split at hs
        · rename_i q hq
          cases hs
          have hn0 : ¬ n < 0 := fun z => hn (Or.inl z)
          have hn1 : n.toNatClampNeg ≤ 65536 := Nat.not_lt.mp (fun z => hn (Or.inr z))
          have fin : ∀ (t0 : Nat) (ty : FieldType) (x : vp_A), q = .inl (t0, x) → newarray.typeOf t = ty → (am_ty cT)[t0]? = some (cT t0, ty) → (ty = .int ∨ ty = .long ∨ ty = .char) → (∀ cA : ClassId, vp_cell cA x = arrV cA n.toNatClampNeg (fun _ => defaultValue ty)) → W p l e R s m args below meth c H locs cells slots Q (F0 m pc ls ((.int n :: r).map (am_v sb b))) := by
            intro t0 ty x hqe hte hti hty hcell
            subst hqe
            subst hte
            have hra := (hK.2 t0 _ hti).2
            refine va_newaK hx hb (hts _ (pm_arr_ok t hty)) rfl hd rfl hn0 rfl (by rcases hty with h | h | h <;> rw [h] <;> simp [componentBytes] <;> omega) hcm hsm hR.1 fun H1 cA e1 z1 o1 hAr hNm => ?_
            have hcA : cA = cT t0 := by
              have h2 : s.vm.findClass ("[" ++ (newarray.typeOf t).toString) = some (cT t0) := by
                rcases hty with h | h | h <;> (rw [h] at hra ⊢; exact hra)
              exact Option.some.inj (hNm.symm.trans h2)
            subst hcA
            have hk : ∀ (k : Nat) (x : Nat × va_E), (am_w sb b cT 0 h)[k]? = some x → H1[x.1]? = H[x.1]? := fun k x hx => o1 x.1 (by rw [← hR.1]; exact ((hR.2 k x hx).lt))
            refine K ls H1 locs hl ⟨by rw [z1, List.length_append]; rfl, ?_⟩ ⟨Nat.le_trans hS.1 (by rw [z1, hR.1]; omega), fun x h1 h2 => (o1 x (by rw [← hR.1]; exact Nat.lt_of_lt_of_le h1 hS.1)).trans (hS.2.1 x h1 h2), hS.2.2⟩
            rw [am_w_app, Nat.zero_add]
            refine (hR.2.kept hk).app (fun k x hx => ?_)
            have hz : k < 1 := (List.getElem?_eq_some_iff.mp hx).1
            rw [show k = 0 by omega] at hx
            cases hx
            show H1[b + h.length]? = some (vp_cell _ _)
            rw [hcell]
            exact e1
          cases t with
          | int =>
            simp only [am_arr, Option.some.injEq] at hq
            exact fin 0 .int _ hq.symm rfl rfl (Or.inl rfl) (fun cA => rfl)
          | long =>
            simp only [am_arr, Option.some.injEq] at hq
            exact fin 1 .long _ hq.symm rfl rfl (Or.inr (Or.inl rfl)) (fun cA => rfl)
          | char =>
            simp only [am_arr, Option.some.injEq] at hq
            exact fin 2 .char _ hq.symm rfl rfl (Or.inr (Or.inr rfl)) (fun cA => rfl)
          | _ => exact nomatch (show (none : Option am_C) = some q from hq)
        · cases hs
    · cases hs
  | invokespecial k =>
    simp only [am_s, am_oi] at hs
    split at hs
    · split at hs
      · rename_i hc
        obtain ⟨rfl, rfl, rfl, rfl, rfl, rfl⟩ := am_nx_eq hs
        obtain ⟨h1, h2, h3⟩ := hc
        obtain ⟨g1, g2, g3⟩ := pm_obj_ok h1
        refine W.objInit hx hb hown (hts _ g1) (hts _ g2) (hts _ g3) rfl (by rw [hml]; exact hl.1) rfl hd (Nat.le_trans h2 hfr) ?_ (K ls H locs hl hR hS)
        show 2 * 0 + _ + 12 ≤ _
        rw [am_sum]
        omega
      · cases hs
    · cases hs
  | _ =>
    exact nomatch (show (none : Option am_O) = some _ from hs)
end AME
