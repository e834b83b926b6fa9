/-! THE CLAIM OUT OF ONE WALK OF THE LAW'S BODY. Your part is whole_start (and what it stands on); all else here is the same for every law, but numbers. -/
def R_law : String := "BlameDeskLaw"
def lw_P (b : Addr) (xs : List Int32) (args : Array Value) (s : State) : Prop := args = #[.ref b] ∧ s.IntsAt b xs ∧ xs.length ≤ 1536 ∧ (Jvm.Cond.and given_1 narrow_1).before args s = true
def lw_Q (_ : Array Value) (s : State) (o : Outcome) (t : State) : Prop := o = .returned (some (.int 1)) ∧ Framed s o t [] 600000 7302250
def lw_Z (below : List Frame) (a : Array Value) (s : State) : State → Prop := fun t => ∃ o, t.status = .running ∧ Ended t below o ∧ lw_Q a s o t
/-- the law's own end, with 1 on the stack, nothing written that was there before, its room as the claim has it -/
theorem lw_ret {p : Program} {l : Launch} {e : Env} {s : State} {m : MethodId} {below : List Frame} {meth : Method} {c : Code} {b : Nat} (hx : p.tables.exec = Jvm.exec) (hb : c.code = code) (hr : meth.sig.returnType = ret) (hlocks : meth.locks = false) {pc : Nat} {H : Heap} {ls : Array Slot} (hdg : decode code pc = .ok (.ireturn, 1)) : W p l e room_1 s m #[Value.ref b] below meth c H [] 600000 7302250 (lw_Z below #[Value.ref b] s) (F0 m pc ls [.int 1]) := by
  intro T hT X
  obtain ⟨fs, hret, hrun, hended, hW, hframe⟩ := X.leave (v := some (.int 1)) (hlocks := hlocks) (fun h => by rw [hr] at h; cases h)
  have hmeth' : T.vm.method? m = some meth := X.method'
  refine ⟨T.setFrames fs, ?_, .returned (some (.int 1)), hrun, hended, rfl, ⟨_, rfl⟩, hW, hframe⟩
  jvm_step X.here [X.here.top, hx, hb, hdg, hmeth', hr, ret, narrow_b1]
  (try refine ⟨rfl, ?_⟩); (try refine ⟨rfl, ?_⟩)
  first | (intro acts; rw [hret _ acts rfl rfl rfl]) | rw [hret _ _ rfl rfl rfl]
  exact Steps.refl _
/-- what holds at the law's entry: the machine, the code, the tables' words (any of lw_tbl by 'hts w (by decide +kernel)'), the script of L ints xs at the cell b, what the Statement gives of the start (any of its parts by flat_of_before) -/
def lw_At (p : Program) (s : State) (m : MethodId) (meth : Method) (c : Code) (b L : Nat) (xs : Nat → Int32) : Prop :=
  p.tables.exec = Jvm.exec ∧ c.code = code ∧ meth.sig.returnType = ret ∧ c.maxLocals = 4 ∧ s.vm.findClass R_law = some m.cls ∧ (∀ w ∈ lw_tbl, w.before #[Value.ref b] s = true) ∧ va_X b L xs s s.heap ∧ b < s.heap.size ∧ meth.locks = false ∧ (Jvm.Cond.and given_1 narrow_1).before #[Value.ref b] s = true
theorem am_g0 {args : Array Value} {s : State} (hts : ∀ w ∈ lw_tbl, w.before args s = true) (hgn : (Jvm.Cond.and given_1 narrow_1).before args s = true) : am_G s.heap.size s s.heap := by
  have hf := flat_of_before _ hgn
  have hA : ∀ a : Nat, a < s.heap.size → ¬ s.heap.size ≤ a := fun a h => Nat.not_le.mpr h
  have ht : ∀ w ∈ pm_tb, w.before args s = true := fun w hw => hts w (List.mem_filter.mp hw).1
  obtain ⟨adK, adV, hS, hE⟩ := vk_Sof (args := args) (s := s) (N := 1) (tm := fun _ => Term.string "BlameDesk$Types" 36) (len := [3]) (byt := [[63, 105, 98]]) (A := fun z => s.heap.size ≤ z) (fun i hi => by
      obtain rfl : i = 0 := by omega
      decide) (fun i _ => hf _ (by decide +kernel)) (fun i _ => hf _ (by decide +kernel)) (fun i _ => hf _ (by decide +kernel)) (fun i hi => by
      obtain rfl : i = 0 := by omega
      exact hf _ (by decide +kernel)) (fun i hi j hj => by
      obtain rfl : i = 0 := by omega
      have hj3 : j = 0 ∨ j = 1 ∨ j = 2 := by
        have : j < 3 := hj
        omega
      rcases hj3 with rfl | rfl | rfl
      · exact hf _ (by decide +kernel)
      · exact hf _ (by decide +kernel)
      · exact hf _ (by decide +kernel)) (fun i j hi hj hne => by omega) hA
  have hi := hf (Jvm.Cond.isRef (Jvm.Term.static "jdk/internal/util/Preconditions" "SIOOBE_FORMATTER" "Ljava/util/function/BiFunction;")) (by decide +kernel)
  obtain ⟨v, hv, hr⟩ := Cond.isRef_spec hi
  have hcat : v.category = 1 := by
    cases v with
    | ref f => rfl
    | null => rfl
    | _ => cases hr
  refine ⟨adK 0, adV 0, v, vk_R.of (hts _ jk_t476) (hE 0 (by omega)), ⟨fun i hi => ?_, fun i j hi hj _ => by omega⟩, va_Zof (hts _ jk_t486) (ht _ jk_t10) (va_eqt (hf _ (by decide +kernel))) hA, va_Zof (hts _ jk_t494) (ht _ jk_t12) hv hA, hcat⟩
  obtain rfl : i = 0 := by omega
  exact hS.1 0 (by omega)
theorem am_kn {args : Array Value} {s : State} (hts : ∀ w ∈ pm_tb, w.before args s = true) : ∃ (D : va_G) (cT : Nat → ClassId), va_K D pm_cl (am_ty cT) s := by
  have h1 : ∀ ci : Nat, ∃ q : ClassId × (Nat → Nat), ∀ r : vw_C, pm_cl[ci]? = some r → u_Kn s r.1 r.2.1 r.2.2 q.1 q.2 := by
    intro ci
    cases hc : pm_cl[ci]? with
    | none => exact ⟨(0, fun _ => 0), fun r h => by cases h⟩
    | some r =>
      obtain ⟨C, T, N⟩ := r
      obtain ⟨hin, ty0, -, -, -, -, hins, -⟩ := pm_cl_ok hc
      obtain ⟨cC, iS, hk⟩ := u_known hts hin (hts _ hins)
      exact ⟨(cC, iS), fun r h => by cases h; exact hk⟩
  have h2 : ∀ ty : FieldType, Cond.arrayClass ty ∈ pm_tb → (ty = .int ∨ ty = .long ∨ ty = .char) → ∃ cA : ClassId, ArrOfT s cA ty ∧ va_RA s cA ty := by
    intro ty hty ht
    obtain ⟨cA, kA, comp, a1, a2, a3⟩ := Cond.arrayClass_spec (hts _ hty)
    refine ⟨cA, fun n z => ⟨fun k h => (by cases h), kA, a2, comp, a3⟩, ?_⟩
    rcases ht with rfl | rfl | rfl <;> exact a1
  obtain ⟨c0, hc0⟩ := h2 .int pm_ar1 (Or.inl rfl)
  obtain ⟨c1, hc1⟩ := h2 .long pm_ar2 (Or.inr (Or.inl rfl))
  obtain ⟨c2, hc2⟩ := h2 .char pm_ar3 (Or.inr (Or.inr rfl))
  refine ⟨(fun c => (Classical.choose (h1 c)).1, fun c => (Classical.choose (h1 c)).2), fun k => match k with | 0 => c0 | 1 => c1 | _ => c2, fun c q hq => Classical.choose_spec (h1 c) q hq, fun k q hk => ?_⟩
  match k, hk with
  | 0, hk => cases hk; exact hc0
  | 1, hk => cases hk; exact hc1
  | 2, hk => cases hk; exact hc2
  | k + 3, hk => cases hk
set_option maxRecDepth 100000 in
set_option maxHeartbeats 4000000 in
/-- the law's walk out of a run of the abstract machine -/
theorem am_law {p : Program} {e : Env} {s : State} {m : MethodId} {below : List Frame} {meth : Method} {c : Code} (l : Launch) {b L : Nat} {xs : Nat → Int32} (C0 : lw_At p s m meth c b L xs) {F d k n : Nat} {h' : am_H} (hd : d ≤ 1300) (hk : k ≤ 600000) (hn : n ≤ 7302250)
    (hr : am_f d xs L (am_r xs L F d) 0 F 0 [(0, .ref 0)] [] [] = some (some (.int 1), h', k, n)) : W p l e room_1 s m #[Value.ref b] below meth c s.heap [] 0 0 (lw_Z below #[Value.ref b] s) (entryFrame m ([Value.ref b] : List Value).toArray 4) := by
  obtain ⟨hx, hb, hret, hml, hown, hts0, hX, hbl, hlk, hgn⟩ := C0
  have hG := am_g0 hts0 hgn
  have hts : ∀ w ∈ pm_tb, w.before #[Value.ref b] s = true := fun w hw => hts0 w (List.mem_filter.mp hw).1
  obtain ⟨D, cT, hK⟩ := am_kn hts
  have E : am_E p s m #[Value.ref b] meth c room_1 b s.heap.size xs L D cT d 0 := ⟨hx, hb, hml, hown, hts, hK, hX, hbl, Nat.le_refl _, fun h => absurd h (by decide), by show d ≤ 2048; omega, by show 64 * d ≤ 84000; omega, hG⟩
  have hR : am_R b s.heap.size D cT [] s.heap := ⟨rfl, fun k q h => by simp [am_w] at h⟩
  have hl := lv_entry ([Value.ref b]) (n := 4) (by simp [lg_sl, Value.category])
  rw [lg_entry_eq]
  have hcall : ∀ (mj : Nat) (as : List Value) (h : am_H) (v : Option Value) (h' : am_H) (dk dn : Nat), am_r xs L F d mj as h = some (v, h', dk, dn) → ∃ d', d = d' + 1 ∧ Met l (pm_name mj) (am_ws mj) (am_rm d' dk dn) (am_Pc b s.heap.size xs L D cT as h) (am_Qc b s.heap.size D cT v h') dk dn (fun q => s.heap.size ≤ q) := by
    intro mj as h v h' dk dn hc
    cases d with
    | zero => cases hc
    | succ d' => exact ⟨d', rfl, am_met l b s.heap.size xs L F D cT d' mj as h v h' dk dn hc⟩
  refine am_f_ok E hcall (KC := k) (KS := n) (by show k ≤ 600000; exact hk) (by show n ≤ 7302250; exact hn) (fun pc lv st i hi hst => ?_) F 0 [(0, .ref 0)] [] [] k n 0 0 hr (Nat.zero_add _) (Nat.zero_add _) _ s.heap [] hl hR va_S.rf
  intro ls H locs hl hR hS
  cases i with
  | ireturn =>
    simp only [am_rt] at hst
    split at hst
    · split at hst
      · cases hst
        have hdg : decode code pc = .ok (.ireturn, 1) := pm_it_ok hi
        exact va_forget hS.2.2 (W.widen hk hn (lw_ret hx hb hret hlk hdg))
      · cases hst
    · cases hst
  | lreturn =>
    simp only [am_rt] at hst
    split at hst
    · split at hst <;> cases hst
    · cases hst
  | return_ =>
    simp only [am_rt] at hst
    split at hst
    · split at hst <;> cases hst
    · cases hst
  | _ => exact nomatch (show (none : Option (Option Value)) = some _ from hst)
