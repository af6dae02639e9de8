/-! calls: the callee is walked where it stands; it returns, or throws -/
theorem mx_weaken {tb : Tables} {e : Env} {f : Frame} {below : List Frame} {a b : State} (h : Steps tb e (f :: below) a b) : Steps tb e below a b := by
  obtain ⟨n, hn, w⟩ := h
  exact ⟨n, hn, fun k hk => (show Within _ ([f] ++ below) from w k hk).weaken⟩
/-- Y is a method of the tables -/
def mx_in (Y : mx_Y) : Prop := plainName Y.1.cls = true ∧ (Y.1.cls ≠ "java/lang/invoke/MethodHandle" ∧ Y.1.cls ≠ "java/lang/invoke/VarHandle") ∧ Cond.initialized Y.1.cls ∈ lw_tbl ∧ ((Cond.code Y.1 Y.2.1 Y.2.2.1 Y.2.2.2.1 ∈ lw_tbl ∧ Y.2.2.2.2 = []) ∨ Cond.codeWith Y.1 Y.2.1 Y.2.2.1 Y.2.2.2.1 Y.2.2.2.2 ∈ lw_tbl)
theorem mx_facts {Y : mx_Y} {args : Array Value} {s : State} (h : mx_Ws args s) (hY : mx_in Y) : ∃ (mk : MethodId) (meth : Method) (c : Code), s.methodNamed? Y.1 = some mk ∧ s.vm.method? mk = some meth ∧ meth.code = some c ∧ c.code = Y.2.1 ∧ c.maxLocals = Y.2.2.1 ∧ meth.sig.returnType = Y.2.2.2.1 ∧ meth.locks = false ∧ c.exceptionTable.toList.map (fun h => (h.startPc, h.endPc, h.handlerPc, h.catchType)) = Y.2.2.2.2 ∧ parseMethodDescriptor Y.1.desc = some meth.sig := by
  rcases hY.2.2.2 with ⟨hc, he⟩ | hc
  · have hw := h.1 _ hc rfl
    obtain ⟨mk, hn⟩ := Cond.code_named hw
    obtain ⟨meth, c, h1, h2, h3, h4, h5, h6, h7, h8⟩ := Cond.code_spec hn hw
    refine ⟨mk, meth, c, hn, h1, h2, h3, h4, h5, h6, ?_, h8⟩
    rw [he]
    have h9 : c.exceptionTable = #[] := by simpa using h7
    rw [h9]
    rfl
  · obtain ⟨mk, meth, c, hn, h1, h2, h3, h4, h5, h6, h7, h8⟩ := Cond.codeWith_spec (h.1 _ hc rfl)
    exact ⟨mk, meth, c, hn, h1, h2, h3, h4, h6, h7, h5, h8⟩
theorem mx_heapTop (T : State) (g : JFrame) : (T.setTop g).heap = T.heap := by
  first | rfl | simp [State.setTop, State.modifyTopJava]
theorem mx_heapPush (T : State) (g : JFrame) (f : Frame) : ((T.setTop g).pushFrame f).heap = T.heap := by
  first | rfl | simp [State.pushFrame, State.setFrames, State.setTop, State.modifyTopJava]
/-- what goes on behind a call: with the answer, or with what was thrown -/
def mx_K (G : mx_G) (Y : mx_Y) (d : Nat) (ex : Bool) (pc : Nat) (l : List (Nat × Value)) (r : List Value) (Q : mx_P) : mx_P := fun o N ce bc bs => match o with
  | .inl none => mx_M G Y d bc bs ex N ce pc l r Q
  | .inl (some v) => mx_M G Y d bc bs ex N ce pc l (v :: r) Q
  | .inr E => Q (.inr E) N ce bc bs
def mx_free (Y : mx_Y) (pc : Nat) : Prop := Y.2.2.2.2.all (fun h => !(decide (h.1 ≤ pc) && decide (pc < h.2.1))) = true
section MXC
variable {G : mx_G} {Y Y' : mx_Y} {d bc bs : Nat} {ex : Bool} {N : Nat} {ce : Nat → va_E} {pc : Nat} {l : List (Nat × Value)} {r : List Value} {Q Q' : mx_P}
variable {p : Program} {e : Env} {R : Room} {s : State} {m : MethodId} {args : Array Value} {below : List Frame} {meth : Method} {c : Code} {T : State} {locs : List Loc} {cells slots : Nat} {ls : Array Slot}
theorem mx_enter (X : Stand p G.1 e R s m args below meth c T locs cells slots) (hI : mx_I G Y (d + 1) bc bs ex N ce l p R s m args meth c T.heap locs cells slots ls) {mk : MethodId} {methk : Method} {ck : Code} (hY : mx_in Y')
    (f1 : s.methodNamed? Y'.1 = some mk) (f2 : s.vm.method? mk = some methk) (f3 : methk.code = some ck) (f4 : ck.code = Y'.2.1) (f5 : ck.maxLocals = Y'.2.2.1) (f6 : methk.sig.returnType = Y'.2.2.2.1) (f7 : methk.locks = false) (f8 : ck.exceptionTable.toList.map (fun h => (h.startPc, h.endPc, h.handlerPc, h.catchType)) = Y'.2.2.2.2)
    {g : JFrame} (hg : g.method = m) (hsize : g.locals.size = c.maxLocals) (hmon : g.monitorRoom = 0) {ig : Instr} {len : Nat} (hdg : decode c.code g.pc = .ok (ig, len)) {as : List Value} (has : (lg_sl as).length ≤ Y'.2.2.1) (hst : (g.stack.map fun v => v.category).sum + Y'.2.2.1 ≤ 21)
    (hM : mx_M G Y' d bc bs ex N ce 0 (lv_args 0 as) [] Q') :
    (∃ (v : Option Value) (T' : State) (L : List Loc) (k n N' : Nat) (ce' : Nat → va_E) (bc' bs' : Nat), Stand p G.1 e R s m args below meth c T' (locs ++ L) (cells + k) (slots + n) ∧ mx_I G Y (d + 1) bc' bs' ex N' ce' l p R s m args meth c T'.heap (locs ++ L) (cells + k) (slots + n) ls ∧ Q' (.inl v) N' ce' bc' bs' ∧
      ∀ acts, Steps p.tables e below (doInvoke e (T.setTop g) acts mk as.toArray).1 (T'.setTop { g with pc := g.pc + len, stack := v.toList ++ g.stack })) ∨
    (∃ (q : Addr) (E : String) (c0 : Cell) (T' : State) (L : List Loc) (k n N' : Nat) (ce' : Nat → va_E) (bc' bs' : Nat), Stand p G.1 e R s m args below meth c T' (locs ++ L) (cells + k) (slots + n) ∧ mx_I G Y (d + 1) bc' bs' false N' ce' l p R s m args meth c T'.heap (locs ++ L) (cells + k) (slots + n) ls ∧ T'.heap[q]? = some c0 ∧ c0.vm = .none ∧ G.2.1.vm.findClass E = some c0.cls ∧ Q' (.inr E) N' ce' bc' bs' ∧
      ∀ acts, Steps p.tables e below (doInvoke e (T.setTop g) acts mk as.toArray).1 ((T'.setTop g).pushFrame (.throwing q))) := by
  obtain ⟨hC, hH, hX, g1, g2, g3, g4, g5⟩ := hI
  have hnT : T.methodNamed? Y'.1 = some mk := X.named f1
  have hmT : T.vm.method? mk = some methk := by rw [X.warmed.alike.method?]; exact f2
  obtain ⟨Y0, hin⟩ := X.into hg hsize hdg as.toArray (R' := { frames := d + 1, cells := bc, slots := bs, locals := 32 * d + 70 }) hmT f3 f7 (State.plainMethod.of_named (plainFor_of_name hY.1) hnT hmT)
    (by show d + 1 + 1 ≤ R.frames; omega) (by rw [hmon, f5]; show 2 * 0 + _ + (Y'.2.2.1 + 11) + (32 * d + 70) ≤ R.locals; omega) g1 g2
  have K := hM p e { frames := d + 1, cells := bc, slots := bs, locals := 32 * d + 70 } (T.calling g mk as.toArray) mk as.toArray (.java g :: below) methk ck T.heap [] 0 0 _
    ⟨⟨hC.1, f4, f5, f6, f7, findClass_of_methodNamed hnT, hC.2.2.2.2.2.2.1.at (U := T.calling g mk as.toArray) X.warmed, hC.2.2.2.2.2.2.2.1.trans X.warmed.alike, (name_of_methodNamed f1 f2).1, f8⟩,
      ⟨hH.1, hH.2.1, hH.2.2.1, fun q hq => nomatch hq⟩, hX, by show 0 + bc ≤ bc; omega, by show 0 + bs ≤ bs; omega, by show d + 1 ≤ d + 1; omega, by show 32 * d + 70 ≤ 32 * d + 70; omega, lv_entry as has⟩
  obtain ⟨t, st, o, L, k, n, N', ce', bc', bs', hrun, hend, hW, hsame, hH', hk, hn, hO⟩ := K _ (mx_heapPush T g _) Y0
  have hsteps : ∀ acts, Steps p.tables e below (doInvoke e (T.setTop g) acts mk as.toArray).1 t := fun acts => by
    rw [hin acts]
    refine mx_weaken (f := .java g) ?_
    rw [f5] at st ⊢
    rw [lg_entry_eq] at st ⊢
    exact st
  have hk' : k + bc' ≤ bc := hk
  have hn' : n + bs' ≤ bs := hn
  have hL : ∀ q ∈ locs ++ L, mx_A G q.base := fun q hq => (List.mem_append.mp hq).elim (hH.2.2.2 q) (hH'.2.2.2 q)
  rcases hO with ⟨v, rfl, hx, hq⟩ | ⟨q, E, c0, rfl, h1, h2, h3, hq⟩
  · obtain ⟨T', X', -, -, ht⟩ := X.outOf hg hdg hend hW hsame
    have hh : t.heap = T'.heap := by rw [ht]; exact mx_heapTop T' _
    rw [hh] at hH' hx
    exact Or.inl ⟨v, T', L, k, n, N', ce', bc', bs', X', ⟨hC, ⟨hH'.1, hH'.2.1, hH'.2.2.1, hL⟩, hx, by omega, by omega, g3, g4, g5⟩, hq, fun acts => by rw [← ht]; exact hsteps acts⟩
  · obtain ⟨T', X', -, -, ht⟩ := X.outOfThrown hg hend hW hsame
    have hh : t.heap = T'.heap := by rw [ht]; exact mx_heapPush T' _ _
    rw [hh] at hH' h1
    exact Or.inr ⟨q, E, c0, T', L, k, n, N', ce', bc', bs', X', ⟨hC, ⟨hH'.1, hH'.2.1, hH'.2.2.1, hL⟩, (fun h => by cases h), by omega, by omega, g3, g4, g5⟩, h1, h2, h3, hq, fun acts => by rw [← ht]; exact hsteps acts⟩
/-- what was thrown is caught by nobody here: the method throws it -/
theorem mx_out (X : Stand p G.1 e R s m args below meth c T locs cells slots) (hI : mx_I G Y d bc bs false N ce l p R s m args meth c T.heap locs cells slots ls) {q : Addr} {E : String} {c0 : Cell} (h1 : T.heap[q]? = some c0) (h2 : c0.vm = .none) (h3 : G.2.1.vm.findClass E = some c0.cls) {g : JFrame} (hg : g.method = m) (hlk : g.locked = none) (hen : g.entered = []) (hno : mx_free Y g.pc) (hq : Q (.inr E) N ce bc bs) :
    ∃ t, Steps p.tables e below ((T.setTop g).pushFrame (.throwing q)) t ∧ mx_Z G ex R Q s below t := by
  have hout : ∀ x ∈ c.exceptionTable.toList, covers x g.pc = false := by
    intro x hx
    have hm : (x.startPc, x.endPc, x.handlerPc, x.catchType) ∈ Y.2.2.2.2 := by
      rw [← hI.1.2.2.2.2.2.2.2.2.2]
      exact List.mem_map.mpr ⟨x, hx, rfl⟩
    have h9 := List.all_eq_true.mp hno _ hm
    simp only [Bool.not_eq_true', Bool.and_eq_false_iff, decide_eq_false_iff_not] at h9
    simp only [covers, Bool.and_eq_false_iff, decide_eq_false_iff_not]
    exact h9
  obtain ⟨a1, a2, a3, a4, a5⟩ := X.leaveThrown q hg hlk hen hout hI.1.2.2.2.2.1
  exact ⟨_, a1, _, locs, cells, slots, N, ce, bc, bs, a2, a3, a4, a5, hI.2.1, hI.2.2.2.1, hI.2.2.2.2.1, Or.inr ⟨q, E, c0, rfl, h1, h2, h3, hq⟩⟩
/-- a call, once it is linked -/
theorem mx_fin {vm1 : Vm} (X : Stand p G.1 e R s m args below meth c (T.setVm vm1) locs cells slots) (hI : mx_I G Y (d + 1) bc bs ex N ce l p R s m args meth c T.heap locs cells slots ls) {mk : MethodId} {methk : Method} {ck : Code} (hY : mx_in Y')
    (f1 : s.methodNamed? Y'.1 = some mk) (f2 : s.vm.method? mk = some methk) (f3 : methk.code = some ck) (f4 : ck.code = Y'.2.1) (f5 : ck.maxLocals = Y'.2.2.1) (f6 : methk.sig.returnType = Y'.2.2.2.1) (f7 : methk.locks = false) (f8 : ck.exceptionTable.toList.map (fun h => (h.startPc, h.endPc, h.handlerPc, h.catchType)) = Y'.2.2.2.2)
    {st0 rest : List Value} {ig : Instr} (hdg : decode Y.2.1 pc = .ok (ig, 3)) {as : List Value} (has : (lg_sl as).length ≤ Y'.2.2.1) (hst : (rest.map fun v => v.category).sum + Y'.2.2.1 ≤ 21) (hno : mx_free Y pc)
    (hstep : ∀ target, (∀ acts, Steps p.tables e below (doInvoke e ((T.setVm vm1).setTop { (F0 m pc ls st0) with stack := rest }) acts mk as.toArray).1 target) → Steps p.tables e below (T.setTop (F0 m pc ls st0)) target)
    (hM : mx_M G Y' d bc bs ex N ce 0 (lv_args 0 as) [] (mx_K G Y (d + 1) ex (pc + 3) l rest Q)) :
    ∃ t, Steps p.tables e below (T.setTop (F0 m pc ls st0)) t ∧ mx_Z G ex R Q s below t := by
  rcases mx_enter X hI hY f1 f2 f3 f4 f5 f6 f7 f8 (g := { (F0 m pc ls st0) with stack := rest }) rfl (by rw [hI.1.2.2.1]; exact hI.2.2.2.2.2.2.2.1) rfl (by rw [hI.1.2.1]; exact hdg) has hst hM with ⟨v, T', L, k, n, N', ce', bc', bs', X', hI', hq, st⟩ | ⟨q, E, c0, T', L, k, n, N', ce', bc', bs', X', hI', h1, h2, h3, hq, st⟩
  · have hq' : mx_M G Y (d + 1) bc' bs' ex N' ce' (pc + 3) l (v.toList ++ rest) Q := by cases v <;> exact hq
    obtain ⟨t, a1, b1⟩ := hq' p e R s m args below meth c T'.heap _ _ _ ls hI' T' rfl X'
    exact ⟨t, hstep t fun acts => (st acts).trans a1, b1⟩
  · obtain ⟨t, a1, b1⟩ := mx_out (ex := ex) (Q := Q) X' hI' h1 h2 h3 (g := { (F0 m pc ls st0) with stack := rest }) rfl rfl rfl hno hq
    exact ⟨t, hstep t fun acts => (st acts).trans a1, b1⟩
end MXC
section MXD
variable {G : mx_G} {Y : mx_Y} {d bc bs : Nat} {ex : Bool} {N : Nat} {ce : Nat → va_E} {pc : Nat} {l : List (Nat × Value)} {r : List Value} {Q : mx_P}
theorem mx_callS {Y' : mx_Y} {idx : Nat} (as : List Value) {st : List Value} (hd : decode Y.2.1 pc = .ok (.invokestatic idx, 3)) (hY : mx_in Y') (hlk : Cond.methodLink Y.1.cls idx Y'.1 ∈ lw_tbl) (hsta : Cond.static Y'.1 ∈ lw_tbl) (hn : (parseMethodDescriptor Y'.1.desc).map (fun sig => sig.parameters.length) = some as.length) (has : (lg_sl as).length ≤ Y'.2.2.1) (hno : mx_free Y pc) (hst0 : st = as.reverse ++ r) (hst : (r.map fun v => v.category).sum + Y'.2.2.1 ≤ 21)
    (hM : mx_M G Y' d bc bs ex N ce 0 (lv_args 0 as) [] (mx_K G Y (d + 1) ex (pc + 3) l r Q)) : mx_M G Y (d + 1) bc bs ex N ce pc l st Q := by
  intro p e R s m args below meth c H locs cells slots ls h T hT X
  obtain ⟨mk, methk, ck, f1, f2, f3, f4, f5, f6, f7, f8, f9⟩ := mx_facts h.1.2.2.2.2.2.2.1 hY
  have hstatic : methk.isStatic = true := Cond.static_spec f1 f2 (mx_wd h.1 hsta rfl)
  obtain ⟨kP, hkP, -⟩ := className_of_methodNamed f1
  have hinitP : kP.init = .initialized := Cond.initialized_spec (findClass_of_methodNamed f1) hkP (mx_wd h.1 hY.2.2.1 rfl)
  rw [f9] at hn
  obtain ⟨vm1, X1, hstep⟩ := X.invokestatic h.1.1 h.1.2.2.2.2.2.1 (mx_wd h.1 hlk rfl) f1 f2 hstatic hkP hinitP hY.2.1 (g := F0 m pc ls st) rfl (argsL := as) (rest := r) (Option.some.inj hn).symm hst0 (by rw [h.1.2.1]; exact hd)
  subst hT
  exact mx_fin X1 h hY f1 f2 f3 f4 f5 f6 f7 f8 hd has hst hno hstep hM
theorem mx_callV {Y' : mx_Y} (hG : mx_ok G) {idx a ci n : Nat} {T0 : u_T} {fs : List Value} (as : List Value) {st : List Value} (hd : decode Y.2.1 pc = .ok (.invokevirtual idx, 3)) (hY : mx_in Y') (hlk : Cond.methodLink Y.1.cls idx Y'.1 ∈ lw_tbl) (hins : Cond.instanceMethod Y'.1 ∈ lw_tbl) (hsel : Cond.selects Y'.1.cls Y'.1 Y'.1 ∈ lw_tbl) (hc : classes[ci]? = some (Y'.1.cls, T0, n)) (hn : (parseMethodDescriptor Y'.1.desc).map (fun sig => sig.parameters.length) = some as.length) (has : (lg_sl (.ref (mx_B G + a) :: as)).length ≤ Y'.2.2.1) (hno : mx_free Y pc) (ha : a < N) (he : ce a = .inr (ci, fs)) (hst0 : st = as.reverse ++ .ref (mx_B G + a) :: r) (hst : (r.map fun v => v.category).sum + Y'.2.2.1 ≤ 21)
    (hM : mx_M G Y' d bc bs ex N ce 0 (lv_args 0 (.ref (mx_B G + a) :: as)) [] (mx_K G Y (d + 1) ex (pc + 3) l r Q)) : mx_M G Y (d + 1) bc bs ex N ce pc l st Q := by
  intro p e R s m args below meth c H locs cells slots ls h T hT X
  obtain ⟨mk, methk, ck, f1, f2, f3, f4, f5, f6, f7, f8, f9⟩ := mx_facts h.1.2.2.2.2.2.2.1 hY
  obtain ⟨mk', methM, hnamed, hmethM, hstM, habM⟩ := Cond.instanceMethod_spec (mx_wd h.1 hins rfl)
  cases f1.symm.trans hnamed
  cases f2.symm.trans hmethM
  obtain ⟨cell, hcell, hobj, hcls⟩ := va_recv (mx_Kn hG h.1) h.2.1.1 hc (a := mx_B G + a) (q0 := a) (fs := fs) (by rw [mx_w_at ha, he])
  obtain ⟨c2, r2, m2, q1, q2, q3, q4, kP, hkP, hkPi⟩ := Cond.selects_spec (mx_wd h.1 hsel rfl)
  cases hcls.symm.trans q1
  cases (State.methodFound?_of_named f1 hY.2.1).symm.trans q2
  cases f1.symm.trans q3
  have hselP : selectMethod e.platform s.vm cell.cls mk = .method mk := by rw [Launch.admits_selectMethod X.admits]; exact q4
  rw [f9] at hn
  subst hT
  obtain ⟨vm1, X1, hstep⟩ := X.invokevirtual h.1.1 h.1.2.2.2.2.2.1 (mx_wd h.1 hlk rfl) f1 f2 hstM hkP hkPi hY.2.1 (a := mx_B G + a) (cell := cell) hcell
    (fun z h => by rw [h] at hobj; cases hobj) hselP f2 habM hkP hkPi (g := F0 m pc ls st) rfl (argsL := as) (rest := r) (Option.some.inj hn).symm hst0 (by rw [h.1.2.1]; exact hd)
  exact mx_fin X1 h hY f1 f2 f3 f4 f5 f6 f7 f8 hd has hst hno hstep hM
theorem mx_callI {Y' : mx_Y} {idx : Nat} {a : Nat} (as : List Value) {st : List Value} (hd : decode Y.2.1 pc = .ok (.invokespecial idx, 3)) (hY : mx_in Y') (hcode : Cond.code Y'.1 Y'.2.1 Y'.2.2.1 none ∈ lw_tbl) (hnm : Y'.1.name = "<init>") (hlk : Cond.methodLink Y.1.cls idx Y'.1 ∈ lw_tbl) (hins : Cond.instanceMethod Y'.1 ∈ lw_tbl) (hn : (parseMethodDescriptor Y'.1.desc).map (fun sig => sig.parameters.length) = some as.length) (has : (lg_sl (.ref a :: as)).length ≤ Y'.2.2.1) (hno : mx_free Y pc) (hst0 : st = as.reverse ++ .ref a :: r) (hst : (r.map fun v => v.category).sum + Y'.2.2.1 ≤ 21)
    (hM : mx_M G Y' d bc bs ex N ce 0 (lv_args 0 (.ref a :: as)) [] (mx_K G Y (d + 1) ex (pc + 3) l r Q)) : mx_M G Y (d + 1) bc bs ex N ce pc l st Q := by
  intro p e R s m args below meth c H locs cells slots ls h T hT X
  obtain ⟨mk, methk, ck, f1, f2, f3, f4, f5, f6, f7, f8, f9⟩ := mx_facts h.1.2.2.2.2.2.2.1 hY
  have hpl : e.platform.magicAccessors = ({} : Platform).magicAccessors := by rw [X.admits.platform]
  subst hT
  obtain ⟨mk', methM, cM, kP, vm1, hnamed, hmethM, hcodeM, -, hlocalsM, -, hkP, -, hW1, hstep⟩ := Steps.initColdArgs (e := e) X.here h.1.1 X.warmed hpl h.1.2.2.2.2.2.1 hnm hY.2.1 (mx_wd h.1 hlk rfl) (mx_wd h.1 hins rfl) (mx_wd h.1 hcode rfl) (f := F0 m pc ls st) rfl (a := a) (argsL := as) (rest := r) (fun sig hs => by rw [hs] at hn; exact (Option.some.inj hn).symm) hst0 (by rw [h.1.2.1]; exact hd)
  cases f1.symm.trans hnamed
  exact mx_fin (X.noted hW1) h hY f1 f2 f3 f4 f5 f6 f7 f8 hd has hst hno hstep hM
theorem mx_objInit {idx a : Nat} (hd : decode Y.2.1 pc = .ok (.invokespecial idx, 3)) (hlk : Cond.methodLink Y.1.cls idx Lib.objectInit ∈ lw_tbl) (hins : Cond.instanceMethod Lib.objectInit ∈ lw_tbl) (hcode : Cond.code Lib.objectInit ⟨#[0xb1]⟩ 1 none ∈ lw_tbl) (hst : (r.map fun v => v.category).sum ≤ 29)
    (k : mx_M G Y d bc bs ex N ce (pc + 3) l r Q) : mx_M G Y d bc bs ex N ce pc l (.ref a :: r) Q := by
  intro p e R s m args below meth c H locs cells slots ls h
  have g3 := h.2.2.2.2.2.1
  have g4 := h.2.2.2.2.2.2.1
  exact W.objInit h.1.1 h.1.2.1 h.1.2.2.2.2.2.1 (mx_wd h.1 hlk rfl) (mx_wd h.1 hins rfl) (mx_wd h.1 hcode rfl) rfl (by rw [h.1.2.2.1]; exact h.2.2.2.2.2.2.2.1) rfl hd (by omega) (by show 2 * 0 + _ + 12 ≤ R.locals; omega) (k p e R s m args below meth c H locs cells slots ls h)
theorem mx_mmax {idx : Nat} {x y : Int32} (hd : decode Y.2.1 pc = .ok (.invokestatic idx, 3)) (hlk : Cond.methodLink Y.1.cls idx Lib.Math.max.name ∈ lw_tbl) (hsta : Cond.static Lib.Math.max.name ∈ lw_tbl) (hini : Cond.initialized "java/lang/Math" ∈ lw_tbl) (hcode : Cond.code Lib.Math.max.name Lib.Math.max.code 2 (some .int) ∈ lw_tbl) (hst : (r.map fun v => v.category).sum ≤ 29)
    (k : mx_M G Y d bc bs ex N ce (pc + 3) l (.int (if x < y then y else x) :: r) Q) : mx_M G Y d bc bs ex N ce pc l (.int y :: .int x :: r) Q := by
  intro p e R s m args below meth c H locs cells slots ls h
  have g1 := h.2.2.2.1
  have g2 := h.2.2.2.2.1
  have g3 := h.2.2.2.2.2.1
  have g4 := h.2.2.2.2.2.2.1
  exact va_mmax h.1.1 h.1.2.1 (by rw [h.1.2.2.1]; exact h.2.2.2.2.2.2.2.1.symm) h.1.2.2.2.2.2.1 (mx_wd h.1 hlk rfl) (mx_wd h.1 hsta rfl) (mx_wd h.1 hini rfl) (mx_wd h.1 hcode rfl) (by omega) (by omega) (by omega) (by omega) hd (k p e R s m args below meth c H locs cells slots ls h)
theorem mx_mmin {idx : Nat} {x y : Int32} (hd : decode Y.2.1 pc = .ok (.invokestatic idx, 3)) (hlk : Cond.methodLink Y.1.cls idx Lib.Math.min.name ∈ lw_tbl) (hsta : Cond.static Lib.Math.min.name ∈ lw_tbl) (hini : Cond.initialized "java/lang/Math" ∈ lw_tbl) (hcode : Cond.code Lib.Math.min.name Lib.Math.min.code 2 (some .int) ∈ lw_tbl) (hst : (r.map fun v => v.category).sum ≤ 29)
    (k : mx_M G Y d bc bs ex N ce (pc + 3) l (.int (if y < x then y else x) :: r) Q) : mx_M G Y d bc bs ex N ce pc l (.int y :: .int x :: r) Q := by
  intro p e R s m args below meth c H locs cells slots ls h
  have g1 := h.2.2.2.1
  have g2 := h.2.2.2.2.1
  have g3 := h.2.2.2.2.2.1
  have g4 := h.2.2.2.2.2.2.1
  exact va_mmin h.1.1 h.1.2.1 (by rw [h.1.2.2.1]; exact h.2.2.2.2.2.2.2.1.symm) h.1.2.2.2.2.2.1 (mx_wd h.1 hlk rfl) (mx_wd h.1 hsta rfl) (mx_wd h.1 hini rfl) (mx_wd h.1 hcode rfl) (by omega) (by omega) (by omega) (by omega) hd (k p e R s m args below meth c H locs cells slots ls h)
end MXD
