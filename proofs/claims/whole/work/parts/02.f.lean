/-! catching: the rows of the method's own table, resolved or not -/
theorem mx_row {Q : Handler → Pre} {E : CtlPost} {e : Env} {d : Bool} {acts : List Action} {s : State} {f : JFrame} {a : Addr} {x : ExceptionTableEntry} {t : List ExceptionTableEntry} {c : ClassId} {cell : Cell} (hx : covers x f.pc = true) (h0 : x.catchType ≠ 0)
    (hl : s.vm.ClassLinks e.platform f.method.cls x.catchType c) (hcell : s.heap[a]? = some cell) (hobj : ∀ k, cell.vm ≠ .statics k) (hk : ∃ k, s.vm.classes[cell.cls]? = some k) (hc : ∃ k, s.vm.classes[c]? = some k) :
    wp (findHandler.go f a (x :: t)) Q E e d acts s ↔ if s.vm.assignable cell.cls c = true then Q (.found x.handlerPc) d acts (s.setVm (s.vm.noted f.method.cls x.catchType (.cls c))) else wp (findHandler.go f a t) Q E e d acts (s.setVm (s.vm.noted f.method.cls x.catchType (.cls c))) := by
  simp only [covers] at hx
  obtain ⟨ha, ht⟩ := (resolveClass_links e.toSetting hl).op (op := VmOp.resolveClass f.method.cls x.catchType) rfl
  have hal : s.vm.Alike (s.vm.noted f.method.cls x.catchType (.cls c)) := (Vm.Alike.refl s.vm).noted _ _ _
  obtain ⟨k1, hk1⟩ := hk
  obtain ⟨k2, hk2⟩ := hc
  obtain ⟨k1', hk1', -⟩ := hal.2.2 _ _ hk1
  obtain ⟨k2', hk2', -⟩ := hal.2.2 _ _ hk2
  have hasg := hal.assignable cell.cls c
  cases hfit : s.vm.assignable cell.cls c <;> rw [hfit] at hasg <;> simp [findHandler.go, hx, h0, ha, ht, hcell, hobj, hk1', hk2', hasg, VmOp.dirties, VmOp.acts]
/-- the rows ahead pass it on, the row x takes it -/
theorem mx_rows {e : Env} {s0 : State} {f : JFrame} {a : Addr} {cell : Cell} (hobj : ∀ k, cell.vm ≠ .statics k) (hk0 : ∃ k, s0.vm.classes[cell.cls]? = some k) (x : ExceptionTableEntry) (rest : List ExceptionTableEntry) (hx : covers x f.pc = true) (h0 : x.catchType ≠ 0) {cx : ClassId} (hlx : s0.vm.ClassLinks e.platform f.method.cls x.catchType cx) (hfit : s0.vm.assignable cell.cls cx = true) :
    ∀ (pre : List ExceptionTableEntry) (S : State), s0.WarmedH S.vm → S.heap[a]? = some cell → (∀ y ∈ pre, covers y f.pc = false ∨ (y.catchType ≠ 0 ∧ ∃ cy, s0.vm.ClassLinks e.platform f.method.cls y.catchType cy ∧ s0.vm.assignable cell.cls cy = false)) →
      ∃ vm', s0.WarmedH vm' ∧ ∀ (Q : Handler → Pre) (E : CtlPost) (d : Bool) (acts : List Action), wp (findHandler.go f a (pre ++ x :: rest)) Q E e d acts S ↔ Q (.found x.handlerPc) d acts (S.setVm vm') := by
  obtain ⟨k0, hk0⟩ := hk0
  intro pre
  induction pre with
  | nil =>
    intro S hW hcell _
    obtain ⟨k0', hk0', -⟩ := hW.alike.2.2 _ _ hk0
    obtain ⟨dk, _, _, kt, hd, _, _, _, _, hkt, _, hopen⟩ := hlx.here
    obtain ⟨kt', hkt', -⟩ := hW.alike.2.2 _ _ hkt
    refine ⟨_, hW.noted hd hopen (State.rightAt_cls hlx), fun Q E d acts => ?_⟩
    rw [List.nil_append, mx_row hx h0 (hW.classLinks hlx) hcell hobj ⟨k0', hk0'⟩ ⟨kt', hkt'⟩, if_pos (by rw [hW.alike.assignable]; exact hfit)]
  | cons y ys ih =>
    intro S hW hcell hpass
    obtain ⟨k0', hk0', -⟩ := hW.alike.2.2 _ _ hk0
    have hrest := fun z hz => hpass z (List.mem_cons_of_mem y hz)
    by_cases hcov : covers y f.pc = true
    · rcases hpass y List.mem_cons_self with h | ⟨hy0, cy, hl, hno⟩
      · rw [h] at hcov; cases hcov
      · obtain ⟨dk, _, _, kt, hd, _, _, _, _, hkt, _, hopen⟩ := hl.here
        obtain ⟨kt', hkt', -⟩ := hW.alike.2.2 _ _ hkt
        obtain ⟨vm', hW', hq⟩ := ih (S.setVm (S.vm.noted f.method.cls y.catchType (.cls cy))) (hW.noted hd hopen (State.rightAt_cls hl)) hcell hrest
        refine ⟨vm', hW', fun Q E d acts => ?_⟩
        rw [List.cons_append, mx_row hcov hy0 (hW.classLinks hl) hcell hobj ⟨k0', hk0'⟩ ⟨kt', hkt'⟩, if_neg (by rw [hW.alike.assignable, hno]; decide)]
        exact hq Q E d acts
    · obtain ⟨vm', hW', hq⟩ := ih S hW hcell hrest
      refine ⟨vm', hW', fun Q E d acts => ?_⟩
      rw [List.cons_append, W.findHandler_go_skip (by simpa using hcov)]
      exact hq Q E d acts
theorem mx_stepCatch {e : Env} {s : State} {a : Addr} {f : JFrame} {r : List Frame} {pc : Nat} {vm' : Vm} (hfind : ∀ (Q : Handler → Pre) (E : CtlPost) (d : Bool) (acts : List Action), wp (findHandler f a) Q E e d acts s ↔ Q (.found pc) d acts (s.setVm vm')) :
    (stepThrowing e s a (.java f :: r)).Is ((s.setVm vm').setFrames (.java { f with pc := pc, stack := [.ref a] } :: r)) [] := by
  simp only [stepThrowing, searchFrame, vmDo]
  generalize hr : Sem.go _ e false [] s = res
  obtain ⟨as, rfl, ha⟩ := Sem.eq_ok_of hr (a := Handler.found pc) (s' := s.setVm vm') (acts' := []) (by simp [hfind _ _ _ _])
  exact ⟨rfl, ha⟩
theorem mx_stepsCatch {tb : Tables} {e : Env} {s target : State} {g : JFrame} {c : Code} {below : List Frame} {a : Addr} (h : At s g.method c below) {pc : Nat} {vm' : Vm}
    (hfind : ∀ (Q : Handler → Pre) (E : CtlPost) (d : Bool) (acts : List Action), wp (findHandler g a) Q E e d acts ((s.setTop g).pushFrame (.throwing a)) ↔ Q (.found pc) d acts (((s.setTop g).pushFrame (.throwing a)).setVm vm')) (hrest : Steps tb e below ((s.setVm vm').setTop { g with pc := pc, stack := [.ref a] }) target) :
    Steps tb e below ((s.setTop g).pushFrame (.throwing a)) target := by
  obtain ⟨hgo, hw⟩ := h.throwing a
  refine Steps.head hgo hw ?_
  rw [stepThread_throwing (frames_entered h.top _), (mx_stepCatch (s := (s.setTop g).pushFrame (.throwing a)) hfind).1]
  obtain ⟨g₀, hg⟩ := Option.isSome_iff_exists.mp h.top
  obtain ⟨r, hr⟩ := State.topJava?_eq_some.mp hg
  have hr' : (s.setVm vm').frames = .java g₀ :: r := hr
  have hsw : ∀ (u : State) (F : List Frame), (u.setFrames F).setVm vm' = (u.setVm vm').setFrames F := fun _ _ => rfl
  rw [State.setTop_of_frames _ hr'] at hrest
  rw [hr, List.tail_cons, State.pushFrame, hsw, State.setFrames_setFrames, State.setTop_of_frames _ hr, hsw, State.setFrames_setFrames]
  exact hrest
/-- at pc, what is of the class E is caught at h -/
def mx_cat (Y : mx_Y) (pc : Nat) (E : String) (h : Nat) : Prop := ∃ (pre : List (Nat × Nat × Nat × Nat)) (x : Nat × Nat × Nat × Nat) (suf : List (Nat × Nat × Nat × Nat)) (nm : String), Y.2.2.2.2 = pre ++ x :: suf ∧ (∀ z ∈ pre, z.2.2.2 ≠ 0 ∧ ∃ nz : String, Cond.classLink Y.1.cls z.2.2.2 nz ∈ lw_tbl ∧ (E, nz) ∈ mx_ncs) ∧ (x.1 ≤ pc ∧ pc < x.2.1) ∧ x.2.2.2 ≠ 0 ∧ Cond.classLink Y.1.cls x.2.2.2 nm ∈ lw_tbl ∧ Cond.castable E nm ∈ lw_tbl ∧ x.2.2.1 = h
def mx_Nok (G : mx_G) : Prop := ∀ q ∈ mx_ncs, va_Nc q.1 q.2 G.2.1
section MXE
variable {G : mx_G} {Y : mx_Y} {d bc bs : Nat} {ex : Bool} {N : Nat} {ce : Nat → va_E} {pc : Nat} {l : List (Nat × Value)} {r : List Value} {Q : mx_P}
variable {p : Program} {e : Env} {R : Room} {s : State} {m : MethodId} {args : Array Value} {below : List Frame} {meth : Method} {c : Code} {T : State} {locs : List Loc} {cells slots : Nat} {ls : Array Slot}
theorem mx_in_ (hN : mx_Nok G) (X : Stand p G.1 e R s m args below meth c T locs cells slots) (hI : mx_I G Y d bc bs false N ce l p R s m args meth c T.heap locs cells slots ls) {q : Addr} {E : String} {c0 : Cell} {hp : Nat} {st0 : List Value} (h1 : T.heap[q]? = some c0) (h2 : c0.vm = .none) (h3 : G.2.1.vm.findClass E = some c0.cls) (hcat : mx_cat Y pc E hp)
    (k : mx_M G Y d bc bs false N ce hp l [.ref q] Q) : ∃ t, Steps p.tables e below ((T.setTop (F0 m pc ls st0)).pushFrame (.throwing q)) t ∧ mx_Z G false R Q s below t := by
  obtain ⟨pre, x, suf, nm, hsp, hpass, hcv, hx0, hlk, hca, rfl⟩ := hcat
  have hC := hI.1
  have htab := hC.2.2.2.2.2.2.2.2.2
  rw [hsp] at htab
  obtain ⟨pre', rst, hsplit, hpre, hrst⟩ := List.map_eq_append_iff.mp htab
  obtain ⟨x', suf', hrs, hx', -⟩ := List.map_eq_cons_iff.mp hrst
  subst hrs
  have hpl : e.platform.magicAccessors = ({} : Platform).magicAccessors := by rw [X.admits.platform]
  have hal := hC.2.2.2.2.2.2.2.1
  have hcl : s.vm.findClass E = some c0.cls := by rw [hal.findClass]; exact h3
  obtain ⟨c3, c4, hc3, hc4, hasg⟩ := Cond.castable_spec (mx_wd hC hca rfl)
  cases Option.some.inj (hc3.symm.trans hcl)
  have hxt : x'.catchType = x.2.2.2 := by rw [← hx']
  have hxs : x'.startPc = x.1 := by rw [← hx']
  have hxe : x'.endPc = x.2.1 := by rw [← hx']
  have hxh : x'.handlerPc = x.2.2.1 := by rw [← hx']
  obtain ⟨c5, hc5, hcl5⟩ := Cond.classLink_spec hC.2.2.2.2.2.1 (mx_wd hC hlk rfl) e.platform hpl
  cases Option.some.inj (hc4.symm.trans hc5)
  obtain ⟨k9, hk9, -⟩ := Vm.findClass_spec hcl
  have hmth : ((T.setTop (F0 m pc ls st0)).pushFrame (.throwing q)).vm.method? m = some meth := X.method'
  obtain ⟨vm', hW', hq⟩ := mx_rows (e := e) (s0 := s) (f := F0 m pc ls st0) (a := q) (cell := c0) (fun z hz => by rw [h2] at hz; cases hz) ⟨k9, hk9⟩ x' suf' (by simp [covers, hxs, hxe, hcv.1, hcv.2]) (by rw [hxt]; exact hx0) (cx := c4) (by rw [hxt]; exact hcl5) hasg
    pre' ((T.setTop (F0 m pc ls st0)).pushFrame (.throwing q)) X.warmed (by rw [mx_heapPush]; exact h1) (fun y hy => by
      have hm : (y.startPc, y.endPc, y.handlerPc, y.catchType) ∈ pre := by rw [← hpre]; exact List.mem_map.mpr ⟨y, hy, rfl⟩
      obtain ⟨hz0, nz, hl1, hn1⟩ := hpass _ hm
      obtain ⟨c6, hc6, hcl6⟩ := Cond.classLink_spec hC.2.2.2.2.2.1 (mx_wd hC hl1 rfl) e.platform hpl
      obtain ⟨a8, b8, u1, u2, u3⟩ := va_Nc.moved hal (hN _ hn1)
      cases Option.some.inj (u1.symm.trans hcl)
      cases Option.some.inj (u2.symm.trans hc6)
      exact Or.inr ⟨hz0, _, hcl6, u3⟩)
  obtain ⟨t, a1, b1⟩ := k p e R s m args below meth c T.heap locs cells slots ls hI (T.setVm vm') rfl (X.noted hW')
  refine ⟨t, mx_stepsCatch (pc := x.2.2.1) (vm' := vm') (g := F0 m pc ls st0) X.here (fun Q E d acts => ?_) a1, b1⟩
  rw [W.findHandler_eq hmth X.code, hsplit, ← hxh]
  exact hq Q E d acts
def mx_KH (G : mx_G) (Y : mx_Y) (d : Nat) (pc : Nat) (l : List (Nat × Value)) (r : List Value) (Q : mx_P) : mx_P := fun o N ce bc bs => match o with
  | .inl none => mx_M G Y d bc bs false N ce (pc + 3) l r Q
  | .inl (some v) => mx_M G Y d bc bs false N ce (pc + 3) l (v :: r) Q
  | .inr E => ∃ h, mx_cat Y pc E h ∧ ∀ q : Nat, mx_M G Y d bc bs false N ce h l [.ref q] Q
theorem mx_callVH (hG : mx_ok G) (hN : mx_Nok G) {Y' : mx_Y} {idx a ci n : Nat} {T0 : u_T} {fs : List Value} (as : List Value) {st : List Value} (hd : decode Y.2.1 pc = .ok (.invokevirtual idx, 3)) (hY : mx_in Y') (hlk : Cond.methodLink Y.1.cls idx Y'.1 ∈ lw_tbl) (hins : Cond.instanceMethod Y'.1 ∈ lw_tbl) (hsel : Cond.selects Y'.1.cls Y'.1 Y'.1 ∈ lw_tbl) (hc : classes[ci]? = some (Y'.1.cls, T0, n)) (hn : (parseMethodDescriptor Y'.1.desc).map (fun sig => sig.parameters.length) = some as.length) (has : (lg_sl (.ref (mx_B G + a) :: as)).length ≤ Y'.2.2.1) (ha : a < N) (he : ce a = .inr (ci, fs)) (hst0 : st = as.reverse ++ .ref (mx_B G + a) :: r) (hst : (r.map fun v => v.category).sum + Y'.2.2.1 ≤ 21)
    (hM : mx_M G Y' d bc bs false N ce 0 (lv_args 0 (.ref (mx_B G + a) :: as)) [] (mx_KH G Y (d + 1) pc l r Q)) : mx_M G Y (d + 1) bc bs false N ce pc l st Q := by
  intro p e R s m args below meth c H locs cells slots ls h T hT X
  obtain ⟨mk, methk, ck, f1, f2, f3, f4, f5, f6, f7, f8, f9⟩ := mx_facts h.1.2.2.2.2.2.2.1 hY
  obtain ⟨mk', methM, hnamed, hmethM, hstM, habM⟩ := Cond.instanceMethod_spec (mx_wd h.1 hins rfl)
  cases f1.symm.trans hnamed
  cases f2.symm.trans hmethM
  obtain ⟨cell, hcell, hobj, hcls⟩ := va_recv (mx_Kn hG h.1) h.2.1.1 hc (a := mx_B G + a) (q0 := a) (fs := fs) (by rw [mx_w_at ha, he])
  obtain ⟨c2, r2, m2, q1, q2, q3, q4, kP, hkP, hkPi⟩ := Cond.selects_spec (mx_wd h.1 hsel rfl)
  cases hcls.symm.trans q1
  cases (State.methodFound?_of_named f1 hY.2.1).symm.trans q2
  cases f1.symm.trans q3
  have hselP : selectMethod e.platform s.vm cell.cls mk = .method mk := by rw [Launch.admits_selectMethod X.admits]; exact q4
  rw [f9] at hn
  subst hT
  obtain ⟨vm1, X1, hstep⟩ := X.invokevirtual h.1.1 h.1.2.2.2.2.2.1 (mx_wd h.1 hlk rfl) f1 f2 hstM hkP hkPi hY.2.1 (a := mx_B G + a) (cell := cell) hcell
    (fun z h => by rw [h] at hobj; cases hobj) hselP f2 habM hkP hkPi (g := F0 m pc ls st) rfl (argsL := as) (rest := r) (Option.some.inj hn).symm hst0 (by rw [h.1.2.1]; exact hd)
  rcases mx_enter X1 h hY f1 f2 f3 f4 f5 f6 f7 f8 (g := { (F0 m pc ls st) with stack := r }) rfl (by rw [h.1.2.2.1]; exact h.2.2.2.2.2.2.2.1) rfl (by rw [h.1.2.1]; exact hd) has hst hM with ⟨v, T', L, k, n, N', ce', bc', bs', X', hI', hq, st⟩ | ⟨q, E, c0, T', L, k, n, N', ce', bc', bs', X', hI', h1, h2, h3, ⟨hp, hcat, hq⟩, st⟩
  · have hq' : mx_M G Y (d + 1) bc' bs' false N' ce' (pc + 3) l (v.toList ++ r) Q := by cases v <;> exact hq
    obtain ⟨t, a1, b1⟩ := hq' p e R s m args below meth c T'.heap _ _ _ ls hI' T' rfl X'
    exact ⟨t, hstep t fun acts => (st acts).trans a1, b1⟩
  · obtain ⟨t, a1, b1⟩ := mx_in_ hN X' hI' (st0 := r) h1 h2 h3 hcat (hq q)
    exact ⟨t, hstep t fun acts => (st acts).trans a1, b1⟩
end MXE
