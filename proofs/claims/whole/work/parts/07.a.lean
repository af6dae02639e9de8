/-! rules for the law: its script, a long compared with itself, the mode in which the world is made -/
def oL (G : mx_G) (v : Int64) (ce : Nat → va_E) : Prop := ∃ f : Nat → Int64, ce 63 = .inl (G.2.2.2 2, 1, .inr (.inl f)) ∧ f 0 = v
section MXS
variable {G : mx_G} {Y : mx_Y} {d bc bs : Nat} {ex : Bool} {N : Nat} {ce : Nat → va_E} {pc : Nat} {l : List (Nat × Value)} {r : List Value} {Q : mx_P}
theorem mx_sld {b L : Nat} {xs : Nat → Int32} (hX : va_X b L xs G.2.1 G.2.1.heap) (hbB : b < mx_B G) (j : Nat) {i : Int32} (hd : decode Y.2.1 pc = .ok (.iaload, 1)) (hi : i = iI j) (hj : j < L) (hn : L < 2147483648) (k : mx_M G Y d bc bs ex N ce (pc + 1) l (.int (iI (xs j).toInt) :: r) Q) : mx_M G Y d bc bs ex N ce pc l (.int i :: .ref b :: r) Q := by
  intro p e R s m args below meth c H locs cells slots ls h
  subst hi
  have hc := iI_clamp (show j < 2 ^ 31 by omega)
  refine va_sld h.1.1 h.1.2.1 (hX.moved h.1.2.2.2.2.2.2.2.1) hbB (show ¬ mx_B G ≤ b by omega) h.2.1.2 (iI_in hj (by omega)) hd ?_
  rw [hc, iI_of (xs j)]
  exact k p e R s m args below meth c H locs cells slots ls h
theorem mx_slen {b L : Nat} {xs : Nat → Int32} (hX : va_X b L xs G.2.1 G.2.1.heap) (hbB : b < mx_B G) (hd : decode Y.2.1 pc = .ok (.arraylength, 1)) (k : mx_M G Y d bc bs ex N ce (pc + 1) l (.int (iI L) :: r) Q) : mx_M G Y d bc bs ex N ce pc l (.ref b :: r) Q := by
  intro p e R s m args below meth c H locs cells slots ls h
  refine va_slen h.1.1 h.1.2.1 (hX.moved h.1.2.2.2.2.2.2.2.1) hbB (show ¬ mx_B G ≤ b by omega) h.2.1.2 hd ?_
  rw [← iI_nat]
  exact k p e R s m args below meth c H locs cells slots ls h
theorem mx_lcmpE {x : Int64} (hd : decode Y.2.1 pc = .ok (.lcmp, 1)) (k : mx_M G Y d bc bs ex N ce (pc + 1) l (.int (iI 0) :: r) Q) : mx_M G Y d bc bs ex N ce pc l (.long x :: .long x :: r) Q := by
  refine mx_lcmp hd ?_
  rw [lI_of x, lI_cmp (Int64.le_toInt x) (Int64.toInt_lt x) (Int64.le_toInt x) (Int64.toInt_lt x)]
  simpa using k
/-- the world's cells are the last ones now; at the end nobody asks -/
def mx_T (G : mx_G) (Y : mx_Y) (d bc bs : Nat) (N : Nat) (ce : Nat → va_E) (pc : Nat) (l : List (Nat × Value)) (st : List Value) (Q : mx_P) : Prop :=
  ∀ (p : Program) (e : Env) (R : Room) (s : State) (m : MethodId) (args : Array Value) (below : List Frame) (meth : Method) (c : Code) (H : Heap) (locs : List Loc) (cells slots : Nat) (ls : Array Slot),
    mx_I G Y d bc bs true N ce l p R s m args meth c H locs cells slots ls → W p G.1 e R s m args below meth c H locs cells slots (mx_Z G false R Q s below) (F0 m pc ls st)
theorem mt_sw {st : List Value} (k : mx_M G Y d bc bs false N ce pc l st Q) : mx_T G Y d bc bs N ce pc l st Q := fun p e R s m args below meth c H locs cells slots ls h => k p e R s m args below meth c H locs cells slots ls ⟨h.1, h.2.1, (fun z => by cases z), h.2.2.2⟩
def mx_KT (G : mx_G) (Y : mx_Y) (d : Nat) (pc : Nat) (l : List (Nat × Value)) (r : List Value) (Q : mx_P) : mx_P := fun o N ce bc bs => match o with
  | .inl none => mx_T G Y d bc bs N ce pc l r Q
  | .inl (some v) => mx_T G Y d bc bs N ce pc l (v :: r) Q
  | .inr E => Q (.inr E) N ce bc bs
theorem mt_iconst {n : Int} (hd : decode Y.2.1 pc = .ok (.iconst n, 1)) (k : mx_T G Y d bc bs N ce (pc + 1) l (.int (iI n) :: r) Q) : mx_T G Y d bc bs N ce pc l r Q :=
  fun p e R s m args below meth c H locs cells slots ls h => lv_iconst h.1.1 h.1.2.1 hd rfl (k p e R s m args below meth c H locs cells slots ls h)
theorem mt_dup {va : Value} (hd : decode Y.2.1 pc = .ok (.dup, 1)) (hva : va.category = 1) (k : mx_T G Y d bc bs N ce (pc + 1) l (va :: va :: r) Q) : mx_T G Y d bc bs N ce pc l (va :: r) Q :=
  fun p e R s m args below meth c H locs cells slots ls h => lv_dup h.1.1 h.1.2.1 hd hva (k p e R s m args below meth c H locs cells slots ls h)
theorem mt_aload_n {k4 : Fin 4} {x : Nat} (hd : decode Y.2.1 pc = .ok (.aload_n k4, 1)) (hg : mx_get l k4 = some (.ref x)) (k : mx_T G Y d bc bs N ce (pc + 1) l (.ref x :: r) Q) : mx_T G Y d bc bs N ce pc l r Q :=
  fun p e R s m args below meth c H locs cells slots ls h => lv_aload_n h.1.1 h.1.2.1 hd rfl (h.2.2.2.2.2.2.2.2.2 _ (mx_get_mem hg)) (k p e R s m args below meth c H locs cells slots ls h)
theorem mt_astore_n {k4 : Fin 4} {x : Nat} (hd : decode Y.2.1 pc = .ok (.astore_n k4, 1)) (hn : (k4 : Nat) < Y.2.2.1) (k : mx_T G Y d bc bs N ce (pc + 1) (mx_set1 l k4 (.ref x)) r Q) : mx_T G Y d bc bs N ce pc l (.ref x :: r) Q :=
  fun p e R s m args below meth c H locs cells slots ls h => lv_astore_n h.1.1 h.1.2.1 hd rfl h.2.2.2.2.2.2.2 hn rfl (fun ls hl => k p e R s m args below meth c H locs cells slots ls ⟨h.1, h.2.1, h.2.2.1, h.2.2.2.1, h.2.2.2.2.1, h.2.2.2.2.2.1, h.2.2.2.2.2.2.1, hl⟩)
theorem mt_istore {i : Nat} {x : Int32} (hd : decode Y.2.1 pc = .ok (.istore i, 2)) (hn : i < Y.2.2.1) (k : mx_T G Y d bc bs N ce (pc + 2) (mx_set1 l i (.int x)) r Q) : mx_T G Y d bc bs N ce pc l (.int x :: r) Q :=
  fun p e R s m args below meth c H locs cells slots ls h => lv_istore h.1.1 h.1.2.1 hd h.2.2.2.2.2.2.2 hn rfl (fun ls hl => k p e R s m args below meth c H locs cells slots ls ⟨h.1, h.2.1, h.2.2.1, h.2.2.2.1, h.2.2.2.2.1, h.2.2.2.2.2.1, h.2.2.2.2.2.2.1, hl⟩)
theorem mt_new (hG : mx_ok G) {idx ci n : Nat} {C : String} {T : u_T} {ty : Nat → FieldType} (fs : List Value) (hd : decode Y.2.1 pc = .ok (.new idx, 3)) (hc : classes[ci]? = some (C, T, n)) (hcl : mx_cls C T n ty) (hlk : Cond.classLink Y.1.cls idx C ∈ lw_tbl) (hins : Cond.instantiable C n ∈ lw_tbl) (hini : Cond.initialized C ∈ lw_tbl) (hfs : ∀ j, j < n → defaultValue (ty j) = vp_V fs j)
    (k : mx_T G Y d bc bs (N + 1) (va_up ce N (.inr (ci, fs))) (pc + 3) l (.ref (mx_B G + N) :: r) Q) : mx_T G Y d (bc + 1) (bs + n) N ce pc l r Q := by
  intro p e R s m args below meth c H locs cells slots ls h
  have hKn := (mx_Kn hG h.1).1 ci _ hc
  have g1 := h.2.2.2.1
  have g2 := h.2.2.2.2.1
  refine W.newcK h.1.1 h.1.2.1 h.1.2.2.2.2.2.1 (mx_wd h.1 hlk rfl) (mx_wd h.1 hins rfl) (mx_wd h.1 hini rfl) rfl hd (by omega) (by omega) hKn.2.1 (h.2.2.1 rfl) fun H1 kC hkC e1 z1 o1 => ?_
  exact k p e R s m args below meth c H1 locs (cells + 1) (slots + n) ls (mx_I_new h ⟨_, hc, (u_born ty (fun w hw => mx_wd h.1 (hcl.1 w hw) (mx_lay_good hw)) (fun _ h9 => h9) hKn hkC e1 hcl.2.1).to hfs⟩ z1 o1)
theorem mt_newa (hG : mx_ok G) {atype : ArrayType} {ty : FieldType} (t0 : Nat) {tA : ClassId} {x : Int32} {n : Nat} {a0 : vp_A} (hd : decode Y.2.1 pc = .ok (.newarray atype, 2)) (hty : newarray.typeOf atype = ty) (ht : (mx_tys G.2.2.2)[t0]? = some (tA, ty)) (hRA : ∀ (U : State) (cA : ClassId), va_RA U cA ty → U.vm.findClass ("[" ++ ty.toString) = some cA) (harr : Cond.arrayClass ty ∈ lw_tbl) (hx : x = iI n) (hn : n * componentBytes ty ≤ 536870912) (hn2 : n < 2 ^ 31) (ha : ∀ cA : ClassId, vp_cell cA a0 = arrV cA n (fun _ => defaultValue ty))
    (k : mx_T G Y d bc bs (N + 1) (va_up ce N (.inl (tA, a0))) (pc + 2) l (.ref (mx_B G + N) :: r) Q) : mx_T G Y d (bc + 1) (bs + n) N ce pc l (.int x :: r) Q := by
  intro p e R s m args below meth c H locs cells slots ls h
  subst hty
  have g1 := h.2.2.2.1
  have g2 := h.2.2.2.2.1
  have hT := (mx_Kn hG h.1).2 t0 _ ht
  refine va_newaK h.1.1 h.1.2.1 (mx_wd h.1 harr rfl) rfl hd rfl (by rw [hx]; exact iI_nneg hn2) (N := n) (by rw [hx]; exact iI_clamp hn2) hn (by omega) (by omega) (h.2.2.1 rfl) fun H1 cA e1 z1 o1 hA hNm => ?_
  have hcA : cA = tA := Option.some.inj (hNm.symm.trans (hRA s tA hT.2))
  subst hcA
  refine k p e R s m args below meth c H1 locs (cells + 1) (slots + n) ls (mx_I_new h ?_ z1 o1)
  show H1[_]? = some (vp_cell _ _)
  rw [ha]
  exact e1
theorem mt_bud {bc' bs' : Nat} {st : List Value} (h1 : bc ≤ bc') (h2 : bs ≤ bs') (k : mx_T G Y d bc bs N ce pc l st Q) : mx_T G Y d bc' bs' N ce pc l st Q := by
  intro p e R s m args below meth c H locs cells slots ls h
  have g1 := h.2.2.2.1
  have g2 := h.2.2.2.2.1
  exact k p e R s m args below meth c H locs cells slots ls ⟨h.1, h.2.1, h.2.2.1, by omega, by omega, h.2.2.2.2.2⟩
end MXS
section MXV
variable {G : mx_G} {Y Y' : mx_Y} {d bc bs : Nat} {N : Nat} {ce : Nat → va_E} {pc : Nat} {l : List (Nat × Value)} {r : List Value} {Q Q' : mx_P}
variable {p : Program} {e : Env} {R : Room} {s : State} {m : MethodId} {args : Array Value} {below : List Frame} {meth : Method} {c : Code} {T : State} {locs : List Loc} {cells slots : Nat} {ls : Array Slot}
theorem mt_fin {vm1 : Vm} (X : Stand p G.1 e R s m args below meth c (T.setVm vm1) locs cells slots) (hI : mx_I G Y (d + 1) bc bs true N ce l p R s m args meth c T.heap locs cells slots ls) {mk : MethodId} {methk : Method} {ck : Code} (hY : mx_in Y')
    (f1 : s.methodNamed? Y'.1 = some mk) (f2 : s.vm.method? mk = some methk) (f3 : methk.code = some ck) (f4 : ck.code = Y'.2.1) (f5 : ck.maxLocals = Y'.2.2.1) (f6 : methk.sig.returnType = Y'.2.2.2.1) (f7 : methk.locks = false) (f8 : ck.exceptionTable.toList.map (fun h => (h.startPc, h.endPc, h.handlerPc, h.catchType)) = Y'.2.2.2.2)
    {st0 rest : List Value} {ig : Instr} (hdg : decode Y.2.1 pc = .ok (ig, 3)) {as : List Value} (has : (lg_sl as).length ≤ Y'.2.2.1) (hst : (rest.map fun v => v.category).sum + Y'.2.2.1 ≤ 21) (hno : mx_free Y pc)
    (hstep : ∀ target, (∀ acts, Steps p.tables e below (doInvoke e ((T.setVm vm1).setTop { (F0 m pc ls st0) with stack := rest }) acts mk as.toArray).1 target) → Steps p.tables e below (T.setTop (F0 m pc ls st0)) target)
    (hM : mx_M G Y' d bc bs true N ce 0 (lv_args 0 as) [] (mx_KT G Y (d + 1) (pc + 3) l rest Q)) :
    ∃ t, Steps p.tables e below (T.setTop (F0 m pc ls st0)) t ∧ mx_Z G false R Q s below t := by
  rcases mx_enter X hI hY f1 f2 f3 f4 f5 f6 f7 f8 (g := { (F0 m pc ls st0) with stack := rest }) rfl (by rw [hI.1.2.2.1]; exact hI.2.2.2.2.2.2.2.1) rfl (by rw [hI.1.2.1]; exact hdg) has hst hM with ⟨v, T', L, k, n, N', ce', bc', bs', X', hI', hq, st⟩ | ⟨q, E, c0, T', L, k, n, N', ce', bc', bs', X', hI', h1, h2, h3, hq, st⟩
  · have hq' : mx_T G Y (d + 1) bc' bs' N' ce' (pc + 3) l (v.toList ++ rest) Q := by cases v <;> exact hq
    obtain ⟨t, a1, b1⟩ := hq' p e R s m args below meth c T'.heap _ _ _ ls hI' T' rfl X'
    exact ⟨t, hstep t fun acts => (st acts).trans a1, b1⟩
  · obtain ⟨t, a1, b1⟩ := mx_out (ex := false) (Q := Q) X' hI' h1 h2 h3 (g := { (F0 m pc ls st0) with stack := rest }) rfl rfl rfl hno hq
    exact ⟨t, hstep t fun acts => (st acts).trans a1, b1⟩
theorem mt_callS {idx : Nat} (as : List Value) {st : List Value} (hd : decode Y.2.1 pc = .ok (.invokestatic idx, 3)) (hY : mx_in Y') (hlk : Cond.methodLink Y.1.cls idx Y'.1 ∈ lw_tbl) (hsta : Cond.static Y'.1 ∈ lw_tbl) (hn : (parseMethodDescriptor Y'.1.desc).map (fun sig => sig.parameters.length) = some as.length) (has : (lg_sl as).length ≤ Y'.2.2.1) (hno : mx_free Y pc) (hst0 : st = as.reverse ++ r) (hst : (r.map fun v => v.category).sum + Y'.2.2.1 ≤ 21)
    (hM : mx_M G Y' d bc bs true N ce 0 (lv_args 0 as) [] (mx_KT G Y (d + 1) (pc + 3) l r Q)) : mx_T G Y (d + 1) bc bs N ce pc l st Q := by
  intro p e R s m args below meth c H locs cells slots ls h T hT X
  obtain ⟨mk, methk, ck, f1, f2, f3, f4, f5, f6, f7, f8, f9⟩ := mx_facts h.1.2.2.2.2.2.2.1 hY
  have hstatic : methk.isStatic = true := Cond.static_spec f1 f2 (mx_wd h.1 hsta rfl)
  obtain ⟨kP, hkP, -⟩ := className_of_methodNamed f1
  have hinitP : kP.init = .initialized := Cond.initialized_spec (findClass_of_methodNamed f1) hkP (mx_wd h.1 hY.2.2.1 rfl)
  rw [f9] at hn
  obtain ⟨vm1, X1, hstep⟩ := X.invokestatic h.1.1 h.1.2.2.2.2.2.1 (mx_wd h.1 hlk rfl) f1 f2 hstatic hkP hinitP hY.2.1 (g := F0 m pc ls st) rfl (argsL := as) (rest := r) (Option.some.inj hn).symm hst0 (by rw [h.1.2.1]; exact hd)
  subst hT
  exact mt_fin X1 h hY f1 f2 f3 f4 f5 f6 f7 f8 hd has hst hno hstep hM
theorem mt_callI {idx : Nat} {a : Nat} (as : List Value) {st : List Value} (hd : decode Y.2.1 pc = .ok (.invokespecial idx, 3)) (hY : mx_in Y') (hcode : Cond.code Y'.1 Y'.2.1 Y'.2.2.1 none ∈ lw_tbl) (hnm : Y'.1.name = "<init>") (hlk : Cond.methodLink Y.1.cls idx Y'.1 ∈ lw_tbl) (hins : Cond.instanceMethod Y'.1 ∈ lw_tbl) (hn : (parseMethodDescriptor Y'.1.desc).map (fun sig => sig.parameters.length) = some as.length) (has : (lg_sl (.ref a :: as)).length ≤ Y'.2.2.1) (hno : mx_free Y pc) (hst0 : st = as.reverse ++ .ref a :: r) (hst : (r.map fun v => v.category).sum + Y'.2.2.1 ≤ 21)
    (hM : mx_M G Y' d bc bs true N ce 0 (lv_args 0 (.ref a :: as)) [] (mx_KT G Y (d + 1) (pc + 3) l r Q)) : mx_T G Y (d + 1) bc bs N ce pc l st Q := by
  intro p e R s m args below meth c H locs cells slots ls h T hT X
  obtain ⟨mk, methk, ck, f1, f2, f3, f4, f5, f6, f7, f8, f9⟩ := mx_facts h.1.2.2.2.2.2.2.1 hY
  have hpl : e.platform.magicAccessors = ({} : Platform).magicAccessors := by rw [X.admits.platform]
  subst hT
  obtain ⟨mk', methM, cM, kP, vm1, hnamed, hmethM, hcodeM, -, hlocalsM, -, hkP, -, hW1, hstep⟩ := Steps.initColdArgs (e := e) X.here h.1.1 X.warmed hpl h.1.2.2.2.2.2.1 hnm hY.2.1 (mx_wd h.1 hlk rfl) (mx_wd h.1 hins rfl) (mx_wd h.1 hcode rfl) (f := F0 m pc ls st) rfl (a := a) (argsL := as) (rest := r) (fun sig hs => by rw [hs] at hn; exact (Option.some.inj hn).symm) hst0 (by rw [h.1.2.1]; exact hd)
  cases f1.symm.trans hnamed
  exact mt_fin (X.noted hW1) h hY f1 f2 f3 f4 f5 f6 f7 f8 hd has hst hno hstep hM
end MXV
