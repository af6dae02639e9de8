/-! throwing a new exception with a text, and catching it -/
/-- a static that holds a reference or null, in a cell that was there at the law's entry -/
def mx_Sl (C n d : String) (B : Nat) (U : State) (H : Heap) : Prop := ∃ (c : ClassId) (k : Class) (i : Nat) (f : Field) (a : Nat) (cell : Cell) (v : Value), U.vm.findClass C = some c ∧ U.fieldFound? C n d = some (c, k, i, f) ∧ f.isStatic = true ∧ k.statics = some a ∧ H[a]? = some cell ∧ cell.vm.isStatics = true ∧ cell.cls = c ∧ f.slot < cell.slots.size ∧ k.staticTypes[f.slot]? = some f.type ∧ cell.slots[f.slot]? = some v ∧ v.isRef = true ∧ a < B
theorem mx_Sl_of {C n d : String} {args : Array Value} {s : State} (hl : (Cond.laysStatic C n d).before args s = true) (h : (Cond.isRef (.static C n d)).before args s = true) : mx_Sl C n d s.heap.size s s.heap := by
  obtain ⟨c, k, i, f, a, cell, h1, h2, h3, h4, h5, h6, h7, h8, h9⟩ := Cond.laysStatic_spec hl
  have hv : cell.slots[f.slot]? = some cell.slots[f.slot] := Array.getElem?_eq_getElem h8
  generalize cell.slots[f.slot] = v at hv
  have he : (Term.static C n d).eval args s none [] s = some v := by
    simp [Term.eval, State.fieldNamed?, h2, h3, h4, h5, h6, hv]
  refine ⟨c, k, i, f, a, cell, v, h1, h2, h3, h4, h5, h6, h7, h8, h9, hv, ?_, (Array.getElem?_eq_some_iff.mp h5).1⟩
  simp only [Cond.before, Cond.holds, Cond.value, he] at h
  cases v <;> simp_all [Value.isRef]
theorem mx_Sl.go {C n d : String} {B : Nat} {u U : State} {H H1 : Heap} (hvm : u.vm.Alike U.vm) (hH : ∀ q : Nat, q < B → H1[q]? = H[q]?) (h : mx_Sl C n d B u H) : mx_Sl C n d B U H1 := by
  obtain ⟨c, k, i, f, a, cell, v, h1, h2, h3, h4, h5, h6, h7, h8, h9, h10, h11, h12⟩ := h
  obtain ⟨k', hi', he⟩ := State.fieldFound?_setVm hvm h2
  exact ⟨c, k', i, f, a, cell, v, by rw [hvm.findClass]; exact h1, hi', h3, by rw [he]; exact h4, by rw [hH a h12]; exact h5, h6, h7, h8, by rw [he]; exact h9, h10, h11, h12⟩
theorem mx_Sl.lays {C n d : String} {B : Nat} {s : State} {args : Array Value} (h : mx_Sl C n d B s s.heap) : (Cond.laysStatic C n d).before args s = true := by
  obtain ⟨c, k, i, f, a, cell, v, h1, h2, h3, h4, h5, h6, h7, h8, h9, -⟩ := h
  show (Cond.laysStatic C n d).holds args s none s [] = true
  exact Cond.laysStatic_of h1 h2 h3 h4 h5 h6 h7 h8 h9
theorem mx_Sl.isRef {C n d : String} {B : Nat} {s : State} {args : Array Value} (h : mx_Sl C n d B s s.heap) : (Cond.isRef (.static C n d)).before args s = true := by
  obtain ⟨c, k, i, f, a, cell, v, h1, h2, h3, h4, h5, h6, h7, h8, h9, h10, h11, -⟩ := h
  have he : (Term.static C n d).eval args s none [] s = some v := by
    simp [Term.eval, State.fieldNamed?, h2, h3, h4, h5, h6, h10]
  simp only [Cond.before, Cond.holds, Cond.value, he]
  cases v <;> simp_all [Value.isRef]
def mx_four : List Cond := [.isRef (.static Bundle.tN "UNASSIGNED_STACK" Bundle.steD), .isRef (.static Bundle.tN "SUPPRESSED_SENTINEL" Bundle.listD), .laysStatic Bundle.tN "UNASSIGNED_STACK" Bundle.steD, .laysStatic Bundle.tN "SUPPRESSED_SENTINEL" Bundle.listD]
def mx_Stt (G : mx_G) : Prop := mx_Sl Bundle.tN "UNASSIGNED_STACK" Bundle.steD (mx_B G) G.2.1 G.2.1.heap ∧ mx_Sl Bundle.tN "SUPPRESSED_SENTINEL" Bundle.listD (mx_B G) G.2.1 G.2.1.heap
/-! returns and heap -/
/-- a class's fields: their words, their types, their names -/
def mx_cls (C : String) (T : u_T) (n : Nat) (ty : Nat → FieldType) : Prop := (∀ w ∈ u_ws C T n, w ∈ lw_tbl) ∧ (∀ k, k < n → parseFieldDescriptor (T k).2.2.1 = some (ty k)) ∧ ∀ a, a < n → ∀ b, b < n → a ≠ b → (T a).2.1 ≠ (T b).2.1
def mx_ok (G : mx_G) : Prop := G.1.stackTraces = false ∧ va_K G.2.2.1 classes (mx_tys G.2.2.2) G.2.1 ∧ mx_Stt G
section MXH
variable {G : mx_G} {Y : mx_Y} {d bc bs : Nat} {ex : Bool} {N : Nat} {ce : Nat → va_E} {pc : Nat} {l : List (Nat × Value)} {r : List Value} {Q : mx_P}
variable {p : Program} {R : Room} {s : State} {m : MethodId} {args : Array Value} {meth : Method} {c : Code} {H : Heap} {locs : List Loc} {cells slots : Nat} {ls : Array Slot}
theorem mx_Kn (hG : mx_ok G) (h : mx_C G Y p s m args meth c) : va_K G.2.2.1 classes (mx_tys G.2.2.2) s := va_K.moved h.2.2.2.2.2.2.2.1 hG.2.1
theorem mx_wd (h : mx_C G Y p s m args meth c) {w : Cond} (hw : w ∈ lw_tbl) (hg : mx_gd w = true) : w.before args s = true := h.2.2.2.2.2.2.1.1 w hw hg
theorem mx_I_put {a i : Nat} (h : mx_I G Y d bc bs ex N ce l p R s m args meth c H locs cells slots ls) (ha : a < N) {e : va_E} {H' : Heap} (h1 : va_at G.2.2.1 classes (mx_B G + a, e) H') (h2 : H'.size = H.size) (h3 : ∀ q : Nat, q ≠ mx_B G + a → H'[q]? = H[q]?) :
    mx_I G Y d bc bs ex N (va_up ce a e) l p R s m args meth c H' (locs ++ [⟨mx_B G + a, i⟩]) cells slots ls :=
  ⟨h.1, ⟨by rw [← mx_w_set]; exact h.2.1.1.set mx_w_D (mx_w_at ha) h1 h3, h.2.1.2.put h2 h3 (Nat.le_add_right _ _)⟩, fun q => by rw [h2]; exact h.2.2.1 q, h.2.2.2⟩
theorem mx_I_new {n : Nat} (h : mx_I G Y d (bc + 1) (bs + n) true N ce l p R s m args meth c H locs cells slots ls) {e : va_E} {H' : Heap} (h1 : va_at G.2.2.1 classes (mx_B G + N, e) H') (h2 : H'.size = mx_B G + N + 1) (h3 : ∀ q : Nat, q < mx_B G + N → H'[q]? = H[q]?) :
    mx_I G Y d bc bs true (N + 1) (va_up ce N e) l p R s m args meth c H' locs (cells + 1) (slots + n) ls := by
  obtain ⟨hC, ⟨hP, hS⟩, hX, g1, g2, g3, g4, g5⟩ := h
  have hz := hX rfl
  refine ⟨hC, ⟨?_, ?_⟩, fun _ => by rw [h2]; omega, by omega, by omega, g3, g4, g5⟩
  · rw [← mx_w_push]
    refine (hP.kept (fun k q hk => h3 q.1 ?_)).app (fun k q hk => ?_)
    · rw [← hz]; exact (hP k q hk).lt
    · have hz : k < 1 := (List.getElem?_eq_some_iff.mp hk).1
      rw [show k = 0 by omega] at hk
      cases hk
      exact h1
  · refine ⟨by rw [h2]; exact Nat.le_trans (Nat.le_add_right _ _) (Nat.le_succ _), fun q k1 k2 => ?_, hS.2.2⟩
    rw [h3 q (Nat.lt_of_lt_of_le k1 (Nat.le_add_right _ _))]
    exact hS.2.1 q k1 k2
theorem mx_end {e : Env} {below : List Frame} {v : Option Value} {g : JFrame} (h : mx_I G Y d bc bs ex N ce l p R s m args meth c H locs cells slots ls) (hq : Q (.inl v) N ce bc bs)
    (k : W p G.1 e R s m args below meth c H locs cells slots (MQ below (fun _ _ o t => o = .returned v ∧ t.heap = H) args s cells slots (mx_A G)) g) : W p G.1 e R s m args below meth c H locs cells slots (mx_Z G ex R Q s below) g := by
  intro T hT X
  obtain ⟨t, a1, o, b1, b2, ⟨rfl, b4⟩, L, ⟨-, b5, b6⟩, b7⟩ := k T hT X
  exact ⟨t, a1, _, L, cells, slots, N, ce, bc, bs, b1, b2, b5, b6, ⟨by rw [b4]; exact h.2.1.1, by rw [b4]; exact ⟨h.2.1.2.1, h.2.1.2.2.1, b7⟩⟩, h.2.2.2.1, h.2.2.2.2.1, Or.inl ⟨v, rfl, by rw [b4]; exact h.2.2.1, hq⟩⟩
theorem mx_iret {v : Int32} (hr : Y.2.2.2.1 = some .int) (hd : decode Y.2.1 pc = .ok (.ireturn, 1)) (hq : Q (.inl (some (.int v))) N ce bc bs) : mx_M G Y d bc bs ex N ce pc l [.int v] Q :=
  fun p e R s m args below meth c H locs cells slots ls h => mx_end h hq (W.iret h.1.1 h.1.2.1 (h.1.2.2.2.1.trans hr) (fun _ ht _ => ⟨rfl, ht⟩) h.2.1.2.2.2 hd h.1.2.2.2.2.1)
theorem mx_zret {v : Int32} (hr : Y.2.2.2.1 = some .boolean) (hd : decode Y.2.1 pc = .ok (.ireturn, 1)) (hn : narrow .boolean (.int v) = .int v) (hq : Q (.inl (some (.int v))) N ce bc bs) : mx_M G Y d bc bs ex N ce pc l [.int v] Q :=
  fun p e R s m args below meth c H locs cells slots ls h => mx_end h hq (W.zret h.1.1 h.1.2.1 (h.1.2.2.2.1.trans hr) hn (fun _ ht _ => ⟨rfl, ht⟩) h.2.1.2.2.2 hd h.1.2.2.2.2.1)
theorem mx_lret {v : Int64} (hr : Y.2.2.2.1 = some .long) (hd : decode Y.2.1 pc = .ok (.lreturn, 1)) (hq : Q (.inl (some (.long v))) N ce bc bs) : mx_M G Y d bc bs ex N ce pc l [.long v] Q :=
  fun p e R s m args below meth c H locs cells slots ls h => mx_end h hq (W.lret h.1.1 h.1.2.1 (h.1.2.2.2.1.trans hr) (fun _ ht _ => ⟨rfl, ht⟩) h.2.1.2.2.2 hd h.1.2.2.2.2.1)
theorem mx_vret (hr : Y.2.2.2.1 = none) (hd : decode Y.2.1 pc = .ok (.return_, 1)) (hq : Q (.inl none) N ce bc bs) : mx_M G Y d bc bs ex N ce pc l [] Q :=
  fun p e R s m args below meth c H locs cells slots ls h => mx_end h hq (W.vret h.1.1 h.1.2.1 (h.1.2.2.2.1.trans hr) (fun _ ht _ => ⟨rfl, ht⟩) h.2.1.2.2.2 hd h.1.2.2.2.2.1)
theorem mx_aret {v : Nat} {rt : FieldType} (hr : Y.2.2.2.1 = some rt) (hrt : (∃ n, rt = .object n) ∨ ∃ t, rt = .array t) (hd : decode Y.2.1 pc = .ok (.areturn, 1)) (hq : Q (.inl (some (.ref v))) N ce bc bs) : mx_M G Y d bc bs ex N ce pc l [.ref v] Q :=
  fun p e R s m args below meth c H locs cells slots ls h => mx_end h hq (W.aret h.1.1 h.1.2.1 (h.1.2.2.2.1.trans hr) hrt (Or.inr ⟨_, rfl⟩) (fun _ ht _ => ⟨rfl, ht⟩) h.2.1.2.2.2 hd h.1.2.2.2.2.1)
theorem mx_getf (hG : mx_ok G) {idx ci kf a n : Nat} {C : String} {T : u_T} {ty : Nat → FieldType} {fs : List Value} {v : Value} (hd : decode Y.2.1 pc = .ok (.getfield idx, 3)) (hc : classes[ci]? = some (C, T, n)) (hcl : mx_cls C T n ty) (hk : kf < n) (hlink : Cond.fieldLink Y.1.cls idx (T kf).1 (T kf).2.1 (T kf).2.2.1 ∈ lw_tbl) (ha : a < N) (he : ce a = .inr (ci, fs)) (hv : fs[kf]? = some v)
    (k : mx_M G Y d bc bs ex N ce (pc + 3) l (v :: r) Q) : mx_M G Y d bc bs ex N ce pc l (.ref (mx_B G + a) :: r) Q :=
  fun p e R s m args below meth c H locs cells slots ls h => va_get (Ts := u_ws C T n) h.1.1 h.1.2.1 (fun w hw => mx_wd h.1 (hcl.1 w hw) (mx_lay_good hw)) (fun _ h9 => h9) h.1.2.2.2.2.2.1 (mx_Kn hG h.1) h.2.1.1 a (by rw [mx_w_at ha, he]) hc kf hk (mx_wd h.1 hlink rfl) (fun _ h9 => h9) hv hd (k p e R s m args below meth c H locs cells slots ls h)
theorem mx_putf (hG : mx_ok G) {idx ci kf a n : Nat} {C : String} {T : u_T} {ty : Nat → FieldType} {t : FieldType} {fs : List Value} {v : Value} (hd : decode Y.2.1 pc = .ok (.putfield idx, 3)) (hc : classes[ci]? = some (C, T, n)) (hcl : mx_cls C T n ty) (hk : kf < n) (hfin : (T kf).2.2.2 = false ∨ ((T kf).2.2.2 = true ∧ Y.1.name = "<init>" ∧ (T kf).1 = Y.1.cls)) (hlink : Cond.fieldLink Y.1.cls idx (T kf).1 (T kf).2.1 (T kf).2.2.1 ∈ lw_tbl) (ha : a < N) (he : ce a = .inr (ci, fs)) (hl : kf < fs.length) (hp : parseFieldDescriptor (T kf).2.2.1 = some t) (hn : narrow t v = v) (hfit : fits t v = true)
    (k : mx_M G Y d bc bs ex N (va_up ce a (.inr (ci, fs.set kf v))) (pc + 3) l r Q) : mx_M G Y d bc bs ex N ce pc l (v :: .ref (mx_B G + a) :: r) Q := by
  intro p e R s m args below meth c H locs cells slots ls h
  have hK := mx_Kn hG h.1
  have hts : ∀ w ∈ u_ws C T n, w.before args s = true := fun w hw => mx_wd h.1 (hcl.1 w hw) (mx_lay_good hw)
  have hap := va_apart (own := Y.1.cls) hts (fun _ h9 => h9) ty hcl.2.1 hcl.2.2 hK hc
  obtain ⟨r0, h1, cell, q1, q2, q3, q4⟩ := h.2.1.1 a (mx_B G + a, .inr (ci, fs)) (by rw [mx_w_at ha, he])
  have hr : r0 = (C, T, n) := Option.some.inj (h1.symm.trans hc)
  subst hr
  obtain ⟨hS, hfc, kC, hkC, hkind⟩ := hK.1 ci _ hc
  obtain ⟨cf, kfc, fi, f, hi, hsl⟩ := hS kf hk
  have hlay := hts _ (u_in_lay hk)
  have hst := (u_facts hfc hkC (u_lays hts (fun _ h9 => h9) hk) hi).1
  unfold u_lay at hlay
  have fin : ∀ H' : Heap, H'[mx_B G + a]? = some (cell.setSlot f.slot v) → H'.size = H.size → (∀ q : Nat, q ≠ mx_B G + a → H'[q]? = H[q]?) → mx_I G Y d bc bs ex N (va_up ce a (.inr (ci, fs.set kf v))) l p R s m args meth c H' (locs ++ [⟨mx_B G + a, f.slot⟩]) cells slots ls := by
    intro H' e1 e2 e3
    rw [hsl] at e1
    exact mx_I_put h ha ⟨_, hc, t_OB.to (V := updV (vp_V fs) kf v) ⟨_, e1, q2, q3, t_set q4 hap hk v⟩ (fun j _ => vp_updV_set hl v j)⟩ e2 e3
  rcases hfin with hf | ⟨hf, hin, hde⟩
  · rw [if_neg (by rw [hf]; decide)] at hlay
    have h6 := u_store hfc hkC hkind hlay hi hp hn hfit
    exact W.putK h.1.1 h.1.2.1 (f := f) ⟨h.1.2.2.2.2.2.1, mx_wd h.1 hlink rfl, ⟨_, _, _, hi⟩, hst⟩ (by rw [q2]; exact h6) q1 q3 (by rw [hsl]; exact k2_hasslot (q4 kf hk)) rfl rfl hd fun H' e1 e2 e3 => k p e R s m args below meth c H' _ cells slots ls (fin H' e1 e2 e3)
  · rw [if_pos hf] at hlay
    have hcf : m.cls = cf := by
      obtain ⟨_, _, c', _, _, _, -, -, hf', -, -, -, hown2, -⟩ := Cond.laysFinal_spec hlay
      have e1 : c' = cf := by have := hi.symm.trans hf'; simp at this; exact this.1.symm
      rw [hde] at hown2
      rw [← e1]; exact Option.some.inj (h.1.2.2.2.2.2.1.symm.trans hown2)
    have h6 := u_fits hfc hkC hkind (Or.inr hlay) hi hp hn hfit
    exact W.putFinK h.1.1 h.1.2.1 h.1.2.2.2.2.2.1 (mx_wd h.1 hlink rfl) hi hst hcf (h.1.2.2.2.2.2.2.2.2.1.trans hin) (by rw [q2]; exact h6) q1 q3 (by rw [hsl]; exact k2_hasslot (q4 kf hk)) rfl rfl hd fun H' e1 e2 e3 => k p e R s m args below meth c H' _ cells slots ls (fin H' e1 e2 e3)
theorem mx_new (hG : mx_ok G) {idx ci n : Nat} {C : String} {T : u_T} {ty : Nat → FieldType} (fs : List Value) (hd : decode Y.2.1 pc = .ok (.new idx, 3)) (hc : classes[ci]? = some (C, T, n)) (hcl : mx_cls C T n ty) (hlk : Cond.classLink Y.1.cls idx C ∈ lw_tbl) (hins : Cond.instantiable C n ∈ lw_tbl) (hini : Cond.initialized C ∈ lw_tbl) (hfs : ∀ j, j < n → defaultValue (ty j) = vp_V fs j)
    (k : mx_M G Y d bc bs true (N + 1) (va_up ce N (.inr (ci, fs))) (pc + 3) l (.ref (mx_B G + N) :: r) Q) : mx_M G Y d (bc + 1) (bs + n) true N ce pc l r Q := by
  intro p e R s m args below meth c H locs cells slots ls h
  have hKn := (mx_Kn hG h.1).1 ci _ hc
  have g1 := h.2.2.2.1
  have g2 := h.2.2.2.2.1
  refine W.newcK h.1.1 h.1.2.1 h.1.2.2.2.2.2.1 (mx_wd h.1 hlk rfl) (mx_wd h.1 hins rfl) (mx_wd h.1 hini rfl) rfl hd (by omega) (by omega) hKn.2.1 (h.2.2.1 rfl) fun H1 kC hkC e1 z1 o1 => ?_
  exact k p e R s m args below meth c H1 locs (cells + 1) (slots + n) ls (mx_I_new h ⟨_, hc, (u_born ty (fun w hw => mx_wd h.1 (hcl.1 w hw) (mx_lay_good hw)) (fun _ h9 => h9) hKn hkC e1 hcl.2.1).to hfs⟩ z1 o1)
theorem mx_newa (hG : mx_ok G) {atype : ArrayType} {ty : FieldType} (t0 : Nat) {tA : ClassId} {x : Int32} {n : Nat} {a0 : vp_A} (hd : decode Y.2.1 pc = .ok (.newarray atype, 2)) (hty : newarray.typeOf atype = ty) (ht : (mx_tys G.2.2.2)[t0]? = some (tA, ty)) (hRA : ∀ (U : State) (cA : ClassId), va_RA U cA ty → U.vm.findClass ("[" ++ ty.toString) = some cA) (harr : Cond.arrayClass ty ∈ lw_tbl) (hx : x = iI n) (hn : n * componentBytes ty ≤ 536870912) (hn2 : n < 2 ^ 31) (ha : ∀ cA : ClassId, vp_cell cA a0 = arrV cA n (fun _ => defaultValue ty))
    (k : mx_M G Y d bc bs true (N + 1) (va_up ce N (.inl (tA, a0))) (pc + 2) l (.ref (mx_B G + N) :: r) Q) : mx_M G Y d (bc + 1) (bs + n) true N ce pc l (.int x :: r) Q := by
  intro p e R s m args below meth c H locs cells slots ls h
  subst hty
  have g1 := h.2.2.2.1
  have g2 := h.2.2.2.2.1
  have hT := (mx_Kn hG h.1).2 t0 _ ht
  refine va_newaK h.1.1 h.1.2.1 (mx_wd h.1 harr rfl) rfl hd rfl (by rw [hx]; exact iI_nneg hn2) (N := n) (by rw [hx]; exact iI_clamp hn2) hn (by omega) (by omega) (h.2.2.1 rfl) fun H1 cA e1 z1 o1 hA hNm => ?_
  have hcA : cA = tA := Option.some.inj (hNm.symm.trans (hRA s tA hT.2))
  subst hcA
  refine k p e R s m args below meth c H1 locs (cells + 1) (slots + n) ls (mx_I_new h ?_ z1 o1)
  show H1[_]? = some (vp_cell _ _)
  rw [ha]
  exact e1
theorem mx_newq (hG : mx_ok G) {idx : Nat} {C : String} (t0 : Nat) {tA : ClassId} {x : Int32} {n : Nat} (hd : decode Y.2.1 pc = .ok (.anewarray idx, 3)) (ht : (mx_tys G.2.2.2)[t0]? = some (tA, .object C)) (hlk : Cond.classLink Y.1.cls idx C ∈ lw_tbl) (hov : Cond.arrayOver (.object C) ∈ lw_tbl) (hx : x = iI n) (hn : n * 4 ≤ 536870912)
    (k : mx_M G Y d bc bs true (N + 1) (va_up ce N (.inl (tA, n, .inr (.inr (.inr (.inr (fun _ => none))))))) (pc + 3) l (.ref (mx_B G + N) :: r) Q) : mx_M G Y d (bc + 1) (bs + n) true N ce pc l (.int x :: r) Q := by
  intro p e R s m args below meth c H locs cells slots ls h
  have hn2 : n < 2 ^ 31 := by omega
  have g1 := h.2.2.2.1
  have g2 := h.2.2.2.2.1
  have hz := h.2.2.1 rfl
  have hT := (mx_Kn hG h.1).2 t0 _ ht
  have hcn : x.toNatClampNeg = n := by rw [hx]; exact iI_clamp hn2
  refine W.anew h.1.1 h.1.2.1 h.1.2.2.2.2.2.1 (mx_wd h.1 hlk rfl) (mx_wd h.1 hov rfl) rfl hd rfl (by rw [hx]; exact iI_nneg hn2) (by rw [hcn]; exact hn) (by omega) (by rw [hcn]; omega) fun cA kA comp f1 f2 f3 f4 => ?_
  obtain ⟨kA', comp', u1, u2, u3, u4⟩ := hT.2
  have hcA : cA = tA := Option.some.inj (f1.symm.trans u4)
  subst hcA
  rw [hcn]
  generalize hH1 : H.push ({ cls := cA, slots := Array.replicate n .null, vm := .none } : Cell) = H1
  have z1 : H1.size = H.size + 1 := by rw [← hH1, Array.size_push]
  have e1 : H1[H.size]? = some (arrV cA n (fun _ => .null)) := by rw [← hH1, Array.getElem?_push_size, ← arrV_new]
  have o1 : ∀ q : Nat, q < H.size → H1[q]? = H[q]? := fun q hq => by rw [← hH1, Array.getElem?_push, if_neg (Nat.ne_of_lt hq)]
  rw [hz] at z1 e1 o1
  have := k p e R s m args below meth c H1 locs (cells + 1) (slots + n) ls (mx_I_new h (by show H1[_]? = some (vp_cell _ _); rw [vp_cell_q]; exact e1) z1 o1)
  rw [hz]
  exact this
theorem mx_iald (hG : mx_ok G) {a n : Nat} {tA : ClassId} {f : Nat → Int32} (t0 : Nat) (j : Nat) {i : Int32} (hd : decode Y.2.1 pc = .ok (.iaload, 1)) (ha : a < N) (he : ce a = .inl (tA, n, .inl f)) (ht : (mx_tys G.2.2.2)[t0]? = some (tA, .int)) (hi : i = iI j) (hj : j < n) (hn : n < 2 ^ 31)
    (k : mx_M G Y d bc bs ex N ce (pc + 1) l (.int (f j) :: r) Q) : mx_M G Y d bc bs ex N ce pc l (.int i :: .ref (mx_B G + a) :: r) Q := by
  intro p e R s m args below meth c H locs cells slots ls h
  subst hi
  have hc := iI_clamp (Nat.lt_trans hj hn)
  refine va_iald h.1.1 h.1.2.1 (mx_Kn hG h.1) h.2.1.1 a t0 (by rw [mx_w_at ha, he]) ht (iI_in hj hn) hd ?_
  rw [hc]
  exact k p e R s m args below meth c H locs cells slots ls h
theorem mx_zald (hG : mx_ok G) {a n : Nat} {tA : ClassId} {f : Nat → Int32} (t0 : Nat) (j : Nat) {i : Int32} (hd : decode Y.2.1 pc = .ok (.baload, 1)) (ha : a < N) (he : ce a = .inl (tA, n, .inl f)) (ht : (mx_tys G.2.2.2)[t0]? = some (tA, .boolean)) (hi : i = iI j) (hj : j < n) (hn : n < 2 ^ 31)
    (k : mx_M G Y d bc bs ex N ce (pc + 1) l (.int (f j) :: r) Q) : mx_M G Y d bc bs ex N ce pc l (.int i :: .ref (mx_B G + a) :: r) Q := by
  intro p e R s m args below meth c H locs cells slots ls h
  subst hi
  have hc := iI_clamp (Nat.lt_trans hj hn)
  refine va_zald h.1.1 h.1.2.1 (mx_Kn hG h.1) h.2.1.1 a t0 (by rw [mx_w_at ha, he]) ht (iI_in hj hn) hd ?_
  rw [hc]
  exact k p e R s m args below meth c H locs cells slots ls h
theorem mx_lald (hG : mx_ok G) {a n : Nat} {tA : ClassId} {f : Nat → Int64} (t0 : Nat) (j : Nat) {i : Int32} (hd : decode Y.2.1 pc = .ok (.laload, 1)) (ha : a < N) (he : ce a = .inl (tA, n, .inr (.inl f))) (ht : (mx_tys G.2.2.2)[t0]? = some (tA, .long)) (hi : i = iI j) (hj : j < n) (hn : n < 2 ^ 31)
    (k : mx_M G Y d bc bs ex N ce (pc + 1) l (.long (f j) :: r) Q) : mx_M G Y d bc bs ex N ce pc l (.int i :: .ref (mx_B G + a) :: r) Q := by
  intro p e R s m args below meth c H locs cells slots ls h
  subst hi
  have hc := iI_clamp (Nat.lt_trans hj hn)
  refine va_lald h.1.1 h.1.2.1 (mx_Kn hG h.1) h.2.1.1 a t0 (by rw [mx_w_at ha, he]) ht (iI_in hj hn) hd ?_
  rw [hc]
  exact k p e R s m args below meth c H locs cells slots ls h
theorem mx_aald (hG : mx_ok G) {a n : Nat} {tA : ClassId} {ty : FieldType} {f : Nat → Option Nat} (t0 : Nat) (j : Nat) {i : Int32} {v : Nat} (hd : decode Y.2.1 pc = .ok (.aaload, 1)) (ha : a < N) (he : ce a = .inl (tA, n, .inr (.inr (.inr (.inr f))))) (ht : (mx_tys G.2.2.2)[t0]? = some (tA, ty)) (hty : ty.isReference = true) (hi : i = iI j) (hj : j < n) (hn : n < 2 ^ 31) (hv : f j = some v)
    (k : mx_M G Y d bc bs ex N ce (pc + 1) l (.ref v :: r) Q) : mx_M G Y d bc bs ex N ce pc l (.int i :: .ref (mx_B G + a) :: r) Q := by
  intro p e R s m args below meth c H locs cells slots ls h
  subst hi
  have hc := iI_clamp (Nat.lt_trans hj hn)
  have hcell : H[mx_B G + a]? = some (vp_cell tA (n, .inr (.inr (.inr (.inr f))))) := h.2.1.1 a (mx_B G + a, .inl (tA, n, .inr (.inr (.inr (.inr f))))) (by rw [mx_w_at ha, he])
  refine W.aald (v := va_rf (f (iI j).toNatClampNeg)) (ty := ty) h.1.1 h.1.2.1 hcell (((mx_Kn hG h.1).2 t0 _ ht).1 n (fun j => va_rf (f j))) hty (fun q => by cases q) (by show ¬ (iI j < 0 ∨ (arrV _ _ _).slots.size ≤ _); rw [arrV_size]; exact iI_in hj hn) (by show (arrV _ _ _).slots[_]? = _; rw [arrV_read _ _ (by rw [hc]; exact hj)]) rfl rfl hd ?_
  rw [hc, hv]
  exact k p e R s m args below meth c H locs cells slots ls h
theorem mx_alen (hG : mx_ok G) {a : Nat} {tA : ClassId} {x : vp_A} {ty : FieldType} (t0 : Nat) (hd : decode Y.2.1 pc = .ok (.arraylength, 1)) (ha : a < N) (he : ce a = .inl (tA, x)) (ht : (mx_tys G.2.2.2)[t0]? = some (tA, ty))
    (k : mx_M G Y d bc bs ex N ce (pc + 1) l (.int (iI x.1) :: r) Q) : mx_M G Y d bc bs ex N ce pc l (.ref (mx_B G + a) :: r) Q :=
  fun p e R s m args below meth c H locs cells slots ls h => va_alen h.1.1 h.1.2.1 (mx_Kn hG h.1) h.2.1.1 a t0 (by rw [mx_w_at ha, he]) ht (iI_nat x.1).symm hd (k p e R s m args below meth c H locs cells slots ls h)
theorem mx_iast (hG : mx_ok G) {a n : Nat} {tA : ClassId} {f : Nat → Int32} (t0 : Nat) (j : Nat) {i x : Int32} (hd : decode Y.2.1 pc = .ok (.iastore, 1)) (ha : a < N) (he : ce a = .inl (tA, n, .inl f)) (ht : (mx_tys G.2.2.2)[t0]? = some (tA, .int)) (hi : i = iI j) (hj : j < n) (hn : n < 2 ^ 31)
    (k : mx_M G Y d bc bs ex N (va_up ce a (.inl (tA, n, .inl (va_up f j x)))) (pc + 1) l r Q) : mx_M G Y d bc bs ex N ce pc l (.int x :: .int i :: .ref (mx_B G + a) :: r) Q := by
  intro p e R s m args below meth c H locs cells slots ls h
  subst hi
  have hc := iI_clamp (Nat.lt_trans hj hn)
  have hcell : H[mx_B G + a]? = some (vp_cell tA (n, .inl f)) := h.2.1.1 a (mx_B G + a, .inl (tA, n, .inl f)) (by rw [mx_w_at ha, he])
  refine W.iast h.1.1 h.1.2.1 hcell (((mx_Kn hG h.1).2 t0 _ ht).1 n (fun j => .int (f j))) (fun q => by cases q) (by show ¬ (iI j < 0 ∨ (arrV _ _ _).slots.size ≤ _); rw [arrV_size]; exact iI_in hj hn) rfl rfl hd fun H1 e1 z oq => ?_
  refine k p e R s m args below meth c H1 _ cells slots ls (mx_I_put h ha ?_ z oq)
  show H1[_]? = some (vp_cell _ _)
  rw [e1, hc]
  rw [vp_cell_i, vp_cell_i, arrV_store]
  congr 2
  funext q
  by_cases hq : q = j <;> simp [updV, va_up, hq]
theorem mx_zast (hG : mx_ok G) {a n : Nat} {tA : ClassId} {f : Nat → Int32} (t0 : Nat) (j : Nat) {i x : Int32} (hd : decode Y.2.1 pc = .ok (.bastore, 1)) (ha : a < N) (he : ce a = .inl (tA, n, .inl f)) (ht : (mx_tys G.2.2.2)[t0]? = some (tA, .boolean)) (hi : i = iI j) (hj : j < n) (hn : n < 2 ^ 31) (hx : narrow .boolean (.int x) = .int x)
    (k : mx_M G Y d bc bs ex N (va_up ce a (.inl (tA, n, .inl (va_up f j x)))) (pc + 1) l r Q) : mx_M G Y d bc bs ex N ce pc l (.int x :: .int i :: .ref (mx_B G + a) :: r) Q := by
  intro p e R s m args below meth c H locs cells slots ls h
  subst hi
  have hc := iI_clamp (Nat.lt_trans hj hn)
  have hcell : H[mx_B G + a]? = some (vp_cell tA (n, .inl f)) := h.2.1.1 a (mx_B G + a, .inl (tA, n, .inl f)) (by rw [mx_w_at ha, he])
  refine W.zast h.1.1 h.1.2.1 hcell (((mx_Kn hG h.1).2 t0 _ ht).1 n (fun j => .int (f j))) (fun q => by cases q) (by show ¬ (iI j < 0 ∨ (arrV _ _ _).slots.size ≤ _); rw [arrV_size]; exact iI_in hj hn) rfl rfl hd fun H1 e1 z oq => ?_
  refine k p e R s m args below meth c H1 _ cells slots ls (mx_I_put h ha ?_ z oq)
  show H1[_]? = some (vp_cell _ _)
  rw [e1, hc, hx]
  rw [vp_cell_i, vp_cell_i, arrV_store]
  congr 2
  funext q
  by_cases hq : q = j <;> simp [updV, va_up, hq]
theorem mx_last (hG : mx_ok G) {a n : Nat} {tA : ClassId} {f : Nat → Int64} (t0 : Nat) (j : Nat) {i : Int32} {x : Int64} (hd : decode Y.2.1 pc = .ok (.lastore, 1)) (ha : a < N) (he : ce a = .inl (tA, n, .inr (.inl f))) (ht : (mx_tys G.2.2.2)[t0]? = some (tA, .long)) (hi : i = iI j) (hj : j < n) (hn : n < 2 ^ 31)
    (k : mx_M G Y d bc bs ex N (va_up ce a (.inl (tA, n, .inr (.inl (va_up f j x))))) (pc + 1) l r Q) : mx_M G Y d bc bs ex N ce pc l (.long x :: .int i :: .ref (mx_B G + a) :: r) Q := by
  intro p e R s m args below meth c H locs cells slots ls h
  subst hi
  have hc := iI_clamp (Nat.lt_trans hj hn)
  have hcell : H[mx_B G + a]? = some (vp_cell tA (n, .inr (.inl f))) := h.2.1.1 a (mx_B G + a, .inl (tA, n, .inr (.inl f))) (by rw [mx_w_at ha, he])
  refine W.last h.1.1 h.1.2.1 hcell (((mx_Kn hG h.1).2 t0 _ ht).1 n (fun j => .long (f j))) (fun q => by cases q) (by show ¬ (iI j < 0 ∨ (arrV _ _ _).slots.size ≤ _); rw [arrV_size]; exact iI_in hj hn) rfl rfl hd fun H1 e1 z oq => ?_
  refine k p e R s m args below meth c H1 _ cells slots ls (mx_I_put h ha ?_ z oq)
  show H1[_]? = some (vp_cell _ _)
  rw [e1, hc]
  rw [vp_cell_l, vp_cell_l, arrV_store]
  congr 2
  funext q
  by_cases hq : q = j <;> simp [updV, va_up, hq]
theorem mx_aast (hG : mx_ok G) {a b n ci : Nat} {tA : ClassId} {r0 : vw_C} {vs : List Value} {f : Nat → Option Nat} (t0 : Nat) (j : Nat) {i : Int32} (hd : decode Y.2.1 pc = .ok (.aastore, 1)) (ha : a < N) (he : ce a = .inl (tA, n, .inr (.inr (.inr (.inr f))))) (ht : (mx_tys G.2.2.2)[t0]? = some (tA, .object r0.1)) (hb : b < N) (hv : ce b = .inr (ci, vs)) (hcl : classes[ci]? = some r0) (hi : i = iI j) (hj : j < n) (hn : n < 2 ^ 31)
    (k : mx_M G Y d bc bs ex N (va_up ce a (.inl (tA, n, .inr (.inr (.inr (.inr (va_up f j (some (mx_B G + b))))))))) (pc + 1) l r Q) : mx_M G Y d bc bs ex N ce pc l (.ref (mx_B G + b) :: .int i :: .ref (mx_B G + a) :: r) Q := by
  intro p e R s m args below meth c H locs cells slots ls h
  subst hi
  have hc := iI_clamp (Nat.lt_trans hj hn)
  have hcell : H[mx_B G + a]? = some (vp_cell tA (n, .inr (.inr (.inr (.inr f))))) := h.2.1.1 a (mx_B G + a, .inl (tA, n, .inr (.inr (.inr (.inr f))))) (by rw [mx_w_at ha, he])
  have hK := mx_Kn hG h.1
  have hin : vp_in (iI j) n := iI_in hj hn
  have h0 : ¬ iI j < 0 := fun q => hin (Or.inl q)
  obtain ⟨r', hr', cellV, g1, g2, g3, -⟩ := h.2.1.1 b (mx_B G + b, .inr (ci, vs)) (by rw [mx_w_at hb, hv])
  have hcls := (hK.1 ci r0 hcl).2
  obtain ⟨kA, comp, k1, k2, k3, -⟩ := (hK.2 t0 _ ht).2
  have hcomp : comp = G.2.2.1.1 ci := Option.some.inj (k3.symm.trans hcls.1)
  subst hcomp
  obtain ⟨kC, hkC, -⟩ := hcls.2
  refine W.aast h.1.1 h.1.2.1 hcell (fun q h => by cases h) (fun h => by cases h) k1 k2 rfl hkC ⟨h0, by show _ < (arrV _ _ _).slots.size; rw [arrV_size, hc]; exact hj⟩ g1 (fun q h => by rw [g3] at h; cases h) (by rw [g2]; exact hkC) (by rw [g2]; exact va_assign hcls) rfl rfl hd fun H1 e1 z oq => ?_
  refine k p e R s m args below meth c H1 _ cells slots ls (mx_I_put h ha ?_ z oq)
  show H1[_]? = some (vp_cell _ _)
  rw [e1, hc]
  rw [vp_cell_q, vp_cell_q, arrV_store]
  congr 2
  funext q
  by_cases hq : q = j <;> simp [updV, va_up, hq, va_rf]
end MXH
