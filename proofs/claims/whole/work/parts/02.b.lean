/-! ===== THE LAYER (mx_): the machine seen as one world of numbered cells; a method is walked by what holds behind it (returned or thrown) ===== -/
/-- what a method ends with: a value, or the name of the class of what it threw -/
abbrev mx_R : Type := Option Value ⊕ String
/-- a method: its name, bytes, locals, what it returns, its handlers -/
abbrev mx_Y : Type := MethodName × ByteArray × Nat × Option FieldType × List (Nat × Nat × Nat × Nat)
/-- the launch, the state at the law's entry, numbers and slots of the classes, the array classes -/
abbrev mx_G : Type := Launch × State × va_G × (Nat → ClassId)
/-- what is asked of an end: outcome, number of cells, the cells, cells and slots that are left -/
abbrev mx_P : Type := mx_R → Nat → (Nat → va_E) → Nat → Nat → Prop
abbrev mx_B (G : mx_G) : Nat := G.2.1.heap.size
def mx_A (G : mx_G) : Nat → Prop := fun q => mx_B G ≤ q
def mx_w (G : mx_G) (N : Nat) (ce : Nat → va_E) : va_W := (List.range N).map (fun k => (mx_B G + k, ce k))
theorem mx_w_at {G : mx_G} {N k : Nat} {ce : Nat → va_E} (hk : k < N) : (mx_w G N ce)[k]? = some (mx_B G + k, ce k) := by
  simp [mx_w, hk]
theorem mx_w_inv {G : mx_G} {N k : Nat} {ce : Nat → va_E} {q : Nat × va_E} (h : (mx_w G N ce)[k]? = some q) : k < N ∧ q = (mx_B G + k, ce k) := by
  have hk : k < N := by
    have := (List.getElem?_eq_some_iff.mp h).1
    simpa [mx_w] using this
  rw [mx_w_at hk] at h
  exact ⟨hk, (Option.some.inj h).symm⟩
theorem mx_w_set {G : mx_G} {N k : Nat} {ce : Nat → va_E} (e : va_E) : (mx_w G N ce).set k (mx_B G + k, e) = mx_w G N (va_up ce k e) := by
  apply List.ext_getElem?
  intro i
  by_cases hi : i < N
  · by_cases hik : i = k
    · subst hik
      rw [List.getElem?_set_self (by simpa [mx_w] using hi), mx_w_at hi, va_up_self]
    · rw [List.getElem?_set_ne (Ne.symm hik), mx_w_at hi, mx_w_at hi, va_up_ne _ _ hik]
  · rw [List.getElem?_eq_none (by simp [mx_w]; omega), List.getElem?_eq_none (by simp [mx_w]; omega)]
theorem mx_w_push {G : mx_G} {N : Nat} {ce : Nat → va_E} (e : va_E) : mx_w G N ce ++ [(mx_B G + N, e)] = mx_w G (N + 1) (va_up ce N e) := by
  unfold mx_w
  rw [List.range_succ, List.map_append]
  congr 1
  · apply List.map_congr_left
    intro k hk
    rw [va_up_ne _ _ (Nat.ne_of_lt (List.mem_range.mp hk))]
  · simp [va_up_self]
theorem mx_w_D {G : mx_G} {N : Nat} {ce : Nat → va_E} : va_D (mx_A G) (mx_w G N ce) := by
  refine ⟨fun i j p q hi hj hpq => ?_, fun k q hk => ?_⟩
  · obtain ⟨-, rfl⟩ := mx_w_inv hi
    obtain ⟨-, rfl⟩ := mx_w_inv hj
    exact Nat.add_left_cancel hpq
  · obtain ⟨-, rfl⟩ := mx_w_inv hk
    exact Nat.le_add_right _ _
/-- the heap holds the world; nothing that was there at the law's entry has changed -/
def mx_H (G : mx_G) (N : Nat) (ce : Nat → va_E) (H : Heap) (locs : List Loc) : Prop := va_P G.2.2.1 classes (mx_w G N ce) H ∧ va_S (mx_A G) G.2.1.heap H locs
/-- where it's asked (ex): the world's cells are the last ones -/
def mx_X (G : mx_G) (ex : Bool) (N : Nat) (H : Heap) : Prop := ex = true → H.size = mx_B G + N
/-- the method's frame: machine, code, tables' words -/
def mx_C (G : mx_G) (Y : mx_Y) (p : Program) (s : State) (m : MethodId) (args : Array Value) (meth : Method) (c : Code) : Prop :=
  p.tables.exec = Jvm.exec ∧ c.code = Y.2.1 ∧ c.maxLocals = Y.2.2.1 ∧ meth.sig.returnType = Y.2.2.2.1 ∧ meth.locks = false ∧ s.vm.findClass Y.1.cls = some m.cls ∧ mx_Ws args s ∧ G.2.1.vm.Alike s.vm ∧ meth.name = Y.1.name ∧ c.exceptionTable.toList.map (fun h => (h.startPc, h.endPc, h.handlerPc, h.catchType)) = Y.2.2.2.2
/-- what stands at a point of a walk -/
def mx_I (G : mx_G) (Y : mx_Y) (d bc bs : Nat) (ex : Bool) (N : Nat) (ce : Nat → va_E) (l : List (Nat × Value)) (p : Program) (R : Room) (s : State) (m : MethodId) (args : Array Value) (meth : Method) (c : Code) (H : Heap) (locs : List Loc) (cells slots : Nat) (ls : Array Slot) : Prop :=
  mx_C G Y p s m args meth c ∧ mx_H G N ce H locs ∧ mx_X G ex N H ∧ cells + bc ≤ R.cells ∧ slots + bs ≤ R.slots ∧ d + 1 ≤ R.frames ∧ 32 * d + 70 ≤ R.locals ∧ lv_has ls Y.2.2.1 l
/-- how it ends -/
def mx_O (G : mx_G) (ex : Bool) (N : Nat) (ce : Nat → va_E) (bc bs : Nat) (Q : mx_P) (o : Outcome) (t : State) : Prop :=
  (∃ v, o = .returned v ∧ mx_X G ex N t.heap ∧ Q (.inl v) N ce bc bs) ∨ (∃ (q : Addr) (E : String) (c0 : Cell), o = .threw q ∧ t.heap[q]? = some c0 ∧ c0.vm = .none ∧ G.2.1.vm.findClass E = some c0.cls ∧ Q (.inr E) N ce bc bs)
def mx_Z (G : mx_G) (ex : Bool) (R : Room) (Q : mx_P) (s : State) (below : List Frame) : State → Prop := fun t =>
  ∃ (o : Outcome) (L : List Loc) (k n N : Nat) (ce : Nat → va_E) (bc bs : Nat), t.status = .running ∧ Ended t below o ∧ s.WarmedH t.vm ∧ s.sameButNew ({ t with vm := s.vm } : State) L k n ∧ mx_H G N ce t.heap L ∧ k + bc ≤ R.cells ∧ n + bs ≤ R.slots ∧ mx_O G ex N ce bc bs Q o t
/-- from pc on, with these locals and this stack, the method comes to an end with Q -/
def mx_M (G : mx_G) (Y : mx_Y) (d bc bs : Nat) (ex : Bool) (N : Nat) (ce : Nat → va_E) (pc : Nat) (l : List (Nat × Value)) (st : List Value) (Q : mx_P) : Prop :=
  ∀ (p : Program) (e : Env) (R : Room) (s : State) (m : MethodId) (args : Array Value) (below : List Frame) (meth : Method) (c : Code) (H : Heap) (locs : List Loc) (cells slots : Nat) (ls : Array Slot),
    mx_I G Y d bc bs ex N ce l p R s m args meth c H locs cells slots ls → W p G.1 e R s m args below meth c H locs cells slots (mx_Z G ex R Q s below) (F0 m pc ls st)
def mx_get (l : List (Nat × Value)) (i : Nat) : Option Value := match l with
  | [] => none
  | q :: r => bif Nat.beq q.1 i then some q.2 else mx_get r i
theorem mx_get_mem {l : List (Nat × Value)} {i : Nat} {v : Value} (h : mx_get l i = some v) : (i, v) ∈ l := by
  induction l with
  | nil => simp [mx_get] at h
  | cons q r ih =>
    obtain ⟨a, b⟩ := q
    unfold mx_get at h
    cases hb : Nat.beq a i with
    | true =>
      rw [hb] at h
      have hb' := Nat.eq_of_beq_eq_true hb
      simp only [cond_true, Option.some.injEq] at h
      subst hb'; subst h
      exact List.mem_cons_self
    | false =>
      rw [hb] at h
      exact List.mem_cons_of_mem _ (ih h)
def mx_set1 (l : List (Nat × Value)) (i : Nat) (v : Value) : List (Nat × Value) := (i, v) :: l.filter (fun q => !(q.1 == i) && !(q.1 + 1 == i && q.2.category == 2))
def mx_set2 (l : List (Nat × Value)) (i : Nat) (v : Value) : List (Nat × Value) := (i, v) :: l.filter (fun q => !(q.1 == i) && (!(q.1 == i + 1) && !(q.1 + 1 == i && q.2.category == 2)))
section MXP
variable {G : mx_G} {Y : mx_Y} {d bc bs : Nat} {ex : Bool} {N : Nat} {ce : Nat → va_E} {pc : Nat} {l : List (Nat × Value)} {r : List Value} {Q : mx_P}
theorem mx_iconst {n : Int} (hd : decode Y.2.1 pc = .ok (.iconst n, 1)) (k : mx_M G Y d bc bs ex N ce (pc + 1) l (.int (iI n) :: r) Q) : mx_M G Y d bc bs ex N ce pc l r Q :=
  fun p e R s m args below meth c H locs cells slots ls h => lv_iconst h.1.1 h.1.2.1 hd rfl (k p e R s m args below meth c H locs cells slots ls h)
theorem mx_bipush {n : Int} (hd : decode Y.2.1 pc = .ok (.bipush n, 2)) (hv : (Int8.ofInt n).toInt32 = iI n) (k : mx_M G Y d bc bs ex N ce (pc + 2) l (.int (iI n) :: r) Q) : mx_M G Y d bc bs ex N ce pc l r Q :=
  fun p e R s m args below meth c H locs cells slots ls h => lv_bipush h.1.1 h.1.2.1 hd hv (k p e R s m args below meth c H locs cells slots ls h)
theorem mx_sipush {n : Int} (hd : decode Y.2.1 pc = .ok (.sipush n, 3)) (hv : (Int16.ofInt n).toInt32 = iI n) (k : mx_M G Y d bc bs ex N ce (pc + 3) l (.int (iI n) :: r) Q) : mx_M G Y d bc bs ex N ce pc l r Q :=
  fun p e R s m args below meth c H locs cells slots ls h => lv_sipush h.1.1 h.1.2.1 hd hv (k p e R s m args below meth c H locs cells slots ls h)
theorem mx_lconst {n : Fin 2} {v : Int64} (hd : decode Y.2.1 pc = .ok (.lconst n, 1)) (hv : Int64.ofNat (n : Nat) = v) (k : mx_M G Y d bc bs ex N ce (pc + 1) l (.long v :: r) Q) : mx_M G Y d bc bs ex N ce pc l r Q :=
  fun p e R s m args below meth c H locs cells slots ls h => lv_lconst h.1.1 h.1.2.1 hd hv (k p e R s m args below meth c H locs cells slots ls h)
theorem mx_iload_n {k4 : Fin 4} {x : Int32} (hd : decode Y.2.1 pc = .ok (.iload_n k4, 1)) (hg : mx_get l k4 = some (.int x)) (k : mx_M G Y d bc bs ex N ce (pc + 1) l (.int x :: r) Q) : mx_M G Y d bc bs ex N ce pc l r Q :=
  fun p e R s m args below meth c H locs cells slots ls h => lv_iload_n h.1.1 h.1.2.1 hd rfl (h.2.2.2.2.2.2.2.2.2 _ (mx_get_mem hg)) (k p e R s m args below meth c H locs cells slots ls h)
theorem mx_iload {i : Nat} {x : Int32} (hd : decode Y.2.1 pc = .ok (.iload i, 2)) (hg : mx_get l i = some (.int x)) (k : mx_M G Y d bc bs ex N ce (pc + 2) l (.int x :: r) Q) : mx_M G Y d bc bs ex N ce pc l r Q :=
  fun p e R s m args below meth c H locs cells slots ls h => lv_iload h.1.1 h.1.2.1 hd (h.2.2.2.2.2.2.2.2.2 _ (mx_get_mem hg)) (k p e R s m args below meth c H locs cells slots ls h)
theorem mx_istore_n {k4 : Fin 4} {x : Int32} (hd : decode Y.2.1 pc = .ok (.istore_n k4, 1)) (hn : (k4 : Nat) < Y.2.2.1) (k : mx_M G Y d bc bs ex N ce (pc + 1) (mx_set1 l k4 (.int x)) r Q) : mx_M G Y d bc bs ex N ce pc l (.int x :: r) Q :=
  fun p e R s m args below meth c H locs cells slots ls h => lv_istore_n h.1.1 h.1.2.1 hd rfl h.2.2.2.2.2.2.2 hn rfl (fun ls hl => k p e R s m args below meth c H locs cells slots ls ⟨h.1, h.2.1, h.2.2.1, h.2.2.2.1, h.2.2.2.2.1, h.2.2.2.2.2.1, h.2.2.2.2.2.2.1, hl⟩)
theorem mx_istore {i : Nat} {x : Int32} (hd : decode Y.2.1 pc = .ok (.istore i, 2)) (hn : i < Y.2.2.1) (k : mx_M G Y d bc bs ex N ce (pc + 2) (mx_set1 l i (.int x)) r Q) : mx_M G Y d bc bs ex N ce pc l (.int x :: r) Q :=
  fun p e R s m args below meth c H locs cells slots ls h => lv_istore h.1.1 h.1.2.1 hd h.2.2.2.2.2.2.2 hn rfl (fun ls hl => k p e R s m args below meth c H locs cells slots ls ⟨h.1, h.2.1, h.2.2.1, h.2.2.2.1, h.2.2.2.2.1, h.2.2.2.2.2.1, h.2.2.2.2.2.2.1, hl⟩)
theorem mx_lload_n {k4 : Fin 4} {x : Int64} (hd : decode Y.2.1 pc = .ok (.lload_n k4, 1)) (hg : mx_get l k4 = some (.long x)) (k : mx_M G Y d bc bs ex N ce (pc + 1) l (.long x :: r) Q) : mx_M G Y d bc bs ex N ce pc l r Q :=
  fun p e R s m args below meth c H locs cells slots ls h => lv_lload_n h.1.1 h.1.2.1 hd rfl (h.2.2.2.2.2.2.2.2.2 _ (mx_get_mem hg)) (k p e R s m args below meth c H locs cells slots ls h)
theorem mx_lload {i : Nat} {x : Int64} (hd : decode Y.2.1 pc = .ok (.lload i, 2)) (hg : mx_get l i = some (.long x)) (k : mx_M G Y d bc bs ex N ce (pc + 2) l (.long x :: r) Q) : mx_M G Y d bc bs ex N ce pc l r Q :=
  fun p e R s m args below meth c H locs cells slots ls h => lv_lload h.1.1 h.1.2.1 hd (h.2.2.2.2.2.2.2.2.2 _ (mx_get_mem hg)) (k p e R s m args below meth c H locs cells slots ls h)
theorem mx_lstore_n {k4 : Fin 4} {x : Int64} (hd : decode Y.2.1 pc = .ok (.lstore_n k4, 1)) (hn : (k4 : Nat) + 1 < Y.2.2.1) (k : mx_M G Y d bc bs ex N ce (pc + 1) (mx_set2 l k4 (.long x)) r Q) : mx_M G Y d bc bs ex N ce pc l (.long x :: r) Q :=
  fun p e R s m args below meth c H locs cells slots ls h => lv_lstore_n h.1.1 h.1.2.1 hd rfl h.2.2.2.2.2.2.2 hn rfl (fun ls hl => k p e R s m args below meth c H locs cells slots ls ⟨h.1, h.2.1, h.2.2.1, h.2.2.2.1, h.2.2.2.2.1, h.2.2.2.2.2.1, h.2.2.2.2.2.2.1, hl⟩)
theorem mx_lstore {i : Nat} {x : Int64} (hd : decode Y.2.1 pc = .ok (.lstore i, 2)) (hn : i + 1 < Y.2.2.1) (k : mx_M G Y d bc bs ex N ce (pc + 2) (mx_set2 l i (.long x)) r Q) : mx_M G Y d bc bs ex N ce pc l (.long x :: r) Q :=
  fun p e R s m args below meth c H locs cells slots ls h => lv_lstore h.1.1 h.1.2.1 hd h.2.2.2.2.2.2.2 hn rfl (fun ls hl => k p e R s m args below meth c H locs cells slots ls ⟨h.1, h.2.1, h.2.2.1, h.2.2.2.1, h.2.2.2.2.1, h.2.2.2.2.2.1, h.2.2.2.2.2.2.1, hl⟩)
theorem mx_aload_n {k4 : Fin 4} {x : Nat} (hd : decode Y.2.1 pc = .ok (.aload_n k4, 1)) (hg : mx_get l k4 = some (.ref x)) (k : mx_M G Y d bc bs ex N ce (pc + 1) l (.ref x :: r) Q) : mx_M G Y d bc bs ex N ce pc l r Q :=
  fun p e R s m args below meth c H locs cells slots ls h => lv_aload_n h.1.1 h.1.2.1 hd rfl (h.2.2.2.2.2.2.2.2.2 _ (mx_get_mem hg)) (k p e R s m args below meth c H locs cells slots ls h)
theorem mx_aload {i : Nat} {x : Nat} (hd : decode Y.2.1 pc = .ok (.aload i, 2)) (hg : mx_get l i = some (.ref x)) (k : mx_M G Y d bc bs ex N ce (pc + 2) l (.ref x :: r) Q) : mx_M G Y d bc bs ex N ce pc l r Q :=
  fun p e R s m args below meth c H locs cells slots ls h => lv_aload h.1.1 h.1.2.1 hd (h.2.2.2.2.2.2.2.2.2 _ (mx_get_mem hg)) (k p e R s m args below meth c H locs cells slots ls h)
theorem mx_astore_n {k4 : Fin 4} {x : Nat} (hd : decode Y.2.1 pc = .ok (.astore_n k4, 1)) (hn : (k4 : Nat) < Y.2.2.1) (k : mx_M G Y d bc bs ex N ce (pc + 1) (mx_set1 l k4 (.ref x)) r Q) : mx_M G Y d bc bs ex N ce pc l (.ref x :: r) Q :=
  fun p e R s m args below meth c H locs cells slots ls h => lv_astore_n h.1.1 h.1.2.1 hd rfl h.2.2.2.2.2.2.2 hn rfl (fun ls hl => k p e R s m args below meth c H locs cells slots ls ⟨h.1, h.2.1, h.2.2.1, h.2.2.2.1, h.2.2.2.2.1, h.2.2.2.2.2.1, h.2.2.2.2.2.2.1, hl⟩)
theorem mx_astore {i : Nat} {x : Nat} (hd : decode Y.2.1 pc = .ok (.astore i, 2)) (hn : i < Y.2.2.1) (k : mx_M G Y d bc bs ex N ce (pc + 2) (mx_set1 l i (.ref x)) r Q) : mx_M G Y d bc bs ex N ce pc l (.ref x :: r) Q :=
  fun p e R s m args below meth c H locs cells slots ls h => lv_astore h.1.1 h.1.2.1 hd h.2.2.2.2.2.2.2 hn rfl (fun ls hl => k p e R s m args below meth c H locs cells slots ls ⟨h.1, h.2.1, h.2.2.1, h.2.2.2.1, h.2.2.2.2.1, h.2.2.2.2.2.1, h.2.2.2.2.2.2.1, hl⟩)
theorem mx_iinc {i : Nat} {n : Int} {x : Int32} (hd : decode Y.2.1 pc = .ok (.iinc i n, 3)) (hg : mx_get l i = some (.int x)) (hn : i < Y.2.2.1) (k : mx_M G Y d bc bs ex N ce (pc + 3) (mx_set1 l i (.int (x + iI n))) r Q) : mx_M G Y d bc bs ex N ce pc l r Q := by
  intro p e R s m args below meth c H locs cells slots ls h
  obtain ⟨kk, hk⟩ := List.getElem?_of_mem (mx_get_mem hg)
  exact lv_iinc h.1.1 h.1.2.1 hd h.2.2.2.2.2.2.2 hk rfl hn rfl (fun ls hl => k p e R s m args below meth c H locs cells slots ls ⟨h.1, h.2.1, h.2.2.1, h.2.2.2.1, h.2.2.2.2.1, h.2.2.2.2.2.1, h.2.2.2.2.2.2.1, hl⟩)
theorem mx_iadd {x y : Int32} (hd : decode Y.2.1 pc = .ok (.iadd, 1)) (k : mx_M G Y d bc bs ex N ce (pc + 1) l (.int (x + y) :: r) Q) : mx_M G Y d bc bs ex N ce pc l (.int y :: .int x :: r) Q :=
  fun p e R s m args below meth c H locs cells slots ls h => lv_iadd h.1.1 h.1.2.1 hd (k p e R s m args below meth c H locs cells slots ls h)
theorem mx_isub {x y : Int32} (hd : decode Y.2.1 pc = .ok (.isub, 1)) (k : mx_M G Y d bc bs ex N ce (pc + 1) l (.int (x - y) :: r) Q) : mx_M G Y d bc bs ex N ce pc l (.int y :: .int x :: r) Q :=
  fun p e R s m args below meth c H locs cells slots ls h => lv_isub h.1.1 h.1.2.1 hd (k p e R s m args below meth c H locs cells slots ls h)
theorem mx_imul {x y : Int32} (hd : decode Y.2.1 pc = .ok (.imul, 1)) (k : mx_M G Y d bc bs ex N ce (pc + 1) l (.int (x * y) :: r) Q) : mx_M G Y d bc bs ex N ce pc l (.int y :: .int x :: r) Q :=
  fun p e R s m args below meth c H locs cells slots ls h => lv_imul h.1.1 h.1.2.1 hd (k p e R s m args below meth c H locs cells slots ls h)
theorem mx_iand {x y : Int32} (hd : decode Y.2.1 pc = .ok (.iand, 1)) (k : mx_M G Y d bc bs ex N ce (pc + 1) l (.int (x &&& y) :: r) Q) : mx_M G Y d bc bs ex N ce pc l (.int y :: .int x :: r) Q :=
  fun p e R s m args below meth c H locs cells slots ls h => lv_iand h.1.1 h.1.2.1 hd (k p e R s m args below meth c H locs cells slots ls h)
theorem mx_ior {x y : Int32} (hd : decode Y.2.1 pc = .ok (.ior, 1)) (k : mx_M G Y d bc bs ex N ce (pc + 1) l (.int (x ||| y) :: r) Q) : mx_M G Y d bc bs ex N ce pc l (.int y :: .int x :: r) Q :=
  fun p e R s m args below meth c H locs cells slots ls h => lv_ior h.1.1 h.1.2.1 hd (k p e R s m args below meth c H locs cells slots ls h)
theorem mx_ixor {x y : Int32} (hd : decode Y.2.1 pc = .ok (.ixor, 1)) (k : mx_M G Y d bc bs ex N ce (pc + 1) l (.int (x ^^^ y) :: r) Q) : mx_M G Y d bc bs ex N ce pc l (.int y :: .int x :: r) Q :=
  fun p e R s m args below meth c H locs cells slots ls h => lv_ixor h.1.1 h.1.2.1 hd (k p e R s m args below meth c H locs cells slots ls h)
theorem mx_ishl {x y : Int32} (hd : decode Y.2.1 pc = .ok (.ishl, 1)) (k : mx_M G Y d bc bs ex N ce (pc + 1) l (.int (x <<< (y &&& 31)) :: r) Q) : mx_M G Y d bc bs ex N ce pc l (.int y :: .int x :: r) Q :=
  fun p e R s m args below meth c H locs cells slots ls h => lv_ishl h.1.1 h.1.2.1 hd (k p e R s m args below meth c H locs cells slots ls h)
theorem mx_ishr {x y : Int32} (hd : decode Y.2.1 pc = .ok (.ishr, 1)) (k : mx_M G Y d bc bs ex N ce (pc + 1) l (.int (x >>> (y &&& 31)) :: r) Q) : mx_M G Y d bc bs ex N ce pc l (.int y :: .int x :: r) Q :=
  fun p e R s m args below meth c H locs cells slots ls h => lv_ishr h.1.1 h.1.2.1 hd (k p e R s m args below meth c H locs cells slots ls h)
theorem mx_ladd {x y : Int64} (hd : decode Y.2.1 pc = .ok (.ladd, 1)) (k : mx_M G Y d bc bs ex N ce (pc + 1) l (.long (x + y) :: r) Q) : mx_M G Y d bc bs ex N ce pc l (.long y :: .long x :: r) Q :=
  fun p e R s m args below meth c H locs cells slots ls h => lv_ladd h.1.1 h.1.2.1 hd (k p e R s m args below meth c H locs cells slots ls h)
theorem mx_lsub {x y : Int64} (hd : decode Y.2.1 pc = .ok (.lsub, 1)) (k : mx_M G Y d bc bs ex N ce (pc + 1) l (.long (x - y) :: r) Q) : mx_M G Y d bc bs ex N ce pc l (.long y :: .long x :: r) Q :=
  fun p e R s m args below meth c H locs cells slots ls h => lv_lsub h.1.1 h.1.2.1 hd (k p e R s m args below meth c H locs cells slots ls h)
theorem mx_lmul {x y : Int64} (hd : decode Y.2.1 pc = .ok (.lmul, 1)) (k : mx_M G Y d bc bs ex N ce (pc + 1) l (.long (x * y) :: r) Q) : mx_M G Y d bc bs ex N ce pc l (.long y :: .long x :: r) Q :=
  fun p e R s m args below meth c H locs cells slots ls h => lv_lmul h.1.1 h.1.2.1 hd (k p e R s m args below meth c H locs cells slots ls h)
theorem mx_idiv {x y : Int32} (hd : decode Y.2.1 pc = .ok (.idiv, 1)) (hne : ¬ y = 0) (k : mx_M G Y d bc bs ex N ce (pc + 1) l (.int (x / y) :: r) Q) : mx_M G Y d bc bs ex N ce pc l (.int y :: .int x :: r) Q :=
  fun p e R s m args below meth c H locs cells slots ls h => lv_idiv h.1.1 h.1.2.1 hd hne (k p e R s m args below meth c H locs cells slots ls h)
theorem mx_irem {x y : Int32} (hd : decode Y.2.1 pc = .ok (.irem, 1)) (hne : ¬ y = 0) (k : mx_M G Y d bc bs ex N ce (pc + 1) l (.int (x - x / y * y) :: r) Q) : mx_M G Y d bc bs ex N ce pc l (.int y :: .int x :: r) Q :=
  fun p e R s m args below meth c H locs cells slots ls h => lv_irem h.1.1 h.1.2.1 hd hne (k p e R s m args below meth c H locs cells slots ls h)
theorem mx_ldiv {x y : Int64} (hd : decode Y.2.1 pc = .ok (.ldiv, 1)) (hne : ¬ y = 0) (k : mx_M G Y d bc bs ex N ce (pc + 1) l (.long (x / y) :: r) Q) : mx_M G Y d bc bs ex N ce pc l (.long y :: .long x :: r) Q :=
  fun p e R s m args below meth c H locs cells slots ls h => lv_ldiv h.1.1 h.1.2.1 hd hne (k p e R s m args below meth c H locs cells slots ls h)
theorem mx_lrem {x y : Int64} (hd : decode Y.2.1 pc = .ok (.lrem, 1)) (hne : ¬ y = 0) (k : mx_M G Y d bc bs ex N ce (pc + 1) l (.long (x - x / y * y) :: r) Q) : mx_M G Y d bc bs ex N ce pc l (.long y :: .long x :: r) Q :=
  fun p e R s m args below meth c H locs cells slots ls h => lv_lrem h.1.1 h.1.2.1 hd hne (k p e R s m args below meth c H locs cells slots ls h)
theorem mx_iushr {x y : Int32} (hd : decode Y.2.1 pc = .ok (.iushr, 1)) (k : mx_M G Y d bc bs ex N ce (pc + 1) l (.int ((x.toUInt32 >>> (y.toUInt32 &&& Int32.toUInt32 31)).toInt32) :: r) Q) : mx_M G Y d bc bs ex N ce pc l (.int y :: .int x :: r) Q :=
  fun p e R s m args below meth c H locs cells slots ls h => lv_iushr h.1.1 h.1.2.1 hd rfl (k p e R s m args below meth c H locs cells slots ls h)
theorem mx_ineg {x : Int32} (hd : decode Y.2.1 pc = .ok (.ineg, 1)) (k : mx_M G Y d bc bs ex N ce (pc + 1) l (.int (-x) :: r) Q) : mx_M G Y d bc bs ex N ce pc l (.int x :: r) Q :=
  fun p e R s m args below meth c H locs cells slots ls h => lv_ineg h.1.1 h.1.2.1 hd (k p e R s m args below meth c H locs cells slots ls h)
theorem mx_i2l {x : Int32} (hd : decode Y.2.1 pc = .ok (.i2l, 1)) (k : mx_M G Y d bc bs ex N ce (pc + 1) l (.long x.toInt64 :: r) Q) : mx_M G Y d bc bs ex N ce pc l (.int x :: r) Q :=
  fun p e R s m args below meth c H locs cells slots ls h => lv_i2l h.1.1 h.1.2.1 hd rfl (k p e R s m args below meth c H locs cells slots ls h)
theorem mx_l2i {x : Int64} (hd : decode Y.2.1 pc = .ok (.l2i, 1)) (k : mx_M G Y d bc bs ex N ce (pc + 1) l (.int x.toInt32 :: r) Q) : mx_M G Y d bc bs ex N ce pc l (.long x :: r) Q :=
  fun p e R s m args below meth c H locs cells slots ls h => lv_l2i h.1.1 h.1.2.1 hd rfl (k p e R s m args below meth c H locs cells slots ls h)
theorem mx_i2c {x : Int32} (hd : decode Y.2.1 pc = .ok (.i2c, 1)) (k : mx_M G Y d bc bs ex N ce (pc + 1) l (.int (x.toUInt32 % 65536).toInt32 :: r) Q) : mx_M G Y d bc bs ex N ce pc l (.int x :: r) Q :=
  fun p e R s m args below meth c H locs cells slots ls h => lv_i2c h.1.1 h.1.2.1 hd rfl (k p e R s m args below meth c H locs cells slots ls h)
theorem mx_i2b {x : Int32} (hd : decode Y.2.1 pc = .ok (.i2b, 1)) (k : mx_M G Y d bc bs ex N ce (pc + 1) l (.int x.toInt8.toInt32 :: r) Q) : mx_M G Y d bc bs ex N ce pc l (.int x :: r) Q :=
  fun p e R s m args below meth c H locs cells slots ls h => lv_i2b h.1.1 h.1.2.1 hd rfl (k p e R s m args below meth c H locs cells slots ls h)
theorem mx_lcmp {x y : Int64} (hd : decode Y.2.1 pc = .ok (.lcmp, 1)) (k : mx_M G Y d bc bs ex N ce (pc + 1) l (.int (lg_cmp x y) :: r) Q) : mx_M G Y d bc bs ex N ce pc l (.long y :: .long x :: r) Q :=
  fun p e R s m args below meth c H locs cells slots ls h => W.lcmp h.1.1 h.1.2.1 hd (k p e R s m args below meth c H locs cells slots ls h)
theorem mx_dup {va : Value} (hd : decode Y.2.1 pc = .ok (.dup, 1)) (hva : va.category = 1) (k : mx_M G Y d bc bs ex N ce (pc + 1) l (va :: va :: r) Q) : mx_M G Y d bc bs ex N ce pc l (va :: r) Q :=
  fun p e R s m args below meth c H locs cells slots ls h => lv_dup h.1.1 h.1.2.1 hd hva (k p e R s m args below meth c H locs cells slots ls h)
theorem mx_pop {va : Value} (hd : decode Y.2.1 pc = .ok (.pop, 1)) (hva : va.category = 1) (k : mx_M G Y d bc bs ex N ce (pc + 1) l r Q) : mx_M G Y d bc bs ex N ce pc l (va :: r) Q :=
  fun p e R s m args below meth c H locs cells slots ls h => lv_pop h.1.1 h.1.2.1 hd hva (k p e R s m args below meth c H locs cells slots ls h)
theorem mx_dup_x1 {va vb : Value} (hd : decode Y.2.1 pc = .ok (.dup_x1, 1)) (hva : va.category = 1) (hvb : vb.category = 1) (k : mx_M G Y d bc bs ex N ce (pc + 1) l (va :: vb :: va :: r) Q) : mx_M G Y d bc bs ex N ce pc l (va :: vb :: r) Q :=
  fun p e R s m args below meth c H locs cells slots ls h => lv_dup_x1 h.1.1 h.1.2.1 hd hva hvb (k p e R s m args below meth c H locs cells slots ls h)
theorem mx_dup_x2 {va vb vd : Value} (hd : decode Y.2.1 pc = .ok (.dup_x2, 1)) (hva : va.category = 1) (hvb : vb.category = 1) (hvd : vd.category = 1) (k : mx_M G Y d bc bs ex N ce (pc + 1) l (va :: vb :: vd :: va :: r) Q) : mx_M G Y d bc bs ex N ce pc l (va :: vb :: vd :: r) Q :=
  fun p e R s m args below meth c H locs cells slots ls h => lv_dup_x2 h.1.1 h.1.2.1 hd hva hvb hvd (k p e R s m args below meth c H locs cells slots ls h)
theorem mx_dup2 {va vb : Value} (hd : decode Y.2.1 pc = .ok (.dup2, 1)) (hva : va.category = 1) (hvb : vb.category = 1) (k : mx_M G Y d bc bs ex N ce (pc + 1) l (va :: vb :: va :: vb :: r) Q) : mx_M G Y d bc bs ex N ce pc l (va :: vb :: r) Q :=
  fun p e R s m args below meth c H locs cells slots ls h => lv_dup2_11 h.1.1 h.1.2.1 hd hva hvb (k p e R s m args below meth c H locs cells slots ls h)
theorem mx_dup2L {va : Value} (hd : decode Y.2.1 pc = .ok (.dup2, 1)) (hva : va.category = 2) (k : mx_M G Y d bc bs ex N ce (pc + 1) l (va :: va :: r) Q) : mx_M G Y d bc bs ex N ce pc l (va :: r) Q :=
  fun p e R s m args below meth c H locs cells slots ls h => lv_dup2_2 h.1.1 h.1.2.1 hd hva (k p e R s m args below meth c H locs cells slots ls h)
theorem mx_pop2L {va : Value} (hd : decode Y.2.1 pc = .ok (.pop2, 1)) (hva : va.category = 2) (k : mx_M G Y d bc bs ex N ce (pc + 1) l r Q) : mx_M G Y d bc bs ex N ce pc l (va :: r) Q :=
  fun p e R s m args below meth c H locs cells slots ls h => lv_pop2_2 h.1.1 h.1.2.1 hd hva (k p e R s m args below meth c H locs cells slots ls h)
theorem mx_if_eq {x : Int32} {off : Int} (tgt : Nat) (hd : decode Y.2.1 pc = .ok (.ifCond .eq off, 3)) (ht : (pc : Int) + off = (tgt : Int)) (kt : x = 0 → mx_M G Y d bc bs ex N ce tgt l r Q) (kf : ¬ x = 0 → mx_M G Y d bc bs ex N ce (pc + 3) l r Q) : mx_M G Y d bc bs ex N ce pc l (.int x :: r) Q :=
  fun p e R s m args below meth c H locs cells slots ls h => lv_if_eq h.1.1 h.1.2.1 hd ht (fun q => kt q p e R s m args below meth c H locs cells slots ls h) (fun q => kf q p e R s m args below meth c H locs cells slots ls h)
theorem mx_icmp_eq {x y : Int32} {off : Int} (tgt : Nat) (hd : decode Y.2.1 pc = .ok (.if_icmp .eq off, 3)) (ht : (pc : Int) + off = (tgt : Int)) (kt : x = y → mx_M G Y d bc bs ex N ce tgt l r Q) (kf : ¬ x = y → mx_M G Y d bc bs ex N ce (pc + 3) l r Q) : mx_M G Y d bc bs ex N ce pc l (.int y :: .int x :: r) Q :=
  fun p e R s m args below meth c H locs cells slots ls h => lv_icmp_eq h.1.1 h.1.2.1 hd ht (fun q => kt q p e R s m args below meth c H locs cells slots ls h) (fun q => kf q p e R s m args below meth c H locs cells slots ls h)
theorem mx_if_ne {x : Int32} {off : Int} (tgt : Nat) (hd : decode Y.2.1 pc = .ok (.ifCond .ne off, 3)) (ht : (pc : Int) + off = (tgt : Int)) (kt : ¬ x = 0 → mx_M G Y d bc bs ex N ce tgt l r Q) (kf : x = 0 → mx_M G Y d bc bs ex N ce (pc + 3) l r Q) : mx_M G Y d bc bs ex N ce pc l (.int x :: r) Q :=
  fun p e R s m args below meth c H locs cells slots ls h => lv_if_ne h.1.1 h.1.2.1 hd ht (fun q => kt q p e R s m args below meth c H locs cells slots ls h) (fun q => kf q p e R s m args below meth c H locs cells slots ls h)
theorem mx_icmp_ne {x y : Int32} {off : Int} (tgt : Nat) (hd : decode Y.2.1 pc = .ok (.if_icmp .ne off, 3)) (ht : (pc : Int) + off = (tgt : Int)) (kt : ¬ x = y → mx_M G Y d bc bs ex N ce tgt l r Q) (kf : x = y → mx_M G Y d bc bs ex N ce (pc + 3) l r Q) : mx_M G Y d bc bs ex N ce pc l (.int y :: .int x :: r) Q :=
  fun p e R s m args below meth c H locs cells slots ls h => lv_icmp_ne h.1.1 h.1.2.1 hd ht (fun q => kt q p e R s m args below meth c H locs cells slots ls h) (fun q => kf q p e R s m args below meth c H locs cells slots ls h)
theorem mx_if_lt {x : Int32} {off : Int} (tgt : Nat) (hd : decode Y.2.1 pc = .ok (.ifCond .lt off, 3)) (ht : (pc : Int) + off = (tgt : Int)) (kt : x < 0 → mx_M G Y d bc bs ex N ce tgt l r Q) (kf : ¬ x < 0 → mx_M G Y d bc bs ex N ce (pc + 3) l r Q) : mx_M G Y d bc bs ex N ce pc l (.int x :: r) Q :=
  fun p e R s m args below meth c H locs cells slots ls h => lv_if_lt h.1.1 h.1.2.1 hd ht (fun q => kt q p e R s m args below meth c H locs cells slots ls h) (fun q => kf q p e R s m args below meth c H locs cells slots ls h)
theorem mx_icmp_lt {x y : Int32} {off : Int} (tgt : Nat) (hd : decode Y.2.1 pc = .ok (.if_icmp .lt off, 3)) (ht : (pc : Int) + off = (tgt : Int)) (kt : x < y → mx_M G Y d bc bs ex N ce tgt l r Q) (kf : ¬ x < y → mx_M G Y d bc bs ex N ce (pc + 3) l r Q) : mx_M G Y d bc bs ex N ce pc l (.int y :: .int x :: r) Q :=
  fun p e R s m args below meth c H locs cells slots ls h => lv_icmp_lt h.1.1 h.1.2.1 hd ht (fun q => kt q p e R s m args below meth c H locs cells slots ls h) (fun q => kf q p e R s m args below meth c H locs cells slots ls h)
theorem mx_if_ge {x : Int32} {off : Int} (tgt : Nat) (hd : decode Y.2.1 pc = .ok (.ifCond .ge off, 3)) (ht : (pc : Int) + off = (tgt : Int)) (kt : 0 ≤ x → mx_M G Y d bc bs ex N ce tgt l r Q) (kf : ¬ 0 ≤ x → mx_M G Y d bc bs ex N ce (pc + 3) l r Q) : mx_M G Y d bc bs ex N ce pc l (.int x :: r) Q :=
  fun p e R s m args below meth c H locs cells slots ls h => lv_if_ge h.1.1 h.1.2.1 hd ht (fun q => kt q p e R s m args below meth c H locs cells slots ls h) (fun q => kf q p e R s m args below meth c H locs cells slots ls h)
theorem mx_icmp_ge {x y : Int32} {off : Int} (tgt : Nat) (hd : decode Y.2.1 pc = .ok (.if_icmp .ge off, 3)) (ht : (pc : Int) + off = (tgt : Int)) (kt : y ≤ x → mx_M G Y d bc bs ex N ce tgt l r Q) (kf : ¬ y ≤ x → mx_M G Y d bc bs ex N ce (pc + 3) l r Q) : mx_M G Y d bc bs ex N ce pc l (.int y :: .int x :: r) Q :=
  fun p e R s m args below meth c H locs cells slots ls h => lv_icmp_ge h.1.1 h.1.2.1 hd ht (fun q => kt q p e R s m args below meth c H locs cells slots ls h) (fun q => kf q p e R s m args below meth c H locs cells slots ls h)
theorem mx_if_gt {x : Int32} {off : Int} (tgt : Nat) (hd : decode Y.2.1 pc = .ok (.ifCond .gt off, 3)) (ht : (pc : Int) + off = (tgt : Int)) (kt : 0 < x → mx_M G Y d bc bs ex N ce tgt l r Q) (kf : ¬ 0 < x → mx_M G Y d bc bs ex N ce (pc + 3) l r Q) : mx_M G Y d bc bs ex N ce pc l (.int x :: r) Q :=
  fun p e R s m args below meth c H locs cells slots ls h => lv_if_gt h.1.1 h.1.2.1 hd ht (fun q => kt q p e R s m args below meth c H locs cells slots ls h) (fun q => kf q p e R s m args below meth c H locs cells slots ls h)
theorem mx_icmp_gt {x y : Int32} {off : Int} (tgt : Nat) (hd : decode Y.2.1 pc = .ok (.if_icmp .gt off, 3)) (ht : (pc : Int) + off = (tgt : Int)) (kt : y < x → mx_M G Y d bc bs ex N ce tgt l r Q) (kf : ¬ y < x → mx_M G Y d bc bs ex N ce (pc + 3) l r Q) : mx_M G Y d bc bs ex N ce pc l (.int y :: .int x :: r) Q :=
  fun p e R s m args below meth c H locs cells slots ls h => lv_icmp_gt h.1.1 h.1.2.1 hd ht (fun q => kt q p e R s m args below meth c H locs cells slots ls h) (fun q => kf q p e R s m args below meth c H locs cells slots ls h)
theorem mx_if_le {x : Int32} {off : Int} (tgt : Nat) (hd : decode Y.2.1 pc = .ok (.ifCond .le off, 3)) (ht : (pc : Int) + off = (tgt : Int)) (kt : x ≤ 0 → mx_M G Y d bc bs ex N ce tgt l r Q) (kf : ¬ x ≤ 0 → mx_M G Y d bc bs ex N ce (pc + 3) l r Q) : mx_M G Y d bc bs ex N ce pc l (.int x :: r) Q :=
  fun p e R s m args below meth c H locs cells slots ls h => lv_if_le h.1.1 h.1.2.1 hd ht (fun q => kt q p e R s m args below meth c H locs cells slots ls h) (fun q => kf q p e R s m args below meth c H locs cells slots ls h)
theorem mx_icmp_le {x y : Int32} {off : Int} (tgt : Nat) (hd : decode Y.2.1 pc = .ok (.if_icmp .le off, 3)) (ht : (pc : Int) + off = (tgt : Int)) (kt : x ≤ y → mx_M G Y d bc bs ex N ce tgt l r Q) (kf : ¬ x ≤ y → mx_M G Y d bc bs ex N ce (pc + 3) l r Q) : mx_M G Y d bc bs ex N ce pc l (.int y :: .int x :: r) Q :=
  fun p e R s m args below meth c H locs cells slots ls h => lv_icmp_le h.1.1 h.1.2.1 hd ht (fun q => kt q p e R s m args below meth c H locs cells slots ls h) (fun q => kf q p e R s m args below meth c H locs cells slots ls h)
theorem mx_goto {off : Int} (tgt : Nat) (hd : decode Y.2.1 pc = .ok (.goto off, 3)) (ht : (pc : Int) + off = (tgt : Int)) (k : mx_M G Y d bc bs ex N ce tgt l r Q) : mx_M G Y d bc bs ex N ce pc l r Q :=
  fun p e R s m args below meth c H locs cells slots ls h => lv_goto h.1.1 h.1.2.1 hd ht (k p e R s m args below meth c H locs cells slots ls h)
theorem mx_tableOut {dflt lo hi : Int} {offs : Array Int} {len : Nat} {x : Int32} (tgt : Nat) (hd : decode Y.2.1 pc = .ok (.tableswitch dflt lo hi offs, len)) (hx : x.toInt < lo ∨ hi < x.toInt) (ht : (pc : Int) + dflt = (tgt : Int)) (k : mx_M G Y d bc bs ex N ce tgt l r Q) : mx_M G Y d bc bs ex N ce pc l (.int x :: r) Q :=
  fun p e R s m args below meth c H locs cells slots ls h => lv_tableOut h.1.1 h.1.2.1 hd hx ht (k p e R s m args below meth c H locs cells slots ls h)
theorem mx_tableIn {dflt lo hi : Int} {offs : Array Int} {len : Nat} {x : Int32} {off : Int} (tgt : Nat) (hd : decode Y.2.1 pc = .ok (.tableswitch dflt lo hi offs, len)) (h1 : ¬ x.toInt < lo) (h2 : ¬ hi < x.toInt) (ho : offs[(x.toInt - lo).toNat]? = some off) (ht : (pc : Int) + off = (tgt : Int)) (k : mx_M G Y d bc bs ex N ce tgt l r Q) : mx_M G Y d bc bs ex N ce pc l (.int x :: r) Q :=
  fun p e R s m args below meth c H locs cells slots ls h => lv_tableIn h.1.1 h.1.2.1 hd h1 h2 ho ht (k p e R s m args below meth c H locs cells slots ls h)
theorem mx_lookup {dflt : Int} {ps : Array (Int × Int)} {len : Nat} {x : Int32} {off : Int} (tgt : Nat) (hd : decode Y.2.1 pc = .ok (.lookupswitch dflt ps, len)) (hp : (ps.toList.zip (ps.toList.drop 1)).all (fun (a, next) => a.1 < next.1) = true) (ho : Op.lookupswitch.offset ps.toList dflt x.toInt = off) (ht : (pc : Int) + off = (tgt : Int)) (k : mx_M G Y d bc bs ex N ce tgt l r Q) : mx_M G Y d bc bs ex N ce pc l (.int x :: r) Q :=
  fun p e R s m args below meth c H locs cells slots ls h => lv_lookup h.1.1 h.1.2.1 hd hp ho ht (k p e R s m args below meth c H locs cells slots ls h)
theorem mx_st {st st' : List Value} (e : st = st') (k : mx_M G Y d bc bs ex N ce pc l st' Q) : mx_M G Y d bc bs ex N ce pc l st Q := e ▸ k
theorem mx_loc {st : List Value} {l' : List (Nat × Value)} (hmm : l'.map (fun q => mx_get l q.1) = l'.map (fun q => some q.2)) (k : mx_M G Y d bc bs ex N ce pc l' st Q) : mx_M G Y d bc bs ex N ce pc l st Q := by
  intro p e R s m args below meth c H locs cells slots ls h
  refine k p e R s m args below meth c H locs cells slots ls ⟨h.1, h.2.1, h.2.2.1, h.2.2.2.1, h.2.2.2.2.1, h.2.2.2.2.2.1, h.2.2.2.2.2.2.1, h.2.2.2.2.2.2.2.1, h.2.2.2.2.2.2.2.2.1, fun q hq => ?_⟩
  have h1 : mx_get l q.1 = some q.2 := List.map_inj_left.mp hmm q hq
  exact h.2.2.2.2.2.2.2.2.2 _ (mx_get_mem h1)
end MXP
