/-- the words of a throw are among the tables', but for the four that speak of statics -/
def mx_thr (own : String) (ic : Nat) (E : String) (names : List String) : Prop := (Bundle.ownAtoms own ic E names).all (fun w => decide (w ∈ mx_four) || (decide (w ∈ lw_tbl) && mx_gd w)) = true
section MXT
variable {p : Program} {lc : Launch} {e : Env} {R : Room} {s : State} {m : MethodId} {args : Array Value} {below : List Frame} {meth : Method} {c : Code} {T : State} {locs : List Loc} {cells slots : Nat}
/-- the walk, counted anew from the state in which it is -/
theorem mx_rebase (X : Stand p lc e R s m args below meth c T locs cells slots) (R' : Room) (hf : R'.frames ≤ R.frames) (hl : R'.locals ≤ R.locals) (hc : cells + R'.cells ≤ R.cells) (hs : slots + R'.slots ≤ R.slots) :
    Stand p lc e R' ((T.setVm s.vm).setFrames (.invoking m args :: below)) m args below meth c T [] 0 0 := by
  obtain ⟨g0, hfr⟩ := X.frames_eq
  have hfr' : (T.setVm s.vm).frames = .java g0 :: below := hfr
  have hF : ((T.setVm s.vm).setFrames (.invoking m args :: below)).frames = .invoking m args :: below := State.frames_setFrames _ (State.cur_lt_of_frames hfr')
  have hlim : e.platform.stackLimits (T.setVm s.vm).me = e.platform.stackLimits s.me := X.limits
  have hby : (T.setVm s.vm).me.stackBytes = s.me.stackBytes := X.bytes
  obtain ⟨th, hth, -⟩ := State.frames_cons hfr'
  have hnil : T.heap.toList.drop T.heap.size = [] := List.drop_eq_nil_of_le (Nat.le_of_eq Array.length_toList)
  refine ⟨X.admits, X.cas, X.clock, hF, ?_, X.hears, X.method, X.code, X.here, X.tail, X.warmed, ?_, ?_, ?_, Nat.le_refl _, Nat.le_refl _, ?_, ?_, fun a c9 h9 => ⟨c9, h9, rfl, rfl, fun _ _ => rfl⟩⟩
  · have hr := X.room
    have q1 := X.heapSize
    have q2 := X.used
    have hU : ((T.setVm s.vm).setFrames (.invoking m args :: below)).localsInUse = s.localsInUse := by
      rw [State.localsInUse_invoking hF (meth := meth) (c := c) X.method X.code, State.localsInUse_invoking X.frames X.method X.code]
    simp only [State.hasRoom, Bool.and_eq_true, decide_eq_true_eq] at hr ⊢
    obtain ⟨⟨⟨⟨h1, h2, h3, h4, h5, h6⟩, h7⟩, h8⟩, h9⟩ := hr
    rw [X.frames, List.length_cons] at h2 h3
    simp only [hF, hU, List.length_cons, State.stackLimits_setFrames, State.stackBytes_setFrames, hlim, hby]
    refine ⟨⟨⟨⟨by omega, by omega, by omega, by omega, by omega, h6⟩, ?_⟩, ?_⟩, X.book⟩
    · show T.heap.size + R'.cells ≤ e.platform.maxCells
      omega
    · show T.slotsUsed + R'.slots ≤ e.platform.maxSlots
      omega
  · rw [State.stackLimits_setFrames]; rfl
  · rw [State.stackBytes_setFrames]; rfl
  · show T.setVm s.vm = { ((T.setVm s.vm).setFrames (.invoking m args :: below)).setFrames (T.setVm s.vm).frames with heap := T.heap, slotsUsed := T.slotsUsed }
    rw [State.setFrames_setFrames, State.setFrames_self hth]
    rfl
  · show T.slotsUsed = T.slotsUsed + ((T.heap.toList.drop T.heap.size).map (·.slots.size)).sum
    rw [hnil]; rfl
  · show ((T.heap.toList.drop T.heap.size).map (·.slots.size)).sum ≤ 0
    rw [hnil]; exact Nat.le_refl _
/-- where nothing was written, what was there is there -/
theorem mx_kept {U : State} {k n : Nat} (h : s.sameButNew ({ U with vm := s.vm } : State) [] k n) : s.heap.size ≤ U.heap.size ∧ ∀ q : Nat, q < s.heap.size → U.heap[q]? = s.heap[q]? := by
  refine ⟨h.2.1, fun q hq => ?_⟩
  obtain ⟨c9, e1, e2, -, e4⟩ := h.2.2.2.2.2 q _ (Array.getElem?_eq_getElem hq)
  have hs : c9.slots = (s.heap[q]).slots := Array.ext_getElem? fun i => e4 i (fun z => nomatch z)
  rw [hs] at e2
  have e5 : U.heap[q]? = some c9 := e1
  rw [e5, e2, Array.getElem?_eq_getElem hq]
end MXT
section MXU
variable {G : mx_G} {Y : mx_Y} {d bc bs : Nat} {ex : Bool} {N : Nat} {ce : Nat → va_E} {pc : Nat} {l : List (Nat × Value)} {r : List Value} {Q : mx_P}
/-- 'throw new E("text")' -/
theorem mx_throw (hG : mx_ok G) {E tx : String} (names : List String) {ik is ic : Nat} (d0 : decode Y.2.1 pc = .ok (.new ik, 3)) (d3 : decode Y.2.1 (pc + 3) = .ok (.dup, 1)) (d4 : decode Y.2.1 (pc + 4) = .ok (.ldc is, 2)) (d6 : decode Y.2.1 (pc + 6) = .ok (.invokespecial ic, 3)) (d9 : decode Y.2.1 (pc + 9) = .ok (.athrow, 1))
    (hE : Bundle.fit E = true) (hnames : ∀ n ∈ names, Bundle.fit n = true) (hlen : names.length ≤ 2) (hk : Cond.classLink Y.1.cls ik E ∈ lw_tbl) (hini : Cond.initialized E ∈ lw_tbl) (hins : Cond.instantiable E 6 ∈ lw_tbl) (hstr : (Y.1.cls, is, tx) ∈ mx_strs) (hat : mx_thr Y.1.cls ic E names) (hno : mx_free Y (pc + 9)) (hst : (r.map fun v => v.category).sum ≤ 29) (hq : Q (.inr E) N ce bc bs) : mx_M G Y (d + 5) (bc + 1) (bs + 6) false N ce pc l r Q := by
  intro p e R s m args below meth c H locs cells slots ls h T hT X
  have htr : e.platform.stackTraces = false := (show e.platform.stackTraces = G.1.stackTraces by rw [X.admits.platform]).trans hG.1
  have g1 := h.2.2.2.1
  have g2 := h.2.2.2.2.1
  have g3 := h.2.2.2.2.2.1
  have g4 := h.2.2.2.2.2.2.1
  have hC := h.1
  have Y9 := mx_rebase X { frames := R.frames, cells := 1, slots := 6, locals := R.locals } (Nat.le_refl _) (Nat.le_refl _) (by show cells + 1 ≤ R.cells; omega) (by show slots + 6 ≤ R.slots; omega)
  obtain ⟨s', hs'⟩ : ∃ z, z = (T.setVm s.vm).setFrames (.invoking m args :: below) := ⟨_, rfl⟩
  rw [← hs'] at Y9
  have hvm : s'.vm = s.vm := by rw [hs']; rfl
  have hhp : s'.heap = H := by rw [hs']; exact hT
  have hW0 : s.WarmedH s'.vm := by rw [hvm]; exact State.WarmedH.refl s
  have hws : mx_Ws args s' := hC.2.2.2.2.2.2.1.at hW0
  have hal : G.2.1.vm.Alike s'.vm := by rw [hvm]; exact hC.2.2.2.2.2.2.2.1
  have hold : ∀ q : Nat, q < mx_B G → s'.heap[q]? = G.2.1.heap[q]? := fun q hq => by rw [hhp]; exact h.2.1.2.2.1 q hq (Nat.not_le.mpr hq)
  have hU := hG.2.2.1.go hal hold
  have hN := hG.2.2.2.go hal hold
  have hown : s'.vm.findClass Y.1.cls = some m.cls := by rw [hvm]; exact hC.2.2.2.2.2.1
  have hwords : ∀ w ∈ Bundle.ownAtoms Y.1.cls ic E names, w.before args s' = true := by
    intro w hw
    have h9 := List.all_eq_true.mp hat w hw
    simp only [Bool.or_eq_true, Bool.and_eq_true, decide_eq_true_eq] at h9
    rcases h9 with h9 | h9
    · simp only [mx_four, List.mem_cons, List.not_mem_nil, or_false] at h9
      rcases h9 with rfl | rfl | rfl | rfl
      · exact hU.isRef
      · exact hN.isRef
      · exact hU.lays
      · exact hN.lays
    · exact hws.1 w h9.1 h9.2
  obtain ⟨sa, hsa⟩ := hws.2 _ hstr
  have hout : ∀ x ∈ c.exceptionTable.toList, covers x (pc + 9) = false := by
    intro x hx
    have hm : (x.startPc, x.endPc, x.handlerPc, x.catchType) ∈ Y.2.2.2.2 := by
      rw [← hC.2.2.2.2.2.2.2.2.2]
      exact List.mem_map.mpr ⟨x, hx, rfl⟩
    have h9 := List.all_eq_true.mp hno _ hm
    simp only [Bool.not_eq_true', Bool.and_eq_false_iff, decide_eq_false_iff_not] at h9
    simp only [covers, Bool.and_eq_false_iff, decide_eq_false_iff_not]
    exact h9
  have hsize : ls.size = c.maxLocals := by rw [hC.2.2.1]; exact h.2.2.2.2.2.2.2.1
  have K : W p G.1 e { frames := R.frames, cells := 1, slots := 6, locals := R.locals } s' m args below meth c H [] 0 0 (fun U => ∃ c0 : Cell, U.status = .running ∧ Ended U below (.threw H.size) ∧ s'.WarmedH U.vm ∧ s'.sameButNew ({ U with vm := s'.vm } : State) [] 1 6 ∧ U.heap[H.size]? = some c0 ∧ c0.vm = .none ∧ s'.vm.findClass E = some c0.cls) (F0 m pc ls r) := by
    refine W.newc hC.1 hC.2.1 hown (hws.1 _ hk rfl) (hws.1 _ hins rfl) (hws.1 _ hini rfl) rfl d0 (by show 0 + 1 ≤ 1; omega) (by show 0 + 6 ≤ 6; omega) fun cC kC h1 h2 h3 h4 => ?_
    refine lv_dup hC.1 hC.2.1 d3 rfl ?_
    refine va_ldcS hC.1 hC.2.1 hown hsa d4 ?_
    intro T9 hT9 X9
    have hcat : (Value.ref H.size).category = 1 := rfl
    obtain ⟨U, hsteps, hrun, hend, hW, hsame, c0, hce, hO⟩ := X9.ctorThrowS hC.1 htr (own := Y.1.cls) (cls := E) (names := names) (ic := ic) hown hE hnames hwords (fun x hx => nomatch hx) h1 h2 (a := H.size) (by rw [hT9]; exact Array.getElem?_push_size) (by rw [hhp]; exact Nat.le_refl _) (msg := .ref sa) rfl
      (g := F0 m (pc + 6) ls (.ref sa :: .ref H.size :: .ref H.size :: r)) rfl hsize rfl rfl (rest := r) rfl (by rw [hC.2.1]; exact d6) (by rw [hC.2.1]; exact d9) hout (by show names.length + 3 < R.frames; omega)
      (by show 2 * 0 + _ + _ ≤ R.locals; simp only [List.map_cons, List.sum_cons, hcat]; omega) hC.2.2.2.2.1
    exact ⟨U, hsteps, c0, hrun, hend, hW, hsame, hce, hO.vm, hO.cls⟩
  obtain ⟨U, hsteps, c0, hrun, hend, hW, hsame, hce, hv0, hcl⟩ := K T hT Y9
  obtain ⟨k1, k2⟩ := mx_kept hsame
  rw [hhp] at k1 k2
  have hall : s.sameButNew ({ U with vm := s.vm } : State) locs (cells + 1) (slots + 6) := by
    rw [hs'] at hsame
    obtain ⟨e1, e2⟩ := hsame
    rw [State.setFrames_setFrames] at e1
    have h2 : (T.setVm s.vm).sameButNew ({ U with vm := s.vm } : State) [] 1 6 := ⟨e1, e2⟩
    have h3 := X.same.trans h2
    rw [List.append_nil] at h3
    exact h3
  refine ⟨U, hsteps, _, locs, cells + 1, slots + 6, N, ce, bc, bs, hrun, hend, State.WarmedH.trans hW0 hW, hall, ⟨h.2.1.1.kept (fun k q hk => k2 q.1 (h.2.1.1 k q hk).lt), Nat.le_trans h.2.1.2.1 k1, fun q q1 q2 => ?_, h.2.1.2.2.2⟩, by omega, by omega, Or.inr ⟨H.size, E, c0, rfl, hce, hv0, ?_, hq⟩⟩
  · rw [k2 q (Nat.lt_of_lt_of_le q1 h.2.1.2.1)]
    exact h.2.1.2.2.1 q q1 q2
  · rw [← hal.findClass]; exact hcl
end MXU
