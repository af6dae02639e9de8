/-! the start: what the claim gives of the machine -/
theorem st_K {s : State} {args : Array Value} (hts : ∀ w ∈ lw_tbl, w.before args s = true) : ∃ (D : va_G) (tc : Nat → ClassId), va_K D classes (mx_tys tc) s := by
  have hcl : ∀ c : Nat, ∃ p : ClassId × (Nat → Nat), ∀ q : vw_C, classes[c]? = some q → u_Kn s q.1 q.2.1 q.2.2 p.1 p.2 := by
    intro c
    match c with
    | 0 =>
      obtain ⟨a, b, h⟩ := u_known hts cls_C.1 (hts _ w_18)
      exact ⟨(a, b), fun q hq => by
        have e : ("CurveSums", F_C, 13) = q := Option.some.inj hq
        subst e; exact h⟩
    | 1 =>
      obtain ⟨a, b, h⟩ := u_known hts cls_E.1 (hts _ w_34)
      exact ⟨(a, b), fun q hq => by
        have e : ("CurveSums$Edition", F_E, 3) = q := Option.some.inj hq
        subst e; exact h⟩
    | 2 =>
      obtain ⟨a, b, h⟩ := u_known hts cls_D.1 (hts _ w_55)
      exact ⟨(a, b), fun q hq => by
        have e : ("CurveSums$Dating", F_D, 3) = q := Option.some.inj hq
        subst e; exact h⟩
    | 3 =>
      obtain ⟨a, b, h⟩ := u_known hts cls_L.1 (hts _ w_75)
      exact ⟨(a, b), fun q hq => by
        have e : ("CurveSums$LeastSet", F_L, 4) = q := Option.some.inj hq
        subst e; exact h⟩
    | 4 =>
      obtain ⟨a, b, h⟩ := u_known hts cls_R.1 (hts _ w_98)
      exact ⟨(a, b), fun q hq => by
        have e : ("CurveSums$DateRow", F_R, 3) = q := Option.some.inj hq
        subst e; exact h⟩
    | 5 =>
      obtain ⟨a, b, h⟩ := u_known hts cls_P.1 (hts _ w_115)
      exact ⟨(a, b), fun q hq => by
        have e : ("CurveSums$Pad", F_P, 2) = q := Option.some.inj hq
        subst e; exact h⟩
    | 6 =>
      obtain ⟨a, b, h⟩ := u_known hts cls_T.1 (hts _ w_131)
      exact ⟨(a, b), fun q hq => by
        have e : ("CurveSums$TextReader", F_T, 4) = q := Option.some.inj hq
        subst e; exact h⟩
    | 7 =>
      obtain ⟨a, b, h⟩ := u_known hts cls_M.1 (hts _ w_575)
      exact ⟨(a, b), fun q hq => by
        have e : ("CurveSumsModel", F_M, 23) = q := Option.some.inj hq
        subst e; exact h⟩
    | n + 8 => exact ⟨(0, fun _ => 0), fun q hq => by simp [classes] at hq⟩
  have hf := fun c => Classical.choose_spec (hcl c)
  obtain ⟨c0, k0, m0, a0, b0, d0⟩ := Cond.arrayClass_spec (hts _ w_52)
  obtain ⟨c1, k1, m1, a1, b1, d1⟩ := Cond.arrayClass_spec (hts _ w_96)
  obtain ⟨c2, k2, m2, a2, b2, d2⟩ := Cond.arrayClass_spec (hts _ w_793)
  obtain ⟨m3, c3, k3, g3, -, b3, d3, a3⟩ := Cond.arrayOver_spec (hts _ w_33)
  obtain ⟨m4, c4, k4, g4, -, b4, d4, a4⟩ := Cond.arrayOver_spec (hts _ w_54)
  refine ⟨(fun c => (Classical.choose (hcl c)).1, fun c => (Classical.choose (hcl c)).2), fun k => match k with | 0 => c0 | 1 => c1 | 2 => c2 | 3 => c3 | _ => c4, fun c q hq => hf c q hq, fun k q hk => ?_⟩
  match k with
  | 0 => 
    have e : (c0, FieldType.int) = q := Option.some.inj hk
    subst e; exact ⟨fun N z => ⟨(fun k h => by cases h), k0, b0, m0, d0⟩, a0⟩
  | 1 =>
    have e : (c1, FieldType.boolean) = q := Option.some.inj hk
    subst e; exact ⟨fun N z => ⟨(fun k h => by cases h), k1, b1, m1, d1⟩, a1⟩
  | 2 =>
    have e : (c2, FieldType.long) = q := Option.some.inj hk
    subst e; exact ⟨fun N z => ⟨(fun k h => by cases h), k2, b2, m2, d2⟩, a2⟩
  | 3 =>
    have e : (c3, FieldType.object "CurveSums$Edition") = q := Option.some.inj hk
    subst e; exact ⟨fun N z => ⟨(fun k h => by cases h), k3, b3, m3, d3⟩, k3, m3, b3, d3, g3, a3⟩
  | 4 =>
    have e : (c4, FieldType.object "CurveSums$Dating") = q := Option.some.inj hk
    subst e; exact ⟨fun N z => ⟨(fun k h => by cases h), k4, b4, m4, d4⟩, k4, m4, b4, d4, g4, a4⟩
  | n + 5 => simp [mx_tys] at hk
set_option maxRecDepth 100000 in
theorem st_N {s : State} {args : Array Value} (h : (Jvm.Cond.and given_1 narrow_1).before args s = true) : ∀ q ∈ mx_ncs, va_Nc q.1 q.2 s := by
  have hs := flat_of_before _ h
  have hm : ∀ q ∈ mx_ncs, Cond.not (.castable q.1 q.2) ∈ flatC (Jvm.Cond.and given_1 narrow_1) := by decide +kernel
  exact fun q hq => va_Nc.of (hs _ (hm q hq))
set_option maxRecDepth 100000 in
theorem st_S {s : State} {args : Array Value} (hts : ∀ w ∈ lw_tbl, w.before args s = true) (h : (Jvm.Cond.and given_1 narrow_1).before args s = true) : ∀ q ∈ mx_strs, ∃ a, vk_R q.1 q.2.1 q.2.2 a s := by
  have hs := flat_of_before _ h
  have hm : ∀ q ∈ mx_strs, Cond.exactly (.string q.1 q.2.1) "java/lang/String" ∈ flatC (Jvm.Cond.and given_1 narrow_1) := by decide +kernel
  have hw : ∀ q ∈ mx_strs, Cond.stringRef q.1 q.2.1 q.2.2 ∈ lw_tbl := by decide +kernel
  intro q hq
  obtain ⟨a, -, -, -, ha, -⟩ := Cond.exactly_spec (hs _ (hm q hq))
  exact ⟨a, vk_R.of (hts _ (hw q hq)) ha⟩
set_option maxRecDepth 100000 in
theorem st_T {s : State} {args : Array Value} (hts : ∀ w ∈ lw_tbl, w.before args s = true) (h : (Jvm.Cond.and given_1 narrow_1).before args s = true) : mx_Sl Bundle.tN "UNASSIGNED_STACK" Bundle.steD s.heap.size s s.heap ∧ mx_Sl Bundle.tN "SUPPRESSED_SENTINEL" Bundle.listD s.heap.size s s.heap := by
  have hs := flat_of_before _ h
  exact ⟨mx_Sl_of (hts (.laysStatic Bundle.tN "UNASSIGNED_STACK" Bundle.steD) (by decide +kernel)) (hs (.isRef (.static Bundle.tN "UNASSIGNED_STACK" Bundle.steD)) (by decide +kernel)), mx_Sl_of (hts (.laysStatic Bundle.tN "SUPPRESSED_SENTINEL" Bundle.listD) (by decide +kernel)) (hs (.isRef (.static Bundle.tN "SUPPRESSED_SENTINEL" Bundle.listD)) (by decide +kernel))⟩
