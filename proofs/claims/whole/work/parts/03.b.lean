/-! words about the JDK's own codes; the texts of throws -/
theorem w_objcode : Cond.code Lib.objectInit ⟨#[0xb1]⟩ 1 none ∈ lw_tbl := by decide +kernel
theorem w_mmaxcode : Cond.code Lib.Math.max.name Lib.Math.max.code 2 (some .int) ∈ lw_tbl := by decide +kernel
theorem w_mmincode : Cond.code Lib.Math.min.name Lib.Math.min.code 2 (some .int) ∈ lw_tbl := by decide +kernel
theorem th_102 : mx_thr "CurveSums" 102 "java/lang/IndexOutOfBoundsException" ["java/lang/RuntimeException", "java/lang/Exception"] := by unfold mx_thr; decide +kernel
theorem th_107 : mx_thr "CurveSums" 107 "java/lang/IllegalArgumentException" ["java/lang/RuntimeException", "java/lang/Exception"] := by unfold mx_thr; decide +kernel
theorem th_91 : mx_thr "CurveSums" 91 "java/lang/IllegalStateException" ["java/lang/RuntimeException", "java/lang/Exception"] := by unfold mx_thr; decide +kernel
section MXL
variable {G : mx_G} {Y : mx_Y} {d bc bs : Nat} {ex : Bool} {N : Nat} {ce : Nat → va_E} {pc : Nat} {l : List (Nat × Value)} {r : List Value} {Q : mx_P}
theorem mx_ldcI {idx : Nat} {v : Int32} {z : Int} (hd : decode Y.2.1 pc = .ok (.ldc idx, 2)) (hw : Cond.constant Y.1.cls idx v ∈ lw_tbl) (hv : v = iI z) (k : mx_M G Y d bc bs ex N ce (pc + 2) l (.int (iI z) :: r) Q) : mx_M G Y d bc bs ex N ce pc l r Q := by
  intro p e R s m args below meth c H locs cells slots ls h
  subst hv
  exact lv_ldc h.1.1 h.1.2.1 h.1.2.2.2.2.2.1 (mx_wd h.1 hw rfl) hd (k p e R s m args below meth c H locs cells slots ls h)
theorem mx_bud {bc' bs' : Nat} {st : List Value} (h1 : bc ≤ bc') (h2 : bs ≤ bs') (k : mx_M G Y d bc bs ex N ce pc l st Q) : mx_M G Y d bc' bs' ex N ce pc l st Q := by
  intro p e R s m args below meth c H locs cells slots ls h
  have g1 := h.2.2.2.1
  have g2 := h.2.2.2.2.1
  exact k p e R s m args below meth c H locs cells slots ls ⟨h.1, h.2.1, h.2.2.1, by omega, by omega, h.2.2.2.2.2⟩
theorem mx_ce {ce' : Nat → va_E} {st : List Value} (e : ce = ce') (k : mx_M G Y d bc bs ex N ce' pc l st Q) : mx_M G Y d bc bs ex N ce pc l st Q := e ▸ k
end MXL
