section
-- ===== PART A: goes FIRST, ahead of the names: the tables' words, and 'selects' of the private methods out of them =====
/-- a private method of a class that the tables say can be made, by its rows of tables_1 -/
def lw_okq (q : MethodName × Nat) : Prop := (q.1.cls ≠ "java/lang/invoke/MethodHandle" ∧ q.1.cls ≠ "java/lang/invoke/VarHandle") ∧ Cond.instantiable q.1.cls q.2 ∈ tables_1 ∧ Cond.privateMethod q.1 ∈ tables_1 ∧ Cond.instanceMethod q.1 ∈ tables_1
theorem lw_p0 : lw_okq (⟨"CurveSums$TextReader", "takes", "(I)Z"⟩, 4) := ⟨⟨by decide +kernel, by decide +kernel⟩, List.mem_of_getElem? (i := 131) (by decide +kernel), List.mem_of_getElem? (i := 210) (by decide +kernel), List.mem_of_getElem? (i := 211) (by decide +kernel)⟩
theorem lw_p1 : lw_okq (⟨"CurveSums$TextReader", "takesDigit", "(I)Z"⟩, 4) := ⟨⟨by decide +kernel, by decide +kernel⟩, List.mem_of_getElem? (i := 131) (by decide +kernel), List.mem_of_getElem? (i := 214) (by decide +kernel), List.mem_of_getElem? (i := 215) (by decide +kernel)⟩
theorem lw_p2 : lw_okq (⟨"CurveSums$TextReader", "isWithinBounds", "(II)Z"⟩, 4) := ⟨⟨by decide +kernel, by decide +kernel⟩, List.mem_of_getElem? (i := 131) (by decide +kernel), List.mem_of_getElem? (i := 218) (by decide +kernel), List.mem_of_getElem? (i := 219) (by decide +kernel)⟩
theorem lw_p3 : lw_okq (⟨"CurveSums", "needYear", "(I)V"⟩, 13) := ⟨⟨by decide +kernel, by decide +kernel⟩, List.mem_of_getElem? (i := 18) (by decide +kernel), List.mem_of_getElem? (i := 257) (by decide +kernel), List.mem_of_getElem? (i := 258) (by decide +kernel)⟩
theorem lw_p4 : lw_okq (⟨"java/lang/Throwable", "fillInStackTrace", "(I)Ljava/lang/Throwable;"⟩, 6) := ⟨⟨by decide +kernel, by decide +kernel⟩, List.mem_of_getElem? (i := 299) (by decide +kernel), List.mem_of_getElem? (i := 297) (by decide +kernel), List.mem_of_getElem? (i := 298) (by decide +kernel)⟩
theorem lw_p5 : lw_okq (⟨"CurveSums", "needRoomForDate", "()V"⟩, 13) := ⟨⟨by decide +kernel, by decide +kernel⟩, List.mem_of_getElem? (i := 18) (by decide +kernel), List.mem_of_getElem? (i := 404) (by decide +kernel), List.mem_of_getElem? (i := 405) (by decide +kernel)⟩
theorem lw_p6 : lw_okq (⟨"CurveSums", "tellMeasured", "(II)I"⟩, 13) := ⟨⟨by decide +kernel, by decide +kernel⟩, List.mem_of_getElem? (i := 18) (by decide +kernel), List.mem_of_getElem? (i := 409) (by decide +kernel), List.mem_of_getElem? (i := 410) (by decide +kernel)⟩
theorem lw_p7 : lw_okq (⟨"CurveSums", "weightBy", "(LCurveSums$Edition;III)I"⟩, 13) := ⟨⟨by decide +kernel, by decide +kernel⟩, List.mem_of_getElem? (i := 18) (by decide +kernel), List.mem_of_getElem? (i := 413) (by decide +kernel), List.mem_of_getElem? (i := 414) (by decide +kernel)⟩
theorem lw_p8 : lw_okq (⟨"CurveSums", "countTold", "()I"⟩, 13) := ⟨⟨by decide +kernel, by decide +kernel⟩, List.mem_of_getElem? (i := 18) (by decide +kernel), List.mem_of_getElem? (i := 418) (by decide +kernel), List.mem_of_getElem? (i := 419) (by decide +kernel)⟩
theorem lw_p9 : lw_okq (⟨"CurveSums", "needDate", "(I)V"⟩, 13) := ⟨⟨by decide +kernel, by decide +kernel⟩, List.mem_of_getElem? (i := 18) (by decide +kernel), List.mem_of_getElem? (i := 429) (by decide +kernel), List.mem_of_getElem? (i := 430) (by decide +kernel)⟩
theorem lw_p10 : lw_okq (⟨"CurveSums$LeastSet", "heaviestLeft", "(LCurveSums$Dating;)I"⟩, 4) := ⟨⟨by decide +kernel, by decide +kernel⟩, List.mem_of_getElem? (i := 75) (by decide +kernel), List.mem_of_getElem? (i := 504) (by decide +kernel), List.mem_of_getElem? (i := 505) (by decide +kernel)⟩
theorem lw_p11 : lw_okq (⟨"CurveSums$LeastSet", "findSpans", "()V"⟩, 4) := ⟨⟨by decide +kernel, by decide +kernel⟩, List.mem_of_getElem? (i := 75) (by decide +kernel), List.mem_of_getElem? (i := 508) (by decide +kernel), List.mem_of_getElem? (i := 509) (by decide +kernel)⟩
theorem lw_p12 : lw_okq (⟨"CurveSums$LeastSet", "holdsYear", "(I)Z"⟩, 4) := ⟨⟨by decide +kernel, by decide +kernel⟩, List.mem_of_getElem? (i := 75) (by decide +kernel), List.mem_of_getElem? (i := 512) (by decide +kernel), List.mem_of_getElem? (i := 513) (by decide +kernel)⟩
theorem lw_p13 : lw_okq (⟨"CurveSumsModel", "isYear", "(I)Z"⟩, 23) := ⟨⟨by decide +kernel, by decide +kernel⟩, List.mem_of_getElem? (i := 575) (by decide +kernel), List.mem_of_getElem? (i := 660) (by decide +kernel), List.mem_of_getElem? (i := 661) (by decide +kernel)⟩
theorem lw_p14 : lw_okq (⟨"CurveSumsModel", "goes", "(ZZZ)Z"⟩, 23) := ⟨⟨by decide +kernel, by decide +kernel⟩, List.mem_of_getElem? (i := 575) (by decide +kernel), List.mem_of_getElem? (i := 667) (by decide +kernel), List.mem_of_getElem? (i := 668) (by decide +kernel)⟩
theorem lw_p15 : lw_okq (⟨"CurveSumsModel", "put", "(III)Z"⟩, 23) := ⟨⟨by decide +kernel, by decide +kernel⟩, List.mem_of_getElem? (i := 575) (by decide +kernel), List.mem_of_getElem? (i := 671) (by decide +kernel), List.mem_of_getElem? (i := 672) (by decide +kernel)⟩
def lw_privs_1 : List (MethodName × Nat) := [(⟨"CurveSums$TextReader", "takes", "(I)Z"⟩, 4), (⟨"CurveSums$TextReader", "takesDigit", "(I)Z"⟩, 4), (⟨"CurveSums$TextReader", "isWithinBounds", "(II)Z"⟩, 4), (⟨"CurveSums", "needYear", "(I)V"⟩, 13), (⟨"java/lang/Throwable", "fillInStackTrace", "(I)Ljava/lang/Throwable;"⟩, 6), (⟨"CurveSums", "needRoomForDate", "()V"⟩, 13), (⟨"CurveSums", "tellMeasured", "(II)I"⟩, 13), (⟨"CurveSums", "weightBy", "(LCurveSums$Edition;III)I"⟩, 13), (⟨"CurveSums", "countTold", "()I"⟩, 13), (⟨"CurveSums", "needDate", "(I)V"⟩, 13), (⟨"CurveSums$LeastSet", "heaviestLeft", "(LCurveSums$Dating;)I"⟩, 4), (⟨"CurveSums$LeastSet", "findSpans", "()V"⟩, 4), (⟨"CurveSums$LeastSet", "holdsYear", "(I)Z"⟩, 4), (⟨"CurveSumsModel", "isYear", "(I)Z"⟩, 23), (⟨"CurveSumsModel", "goes", "(ZZZ)Z"⟩, 23), (⟨"CurveSumsModel", "put", "(III)Z"⟩, 23)]
theorem lw_r1 : ∀ q ∈ lw_privs_1, lw_okq q := List.forall_mem_cons.mpr ⟨lw_p0, List.forall_mem_cons.mpr ⟨lw_p1, List.forall_mem_cons.mpr ⟨lw_p2, List.forall_mem_cons.mpr ⟨lw_p3, List.forall_mem_cons.mpr ⟨lw_p4, List.forall_mem_cons.mpr ⟨lw_p5, List.forall_mem_cons.mpr ⟨lw_p6, List.forall_mem_cons.mpr ⟨lw_p7, List.forall_mem_cons.mpr ⟨lw_p8, List.forall_mem_cons.mpr ⟨lw_p9, List.forall_mem_cons.mpr ⟨lw_p10, List.forall_mem_cons.mpr ⟨lw_p11, List.forall_mem_cons.mpr ⟨lw_p12, List.forall_mem_cons.mpr ⟨lw_p13, List.forall_mem_cons.mpr ⟨lw_p14, List.forall_mem_cons.mpr ⟨lw_p15, fun _ h => absurd h List.not_mem_nil⟩⟩⟩⟩⟩⟩⟩⟩⟩⟩⟩⟩⟩⟩⟩⟩
theorem lw_p16 : lw_okq (⟨"CurveSumsModel", "measure", "(II)I"⟩, 23) := ⟨⟨by decide +kernel, by decide +kernel⟩, List.mem_of_getElem? (i := 575) (by decide +kernel), List.mem_of_getElem? (i := 691) (by decide +kernel), List.mem_of_getElem? (i := 692) (by decide +kernel)⟩
theorem lw_p17 : lw_okq (⟨"CurveSumsModel", "weigh", "(III)I"⟩, 23) := ⟨⟨by decide +kernel, by decide +kernel⟩, List.mem_of_getElem? (i := 575) (by decide +kernel), List.mem_of_getElem? (i := 695) (by decide +kernel), List.mem_of_getElem? (i := 696) (by decide +kernel)⟩
theorem lw_p18 : lw_okq (⟨"CurveSumsModel", "isDate", "(I)Z"⟩, 23) := ⟨⟨by decide +kernel, by decide +kernel⟩, List.mem_of_getElem? (i := 575) (by decide +kernel), List.mem_of_getElem? (i := 703) (by decide +kernel), List.mem_of_getElem? (i := 704) (by decide +kernel)⟩
theorem lw_p19 : lw_okq (⟨"CurveSumsModel", "totalOf", "(I)I"⟩, 23) := ⟨⟨by decide +kernel, by decide +kernel⟩, List.mem_of_getElem? (i := 575) (by decide +kernel), List.mem_of_getElem? (i := 711) (by decide +kernel), List.mem_of_getElem? (i := 712) (by decide +kernel)⟩
theorem lw_p20 : lw_okq (⟨"CurveSumsModel", "isNeeded", "(IIII)Z"⟩, 23) := ⟨⟨by decide +kernel, by decide +kernel⟩, List.mem_of_getElem? (i := 575) (by decide +kernel), List.mem_of_getElem? (i := 732) (by decide +kernel), List.mem_of_getElem? (i := 733) (by decide +kernel)⟩
theorem lw_p21 : lw_okq (⟨"CurveSumsModel", "spans", "()I"⟩, 23) := ⟨⟨by decide +kernel, by decide +kernel⟩, List.mem_of_getElem? (i := 575) (by decide +kernel), List.mem_of_getElem? (i := 736) (by decide +kernel), List.mem_of_getElem? (i := 737) (by decide +kernel)⟩
theorem lw_p22 : lw_okq (⟨"CurveSumsModel", "begins", "(I)Z"⟩, 23) := ⟨⟨by decide +kernel, by decide +kernel⟩, List.mem_of_getElem? (i := 575) (by decide +kernel), List.mem_of_getElem? (i := 740) (by decide +kernel), List.mem_of_getElem? (i := 741) (by decide +kernel)⟩
theorem lw_p23 : lw_okq (⟨"CurveSumsModel", "slidTo", "(I)I"⟩, 23) := ⟨⟨by decide +kernel, by decide +kernel⟩, List.mem_of_getElem? (i := 575) (by decide +kernel), List.mem_of_getElem? (i := 756) (by decide +kernel), List.mem_of_getElem? (i := 757) (by decide +kernel)⟩
theorem lw_p24 : lw_okq (⟨"CurveSumsModel", "push", "(I)V"⟩, 23) := ⟨⟨by decide +kernel, by decide +kernel⟩, List.mem_of_getElem? (i := 575) (by decide +kernel), List.mem_of_getElem? (i := 778) (by decide +kernel), List.mem_of_getElem? (i := 779) (by decide +kernel)⟩
theorem lw_p25 : lw_okq (⟨"CurveSumsModel", "fault", "()I"⟩, 23) := ⟨⟨by decide +kernel, by decide +kernel⟩, List.mem_of_getElem? (i := 575) (by decide +kernel), List.mem_of_getElem? (i := 786) (by decide +kernel), List.mem_of_getElem? (i := 787) (by decide +kernel)⟩
def lw_privs_2 : List (MethodName × Nat) := [(⟨"CurveSumsModel", "measure", "(II)I"⟩, 23), (⟨"CurveSumsModel", "weigh", "(III)I"⟩, 23), (⟨"CurveSumsModel", "isDate", "(I)Z"⟩, 23), (⟨"CurveSumsModel", "totalOf", "(I)I"⟩, 23), (⟨"CurveSumsModel", "isNeeded", "(IIII)Z"⟩, 23), (⟨"CurveSumsModel", "spans", "()I"⟩, 23), (⟨"CurveSumsModel", "begins", "(I)Z"⟩, 23), (⟨"CurveSumsModel", "slidTo", "(I)I"⟩, 23), (⟨"CurveSumsModel", "push", "(I)V"⟩, 23), (⟨"CurveSumsModel", "fault", "()I"⟩, 23)]
theorem lw_r2 : ∀ q ∈ lw_privs_2, lw_okq q := List.forall_mem_cons.mpr ⟨lw_p16, List.forall_mem_cons.mpr ⟨lw_p17, List.forall_mem_cons.mpr ⟨lw_p18, List.forall_mem_cons.mpr ⟨lw_p19, List.forall_mem_cons.mpr ⟨lw_p20, List.forall_mem_cons.mpr ⟨lw_p21, List.forall_mem_cons.mpr ⟨lw_p22, List.forall_mem_cons.mpr ⟨lw_p23, List.forall_mem_cons.mpr ⟨lw_p24, List.forall_mem_cons.mpr ⟨lw_p25, fun _ h => absurd h List.not_mem_nil⟩⟩⟩⟩⟩⟩⟩⟩⟩⟩
def lw_privs : List (MethodName × Nat) := lw_privs_1 ++ (lw_privs_2)
def lw_tbl : List Cond := k2_sels lw_privs ++ tables_1
theorem lw_privs_ok : ∀ q ∈ lw_privs, lw_okq q := by
  show ∀ q ∈ lw_privs_1 ++ (lw_privs_2), lw_okq q
  exact List.forall_mem_append.mpr ⟨lw_r1, lw_r2⟩
end
section
-- names: classes, their fields in the order of the slots, their types; methods; decode rows (by names.py)
def F_C : u_T := fun k => match k with
  | 0 => ("CurveSums", "yearCount", "I", true)
  | 1 => ("CurveSums", "weightUnit", "I", true)
  | 2 => ("CurveSums", "editions", "[LCurveSums$Edition;", true)
  | 3 => ("CurveSums", "dates", "[LCurveSums$Dating;", true)
  | 4 => ("CurveSums", "leastSet", "LCurveSums$LeastSet;", true)
  | 5 => ("CurveSums", "dateRow", "LCurveSums$DateRow;", true)
  | 6 => ("CurveSums", "pad", "LCurveSums$Pad;", true)
  | 7 => ("CurveSums", "reader", "LCurveSums$TextReader;", true)
  | 8 => ("CurveSums", "editionCount", "I", false)
  | 9 => ("CurveSums", "editionInUse", "I", false)
  | 10 => ("CurveSums", "dateCount", "I", false)
  | 11 => ("CurveSums", "reservoirAge", "I", false)
  | _ => ("CurveSums", "reservoirSpread", "I", false)
def ft_C : Nat → FieldType := fun k => match k with
  | 0 => .int
  | 1 => .int
  | 2 => .array (.object "CurveSums$Edition")
  | 3 => .array (.object "CurveSums$Dating")
  | 4 => .object "CurveSums$LeastSet"
  | 5 => .object "CurveSums$DateRow"
  | 6 => .object "CurveSums$Pad"
  | 7 => .object "CurveSums$TextReader"
  | 8 => .int
  | 9 => .int
  | 10 => .int
  | 11 => .int
  | _ => .int
def F_E : u_T := fun k => match k with
  | 0 => ("CurveSums$Edition", "ages", "[I", true)
  | 1 => ("CurveSums$Edition", "spreads", "[I", true)
  | _ => ("CurveSums$Edition", "rowCount", "I", false)
def ft_E : Nat → FieldType := fun k => match k with
  | 0 => .array .int
  | 1 => .array .int
  | _ => .int
def F_D : u_T := fun k => match k with
  | 0 => ("CurveSums$Dating", "weights", "[I", true)
  | 1 => ("CurveSums$Dating", "age", "I", false)
  | _ => ("CurveSums$Dating", "spread", "I", false)
def ft_D : Nat → FieldType := fun k => match k with
  | 0 => .array .int
  | 1 => .int
  | _ => .int
def F_L : u_T := fun k => match k with
  | 0 => ("CurveSums$LeastSet", "chosen", "[Z", true)
  | 1 => ("CurveSums$LeastSet", "firsts", "[I", true)
  | 2 => ("CurveSums$LeastSet", "lasts", "[I", true)
  | _ => ("CurveSums$LeastSet", "spanCount", "I", false)
def ft_L : Nat → FieldType := fun k => match k with
  | 0 => .array .boolean
  | 1 => .array .int
  | 2 => .array .int
  | _ => .int
def F_R : u_T := fun k => match k with
  | 0 => ("CurveSums$DateRow", "numbers", "[I", true)
  | 1 => ("CurveSums$DateRow", "gaps", "[I", true)
  | _ => ("CurveSums$DateRow", "size", "I", false)
def ft_R : Nat → FieldType := fun k => match k with
  | 0 => .array .int
  | 1 => .array .int
  | _ => .int
def F_P : u_T := fun k => match k with
  | 0 => ("CurveSums$Pad", "signs", "[I", true)
  | _ => ("CurveSums$Pad", "size", "I", false)
def ft_P : Nat → FieldType := fun k => match k with
  | 0 => .array .int
  | _ => .int
def F_T : u_T := fun k => match k with
  | 0 => ("CurveSums$TextReader", "years", "I", true)
  | 1 => ("CurveSums$TextReader", "numbers", "[I", true)
  | 2 => ("CurveSums$TextReader", "current", "I", false)
  | _ => ("CurveSums$TextReader", "begun", "Z", false)
def ft_T : Nat → FieldType := fun k => match k with
  | 0 => .int
  | 1 => .array .int
  | 2 => .int
  | _ => .boolean
def F_M : u_T := fun k => match k with
  | 0 => ("CurveSumsModel", "thrown", "I", false)
  | 1 => ("CurveSumsModel", "years", "I", true)
  | 2 => ("CurveSumsModel", "scale", "I", true)
  | 3 => ("CurveSumsModel", "editions", "I", false)
  | 4 => ("CurveSumsModel", "used", "I", false)
  | 5 => ("CurveSumsModel", "ages", "[I", true)
  | 6 => ("CurveSumsModel", "spreads", "[I", true)
  | 7 => ("CurveSumsModel", "reservoirAge", "I", false)
  | 8 => ("CurveSumsModel", "reservoirSpread", "I", false)
  | 9 => ("CurveSumsModel", "dates", "I", false)
  | 10 => ("CurveSumsModel", "weights", "[I", true)
  | 11 => ("CurveSumsModel", "dateAges", "[I", true)
  | 12 => ("CurveSumsModel", "dateSpreads", "[I", true)
  | 13 => ("CurveSumsModel", "chosen", "[Z", true)
  | 14 => ("CurveSumsModel", "many", "I", false)
  | 15 => ("CurveSumsModel", "lined", "[I", true)
  | 16 => ("CurveSumsModel", "gaps", "[I", true)
  | 17 => ("CurveSumsModel", "padded", "I", false)
  | 18 => ("CurveSumsModel", "pad", "[I", true)
  | 19 => ("CurveSumsModel", "textYears", "[I", true)
  | 20 => ("CurveSumsModel", "textAges", "[I", true)
  | 21 => ("CurveSumsModel", "textSpreads", "[I", true)
  | _ => ("CurveSumsModel", "rows", "I", false)
def ft_M : Nat → FieldType := fun k => match k with
  | 0 => .int
  | 1 => .int
  | 2 => .int
  | 3 => .int
  | 4 => .int
  | 5 => .array .int
  | 6 => .array .int
  | 7 => .int
  | 8 => .int
  | 9 => .int
  | 10 => .array .int
  | 11 => .array .int
  | 12 => .array .int
  | 13 => .array .boolean
  | 14 => .int
  | 15 => .array .int
  | 16 => .array .int
  | 17 => .int
  | 18 => .array .int
  | 19 => .array .int
  | 20 => .array .int
  | 21 => .array .int
  | _ => .int
abbrev classes : List vw_C := [("CurveSums", F_C, 13), ("CurveSums$Edition", F_E, 3), ("CurveSums$Dating", F_D, 3), ("CurveSums$LeastSet", F_L, 4), ("CurveSums$DateRow", F_R, 3), ("CurveSums$Pad", F_P, 2), ("CurveSums$TextReader", F_T, 4), ("CurveSumsModel", F_M, 23)]
def mx_tys (tc : Nat → ClassId) : List (ClassId × FieldType) := [(tc 0, .int), (tc 1, .boolean), (tc 2, .long), (tc 3, .object "CurveSums$Edition"), (tc 4, .object "CurveSums$Dating")]
def mx_strs : List (String × Nat × String) := [("CurveSums", 235, "no such year"), ("CurveSums", 241, "an age is 0 .. 3000"), ("CurveSums", 243, "a spread is 1 .. 100"), ("CurveSums", 89, "there are four editions"), ("CurveSums", 100, "no such edition"), ("CurveSums", 105, "a reservoir's age is -1000 .. 1000"), ("CurveSums", 108, "a reservoir's spread is 0 .. 100"), ("CurveSums", 239, "there are twelve dates"), ("CurveSums", 237, "no such date"), ("CurveSums", 148, "below is 1 at least"), ("CurveSums", 245, "no such share"), ("CurveSums", 179, "no such span"), ("CurveSums", 181, "no such end"), ("CurveSums", 189, "a gap is 0 .. 59"), ("CurveSums", 194, "the row has eight dates"), ("CurveSums", 207, "a sign is 32 .. 126"), ("CurveSums", 213, "the pad has at most 100 signs"), ("CurveSums", 233, "there is no such count")]
def mx_ncs : List (String × String) := [("java/lang/IndexOutOfBoundsException", "java/lang/IllegalArgumentException"), ("java/lang/IndexOutOfBoundsException", "java/lang/IllegalStateException"), ("java/lang/IllegalArgumentException", "java/lang/IndexOutOfBoundsException"), ("java/lang/IllegalArgumentException", "java/lang/IllegalStateException"), ("java/lang/IllegalStateException", "java/lang/IndexOutOfBoundsException"), ("java/lang/IllegalStateException", "java/lang/IllegalArgumentException")]
theorem mx_t {w : Cond} (i : Nat) (h : tables_1[i]? = some w) : w ∈ lw_tbl := List.mem_append_right _ (List.mem_of_getElem? h)
def mx_dec1 (b : ByteArray) (pc : Nat) (ins : Instr) (len : Nat) : Bool := decide (decode b pc = .ok (ins, len))
theorem mx_dec1_spec {b : ByteArray} {pc : Nat} {ins : Instr} {len : Nat} (h : mx_dec1 b pc ins len = true) : decode b pc = .ok (ins, len) := of_decide_eq_true h
def mx_decs (b : ByteArray) (t : List (Nat × Instr × Nat)) : Bool := t.all (fun q => mx_dec1 b q.1 q.2.1 q.2.2)
theorem mx_d {b : ByteArray} {t : List (Nat × Instr × Nat)} {pc : Nat} {ins : Instr} {len : Nat} (h : mx_decs b t = true) (i : Nat) (hi : t[i]? = some (pc, ins, len)) : decode b pc = .ok (ins, len) := by
  have h0 : t.all (fun q => mx_dec1 b q.1 q.2.1 q.2.2) = true := h
  have h1 := List.all_eq_true.mp h0 (pc, ins, len) (List.mem_of_getElem? hi)
  exact mx_dec1_spec h1
def Y_C_init : MethodName × ByteArray × Nat × Option FieldType × List (Nat × Nat × Nat × Nat) := (⟨"CurveSums", "<init>", "(II)V"⟩, prog_1_method_1_code, 4, none, [])
def T_C_init : List (Nat × Instr × Nat) := [(0, .aload_n 0, 1), (1, .invokespecial 1, 3), (4, .aload_n 0, 1), (5, .bipush 8, 2), (7, .bipush 60, 2), (9, .iload_n 1, 1), (10, .invokestatic 9, 3), (13, .invokestatic 15, 3), (16, .putfield 18, 3), (19, .aload_n 0, 1), (20, .iconst 1, 1), (21, .ldc 22, 2), (23, .iload_n 2, 1), (24, .invokestatic 9, 3), (27, .invokestatic 15, 3), (30, .putfield 23, 3), (33, .aload_n 0, 1), (34, .iconst 4, 1), (35, .anewarray 26, 3), (38, .putfield 28, 3), (41, .iconst 0, 1), (42, .istore_n 3, 1), (43, .iload_n 3, 1), (44, .iconst 4, 1), (45, .if_icmp .ge 26, 3), (48, .aload_n 0, 1), (49, .getfield 28, 3), (52, .iload_n 3, 1), (53, .new 26, 3), (56, .dup, 1), (57, .aload_n 0, 1), (58, .getfield 18, 3), (61, .invokespecial 32, 3), (64, .aastore, 1), (65, .iinc 3 1, 3), (68, .goto (-25), 3), (71, .aload_n 0, 1), (72, .bipush 12, 2), (74, .anewarray 35, 3), (77, .putfield 37, 3), (80, .iconst 0, 1), (81, .istore_n 3, 1), (82, .iload_n 3, 1), (83, .bipush 12, 2), (85, .if_icmp .ge 26, 3), (88, .aload_n 0, 1), (89, .getfield 37, 3), (92, .iload_n 3, 1), (93, .new 35, 3), (96, .dup, 1), (97, .aload_n 0, 1), (98, .getfield 18, 3), (101, .invokespecial 41, 3), (104, .aastore, 1), (105, .iinc 3 1, 3), (108, .goto (-26), 3), (111, .aload_n 0, 1), (112, .new 42, 3), (115, .dup, 1), (116, .aload_n 0, 1), (117, .getfield 18, 3), (120, .invokespecial 44, 3), (123, .putfield 45, 3), (126, .aload_n 0, 1), (127, .new 49, 3), (130, .dup, 1), (131, .invokespecial 51, 3), (134, .putfield 52, 3), (137, .aload_n 0, 1), (138, .new 56, 3), (141, .dup, 1), (142, .invokespecial 58, 3), (145, .putfield 59, 3), (148, .aload_n 0, 1), (149, .new 63, 3), (152, .dup, 1), (153, .aload_n 0, 1), (154, .getfield 18, 3), (157, .invokespecial 65, 3), (160, .putfield 66, 3), (163, .aload_n 0, 1), (164, .iconst 1, 1), (165, .putfield 70, 3), (168, .return_, 1)]
def Y_E_init : MethodName × ByteArray × Nat × Option FieldType × List (Nat × Nat × Nat × Nat) := (⟨"CurveSums$Edition", "<init>", "(I)V"⟩, prog_4_method_1_code, 2, none, [])
def T_E_init : List (Nat × Instr × Nat) := [(0, .aload_n 0, 1), (1, .invokespecial 1, 3), (4, .aload_n 0, 1), (5, .iload_n 1, 1), (6, .newarray .int, 2), (8, .putfield 7, 3), (11, .aload_n 0, 1), (12, .iload_n 1, 1), (13, .newarray .int, 2), (15, .putfield 13, 3), (18, .return_, 1)]
def Y_D_init : MethodName × ByteArray × Nat × Option FieldType × List (Nat × Nat × Nat × Nat) := (⟨"CurveSums$Dating", "<init>", "(I)V"⟩, prog_3_method_1_code, 2, none, [])
def T_D_init : List (Nat × Instr × Nat) := [(0, .aload_n 0, 1), (1, .invokespecial 1, 3), (4, .aload_n 0, 1), (5, .iload_n 1, 1), (6, .newarray .int, 2), (8, .putfield 7, 3), (11, .return_, 1)]
def Y_L_init : MethodName × ByteArray × Nat × Option FieldType × List (Nat × Nat × Nat × Nat) := (⟨"CurveSums$LeastSet", "<init>", "(I)V"⟩, prog_5_method_1_code, 2, none, [])
def T_L_init : List (Nat × Instr × Nat) := [(0, .aload_n 0, 1), (1, .invokespecial 3, 3), (4, .aload_n 0, 1), (5, .iload_n 1, 1), (6, .newarray .boolean, 2), (8, .putfield 9, 3), (11, .aload_n 0, 1), (12, .iload_n 1, 1), (13, .newarray .int, 2), (15, .putfield 15, 3), (18, .aload_n 0, 1), (19, .iload_n 1, 1), (20, .newarray .int, 2), (22, .putfield 19, 3), (25, .return_, 1)]
def Y_R_init : MethodName × ByteArray × Nat × Option FieldType × List (Nat × Nat × Nat × Nat) := (⟨"CurveSums$DateRow", "<init>", "()V"⟩, prog_2_method_1_code, 1, none, [])
def T_R_init : List (Nat × Instr × Nat) := [(0, .aload_n 0, 1), (1, .invokespecial 3, 3), (4, .aload_n 0, 1), (5, .bipush 8, 2), (7, .newarray .int, 2), (9, .putfield 9, 3), (12, .aload_n 0, 1), (13, .bipush 8, 2), (15, .newarray .int, 2), (17, .putfield 15, 3), (20, .return_, 1)]
def Y_P_init : MethodName × ByteArray × Nat × Option FieldType × List (Nat × Nat × Nat × Nat) := (⟨"CurveSums$Pad", "<init>", "()V"⟩, prog_6_method_1_code, 1, none, [])
def T_P_init : List (Nat × Instr × Nat) := [(0, .aload_n 0, 1), (1, .invokespecial 3, 3), (4, .aload_n 0, 1), (5, .bipush 100, 2), (7, .newarray .int, 2), (9, .putfield 9, 3), (12, .return_, 1)]
def Y_T_init : MethodName × ByteArray × Nat × Option FieldType × List (Nat × Nat × Nat × Nat) := (⟨"CurveSums$TextReader", "<init>", "(I)V"⟩, prog_7_method_1_code, 2, none, [])
def T_T_init : List (Nat × Instr × Nat) := [(0, .aload_n 0, 1), (1, .invokespecial 3, 3), (4, .aload_n 0, 1), (5, .iload_n 1, 1), (6, .putfield 9, 3), (9, .aload_n 0, 1), (10, .bipush 100, 2), (12, .newarray .int, 2), (14, .putfield 15, 3), (17, .return_, 1)]
def Y_C_wiggle : MethodName × ByteArray × Nat × Option FieldType × List (Nat × Nat × Nat × Nat) := (⟨"CurveSums", "wiggle", "()I"⟩, prog_1_method_16_code, 5, (some .int), [])
def T_C_wiggle : List (Nat × Instr × Nat) := [(0, .aload_n 0, 1), (1, .getfield 52, 3), (4, .getfield 191, 3), (7, .ifCond .ne 5, 3), (10, .iconst (-1), 1), (11, .ireturn, 1), (12, .iconst 0, 1), (13, .istore_n 1, 1), (14, .aload_n 0, 1), (15, .getfield 52, 3), (18, .iconst 0, 1), (19, .aload_n 0, 1), (20, .getfield 37, 3), (23, .invokevirtual 199, 3), (26, .istore_n 2, 1), (27, .iconst 1, 1), (28, .istore_n 3, 1), (29, .iload_n 3, 1), (30, .aload_n 0, 1), (31, .getfield 18, 3), (34, .if_icmp .ge 34, 3), (37, .aload_n 0, 1), (38, .getfield 52, 3), (41, .iload_n 3, 1), (42, .aload_n 0, 1), (43, .getfield 37, 3), (46, .invokevirtual 199, 3), (49, .istore 4, 2), (51, .iload 4, 2), (53, .iload_n 2, 1), (54, .if_icmp .le 8, 3), (57, .iload_n 3, 1), (58, .istore_n 1, 1), (59, .iload 4, 2), (61, .istore_n 2, 1), (62, .iinc 3 1, 3), (65, .goto (-36), 3), (68, .iload_n 1, 1), (69, .ireturn, 1)]
def Y_R_sumAt : MethodName × ByteArray × Nat × Option FieldType × List (Nat × Nat × Nat × Nat) := (⟨"CurveSums$DateRow", "sumAt", "(I[LCurveSums$Dating;)I"⟩, prog_2_method_3_code, 7, (some .int), [])
def T_R_sumAt : List (Nat × Instr × Nat) := [(0, .iconst 0, 1), (1, .istore_n 3, 1), (2, .iconst 0, 1), (3, .istore 4, 2), (5, .iload 4, 2), (7, .aload_n 0, 1), (8, .getfield 18, 3), (11, .if_icmp .ge 50, 3), (14, .aload_n 2, 1), (15, .aload_n 0, 1), (16, .getfield 9, 3), (19, .iload 4, 2), (21, .iaload, 1), (22, .aaload, 1), (23, .getfield 22, 3), (26, .astore 5, 2), (28, .iload_n 1, 1), (29, .aload_n 0, 1), (30, .getfield 15, 3), (33, .iload 4, 2), (35, .iaload, 1), (36, .iadd, 1), (37, .istore 6, 2), (39, .iload 6, 2), (41, .aload 5, 2), (43, .arraylength, 1), (44, .if_icmp .ge 11, 3), (47, .iload_n 3, 1), (48, .aload 5, 2), (50, .iload 6, 2), (52, .iaload, 1), (53, .iadd, 1), (54, .istore_n 3, 1), (55, .iinc 4 1, 3), (58, .goto (-53), 3), (61, .iload_n 3, 1), (62, .ireturn, 1)]
def Y_C_clear : MethodName × ByteArray × Nat × Option FieldType × List (Nat × Nat × Nat × Nat) := (⟨"CurveSums", "clear", "()I"⟩, prog_1_method_17_code, 2, (some .int), [])
def T_C_clear : List (Nat × Instr × Nat) := [(0, .aload_n 0, 1), (1, .getfield 52, 3), (4, .getfield 191, 3), (7, .istore_n 1, 1), (8, .aload_n 0, 1), (9, .getfield 52, 3), (12, .iconst 0, 1), (13, .putfield 191, 3), (16, .iload_n 1, 1), (17, .ireturn, 1)]
def Y_C_read : MethodName × ByteArray × Nat × Option FieldType × List (Nat × Nat × Nat × Nat) := (⟨"CurveSums", "read", "()I"⟩, prog_1_method_19_code, 3, (some .int), [])
def T_C_read : List (Nat × Instr × Nat) := [(0, .aload_n 0, 1), (1, .getfield 66, 3), (4, .aload_n 0, 1), (5, .getfield 59, 3), (8, .invokevirtual 217, 3), (11, .istore_n 1, 1), (12, .aload_n 0, 1), (13, .getfield 59, 3), (16, .iconst 0, 1), (17, .putfield 209, 3), (20, .iconst 0, 1), (21, .istore_n 2, 1), (22, .iload_n 2, 1), (23, .iload_n 1, 1), (24, .if_icmp .ge 46, 3), (27, .aload_n 0, 1), (28, .getfield 28, 3), (31, .aload_n 0, 1), (32, .getfield 80, 3), (35, .aaload, 1), (36, .aload_n 0, 1), (37, .getfield 66, 3), (40, .iload_n 2, 1), (41, .invokevirtual 221, 3), (44, .aload_n 0, 1), (45, .getfield 66, 3), (48, .iload_n 2, 1), (49, .invokevirtual 224, 3), (52, .aload_n 0, 1), (53, .getfield 66, 3), (56, .iload_n 2, 1), (57, .invokevirtual 227, 3), (60, .invokevirtual 83, 3), (63, .pop, 1), (64, .iinc 2 1, 3), (67, .goto (-45), 3), (70, .iload_n 1, 1), (71, .ireturn, 1)]
def Y_T_scan : MethodName × ByteArray × Nat × Option FieldType × List (Nat × Nat × Nat × Nat) := (⟨"CurveSums$TextReader", "scan", "(LCurveSums$Pad;)I"⟩, prog_7_method_2_code, 3, (some .int), [])
def T_T_scan : List (Nat × Instr × Nat) := [(0, .aload_n 0, 1), (1, .iconst 0, 1), (2, .putfield 19, 3), (5, .aload_n 0, 1), (6, .iconst 0, 1), (7, .putfield 22, 3), (10, .iconst 0, 1), (11, .istore_n 2, 1), (12, .iload_n 2, 1), (13, .aload_n 1, 1), (14, .getfield 26, 3), (17, .if_icmp .ge 26, 3), (20, .aload_n 0, 1), (21, .aload_n 1, 1), (22, .getfield 31, 3), (25, .iload_n 2, 1), (26, .iaload, 1), (27, .invokevirtual 34, 3), (30, .ifCond .ne 7, 3), (33, .iconst (-1), 1), (34, .iload_n 2, 1), (35, .isub, 1), (36, .ireturn, 1), (37, .iinc 2 1, 3), (40, .goto (-28), 3), (43, .aload_n 0, 1), (44, .getfield 22, 3), (47, .ifCond .eq 17, 3), (50, .aload_n 0, 1), (51, .getfield 19, 3), (54, .iconst 3, 1), (55, .irem, 1), (56, .iconst 2, 1), (57, .if_icmp .ne 7, 3), (60, .iconst 1, 1), (61, .goto 4, 3), (64, .iconst 0, 1), (65, .istore_n 2, 1), (66, .iload_n 2, 1), (67, .ifCond .eq 14, 3), (70, .aload_n 0, 1), (71, .getfield 19, 3), (74, .iconst 1, 1), (75, .iadd, 1), (76, .iconst 3, 1), (77, .idiv, 1), (78, .goto 9, 3), (81, .iconst (-1), 1), (82, .aload_n 1, 1), (83, .getfield 26, 3), (86, .isub, 1), (87, .ireturn, 1)]
def Y_T_takes : MethodName × ByteArray × Nat × Option FieldType × List (Nat × Nat × Nat × Nat) := (⟨"CurveSums$TextReader", "takes", "(I)Z"⟩, prog_7_method_6_code, 2, (some .boolean), [])
def T_T_takes : List (Nat × Instr × Nat) := [(0, .iload_n 1, 1), (1, .bipush 48, 2), (3, .if_icmp .lt 18, 3), (6, .iload_n 1, 1), (7, .bipush 57, 2), (9, .if_icmp .gt 12, 3), (12, .aload_n 0, 1), (13, .iload_n 1, 1), (14, .bipush 48, 2), (16, .isub, 1), (17, .invokevirtual 38, 3), (20, .ireturn, 1), (21, .aload_n 0, 1), (22, .getfield 22, 3), (25, .ifCond .eq 16, 3), (28, .iload_n 1, 1), (29, .aload_n 0, 1), (30, .getfield 19, 3), (33, .iconst 3, 1), (34, .irem, 1), (35, .invokestatic 41, 3), (38, .if_icmp .eq 5, 3), (41, .iconst 0, 1), (42, .ireturn, 1), (43, .aload_n 0, 1), (44, .dup, 1), (45, .getfield 19, 3), (48, .iconst 1, 1), (49, .iadd, 1), (50, .putfield 19, 3), (53, .aload_n 0, 1), (54, .iconst 0, 1), (55, .putfield 22, 3), (58, .iconst 1, 1), (59, .ireturn, 1)]
def Y_T_takesDigit : MethodName × ByteArray × Nat × Option FieldType × List (Nat × Nat × Nat × Nat) := (⟨"CurveSums$TextReader", "takesDigit", "(I)Z"⟩, prog_7_method_7_code, 3, (some .boolean), [])
def T_T_takesDigit : List (Nat × Instr × Nat) := [(0, .aload_n 0, 1), (1, .getfield 19, 3), (4, .aload_n 0, 1), (5, .getfield 15, 3), (8, .arraylength, 1), (9, .if_icmp .ge 22, 3), (12, .aload_n 0, 1), (13, .getfield 22, 3), (16, .ifCond .eq 17, 3), (19, .aload_n 0, 1), (20, .getfield 15, 3), (23, .aload_n 0, 1), (24, .getfield 19, 3), (27, .iaload, 1), (28, .ifCond .ne 5, 3), (31, .iconst 0, 1), (32, .ireturn, 1), (33, .aload_n 0, 1), (34, .getfield 22, 3), (37, .ifCond .eq 20, 3), (40, .bipush 10, 2), (42, .aload_n 0, 1), (43, .getfield 15, 3), (46, .aload_n 0, 1), (47, .getfield 19, 3), (50, .iaload, 1), (51, .imul, 1), (52, .iload_n 1, 1), (53, .iadd, 1), (54, .goto 4, 3), (57, .iload_n 1, 1), (58, .istore_n 2, 1), (59, .aload_n 0, 1), (60, .iload_n 2, 1), (61, .aload_n 0, 1), (62, .getfield 19, 3), (65, .iconst 3, 1), (66, .irem, 1), (67, .invokevirtual 45, 3), (70, .ifCond .ne 5, 3), (73, .iconst 0, 1), (74, .ireturn, 1), (75, .aload_n 0, 1), (76, .getfield 15, 3), (79, .aload_n 0, 1), (80, .getfield 19, 3), (83, .iload_n 2, 1), (84, .iastore, 1), (85, .aload_n 0, 1), (86, .iconst 1, 1), (87, .putfield 22, 3), (90, .iconst 1, 1), (91, .ireturn, 1)]
def Y_T_isWithinBounds : MethodName × ByteArray × Nat × Option FieldType × List (Nat × Nat × Nat × Nat) := (⟨"CurveSums$TextReader", "isWithinBounds", "(II)Z"⟩, prog_7_method_8_code, 3, (some .boolean), [])
def T_T_isWithinBounds : List (Nat × Instr × Nat) := [(0, .iload_n 2, 1), (1, .lookupswitch 57 #[(1, 27), (2, 40)], 27), (28, .iload_n 1, 1), (29, .sipush 3000, 3), (32, .if_icmp .gt 7, 3), (35, .iconst 1, 1), (36, .goto 4, 3), (39, .iconst 0, 1), (40, .ireturn, 1), (41, .iload_n 1, 1), (42, .iconst 1, 1), (43, .if_icmp .lt 13, 3), (46, .iload_n 1, 1), (47, .bipush 100, 2), (49, .if_icmp .gt 7, 3), (52, .iconst 1, 1), (53, .goto 4, 3), (56, .iconst 0, 1), (57, .ireturn, 1), (58, .iload_n 1, 1), (59, .aload_n 0, 1), (60, .getfield 9, 3), (63, .if_icmp .ge 7, 3), (66, .iconst 1, 1), (67, .goto 4, 3), (70, .iconst 0, 1), (71, .ireturn, 1)]
def Y_T_signBehind : MethodName × ByteArray × Nat × Option FieldType × List (Nat × Nat × Nat × Nat) := (⟨"CurveSums$TextReader", "signBehind", "(I)I"⟩, prog_7_method_9_code, 1, (some .int), [])
def T_T_signBehind : List (Nat × Instr × Nat) := [(0, .iload_n 0, 1), (1, .lookupswitch 33 #[(1, 27), (2, 30)], 27), (28, .bipush 43, 2), (30, .ireturn, 1), (31, .bipush 59, 2), (33, .ireturn, 1), (34, .bipush 58, 2), (36, .ireturn, 1)]
def Y_T_yearOf : MethodName × ByteArray × Nat × Option FieldType × List (Nat × Nat × Nat × Nat) := (⟨"CurveSums$TextReader", "yearOf", "(I)I"⟩, prog_7_method_3_code, 2, (some .int), [])
def T_T_yearOf : List (Nat × Instr × Nat) := [(0, .aload_n 0, 1), (1, .getfield 15, 3), (4, .iconst 3, 1), (5, .iload_n 1, 1), (6, .imul, 1), (7, .iaload, 1), (8, .ireturn, 1)]
def Y_T_ageOf : MethodName × ByteArray × Nat × Option FieldType × List (Nat × Nat × Nat × Nat) := (⟨"CurveSums$TextReader", "ageOf", "(I)I"⟩, prog_7_method_4_code, 2, (some .int), [])
def T_T_ageOf : List (Nat × Instr × Nat) := [(0, .aload_n 0, 1), (1, .getfield 15, 3), (4, .iconst 3, 1), (5, .iload_n 1, 1), (6, .imul, 1), (7, .iconst 1, 1), (8, .iadd, 1), (9, .iaload, 1), (10, .ireturn, 1)]
def Y_T_spreadOf : MethodName × ByteArray × Nat × Option FieldType × List (Nat × Nat × Nat × Nat) := (⟨"CurveSums$TextReader", "spreadOf", "(I)I"⟩, prog_7_method_5_code, 2, (some .int), [])
def T_T_spreadOf : List (Nat × Instr × Nat) := [(0, .aload_n 0, 1), (1, .getfield 15, 3), (4, .iconst 3, 1), (5, .iload_n 1, 1), (6, .imul, 1), (7, .iconst 2, 1), (8, .iadd, 1), (9, .iaload, 1), (10, .ireturn, 1)]
def Y_E_tellRow : MethodName × ByteArray × Nat × Option FieldType × List (Nat × Nat × Nat × Nat) := (⟨"CurveSums$Edition", "tellRow", "(III)Z"⟩, prog_4_method_3_code, 5, (some .boolean), [])
def T_E_tellRow : List (Nat × Instr × Nat) := [(0, .aload_n 0, 1), (1, .iload_n 1, 1), (2, .invokevirtual 16, 3), (5, .istore 4, 2), (7, .aload_n 0, 1), (8, .getfield 7, 3), (11, .iload_n 1, 1), (12, .iload_n 2, 1), (13, .iastore, 1), (14, .aload_n 0, 1), (15, .getfield 13, 3), (18, .iload_n 1, 1), (19, .iload_n 3, 1), (20, .iastore, 1), (21, .iload 4, 2), (23, .ifCond .ne 13, 3), (26, .aload_n 0, 1), (27, .dup, 1), (28, .getfield 20, 3), (31, .iconst 1, 1), (32, .iadd, 1), (33, .putfield 20, 3), (36, .iload 4, 2), (38, .ireturn, 1)]
def Y_E_hasRow : MethodName × ByteArray × Nat × Option FieldType × List (Nat × Nat × Nat × Nat) := (⟨"CurveSums$Edition", "hasRow", "(I)Z"⟩, prog_4_method_2_code, 2, (some .boolean), [])
def T_E_hasRow : List (Nat × Instr × Nat) := [(0, .aload_n 0, 1), (1, .getfield 13, 3), (4, .iload_n 1, 1), (5, .iaload, 1), (6, .ifCond .le 7, 3), (9, .iconst 1, 1), (10, .goto 4, 3), (13, .iconst 0, 1), (14, .ireturn, 1)]
def Y_W_cell : MethodName × ByteArray × Nat × Option FieldType × List (Nat × Nat × Nat × Nat) := (⟨"CurveSumsLaw", "cell", "([II)I"⟩, method_2_code, 2, (some .int), [])
def T_W_cell : List (Nat × Instr × Nat) := [(0, .iload_n 1, 1), (1, .aload_n 0, 1), (2, .arraylength, 1), (3, .if_icmp .ge 9, 3), (6, .aload_n 0, 1), (7, .iload_n 1, 1), (8, .iaload, 1), (9, .goto 4, 3), (12, .iconst 0, 1), (13, .ireturn, 1)]
def Y_W_curve : MethodName × ByteArray × Nat × Option FieldType × List (Nat × Nat × Nat × Nat) := (⟨"CurveSumsLaw", "curve", "(LCurveSums;III[J)I"⟩, method_3_code, 6, (some .int), [(0, 19, 22, 13), (0, 19, 26, 15)])
def T_W_curve : List (Nat × Instr × Nat) := [(0, .aload 4, 2), (2, .iconst 0, 1), (3, .aload_n 0, 1), (4, .iload_n 1, 1), (5, .iload_n 2, 1), (6, .iload_n 3, 1), (7, .invokevirtual 7, 3), (10, .ifCond .eq 7, 3), (13, .lconst 1, 1), (14, .goto 4, 3), (17, .lconst 0, 1), (18, .lastore, 1), (19, .goto 11, 3), (22, .astore 5, 2), (24, .iconst 1, 1), (25, .ireturn, 1), (26, .astore 5, 2), (28, .iconst 2, 1), (29, .ireturn, 1), (30, .iconst 0, 1), (31, .ireturn, 1)]
def Y_C_curve : MethodName × ByteArray × Nat × Option FieldType × List (Nat × Nat × Nat × Nat) := (⟨"CurveSums", "curve", "(III)Z"⟩, prog_1_method_2_code, 4, (some .boolean), [])
def T_C_curve : List (Nat × Instr × Nat) := [(0, .aload_n 0, 1), (1, .iload_n 1, 1), (2, .invokevirtual 73, 3), (5, .iload_n 2, 1), (6, .iload_n 3, 1), (7, .invokestatic 76, 3), (10, .aload_n 0, 1), (11, .getfield 28, 3), (14, .aload_n 0, 1), (15, .getfield 80, 3), (18, .aaload, 1), (19, .iload_n 1, 1), (20, .iload_n 2, 1), (21, .iload_n 3, 1), (22, .invokevirtual 83, 3), (25, .ireturn, 1)]
def Y_C_needYear : MethodName × ByteArray × Nat × Option FieldType × List (Nat × Nat × Nat × Nat) := (⟨"CurveSums", "needYear", "(I)V"⟩, prog_1_method_21_code, 2, none, [])
def T_C_needYear : List (Nat × Instr × Nat) := [(0, .iload_n 1, 1), (1, .ifCond .lt 11, 3), (4, .iload_n 1, 1), (5, .aload_n 0, 1), (6, .getfield 18, 3), (9, .if_icmp .lt 13, 3), (12, .new 98, 3), (15, .dup, 1), (16, .ldc 235, 2), (18, .invokespecial 102, 3), (21, .athrow, 1), (22, .return_, 1)]
def Y_C_needAgeAndSpread : MethodName × ByteArray × Nat × Option FieldType × List (Nat × Nat × Nat × Nat) := (⟨"CurveSums", "needAgeAndSpread", "(II)V"⟩, prog_1_method_24_code, 2, none, [])
def T_C_needAgeAndSpread : List (Nat × Instr × Nat) := [(0, .iload_n 0, 1), (1, .ifCond .lt 10, 3), (4, .iload_n 0, 1), (5, .sipush 3000, 3), (8, .if_icmp .le 13, 3), (11, .new 103, 3), (14, .dup, 1), (15, .ldc 241, 2), (17, .invokespecial 107, 3), (20, .athrow, 1), (21, .iload_n 1, 1), (22, .iconst 1, 1), (23, .if_icmp .lt 9, 3), (26, .iload_n 1, 1), (27, .bipush 100, 2), (29, .if_icmp .le 13, 3), (32, .new 103, 3), (35, .dup, 1), (36, .ldc 243, 2), (38, .invokespecial 107, 3), (41, .athrow, 1), (42, .return_, 1)]
def Y_W_edition : MethodName × ByteArray × Nat × Option FieldType × List (Nat × Nat × Nat × Nat) := (⟨"CurveSumsLaw", "edition", "(LCurveSums;[J)I"⟩, method_4_code, 3, (some .int), [(0, 8, 11, 21)])
def T_W_edition : List (Nat × Instr × Nat) := [(0, .aload_n 1, 1), (1, .iconst 0, 1), (2, .aload_n 0, 1), (3, .invokevirtual 17, 3), (6, .i2l, 1), (7, .lastore, 1), (8, .goto 6, 3), (11, .astore_n 2, 1), (12, .iconst 1, 1), (13, .ireturn, 1), (14, .iconst 0, 1), (15, .ireturn, 1)]
def Y_C_edition : MethodName × ByteArray × Nat × Option FieldType × List (Nat × Nat × Nat × Nat) := (⟨"CurveSums", "edition", "()I"⟩, prog_1_method_3_code, 1, (some .int), [])
def T_C_edition : List (Nat × Instr × Nat) := [(0, .aload_n 0, 1), (1, .getfield 70, 3), (4, .iconst 4, 1), (5, .if_icmp .lt 13, 3), (8, .new 87, 3), (11, .dup, 1), (12, .ldc 89, 2), (14, .invokespecial 91, 3), (17, .athrow, 1), (18, .aload_n 0, 1), (19, .getfield 28, 3), (22, .aload_n 0, 1), (23, .getfield 70, 3), (26, .aaload, 1), (27, .aload_n 0, 1), (28, .getfield 28, 3), (31, .aload_n 0, 1), (32, .getfield 80, 3), (35, .aaload, 1), (36, .invokevirtual 94, 3), (39, .aload_n 0, 1), (40, .aload_n 0, 1), (41, .getfield 70, 3), (44, .putfield 80, 3), (47, .aload_n 0, 1), (48, .dup, 1), (49, .getfield 70, 3), (52, .iconst 1, 1), (53, .iadd, 1), (54, .putfield 70, 3), (57, .aload_n 0, 1), (58, .getfield 80, 3), (61, .ireturn, 1)]
def Y_E_copyRowsOf : MethodName × ByteArray × Nat × Option FieldType × List (Nat × Nat × Nat × Nat) := (⟨"CurveSums$Edition", "copyRowsOf", "(LCurveSums$Edition;)V"⟩, prog_4_method_4_code, 2, none, [])
def T_E_copyRowsOf : List (Nat × Instr × Nat) := [(0, .aload_n 1, 1), (1, .getfield 7, 3), (4, .iconst 0, 1), (5, .aload_n 0, 1), (6, .getfield 7, 3), (9, .iconst 0, 1), (10, .aload_n 0, 1), (11, .getfield 7, 3), (14, .arraylength, 1), (15, .invokestatic 24, 3), (18, .aload_n 1, 1), (19, .getfield 13, 3), (22, .iconst 0, 1), (23, .aload_n 0, 1), (24, .getfield 13, 3), (27, .iconst 0, 1), (28, .aload_n 0, 1), (29, .getfield 13, 3), (32, .arraylength, 1), (33, .invokestatic 24, 3), (36, .aload_n 0, 1), (37, .aload_n 1, 1), (38, .getfield 20, 3), (41, .putfield 20, 3), (44, .return_, 1)]
def Y_W_use : MethodName × ByteArray × Nat × Option FieldType × List (Nat × Nat × Nat × Nat) := (⟨"CurveSumsLaw", "use", "(LCurveSums;I[J)I"⟩, method_5_code, 4, (some .int), [(0, 9, 12, 13)])
def T_W_use : List (Nat × Instr × Nat) := [(0, .aload_n 2, 1), (1, .iconst 0, 1), (2, .aload_n 0, 1), (3, .iload_n 1, 1), (4, .invokevirtual 23, 3), (7, .i2l, 1), (8, .lastore, 1), (9, .goto 6, 3), (12, .astore_n 3, 1), (13, .iconst 1, 1), (14, .ireturn, 1), (15, .iconst 0, 1), (16, .ireturn, 1)]
def Y_C_use : MethodName × ByteArray × Nat × Option FieldType × List (Nat × Nat × Nat × Nat) := (⟨"CurveSums", "use", "(I)I"⟩, prog_1_method_4_code, 3, (some .int), [])
def T_C_use : List (Nat × Instr × Nat) := [(0, .iload_n 1, 1), (1, .ifCond .lt 11, 3), (4, .iload_n 1, 1), (5, .aload_n 0, 1), (6, .getfield 70, 3), (9, .if_icmp .lt 13, 3), (12, .new 98, 3), (15, .dup, 1), (16, .ldc 100, 2), (18, .invokespecial 102, 3), (21, .athrow, 1), (22, .aload_n 0, 1), (23, .getfield 80, 3), (26, .istore_n 2, 1), (27, .aload_n 0, 1), (28, .iload_n 1, 1), (29, .putfield 80, 3), (32, .iload_n 2, 1), (33, .ireturn, 1)]
def Y_W_reservoir : MethodName × ByteArray × Nat × Option FieldType × List (Nat × Nat × Nat × Nat) := (⟨"CurveSumsLaw", "reservoir", "(LCurveSums;II)I"⟩, method_6_code, 4, (some .int), [(0, 6, 9, 15)])
def T_W_reservoir : List (Nat × Instr × Nat) := [(0, .aload_n 0, 1), (1, .iload_n 1, 1), (2, .iload_n 2, 1), (3, .invokevirtual 27, 3), (6, .goto 6, 3), (9, .astore_n 3, 1), (10, .iconst 1, 1), (11, .ireturn, 1), (12, .iconst 0, 1), (13, .ireturn, 1)]
def Y_C_reservoir : MethodName × ByteArray × Nat × Option FieldType × List (Nat × Nat × Nat × Nat) := (⟨"CurveSums", "reservoir", "(II)V"⟩, prog_1_method_5_code, 3, none, [])
def T_C_reservoir : List (Nat × Instr × Nat) := [(0, .iload_n 1, 1), (1, .sipush (-1000), 3), (4, .if_icmp .lt 10, 3), (7, .iload_n 1, 1), (8, .sipush 1000, 3), (11, .if_icmp .le 13, 3), (14, .new 103, 3), (17, .dup, 1), (18, .ldc 105, 2), (20, .invokespecial 107, 3), (23, .athrow, 1), (24, .iload_n 2, 1), (25, .ifCond .lt 9, 3), (28, .iload_n 2, 1), (29, .bipush 100, 2), (31, .if_icmp .le 13, 3), (34, .new 103, 3), (37, .dup, 1), (38, .ldc 108, 2), (40, .invokespecial 107, 3), (43, .athrow, 1), (44, .aload_n 0, 1), (45, .iload_n 1, 1), (46, .putfield 110, 3), (49, .aload_n 0, 1), (50, .iload_n 2, 1), (51, .putfield 113, 3), (54, .return_, 1)]
def Y_W_date : MethodName × ByteArray × Nat × Option FieldType × List (Nat × Nat × Nat × Nat) := (⟨"CurveSumsLaw", "date", "(LCurveSums;II[J)I"⟩, method_7_code, 5, (some .int), [(0, 10, 13, 15), (0, 10, 17, 21)])
def T_W_date : List (Nat × Instr × Nat) := [(0, .aload_n 3, 1), (1, .iconst 0, 1), (2, .aload_n 0, 1), (3, .iload_n 1, 1), (4, .iload_n 2, 1), (5, .invokevirtual 31, 3), (8, .i2l, 1), (9, .lastore, 1), (10, .goto 11, 3), (13, .astore 4, 2), (15, .iconst 1, 1), (16, .ireturn, 1), (17, .astore 4, 2), (19, .iconst 2, 1), (20, .ireturn, 1), (21, .iconst 0, 1), (22, .ireturn, 1)]
def Y_C_date : MethodName × ByteArray × Nat × Option FieldType × List (Nat × Nat × Nat × Nat) := (⟨"CurveSums", "date", "(II)I"⟩, prog_1_method_6_code, 3, (some .int), [])
def T_C_date : List (Nat × Instr × Nat) := [(0, .iload_n 1, 1), (1, .iload_n 2, 1), (2, .invokestatic 76, 3), (5, .aload_n 0, 1), (6, .invokevirtual 116, 3), (9, .aload_n 0, 1), (10, .iload_n 1, 1), (11, .iload_n 2, 1), (12, .invokevirtual 119, 3), (15, .ireturn, 1)]
def Y_C_needRoomForDate : MethodName × ByteArray × Nat × Option FieldType × List (Nat × Nat × Nat × Nat) := (⟨"CurveSums", "needRoomForDate", "()V"⟩, prog_1_method_23_code, 1, none, [])
def T_C_needRoomForDate : List (Nat × Instr × Nat) := [(0, .aload_n 0, 1), (1, .getfield 138, 3), (4, .bipush 12, 2), (6, .if_icmp .lt 13, 3), (9, .new 87, 3), (12, .dup, 1), (13, .ldc 239, 2), (15, .invokespecial 91, 3), (18, .athrow, 1), (19, .return_, 1)]
def Y_C_tellMeasured : MethodName × ByteArray × Nat × Option FieldType × List (Nat × Nat × Nat × Nat) := (⟨"CurveSums", "tellMeasured", "(II)I"⟩, prog_1_method_26_code, 7, (some .int), [])
def T_C_tellMeasured : List (Nat × Instr × Nat) := [(0, .aload_n 0, 1), (1, .getfield 37, 3), (4, .aload_n 0, 1), (5, .getfield 138, 3), (8, .aaload, 1), (9, .astore_n 3, 1), (10, .aload_n 3, 1), (11, .iload_n 1, 1), (12, .putfield 165, 3), (15, .aload_n 3, 1), (16, .iload_n 2, 1), (17, .putfield 162, 3), (20, .iload_n 2, 1), (21, .iload_n 2, 1), (22, .imul, 1), (23, .aload_n 0, 1), (24, .getfield 113, 3), (27, .aload_n 0, 1), (28, .getfield 113, 3), (31, .imul, 1), (32, .iadd, 1), (33, .istore 4, 2), (35, .aload_n 0, 1), (36, .getfield 28, 3), (39, .aload_n 0, 1), (40, .getfield 80, 3), (43, .aaload, 1), (44, .astore 5, 2), (46, .iconst 0, 1), (47, .istore 6, 2), (49, .iload 6, 2), (51, .aload_n 0, 1), (52, .getfield 18, 3), (55, .if_icmp .ge 32, 3), (58, .aload_n 3, 1), (59, .getfield 125, 3), (62, .iload 6, 2), (64, .aload_n 0, 1), (65, .aload 5, 2), (67, .iload 6, 2), (69, .iload_n 1, 1), (70, .aload_n 0, 1), (71, .getfield 110, 3), (74, .isub, 1), (75, .iload 4, 2), (77, .invokevirtual 247, 3), (80, .iastore, 1), (81, .iinc 6 1, 3), (84, .goto (-35), 3), (87, .aload_n 0, 1), (88, .invokevirtual 145, 3), (91, .ireturn, 1)]
def Y_C_weightBy : MethodName × ByteArray × Nat × Option FieldType × List (Nat × Nat × Nat × Nat) := (⟨"CurveSums", "weightBy", "(LCurveSums$Edition;III)I"⟩, prog_1_method_28_code, 11, (some .int), [])
def T_C_weightBy : List (Nat × Instr × Nat) := [(0, .aload_n 1, 1), (1, .iload_n 2, 1), (2, .invokevirtual 251, 3), (5, .ifCond .ne 5, 3), (8, .iconst 0, 1), (9, .ireturn, 1), (10, .aload_n 1, 1), (11, .getfield 254, 3), (14, .iload_n 2, 1), (15, .iaload, 1), (16, .istore 5, 2), (18, .iload_n 3, 1), (19, .aload_n 1, 1), (20, .getfield 257, 3), (23, .iload_n 2, 1), (24, .iaload, 1), (25, .isub, 1), (26, .istore 6, 2), (28, .iload 4, 2), (30, .iload 5, 2), (32, .iload 5, 2), (34, .imul, 1), (35, .iadd, 1), (36, .i2l, 1), (37, .lstore 7, 2), (39, .iload 6, 2), (41, .iload 6, 2), (43, .imul, 1), (44, .i2l, 1), (45, .lstore 9, 2), (47, .aload_n 0, 1), (48, .getfield 23, 3), (51, .i2l, 1), (52, .lload 7, 2), (54, .lmul, 1), (55, .lload 7, 2), (57, .lmul, 1), (58, .lload 7, 2), (60, .lload 9, 2), (62, .ladd, 1), (63, .lload 7, 2), (65, .lload 9, 2), (67, .ladd, 1), (68, .lmul, 1), (69, .ldiv, 1), (70, .l2i, 1), (71, .ireturn, 1)]
def Y_C_countTold : MethodName × ByteArray × Nat × Option FieldType × List (Nat × Nat × Nat × Nat) := (⟨"CurveSums", "countTold", "()I"⟩, prog_1_method_27_code, 1, (some .int), [])
def T_C_countTold : List (Nat × Instr × Nat) := [(0, .aload_n 0, 1), (1, .dup, 1), (2, .getfield 138, 3), (5, .iconst 1, 1), (6, .iadd, 1), (7, .putfield 138, 3), (10, .aload_n 0, 1), (11, .getfield 138, 3), (14, .iconst 1, 1), (15, .isub, 1), (16, .ireturn, 1)]
def Y_W_weight : MethodName × ByteArray × Nat × Option FieldType × List (Nat × Nat × Nat × Nat) := (⟨"CurveSumsLaw", "weight", "(LCurveSums;II[J)I"⟩, method_8_code, 5, (some .int), [(0, 10, 13, 13)])
def T_W_weight : List (Nat × Instr × Nat) := [(0, .aload_n 3, 1), (1, .iconst 0, 1), (2, .aload_n 0, 1), (3, .iload_n 1, 1), (4, .iload_n 2, 1), (5, .invokevirtual 35, 3), (8, .i2l, 1), (9, .lastore, 1), (10, .goto 7, 3), (13, .astore 4, 2), (15, .iconst 1, 1), (16, .ireturn, 1), (17, .iconst 0, 1), (18, .ireturn, 1)]
def Y_C_weight : MethodName × ByteArray × Nat × Option FieldType × List (Nat × Nat × Nat × Nat) := (⟨"CurveSums", "weight", "(II)I"⟩, prog_1_method_7_code, 3, (some .int), [])
def T_C_weight : List (Nat × Instr × Nat) := [(0, .aload_n 0, 1), (1, .iload_n 1, 1), (2, .invokevirtual 122, 3), (5, .aload_n 0, 1), (6, .iload_n 2, 1), (7, .invokevirtual 73, 3), (10, .aload_n 0, 1), (11, .getfield 37, 3), (14, .iload_n 1, 1), (15, .aaload, 1), (16, .getfield 125, 3), (19, .iload_n 2, 1), (20, .iaload, 1), (21, .ireturn, 1)]
def Y_C_needDate : MethodName × ByteArray × Nat × Option FieldType × List (Nat × Nat × Nat × Nat) := (⟨"CurveSums", "needDate", "(I)V"⟩, prog_1_method_22_code, 2, none, [])
def T_C_needDate : List (Nat × Instr × Nat) := [(0, .iload_n 1, 1), (1, .ifCond .lt 11, 3), (4, .iload_n 1, 1), (5, .aload_n 0, 1), (6, .getfield 138, 3), (9, .if_icmp .lt 13, 3), (12, .new 98, 3), (15, .dup, 1), (16, .ldc 237, 2), (18, .invokespecial 102, 3), (21, .athrow, 1), (22, .return_, 1)]
def Y_W_total : MethodName × ByteArray × Nat × Option FieldType × List (Nat × Nat × Nat × Nat) := (⟨"CurveSumsLaw", "total", "(LCurveSums;I[J)I"⟩, method_9_code, 4, (some .int), [(0, 9, 12, 13)])
def T_W_total : List (Nat × Instr × Nat) := [(0, .aload_n 2, 1), (1, .iconst 0, 1), (2, .aload_n 0, 1), (3, .iload_n 1, 1), (4, .invokevirtual 38, 3), (7, .i2l, 1), (8, .lastore, 1), (9, .goto 6, 3), (12, .astore_n 3, 1), (13, .iconst 1, 1), (14, .ireturn, 1), (15, .iconst 0, 1), (16, .ireturn, 1)]
def Y_C_total : MethodName × ByteArray × Nat × Option FieldType × List (Nat × Nat × Nat × Nat) := (⟨"CurveSums", "total", "(I)I"⟩, prog_1_method_8_code, 2, (some .int), [])
def T_C_total : List (Nat × Instr × Nat) := [(0, .aload_n 0, 1), (1, .iload_n 1, 1), (2, .invokevirtual 122, 3), (5, .aload_n 0, 1), (6, .getfield 37, 3), (9, .iload_n 1, 1), (10, .aaload, 1), (11, .invokevirtual 129, 3), (14, .ireturn, 1)]
def Y_D_allWeights : MethodName × ByteArray × Nat × Option FieldType × List (Nat × Nat × Nat × Nat) := (⟨"CurveSums$Dating", "allWeights", "()I"⟩, prog_3_method_3_code, 6, (some .int), [])
def T_D_allWeights : List (Nat × Instr × Nat) := [(0, .iconst 0, 1), (1, .istore_n 1, 1), (2, .aload_n 0, 1), (3, .getfield 7, 3), (6, .astore_n 2, 1), (7, .aload_n 2, 1), (8, .arraylength, 1), (9, .istore_n 3, 1), (10, .iconst 0, 1), (11, .istore 4, 2), (13, .iload 4, 2), (15, .iload_n 3, 1), (16, .if_icmp .ge 20, 3), (19, .aload_n 2, 1), (20, .iload 4, 2), (22, .iaload, 1), (23, .istore 5, 2), (25, .iload_n 1, 1), (26, .iload 5, 2), (28, .iadd, 1), (29, .istore_n 1, 1), (30, .iinc 4 1, 3), (33, .goto (-20), 3), (36, .iload_n 1, 1), (37, .ireturn, 1)]
def Y_W_sum : MethodName × ByteArray × Nat × Option FieldType × List (Nat × Nat × Nat × Nat) := (⟨"CurveSumsLaw", "sum", "(LCurveSums;II[J)I"⟩, method_10_code, 5, (some .int), [(0, 10, 13, 13), (0, 10, 17, 21)])
def T_W_sum : List (Nat × Instr × Nat) := [(0, .aload_n 3, 1), (1, .iconst 0, 1), (2, .aload_n 0, 1), (3, .iload_n 1, 1), (4, .iload_n 2, 1), (5, .invokevirtual 41, 3), (8, .i2l, 1), (9, .lastore, 1), (10, .goto 11, 3), (13, .astore 4, 2), (15, .iconst 1, 1), (16, .ireturn, 1), (17, .astore 4, 2), (19, .iconst 2, 1), (20, .ireturn, 1), (21, .iconst 0, 1), (22, .ireturn, 1)]
def Y_C_sum : MethodName × ByteArray × Nat × Option FieldType × List (Nat × Nat × Nat × Nat) := (⟨"CurveSums", "sum", "(II)I"⟩, prog_1_method_9_code, 3, (some .int), [])
def T_C_sum : List (Nat × Instr × Nat) := [(0, .aload_n 0, 1), (1, .iload_n 1, 1), (2, .invokevirtual 122, 3), (5, .aload_n 0, 1), (6, .iload_n 2, 1), (7, .invokevirtual 122, 3), (10, .aload_n 0, 1), (11, .invokevirtual 116, 3), (14, .aload_n 0, 1), (15, .getfield 37, 3), (18, .iload_n 1, 1), (19, .aaload, 1), (20, .aload_n 0, 1), (21, .getfield 37, 3), (24, .iload_n 2, 1), (25, .aaload, 1), (26, .invokevirtual 133, 3), (29, .ldc 137, 2), (31, .if_icmp .le 5, 3), (34, .iconst (-1), 1), (35, .ireturn, 1), (36, .aload_n 0, 1), (37, .getfield 37, 3), (40, .aload_n 0, 1), (41, .getfield 138, 3), (44, .aaload, 1), (45, .aload_n 0, 1), (46, .getfield 37, 3), (49, .iload_n 1, 1), (50, .aaload, 1), (51, .aload_n 0, 1), (52, .getfield 37, 3), (55, .iload_n 2, 1), (56, .aaload, 1), (57, .invokevirtual 141, 3), (60, .aload_n 0, 1), (61, .invokevirtual 145, 3), (64, .ireturn, 1)]
def Y_D_greatestSumWith : MethodName × ByteArray × Nat × Option FieldType × List (Nat × Nat × Nat × Nat) := (⟨"CurveSums$Dating", "greatestSumWith", "(LCurveSums$Dating;)I"⟩, prog_3_method_4_code, 4, (some .int), [])
def T_D_greatestSumWith : List (Nat × Instr × Nat) := [(0, .iconst 0, 1), (1, .istore_n 2, 1), (2, .iconst 0, 1), (3, .istore_n 3, 1), (4, .iload_n 3, 1), (5, .aload_n 0, 1), (6, .getfield 7, 3), (9, .arraylength, 1), (10, .if_icmp .ge 27, 3), (13, .iload_n 2, 1), (14, .aload_n 0, 1), (15, .getfield 7, 3), (18, .iload_n 3, 1), (19, .iaload, 1), (20, .aload_n 1, 1), (21, .getfield 7, 3), (24, .iload_n 3, 1), (25, .iaload, 1), (26, .iadd, 1), (27, .invokestatic 17, 3), (30, .istore_n 2, 1), (31, .iinc 3 1, 3), (34, .goto (-30), 3), (37, .iload_n 2, 1), (38, .ireturn, 1)]
def Y_D_becomeSum : MethodName × ByteArray × Nat × Option FieldType × List (Nat × Nat × Nat × Nat) := (⟨"CurveSums$Dating", "becomeSum", "(LCurveSums$Dating;LCurveSums$Dating;)V"⟩, prog_3_method_5_code, 4, none, [])
def T_D_becomeSum : List (Nat × Instr × Nat) := [(0, .iconst 0, 1), (1, .istore_n 3, 1), (2, .iload_n 3, 1), (3, .aload_n 0, 1), (4, .getfield 7, 3), (7, .arraylength, 1), (8, .if_icmp .ge 28, 3), (11, .aload_n 0, 1), (12, .getfield 7, 3), (15, .iload_n 3, 1), (16, .aload_n 1, 1), (17, .getfield 7, 3), (20, .iload_n 3, 1), (21, .iaload, 1), (22, .aload_n 2, 1), (23, .getfield 7, 3), (26, .iload_n 3, 1), (27, .iaload, 1), (28, .iadd, 1), (29, .iastore, 1), (30, .iinc 3 1, 3), (33, .goto (-31), 3), (36, .return_, 1)]
def Y_W_mix : MethodName × ByteArray × Nat × Option FieldType × List (Nat × Nat × Nat × Nat) := (⟨"CurveSumsLaw", "mix", "(LCurveSums;IIII[J)I"⟩, method_11_code, 7, (some .int), [(0, 14, 17, 13), (0, 14, 21, 15), (0, 14, 25, 21)])
def T_W_mix : List (Nat × Instr × Nat) := [(0, .aload 5, 2), (2, .iconst 0, 1), (3, .aload_n 0, 1), (4, .iload_n 1, 1), (5, .iload_n 2, 1), (6, .iload_n 3, 1), (7, .iload 4, 2), (9, .invokevirtual 44, 3), (12, .i2l, 1), (13, .lastore, 1), (14, .goto 15, 3), (17, .astore 6, 2), (19, .iconst 1, 1), (20, .ireturn, 1), (21, .astore 6, 2), (23, .iconst 2, 1), (24, .ireturn, 1), (25, .astore 6, 2), (27, .iconst 3, 1), (28, .ireturn, 1), (29, .iconst 0, 1), (30, .ireturn, 1)]
def Y_C_mix : MethodName × ByteArray × Nat × Option FieldType × List (Nat × Nat × Nat × Nat) := (⟨"CurveSums", "mix", "(IIII)I"⟩, prog_1_method_10_code, 5, (some .int), [])
def T_C_mix : List (Nat × Instr × Nat) := [(0, .aload_n 0, 1), (1, .iload_n 1, 1), (2, .invokevirtual 122, 3), (5, .aload_n 0, 1), (6, .iload_n 2, 1), (7, .invokevirtual 122, 3), (10, .iload 4, 2), (12, .iconst 1, 1), (13, .if_icmp .ge 13, 3), (16, .new 103, 3), (19, .dup, 1), (20, .ldc 148, 2), (22, .invokespecial 107, 3), (25, .athrow, 1), (26, .iconst 0, 1), (27, .iload_n 3, 1), (28, .iload 4, 2), (30, .invokestatic 150, 3), (33, .aload_n 0, 1), (34, .invokevirtual 116, 3), (37, .aload_n 0, 1), (38, .getfield 37, 3), (41, .aload_n 0, 1), (42, .getfield 138, 3), (45, .aaload, 1), (46, .aload_n 0, 1), (47, .getfield 37, 3), (50, .iload_n 1, 1), (51, .aaload, 1), (52, .aload_n 0, 1), (53, .getfield 37, 3), (56, .iload_n 2, 1), (57, .aaload, 1), (58, .iload_n 3, 1), (59, .iload 4, 2), (61, .invokevirtual 154, 3), (64, .aload_n 0, 1), (65, .invokevirtual 145, 3), (68, .ireturn, 1)]
def Y_C_needShare : MethodName × ByteArray × Nat × Option FieldType × List (Nat × Nat × Nat × Nat) := (⟨"CurveSums", "needShare", "(III)V"⟩, prog_1_method_25_code, 3, none, [])
def T_C_needShare : List (Nat × Instr × Nat) := [(0, .iload_n 1, 1), (1, .iload_n 0, 1), (2, .if_icmp .lt 15, 3), (5, .iload_n 1, 1), (6, .iload_n 2, 1), (7, .if_icmp .gt 10, 3), (10, .iload_n 2, 1), (11, .sipush 1000, 3), (14, .if_icmp .le 13, 3), (17, .new 103, 3), (20, .dup, 1), (21, .ldc 245, 2), (23, .invokespecial 107, 3), (26, .athrow, 1), (27, .return_, 1)]
def Y_D_becomeMixture : MethodName × ByteArray × Nat × Option FieldType × List (Nat × Nat × Nat × Nat) := (⟨"CurveSums$Dating", "becomeMixture", "(LCurveSums$Dating;LCurveSums$Dating;II)V"⟩, prog_3_method_6_code, 8, none, [])
def T_D_becomeMixture : List (Nat × Instr × Nat) := [(0, .iconst 0, 1), (1, .istore 5, 2), (3, .iload 5, 2), (5, .aload_n 0, 1), (6, .getfield 7, 3), (9, .arraylength, 1), (10, .if_icmp .ge 51, 3), (13, .iload_n 3, 1), (14, .i2l, 1), (15, .aload_n 1, 1), (16, .getfield 7, 3), (19, .iload 5, 2), (21, .iaload, 1), (22, .i2l, 1), (23, .lmul, 1), (24, .iload 4, 2), (26, .iload_n 3, 1), (27, .isub, 1), (28, .i2l, 1), (29, .aload_n 2, 1), (30, .getfield 7, 3), (33, .iload 5, 2), (35, .iaload, 1), (36, .i2l, 1), (37, .lmul, 1), (38, .ladd, 1), (39, .lstore 6, 2), (41, .aload_n 0, 1), (42, .getfield 7, 3), (45, .iload 5, 2), (47, .lload 6, 2), (49, .iload 4, 2), (51, .i2l, 1), (52, .ldiv, 1), (53, .l2i, 1), (54, .iastore, 1), (55, .iinc 5 1, 3), (58, .goto (-55), 3), (61, .return_, 1)]
def Y_W_joinRepeats : MethodName × ByteArray × Nat × Option FieldType × List (Nat × Nat × Nat × Nat) := (⟨"CurveSumsLaw", "joinRepeats", "(LCurveSums;II[J)I"⟩, method_12_code, 5, (some .int), [(0, 10, 13, 13), (0, 10, 17, 21)])
def T_W_joinRepeats : List (Nat × Instr × Nat) := [(0, .aload_n 3, 1), (1, .iconst 0, 1), (2, .aload_n 0, 1), (3, .iload_n 1, 1), (4, .iload_n 2, 1), (5, .invokevirtual 48, 3), (8, .i2l, 1), (9, .lastore, 1), (10, .goto 11, 3), (13, .astore 4, 2), (15, .iconst 1, 1), (16, .ireturn, 1), (17, .astore 4, 2), (19, .iconst 2, 1), (20, .ireturn, 1), (21, .iconst 0, 1), (22, .ireturn, 1)]
def Y_C_joinRepeats : MethodName × ByteArray × Nat × Option FieldType × List (Nat × Nat × Nat × Nat) := (⟨"CurveSums", "joinRepeats", "(II)I"⟩, prog_1_method_11_code, 9, (some .int), [])
def T_C_joinRepeats : List (Nat × Instr × Nat) := [(0, .aload_n 0, 1), (1, .iload_n 1, 1), (2, .invokevirtual 122, 3), (5, .aload_n 0, 1), (6, .iload_n 2, 1), (7, .invokevirtual 122, 3), (10, .aload_n 0, 1), (11, .invokevirtual 116, 3), (14, .aload_n 0, 1), (15, .getfield 37, 3), (18, .iload_n 1, 1), (19, .aaload, 1), (20, .astore_n 3, 1), (21, .aload_n 0, 1), (22, .getfield 37, 3), (25, .iload_n 2, 1), (26, .aaload, 1), (27, .astore 4, 2), (29, .aload_n 3, 1), (30, .invokevirtual 158, 3), (33, .ifCond .eq 11, 3), (36, .aload 4, 2), (38, .invokevirtual 158, 3), (41, .ifCond .ne 5, 3), (44, .iconst (-1), 1), (45, .ireturn, 1), (46, .aload_n 3, 1), (47, .getfield 162, 3), (50, .aload_n 3, 1), (51, .getfield 162, 3), (54, .imul, 1), (55, .istore 5, 2), (57, .aload 4, 2), (59, .getfield 162, 3), (62, .aload 4, 2), (64, .getfield 162, 3), (67, .imul, 1), (68, .istore 6, 2), (70, .aload_n 3, 1), (71, .getfield 165, 3), (74, .aload 4, 2), (76, .getfield 165, 3), (79, .isub, 1), (80, .istore 7, 2), (82, .iload 7, 2), (84, .iload 7, 2), (86, .imul, 1), (87, .iconst 4, 1), (88, .iload 5, 2), (90, .iload 6, 2), (92, .iadd, 1), (93, .imul, 1), (94, .if_icmp .le 5, 3), (97, .iconst (-1), 1), (98, .ireturn, 1), (99, .aload_n 3, 1), (100, .getfield 165, 3), (103, .iload 6, 2), (105, .imul, 1), (106, .aload 4, 2), (108, .getfield 165, 3), (111, .iload 5, 2), (113, .imul, 1), (114, .iadd, 1), (115, .iload 5, 2), (117, .iload 6, 2), (119, .iadd, 1), (120, .idiv, 1), (121, .istore 8, 2), (123, .aload_n 0, 1), (124, .iload 8, 2), (126, .iload 5, 2), (128, .iload 6, 2), (130, .imul, 1), (131, .iload 5, 2), (133, .iload 6, 2), (135, .iadd, 1), (136, .idiv, 1), (137, .invokestatic 168, 3), (140, .invokevirtual 119, 3), (143, .ireturn, 1)]
def Y_D_isMeasured : MethodName × ByteArray × Nat × Option FieldType × List (Nat × Nat × Nat × Nat) := (⟨"CurveSums$Dating", "isMeasured", "()Z"⟩, prog_3_method_2_code, 1, (some .boolean), [])
def T_D_isMeasured : List (Nat × Instr × Nat) := [(0, .aload_n 0, 1), (1, .getfield 13, 3), (4, .ifCond .le 7, 3), (7, .iconst 1, 1), (8, .goto 4, 3), (11, .iconst 0, 1), (12, .ireturn, 1)]
def Y_C_rootAtLeastOne : MethodName × ByteArray × Nat × Option FieldType × List (Nat × Nat × Nat × Nat) := (⟨"CurveSums", "rootAtLeastOne", "(I)I"⟩, prog_1_method_29_code, 2, (some .int), [])
def T_C_rootAtLeastOne : List (Nat × Instr × Nat) := [(0, .bipush 100, 2), (2, .istore_n 1, 1), (3, .iload_n 1, 1), (4, .iconst 1, 1), (5, .if_icmp .le 18, 3), (8, .iload_n 1, 1), (9, .iload_n 1, 1), (10, .imul, 1), (11, .iload_n 0, 1), (12, .if_icmp .gt 5, 3), (15, .iload_n 1, 1), (16, .ireturn, 1), (17, .iinc 1 (-1), 3), (20, .goto (-17), 3), (23, .iconst 1, 1), (24, .ireturn, 1)]
def Y_W_least : MethodName × ByteArray × Nat × Option FieldType × List (Nat × Nat × Nat × Nat) := (⟨"CurveSumsLaw", "least", "(LCurveSums;III[J)I"⟩, method_13_code, 6, (some .int), [(0, 12, 15, 13), (0, 12, 19, 15)])
def T_W_least : List (Nat × Instr × Nat) := [(0, .aload 4, 2), (2, .iconst 0, 1), (3, .aload_n 0, 1), (4, .iload_n 1, 1), (5, .iload_n 2, 1), (6, .iload_n 3, 1), (7, .invokevirtual 51, 3), (10, .i2l, 1), (11, .lastore, 1), (12, .goto 11, 3), (15, .astore 5, 2), (17, .iconst 1, 1), (18, .ireturn, 1), (19, .astore 5, 2), (21, .iconst 2, 1), (22, .ireturn, 1), (23, .iconst 0, 1), (24, .ireturn, 1)]
def Y_C_least : MethodName × ByteArray × Nat × Option FieldType × List (Nat × Nat × Nat × Nat) := (⟨"CurveSums", "least", "(III)I"⟩, prog_1_method_12_code, 4, (some .int), [])
def T_C_least : List (Nat × Instr × Nat) := [(0, .aload_n 0, 1), (1, .iload_n 1, 1), (2, .invokevirtual 122, 3), (5, .iconst 1, 1), (6, .iload_n 2, 1), (7, .iload_n 3, 1), (8, .invokestatic 150, 3), (11, .aload_n 0, 1), (12, .getfield 45, 3), (15, .aload_n 0, 1), (16, .getfield 37, 3), (19, .iload_n 1, 1), (20, .aaload, 1), (21, .iload_n 2, 1), (22, .iload_n 3, 1), (23, .invokevirtual 172, 3), (26, .aload_n 0, 1), (27, .getfield 45, 3), (30, .getfield 176, 3), (33, .ireturn, 1)]
def Y_L_choose : MethodName × ByteArray × Nat × Option FieldType × List (Nat × Nat × Nat × Nat) := (⟨"CurveSums$LeastSet", "choose", "(LCurveSums$Dating;II)V"⟩, prog_5_method_2_code, 10, none, [])
def T_L_choose : List (Nat × Instr × Nat) := [(0, .iconst 0, 1), (1, .istore 4, 2), (3, .iload 4, 2), (5, .aload_n 0, 1), (6, .getfield 9, 3), (9, .arraylength, 1), (10, .if_icmp .ge 17, 3), (13, .aload_n 0, 1), (14, .getfield 9, 3), (17, .iload 4, 2), (19, .iconst 0, 1), (20, .bastore, 1), (21, .iinc 4 1, 3), (24, .goto (-21), 3), (27, .iload_n 2, 1), (28, .i2l, 1), (29, .aload_n 1, 1), (30, .invokevirtual 22, 3), (33, .i2l, 1), (34, .lmul, 1), (35, .lstore 4, 2), (37, .lconst 0, 1), (38, .lstore 6, 2), (40, .iconst 0, 1), (41, .istore 8, 2), (43, .iload 8, 2), (45, .aload_n 0, 1), (46, .getfield 9, 3), (49, .arraylength, 1), (50, .if_icmp .ge 57, 3), (53, .lload 6, 2), (55, .lload 4, 2), (57, .lcmp, 1), (58, .ifCond .ge 49, 3), (61, .aload_n 0, 1), (62, .aload_n 1, 1), (63, .invokevirtual 28, 3), (66, .istore 9, 2), (68, .iload 9, 2), (70, .iconst (-1), 1), (71, .if_icmp .ne 6, 3), (74, .goto 33, 3), (77, .aload_n 0, 1), (78, .getfield 9, 3), (81, .iload 9, 2), (83, .iconst 1, 1), (84, .bastore, 1), (85, .lload 6, 2), (87, .iload_n 3, 1), (88, .i2l, 1), (89, .aload_n 1, 1), (90, .getfield 32, 3), (93, .iload 9, 2), (95, .iaload, 1), (96, .i2l, 1), (97, .lmul, 1), (98, .ladd, 1), (99, .lstore 6, 2), (101, .iinc 8 1, 3), (104, .goto (-61), 3), (107, .aload_n 0, 1), (108, .invokevirtual 35, 3), (111, .return_, 1)]
def Y_L_heaviestLeft : MethodName × ByteArray × Nat × Option FieldType × List (Nat × Nat × Nat × Nat) := (⟨"CurveSums$LeastSet", "heaviestLeft", "(LCurveSums$Dating;)I"⟩, prog_5_method_3_code, 5, (some .int), [])
def T_L_heaviestLeft : List (Nat × Instr × Nat) := [(0, .iconst (-1), 1), (1, .istore_n 2, 1), (2, .iconst 0, 1), (3, .istore_n 3, 1), (4, .iconst 0, 1), (5, .istore 4, 2), (7, .iload 4, 2), (9, .aload_n 0, 1), (10, .getfield 9, 3), (13, .arraylength, 1), (14, .if_icmp .ge 41, 3), (17, .aload_n 0, 1), (18, .getfield 9, 3), (21, .iload 4, 2), (23, .baload, 1), (24, .ifCond .ne 25, 3), (27, .aload_n 1, 1), (28, .getfield 32, 3), (31, .iload 4, 2), (33, .iaload, 1), (34, .iload_n 3, 1), (35, .if_icmp .le 14, 3), (38, .iload 4, 2), (40, .istore_n 2, 1), (41, .aload_n 1, 1), (42, .getfield 32, 3), (45, .iload 4, 2), (47, .iaload, 1), (48, .istore_n 3, 1), (49, .iinc 4 1, 3), (52, .goto (-45), 3), (55, .iload_n 2, 1), (56, .ireturn, 1)]
def Y_L_findSpans : MethodName × ByteArray × Nat × Option FieldType × List (Nat × Nat × Nat × Nat) := (⟨"CurveSums$LeastSet", "findSpans", "()V"⟩, prog_5_method_4_code, 2, none, [])
def T_L_findSpans : List (Nat × Instr × Nat) := [(0, .aload_n 0, 1), (1, .iconst 0, 1), (2, .putfield 38, 3), (5, .iconst 0, 1), (6, .istore_n 1, 1), (7, .iload_n 1, 1), (8, .aload_n 0, 1), (9, .getfield 9, 3), (12, .arraylength, 1), (13, .if_icmp .ge 75, 3), (16, .aload_n 0, 1), (17, .iload_n 1, 1), (18, .invokevirtual 42, 3), (21, .ifCond .eq 23, 3), (24, .aload_n 0, 1), (25, .iload_n 1, 1), (26, .iconst 1, 1), (27, .isub, 1), (28, .invokevirtual 42, 3), (31, .ifCond .ne 13, 3), (34, .aload_n 0, 1), (35, .getfield 15, 3), (38, .aload_n 0, 1), (39, .getfield 38, 3), (42, .iload_n 1, 1), (43, .iastore, 1), (44, .aload_n 0, 1), (45, .iload_n 1, 1), (46, .invokevirtual 42, 3), (49, .ifCond .eq 33, 3), (52, .aload_n 0, 1), (53, .iload_n 1, 1), (54, .iconst 1, 1), (55, .iadd, 1), (56, .invokevirtual 42, 3), (59, .ifCond .ne 23, 3), (62, .aload_n 0, 1), (63, .getfield 19, 3), (66, .aload_n 0, 1), (67, .getfield 38, 3), (70, .iload_n 1, 1), (71, .iastore, 1), (72, .aload_n 0, 1), (73, .dup, 1), (74, .getfield 38, 3), (77, .iconst 1, 1), (78, .iadd, 1), (79, .putfield 38, 3), (82, .iinc 1 1, 3), (85, .goto (-78), 3), (88, .return_, 1)]
def Y_L_holdsYear : MethodName × ByteArray × Nat × Option FieldType × List (Nat × Nat × Nat × Nat) := (⟨"CurveSums$LeastSet", "holdsYear", "(I)Z"⟩, prog_5_method_5_code, 2, (some .boolean), [])
def T_L_holdsYear : List (Nat × Instr × Nat) := [(0, .iload_n 1, 1), (1, .ifCond .lt 25, 3), (4, .iload_n 1, 1), (5, .aload_n 0, 1), (6, .getfield 9, 3), (9, .arraylength, 1), (10, .if_icmp .ge 16, 3), (13, .aload_n 0, 1), (14, .getfield 9, 3), (17, .iload_n 1, 1), (18, .baload, 1), (19, .ifCond .eq 7, 3), (22, .iconst 1, 1), (23, .goto 4, 3), (26, .iconst 0, 1), (27, .ireturn, 1)]
def Y_W_span : MethodName × ByteArray × Nat × Option FieldType × List (Nat × Nat × Nat × Nat) := (⟨"CurveSumsLaw", "span", "(LCurveSums;II[J)I"⟩, method_14_code, 5, (some .int), [(0, 10, 13, 13)])
def T_W_span : List (Nat × Instr × Nat) := [(0, .aload_n 3, 1), (1, .iconst 0, 1), (2, .aload_n 0, 1), (3, .iload_n 1, 1), (4, .iload_n 2, 1), (5, .invokevirtual 55, 3), (8, .i2l, 1), (9, .lastore, 1), (10, .goto 7, 3), (13, .astore 4, 2), (15, .iconst 1, 1), (16, .ireturn, 1), (17, .iconst 0, 1), (18, .ireturn, 1)]
def Y_C_span : MethodName × ByteArray × Nat × Option FieldType × List (Nat × Nat × Nat × Nat) := (⟨"CurveSums", "span", "(II)I"⟩, prog_1_method_13_code, 3, (some .int), [])
def T_C_span : List (Nat × Instr × Nat) := [(0, .iload_n 1, 1), (1, .ifCond .lt 14, 3), (4, .iload_n 1, 1), (5, .aload_n 0, 1), (6, .getfield 45, 3), (9, .getfield 176, 3), (12, .if_icmp .lt 13, 3), (15, .new 98, 3), (18, .dup, 1), (19, .ldc 179, 2), (21, .invokespecial 102, 3), (24, .athrow, 1), (25, .iload_n 2, 1), (26, .ifCond .lt 8, 3), (29, .iload_n 2, 1), (30, .iconst 1, 1), (31, .if_icmp .le 13, 3), (34, .new 98, 3), (37, .dup, 1), (38, .ldc 181, 2), (40, .invokespecial 102, 3), (43, .athrow, 1), (44, .iload_n 2, 1), (45, .ifCond .ne 15, 3), (48, .aload_n 0, 1), (49, .getfield 45, 3), (52, .getfield 183, 3), (55, .iload_n 1, 1), (56, .iaload, 1), (57, .goto 12, 3), (60, .aload_n 0, 1), (61, .getfield 45, 3), (64, .getfield 186, 3), (67, .iload_n 1, 1), (68, .iaload, 1), (69, .ireturn, 1)]
def Y_W_gap : MethodName × ByteArray × Nat × Option FieldType × List (Nat × Nat × Nat × Nat) := (⟨"CurveSumsLaw", "gap", "(LCurveSums;II[J)I"⟩, method_15_code, 5, (some .int), [(0, 10, 13, 13), (0, 10, 17, 15), (0, 10, 21, 21)])
def T_W_gap : List (Nat × Instr × Nat) := [(0, .aload_n 3, 1), (1, .iconst 0, 1), (2, .aload_n 0, 1), (3, .iload_n 1, 1), (4, .iload_n 2, 1), (5, .invokevirtual 58, 3), (8, .i2l, 1), (9, .lastore, 1), (10, .goto 15, 3), (13, .astore 4, 2), (15, .iconst 1, 1), (16, .ireturn, 1), (17, .astore 4, 2), (19, .iconst 2, 1), (20, .ireturn, 1), (21, .astore 4, 2), (23, .iconst 3, 1), (24, .ireturn, 1), (25, .iconst 0, 1), (26, .ireturn, 1)]
def Y_C_gap : MethodName × ByteArray × Nat × Option FieldType × List (Nat × Nat × Nat × Nat) := (⟨"CurveSums", "gap", "(II)I"⟩, prog_1_method_14_code, 3, (some .int), [])
def T_C_gap : List (Nat × Instr × Nat) := [(0, .aload_n 0, 1), (1, .iload_n 1, 1), (2, .invokevirtual 122, 3), (5, .iload_n 2, 1), (6, .ifCond .lt 9, 3), (9, .iload_n 2, 1), (10, .bipush 59, 2), (12, .if_icmp .le 13, 3), (15, .new 103, 3), (18, .dup, 1), (19, .ldc 189, 2), (21, .invokespecial 107, 3), (24, .athrow, 1), (25, .aload_n 0, 1), (26, .getfield 52, 3), (29, .getfield 191, 3), (32, .bipush 8, 2), (34, .if_icmp .lt 13, 3), (37, .new 87, 3), (40, .dup, 1), (41, .ldc 194, 2), (43, .invokespecial 91, 3), (46, .athrow, 1), (47, .aload_n 0, 1), (48, .getfield 52, 3), (51, .iload_n 1, 1), (52, .iload_n 2, 1), (53, .invokevirtual 196, 3), (56, .aload_n 0, 1), (57, .getfield 52, 3), (60, .getfield 191, 3), (63, .ireturn, 1)]
def Y_R_append : MethodName × ByteArray × Nat × Option FieldType × List (Nat × Nat × Nat × Nat) := (⟨"CurveSums$DateRow", "append", "(II)V"⟩, prog_2_method_2_code, 3, none, [])
def T_R_append : List (Nat × Instr × Nat) := [(0, .aload_n 0, 1), (1, .getfield 9, 3), (4, .aload_n 0, 1), (5, .getfield 18, 3), (8, .iload_n 1, 1), (9, .iastore, 1), (10, .aload_n 0, 1), (11, .getfield 15, 3), (14, .aload_n 0, 1), (15, .getfield 18, 3), (18, .iload_n 2, 1), (19, .iastore, 1), (20, .aload_n 0, 1), (21, .dup, 1), (22, .getfield 18, 3), (25, .iconst 1, 1), (26, .iadd, 1), (27, .putfield 18, 3), (30, .return_, 1)]
def Y_W_slid : MethodName × ByteArray × Nat × Option FieldType × List (Nat × Nat × Nat × Nat) := (⟨"CurveSumsLaw", "slid", "(LCurveSums;I[J)I"⟩, method_16_code, 4, (some .int), [(0, 9, 12, 13)])
def T_W_slid : List (Nat × Instr × Nat) := [(0, .aload_n 2, 1), (1, .iconst 0, 1), (2, .aload_n 0, 1), (3, .iload_n 1, 1), (4, .invokevirtual 61, 3), (7, .i2l, 1), (8, .lastore, 1), (9, .goto 6, 3), (12, .astore_n 3, 1), (13, .iconst 1, 1), (14, .ireturn, 1), (15, .iconst 0, 1), (16, .ireturn, 1)]
def Y_C_slid : MethodName × ByteArray × Nat × Option FieldType × List (Nat × Nat × Nat × Nat) := (⟨"CurveSums", "slid", "(I)I"⟩, prog_1_method_15_code, 2, (some .int), [])
def T_C_slid : List (Nat × Instr × Nat) := [(0, .aload_n 0, 1), (1, .iload_n 1, 1), (2, .invokevirtual 73, 3), (5, .aload_n 0, 1), (6, .getfield 52, 3), (9, .iload_n 1, 1), (10, .aload_n 0, 1), (11, .getfield 37, 3), (14, .invokevirtual 199, 3), (17, .ireturn, 1)]
def Y_W_unit : MethodName × ByteArray × Nat × Option FieldType × List (Nat × Nat × Nat × Nat) := (⟨"CurveSumsLaw", "unit", "(LCurveSums;II[J)I"⟩, method_17_code, 5, (some .int), [(0, 10, 13, 15), (0, 10, 17, 21)])
def T_W_unit : List (Nat × Instr × Nat) := [(0, .aload_n 3, 1), (1, .iconst 0, 1), (2, .aload_n 0, 1), (3, .iload_n 1, 1), (4, .iload_n 2, 1), (5, .invokevirtual 64, 3), (8, .i2l, 1), (9, .lastore, 1), (10, .goto 11, 3), (13, .astore 4, 2), (15, .iconst 1, 1), (16, .ireturn, 1), (17, .astore 4, 2), (19, .iconst 2, 1), (20, .ireturn, 1), (21, .iconst 0, 1), (22, .ireturn, 1)]
def Y_C_unit : MethodName × ByteArray × Nat × Option FieldType × List (Nat × Nat × Nat × Nat) := (⟨"CurveSums", "unit", "(II)I"⟩, prog_1_method_18_code, 3, (some .int), [])
def T_C_unit : List (Nat × Instr × Nat) := [(0, .iload_n 1, 1), (1, .invokestatic 203, 3), (4, .ifCond .eq 10, 3), (7, .iload_n 2, 1), (8, .invokestatic 203, 3), (11, .ifCond .ne 13, 3), (14, .new 103, 3), (17, .dup, 1), (18, .ldc 207, 2), (20, .invokespecial 107, 3), (23, .athrow, 1), (24, .aload_n 0, 1), (25, .getfield 59, 3), (28, .getfield 209, 3), (31, .iload_n 1, 1), (32, .invokestatic 210, 3), (35, .iadd, 1), (36, .iload_n 2, 1), (37, .invokestatic 210, 3), (40, .iadd, 1), (41, .bipush 100, 2), (43, .if_icmp .le 13, 3), (46, .new 87, 3), (49, .dup, 1), (50, .ldc 213, 2), (52, .invokespecial 91, 3), (55, .athrow, 1), (56, .aload_n 0, 1), (57, .getfield 59, 3), (60, .iload_n 1, 1), (61, .invokevirtual 215, 3), (64, .aload_n 0, 1), (65, .getfield 59, 3), (68, .iload_n 2, 1), (69, .invokevirtual 215, 3), (72, .aload_n 0, 1), (73, .getfield 59, 3), (76, .getfield 209, 3), (79, .ireturn, 1)]
def Y_P_holdsSignsAlone : MethodName × ByteArray × Nat × Option FieldType × List (Nat × Nat × Nat × Nat) := (⟨"CurveSums$Pad", "holdsSignsAlone", "(I)Z"⟩, prog_6_method_2_code, 3, (some .boolean), [])
def T_P_holdsSignsAlone : List (Nat × Instr × Nat) := [(0, .iconst 0, 1), (1, .istore_n 1, 1), (2, .iload_n 1, 1), (3, .bipush 32, 2), (5, .if_icmp .ge 33, 3), (8, .iload_n 0, 1), (9, .iload_n 1, 1), (10, .invokestatic 15, 3), (13, .istore_n 2, 1), (14, .iload_n 2, 1), (15, .ifCond .eq 17, 3), (18, .iload_n 2, 1), (19, .bipush 32, 2), (21, .if_icmp .lt 9, 3), (24, .iload_n 2, 1), (25, .bipush 126, 2), (27, .if_icmp .le 5, 3), (30, .iconst 0, 1), (31, .ireturn, 1), (32, .iinc 1 8, 3), (35, .goto (-33), 3), (38, .iconst 1, 1), (39, .ireturn, 1)]
def Y_P_signAt : MethodName × ByteArray × Nat × Option FieldType × List (Nat × Nat × Nat × Nat) := (⟨"CurveSums$Pad", "signAt", "(II)I"⟩, prog_6_method_5_code, 2, (some .int), [])
def T_P_signAt : List (Nat × Instr × Nat) := [(0, .iload_n 0, 1), (1, .iload_n 1, 1), (2, .iushr, 1), (3, .sipush 255, 3), (6, .iand, 1), (7, .ireturn, 1)]
def Y_P_signsIn : MethodName × ByteArray × Nat × Option FieldType × List (Nat × Nat × Nat × Nat) := (⟨"CurveSums$Pad", "signsIn", "(I)I"⟩, prog_6_method_3_code, 3, (some .int), [])
def T_P_signsIn : List (Nat × Instr × Nat) := [(0, .iconst 0, 1), (1, .istore_n 1, 1), (2, .iconst 0, 1), (3, .istore_n 2, 1), (4, .iload_n 2, 1), (5, .bipush 32, 2), (7, .if_icmp .ge 20, 3), (10, .iload_n 0, 1), (11, .iload_n 2, 1), (12, .invokestatic 15, 3), (15, .ifCond .eq 6, 3), (18, .iinc 1 1, 3), (21, .iinc 2 8, 3), (24, .goto (-20), 3), (27, .iload_n 1, 1), (28, .ireturn, 1)]
def Y_P_append : MethodName × ByteArray × Nat × Option FieldType × List (Nat × Nat × Nat × Nat) := (⟨"CurveSums$Pad", "append", "(I)V"⟩, prog_6_method_4_code, 4, none, [])
def T_P_append : List (Nat × Instr × Nat) := [(0, .iconst 0, 1), (1, .istore_n 2, 1), (2, .iload_n 2, 1), (3, .bipush 32, 2), (5, .if_icmp .ge 51, 3), (8, .iload_n 1, 1), (9, .iload_n 2, 1), (10, .invokestatic 15, 3), (13, .istore_n 3, 1), (14, .iload_n 3, 1), (15, .ifCond .eq 35, 3), (18, .aload_n 0, 1), (19, .getfield 19, 3), (22, .aload_n 0, 1), (23, .getfield 9, 3), (26, .arraylength, 1), (27, .if_icmp .ge 23, 3), (30, .aload_n 0, 1), (31, .getfield 9, 3), (34, .aload_n 0, 1), (35, .getfield 19, 3), (38, .iload_n 3, 1), (39, .iastore, 1), (40, .aload_n 0, 1), (41, .dup, 1), (42, .getfield 19, 3), (45, .iconst 1, 1), (46, .iadd, 1), (47, .putfield 19, 3), (50, .iinc 2 8, 3), (53, .goto (-51), 3), (56, .return_, 1)]
def Y_W_count : MethodName × ByteArray × Nat × Option FieldType × List (Nat × Nat × Nat × Nat) := (⟨"CurveSumsLaw", "count", "(LCurveSums;I[J)I"⟩, method_18_code, 4, (some .int), [(0, 9, 12, 13)])
def T_W_count : List (Nat × Instr × Nat) := [(0, .aload_n 2, 1), (1, .iconst 0, 1), (2, .aload_n 0, 1), (3, .iload_n 1, 1), (4, .invokevirtual 67, 3), (7, .i2l, 1), (8, .lastore, 1), (9, .goto 6, 3), (12, .astore_n 3, 1), (13, .iconst 1, 1), (14, .ireturn, 1), (15, .iconst 0, 1), (16, .ireturn, 1)]
def Y_C_count : MethodName × ByteArray × Nat × Option FieldType × List (Nat × Nat × Nat × Nat) := (⟨"CurveSums", "count", "(I)I"⟩, prog_1_method_20_code, 2, (some .int), [])
def T_C_count : List (Nat × Instr × Nat) := [(0, .iload_n 1, 1), (1, .tableswitch 92 0 6 #[43, 48, 53, 58, 63, 71, 79], 43), (44, .aload_n 0, 1), (45, .getfield 18, 3), (48, .ireturn, 1), (49, .aload_n 0, 1), (50, .getfield 70, 3), (53, .ireturn, 1), (54, .aload_n 0, 1), (55, .getfield 80, 3), (58, .ireturn, 1), (59, .aload_n 0, 1), (60, .getfield 138, 3), (63, .ireturn, 1), (64, .aload_n 0, 1), (65, .getfield 52, 3), (68, .getfield 191, 3), (71, .ireturn, 1), (72, .aload_n 0, 1), (73, .getfield 59, 3), (76, .getfield 209, 3), (79, .ireturn, 1), (80, .aload_n 0, 1), (81, .getfield 28, 3), (84, .aload_n 0, 1), (85, .getfield 80, 3), (88, .aaload, 1), (89, .getfield 230, 3), (92, .ireturn, 1), (93, .new 98, 3), (96, .dup, 1), (97, .ldc 233, 2), (99, .invokespecial 102, 3), (102, .athrow, 1)]
def Y_M_init : MethodName × ByteArray × Nat × Option FieldType × List (Nat × Nat × Nat × Nat) := (⟨"CurveSumsModel", "<init>", "(II)V"⟩, prog_9_method_1_code, 3, none, [])
def T_M_init : List (Nat × Instr × Nat) := [(0, .aload_n 0, 1), (1, .invokespecial 1, 3), (4, .aload_n 0, 1), (5, .iconst 1, 1), (6, .putfield 7, 3), (9, .aload_n 0, 1), (10, .sipush 240, 3), (13, .newarray .int, 2), (15, .putfield 13, 3), (18, .aload_n 0, 1), (19, .sipush 240, 3), (22, .newarray .int, 2), (24, .putfield 17, 3), (27, .aload_n 0, 1), (28, .sipush 720, 3), (31, .newarray .int, 2), (33, .putfield 20, 3), (36, .aload_n 0, 1), (37, .bipush 12, 2), (39, .newarray .int, 2), (41, .putfield 23, 3), (44, .aload_n 0, 1), (45, .bipush 12, 2), (47, .newarray .int, 2), (49, .putfield 26, 3), (52, .aload_n 0, 1), (53, .bipush 60, 2), (55, .newarray .boolean, 2), (57, .putfield 29, 3), (60, .aload_n 0, 1), (61, .bipush 8, 2), (63, .newarray .int, 2), (65, .putfield 33, 3), (68, .aload_n 0, 1), (69, .bipush 8, 2), (71, .newarray .int, 2), (73, .putfield 36, 3), (76, .aload_n 0, 1), (77, .bipush 100, 2), (79, .newarray .int, 2), (81, .putfield 39, 3), (84, .aload_n 0, 1), (85, .bipush 40, 2), (87, .newarray .int, 2), (89, .putfield 42, 3), (92, .aload_n 0, 1), (93, .bipush 40, 2), (95, .newarray .int, 2), (97, .putfield 45, 3), (100, .aload_n 0, 1), (101, .bipush 40, 2), (103, .newarray .int, 2), (105, .putfield 48, 3), (108, .aload_n 0, 1), (109, .iload_n 1, 1), (110, .bipush 8, 2), (112, .if_icmp .ge 8, 3), (115, .bipush 8, 2), (117, .goto 15, 3), (120, .iload_n 1, 1), (121, .bipush 60, 2), (123, .if_icmp .le 8, 3), (126, .bipush 60, 2), (128, .goto 4, 3), (131, .iload_n 1, 1), (132, .putfield 51, 3), (135, .aload_n 0, 1), (136, .iload_n 2, 1), (137, .iconst 1, 1), (138, .if_icmp .ge 7, 3), (141, .iconst 1, 1), (142, .goto 15, 3), (145, .iload_n 2, 1), (146, .ldc 54, 2), (148, .if_icmp .le 8, 3), (151, .ldc 54, 2), (153, .goto 4, 3), (156, .iload_n 2, 1), (157, .putfield 55, 3), (160, .return_, 1)]
def Y_M_thrown : MethodName × ByteArray × Nat × Option FieldType × List (Nat × Nat × Nat × Nat) := (⟨"CurveSumsModel", "thrown", "()I"⟩, prog_9_method_2_code, 1, (some .int), [])
def T_M_thrown : List (Nat × Instr × Nat) := [(0, .aload_n 0, 1), (1, .getfield 58, 3), (4, .ireturn, 1)]
def Y_M_curve : MethodName × ByteArray × Nat × Option FieldType × List (Nat × Nat × Nat × Nat) := (⟨"CurveSumsModel", "curve", "(III)Z"⟩, prog_9_method_8_code, 4, (some .boolean), [])
def T_M_curve : List (Nat × Instr × Nat) := [(0, .aload_n 0, 1), (1, .aload_n 0, 1), (2, .iload_n 1, 1), (3, .invokevirtual 71, 3), (6, .iload_n 2, 1), (7, .iconst 0, 1), (8, .sipush 3000, 3), (11, .invokestatic 61, 3), (14, .ifCond .eq 17, 3), (17, .iload_n 3, 1), (18, .iconst 1, 1), (19, .bipush 100, 2), (21, .invokestatic 61, 3), (24, .ifCond .eq 7, 3), (27, .iconst 1, 1), (28, .goto 4, 3), (31, .iconst 0, 1), (32, .iconst 1, 1), (33, .invokevirtual 75, 3), (36, .ifCond .ne 5, 3), (39, .iconst 0, 1), (40, .ireturn, 1), (41, .aload_n 0, 1), (42, .iload_n 1, 1), (43, .iload_n 2, 1), (44, .iload_n 3, 1), (45, .invokevirtual 79, 3), (48, .ireturn, 1)]
def Y_M_isYear : MethodName × ByteArray × Nat × Option FieldType × List (Nat × Nat × Nat × Nat) := (⟨"CurveSumsModel", "isYear", "(I)Z"⟩, prog_9_method_5_code, 2, (some .boolean), [])
def T_M_isYear : List (Nat × Instr × Nat) := [(0, .iload_n 1, 1), (1, .iconst 0, 1), (2, .aload_n 0, 1), (3, .getfield 51, 3), (6, .iconst 1, 1), (7, .isub, 1), (8, .invokestatic 61, 3), (11, .ireturn, 1)]
def Y_M_within : MethodName × ByteArray × Nat × Option FieldType × List (Nat × Nat × Nat × Nat) := (⟨"CurveSumsModel", "within", "(III)Z"⟩, prog_9_method_4_code, 3, (some .boolean), [])
def T_M_within : List (Nat × Instr × Nat) := [(0, .iload_n 0, 1), (1, .iload_n 1, 1), (2, .if_icmp .lt 12, 3), (5, .iload_n 0, 1), (6, .iload_n 2, 1), (7, .if_icmp .gt 7, 3), (10, .iconst 1, 1), (11, .goto 4, 3), (14, .iconst 0, 1), (15, .ireturn, 1)]
def Y_M_goes : MethodName × ByteArray × Nat × Option FieldType × List (Nat × Nat × Nat × Nat) := (⟨"CurveSumsModel", "goes", "(ZZZ)Z"⟩, prog_9_method_3_code, 4, (some .boolean), [])
def T_M_goes : List (Nat × Instr × Nat) := [(0, .aload_n 0, 1), (1, .iload_n 1, 1), (2, .ifCond .ne 7, 3), (5, .iconst 1, 1), (6, .goto 20, 3), (9, .iload_n 2, 1), (10, .ifCond .ne 7, 3), (13, .iconst 2, 1), (14, .goto 12, 3), (17, .iload_n 3, 1), (18, .ifCond .ne 7, 3), (21, .iconst 3, 1), (22, .goto 4, 3), (25, .iconst 0, 1), (26, .putfield 58, 3), (29, .aload_n 0, 1), (30, .getfield 58, 3), (33, .ifCond .ne 7, 3), (36, .iconst 1, 1), (37, .goto 4, 3), (40, .iconst 0, 1), (41, .ireturn, 1)]
def Y_M_put : MethodName × ByteArray × Nat × Option FieldType × List (Nat × Nat × Nat × Nat) := (⟨"CurveSumsModel", "put", "(III)Z"⟩, prog_9_method_7_code, 5, (some .boolean), [])
def T_M_put : List (Nat × Instr × Nat) := [(0, .aload_n 0, 1), (1, .getfield 17, 3), (4, .bipush 60, 2), (6, .aload_n 0, 1), (7, .getfield 68, 3), (10, .imul, 1), (11, .iload_n 1, 1), (12, .iadd, 1), (13, .iaload, 1), (14, .ifCond .le 7, 3), (17, .iconst 1, 1), (18, .goto 4, 3), (21, .iconst 0, 1), (22, .istore 4, 2), (24, .aload_n 0, 1), (25, .getfield 13, 3), (28, .bipush 60, 2), (30, .aload_n 0, 1), (31, .getfield 68, 3), (34, .imul, 1), (35, .iload_n 1, 1), (36, .iadd, 1), (37, .iload_n 2, 1), (38, .iastore, 1), (39, .aload_n 0, 1), (40, .getfield 17, 3), (43, .bipush 60, 2), (45, .aload_n 0, 1), (46, .getfield 68, 3), (49, .imul, 1), (50, .iload_n 1, 1), (51, .iadd, 1), (52, .iload_n 3, 1), (53, .iastore, 1), (54, .iload 4, 2), (56, .ireturn, 1)]
def Y_M_edition : MethodName × ByteArray × Nat × Option FieldType × List (Nat × Nat × Nat × Nat) := (⟨"CurveSumsModel", "edition", "()I"⟩, prog_9_method_9_code, 2, (some .int), [])
def T_M_edition : List (Nat × Instr × Nat) := [(0, .aload_n 0, 1), (1, .aload_n 0, 1), (2, .getfield 7, 3), (5, .iconst 4, 1), (6, .if_icmp .ge 7, 3), (9, .iconst 1, 1), (10, .goto 4, 3), (13, .iconst 0, 1), (14, .iconst 1, 1), (15, .iconst 1, 1), (16, .invokevirtual 75, 3), (19, .ifCond .ne 5, 3), (22, .iconst 0, 1), (23, .ireturn, 1), (24, .iconst 0, 1), (25, .istore_n 1, 1), (26, .iload_n 1, 1), (27, .bipush 60, 2), (29, .if_icmp .ge 65, 3), (32, .aload_n 0, 1), (33, .getfield 13, 3), (36, .bipush 60, 2), (38, .aload_n 0, 1), (39, .getfield 7, 3), (42, .imul, 1), (43, .iload_n 1, 1), (44, .iadd, 1), (45, .aload_n 0, 1), (46, .getfield 13, 3), (49, .bipush 60, 2), (51, .aload_n 0, 1), (52, .getfield 68, 3), (55, .imul, 1), (56, .iload_n 1, 1), (57, .iadd, 1), (58, .iaload, 1), (59, .iastore, 1), (60, .aload_n 0, 1), (61, .getfield 17, 3), (64, .bipush 60, 2), (66, .aload_n 0, 1), (67, .getfield 7, 3), (70, .imul, 1), (71, .iload_n 1, 1), (72, .iadd, 1), (73, .aload_n 0, 1), (74, .getfield 17, 3), (77, .bipush 60, 2), (79, .aload_n 0, 1), (80, .getfield 68, 3), (83, .imul, 1), (84, .iload_n 1, 1), (85, .iadd, 1), (86, .iaload, 1), (87, .iastore, 1), (88, .iinc 1 1, 3), (91, .goto (-65), 3), (94, .aload_n 0, 1), (95, .aload_n 0, 1), (96, .getfield 7, 3), (99, .putfield 68, 3), (102, .aload_n 0, 1), (103, .dup, 1), (104, .getfield 7, 3), (107, .iconst 1, 1), (108, .iadd, 1), (109, .putfield 7, 3), (112, .aload_n 0, 1), (113, .getfield 68, 3), (116, .ireturn, 1)]
def Y_M_use : MethodName × ByteArray × Nat × Option FieldType × List (Nat × Nat × Nat × Nat) := (⟨"CurveSumsModel", "use", "(I)I"⟩, prog_9_method_10_code, 3, (some .int), [])
def T_M_use : List (Nat × Instr × Nat) := [(0, .aload_n 0, 1), (1, .iload_n 1, 1), (2, .iconst 0, 1), (3, .aload_n 0, 1), (4, .getfield 7, 3), (7, .iconst 1, 1), (8, .isub, 1), (9, .invokestatic 61, 3), (12, .iconst 1, 1), (13, .iconst 1, 1), (14, .invokevirtual 75, 3), (17, .ifCond .ne 5, 3), (20, .iconst 0, 1), (21, .ireturn, 1), (22, .aload_n 0, 1), (23, .getfield 68, 3), (26, .istore_n 2, 1), (27, .aload_n 0, 1), (28, .iload_n 1, 1), (29, .putfield 68, 3), (32, .iload_n 2, 1), (33, .ireturn, 1)]
def Y_M_reservoir : MethodName × ByteArray × Nat × Option FieldType × List (Nat × Nat × Nat × Nat) := (⟨"CurveSumsModel", "reservoir", "(II)V"⟩, prog_9_method_11_code, 3, none, [])
def T_M_reservoir : List (Nat × Instr × Nat) := [(0, .aload_n 0, 1), (1, .iload_n 1, 1), (2, .sipush (-1000), 3), (5, .sipush 1000, 3), (8, .invokestatic 61, 3), (11, .ifCond .eq 17, 3), (14, .iload_n 2, 1), (15, .iconst 0, 1), (16, .bipush 100, 2), (18, .invokestatic 61, 3), (21, .ifCond .eq 7, 3), (24, .iconst 1, 1), (25, .goto 4, 3), (28, .iconst 0, 1), (29, .iconst 1, 1), (30, .iconst 1, 1), (31, .invokevirtual 75, 3), (34, .ifCond .eq 13, 3), (37, .aload_n 0, 1), (38, .iload_n 1, 1), (39, .putfield 82, 3), (42, .aload_n 0, 1), (43, .iload_n 2, 1), (44, .putfield 85, 3), (47, .return_, 1)]
def Y_M_date : MethodName × ByteArray × Nat × Option FieldType × List (Nat × Nat × Nat × Nat) := (⟨"CurveSumsModel", "date", "(II)I"⟩, prog_9_method_14_code, 3, (some .int), [])
def T_M_date : List (Nat × Instr × Nat) := [(0, .aload_n 0, 1), (1, .iload_n 1, 1), (2, .iconst 0, 1), (3, .sipush 3000, 3), (6, .invokestatic 61, 3), (9, .ifCond .eq 17, 3), (12, .iload_n 2, 1), (13, .iconst 1, 1), (14, .bipush 100, 2), (16, .invokestatic 61, 3), (19, .ifCond .eq 7, 3), (22, .iconst 1, 1), (23, .goto 4, 3), (26, .iconst 0, 1), (27, .aload_n 0, 1), (28, .getfield 65, 3), (31, .bipush 12, 2), (33, .if_icmp .ge 7, 3), (36, .iconst 1, 1), (37, .goto 4, 3), (40, .iconst 0, 1), (41, .iconst 1, 1), (42, .invokevirtual 75, 3), (45, .ifCond .ne 5, 3), (48, .iconst 0, 1), (49, .ireturn, 1), (50, .aload_n 0, 1), (51, .iload_n 1, 1), (52, .iload_n 2, 1), (53, .invokevirtual 92, 3), (56, .ireturn, 1)]
def Y_M_measure : MethodName × ByteArray × Nat × Option FieldType × List (Nat × Nat × Nat × Nat) := (⟨"CurveSumsModel", "measure", "(II)I"⟩, prog_9_method_13_code, 4, (some .int), [])
def T_M_measure : List (Nat × Instr × Nat) := [(0, .iconst 0, 1), (1, .istore_n 3, 1), (2, .iload_n 3, 1), (3, .aload_n 0, 1), (4, .getfield 51, 3), (7, .if_icmp .ge 30, 3), (10, .aload_n 0, 1), (11, .getfield 20, 3), (14, .bipush 60, 2), (16, .aload_n 0, 1), (17, .getfield 65, 3), (20, .imul, 1), (21, .iload_n 3, 1), (22, .iadd, 1), (23, .aload_n 0, 1), (24, .iload_n 1, 1), (25, .iload_n 2, 1), (26, .iload_n 3, 1), (27, .invokevirtual 88, 3), (30, .iastore, 1), (31, .iinc 3 1, 3), (34, .goto (-32), 3), (37, .aload_n 0, 1), (38, .getfield 23, 3), (41, .aload_n 0, 1), (42, .getfield 65, 3), (45, .iload_n 1, 1), (46, .iastore, 1), (47, .aload_n 0, 1), (48, .getfield 26, 3), (51, .aload_n 0, 1), (52, .getfield 65, 3), (55, .iload_n 2, 1), (56, .iastore, 1), (57, .aload_n 0, 1), (58, .dup, 1), (59, .getfield 65, 3), (62, .iconst 1, 1), (63, .iadd, 1), (64, .putfield 65, 3), (67, .aload_n 0, 1), (68, .getfield 65, 3), (71, .iconst 1, 1), (72, .isub, 1), (73, .ireturn, 1)]
def Y_M_weigh : MethodName × ByteArray × Nat × Option FieldType × List (Nat × Nat × Nat × Nat) := (⟨"CurveSumsModel", "weigh", "(III)I"⟩, prog_9_method_12_code, 11, (some .int), [])
def T_M_weigh : List (Nat × Instr × Nat) := [(0, .aload_n 0, 1), (1, .getfield 17, 3), (4, .bipush 60, 2), (6, .aload_n 0, 1), (7, .getfield 68, 3), (10, .imul, 1), (11, .iload_n 3, 1), (12, .iadd, 1), (13, .iaload, 1), (14, .istore 4, 2), (16, .iload 4, 2), (18, .ifCond .ne 5, 3), (21, .iconst 0, 1), (22, .ireturn, 1), (23, .iload_n 2, 1), (24, .iload_n 2, 1), (25, .imul, 1), (26, .aload_n 0, 1), (27, .getfield 85, 3), (30, .aload_n 0, 1), (31, .getfield 85, 3), (34, .imul, 1), (35, .iadd, 1), (36, .iload 4, 2), (38, .iload 4, 2), (40, .imul, 1), (41, .iadd, 1), (42, .i2l, 1), (43, .lstore 5, 2), (45, .iload_n 1, 1), (46, .aload_n 0, 1), (47, .getfield 82, 3), (50, .isub, 1), (51, .aload_n 0, 1), (52, .getfield 13, 3), (55, .bipush 60, 2), (57, .aload_n 0, 1), (58, .getfield 68, 3), (61, .imul, 1), (62, .iload_n 3, 1), (63, .iadd, 1), (64, .iaload, 1), (65, .isub, 1), (66, .i2l, 1), (67, .lstore 7, 2), (69, .lload 5, 2), (71, .lload 7, 2), (73, .lload 7, 2), (75, .lmul, 1), (76, .ladd, 1), (77, .lstore 9, 2), (79, .aload_n 0, 1), (80, .getfield 55, 3), (83, .i2l, 1), (84, .lload 5, 2), (86, .lmul, 1), (87, .lload 5, 2), (89, .lmul, 1), (90, .lload 9, 2), (92, .lload 9, 2), (94, .lmul, 1), (95, .ldiv, 1), (96, .l2i, 1), (97, .ireturn, 1)]
def Y_M_weight : MethodName × ByteArray × Nat × Option FieldType × List (Nat × Nat × Nat × Nat) := (⟨"CurveSumsModel", "weight", "(II)I"⟩, prog_9_method_15_code, 3, (some .int), [])
def T_M_weight : List (Nat × Instr × Nat) := [(0, .aload_n 0, 1), (1, .aload_n 0, 1), (2, .iload_n 1, 1), (3, .invokevirtual 96, 3), (6, .ifCond .eq 15, 3), (9, .aload_n 0, 1), (10, .iload_n 2, 1), (11, .invokevirtual 71, 3), (14, .ifCond .eq 7, 3), (17, .iconst 1, 1), (18, .goto 4, 3), (21, .iconst 0, 1), (22, .iconst 1, 1), (23, .iconst 1, 1), (24, .invokevirtual 75, 3), (27, .ifCond .eq 17, 3), (30, .aload_n 0, 1), (31, .getfield 20, 3), (34, .bipush 60, 2), (36, .iload_n 1, 1), (37, .imul, 1), (38, .iload_n 2, 1), (39, .iadd, 1), (40, .iaload, 1), (41, .goto 4, 3), (44, .iconst 0, 1), (45, .ireturn, 1)]
def Y_M_isDate : MethodName × ByteArray × Nat × Option FieldType × List (Nat × Nat × Nat × Nat) := (⟨"CurveSumsModel", "isDate", "(I)Z"⟩, prog_9_method_6_code, 2, (some .boolean), [])
def T_M_isDate : List (Nat × Instr × Nat) := [(0, .iload_n 1, 1), (1, .iconst 0, 1), (2, .aload_n 0, 1), (3, .getfield 65, 3), (6, .iconst 1, 1), (7, .isub, 1), (8, .invokestatic 61, 3), (11, .ireturn, 1)]
def Y_M_total : MethodName × ByteArray × Nat × Option FieldType × List (Nat × Nat × Nat × Nat) := (⟨"CurveSumsModel", "total", "(I)I"⟩, prog_9_method_17_code, 2, (some .int), [])
def T_M_total : List (Nat × Instr × Nat) := [(0, .aload_n 0, 1), (1, .aload_n 0, 1), (2, .iload_n 1, 1), (3, .invokevirtual 96, 3), (6, .iconst 1, 1), (7, .iconst 1, 1), (8, .invokevirtual 75, 3), (11, .ifCond .eq 11, 3), (14, .aload_n 0, 1), (15, .iload_n 1, 1), (16, .invokevirtual 99, 3), (19, .goto 4, 3), (22, .iconst 0, 1), (23, .ireturn, 1)]
def Y_M_totalOf : MethodName × ByteArray × Nat × Option FieldType × List (Nat × Nat × Nat × Nat) := (⟨"CurveSumsModel", "totalOf", "(I)I"⟩, prog_9_method_16_code, 4, (some .int), [])
def T_M_totalOf : List (Nat × Instr × Nat) := [(0, .iconst 0, 1), (1, .istore_n 2, 1), (2, .iconst 0, 1), (3, .istore_n 3, 1), (4, .iload_n 3, 1), (5, .aload_n 0, 1), (6, .getfield 51, 3), (9, .if_icmp .ge 23, 3), (12, .iload_n 2, 1), (13, .aload_n 0, 1), (14, .getfield 20, 3), (17, .bipush 60, 2), (19, .iload_n 1, 1), (20, .imul, 1), (21, .iload_n 3, 1), (22, .iadd, 1), (23, .iaload, 1), (24, .iadd, 1), (25, .istore_n 2, 1), (26, .iinc 3 1, 3), (29, .goto (-25), 3), (32, .iload_n 2, 1), (33, .ireturn, 1)]
def Y_M_sum : MethodName × ByteArray × Nat × Option FieldType × List (Nat × Nat × Nat × Nat) := (⟨"CurveSumsModel", "sum", "(II)I"⟩, prog_9_method_18_code, 5, (some .int), [])
def T_M_sum : List (Nat × Instr × Nat) := [(0, .aload_n 0, 1), (1, .aload_n 0, 1), (2, .iload_n 1, 1), (3, .invokevirtual 96, 3), (6, .ifCond .eq 15, 3), (9, .aload_n 0, 1), (10, .iload_n 2, 1), (11, .invokevirtual 96, 3), (14, .ifCond .eq 7, 3), (17, .iconst 1, 1), (18, .goto 4, 3), (21, .iconst 0, 1), (22, .aload_n 0, 1), (23, .getfield 65, 3), (26, .bipush 12, 2), (28, .if_icmp .ge 7, 3), (31, .iconst 1, 1), (32, .goto 4, 3), (35, .iconst 0, 1), (36, .iconst 1, 1), (37, .invokevirtual 75, 3), (40, .ifCond .ne 5, 3), (43, .iconst 0, 1), (44, .ireturn, 1), (45, .iconst 1, 1), (46, .istore_n 3, 1), (47, .iconst 0, 1), (48, .istore 4, 2), (50, .iload 4, 2), (52, .aload_n 0, 1), (53, .getfield 51, 3), (56, .if_icmp .ge 79, 3), (59, .aload_n 0, 1), (60, .getfield 20, 3), (63, .bipush 60, 2), (65, .aload_n 0, 1), (66, .getfield 65, 3), (69, .imul, 1), (70, .iload 4, 2), (72, .iadd, 1), (73, .aload_n 0, 1), (74, .getfield 20, 3), (77, .bipush 60, 2), (79, .iload_n 1, 1), (80, .imul, 1), (81, .iload 4, 2), (83, .iadd, 1), (84, .iaload, 1), (85, .aload_n 0, 1), (86, .getfield 20, 3), (89, .bipush 60, 2), (91, .iload_n 2, 1), (92, .imul, 1), (93, .iload 4, 2), (95, .iadd, 1), (96, .iaload, 1), (97, .iadd, 1), (98, .iastore, 1), (99, .iload_n 3, 1), (100, .ifCond .eq 27, 3), (103, .aload_n 0, 1), (104, .getfield 20, 3), (107, .bipush 60, 2), (109, .aload_n 0, 1), (110, .getfield 65, 3), (113, .imul, 1), (114, .iload 4, 2), (116, .iadd, 1), (117, .iaload, 1), (118, .ldc 103, 2), (120, .if_icmp .gt 7, 3), (123, .iconst 1, 1), (124, .goto 4, 3), (127, .iconst 0, 1), (128, .istore_n 3, 1), (129, .iinc 4 1, 3), (132, .goto (-82), 3), (135, .iload_n 3, 1), (136, .ifCond .ne 5, 3), (139, .iconst (-1), 1), (140, .ireturn, 1), (141, .aload_n 0, 1), (142, .getfield 26, 3), (145, .aload_n 0, 1), (146, .getfield 65, 3), (149, .iconst 0, 1), (150, .iastore, 1), (151, .aload_n 0, 1), (152, .dup, 1), (153, .getfield 65, 3), (156, .iconst 1, 1), (157, .iadd, 1), (158, .putfield 65, 3), (161, .aload_n 0, 1), (162, .getfield 65, 3), (165, .iconst 1, 1), (166, .isub, 1), (167, .ireturn, 1)]
def Y_M_mix : MethodName × ByteArray × Nat × Option FieldType × List (Nat × Nat × Nat × Nat) := (⟨"CurveSumsModel", "mix", "(IIII)I"⟩, prog_9_method_19_code, 8, (some .int), [])
def T_M_mix : List (Nat × Instr × Nat) := [(0, .aload_n 0, 1), (1, .aload_n 0, 1), (2, .iload_n 1, 1), (3, .invokevirtual 96, 3), (6, .ifCond .eq 15, 3), (9, .aload_n 0, 1), (10, .iload_n 2, 1), (11, .invokevirtual 96, 3), (14, .ifCond .eq 7, 3), (17, .iconst 1, 1), (18, .goto 4, 3), (21, .iconst 0, 1), (22, .iload 4, 2), (24, .iconst 1, 1), (25, .sipush 1000, 3), (28, .invokestatic 61, 3), (31, .ifCond .eq 17, 3), (34, .iload_n 3, 1), (35, .iconst 0, 1), (36, .iload 4, 2), (38, .invokestatic 61, 3), (41, .ifCond .eq 7, 3), (44, .iconst 1, 1), (45, .goto 4, 3), (48, .iconst 0, 1), (49, .aload_n 0, 1), (50, .getfield 65, 3), (53, .bipush 12, 2), (55, .if_icmp .ge 7, 3), (58, .iconst 1, 1), (59, .goto 4, 3), (62, .iconst 0, 1), (63, .invokevirtual 75, 3), (66, .ifCond .ne 5, 3), (69, .iconst 0, 1), (70, .ireturn, 1), (71, .iconst 0, 1), (72, .istore 5, 2), (74, .iload 5, 2), (76, .aload_n 0, 1), (77, .getfield 51, 3), (80, .if_icmp .ge 69, 3), (83, .iload_n 3, 1), (84, .i2l, 1), (85, .aload_n 0, 1), (86, .getfield 20, 3), (89, .bipush 60, 2), (91, .iload_n 1, 1), (92, .imul, 1), (93, .iload 5, 2), (95, .iadd, 1), (96, .iaload, 1), (97, .i2l, 1), (98, .lmul, 1), (99, .iload 4, 2), (101, .iload_n 3, 1), (102, .isub, 1), (103, .i2l, 1), (104, .aload_n 0, 1), (105, .getfield 20, 3), (108, .bipush 60, 2), (110, .iload_n 2, 1), (111, .imul, 1), (112, .iload 5, 2), (114, .iadd, 1), (115, .iaload, 1), (116, .i2l, 1), (117, .lmul, 1), (118, .ladd, 1), (119, .lstore 6, 2), (121, .aload_n 0, 1), (122, .getfield 20, 3), (125, .bipush 60, 2), (127, .aload_n 0, 1), (128, .getfield 65, 3), (131, .imul, 1), (132, .iload 5, 2), (134, .iadd, 1), (135, .lload 6, 2), (137, .iload 4, 2), (139, .i2l, 1), (140, .ldiv, 1), (141, .l2i, 1), (142, .iastore, 1), (143, .iinc 5 1, 3), (146, .goto (-72), 3), (149, .aload_n 0, 1), (150, .getfield 26, 3), (153, .aload_n 0, 1), (154, .getfield 65, 3), (157, .iconst 0, 1), (158, .iastore, 1), (159, .aload_n 0, 1), (160, .dup, 1), (161, .getfield 65, 3), (164, .iconst 1, 1), (165, .iadd, 1), (166, .putfield 65, 3), (169, .aload_n 0, 1), (170, .getfield 65, 3), (173, .iconst 1, 1), (174, .isub, 1), (175, .ireturn, 1)]
def Y_M_joinRepeats : MethodName × ByteArray × Nat × Option FieldType × List (Nat × Nat × Nat × Nat) := (⟨"CurveSumsModel", "joinRepeats", "(II)I"⟩, prog_9_method_20_code, 9, (some .int), [])
def T_M_joinRepeats : List (Nat × Instr × Nat) := [(0, .aload_n 0, 1), (1, .aload_n 0, 1), (2, .iload_n 1, 1), (3, .invokevirtual 96, 3), (6, .ifCond .eq 15, 3), (9, .aload_n 0, 1), (10, .iload_n 2, 1), (11, .invokevirtual 96, 3), (14, .ifCond .eq 7, 3), (17, .iconst 1, 1), (18, .goto 4, 3), (21, .iconst 0, 1), (22, .aload_n 0, 1), (23, .getfield 65, 3), (26, .bipush 12, 2), (28, .if_icmp .ge 7, 3), (31, .iconst 1, 1), (32, .goto 4, 3), (35, .iconst 0, 1), (36, .iconst 1, 1), (37, .invokevirtual 75, 3), (40, .ifCond .ne 5, 3), (43, .iconst 0, 1), (44, .ireturn, 1), (45, .aload_n 0, 1), (46, .getfield 26, 3), (49, .iload_n 1, 1), (50, .iaload, 1), (51, .aload_n 0, 1), (52, .getfield 26, 3), (55, .iload_n 1, 1), (56, .iaload, 1), (57, .imul, 1), (58, .istore_n 3, 1), (59, .aload_n 0, 1), (60, .getfield 26, 3), (63, .iload_n 2, 1), (64, .iaload, 1), (65, .aload_n 0, 1), (66, .getfield 26, 3), (69, .iload_n 2, 1), (70, .iaload, 1), (71, .imul, 1), (72, .istore 4, 2), (74, .aload_n 0, 1), (75, .getfield 23, 3), (78, .iload_n 1, 1), (79, .iaload, 1), (80, .aload_n 0, 1), (81, .getfield 23, 3), (84, .iload_n 2, 1), (85, .iaload, 1), (86, .isub, 1), (87, .istore 5, 2), (89, .iload_n 3, 1), (90, .ifCond .eq 22, 3), (93, .iload 4, 2), (95, .ifCond .eq 17, 3), (98, .iload 5, 2), (100, .iload 5, 2), (102, .imul, 1), (103, .iconst 4, 1), (104, .iload_n 3, 1), (105, .iload 4, 2), (107, .iadd, 1), (108, .imul, 1), (109, .if_icmp .le 5, 3), (112, .iconst (-1), 1), (113, .ireturn, 1), (114, .aload_n 0, 1), (115, .getfield 23, 3), (118, .iload_n 1, 1), (119, .iaload, 1), (120, .iload 4, 2), (122, .imul, 1), (123, .aload_n 0, 1), (124, .getfield 23, 3), (127, .iload_n 2, 1), (128, .iaload, 1), (129, .iload_n 3, 1), (130, .imul, 1), (131, .iadd, 1), (132, .iload_n 3, 1), (133, .iload 4, 2), (135, .iadd, 1), (136, .idiv, 1), (137, .istore 6, 2), (139, .iload_n 3, 1), (140, .iload 4, 2), (142, .imul, 1), (143, .iload_n 3, 1), (144, .iload 4, 2), (146, .iadd, 1), (147, .idiv, 1), (148, .istore 7, 2), (150, .iconst 1, 1), (151, .istore 8, 2), (153, .iload 8, 2), (155, .iconst 1, 1), (156, .iadd, 1), (157, .iload 8, 2), (159, .iconst 1, 1), (160, .iadd, 1), (161, .imul, 1), (162, .iload 7, 2), (164, .if_icmp .gt 9, 3), (167, .iinc 8 1, 3), (170, .goto (-17), 3), (173, .aload_n 0, 1), (174, .iload 6, 2), (176, .iload 8, 2), (178, .invokevirtual 92, 3), (181, .ireturn, 1)]
def Y_M_least : MethodName × ByteArray × Nat × Option FieldType × List (Nat × Nat × Nat × Nat) := (⟨"CurveSumsModel", "least", "(III)I"⟩, prog_9_method_24_code, 5, (some .int), [])
def T_M_least : List (Nat × Instr × Nat) := [(0, .aload_n 0, 1), (1, .aload_n 0, 1), (2, .iload_n 1, 1), (3, .invokevirtual 96, 3), (6, .iload_n 2, 1), (7, .iconst 1, 1), (8, .if_icmp .lt 19, 3), (11, .iload_n 2, 1), (12, .iload_n 3, 1), (13, .if_icmp .gt 14, 3), (16, .iload_n 3, 1), (17, .sipush 1000, 3), (20, .if_icmp .gt 7, 3), (23, .iconst 1, 1), (24, .goto 4, 3), (27, .iconst 0, 1), (28, .iconst 1, 1), (29, .invokevirtual 75, 3), (32, .ifCond .ne 5, 3), (35, .iconst 0, 1), (36, .ireturn, 1), (37, .iconst 0, 1), (38, .istore 4, 2), (40, .iload 4, 2), (42, .aload_n 0, 1), (43, .getfield 51, 3), (46, .if_icmp .ge 25, 3), (49, .aload_n 0, 1), (50, .getfield 29, 3), (53, .iload 4, 2), (55, .aload_n 0, 1), (56, .iload_n 1, 1), (57, .iload 4, 2), (59, .iload_n 2, 1), (60, .iload_n 3, 1), (61, .invokevirtual 107, 3), (64, .bastore, 1), (65, .iinc 4 1, 3), (68, .goto (-28), 3), (71, .aload_n 0, 1), (72, .invokevirtual 111, 3), (75, .ireturn, 1)]
def Y_M_isNeeded : MethodName × ByteArray × Nat × Option FieldType × List (Nat × Nat × Nat × Nat) := (⟨"CurveSumsModel", "isNeeded", "(IIII)Z"⟩, prog_9_method_21_code, 10, (some .boolean), [])
def T_M_isNeeded : List (Nat × Instr × Nat) := [(0, .lconst 0, 1), (1, .lstore 5, 2), (3, .aload_n 0, 1), (4, .getfield 20, 3), (7, .bipush 60, 2), (9, .iload_n 1, 1), (10, .imul, 1), (11, .iload_n 2, 1), (12, .iadd, 1), (13, .iaload, 1), (14, .istore 7, 2), (16, .iconst 0, 1), (17, .istore 8, 2), (19, .iload 8, 2), (21, .aload_n 0, 1), (22, .getfield 51, 3), (25, .if_icmp .ge 56, 3), (28, .aload_n 0, 1), (29, .getfield 20, 3), (32, .bipush 60, 2), (34, .iload_n 1, 1), (35, .imul, 1), (36, .iload 8, 2), (38, .iadd, 1), (39, .iaload, 1), (40, .istore 9, 2), (42, .iload 9, 2), (44, .iload 7, 2), (46, .if_icmp .gt 16, 3), (49, .iload 9, 2), (51, .iload 7, 2), (53, .if_icmp .ne 18, 3), (56, .iload 8, 2), (58, .iload_n 2, 1), (59, .if_icmp .ge 12, 3), (62, .lload 5, 2), (64, .iload 9, 2), (66, .i2l, 1), (67, .ladd, 1), (68, .goto 5, 3), (71, .lload 5, 2), (73, .lstore 5, 2), (75, .iinc 8 1, 3), (78, .goto (-59), 3), (81, .iload 7, 2), (83, .ifCond .le 26, 3), (86, .lload 5, 2), (88, .iload 4, 2), (90, .i2l, 1), (91, .lmul, 1), (92, .iload_n 3, 1), (93, .i2l, 1), (94, .aload_n 0, 1), (95, .iload_n 1, 1), (96, .invokevirtual 99, 3), (99, .i2l, 1), (100, .lmul, 1), (101, .lcmp, 1), (102, .ifCond .ge 7, 3), (105, .iconst 1, 1), (106, .goto 4, 3), (109, .iconst 0, 1), (110, .ireturn, 1)]
def Y_M_spans : MethodName × ByteArray × Nat × Option FieldType × List (Nat × Nat × Nat × Nat) := (⟨"CurveSumsModel", "spans", "()I"⟩, prog_9_method_23_code, 3, (some .int), [])
def T_M_spans : List (Nat × Instr × Nat) := [(0, .iconst 0, 1), (1, .istore_n 1, 1), (2, .iconst 0, 1), (3, .istore_n 2, 1), (4, .iload_n 2, 1), (5, .aload_n 0, 1), (6, .getfield 51, 3), (9, .if_icmp .ge 25, 3), (12, .aload_n 0, 1), (13, .iload_n 2, 1), (14, .invokevirtual 104, 3), (17, .ifCond .eq 9, 3), (20, .iload_n 1, 1), (21, .iconst 1, 1), (22, .iadd, 1), (23, .goto 4, 3), (26, .iload_n 1, 1), (27, .istore_n 1, 1), (28, .iinc 2 1, 3), (31, .goto (-27), 3), (34, .iload_n 1, 1), (35, .ireturn, 1)]
def Y_M_begins : MethodName × ByteArray × Nat × Option FieldType × List (Nat × Nat × Nat × Nat) := (⟨"CurveSumsModel", "begins", "(I)Z"⟩, prog_9_method_22_code, 2, (some .boolean), [])
def T_M_begins : List (Nat × Instr × Nat) := [(0, .aload_n 0, 1), (1, .getfield 29, 3), (4, .iload_n 1, 1), (5, .baload, 1), (6, .ifCond .eq 22, 3), (9, .iload_n 1, 1), (10, .ifCond .eq 14, 3), (13, .aload_n 0, 1), (14, .getfield 29, 3), (17, .iload_n 1, 1), (18, .iconst 1, 1), (19, .isub, 1), (20, .baload, 1), (21, .ifCond .ne 7, 3), (24, .iconst 1, 1), (25, .goto 4, 3), (28, .iconst 0, 1), (29, .ireturn, 1)]
def Y_M_span : MethodName × ByteArray × Nat × Option FieldType × List (Nat × Nat × Nat × Nat) := (⟨"CurveSumsModel", "span", "(II)I"⟩, prog_9_method_25_code, 5, (some .int), [])
def T_M_span : List (Nat × Instr × Nat) := [(0, .aload_n 0, 1), (1, .iload_n 1, 1), (2, .iconst 0, 1), (3, .aload_n 0, 1), (4, .invokevirtual 111, 3), (7, .iconst 1, 1), (8, .isub, 1), (9, .invokestatic 61, 3), (12, .ifCond .eq 16, 3), (15, .iload_n 2, 1), (16, .iconst 0, 1), (17, .iconst 1, 1), (18, .invokestatic 61, 3), (21, .ifCond .eq 7, 3), (24, .iconst 1, 1), (25, .goto 4, 3), (28, .iconst 0, 1), (29, .iconst 1, 1), (30, .iconst 1, 1), (31, .invokevirtual 75, 3), (34, .ifCond .ne 5, 3), (37, .iconst 0, 1), (38, .ireturn, 1), (39, .iconst (-1), 1), (40, .istore_n 3, 1), (41, .iconst (-1), 1), (42, .istore 4, 2), (44, .iload 4, 2), (46, .iload_n 1, 1), (47, .if_icmp .ge 28, 3), (50, .iinc 3 1, 3), (53, .aload_n 0, 1), (54, .iload_n 3, 1), (55, .invokevirtual 104, 3), (58, .ifCond .eq 10, 3), (61, .iload 4, 2), (63, .iconst 1, 1), (64, .iadd, 1), (65, .goto 5, 3), (68, .iload 4, 2), (70, .istore 4, 2), (72, .goto (-28), 3), (75, .iload_n 2, 1), (76, .iconst 1, 1), (77, .if_icmp .ne 30, 3), (80, .iload_n 3, 1), (81, .iconst 1, 1), (82, .iadd, 1), (83, .aload_n 0, 1), (84, .getfield 51, 3), (87, .if_icmp .ge 20, 3), (90, .aload_n 0, 1), (91, .getfield 29, 3), (94, .iload_n 3, 1), (95, .iconst 1, 1), (96, .iadd, 1), (97, .baload, 1), (98, .ifCond .eq 9, 3), (101, .iinc 3 1, 3), (104, .goto (-29), 3), (107, .iload_n 3, 1), (108, .ireturn, 1)]
def Y_M_gap : MethodName × ByteArray × Nat × Option FieldType × List (Nat × Nat × Nat × Nat) := (⟨"CurveSumsModel", "gap", "(II)I"⟩, prog_9_method_26_code, 3, (some .int), [])
def T_M_gap : List (Nat × Instr × Nat) := [(0, .aload_n 0, 1), (1, .aload_n 0, 1), (2, .iload_n 1, 1), (3, .invokevirtual 96, 3), (6, .iload_n 2, 1), (7, .iconst 0, 1), (8, .bipush 59, 2), (10, .invokestatic 61, 3), (13, .aload_n 0, 1), (14, .getfield 115, 3), (17, .bipush 8, 2), (19, .if_icmp .ge 7, 3), (22, .iconst 1, 1), (23, .goto 4, 3), (26, .iconst 0, 1), (27, .invokevirtual 75, 3), (30, .ifCond .ne 5, 3), (33, .iconst 0, 1), (34, .ireturn, 1), (35, .aload_n 0, 1), (36, .getfield 33, 3), (39, .aload_n 0, 1), (40, .getfield 115, 3), (43, .iload_n 1, 1), (44, .iastore, 1), (45, .aload_n 0, 1), (46, .getfield 36, 3), (49, .aload_n 0, 1), (50, .getfield 115, 3), (53, .iload_n 2, 1), (54, .iastore, 1), (55, .aload_n 0, 1), (56, .dup, 1), (57, .getfield 115, 3), (60, .iconst 1, 1), (61, .iadd, 1), (62, .putfield 115, 3), (65, .aload_n 0, 1), (66, .getfield 115, 3), (69, .ireturn, 1)]
def Y_M_slid : MethodName × ByteArray × Nat × Option FieldType × List (Nat × Nat × Nat × Nat) := (⟨"CurveSumsModel", "slid", "(I)I"⟩, prog_9_method_28_code, 2, (some .int), [])
def T_M_slid : List (Nat × Instr × Nat) := [(0, .aload_n 0, 1), (1, .aload_n 0, 1), (2, .iload_n 1, 1), (3, .invokevirtual 71, 3), (6, .iconst 1, 1), (7, .iconst 1, 1), (8, .invokevirtual 75, 3), (11, .ifCond .eq 11, 3), (14, .aload_n 0, 1), (15, .iload_n 1, 1), (16, .invokevirtual 118, 3), (19, .goto 4, 3), (22, .iconst 0, 1), (23, .ireturn, 1)]
def Y_M_slidTo : MethodName × ByteArray × Nat × Option FieldType × List (Nat × Nat × Nat × Nat) := (⟨"CurveSumsModel", "slidTo", "(I)I"⟩, prog_9_method_27_code, 5, (some .int), [])
def T_M_slidTo : List (Nat × Instr × Nat) := [(0, .iconst 0, 1), (1, .istore_n 2, 1), (2, .iconst 0, 1), (3, .istore_n 3, 1), (4, .iload_n 3, 1), (5, .aload_n 0, 1), (6, .getfield 115, 3), (9, .if_icmp .ge 52, 3), (12, .iload_n 1, 1), (13, .aload_n 0, 1), (14, .getfield 36, 3), (17, .iload_n 3, 1), (18, .iaload, 1), (19, .iadd, 1), (20, .istore 4, 2), (22, .iload 4, 2), (24, .aload_n 0, 1), (25, .getfield 51, 3), (28, .if_icmp .ge 25, 3), (31, .iload_n 2, 1), (32, .aload_n 0, 1), (33, .getfield 20, 3), (36, .bipush 60, 2), (38, .aload_n 0, 1), (39, .getfield 33, 3), (42, .iload_n 3, 1), (43, .iaload, 1), (44, .imul, 1), (45, .iload 4, 2), (47, .iadd, 1), (48, .iaload, 1), (49, .iadd, 1), (50, .goto 4, 3), (53, .iload_n 2, 1), (54, .istore_n 2, 1), (55, .iinc 3 1, 3), (58, .goto (-54), 3), (61, .iload_n 2, 1), (62, .ireturn, 1)]
def Y_M_wiggle : MethodName × ByteArray × Nat × Option FieldType × List (Nat × Nat × Nat × Nat) := (⟨"CurveSumsModel", "wiggle", "()I"⟩, prog_9_method_29_code, 3, (some .int), [])
def T_M_wiggle : List (Nat × Instr × Nat) := [(0, .aload_n 0, 1), (1, .iconst 0, 1), (2, .putfield 58, 3), (5, .aload_n 0, 1), (6, .getfield 115, 3), (9, .ifCond .ne 7, 3), (12, .iconst (-1), 1), (13, .goto 4, 3), (16, .iconst 0, 1), (17, .istore_n 1, 1), (18, .iconst 1, 1), (19, .istore_n 2, 1), (20, .iload_n 2, 1), (21, .aload_n 0, 1), (22, .getfield 51, 3), (25, .if_icmp .ge 35, 3), (28, .aload_n 0, 1), (29, .getfield 115, 3), (32, .ifCond .le 28, 3), (35, .aload_n 0, 1), (36, .iload_n 2, 1), (37, .invokevirtual 118, 3), (40, .aload_n 0, 1), (41, .iload_n 1, 1), (42, .invokevirtual 118, 3), (45, .if_icmp .le 7, 3), (48, .iload_n 2, 1), (49, .goto 4, 3), (52, .iload_n 1, 1), (53, .istore_n 1, 1), (54, .iinc 2 1, 3), (57, .goto (-37), 3), (60, .iload_n 1, 1), (61, .ireturn, 1)]
def Y_M_clear : MethodName × ByteArray × Nat × Option FieldType × List (Nat × Nat × Nat × Nat) := (⟨"CurveSumsModel", "clear", "()I"⟩, prog_9_method_30_code, 2, (some .int), [])
def T_M_clear : List (Nat × Instr × Nat) := [(0, .aload_n 0, 1), (1, .iconst 0, 1), (2, .putfield 58, 3), (5, .aload_n 0, 1), (6, .getfield 115, 3), (9, .istore_n 1, 1), (10, .aload_n 0, 1), (11, .iconst 0, 1), (12, .putfield 115, 3), (15, .iload_n 1, 1), (16, .ireturn, 1)]
def Y_M_unit : MethodName × ByteArray × Nat × Option FieldType × List (Nat × Nat × Nat × Nat) := (⟨"CurveSumsModel", "unit", "(II)I"⟩, prog_9_method_34_code, 3, (some .int), [])
def T_M_unit : List (Nat × Instr × Nat) := [(0, .aload_n 0, 1), (1, .iload_n 1, 1), (2, .invokestatic 124, 3), (5, .ifCond .eq 14, 3), (8, .iload_n 2, 1), (9, .invokestatic 124, 3), (12, .ifCond .eq 7, 3), (15, .iconst 1, 1), (16, .goto 4, 3), (19, .iconst 0, 1), (20, .aload_n 0, 1), (21, .getfield 121, 3), (24, .iload_n 1, 1), (25, .invokestatic 127, 3), (28, .iadd, 1), (29, .iload_n 2, 1), (30, .invokestatic 127, 3), (33, .iadd, 1), (34, .bipush 100, 2), (36, .if_icmp .gt 7, 3), (39, .iconst 1, 1), (40, .goto 4, 3), (43, .iconst 0, 1), (44, .iconst 1, 1), (45, .invokevirtual 75, 3), (48, .ifCond .ne 5, 3), (51, .iconst 0, 1), (52, .ireturn, 1), (53, .aload_n 0, 1), (54, .iload_n 1, 1), (55, .invokevirtual 130, 3), (58, .aload_n 0, 1), (59, .iload_n 2, 1), (60, .invokevirtual 130, 3), (63, .aload_n 0, 1), (64, .getfield 121, 3), (67, .ireturn, 1)]
def Y_M_plain : MethodName × ByteArray × Nat × Option FieldType × List (Nat × Nat × Nat × Nat) := (⟨"CurveSumsModel", "plain", "(I)Z"⟩, prog_9_method_32_code, 4, (some .boolean), [])
def T_M_plain : List (Nat × Instr × Nat) := [(0, .iconst 1, 1), (1, .istore_n 1, 1), (2, .iconst 0, 1), (3, .istore_n 2, 1), (4, .iload_n 2, 1), (5, .iconst 4, 1), (6, .if_icmp .ge 45, 3), (9, .iload_n 0, 1), (10, .bipush 8, 2), (12, .iload_n 2, 1), (13, .imul, 1), (14, .iushr, 1), (15, .sipush 255, 3), (18, .iand, 1), (19, .istore_n 3, 1), (20, .iload_n 1, 1), (21, .ifCond .eq 22, 3), (24, .iload_n 3, 1), (25, .ifCond .eq 14, 3), (28, .iload_n 3, 1), (29, .bipush 32, 2), (31, .bipush 126, 2), (33, .invokestatic 61, 3), (36, .ifCond .eq 7, 3), (39, .iconst 1, 1), (40, .goto 4, 3), (43, .iconst 0, 1), (44, .istore_n 1, 1), (45, .iinc 2 1, 3), (48, .goto (-44), 3), (51, .iload_n 1, 1), (52, .ireturn, 1)]
def Y_M_signs : MethodName × ByteArray × Nat × Option FieldType × List (Nat × Nat × Nat × Nat) := (⟨"CurveSumsModel", "signs", "(I)I"⟩, prog_9_method_31_code, 3, (some .int), [])
def T_M_signs : List (Nat × Instr × Nat) := [(0, .iconst 0, 1), (1, .istore_n 1, 1), (2, .iconst 0, 1), (3, .istore_n 2, 1), (4, .iload_n 2, 1), (5, .iconst 4, 1), (6, .if_icmp .ge 30, 3), (9, .iload_n 0, 1), (10, .bipush 8, 2), (12, .iload_n 2, 1), (13, .imul, 1), (14, .iushr, 1), (15, .sipush 255, 3), (18, .iand, 1), (19, .ifCond .eq 9, 3), (22, .iload_n 1, 1), (23, .iconst 1, 1), (24, .iadd, 1), (25, .goto 4, 3), (28, .iload_n 1, 1), (29, .istore_n 1, 1), (30, .iinc 2 1, 3), (33, .goto (-29), 3), (36, .iload_n 1, 1), (37, .ireturn, 1)]
def Y_M_push : MethodName × ByteArray × Nat × Option FieldType × List (Nat × Nat × Nat × Nat) := (⟨"CurveSumsModel", "push", "(I)V"⟩, prog_9_method_33_code, 3, none, [])
def T_M_push : List (Nat × Instr × Nat) := [(0, .iconst 0, 1), (1, .istore_n 2, 1), (2, .iload_n 2, 1), (3, .iconst 4, 1), (4, .if_icmp .ge 51, 3), (7, .iload_n 1, 1), (8, .bipush 8, 2), (10, .iload_n 2, 1), (11, .imul, 1), (12, .iushr, 1), (13, .sipush 255, 3), (16, .iand, 1), (17, .ifCond .eq 32, 3), (20, .aload_n 0, 1), (21, .getfield 39, 3), (24, .aload_n 0, 1), (25, .getfield 121, 3), (28, .iload_n 1, 1), (29, .bipush 8, 2), (31, .iload_n 2, 1), (32, .imul, 1), (33, .iushr, 1), (34, .sipush 255, 3), (37, .iand, 1), (38, .iastore, 1), (39, .aload_n 0, 1), (40, .dup, 1), (41, .getfield 121, 3), (44, .iconst 1, 1), (45, .iadd, 1), (46, .putfield 121, 3), (49, .iinc 2 1, 3), (52, .goto (-50), 3), (55, .return_, 1)]
def Y_M_read : MethodName × ByteArray × Nat × Option FieldType × List (Nat × Nat × Nat × Nat) := (⟨"CurveSumsModel", "read", "()I"⟩, prog_9_method_36_code, 3, (some .int), [])
def T_M_read : List (Nat × Instr × Nat) := [(0, .aload_n 0, 1), (1, .iconst 0, 1), (2, .putfield 58, 3), (5, .aload_n 0, 1), (6, .invokevirtual 137, 3), (9, .istore_n 1, 1), (10, .aload_n 0, 1), (11, .iconst 0, 1), (12, .putfield 121, 3), (15, .iload_n 1, 1), (16, .iconst (-1), 1), (17, .if_icmp .eq 7, 3), (20, .iconst (-1), 1), (21, .iload_n 1, 1), (22, .isub, 1), (23, .ireturn, 1), (24, .iconst 0, 1), (25, .istore_n 2, 1), (26, .iload_n 2, 1), (27, .aload_n 0, 1), (28, .getfield 134, 3), (31, .if_icmp .ge 32, 3), (34, .aload_n 0, 1), (35, .aload_n 0, 1), (36, .getfield 42, 3), (39, .iload_n 2, 1), (40, .iaload, 1), (41, .aload_n 0, 1), (42, .getfield 45, 3), (45, .iload_n 2, 1), (46, .iaload, 1), (47, .aload_n 0, 1), (48, .getfield 48, 3), (51, .iload_n 2, 1), (52, .iaload, 1), (53, .invokevirtual 79, 3), (56, .pop, 1), (57, .iinc 2 1, 3), (60, .goto (-34), 3), (63, .aload_n 0, 1), (64, .getfield 134, 3), (67, .ireturn, 1)]
def Y_M_fault : MethodName × ByteArray × Nat × Option FieldType × List (Nat × Nat × Nat × Nat) := (⟨"CurveSumsModel", "fault", "()I"⟩, prog_9_method_35_code, 8, (some .int), [])
def T_M_fault : List (Nat × Instr × Nat) := [(0, .iconst 0, 1), (1, .istore_n 1, 1), (2, .iconst (-1), 1), (3, .istore_n 2, 1), (4, .aload_n 0, 1), (5, .iconst 0, 1), (6, .putfield 134, 3), (9, .iconst 0, 1), (10, .istore_n 3, 1), (11, .iload_n 3, 1), (12, .aload_n 0, 1), (13, .getfield 121, 3), (16, .if_icmp .ge 278, 3), (19, .aload_n 0, 1), (20, .getfield 39, 3), (23, .iload_n 3, 1), (24, .iaload, 1), (25, .istore 4, 2), (27, .iload 4, 2), (29, .bipush 48, 2), (31, .bipush 57, 2), (33, .invokestatic 61, 3), (36, .ifCond .eq 90, 3), (39, .iload_n 2, 1), (40, .iconst (-1), 1), (41, .if_icmp .ne 11, 3), (44, .iload 4, 2), (46, .bipush 48, 2), (48, .isub, 1), (49, .goto 13, 3), (52, .bipush 10, 2), (54, .iload_n 2, 1), (55, .imul, 1), (56, .iload 4, 2), (58, .iadd, 1), (59, .bipush 48, 2), (61, .isub, 1), (62, .istore 6, 2), (64, .iload_n 1, 1), (65, .ifCond .ne 12, 3), (68, .aload_n 0, 1), (69, .getfield 51, 3), (72, .iconst 1, 1), (73, .isub, 1), (74, .goto 16, 3), (77, .iload_n 1, 1), (78, .iconst 1, 1), (79, .if_icmp .ne 9, 3), (82, .sipush 3000, 3), (85, .goto 5, 3), (88, .bipush 100, 2), (90, .istore 7, 2), (92, .iload_n 2, 1), (93, .ifCond .eq 24, 3), (96, .iload 6, 2), (98, .iload 7, 2), (100, .if_icmp .gt 17, 3), (103, .iload_n 1, 1), (104, .iconst 2, 1), (105, .if_icmp .lt 8, 3), (108, .iload 6, 2), (110, .ifCond .le 7, 3), (113, .iconst 1, 1), (114, .goto 4, 3), (117, .iconst 0, 1), (118, .istore 5, 2), (120, .iload 6, 2), (122, .istore_n 2, 1), (123, .goto 56, 3), (126, .iload_n 2, 1), (127, .iconst (-1), 1), (128, .if_icmp .eq 33, 3), (131, .iload 4, 2), (133, .iload_n 1, 1), (134, .ifCond .ne 8, 3), (137, .bipush 58, 2), (139, .goto 15, 3), (142, .iload_n 1, 1), (143, .iconst 1, 1), (144, .if_icmp .ne 8, 3), (147, .bipush 43, 2), (149, .goto 5, 3), (152, .bipush 59, 2), (154, .if_icmp .ne 7, 3), (157, .iconst 1, 1), (158, .goto 4, 3), (161, .iconst 0, 1), (162, .istore 5, 2), (164, .iload_n 1, 1), (165, .iconst 2, 1), (166, .if_icmp .ne 7, 3), (169, .iconst 0, 1), (170, .goto 6, 3), (173, .iload_n 1, 1), (174, .iconst 1, 1), (175, .iadd, 1), (176, .istore_n 1, 1), (177, .iconst (-1), 1), (178, .istore_n 2, 1), (179, .iload 5, 2), (181, .ifCond .ne 5, 3), (184, .iload_n 3, 1), (185, .ireturn, 1), (186, .iload_n 2, 1), (187, .iconst (-1), 1), (188, .if_icmp .eq 86, 3), (191, .aload_n 0, 1), (192, .getfield 42, 3), (195, .aload_n 0, 1), (196, .getfield 134, 3), (199, .iload_n 1, 1), (200, .ifCond .ne 7, 3), (203, .iload_n 2, 1), (204, .goto 12, 3), (207, .aload_n 0, 1), (208, .getfield 42, 3), (211, .aload_n 0, 1), (212, .getfield 134, 3), (215, .iaload, 1), (216, .iastore, 1), (217, .aload_n 0, 1), (218, .getfield 45, 3), (221, .aload_n 0, 1), (222, .getfield 134, 3), (225, .iload_n 1, 1), (226, .iconst 1, 1), (227, .if_icmp .ne 7, 3), (230, .iload_n 2, 1), (231, .goto 12, 3), (234, .aload_n 0, 1), (235, .getfield 45, 3), (238, .aload_n 0, 1), (239, .getfield 134, 3), (242, .iaload, 1), (243, .iastore, 1), (244, .aload_n 0, 1), (245, .getfield 48, 3), (248, .aload_n 0, 1), (249, .getfield 134, 3), (252, .iload_n 1, 1), (253, .iconst 2, 1), (254, .if_icmp .ne 7, 3), (257, .iload_n 2, 1), (258, .goto 12, 3), (261, .aload_n 0, 1), (262, .getfield 48, 3), (265, .aload_n 0, 1), (266, .getfield 134, 3), (269, .iaload, 1), (270, .iastore, 1), (271, .goto 17, 3), (274, .iload_n 1, 1), (275, .ifCond .ne 13, 3), (278, .aload_n 0, 1), (279, .dup, 1), (280, .getfield 134, 3), (283, .iconst 1, 1), (284, .iadd, 1), (285, .putfield 134, 3), (288, .iinc 3 1, 3), (291, .goto (-280), 3), (294, .aload_n 0, 1), (295, .dup, 1), (296, .getfield 134, 3), (299, .iconst 1, 1), (300, .iadd, 1), (301, .putfield 134, 3), (304, .iload_n 1, 1), (305, .iconst 2, 1), (306, .if_icmp .ne 12, 3), (309, .iload_n 2, 1), (310, .iconst (-1), 1), (311, .if_icmp .eq 7, 3), (314, .iconst (-1), 1), (315, .goto 7, 3), (318, .aload_n 0, 1), (319, .getfield 121, 3), (322, .ireturn, 1)]
def Y_M_count : MethodName × ByteArray × Nat × Option FieldType × List (Nat × Nat × Nat × Nat) := (⟨"CurveSumsModel", "count", "(I)I"⟩, prog_9_method_37_code, 4, (some .int), [])
def T_M_count : List (Nat × Instr × Nat) := [(0, .aload_n 0, 1), (1, .iload_n 1, 1), (2, .iconst 0, 1), (3, .bipush 6, 2), (5, .invokestatic 61, 3), (8, .iconst 1, 1), (9, .iconst 1, 1), (10, .invokevirtual 75, 3), (13, .ifCond .ne 5, 3), (16, .iconst 0, 1), (17, .ireturn, 1), (18, .iconst 0, 1), (19, .istore_n 2, 1), (20, .iconst 0, 1), (21, .istore_n 3, 1), (22, .iload_n 3, 1), (23, .aload_n 0, 1), (24, .getfield 51, 3), (27, .if_icmp .ge 34, 3), (30, .aload_n 0, 1), (31, .getfield 17, 3), (34, .bipush 60, 2), (36, .aload_n 0, 1), (37, .getfield 68, 3), (40, .imul, 1), (41, .iload_n 3, 1), (42, .iadd, 1), (43, .iaload, 1), (44, .ifCond .le 9, 3), (47, .iload_n 2, 1), (48, .iconst 1, 1), (49, .iadd, 1), (50, .goto 4, 3), (53, .iload_n 2, 1), (54, .istore_n 2, 1), (55, .iinc 3 1, 3), (58, .goto (-36), 3), (61, .iload_n 1, 1), (62, .tableswitch 68 0 5 #[38, 43, 48, 53, 58, 63], 38), (100, .aload_n 0, 1), (101, .getfield 51, 3), (104, .ireturn, 1), (105, .aload_n 0, 1), (106, .getfield 7, 3), (109, .ireturn, 1), (110, .aload_n 0, 1), (111, .getfield 68, 3), (114, .ireturn, 1), (115, .aload_n 0, 1), (116, .getfield 65, 3), (119, .ireturn, 1), (120, .aload_n 0, 1), (121, .getfield 115, 3), (124, .ireturn, 1), (125, .aload_n 0, 1), (126, .getfield 121, 3), (129, .ireturn, 1), (130, .iload_n 2, 1), (131, .ireturn, 1)]
def Y_W_law : MethodName × ByteArray × Nat × Option FieldType × List (Nat × Nat × Nat × Nat) := (⟨"CurveSumsLaw", "law", "([I)Z"⟩, code, 7, (some .boolean), [])
def T_W_law_0 : List (Nat × Instr × Nat) := [(0, .new 8, 3), (3, .dup, 1), (4, .aload_n 0, 1), (5, .iconst 0, 1), (6, .invokestatic 70, 3), (9, .aload_n 0, 1), (10, .iconst 1, 1), (11, .invokestatic 70, 3), (14, .invokespecial 76, 3), (17, .astore_n 1, 1), (18, .new 78, 3), (21, .dup, 1), (22, .aload_n 0, 1), (23, .iconst 0, 1), (24, .invokestatic 70, 3), (27, .aload_n 0, 1), (28, .iconst 1, 1), (29, .invokestatic 70, 3), (32, .invokespecial 80, 3), (35, .astore_n 2, 1), (36, .iconst 1, 1), (37, .newarray .long, 2), (39, .astore_n 3, 1), (40, .iconst 2, 1), (41, .istore 4, 2), (43, .iload 4, 2), (45, .aload_n 0, 1), (46, .arraylength, 1), (47, .iconst 5, 1), (48, .isub, 1), (49, .if_icmp .gt 1195, 3), (52, .aload_n 0, 1), (53, .iload 4, 2), (55, .iaload, 1), (56, .bipush 31, 2), (58, .iand, 1), (59, .tableswitch 1179 0 18 #[89, 176, 220, 276, 324, 392, 460, 516, 584, 676, 744, 824, 892, 960, 1016, 1029, 1042, 1110, 1123], 89), (148, .aload_n 1, 1), (149, .aload_n 0, 1), (150, .iload 4, 2), (152, .iconst 1, 1), (153, .iadd, 1), (154, .iaload, 1), (155, .aload_n 0, 1), (156, .iload 4, 2), (158, .iconst 2, 1), (159, .iadd, 1), (160, .iaload, 1), (161, .aload_n 0, 1), (162, .iload 4, 2)]
def T_W_law_1 : List (Nat × Instr × Nat) := [(164, .iconst 3, 1), (165, .iadd, 1), (166, .iaload, 1), (167, .aload_n 3, 1), (168, .invokestatic 81, 3), (171, .istore 5, 2), (173, .aload_n 2, 1), (174, .aload_n 0, 1), (175, .iload 4, 2), (177, .iconst 1, 1), (178, .iadd, 1), (179, .iaload, 1), (180, .aload_n 0, 1), (181, .iload 4, 2), (183, .iconst 2, 1), (184, .iadd, 1), (185, .iaload, 1), (186, .aload_n 0, 1), (187, .iload 4, 2), (189, .iconst 3, 1), (190, .iadd, 1), (191, .iaload, 1), (192, .invokevirtual 84, 3), (195, .istore 6, 2), (197, .aload_n 2, 1), (198, .invokevirtual 85, 3), (201, .iload 5, 2), (203, .if_icmp .eq 5, 3), (206, .iconst 0, 1), (207, .ireturn, 1), (208, .iload 5, 2), (210, .ifCond .ne 22, 3), (213, .aload_n 3, 1), (214, .iconst 0, 1), (215, .laload, 1), (216, .iload 6, 2), (218, .ifCond .eq 7, 3), (221, .lconst 1, 1), (222, .goto 4, 3), (225, .lconst 0, 1), (226, .lcmp, 1), (227, .ifCond .eq 5, 3), (230, .iconst 0, 1), (231, .ireturn, 1), (232, .goto 1006, 3), (235, .aload_n 1, 1), (236, .aload_n 3, 1), (237, .invokestatic 88, 3), (240, .istore 5, 2), (242, .aload_n 2, 1)]
def T_W_law_2 : List (Nat × Instr × Nat) := [(243, .invokevirtual 91, 3), (246, .istore 6, 2), (248, .aload_n 2, 1), (249, .invokevirtual 85, 3), (252, .iload 5, 2), (254, .if_icmp .eq 5, 3), (257, .iconst 0, 1), (258, .ireturn, 1), (259, .iload 5, 2), (261, .ifCond .ne 15, 3), (264, .aload_n 3, 1), (265, .iconst 0, 1), (266, .laload, 1), (267, .iload 6, 2), (269, .i2l, 1), (270, .lcmp, 1), (271, .ifCond .eq 5, 3), (274, .iconst 0, 1), (275, .ireturn, 1), (276, .goto 962, 3), (279, .aload_n 1, 1), (280, .aload_n 0, 1), (281, .iload 4, 2), (283, .iconst 1, 1), (284, .iadd, 1), (285, .iaload, 1), (286, .aload_n 3, 1), (287, .invokestatic 92, 3), (290, .istore 5, 2), (292, .aload_n 2, 1), (293, .aload_n 0, 1), (294, .iload 4, 2), (296, .iconst 1, 1), (297, .iadd, 1), (298, .iaload, 1), (299, .invokevirtual 95, 3), (302, .istore 6, 2), (304, .aload_n 2, 1), (305, .invokevirtual 85, 3), (308, .iload 5, 2), (310, .if_icmp .eq 5, 3), (313, .iconst 0, 1), (314, .ireturn, 1), (315, .iload 5, 2), (317, .ifCond .ne 15, 3), (320, .aload_n 3, 1), (321, .iconst 0, 1), (322, .laload, 1), (323, .iload 6, 2), (325, .i2l, 1)]
def T_W_law_3 : List (Nat × Instr × Nat) := [(326, .lcmp, 1), (327, .ifCond .eq 5, 3), (330, .iconst 0, 1), (331, .ireturn, 1), (332, .goto 906, 3), (335, .aload_n 1, 1), (336, .aload_n 0, 1), (337, .iload 4, 2), (339, .iconst 1, 1), (340, .iadd, 1), (341, .iaload, 1), (342, .aload_n 0, 1), (343, .iload 4, 2), (345, .iconst 2, 1), (346, .iadd, 1), (347, .iaload, 1), (348, .invokestatic 96, 3), (351, .istore 5, 2), (353, .aload_n 2, 1), (354, .aload_n 0, 1), (355, .iload 4, 2), (357, .iconst 1, 1), (358, .iadd, 1), (359, .iaload, 1), (360, .aload_n 0, 1), (361, .iload 4, 2), (363, .iconst 2, 1), (364, .iadd, 1), (365, .iaload, 1), (366, .invokevirtual 99, 3), (369, .aload_n 2, 1), (370, .invokevirtual 85, 3), (373, .iload 5, 2), (375, .if_icmp .eq 5, 3), (378, .iconst 0, 1), (379, .ireturn, 1), (380, .goto 858, 3), (383, .aload_n 1, 1), (384, .aload_n 0, 1), (385, .iload 4, 2), (387, .iconst 1, 1), (388, .iadd, 1), (389, .iaload, 1), (390, .aload_n 0, 1), (391, .iload 4, 2), (393, .iconst 2, 1), (394, .iadd, 1), (395, .iaload, 1), (396, .aload_n 3, 1), (397, .invokestatic 100, 3)]
def T_W_law_4 : List (Nat × Instr × Nat) := [(400, .istore 5, 2), (402, .aload_n 2, 1), (403, .aload_n 0, 1), (404, .iload 4, 2), (406, .iconst 1, 1), (407, .iadd, 1), (408, .iaload, 1), (409, .aload_n 0, 1), (410, .iload 4, 2), (412, .iconst 2, 1), (413, .iadd, 1), (414, .iaload, 1), (415, .invokevirtual 103, 3), (418, .istore 6, 2), (420, .aload_n 2, 1), (421, .invokevirtual 85, 3), (424, .iload 5, 2), (426, .if_icmp .eq 5, 3), (429, .iconst 0, 1), (430, .ireturn, 1), (431, .iload 5, 2), (433, .ifCond .ne 15, 3), (436, .aload_n 3, 1), (437, .iconst 0, 1), (438, .laload, 1), (439, .iload 6, 2), (441, .i2l, 1), (442, .lcmp, 1), (443, .ifCond .eq 5, 3), (446, .iconst 0, 1), (447, .ireturn, 1), (448, .goto 790, 3), (451, .aload_n 1, 1), (452, .aload_n 0, 1), (453, .iload 4, 2), (455, .iconst 1, 1), (456, .iadd, 1), (457, .iaload, 1), (458, .aload_n 0, 1), (459, .iload 4, 2), (461, .iconst 2, 1), (462, .iadd, 1), (463, .iaload, 1), (464, .aload_n 3, 1), (465, .invokestatic 104, 3), (468, .istore 5, 2), (470, .aload_n 2, 1), (471, .aload_n 0, 1), (472, .iload 4, 2), (474, .iconst 1, 1)]
def T_W_law_5 : List (Nat × Instr × Nat) := [(475, .iadd, 1), (476, .iaload, 1), (477, .aload_n 0, 1), (478, .iload 4, 2), (480, .iconst 2, 1), (481, .iadd, 1), (482, .iaload, 1), (483, .invokevirtual 106, 3), (486, .istore 6, 2), (488, .aload_n 2, 1), (489, .invokevirtual 85, 3), (492, .iload 5, 2), (494, .if_icmp .eq 5, 3), (497, .iconst 0, 1), (498, .ireturn, 1), (499, .iload 5, 2), (501, .ifCond .ne 15, 3), (504, .aload_n 3, 1), (505, .iconst 0, 1), (506, .laload, 1), (507, .iload 6, 2), (509, .i2l, 1), (510, .lcmp, 1), (511, .ifCond .eq 5, 3), (514, .iconst 0, 1), (515, .ireturn, 1), (516, .goto 722, 3), (519, .aload_n 1, 1), (520, .aload_n 0, 1), (521, .iload 4, 2), (523, .iconst 1, 1), (524, .iadd, 1), (525, .iaload, 1), (526, .aload_n 3, 1), (527, .invokestatic 107, 3), (530, .istore 5, 2), (532, .aload_n 2, 1), (533, .aload_n 0, 1), (534, .iload 4, 2), (536, .iconst 1, 1), (537, .iadd, 1), (538, .iaload, 1), (539, .invokevirtual 109, 3), (542, .istore 6, 2), (544, .aload_n 2, 1), (545, .invokevirtual 85, 3), (548, .iload 5, 2), (550, .if_icmp .eq 5, 3), (553, .iconst 0, 1), (554, .ireturn, 1)]
def T_W_law_6 : List (Nat × Instr × Nat) := [(555, .iload 5, 2), (557, .ifCond .ne 15, 3), (560, .aload_n 3, 1), (561, .iconst 0, 1), (562, .laload, 1), (563, .iload 6, 2), (565, .i2l, 1), (566, .lcmp, 1), (567, .ifCond .eq 5, 3), (570, .iconst 0, 1), (571, .ireturn, 1), (572, .goto 666, 3), (575, .aload_n 1, 1), (576, .aload_n 0, 1), (577, .iload 4, 2), (579, .iconst 1, 1), (580, .iadd, 1), (581, .iaload, 1), (582, .aload_n 0, 1), (583, .iload 4, 2), (585, .iconst 2, 1), (586, .iadd, 1), (587, .iaload, 1), (588, .aload_n 3, 1), (589, .invokestatic 110, 3), (592, .istore 5, 2), (594, .aload_n 2, 1), (595, .aload_n 0, 1), (596, .iload 4, 2), (598, .iconst 1, 1), (599, .iadd, 1), (600, .iaload, 1), (601, .aload_n 0, 1), (602, .iload 4, 2), (604, .iconst 2, 1), (605, .iadd, 1), (606, .iaload, 1), (607, .invokevirtual 112, 3), (610, .istore 6, 2), (612, .aload_n 2, 1), (613, .invokevirtual 85, 3), (616, .iload 5, 2), (618, .if_icmp .eq 5, 3), (621, .iconst 0, 1), (622, .ireturn, 1), (623, .iload 5, 2), (625, .ifCond .ne 15, 3), (628, .aload_n 3, 1), (629, .iconst 0, 1), (630, .laload, 1)]
def T_W_law_7 : List (Nat × Instr × Nat) := [(631, .iload 6, 2), (633, .i2l, 1), (634, .lcmp, 1), (635, .ifCond .eq 5, 3), (638, .iconst 0, 1), (639, .ireturn, 1), (640, .goto 598, 3), (643, .aload_n 1, 1), (644, .aload_n 0, 1), (645, .iload 4, 2), (647, .iconst 1, 1), (648, .iadd, 1), (649, .iaload, 1), (650, .aload_n 0, 1), (651, .iload 4, 2), (653, .iconst 2, 1), (654, .iadd, 1), (655, .iaload, 1), (656, .aload_n 0, 1), (657, .iload 4, 2), (659, .iconst 3, 1), (660, .iadd, 1), (661, .iaload, 1), (662, .aload_n 0, 1), (663, .iload 4, 2), (665, .iconst 4, 1), (666, .iadd, 1), (667, .iaload, 1), (668, .aload_n 3, 1), (669, .invokestatic 113, 3), (672, .istore 5, 2), (674, .aload_n 2, 1), (675, .aload_n 0, 1), (676, .iload 4, 2), (678, .iconst 1, 1), (679, .iadd, 1), (680, .iaload, 1), (681, .aload_n 0, 1), (682, .iload 4, 2), (684, .iconst 2, 1), (685, .iadd, 1), (686, .iaload, 1), (687, .aload_n 0, 1), (688, .iload 4, 2), (690, .iconst 3, 1), (691, .iadd, 1), (692, .iaload, 1), (693, .aload_n 0, 1), (694, .iload 4, 2), (696, .iconst 4, 1)]
def T_W_law_8 : List (Nat × Instr × Nat) := [(697, .iadd, 1), (698, .iaload, 1), (699, .invokevirtual 116, 3), (702, .istore 6, 2), (704, .aload_n 2, 1), (705, .invokevirtual 85, 3), (708, .iload 5, 2), (710, .if_icmp .eq 5, 3), (713, .iconst 0, 1), (714, .ireturn, 1), (715, .iload 5, 2), (717, .ifCond .ne 15, 3), (720, .aload_n 3, 1), (721, .iconst 0, 1), (722, .laload, 1), (723, .iload 6, 2), (725, .i2l, 1), (726, .lcmp, 1), (727, .ifCond .eq 5, 3), (730, .iconst 0, 1), (731, .ireturn, 1), (732, .goto 506, 3), (735, .aload_n 1, 1), (736, .aload_n 0, 1), (737, .iload 4, 2), (739, .iconst 1, 1), (740, .iadd, 1), (741, .iaload, 1), (742, .aload_n 0, 1), (743, .iload 4, 2), (745, .iconst 2, 1), (746, .iadd, 1), (747, .iaload, 1), (748, .aload_n 3, 1), (749, .invokestatic 117, 3), (752, .istore 5, 2), (754, .aload_n 2, 1), (755, .aload_n 0, 1), (756, .iload 4, 2), (758, .iconst 1, 1), (759, .iadd, 1), (760, .iaload, 1), (761, .aload_n 0, 1), (762, .iload 4, 2), (764, .iconst 2, 1), (765, .iadd, 1), (766, .iaload, 1), (767, .invokevirtual 119, 3), (770, .istore 6, 2), (772, .aload_n 2, 1)]
def T_W_law_9 : List (Nat × Instr × Nat) := [(773, .invokevirtual 85, 3), (776, .iload 5, 2), (778, .if_icmp .eq 5, 3), (781, .iconst 0, 1), (782, .ireturn, 1), (783, .iload 5, 2), (785, .ifCond .ne 15, 3), (788, .aload_n 3, 1), (789, .iconst 0, 1), (790, .laload, 1), (791, .iload 6, 2), (793, .i2l, 1), (794, .lcmp, 1), (795, .ifCond .eq 5, 3), (798, .iconst 0, 1), (799, .ireturn, 1), (800, .goto 438, 3), (803, .aload_n 1, 1), (804, .aload_n 0, 1), (805, .iload 4, 2), (807, .iconst 1, 1), (808, .iadd, 1), (809, .iaload, 1), (810, .aload_n 0, 1), (811, .iload 4, 2), (813, .iconst 2, 1), (814, .iadd, 1), (815, .iaload, 1), (816, .aload_n 0, 1), (817, .iload 4, 2), (819, .iconst 3, 1), (820, .iadd, 1), (821, .iaload, 1), (822, .aload_n 3, 1), (823, .invokestatic 120, 3), (826, .istore 5, 2), (828, .aload_n 2, 1), (829, .aload_n 0, 1), (830, .iload 4, 2), (832, .iconst 1, 1), (833, .iadd, 1), (834, .iaload, 1), (835, .aload_n 0, 1), (836, .iload 4, 2), (838, .iconst 2, 1), (839, .iadd, 1), (840, .iaload, 1), (841, .aload_n 0, 1), (842, .iload 4, 2), (844, .iconst 3, 1)]
def T_W_law_10 : List (Nat × Instr × Nat) := [(845, .iadd, 1), (846, .iaload, 1), (847, .invokevirtual 122, 3), (850, .istore 6, 2), (852, .aload_n 2, 1), (853, .invokevirtual 85, 3), (856, .iload 5, 2), (858, .if_icmp .eq 5, 3), (861, .iconst 0, 1), (862, .ireturn, 1), (863, .iload 5, 2), (865, .ifCond .ne 15, 3), (868, .aload_n 3, 1), (869, .iconst 0, 1), (870, .laload, 1), (871, .iload 6, 2), (873, .i2l, 1), (874, .lcmp, 1), (875, .ifCond .eq 5, 3), (878, .iconst 0, 1), (879, .ireturn, 1), (880, .goto 358, 3), (883, .aload_n 1, 1), (884, .aload_n 0, 1), (885, .iload 4, 2), (887, .iconst 1, 1), (888, .iadd, 1), (889, .iaload, 1), (890, .aload_n 0, 1), (891, .iload 4, 2), (893, .iconst 2, 1), (894, .iadd, 1), (895, .iaload, 1), (896, .aload_n 3, 1), (897, .invokestatic 123, 3), (900, .istore 5, 2), (902, .aload_n 2, 1), (903, .aload_n 0, 1), (904, .iload 4, 2), (906, .iconst 1, 1), (907, .iadd, 1), (908, .iaload, 1), (909, .aload_n 0, 1), (910, .iload 4, 2), (912, .iconst 2, 1), (913, .iadd, 1), (914, .iaload, 1), (915, .invokevirtual 125, 3), (918, .istore 6, 2), (920, .aload_n 2, 1)]
def T_W_law_11 : List (Nat × Instr × Nat) := [(921, .invokevirtual 85, 3), (924, .iload 5, 2), (926, .if_icmp .eq 5, 3), (929, .iconst 0, 1), (930, .ireturn, 1), (931, .iload 5, 2), (933, .ifCond .ne 15, 3), (936, .aload_n 3, 1), (937, .iconst 0, 1), (938, .laload, 1), (939, .iload 6, 2), (941, .i2l, 1), (942, .lcmp, 1), (943, .ifCond .eq 5, 3), (946, .iconst 0, 1), (947, .ireturn, 1), (948, .goto 290, 3), (951, .aload_n 1, 1), (952, .aload_n 0, 1), (953, .iload 4, 2), (955, .iconst 1, 1), (956, .iadd, 1), (957, .iaload, 1), (958, .aload_n 0, 1), (959, .iload 4, 2), (961, .iconst 2, 1), (962, .iadd, 1), (963, .iaload, 1), (964, .aload_n 3, 1), (965, .invokestatic 126, 3), (968, .istore 5, 2), (970, .aload_n 2, 1), (971, .aload_n 0, 1), (972, .iload 4, 2), (974, .iconst 1, 1), (975, .iadd, 1), (976, .iaload, 1), (977, .aload_n 0, 1), (978, .iload 4, 2), (980, .iconst 2, 1), (981, .iadd, 1), (982, .iaload, 1), (983, .invokevirtual 128, 3), (986, .istore 6, 2), (988, .aload_n 2, 1), (989, .invokevirtual 85, 3), (992, .iload 5, 2), (994, .if_icmp .eq 5, 3), (997, .iconst 0, 1), (998, .ireturn, 1)]
def T_W_law_12 : List (Nat × Instr × Nat) := [(999, .iload 5, 2), (1001, .ifCond .ne 15, 3), (1004, .aload_n 3, 1), (1005, .iconst 0, 1), (1006, .laload, 1), (1007, .iload 6, 2), (1009, .i2l, 1), (1010, .lcmp, 1), (1011, .ifCond .eq 5, 3), (1014, .iconst 0, 1), (1015, .ireturn, 1), (1016, .goto 222, 3), (1019, .aload_n 1, 1), (1020, .aload_n 0, 1), (1021, .iload 4, 2), (1023, .iconst 1, 1), (1024, .iadd, 1), (1025, .iaload, 1), (1026, .aload_n 3, 1), (1027, .invokestatic 129, 3), (1030, .istore 5, 2), (1032, .aload_n 2, 1), (1033, .aload_n 0, 1), (1034, .iload 4, 2), (1036, .iconst 1, 1), (1037, .iadd, 1), (1038, .iaload, 1), (1039, .invokevirtual 131, 3), (1042, .istore 6, 2), (1044, .aload_n 2, 1), (1045, .invokevirtual 85, 3), (1048, .iload 5, 2), (1050, .if_icmp .eq 5, 3), (1053, .iconst 0, 1), (1054, .ireturn, 1), (1055, .iload 5, 2), (1057, .ifCond .ne 15, 3), (1060, .aload_n 3, 1), (1061, .iconst 0, 1), (1062, .laload, 1), (1063, .iload 6, 2), (1065, .i2l, 1), (1066, .lcmp, 1), (1067, .ifCond .eq 5, 3), (1070, .iconst 0, 1), (1071, .ireturn, 1), (1072, .goto 166, 3), (1075, .aload_n 1, 1), (1076, .invokevirtual 132, 3), (1079, .aload_n 2, 1)]
def T_W_law_13 : List (Nat × Instr × Nat) := [(1080, .invokevirtual 135, 3), (1083, .if_icmp .eq 155, 3), (1086, .iconst 0, 1), (1087, .ireturn, 1), (1088, .aload_n 1, 1), (1089, .invokevirtual 136, 3), (1092, .aload_n 2, 1), (1093, .invokevirtual 139, 3), (1096, .if_icmp .eq 142, 3), (1099, .iconst 0, 1), (1100, .ireturn, 1), (1101, .aload_n 1, 1), (1102, .aload_n 0, 1), (1103, .iload 4, 2), (1105, .iconst 1, 1), (1106, .iadd, 1), (1107, .iaload, 1), (1108, .aload_n 0, 1), (1109, .iload 4, 2), (1111, .iconst 2, 1), (1112, .iadd, 1), (1113, .iaload, 1), (1114, .aload_n 3, 1), (1115, .invokestatic 140, 3), (1118, .istore 5, 2), (1120, .aload_n 2, 1), (1121, .aload_n 0, 1), (1122, .iload 4, 2), (1124, .iconst 1, 1), (1125, .iadd, 1), (1126, .iaload, 1), (1127, .aload_n 0, 1), (1128, .iload 4, 2), (1130, .iconst 2, 1), (1131, .iadd, 1), (1132, .iaload, 1), (1133, .invokevirtual 142, 3), (1136, .istore 6, 2), (1138, .aload_n 2, 1), (1139, .invokevirtual 85, 3), (1142, .iload 5, 2), (1144, .if_icmp .eq 5, 3), (1147, .iconst 0, 1), (1148, .ireturn, 1), (1149, .iload 5, 2), (1151, .ifCond .ne 15, 3), (1154, .aload_n 3, 1), (1155, .iconst 0, 1), (1156, .laload, 1), (1157, .iload 6, 2)]
def T_W_law_14 : List (Nat × Instr × Nat) := [(1159, .i2l, 1), (1160, .lcmp, 1), (1161, .ifCond .eq 5, 3), (1164, .iconst 0, 1), (1165, .ireturn, 1), (1166, .goto 72, 3), (1169, .aload_n 1, 1), (1170, .invokevirtual 143, 3), (1173, .aload_n 2, 1), (1174, .invokevirtual 146, 3), (1177, .if_icmp .eq 61, 3), (1180, .iconst 0, 1), (1181, .ireturn, 1), (1182, .aload_n 1, 1), (1183, .aload_n 0, 1), (1184, .iload 4, 2), (1186, .iconst 1, 1), (1187, .iadd, 1), (1188, .iaload, 1), (1189, .aload_n 3, 1), (1190, .invokestatic 147, 3), (1193, .istore 5, 2), (1195, .aload_n 2, 1), (1196, .aload_n 0, 1), (1197, .iload 4, 2), (1199, .iconst 1, 1), (1200, .iadd, 1), (1201, .iaload, 1), (1202, .invokevirtual 149, 3), (1205, .istore 6, 2), (1207, .aload_n 2, 1), (1208, .invokevirtual 85, 3), (1211, .iload 5, 2), (1213, .if_icmp .eq 5, 3), (1216, .iconst 0, 1), (1217, .ireturn, 1), (1218, .iload 5, 2), (1220, .ifCond .ne 15, 3), (1223, .aload_n 3, 1), (1224, .iconst 0, 1), (1225, .laload, 1), (1226, .iload 6, 2), (1228, .i2l, 1), (1229, .lcmp, 1), (1230, .ifCond .eq 5, 3), (1233, .iconst 0, 1), (1234, .ireturn, 1), (1235, .goto 3, 3), (1238, .iinc 4 5, 3), (1241, .goto (-1198), 3)]
def T_W_law_15 : List (Nat × Instr × Nat) := [(1244, .iconst 1, 1), (1245, .ireturn, 1)]
end
section
set_option maxRecDepth 100000 in
theorem D_C_init : mx_decs prog_1_method_1_code T_C_init = true := by decide +kernel
set_option maxRecDepth 100000 in
theorem D_E_init : mx_decs prog_4_method_1_code T_E_init = true := by decide +kernel
set_option maxRecDepth 100000 in
theorem D_D_init : mx_decs prog_3_method_1_code T_D_init = true := by decide +kernel
set_option maxRecDepth 100000 in
theorem D_L_init : mx_decs prog_5_method_1_code T_L_init = true := by decide +kernel
set_option maxRecDepth 100000 in
theorem D_R_init : mx_decs prog_2_method_1_code T_R_init = true := by decide +kernel
set_option maxRecDepth 100000 in
theorem D_P_init : mx_decs prog_6_method_1_code T_P_init = true := by decide +kernel
set_option maxRecDepth 100000 in
theorem D_T_init : mx_decs prog_7_method_1_code T_T_init = true := by decide +kernel
set_option maxRecDepth 100000 in
theorem D_C_wiggle : mx_decs prog_1_method_16_code T_C_wiggle = true := by decide +kernel
set_option maxRecDepth 100000 in
theorem D_R_sumAt : mx_decs prog_2_method_3_code T_R_sumAt = true := by decide +kernel
set_option maxRecDepth 100000 in
theorem D_C_clear : mx_decs prog_1_method_17_code T_C_clear = true := by decide +kernel
set_option maxRecDepth 100000 in
theorem D_C_read : mx_decs prog_1_method_19_code T_C_read = true := by decide +kernel
set_option maxRecDepth 100000 in
theorem D_T_scan : mx_decs prog_7_method_2_code T_T_scan = true := by decide +kernel
set_option maxRecDepth 100000 in
theorem D_T_takes : mx_decs prog_7_method_6_code T_T_takes = true := by decide +kernel
set_option maxRecDepth 100000 in
theorem D_T_takesDigit : mx_decs prog_7_method_7_code T_T_takesDigit = true := by decide +kernel
set_option maxRecDepth 100000 in
theorem D_T_isWithinBounds : mx_decs prog_7_method_8_code T_T_isWithinBounds = true := by decide +kernel
set_option maxRecDepth 100000 in
theorem D_T_signBehind : mx_decs prog_7_method_9_code T_T_signBehind = true := by decide +kernel
set_option maxRecDepth 100000 in
theorem D_T_yearOf : mx_decs prog_7_method_3_code T_T_yearOf = true := by decide +kernel
set_option maxRecDepth 100000 in
theorem D_T_ageOf : mx_decs prog_7_method_4_code T_T_ageOf = true := by decide +kernel
set_option maxRecDepth 100000 in
theorem D_T_spreadOf : mx_decs prog_7_method_5_code T_T_spreadOf = true := by decide +kernel
set_option maxRecDepth 100000 in
theorem D_E_tellRow : mx_decs prog_4_method_3_code T_E_tellRow = true := by decide +kernel
set_option maxRecDepth 100000 in
theorem D_E_hasRow : mx_decs prog_4_method_2_code T_E_hasRow = true := by decide +kernel
set_option maxRecDepth 100000 in
theorem D_W_cell : mx_decs method_2_code T_W_cell = true := by decide +kernel
set_option maxRecDepth 100000 in
theorem D_W_curve : mx_decs method_3_code T_W_curve = true := by decide +kernel
set_option maxRecDepth 100000 in
theorem D_C_curve : mx_decs prog_1_method_2_code T_C_curve = true := by decide +kernel
set_option maxRecDepth 100000 in
theorem D_C_needYear : mx_decs prog_1_method_21_code T_C_needYear = true := by decide +kernel
set_option maxRecDepth 100000 in
theorem D_C_needAgeAndSpread : mx_decs prog_1_method_24_code T_C_needAgeAndSpread = true := by decide +kernel
set_option maxRecDepth 100000 in
theorem D_W_edition : mx_decs method_4_code T_W_edition = true := by decide +kernel
set_option maxRecDepth 100000 in
theorem D_C_edition : mx_decs prog_1_method_3_code T_C_edition = true := by decide +kernel
set_option maxRecDepth 100000 in
theorem D_E_copyRowsOf : mx_decs prog_4_method_4_code T_E_copyRowsOf = true := by decide +kernel
set_option maxRecDepth 100000 in
theorem D_W_use : mx_decs method_5_code T_W_use = true := by decide +kernel
set_option maxRecDepth 100000 in
theorem D_C_use : mx_decs prog_1_method_4_code T_C_use = true := by decide +kernel
set_option maxRecDepth 100000 in
theorem D_W_reservoir : mx_decs method_6_code T_W_reservoir = true := by decide +kernel
set_option maxRecDepth 100000 in
theorem D_C_reservoir : mx_decs prog_1_method_5_code T_C_reservoir = true := by decide +kernel
set_option maxRecDepth 100000 in
theorem D_W_date : mx_decs method_7_code T_W_date = true := by decide +kernel
set_option maxRecDepth 100000 in
theorem D_C_date : mx_decs prog_1_method_6_code T_C_date = true := by decide +kernel
set_option maxRecDepth 100000 in
theorem D_C_needRoomForDate : mx_decs prog_1_method_23_code T_C_needRoomForDate = true := by decide +kernel
set_option maxRecDepth 100000 in
theorem D_C_tellMeasured : mx_decs prog_1_method_26_code T_C_tellMeasured = true := by decide +kernel
set_option maxRecDepth 100000 in
theorem D_C_weightBy : mx_decs prog_1_method_28_code T_C_weightBy = true := by decide +kernel
set_option maxRecDepth 100000 in
theorem D_C_countTold : mx_decs prog_1_method_27_code T_C_countTold = true := by decide +kernel
set_option maxRecDepth 100000 in
theorem D_W_weight : mx_decs method_8_code T_W_weight = true := by decide +kernel
set_option maxRecDepth 100000 in
theorem D_C_weight : mx_decs prog_1_method_7_code T_C_weight = true := by decide +kernel
set_option maxRecDepth 100000 in
theorem D_C_needDate : mx_decs prog_1_method_22_code T_C_needDate = true := by decide +kernel
set_option maxRecDepth 100000 in
theorem D_W_total : mx_decs method_9_code T_W_total = true := by decide +kernel
set_option maxRecDepth 100000 in
theorem D_C_total : mx_decs prog_1_method_8_code T_C_total = true := by decide +kernel
set_option maxRecDepth 100000 in
theorem D_D_allWeights : mx_decs prog_3_method_3_code T_D_allWeights = true := by decide +kernel
set_option maxRecDepth 100000 in
theorem D_W_sum : mx_decs method_10_code T_W_sum = true := by decide +kernel
set_option maxRecDepth 100000 in
theorem D_C_sum : mx_decs prog_1_method_9_code T_C_sum = true := by decide +kernel
set_option maxRecDepth 100000 in
theorem D_D_greatestSumWith : mx_decs prog_3_method_4_code T_D_greatestSumWith = true := by decide +kernel
set_option maxRecDepth 100000 in
theorem D_D_becomeSum : mx_decs prog_3_method_5_code T_D_becomeSum = true := by decide +kernel
set_option maxRecDepth 100000 in
theorem D_W_mix : mx_decs method_11_code T_W_mix = true := by decide +kernel
set_option maxRecDepth 100000 in
theorem D_C_mix : mx_decs prog_1_method_10_code T_C_mix = true := by decide +kernel
set_option maxRecDepth 100000 in
theorem D_C_needShare : mx_decs prog_1_method_25_code T_C_needShare = true := by decide +kernel
set_option maxRecDepth 100000 in
theorem D_D_becomeMixture : mx_decs prog_3_method_6_code T_D_becomeMixture = true := by decide +kernel
set_option maxRecDepth 100000 in
theorem D_W_joinRepeats : mx_decs method_12_code T_W_joinRepeats = true := by decide +kernel
set_option maxRecDepth 100000 in
theorem D_C_joinRepeats : mx_decs prog_1_method_11_code T_C_joinRepeats = true := by decide +kernel
set_option maxRecDepth 100000 in
theorem D_D_isMeasured : mx_decs prog_3_method_2_code T_D_isMeasured = true := by decide +kernel
set_option maxRecDepth 100000 in
theorem D_C_rootAtLeastOne : mx_decs prog_1_method_29_code T_C_rootAtLeastOne = true := by decide +kernel
set_option maxRecDepth 100000 in
theorem D_W_least : mx_decs method_13_code T_W_least = true := by decide +kernel
set_option maxRecDepth 100000 in
theorem D_C_least : mx_decs prog_1_method_12_code T_C_least = true := by decide +kernel
set_option maxRecDepth 100000 in
theorem D_L_choose : mx_decs prog_5_method_2_code T_L_choose = true := by decide +kernel
set_option maxRecDepth 100000 in
theorem D_L_heaviestLeft : mx_decs prog_5_method_3_code T_L_heaviestLeft = true := by decide +kernel
set_option maxRecDepth 100000 in
theorem D_L_findSpans : mx_decs prog_5_method_4_code T_L_findSpans = true := by decide +kernel
set_option maxRecDepth 100000 in
theorem D_L_holdsYear : mx_decs prog_5_method_5_code T_L_holdsYear = true := by decide +kernel
set_option maxRecDepth 100000 in
theorem D_W_span : mx_decs method_14_code T_W_span = true := by decide +kernel
set_option maxRecDepth 100000 in
theorem D_C_span : mx_decs prog_1_method_13_code T_C_span = true := by decide +kernel
set_option maxRecDepth 100000 in
theorem D_W_gap : mx_decs method_15_code T_W_gap = true := by decide +kernel
set_option maxRecDepth 100000 in
theorem D_C_gap : mx_decs prog_1_method_14_code T_C_gap = true := by decide +kernel
set_option maxRecDepth 100000 in
theorem D_R_append : mx_decs prog_2_method_2_code T_R_append = true := by decide +kernel
set_option maxRecDepth 100000 in
theorem D_W_slid : mx_decs method_16_code T_W_slid = true := by decide +kernel
set_option maxRecDepth 100000 in
theorem D_C_slid : mx_decs prog_1_method_15_code T_C_slid = true := by decide +kernel
set_option maxRecDepth 100000 in
theorem D_W_unit : mx_decs method_17_code T_W_unit = true := by decide +kernel
set_option maxRecDepth 100000 in
theorem D_C_unit : mx_decs prog_1_method_18_code T_C_unit = true := by decide +kernel
set_option maxRecDepth 100000 in
theorem D_P_holdsSignsAlone : mx_decs prog_6_method_2_code T_P_holdsSignsAlone = true := by decide +kernel
set_option maxRecDepth 100000 in
theorem D_P_signAt : mx_decs prog_6_method_5_code T_P_signAt = true := by decide +kernel
set_option maxRecDepth 100000 in
theorem D_P_signsIn : mx_decs prog_6_method_3_code T_P_signsIn = true := by decide +kernel
set_option maxRecDepth 100000 in
theorem D_P_append : mx_decs prog_6_method_4_code T_P_append = true := by decide +kernel
set_option maxRecDepth 100000 in
theorem D_W_count : mx_decs method_18_code T_W_count = true := by decide +kernel
set_option maxRecDepth 100000 in
theorem D_C_count : mx_decs prog_1_method_20_code T_C_count = true := by decide +kernel
set_option maxRecDepth 100000 in
theorem D_M_init : mx_decs prog_9_method_1_code T_M_init = true := by decide +kernel
set_option maxRecDepth 100000 in
theorem D_M_thrown : mx_decs prog_9_method_2_code T_M_thrown = true := by decide +kernel
set_option maxRecDepth 100000 in
theorem D_M_curve : mx_decs prog_9_method_8_code T_M_curve = true := by decide +kernel
set_option maxRecDepth 100000 in
theorem D_M_isYear : mx_decs prog_9_method_5_code T_M_isYear = true := by decide +kernel
set_option maxRecDepth 100000 in
theorem D_M_within : mx_decs prog_9_method_4_code T_M_within = true := by decide +kernel
set_option maxRecDepth 100000 in
theorem D_M_goes : mx_decs prog_9_method_3_code T_M_goes = true := by decide +kernel
set_option maxRecDepth 100000 in
theorem D_M_put : mx_decs prog_9_method_7_code T_M_put = true := by decide +kernel
set_option maxRecDepth 100000 in
theorem D_M_edition : mx_decs prog_9_method_9_code T_M_edition = true := by decide +kernel
set_option maxRecDepth 100000 in
theorem D_M_use : mx_decs prog_9_method_10_code T_M_use = true := by decide +kernel
set_option maxRecDepth 100000 in
theorem D_M_reservoir : mx_decs prog_9_method_11_code T_M_reservoir = true := by decide +kernel
set_option maxRecDepth 100000 in
theorem D_M_date : mx_decs prog_9_method_14_code T_M_date = true := by decide +kernel
set_option maxRecDepth 100000 in
theorem D_M_measure : mx_decs prog_9_method_13_code T_M_measure = true := by decide +kernel
set_option maxRecDepth 100000 in
theorem D_M_weigh : mx_decs prog_9_method_12_code T_M_weigh = true := by decide +kernel
set_option maxRecDepth 100000 in
theorem D_M_weight : mx_decs prog_9_method_15_code T_M_weight = true := by decide +kernel
set_option maxRecDepth 100000 in
theorem D_M_isDate : mx_decs prog_9_method_6_code T_M_isDate = true := by decide +kernel
set_option maxRecDepth 100000 in
theorem D_M_total : mx_decs prog_9_method_17_code T_M_total = true := by decide +kernel
set_option maxRecDepth 100000 in
theorem D_M_totalOf : mx_decs prog_9_method_16_code T_M_totalOf = true := by decide +kernel
set_option maxRecDepth 100000 in
theorem D_M_sum : mx_decs prog_9_method_18_code T_M_sum = true := by decide +kernel
set_option maxRecDepth 100000 in
theorem D_M_mix : mx_decs prog_9_method_19_code T_M_mix = true := by decide +kernel
set_option maxRecDepth 100000 in
theorem D_M_joinRepeats : mx_decs prog_9_method_20_code T_M_joinRepeats = true := by decide +kernel
set_option maxRecDepth 100000 in
theorem D_M_least : mx_decs prog_9_method_24_code T_M_least = true := by decide +kernel
set_option maxRecDepth 100000 in
theorem D_M_isNeeded : mx_decs prog_9_method_21_code T_M_isNeeded = true := by decide +kernel
set_option maxRecDepth 100000 in
theorem D_M_spans : mx_decs prog_9_method_23_code T_M_spans = true := by decide +kernel
set_option maxRecDepth 100000 in
theorem D_M_begins : mx_decs prog_9_method_22_code T_M_begins = true := by decide +kernel
set_option maxRecDepth 100000 in
theorem D_M_span : mx_decs prog_9_method_25_code T_M_span = true := by decide +kernel
set_option maxRecDepth 100000 in
theorem D_M_gap : mx_decs prog_9_method_26_code T_M_gap = true := by decide +kernel
set_option maxRecDepth 100000 in
theorem D_M_slid : mx_decs prog_9_method_28_code T_M_slid = true := by decide +kernel
set_option maxRecDepth 100000 in
theorem D_M_slidTo : mx_decs prog_9_method_27_code T_M_slidTo = true := by decide +kernel
set_option maxRecDepth 100000 in
theorem D_M_wiggle : mx_decs prog_9_method_29_code T_M_wiggle = true := by decide +kernel
set_option maxRecDepth 100000 in
theorem D_M_clear : mx_decs prog_9_method_30_code T_M_clear = true := by decide +kernel
set_option maxRecDepth 100000 in
theorem D_M_unit : mx_decs prog_9_method_34_code T_M_unit = true := by decide +kernel
set_option maxRecDepth 100000 in
theorem D_M_plain : mx_decs prog_9_method_32_code T_M_plain = true := by decide +kernel
set_option maxRecDepth 100000 in
theorem D_M_signs : mx_decs prog_9_method_31_code T_M_signs = true := by decide +kernel
set_option maxRecDepth 100000 in
theorem D_M_push : mx_decs prog_9_method_33_code T_M_push = true := by decide +kernel
set_option maxRecDepth 100000 in
theorem D_M_read : mx_decs prog_9_method_36_code T_M_read = true := by decide +kernel
set_option maxRecDepth 100000 in
theorem D_M_fault : mx_decs prog_9_method_35_code T_M_fault = true := by decide +kernel
set_option maxRecDepth 100000 in
theorem D_M_count : mx_decs prog_9_method_37_code T_M_count = true := by decide +kernel
end
section
set_option maxRecDepth 100000 in
theorem D_W_law_0 : mx_decs code T_W_law_0 = true := by decide +kernel
set_option maxRecDepth 100000 in
theorem D_W_law_1 : mx_decs code T_W_law_1 = true := by decide +kernel
set_option maxRecDepth 100000 in
theorem D_W_law_2 : mx_decs code T_W_law_2 = true := by decide +kernel
set_option maxRecDepth 100000 in
theorem D_W_law_3 : mx_decs code T_W_law_3 = true := by decide +kernel
end
section
set_option maxRecDepth 100000 in
theorem D_W_law_4 : mx_decs code T_W_law_4 = true := by decide +kernel
set_option maxRecDepth 100000 in
theorem D_W_law_5 : mx_decs code T_W_law_5 = true := by decide +kernel
set_option maxRecDepth 100000 in
theorem D_W_law_6 : mx_decs code T_W_law_6 = true := by decide +kernel
set_option maxRecDepth 100000 in
theorem D_W_law_7 : mx_decs code T_W_law_7 = true := by decide +kernel
end
section
set_option maxRecDepth 100000 in
theorem D_W_law_8 : mx_decs code T_W_law_8 = true := by decide +kernel
set_option maxRecDepth 100000 in
theorem D_W_law_9 : mx_decs code T_W_law_9 = true := by decide +kernel
set_option maxRecDepth 100000 in
theorem D_W_law_10 : mx_decs code T_W_law_10 = true := by decide +kernel
set_option maxRecDepth 100000 in
theorem D_W_law_11 : mx_decs code T_W_law_11 = true := by decide +kernel
end
section
set_option maxRecDepth 100000 in
theorem D_W_law_12 : mx_decs code T_W_law_12 = true := by decide +kernel
set_option maxRecDepth 100000 in
theorem D_W_law_13 : mx_decs code T_W_law_13 = true := by decide +kernel
set_option maxRecDepth 100000 in
theorem D_W_law_14 : mx_decs code T_W_law_14 = true := by decide +kernel
set_option maxRecDepth 100000 in
theorem D_W_law_15 : mx_decs code T_W_law_15 = true := by decide +kernel
end
section
theorem w_0 : (Jvm.Cond.initialized "CurveSumsLaw") ∈ lw_tbl := mx_t 0 (by decide +kernel)
theorem w_1 : (Jvm.Cond.initialized "CurveSums") ∈ lw_tbl := mx_t 1 (by decide +kernel)
theorem w_2 : (Jvm.Cond.initialized "java/lang/Math") ∈ lw_tbl := mx_t 2 (by decide +kernel)
theorem w_3 : (Jvm.Cond.initialized "CurveSums$Edition") ∈ lw_tbl := mx_t 3 (by decide +kernel)
theorem w_4 : (Jvm.Cond.initialized "CurveSums$Dating") ∈ lw_tbl := mx_t 4 (by decide +kernel)
theorem w_5 : (Jvm.Cond.initialized "CurveSums$LeastSet") ∈ lw_tbl := mx_t 5 (by decide +kernel)
theorem w_6 : (Jvm.Cond.initialized "CurveSums$DateRow") ∈ lw_tbl := mx_t 6 (by decide +kernel)
theorem w_7 : (Jvm.Cond.initialized "CurveSums$Pad") ∈ lw_tbl := mx_t 7 (by decide +kernel)
theorem w_8 : (Jvm.Cond.initialized "CurveSums$TextReader") ∈ lw_tbl := mx_t 8 (by decide +kernel)
theorem w_9 : (Jvm.Cond.initialized "CurveSumsModel") ∈ lw_tbl := mx_t 9 (by decide +kernel)
theorem w_10 : (Jvm.Cond.initialized "java/lang/Throwable") ∈ lw_tbl := mx_t 10 (by decide +kernel)
theorem w_11 : (Jvm.Cond.initialized "java/lang/Exception") ∈ lw_tbl := mx_t 11 (by decide +kernel)
theorem w_12 : (Jvm.Cond.initialized "java/lang/RuntimeException") ∈ lw_tbl := mx_t 12 (by decide +kernel)
theorem w_13 : (Jvm.Cond.initialized "java/lang/IndexOutOfBoundsException") ∈ lw_tbl := mx_t 13 (by decide +kernel)
theorem w_14 : (Jvm.Cond.initialized "java/lang/IllegalArgumentException") ∈ lw_tbl := mx_t 14 (by decide +kernel)
theorem w_15 : (Jvm.Cond.initialized "java/lang/IllegalStateException") ∈ lw_tbl := mx_t 15 (by decide +kernel)
theorem w_16 : (Jvm.Cond.initialized "java/lang/System") ∈ lw_tbl := mx_t 16 (by decide +kernel)
theorem w_17 : (Jvm.Cond.classLink "CurveSumsLaw" (8 : Nat) "CurveSums") ∈ lw_tbl := mx_t 17 (by decide +kernel)
theorem w_18 : (Jvm.Cond.instantiable "CurveSums" (13 : Nat)) ∈ lw_tbl := mx_t 18 (by decide +kernel)
theorem w_19 : (Jvm.Cond.methodLink "CurveSumsLaw" (76 : Nat) ({ cls := "CurveSums", name := "<init>", desc := "(II)V" } : Jvm.MethodName)) ∈ lw_tbl := mx_t 19 (by decide +kernel)
theorem w_20 : (Jvm.Cond.instanceMethod ({ cls := "CurveSums", name := "<init>", desc := "(II)V" } : Jvm.MethodName)) ∈ lw_tbl := mx_t 20 (by decide +kernel)
theorem w_21 : (Jvm.Cond.code ({ cls := "CurveSums", name := "<init>", desc := "(II)V" } : Jvm.MethodName) prog_1_method_1_code (4 : Nat) (Option.none : Option Jvm.ClassFile.FieldType)) ∈ lw_tbl := mx_t 21 (by decide +kernel)
theorem w_22 : (Jvm.Cond.methodLink "CurveSums" (1 : Nat) ({ cls := "java/lang/Object", name := "<init>", desc := "()V" } : Jvm.MethodName)) ∈ lw_tbl := mx_t 22 (by decide +kernel)
theorem w_23 : (Jvm.Cond.instanceMethod ({ cls := "java/lang/Object", name := "<init>", desc := "()V" } : Jvm.MethodName)) ∈ lw_tbl := mx_t 23 (by decide +kernel)
theorem w_24 : (Jvm.Cond.code ({ cls := "java/lang/Object", name := "<init>", desc := "()V" } : Jvm.MethodName) object_method_1_code (1 : Nat) (Option.none : Option Jvm.ClassFile.FieldType)) ∈ lw_tbl := mx_t 24 (by decide +kernel)
theorem w_25 : (Jvm.Cond.methodLink "CurveSums" (9 : Nat) ({ cls := "java/lang/Math", name := "min", desc := "(II)I" } : Jvm.MethodName)) ∈ lw_tbl := mx_t 25 (by decide +kernel)
theorem w_26 : (Jvm.Cond.static ({ cls := "java/lang/Math", name := "min", desc := "(II)I" } : Jvm.MethodName)) ∈ lw_tbl := mx_t 26 (by decide +kernel)
theorem w_27 : (Jvm.Cond.code ({ cls := "java/lang/Math", name := "min", desc := "(II)I" } : Jvm.MethodName) prog_14_method_69_code (2 : Nat) (Option.some Jvm.ClassFile.FieldType.int)) ∈ lw_tbl := mx_t 27 (by decide +kernel)
theorem w_28 : (Jvm.Cond.methodLink "CurveSums" (15 : Nat) ({ cls := "java/lang/Math", name := "max", desc := "(II)I" } : Jvm.MethodName)) ∈ lw_tbl := mx_t 28 (by decide +kernel)
theorem w_29 : (Jvm.Cond.static ({ cls := "java/lang/Math", name := "max", desc := "(II)I" } : Jvm.MethodName)) ∈ lw_tbl := mx_t 29 (by decide +kernel)
theorem w_30 : (Jvm.Cond.code ({ cls := "java/lang/Math", name := "max", desc := "(II)I" } : Jvm.MethodName) prog_14_method_65_code (2 : Nat) (Option.some Jvm.ClassFile.FieldType.int)) ∈ lw_tbl := mx_t 30 (by decide +kernel)
theorem w_31 : (Jvm.Cond.constant "CurveSums" (22 : Nat) (65536 : Int32)) ∈ lw_tbl := mx_t 31 (by decide +kernel)
theorem w_32 : (Jvm.Cond.classLink "CurveSums" (26 : Nat) "CurveSums$Edition") ∈ lw_tbl := mx_t 32 (by decide +kernel)
theorem w_33 : (Jvm.Cond.arrayOver (Jvm.ClassFile.FieldType.object "CurveSums$Edition")) ∈ lw_tbl := mx_t 33 (by decide +kernel)
theorem w_34 : (Jvm.Cond.instantiable "CurveSums$Edition" (3 : Nat)) ∈ lw_tbl := mx_t 34 (by decide +kernel)
theorem w_35 : (Jvm.Cond.methodLink "CurveSums" (32 : Nat) ({ cls := "CurveSums$Edition", name := "<init>", desc := "(I)V" } : Jvm.MethodName)) ∈ lw_tbl := mx_t 35 (by decide +kernel)
theorem w_36 : (Jvm.Cond.instanceMethod ({ cls := "CurveSums$Edition", name := "<init>", desc := "(I)V" } : Jvm.MethodName)) ∈ lw_tbl := mx_t 36 (by decide +kernel)
theorem w_37 : (Jvm.Cond.code ({ cls := "CurveSums$Edition", name := "<init>", desc := "(I)V" } : Jvm.MethodName) prog_4_method_1_code (2 : Nat) (Option.none : Option Jvm.ClassFile.FieldType)) ∈ lw_tbl := mx_t 37 (by decide +kernel)
theorem w_38 : (Jvm.Cond.methodLink "CurveSums$Edition" (1 : Nat) ({ cls := "java/lang/Object", name := "<init>", desc := "()V" } : Jvm.MethodName)) ∈ lw_tbl := mx_t 38 (by decide +kernel)
theorem w_39 : (Jvm.Cond.fieldLink "CurveSums$Edition" (7 : Nat) "CurveSums$Edition" "ages" "[I") ∈ lw_tbl := mx_t 39 (by decide +kernel)
theorem w_40 : (Jvm.Cond.fieldLink "CurveSums" (257 : Nat) "CurveSums$Edition" "ages" "[I") ∈ lw_tbl := mx_t 40 (by decide +kernel)
theorem w_41 : (Jvm.Cond.fieldLink "CurveSums$Edition" (13 : Nat) "CurveSums$Edition" "spreads" "[I") ∈ lw_tbl := mx_t 41 (by decide +kernel)
theorem w_42 : (Jvm.Cond.fieldLink "CurveSums" (254 : Nat) "CurveSums$Edition" "spreads" "[I") ∈ lw_tbl := mx_t 42 (by decide +kernel)
theorem w_43 : (Jvm.Cond.fieldLink "CurveSums$Edition" (20 : Nat) "CurveSums$Edition" "rowCount" "I") ∈ lw_tbl := mx_t 43 (by decide +kernel)
theorem w_44 : (Jvm.Cond.fieldLink "CurveSums" (230 : Nat) "CurveSums$Edition" "rowCount" "I") ∈ lw_tbl := mx_t 44 (by decide +kernel)
theorem w_45 : (Jvm.Cond.laysFinal "CurveSums$Edition" "CurveSums$Edition" "ages" "[I") ∈ lw_tbl := mx_t 45 (by decide +kernel)
theorem w_46 : (Jvm.Cond.soleField "CurveSums$Edition" "ages") ∈ lw_tbl := mx_t 46 (by decide +kernel)
theorem w_47 : (Jvm.Cond.laysFinal "CurveSums$Edition" "CurveSums$Edition" "spreads" "[I") ∈ lw_tbl := mx_t 47 (by decide +kernel)
theorem w_48 : (Jvm.Cond.soleField "CurveSums$Edition" "spreads") ∈ lw_tbl := mx_t 48 (by decide +kernel)
theorem w_49 : (Jvm.Cond.lays "CurveSums$Edition" "CurveSums$Edition" "rowCount" "I") ∈ lw_tbl := mx_t 49 (by decide +kernel)
theorem w_50 : (Jvm.Cond.soleField "CurveSums$Edition" "rowCount") ∈ lw_tbl := mx_t 50 (by decide +kernel)
theorem w_51 : (Jvm.Cond.superclass "CurveSums$Edition" "java/lang/Object") ∈ lw_tbl := mx_t 51 (by decide +kernel)
theorem w_52 : (Jvm.Cond.arrayClass Jvm.ClassFile.FieldType.int) ∈ lw_tbl := mx_t 52 (by decide +kernel)
theorem w_53 : (Jvm.Cond.classLink "CurveSums" (35 : Nat) "CurveSums$Dating") ∈ lw_tbl := mx_t 53 (by decide +kernel)
theorem w_54 : (Jvm.Cond.arrayOver (Jvm.ClassFile.FieldType.object "CurveSums$Dating")) ∈ lw_tbl := mx_t 54 (by decide +kernel)
theorem w_55 : (Jvm.Cond.instantiable "CurveSums$Dating" (3 : Nat)) ∈ lw_tbl := mx_t 55 (by decide +kernel)
theorem w_56 : (Jvm.Cond.methodLink "CurveSums" (41 : Nat) ({ cls := "CurveSums$Dating", name := "<init>", desc := "(I)V" } : Jvm.MethodName)) ∈ lw_tbl := mx_t 56 (by decide +kernel)
theorem w_57 : (Jvm.Cond.instanceMethod ({ cls := "CurveSums$Dating", name := "<init>", desc := "(I)V" } : Jvm.MethodName)) ∈ lw_tbl := mx_t 57 (by decide +kernel)
theorem w_58 : (Jvm.Cond.code ({ cls := "CurveSums$Dating", name := "<init>", desc := "(I)V" } : Jvm.MethodName) prog_3_method_1_code (2 : Nat) (Option.none : Option Jvm.ClassFile.FieldType)) ∈ lw_tbl := mx_t 58 (by decide +kernel)
theorem w_59 : (Jvm.Cond.methodLink "CurveSums$Dating" (1 : Nat) ({ cls := "java/lang/Object", name := "<init>", desc := "()V" } : Jvm.MethodName)) ∈ lw_tbl := mx_t 59 (by decide +kernel)
theorem w_60 : (Jvm.Cond.fieldLink "CurveSums$Dating" (7 : Nat) "CurveSums$Dating" "weights" "[I") ∈ lw_tbl := mx_t 60 (by decide +kernel)
theorem w_61 : (Jvm.Cond.fieldLink "CurveSums$LeastSet" (32 : Nat) "CurveSums$Dating" "weights" "[I") ∈ lw_tbl := mx_t 61 (by decide +kernel)
theorem w_62 : (Jvm.Cond.fieldLink "CurveSums$DateRow" (22 : Nat) "CurveSums$Dating" "weights" "[I") ∈ lw_tbl := mx_t 62 (by decide +kernel)
theorem w_63 : (Jvm.Cond.fieldLink "CurveSums" (125 : Nat) "CurveSums$Dating" "weights" "[I") ∈ lw_tbl := mx_t 63 (by decide +kernel)
theorem w_64 : (Jvm.Cond.fieldLink "CurveSums" (165 : Nat) "CurveSums$Dating" "age" "I") ∈ lw_tbl := mx_t 64 (by decide +kernel)
theorem w_65 : (Jvm.Cond.fieldLink "CurveSums$Dating" (13 : Nat) "CurveSums$Dating" "spread" "I") ∈ lw_tbl := mx_t 65 (by decide +kernel)
theorem w_66 : (Jvm.Cond.fieldLink "CurveSums" (162 : Nat) "CurveSums$Dating" "spread" "I") ∈ lw_tbl := mx_t 66 (by decide +kernel)
theorem w_67 : (Jvm.Cond.laysFinal "CurveSums$Dating" "CurveSums$Dating" "weights" "[I") ∈ lw_tbl := mx_t 67 (by decide +kernel)
theorem w_68 : (Jvm.Cond.soleField "CurveSums$Dating" "weights") ∈ lw_tbl := mx_t 68 (by decide +kernel)
theorem w_69 : (Jvm.Cond.lays "CurveSums$Dating" "CurveSums$Dating" "age" "I") ∈ lw_tbl := mx_t 69 (by decide +kernel)
theorem w_70 : (Jvm.Cond.soleField "CurveSums$Dating" "age") ∈ lw_tbl := mx_t 70 (by decide +kernel)
theorem w_71 : (Jvm.Cond.lays "CurveSums$Dating" "CurveSums$Dating" "spread" "I") ∈ lw_tbl := mx_t 71 (by decide +kernel)
theorem w_72 : (Jvm.Cond.soleField "CurveSums$Dating" "spread") ∈ lw_tbl := mx_t 72 (by decide +kernel)
theorem w_73 : (Jvm.Cond.superclass "CurveSums$Dating" "java/lang/Object") ∈ lw_tbl := mx_t 73 (by decide +kernel)
theorem w_74 : (Jvm.Cond.classLink "CurveSums" (42 : Nat) "CurveSums$LeastSet") ∈ lw_tbl := mx_t 74 (by decide +kernel)
theorem w_75 : (Jvm.Cond.instantiable "CurveSums$LeastSet" (4 : Nat)) ∈ lw_tbl := mx_t 75 (by decide +kernel)
theorem w_76 : (Jvm.Cond.methodLink "CurveSums" (44 : Nat) ({ cls := "CurveSums$LeastSet", name := "<init>", desc := "(I)V" } : Jvm.MethodName)) ∈ lw_tbl := mx_t 76 (by decide +kernel)
theorem w_77 : (Jvm.Cond.instanceMethod ({ cls := "CurveSums$LeastSet", name := "<init>", desc := "(I)V" } : Jvm.MethodName)) ∈ lw_tbl := mx_t 77 (by decide +kernel)
theorem w_78 : (Jvm.Cond.code ({ cls := "CurveSums$LeastSet", name := "<init>", desc := "(I)V" } : Jvm.MethodName) prog_5_method_1_code (2 : Nat) (Option.none : Option Jvm.ClassFile.FieldType)) ∈ lw_tbl := mx_t 78 (by decide +kernel)
theorem w_79 : (Jvm.Cond.methodLink "CurveSums$LeastSet" (3 : Nat) ({ cls := "java/lang/Object", name := "<init>", desc := "()V" } : Jvm.MethodName)) ∈ lw_tbl := mx_t 79 (by decide +kernel)
theorem w_80 : (Jvm.Cond.fieldLink "CurveSums$LeastSet" (9 : Nat) "CurveSums$LeastSet" "chosen" "[Z") ∈ lw_tbl := mx_t 80 (by decide +kernel)
theorem w_81 : (Jvm.Cond.fieldLink "CurveSums$LeastSet" (15 : Nat) "CurveSums$LeastSet" "firsts" "[I") ∈ lw_tbl := mx_t 81 (by decide +kernel)
theorem w_82 : (Jvm.Cond.fieldLink "CurveSums" (183 : Nat) "CurveSums$LeastSet" "firsts" "[I") ∈ lw_tbl := mx_t 82 (by decide +kernel)
theorem w_83 : (Jvm.Cond.fieldLink "CurveSums$LeastSet" (19 : Nat) "CurveSums$LeastSet" "lasts" "[I") ∈ lw_tbl := mx_t 83 (by decide +kernel)
theorem w_84 : (Jvm.Cond.fieldLink "CurveSums" (186 : Nat) "CurveSums$LeastSet" "lasts" "[I") ∈ lw_tbl := mx_t 84 (by decide +kernel)
theorem w_85 : (Jvm.Cond.fieldLink "CurveSums$LeastSet" (38 : Nat) "CurveSums$LeastSet" "spanCount" "I") ∈ lw_tbl := mx_t 85 (by decide +kernel)
theorem w_86 : (Jvm.Cond.fieldLink "CurveSums" (176 : Nat) "CurveSums$LeastSet" "spanCount" "I") ∈ lw_tbl := mx_t 86 (by decide +kernel)
theorem w_87 : (Jvm.Cond.laysFinal "CurveSums$LeastSet" "CurveSums$LeastSet" "chosen" "[Z") ∈ lw_tbl := mx_t 87 (by decide +kernel)
theorem w_88 : (Jvm.Cond.soleField "CurveSums$LeastSet" "chosen") ∈ lw_tbl := mx_t 88 (by decide +kernel)
theorem w_89 : (Jvm.Cond.laysFinal "CurveSums$LeastSet" "CurveSums$LeastSet" "firsts" "[I") ∈ lw_tbl := mx_t 89 (by decide +kernel)
theorem w_90 : (Jvm.Cond.soleField "CurveSums$LeastSet" "firsts") ∈ lw_tbl := mx_t 90 (by decide +kernel)
theorem w_91 : (Jvm.Cond.laysFinal "CurveSums$LeastSet" "CurveSums$LeastSet" "lasts" "[I") ∈ lw_tbl := mx_t 91 (by decide +kernel)
theorem w_92 : (Jvm.Cond.soleField "CurveSums$LeastSet" "lasts") ∈ lw_tbl := mx_t 92 (by decide +kernel)
theorem w_93 : (Jvm.Cond.lays "CurveSums$LeastSet" "CurveSums$LeastSet" "spanCount" "I") ∈ lw_tbl := mx_t 93 (by decide +kernel)
theorem w_94 : (Jvm.Cond.soleField "CurveSums$LeastSet" "spanCount") ∈ lw_tbl := mx_t 94 (by decide +kernel)
theorem w_95 : (Jvm.Cond.superclass "CurveSums$LeastSet" "java/lang/Object") ∈ lw_tbl := mx_t 95 (by decide +kernel)
theorem w_96 : (Jvm.Cond.arrayClass Jvm.ClassFile.FieldType.boolean) ∈ lw_tbl := mx_t 96 (by decide +kernel)
theorem w_97 : (Jvm.Cond.classLink "CurveSums" (49 : Nat) "CurveSums$DateRow") ∈ lw_tbl := mx_t 97 (by decide +kernel)
theorem w_98 : (Jvm.Cond.instantiable "CurveSums$DateRow" (3 : Nat)) ∈ lw_tbl := mx_t 98 (by decide +kernel)
theorem w_99 : (Jvm.Cond.methodLink "CurveSums" (51 : Nat) ({ cls := "CurveSums$DateRow", name := "<init>", desc := "()V" } : Jvm.MethodName)) ∈ lw_tbl := mx_t 99 (by decide +kernel)
theorem w_100 : (Jvm.Cond.instanceMethod ({ cls := "CurveSums$DateRow", name := "<init>", desc := "()V" } : Jvm.MethodName)) ∈ lw_tbl := mx_t 100 (by decide +kernel)
theorem w_101 : (Jvm.Cond.code ({ cls := "CurveSums$DateRow", name := "<init>", desc := "()V" } : Jvm.MethodName) prog_2_method_1_code (1 : Nat) (Option.none : Option Jvm.ClassFile.FieldType)) ∈ lw_tbl := mx_t 101 (by decide +kernel)
theorem w_102 : (Jvm.Cond.methodLink "CurveSums$DateRow" (3 : Nat) ({ cls := "java/lang/Object", name := "<init>", desc := "()V" } : Jvm.MethodName)) ∈ lw_tbl := mx_t 102 (by decide +kernel)
theorem w_103 : (Jvm.Cond.fieldLink "CurveSums$DateRow" (9 : Nat) "CurveSums$DateRow" "numbers" "[I") ∈ lw_tbl := mx_t 103 (by decide +kernel)
theorem w_104 : (Jvm.Cond.fieldLink "CurveSums$DateRow" (15 : Nat) "CurveSums$DateRow" "gaps" "[I") ∈ lw_tbl := mx_t 104 (by decide +kernel)
theorem w_105 : (Jvm.Cond.fieldLink "CurveSums$DateRow" (18 : Nat) "CurveSums$DateRow" "size" "I") ∈ lw_tbl := mx_t 105 (by decide +kernel)
theorem w_106 : (Jvm.Cond.fieldLink "CurveSums" (191 : Nat) "CurveSums$DateRow" "size" "I") ∈ lw_tbl := mx_t 106 (by decide +kernel)
theorem w_107 : (Jvm.Cond.laysFinal "CurveSums$DateRow" "CurveSums$DateRow" "numbers" "[I") ∈ lw_tbl := mx_t 107 (by decide +kernel)
theorem w_108 : (Jvm.Cond.soleField "CurveSums$DateRow" "numbers") ∈ lw_tbl := mx_t 108 (by decide +kernel)
theorem w_109 : (Jvm.Cond.laysFinal "CurveSums$DateRow" "CurveSums$DateRow" "gaps" "[I") ∈ lw_tbl := mx_t 109 (by decide +kernel)
theorem w_110 : (Jvm.Cond.soleField "CurveSums$DateRow" "gaps") ∈ lw_tbl := mx_t 110 (by decide +kernel)
theorem w_111 : (Jvm.Cond.lays "CurveSums$DateRow" "CurveSums$DateRow" "size" "I") ∈ lw_tbl := mx_t 111 (by decide +kernel)
theorem w_112 : (Jvm.Cond.soleField "CurveSums$DateRow" "size") ∈ lw_tbl := mx_t 112 (by decide +kernel)
theorem w_113 : (Jvm.Cond.superclass "CurveSums$DateRow" "java/lang/Object") ∈ lw_tbl := mx_t 113 (by decide +kernel)
theorem w_114 : (Jvm.Cond.classLink "CurveSums" (56 : Nat) "CurveSums$Pad") ∈ lw_tbl := mx_t 114 (by decide +kernel)
theorem w_115 : (Jvm.Cond.instantiable "CurveSums$Pad" (2 : Nat)) ∈ lw_tbl := mx_t 115 (by decide +kernel)
theorem w_116 : (Jvm.Cond.methodLink "CurveSums" (58 : Nat) ({ cls := "CurveSums$Pad", name := "<init>", desc := "()V" } : Jvm.MethodName)) ∈ lw_tbl := mx_t 116 (by decide +kernel)
theorem w_117 : (Jvm.Cond.instanceMethod ({ cls := "CurveSums$Pad", name := "<init>", desc := "()V" } : Jvm.MethodName)) ∈ lw_tbl := mx_t 117 (by decide +kernel)
theorem w_118 : (Jvm.Cond.code ({ cls := "CurveSums$Pad", name := "<init>", desc := "()V" } : Jvm.MethodName) prog_6_method_1_code (1 : Nat) (Option.none : Option Jvm.ClassFile.FieldType)) ∈ lw_tbl := mx_t 118 (by decide +kernel)
theorem w_119 : (Jvm.Cond.methodLink "CurveSums$Pad" (3 : Nat) ({ cls := "java/lang/Object", name := "<init>", desc := "()V" } : Jvm.MethodName)) ∈ lw_tbl := mx_t 119 (by decide +kernel)
theorem w_120 : (Jvm.Cond.fieldLink "CurveSums$Pad" (9 : Nat) "CurveSums$Pad" "signs" "[I") ∈ lw_tbl := mx_t 120 (by decide +kernel)
theorem w_121 : (Jvm.Cond.fieldLink "CurveSums$TextReader" (31 : Nat) "CurveSums$Pad" "signs" "[I") ∈ lw_tbl := mx_t 121 (by decide +kernel)
theorem w_122 : (Jvm.Cond.fieldLink "CurveSums$TextReader" (26 : Nat) "CurveSums$Pad" "size" "I") ∈ lw_tbl := mx_t 122 (by decide +kernel)
theorem w_123 : (Jvm.Cond.fieldLink "CurveSums$Pad" (19 : Nat) "CurveSums$Pad" "size" "I") ∈ lw_tbl := mx_t 123 (by decide +kernel)
theorem w_124 : (Jvm.Cond.fieldLink "CurveSums" (209 : Nat) "CurveSums$Pad" "size" "I") ∈ lw_tbl := mx_t 124 (by decide +kernel)
theorem w_125 : (Jvm.Cond.laysFinal "CurveSums$Pad" "CurveSums$Pad" "signs" "[I") ∈ lw_tbl := mx_t 125 (by decide +kernel)
theorem w_126 : (Jvm.Cond.soleField "CurveSums$Pad" "signs") ∈ lw_tbl := mx_t 126 (by decide +kernel)
theorem w_127 : (Jvm.Cond.lays "CurveSums$Pad" "CurveSums$Pad" "size" "I") ∈ lw_tbl := mx_t 127 (by decide +kernel)
theorem w_128 : (Jvm.Cond.soleField "CurveSums$Pad" "size") ∈ lw_tbl := mx_t 128 (by decide +kernel)
theorem w_129 : (Jvm.Cond.superclass "CurveSums$Pad" "java/lang/Object") ∈ lw_tbl := mx_t 129 (by decide +kernel)
theorem w_130 : (Jvm.Cond.classLink "CurveSums" (63 : Nat) "CurveSums$TextReader") ∈ lw_tbl := mx_t 130 (by decide +kernel)
theorem w_131 : (Jvm.Cond.instantiable "CurveSums$TextReader" (4 : Nat)) ∈ lw_tbl := mx_t 131 (by decide +kernel)
theorem w_132 : (Jvm.Cond.methodLink "CurveSums" (65 : Nat) ({ cls := "CurveSums$TextReader", name := "<init>", desc := "(I)V" } : Jvm.MethodName)) ∈ lw_tbl := mx_t 132 (by decide +kernel)
theorem w_133 : (Jvm.Cond.instanceMethod ({ cls := "CurveSums$TextReader", name := "<init>", desc := "(I)V" } : Jvm.MethodName)) ∈ lw_tbl := mx_t 133 (by decide +kernel)
theorem w_134 : (Jvm.Cond.code ({ cls := "CurveSums$TextReader", name := "<init>", desc := "(I)V" } : Jvm.MethodName) prog_7_method_1_code (2 : Nat) (Option.none : Option Jvm.ClassFile.FieldType)) ∈ lw_tbl := mx_t 134 (by decide +kernel)
theorem w_135 : (Jvm.Cond.methodLink "CurveSums$TextReader" (3 : Nat) ({ cls := "java/lang/Object", name := "<init>", desc := "()V" } : Jvm.MethodName)) ∈ lw_tbl := mx_t 135 (by decide +kernel)
theorem w_136 : (Jvm.Cond.fieldLink "CurveSums$TextReader" (9 : Nat) "CurveSums$TextReader" "years" "I") ∈ lw_tbl := mx_t 136 (by decide +kernel)
theorem w_137 : (Jvm.Cond.fieldLink "CurveSums$TextReader" (15 : Nat) "CurveSums$TextReader" "numbers" "[I") ∈ lw_tbl := mx_t 137 (by decide +kernel)
theorem w_138 : (Jvm.Cond.fieldLink "CurveSums$TextReader" (19 : Nat) "CurveSums$TextReader" "current" "I") ∈ lw_tbl := mx_t 138 (by decide +kernel)
theorem w_139 : (Jvm.Cond.fieldLink "CurveSums$TextReader" (22 : Nat) "CurveSums$TextReader" "begun" "Z") ∈ lw_tbl := mx_t 139 (by decide +kernel)
theorem w_140 : (Jvm.Cond.laysFinal "CurveSums$TextReader" "CurveSums$TextReader" "years" "I") ∈ lw_tbl := mx_t 140 (by decide +kernel)
theorem w_141 : (Jvm.Cond.soleField "CurveSums$TextReader" "years") ∈ lw_tbl := mx_t 141 (by decide +kernel)
theorem w_142 : (Jvm.Cond.laysFinal "CurveSums$TextReader" "CurveSums$TextReader" "numbers" "[I") ∈ lw_tbl := mx_t 142 (by decide +kernel)
theorem w_143 : (Jvm.Cond.soleField "CurveSums$TextReader" "numbers") ∈ lw_tbl := mx_t 143 (by decide +kernel)
theorem w_144 : (Jvm.Cond.lays "CurveSums$TextReader" "CurveSums$TextReader" "current" "I") ∈ lw_tbl := mx_t 144 (by decide +kernel)
theorem w_145 : (Jvm.Cond.soleField "CurveSums$TextReader" "current") ∈ lw_tbl := mx_t 145 (by decide +kernel)
theorem w_146 : (Jvm.Cond.lays "CurveSums$TextReader" "CurveSums$TextReader" "begun" "Z") ∈ lw_tbl := mx_t 146 (by decide +kernel)
theorem w_147 : (Jvm.Cond.soleField "CurveSums$TextReader" "begun") ∈ lw_tbl := mx_t 147 (by decide +kernel)
theorem w_148 : (Jvm.Cond.superclass "CurveSums$TextReader" "java/lang/Object") ∈ lw_tbl := mx_t 148 (by decide +kernel)
theorem w_149 : (Jvm.Cond.fieldLink "CurveSums" (18 : Nat) "CurveSums" "yearCount" "I") ∈ lw_tbl := mx_t 149 (by decide +kernel)
theorem w_150 : (Jvm.Cond.fieldLink "CurveSums" (23 : Nat) "CurveSums" "weightUnit" "I") ∈ lw_tbl := mx_t 150 (by decide +kernel)
theorem w_151 : (Jvm.Cond.fieldLink "CurveSums" (28 : Nat) "CurveSums" "editions" "[LCurveSums$Edition;") ∈ lw_tbl := mx_t 151 (by decide +kernel)
theorem w_152 : (Jvm.Cond.fieldLink "CurveSums" (37 : Nat) "CurveSums" "dates" "[LCurveSums$Dating;") ∈ lw_tbl := mx_t 152 (by decide +kernel)
theorem w_153 : (Jvm.Cond.fieldLink "CurveSums" (45 : Nat) "CurveSums" "leastSet" "LCurveSums$LeastSet;") ∈ lw_tbl := mx_t 153 (by decide +kernel)
theorem w_154 : (Jvm.Cond.fieldLink "CurveSums" (52 : Nat) "CurveSums" "dateRow" "LCurveSums$DateRow;") ∈ lw_tbl := mx_t 154 (by decide +kernel)
theorem w_155 : (Jvm.Cond.fieldLink "CurveSums" (59 : Nat) "CurveSums" "pad" "LCurveSums$Pad;") ∈ lw_tbl := mx_t 155 (by decide +kernel)
theorem w_156 : (Jvm.Cond.fieldLink "CurveSums" (66 : Nat) "CurveSums" "reader" "LCurveSums$TextReader;") ∈ lw_tbl := mx_t 156 (by decide +kernel)
theorem w_157 : (Jvm.Cond.fieldLink "CurveSums" (70 : Nat) "CurveSums" "editionCount" "I") ∈ lw_tbl := mx_t 157 (by decide +kernel)
theorem w_158 : (Jvm.Cond.fieldLink "CurveSums" (80 : Nat) "CurveSums" "editionInUse" "I") ∈ lw_tbl := mx_t 158 (by decide +kernel)
theorem w_159 : (Jvm.Cond.fieldLink "CurveSums" (138 : Nat) "CurveSums" "dateCount" "I") ∈ lw_tbl := mx_t 159 (by decide +kernel)
theorem w_160 : (Jvm.Cond.fieldLink "CurveSums" (110 : Nat) "CurveSums" "reservoirAge" "I") ∈ lw_tbl := mx_t 160 (by decide +kernel)
theorem w_161 : (Jvm.Cond.fieldLink "CurveSums" (113 : Nat) "CurveSums" "reservoirSpread" "I") ∈ lw_tbl := mx_t 161 (by decide +kernel)
theorem w_162 : (Jvm.Cond.laysFinal "CurveSums" "CurveSums" "yearCount" "I") ∈ lw_tbl := mx_t 162 (by decide +kernel)
theorem w_163 : (Jvm.Cond.soleField "CurveSums" "yearCount") ∈ lw_tbl := mx_t 163 (by decide +kernel)
theorem w_164 : (Jvm.Cond.laysFinal "CurveSums" "CurveSums" "weightUnit" "I") ∈ lw_tbl := mx_t 164 (by decide +kernel)
theorem w_165 : (Jvm.Cond.soleField "CurveSums" "weightUnit") ∈ lw_tbl := mx_t 165 (by decide +kernel)
theorem w_166 : (Jvm.Cond.laysFinal "CurveSums" "CurveSums" "editions" "[LCurveSums$Edition;") ∈ lw_tbl := mx_t 166 (by decide +kernel)
theorem w_167 : (Jvm.Cond.soleField "CurveSums" "editions") ∈ lw_tbl := mx_t 167 (by decide +kernel)
theorem w_168 : (Jvm.Cond.laysFinal "CurveSums" "CurveSums" "dates" "[LCurveSums$Dating;") ∈ lw_tbl := mx_t 168 (by decide +kernel)
theorem w_169 : (Jvm.Cond.soleField "CurveSums" "dates") ∈ lw_tbl := mx_t 169 (by decide +kernel)
theorem w_170 : (Jvm.Cond.laysFinal "CurveSums" "CurveSums" "leastSet" "LCurveSums$LeastSet;") ∈ lw_tbl := mx_t 170 (by decide +kernel)
theorem w_171 : (Jvm.Cond.soleField "CurveSums" "leastSet") ∈ lw_tbl := mx_t 171 (by decide +kernel)
theorem w_172 : (Jvm.Cond.laysFinal "CurveSums" "CurveSums" "dateRow" "LCurveSums$DateRow;") ∈ lw_tbl := mx_t 172 (by decide +kernel)
theorem w_173 : (Jvm.Cond.soleField "CurveSums" "dateRow") ∈ lw_tbl := mx_t 173 (by decide +kernel)
theorem w_174 : (Jvm.Cond.laysFinal "CurveSums" "CurveSums" "pad" "LCurveSums$Pad;") ∈ lw_tbl := mx_t 174 (by decide +kernel)
theorem w_175 : (Jvm.Cond.soleField "CurveSums" "pad") ∈ lw_tbl := mx_t 175 (by decide +kernel)
theorem w_176 : (Jvm.Cond.laysFinal "CurveSums" "CurveSums" "reader" "LCurveSums$TextReader;") ∈ lw_tbl := mx_t 176 (by decide +kernel)
theorem w_177 : (Jvm.Cond.soleField "CurveSums" "reader") ∈ lw_tbl := mx_t 177 (by decide +kernel)
theorem w_178 : (Jvm.Cond.lays "CurveSums" "CurveSums" "editionCount" "I") ∈ lw_tbl := mx_t 178 (by decide +kernel)
theorem w_179 : (Jvm.Cond.soleField "CurveSums" "editionCount") ∈ lw_tbl := mx_t 179 (by decide +kernel)
theorem w_180 : (Jvm.Cond.lays "CurveSums" "CurveSums" "editionInUse" "I") ∈ lw_tbl := mx_t 180 (by decide +kernel)
theorem w_181 : (Jvm.Cond.soleField "CurveSums" "editionInUse") ∈ lw_tbl := mx_t 181 (by decide +kernel)
theorem w_182 : (Jvm.Cond.lays "CurveSums" "CurveSums" "dateCount" "I") ∈ lw_tbl := mx_t 182 (by decide +kernel)
theorem w_183 : (Jvm.Cond.soleField "CurveSums" "dateCount") ∈ lw_tbl := mx_t 183 (by decide +kernel)
theorem w_184 : (Jvm.Cond.lays "CurveSums" "CurveSums" "reservoirAge" "I") ∈ lw_tbl := mx_t 184 (by decide +kernel)
theorem w_185 : (Jvm.Cond.soleField "CurveSums" "reservoirAge") ∈ lw_tbl := mx_t 185 (by decide +kernel)
theorem w_186 : (Jvm.Cond.lays "CurveSums" "CurveSums" "reservoirSpread" "I") ∈ lw_tbl := mx_t 186 (by decide +kernel)
theorem w_187 : (Jvm.Cond.soleField "CurveSums" "reservoirSpread") ∈ lw_tbl := mx_t 187 (by decide +kernel)
theorem w_188 : (Jvm.Cond.superclass "CurveSums" "java/lang/Object") ∈ lw_tbl := mx_t 188 (by decide +kernel)
theorem w_189 : (Jvm.Cond.methodLink "CurveSumsLaw" (132 : Nat) ({ cls := "CurveSums", name := "wiggle", desc := "()I" } : Jvm.MethodName)) ∈ lw_tbl := mx_t 189 (by decide +kernel)
theorem w_190 : (Jvm.Cond.instanceMethod ({ cls := "CurveSums", name := "wiggle", desc := "()I" } : Jvm.MethodName)) ∈ lw_tbl := mx_t 190 (by decide +kernel)
theorem w_191 : (Jvm.Cond.selects "CurveSums" ({ cls := "CurveSums", name := "wiggle", desc := "()I" } : Jvm.MethodName) ({ cls := "CurveSums", name := "wiggle", desc := "()I" } : Jvm.MethodName)) ∈ lw_tbl := mx_t 191 (by decide +kernel)
theorem w_192 : (Jvm.Cond.code ({ cls := "CurveSums", name := "wiggle", desc := "()I" } : Jvm.MethodName) prog_1_method_16_code (5 : Nat) (Option.some Jvm.ClassFile.FieldType.int)) ∈ lw_tbl := mx_t 192 (by decide +kernel)
theorem w_193 : (Jvm.Cond.methodLink "CurveSums" (199 : Nat) ({ cls := "CurveSums$DateRow", name := "sumAt", desc := "(I[LCurveSums$Dating;)I" } : Jvm.MethodName)) ∈ lw_tbl := mx_t 193 (by decide +kernel)
theorem w_194 : (Jvm.Cond.instanceMethod ({ cls := "CurveSums$DateRow", name := "sumAt", desc := "(I[LCurveSums$Dating;)I" } : Jvm.MethodName)) ∈ lw_tbl := mx_t 194 (by decide +kernel)
theorem w_195 : (Jvm.Cond.selects "CurveSums$DateRow" ({ cls := "CurveSums$DateRow", name := "sumAt", desc := "(I[LCurveSums$Dating;)I" } : Jvm.MethodName) ({ cls := "CurveSums$DateRow", name := "sumAt", desc := "(I[LCurveSums$Dating;)I" } : Jvm.MethodName)) ∈ lw_tbl := mx_t 195 (by decide +kernel)
theorem w_196 : (Jvm.Cond.code ({ cls := "CurveSums$DateRow", name := "sumAt", desc := "(I[LCurveSums$Dating;)I" } : Jvm.MethodName) prog_2_method_3_code (7 : Nat) (Option.some Jvm.ClassFile.FieldType.int)) ∈ lw_tbl := mx_t 196 (by decide +kernel)
theorem w_197 : (Jvm.Cond.methodLink "CurveSumsLaw" (136 : Nat) ({ cls := "CurveSums", name := "clear", desc := "()I" } : Jvm.MethodName)) ∈ lw_tbl := mx_t 197 (by decide +kernel)
theorem w_198 : (Jvm.Cond.instanceMethod ({ cls := "CurveSums", name := "clear", desc := "()I" } : Jvm.MethodName)) ∈ lw_tbl := mx_t 198 (by decide +kernel)
theorem w_199 : (Jvm.Cond.selects "CurveSums" ({ cls := "CurveSums", name := "clear", desc := "()I" } : Jvm.MethodName) ({ cls := "CurveSums", name := "clear", desc := "()I" } : Jvm.MethodName)) ∈ lw_tbl := mx_t 199 (by decide +kernel)
theorem w_200 : (Jvm.Cond.code ({ cls := "CurveSums", name := "clear", desc := "()I" } : Jvm.MethodName) prog_1_method_17_code (2 : Nat) (Option.some Jvm.ClassFile.FieldType.int)) ∈ lw_tbl := mx_t 200 (by decide +kernel)
theorem w_201 : (Jvm.Cond.methodLink "CurveSumsLaw" (143 : Nat) ({ cls := "CurveSums", name := "read", desc := "()I" } : Jvm.MethodName)) ∈ lw_tbl := mx_t 201 (by decide +kernel)
theorem w_202 : (Jvm.Cond.instanceMethod ({ cls := "CurveSums", name := "read", desc := "()I" } : Jvm.MethodName)) ∈ lw_tbl := mx_t 202 (by decide +kernel)
theorem w_203 : (Jvm.Cond.selects "CurveSums" ({ cls := "CurveSums", name := "read", desc := "()I" } : Jvm.MethodName) ({ cls := "CurveSums", name := "read", desc := "()I" } : Jvm.MethodName)) ∈ lw_tbl := mx_t 203 (by decide +kernel)
theorem w_204 : (Jvm.Cond.code ({ cls := "CurveSums", name := "read", desc := "()I" } : Jvm.MethodName) prog_1_method_19_code (3 : Nat) (Option.some Jvm.ClassFile.FieldType.int)) ∈ lw_tbl := mx_t 204 (by decide +kernel)
theorem w_205 : (Jvm.Cond.methodLink "CurveSums" (217 : Nat) ({ cls := "CurveSums$TextReader", name := "scan", desc := "(LCurveSums$Pad;)I" } : Jvm.MethodName)) ∈ lw_tbl := mx_t 205 (by decide +kernel)
theorem w_206 : (Jvm.Cond.instanceMethod ({ cls := "CurveSums$TextReader", name := "scan", desc := "(LCurveSums$Pad;)I" } : Jvm.MethodName)) ∈ lw_tbl := mx_t 206 (by decide +kernel)
theorem w_207 : (Jvm.Cond.selects "CurveSums$TextReader" ({ cls := "CurveSums$TextReader", name := "scan", desc := "(LCurveSums$Pad;)I" } : Jvm.MethodName) ({ cls := "CurveSums$TextReader", name := "scan", desc := "(LCurveSums$Pad;)I" } : Jvm.MethodName)) ∈ lw_tbl := mx_t 207 (by decide +kernel)
theorem w_208 : (Jvm.Cond.code ({ cls := "CurveSums$TextReader", name := "scan", desc := "(LCurveSums$Pad;)I" } : Jvm.MethodName) prog_7_method_2_code (3 : Nat) (Option.some Jvm.ClassFile.FieldType.int)) ∈ lw_tbl := mx_t 208 (by decide +kernel)
theorem w_209 : (Jvm.Cond.methodLink "CurveSums$TextReader" (34 : Nat) ({ cls := "CurveSums$TextReader", name := "takes", desc := "(I)Z" } : Jvm.MethodName)) ∈ lw_tbl := mx_t 209 (by decide +kernel)
theorem w_210 : (Jvm.Cond.privateMethod ({ cls := "CurveSums$TextReader", name := "takes", desc := "(I)Z" } : Jvm.MethodName)) ∈ lw_tbl := mx_t 210 (by decide +kernel)
theorem w_211 : (Jvm.Cond.instanceMethod ({ cls := "CurveSums$TextReader", name := "takes", desc := "(I)Z" } : Jvm.MethodName)) ∈ lw_tbl := mx_t 211 (by decide +kernel)
theorem w_212 : (Jvm.Cond.code ({ cls := "CurveSums$TextReader", name := "takes", desc := "(I)Z" } : Jvm.MethodName) prog_7_method_6_code (2 : Nat) (Option.some Jvm.ClassFile.FieldType.boolean)) ∈ lw_tbl := mx_t 212 (by decide +kernel)
theorem w_213 : (Jvm.Cond.methodLink "CurveSums$TextReader" (38 : Nat) ({ cls := "CurveSums$TextReader", name := "takesDigit", desc := "(I)Z" } : Jvm.MethodName)) ∈ lw_tbl := mx_t 213 (by decide +kernel)
theorem w_214 : (Jvm.Cond.privateMethod ({ cls := "CurveSums$TextReader", name := "takesDigit", desc := "(I)Z" } : Jvm.MethodName)) ∈ lw_tbl := mx_t 214 (by decide +kernel)
theorem w_215 : (Jvm.Cond.instanceMethod ({ cls := "CurveSums$TextReader", name := "takesDigit", desc := "(I)Z" } : Jvm.MethodName)) ∈ lw_tbl := mx_t 215 (by decide +kernel)
theorem w_216 : (Jvm.Cond.code ({ cls := "CurveSums$TextReader", name := "takesDigit", desc := "(I)Z" } : Jvm.MethodName) prog_7_method_7_code (3 : Nat) (Option.some Jvm.ClassFile.FieldType.boolean)) ∈ lw_tbl := mx_t 216 (by decide +kernel)
theorem w_217 : (Jvm.Cond.methodLink "CurveSums$TextReader" (45 : Nat) ({ cls := "CurveSums$TextReader", name := "isWithinBounds", desc := "(II)Z" } : Jvm.MethodName)) ∈ lw_tbl := mx_t 217 (by decide +kernel)
theorem w_218 : (Jvm.Cond.privateMethod ({ cls := "CurveSums$TextReader", name := "isWithinBounds", desc := "(II)Z" } : Jvm.MethodName)) ∈ lw_tbl := mx_t 218 (by decide +kernel)
theorem w_219 : (Jvm.Cond.instanceMethod ({ cls := "CurveSums$TextReader", name := "isWithinBounds", desc := "(II)Z" } : Jvm.MethodName)) ∈ lw_tbl := mx_t 219 (by decide +kernel)
theorem w_220 : (Jvm.Cond.code ({ cls := "CurveSums$TextReader", name := "isWithinBounds", desc := "(II)Z" } : Jvm.MethodName) prog_7_method_8_code (3 : Nat) (Option.some Jvm.ClassFile.FieldType.boolean)) ∈ lw_tbl := mx_t 220 (by decide +kernel)
theorem w_221 : (Jvm.Cond.methodLink "CurveSums$TextReader" (41 : Nat) ({ cls := "CurveSums$TextReader", name := "signBehind", desc := "(I)I" } : Jvm.MethodName)) ∈ lw_tbl := mx_t 221 (by decide +kernel)
theorem w_222 : (Jvm.Cond.static ({ cls := "CurveSums$TextReader", name := "signBehind", desc := "(I)I" } : Jvm.MethodName)) ∈ lw_tbl := mx_t 222 (by decide +kernel)
theorem w_223 : (Jvm.Cond.code ({ cls := "CurveSums$TextReader", name := "signBehind", desc := "(I)I" } : Jvm.MethodName) prog_7_method_9_code (1 : Nat) (Option.some Jvm.ClassFile.FieldType.int)) ∈ lw_tbl := mx_t 223 (by decide +kernel)
theorem w_224 : (Jvm.Cond.methodLink "CurveSums" (221 : Nat) ({ cls := "CurveSums$TextReader", name := "yearOf", desc := "(I)I" } : Jvm.MethodName)) ∈ lw_tbl := mx_t 224 (by decide +kernel)
theorem w_225 : (Jvm.Cond.instanceMethod ({ cls := "CurveSums$TextReader", name := "yearOf", desc := "(I)I" } : Jvm.MethodName)) ∈ lw_tbl := mx_t 225 (by decide +kernel)
theorem w_226 : (Jvm.Cond.selects "CurveSums$TextReader" ({ cls := "CurveSums$TextReader", name := "yearOf", desc := "(I)I" } : Jvm.MethodName) ({ cls := "CurveSums$TextReader", name := "yearOf", desc := "(I)I" } : Jvm.MethodName)) ∈ lw_tbl := mx_t 226 (by decide +kernel)
theorem w_227 : (Jvm.Cond.code ({ cls := "CurveSums$TextReader", name := "yearOf", desc := "(I)I" } : Jvm.MethodName) prog_7_method_3_code (2 : Nat) (Option.some Jvm.ClassFile.FieldType.int)) ∈ lw_tbl := mx_t 227 (by decide +kernel)
theorem w_228 : (Jvm.Cond.methodLink "CurveSums" (224 : Nat) ({ cls := "CurveSums$TextReader", name := "ageOf", desc := "(I)I" } : Jvm.MethodName)) ∈ lw_tbl := mx_t 228 (by decide +kernel)
theorem w_229 : (Jvm.Cond.instanceMethod ({ cls := "CurveSums$TextReader", name := "ageOf", desc := "(I)I" } : Jvm.MethodName)) ∈ lw_tbl := mx_t 229 (by decide +kernel)
theorem w_230 : (Jvm.Cond.selects "CurveSums$TextReader" ({ cls := "CurveSums$TextReader", name := "ageOf", desc := "(I)I" } : Jvm.MethodName) ({ cls := "CurveSums$TextReader", name := "ageOf", desc := "(I)I" } : Jvm.MethodName)) ∈ lw_tbl := mx_t 230 (by decide +kernel)
theorem w_231 : (Jvm.Cond.code ({ cls := "CurveSums$TextReader", name := "ageOf", desc := "(I)I" } : Jvm.MethodName) prog_7_method_4_code (2 : Nat) (Option.some Jvm.ClassFile.FieldType.int)) ∈ lw_tbl := mx_t 231 (by decide +kernel)
theorem w_232 : (Jvm.Cond.methodLink "CurveSums" (227 : Nat) ({ cls := "CurveSums$TextReader", name := "spreadOf", desc := "(I)I" } : Jvm.MethodName)) ∈ lw_tbl := mx_t 232 (by decide +kernel)
theorem w_233 : (Jvm.Cond.instanceMethod ({ cls := "CurveSums$TextReader", name := "spreadOf", desc := "(I)I" } : Jvm.MethodName)) ∈ lw_tbl := mx_t 233 (by decide +kernel)
theorem w_234 : (Jvm.Cond.selects "CurveSums$TextReader" ({ cls := "CurveSums$TextReader", name := "spreadOf", desc := "(I)I" } : Jvm.MethodName) ({ cls := "CurveSums$TextReader", name := "spreadOf", desc := "(I)I" } : Jvm.MethodName)) ∈ lw_tbl := mx_t 234 (by decide +kernel)
theorem w_235 : (Jvm.Cond.code ({ cls := "CurveSums$TextReader", name := "spreadOf", desc := "(I)I" } : Jvm.MethodName) prog_7_method_5_code (2 : Nat) (Option.some Jvm.ClassFile.FieldType.int)) ∈ lw_tbl := mx_t 235 (by decide +kernel)
theorem w_236 : (Jvm.Cond.methodLink "CurveSums" (83 : Nat) ({ cls := "CurveSums$Edition", name := "tellRow", desc := "(III)Z" } : Jvm.MethodName)) ∈ lw_tbl := mx_t 236 (by decide +kernel)
theorem w_237 : (Jvm.Cond.instanceMethod ({ cls := "CurveSums$Edition", name := "tellRow", desc := "(III)Z" } : Jvm.MethodName)) ∈ lw_tbl := mx_t 237 (by decide +kernel)
theorem w_238 : (Jvm.Cond.selects "CurveSums$Edition" ({ cls := "CurveSums$Edition", name := "tellRow", desc := "(III)Z" } : Jvm.MethodName) ({ cls := "CurveSums$Edition", name := "tellRow", desc := "(III)Z" } : Jvm.MethodName)) ∈ lw_tbl := mx_t 238 (by decide +kernel)
theorem w_239 : (Jvm.Cond.code ({ cls := "CurveSums$Edition", name := "tellRow", desc := "(III)Z" } : Jvm.MethodName) prog_4_method_3_code (5 : Nat) (Option.some Jvm.ClassFile.FieldType.boolean)) ∈ lw_tbl := mx_t 239 (by decide +kernel)
theorem w_240 : (Jvm.Cond.methodLink "CurveSums$Edition" (16 : Nat) ({ cls := "CurveSums$Edition", name := "hasRow", desc := "(I)Z" } : Jvm.MethodName)) ∈ lw_tbl := mx_t 240 (by decide +kernel)
theorem w_241 : (Jvm.Cond.instanceMethod ({ cls := "CurveSums$Edition", name := "hasRow", desc := "(I)Z" } : Jvm.MethodName)) ∈ lw_tbl := mx_t 241 (by decide +kernel)
theorem w_242 : (Jvm.Cond.selects "CurveSums$Edition" ({ cls := "CurveSums$Edition", name := "hasRow", desc := "(I)Z" } : Jvm.MethodName) ({ cls := "CurveSums$Edition", name := "hasRow", desc := "(I)Z" } : Jvm.MethodName)) ∈ lw_tbl := mx_t 242 (by decide +kernel)
theorem w_243 : (Jvm.Cond.code ({ cls := "CurveSums$Edition", name := "hasRow", desc := "(I)Z" } : Jvm.MethodName) prog_4_method_2_code (2 : Nat) (Option.some Jvm.ClassFile.FieldType.boolean)) ∈ lw_tbl := mx_t 243 (by decide +kernel)
theorem w_244 : (Jvm.Cond.methodLink "CurveSumsLaw" (70 : Nat) ({ cls := "CurveSumsLaw", name := "cell", desc := "([II)I" } : Jvm.MethodName)) ∈ lw_tbl := mx_t 244 (by decide +kernel)
theorem w_245 : (Jvm.Cond.static ({ cls := "CurveSumsLaw", name := "cell", desc := "([II)I" } : Jvm.MethodName)) ∈ lw_tbl := mx_t 245 (by decide +kernel)
theorem w_246 : (Jvm.Cond.code ({ cls := "CurveSumsLaw", name := "cell", desc := "([II)I" } : Jvm.MethodName) method_2_code (2 : Nat) (Option.some Jvm.ClassFile.FieldType.int)) ∈ lw_tbl := mx_t 246 (by decide +kernel)
theorem w_247 : (Jvm.Cond.methodLink "CurveSumsLaw" (81 : Nat) ({ cls := "CurveSumsLaw", name := "curve", desc := "(LCurveSums;III[J)I" } : Jvm.MethodName)) ∈ lw_tbl := mx_t 247 (by decide +kernel)
theorem w_248 : (Jvm.Cond.static ({ cls := "CurveSumsLaw", name := "curve", desc := "(LCurveSums;III[J)I" } : Jvm.MethodName)) ∈ lw_tbl := mx_t 248 (by decide +kernel)
theorem w_249 : (Jvm.Cond.codeWith ({ cls := "CurveSumsLaw", name := "curve", desc := "(LCurveSums;III[J)I" } : Jvm.MethodName) method_3_code (6 : Nat) (Option.some Jvm.ClassFile.FieldType.int) [((0 : Nat), (19 : Nat), (22 : Nat), (13 : Nat)), ((0 : Nat), (19 : Nat), (26 : Nat), (15 : Nat))]) ∈ lw_tbl := mx_t 249 (by decide +kernel)
theorem w_250 : (Jvm.Cond.classLink "CurveSumsLaw" (13 : Nat) "java/lang/IndexOutOfBoundsException") ∈ lw_tbl := mx_t 250 (by decide +kernel)
theorem w_251 : (Jvm.Cond.classLink "CurveSumsLaw" (15 : Nat) "java/lang/IllegalArgumentException") ∈ lw_tbl := mx_t 251 (by decide +kernel)
theorem w_252 : (Jvm.Cond.methodLink "CurveSumsLaw" (7 : Nat) ({ cls := "CurveSums", name := "curve", desc := "(III)Z" } : Jvm.MethodName)) ∈ lw_tbl := mx_t 252 (by decide +kernel)
theorem w_253 : (Jvm.Cond.instanceMethod ({ cls := "CurveSums", name := "curve", desc := "(III)Z" } : Jvm.MethodName)) ∈ lw_tbl := mx_t 253 (by decide +kernel)
theorem w_254 : (Jvm.Cond.selects "CurveSums" ({ cls := "CurveSums", name := "curve", desc := "(III)Z" } : Jvm.MethodName) ({ cls := "CurveSums", name := "curve", desc := "(III)Z" } : Jvm.MethodName)) ∈ lw_tbl := mx_t 254 (by decide +kernel)
theorem w_255 : (Jvm.Cond.code ({ cls := "CurveSums", name := "curve", desc := "(III)Z" } : Jvm.MethodName) prog_1_method_2_code (4 : Nat) (Option.some Jvm.ClassFile.FieldType.boolean)) ∈ lw_tbl := mx_t 255 (by decide +kernel)
theorem w_256 : (Jvm.Cond.methodLink "CurveSums" (73 : Nat) ({ cls := "CurveSums", name := "needYear", desc := "(I)V" } : Jvm.MethodName)) ∈ lw_tbl := mx_t 256 (by decide +kernel)
theorem w_257 : (Jvm.Cond.privateMethod ({ cls := "CurveSums", name := "needYear", desc := "(I)V" } : Jvm.MethodName)) ∈ lw_tbl := mx_t 257 (by decide +kernel)
theorem w_258 : (Jvm.Cond.instanceMethod ({ cls := "CurveSums", name := "needYear", desc := "(I)V" } : Jvm.MethodName)) ∈ lw_tbl := mx_t 258 (by decide +kernel)
theorem w_259 : (Jvm.Cond.code ({ cls := "CurveSums", name := "needYear", desc := "(I)V" } : Jvm.MethodName) prog_1_method_21_code (2 : Nat) (Option.none : Option Jvm.ClassFile.FieldType)) ∈ lw_tbl := mx_t 259 (by decide +kernel)
theorem w_260 : (Jvm.Cond.classLink "CurveSums" (98 : Nat) "java/lang/IndexOutOfBoundsException") ∈ lw_tbl := mx_t 260 (by decide +kernel)
theorem w_261 : (Jvm.Cond.instantiable "java/lang/IndexOutOfBoundsException" (6 : Nat)) ∈ lw_tbl := mx_t 261 (by decide +kernel)
theorem w_262 : (Jvm.Cond.castable "java/lang/IndexOutOfBoundsException" "java/lang/IndexOutOfBoundsException") ∈ lw_tbl := mx_t 262 (by decide +kernel)
theorem w_263 : (Jvm.Cond.declares ({ cls := "java/lang/RuntimeException", name := "<init>", desc := "()V" } : Jvm.MethodName)) ∈ lw_tbl := mx_t 263 (by decide +kernel)
theorem w_264 : (Jvm.Cond.declares ({ cls := "java/lang/RuntimeException", name := "<init>", desc := "(Ljava/lang/String;)V" } : Jvm.MethodName)) ∈ lw_tbl := mx_t 264 (by decide +kernel)
theorem w_265 : (Jvm.Cond.declares ({ cls := "java/lang/Exception", name := "<init>", desc := "()V" } : Jvm.MethodName)) ∈ lw_tbl := mx_t 265 (by decide +kernel)
theorem w_266 : (Jvm.Cond.declares ({ cls := "java/lang/Exception", name := "<init>", desc := "(Ljava/lang/String;)V" } : Jvm.MethodName)) ∈ lw_tbl := mx_t 266 (by decide +kernel)
theorem w_267 : (Jvm.Cond.declares ({ cls := "java/lang/Throwable", name := "<init>", desc := "()V" } : Jvm.MethodName)) ∈ lw_tbl := mx_t 267 (by decide +kernel)
theorem w_268 : (Jvm.Cond.declares ({ cls := "java/lang/Throwable", name := "<init>", desc := "(Ljava/lang/String;)V" } : Jvm.MethodName)) ∈ lw_tbl := mx_t 268 (by decide +kernel)
theorem w_269 : (Jvm.Cond.selects "java/lang/IndexOutOfBoundsException" ({ cls := "java/lang/Throwable", name := "fillInStackTrace", desc := "(I)Ljava/lang/Throwable;" } : Jvm.MethodName) ({ cls := "java/lang/Throwable", name := "fillInStackTrace", desc := "(I)Ljava/lang/Throwable;" } : Jvm.MethodName)) ∈ lw_tbl := mx_t 269 (by decide +kernel)
theorem w_270 : (Jvm.Cond.selects "java/lang/IndexOutOfBoundsException" ({ cls := "java/lang/Throwable", name := "fillInStackTrace", desc := "()Ljava/lang/Throwable;" } : Jvm.MethodName) ({ cls := "java/lang/Throwable", name := "fillInStackTrace", desc := "()Ljava/lang/Throwable;" } : Jvm.MethodName)) ∈ lw_tbl := mx_t 270 (by decide +kernel)
theorem w_271 : (Jvm.Cond.lays "java/lang/IndexOutOfBoundsException" "java/lang/Throwable" "cause" "Ljava/lang/Throwable;") ∈ lw_tbl := mx_t 271 (by decide +kernel)
theorem w_272 : (Jvm.Cond.lays "java/lang/Throwable" "java/lang/Throwable" "cause" "Ljava/lang/Throwable;") ∈ lw_tbl := mx_t 272 (by decide +kernel)
theorem w_273 : (Jvm.Cond.lays "java/lang/IndexOutOfBoundsException" "java/lang/Throwable" "stackTrace" "[Ljava/lang/StackTraceElement;") ∈ lw_tbl := mx_t 273 (by decide +kernel)
theorem w_274 : (Jvm.Cond.lays "java/lang/Throwable" "java/lang/Throwable" "stackTrace" "[Ljava/lang/StackTraceElement;") ∈ lw_tbl := mx_t 274 (by decide +kernel)
theorem w_275 : (Jvm.Cond.lays "java/lang/IndexOutOfBoundsException" "java/lang/Throwable" "suppressedExceptions" "Ljava/util/List;") ∈ lw_tbl := mx_t 275 (by decide +kernel)
theorem w_276 : (Jvm.Cond.lays "java/lang/Throwable" "java/lang/Throwable" "suppressedExceptions" "Ljava/util/List;") ∈ lw_tbl := mx_t 276 (by decide +kernel)
theorem w_277 : (Jvm.Cond.lays "java/lang/IndexOutOfBoundsException" "java/lang/Throwable" "detailMessage" "Ljava/lang/String;") ∈ lw_tbl := mx_t 277 (by decide +kernel)
theorem w_278 : (Jvm.Cond.lays "java/lang/Throwable" "java/lang/Throwable" "detailMessage" "Ljava/lang/String;") ∈ lw_tbl := mx_t 278 (by decide +kernel)
theorem w_279 : (Jvm.Cond.lays "java/lang/IndexOutOfBoundsException" "java/lang/Throwable" "backtrace" "Ljava/lang/Object;") ∈ lw_tbl := mx_t 279 (by decide +kernel)
theorem w_280 : (Jvm.Cond.lays "java/lang/Throwable" "java/lang/Throwable" "backtrace" "Ljava/lang/Object;") ∈ lw_tbl := mx_t 280 (by decide +kernel)
theorem w_281 : (Jvm.Cond.fieldLink "java/lang/Throwable" (198 : Nat) "java/lang/Throwable" "backtrace" "Ljava/lang/Object;") ∈ lw_tbl := mx_t 281 (by decide +kernel)
theorem w_282 : (Jvm.Cond.superclass "java/lang/Throwable" "java/lang/Object") ∈ lw_tbl := mx_t 282 (by decide +kernel)
theorem w_283 : (Jvm.Cond.instanceMethod ({ cls := "java/lang/Throwable", name := "<init>", desc := "()V" } : Jvm.MethodName)) ∈ lw_tbl := mx_t 283 (by decide +kernel)
theorem w_284 : (Jvm.Cond.code ({ cls := "java/lang/Throwable", name := "<init>", desc := "()V" } : Jvm.MethodName) prog_18_method_1_code (1 : Nat) (Option.none : Option Jvm.ClassFile.FieldType)) ∈ lw_tbl := mx_t 284 (by decide +kernel)
theorem w_285 : (Jvm.Cond.methodLink "java/lang/Throwable" (1 : Nat) ({ cls := "java/lang/Object", name := "<init>", desc := "()V" } : Jvm.MethodName)) ∈ lw_tbl := mx_t 285 (by decide +kernel)
theorem w_286 : (Jvm.Cond.fieldLink "java/lang/Throwable" (13 : Nat) "java/lang/Throwable" "UNASSIGNED_STACK" "[Ljava/lang/StackTraceElement;") ∈ lw_tbl := mx_t 286 (by decide +kernel)
theorem w_287 : (Jvm.Cond.laysStatic "java/lang/Throwable" "UNASSIGNED_STACK" "[Ljava/lang/StackTraceElement;") ∈ lw_tbl := mx_t 287 (by decide +kernel)
theorem w_288 : (Jvm.Cond.fieldLink "java/lang/Throwable" (20 : Nat) "java/lang/Throwable" "SUPPRESSED_SENTINEL" "Ljava/util/List;") ∈ lw_tbl := mx_t 288 (by decide +kernel)
theorem w_289 : (Jvm.Cond.laysStatic "java/lang/Throwable" "SUPPRESSED_SENTINEL" "Ljava/util/List;") ∈ lw_tbl := mx_t 289 (by decide +kernel)
theorem w_290 : (Jvm.Cond.methodLink "java/lang/Throwable" (27 : Nat) ({ cls := "java/lang/Throwable", name := "fillInStackTrace", desc := "()Ljava/lang/Throwable;" } : Jvm.MethodName)) ∈ lw_tbl := mx_t 290 (by decide +kernel)
theorem w_291 : (Jvm.Cond.instanceMethod ({ cls := "java/lang/Throwable", name := "fillInStackTrace", desc := "()Ljava/lang/Throwable;" } : Jvm.MethodName)) ∈ lw_tbl := mx_t 291 (by decide +kernel)
theorem w_292 : (Jvm.Cond.sameMethod "java/lang/Throwable" "java/lang/Throwable" "fillInStackTrace" "()Ljava/lang/Throwable;") ∈ lw_tbl := mx_t 292 (by decide +kernel)
theorem w_293 : (Jvm.Cond.selects "java/lang/IllegalArgumentException" ({ cls := "java/lang/Throwable", name := "fillInStackTrace", desc := "()Ljava/lang/Throwable;" } : Jvm.MethodName) ({ cls := "java/lang/Throwable", name := "fillInStackTrace", desc := "()Ljava/lang/Throwable;" } : Jvm.MethodName)) ∈ lw_tbl := mx_t 293 (by decide +kernel)
theorem w_294 : (Jvm.Cond.selects "java/lang/IllegalStateException" ({ cls := "java/lang/Throwable", name := "fillInStackTrace", desc := "()Ljava/lang/Throwable;" } : Jvm.MethodName) ({ cls := "java/lang/Throwable", name := "fillInStackTrace", desc := "()Ljava/lang/Throwable;" } : Jvm.MethodName)) ∈ lw_tbl := mx_t 294 (by decide +kernel)
theorem w_295 : (Jvm.Cond.codeSync ({ cls := "java/lang/Throwable", name := "fillInStackTrace", desc := "()Ljava/lang/Throwable;" } : Jvm.MethodName) prog_18_method_18_code (1 : Nat) (Option.some (Jvm.ClassFile.FieldType.object "java/lang/Throwable"))) ∈ lw_tbl := mx_t 295 (by decide +kernel)
theorem w_296 : (Jvm.Cond.methodLink "java/lang/Throwable" (202 : Nat) ({ cls := "java/lang/Throwable", name := "fillInStackTrace", desc := "(I)Ljava/lang/Throwable;" } : Jvm.MethodName)) ∈ lw_tbl := mx_t 296 (by decide +kernel)
theorem w_297 : (Jvm.Cond.privateMethod ({ cls := "java/lang/Throwable", name := "fillInStackTrace", desc := "(I)Ljava/lang/Throwable;" } : Jvm.MethodName)) ∈ lw_tbl := mx_t 297 (by decide +kernel)
theorem w_298 : (Jvm.Cond.instanceMethod ({ cls := "java/lang/Throwable", name := "fillInStackTrace", desc := "(I)Ljava/lang/Throwable;" } : Jvm.MethodName)) ∈ lw_tbl := mx_t 298 (by decide +kernel)
theorem w_299 : (Jvm.Cond.instantiable "java/lang/Throwable" (6 : Nat)) ∈ lw_tbl := mx_t 299 (by decide +kernel)
theorem w_300 : (Jvm.Cond.native ({ cls := "java/lang/Throwable", name := "fillInStackTrace", desc := "(I)Ljava/lang/Throwable;" } : Jvm.MethodName)) ∈ lw_tbl := mx_t 300 (by decide +kernel)
theorem w_301 : (Jvm.Cond.stringRef "CurveSums" (235 : Nat) "no such year") ∈ lw_tbl := mx_t 301 (by decide +kernel)
theorem w_302 : (Jvm.Cond.methodLink "CurveSums" (102 : Nat) ({ cls := "java/lang/IndexOutOfBoundsException", name := "<init>", desc := "(Ljava/lang/String;)V" } : Jvm.MethodName)) ∈ lw_tbl := mx_t 302 (by decide +kernel)
theorem w_303 : (Jvm.Cond.instanceMethod ({ cls := "java/lang/IndexOutOfBoundsException", name := "<init>", desc := "(Ljava/lang/String;)V" } : Jvm.MethodName)) ∈ lw_tbl := mx_t 303 (by decide +kernel)
theorem w_304 : (Jvm.Cond.code ({ cls := "java/lang/IndexOutOfBoundsException", name := "<init>", desc := "(Ljava/lang/String;)V" } : Jvm.MethodName) prog_13_method_2_code (2 : Nat) (Option.none : Option Jvm.ClassFile.FieldType)) ∈ lw_tbl := mx_t 304 (by decide +kernel)
theorem w_305 : (Jvm.Cond.methodLink "java/lang/IndexOutOfBoundsException" (7 : Nat) ({ cls := "java/lang/RuntimeException", name := "<init>", desc := "(Ljava/lang/String;)V" } : Jvm.MethodName)) ∈ lw_tbl := mx_t 305 (by decide +kernel)
theorem w_306 : (Jvm.Cond.instanceMethod ({ cls := "java/lang/RuntimeException", name := "<init>", desc := "(Ljava/lang/String;)V" } : Jvm.MethodName)) ∈ lw_tbl := mx_t 306 (by decide +kernel)
theorem w_307 : (Jvm.Cond.code ({ cls := "java/lang/RuntimeException", name := "<init>", desc := "(Ljava/lang/String;)V" } : Jvm.MethodName) prog_15_method_2_code (2 : Nat) (Option.none : Option Jvm.ClassFile.FieldType)) ∈ lw_tbl := mx_t 307 (by decide +kernel)
theorem w_308 : (Jvm.Cond.methodLink "java/lang/RuntimeException" (7 : Nat) ({ cls := "java/lang/Exception", name := "<init>", desc := "(Ljava/lang/String;)V" } : Jvm.MethodName)) ∈ lw_tbl := mx_t 308 (by decide +kernel)
theorem w_309 : (Jvm.Cond.instanceMethod ({ cls := "java/lang/Exception", name := "<init>", desc := "(Ljava/lang/String;)V" } : Jvm.MethodName)) ∈ lw_tbl := mx_t 309 (by decide +kernel)
theorem w_310 : (Jvm.Cond.code ({ cls := "java/lang/Exception", name := "<init>", desc := "(Ljava/lang/String;)V" } : Jvm.MethodName) prog_10_method_2_code (2 : Nat) (Option.none : Option Jvm.ClassFile.FieldType)) ∈ lw_tbl := mx_t 310 (by decide +kernel)
theorem w_311 : (Jvm.Cond.methodLink "java/lang/Exception" (7 : Nat) ({ cls := "java/lang/Throwable", name := "<init>", desc := "(Ljava/lang/String;)V" } : Jvm.MethodName)) ∈ lw_tbl := mx_t 311 (by decide +kernel)
theorem w_312 : (Jvm.Cond.instanceMethod ({ cls := "java/lang/Throwable", name := "<init>", desc := "(Ljava/lang/String;)V" } : Jvm.MethodName)) ∈ lw_tbl := mx_t 312 (by decide +kernel)
theorem w_313 : (Jvm.Cond.code ({ cls := "java/lang/Throwable", name := "<init>", desc := "(Ljava/lang/String;)V" } : Jvm.MethodName) prog_18_method_2_code (2 : Nat) (Option.none : Option Jvm.ClassFile.FieldType)) ∈ lw_tbl := mx_t 313 (by decide +kernel)
theorem w_314 : (Jvm.Cond.fieldLink "java/lang/Throwable" (198 : Nat) "java/lang/Throwable" "backtrace" "Ljava/lang/Object;") ∈ lw_tbl := mx_t 314 (by decide +kernel)
theorem w_315 : (Jvm.Cond.fieldLink "java/lang/Throwable" (31 : Nat) "java/lang/Throwable" "detailMessage" "Ljava/lang/String;") ∈ lw_tbl := mx_t 315 (by decide +kernel)
theorem w_316 : (Jvm.Cond.fieldLink "java/lang/Throwable" (7 : Nat) "java/lang/Throwable" "cause" "Ljava/lang/Throwable;") ∈ lw_tbl := mx_t 316 (by decide +kernel)
theorem w_317 : (Jvm.Cond.fieldLink "java/lang/Throwable" (17 : Nat) "java/lang/Throwable" "stackTrace" "[Ljava/lang/StackTraceElement;") ∈ lw_tbl := mx_t 317 (by decide +kernel)
theorem w_318 : (Jvm.Cond.fieldLink "java/lang/Throwable" (24 : Nat) "java/lang/Throwable" "suppressedExceptions" "Ljava/util/List;") ∈ lw_tbl := mx_t 318 (by decide +kernel)
theorem w_319 : (Jvm.Cond.soleField "java/lang/Throwable" "backtrace") ∈ lw_tbl := mx_t 319 (by decide +kernel)
theorem w_320 : (Jvm.Cond.soleField "java/lang/Throwable" "detailMessage") ∈ lw_tbl := mx_t 320 (by decide +kernel)
theorem w_321 : (Jvm.Cond.soleField "java/lang/Throwable" "cause") ∈ lw_tbl := mx_t 321 (by decide +kernel)
theorem w_322 : (Jvm.Cond.soleField "java/lang/Throwable" "stackTrace") ∈ lw_tbl := mx_t 322 (by decide +kernel)
theorem w_323 : (Jvm.Cond.lays "java/lang/IndexOutOfBoundsException" "java/lang/Throwable" "depth" "I") ∈ lw_tbl := mx_t 323 (by decide +kernel)
theorem w_324 : (Jvm.Cond.soleField "java/lang/Throwable" "depth") ∈ lw_tbl := mx_t 324 (by decide +kernel)
theorem w_325 : (Jvm.Cond.soleField "java/lang/Throwable" "suppressedExceptions") ∈ lw_tbl := mx_t 325 (by decide +kernel)
theorem w_326 : (Jvm.Cond.superclass "java/lang/IndexOutOfBoundsException" "java/lang/RuntimeException") ∈ lw_tbl := mx_t 326 (by decide +kernel)
theorem w_327 : (Jvm.Cond.arrayClass Jvm.ClassFile.FieldType.byte) ∈ lw_tbl := mx_t 327 (by decide +kernel)
theorem w_328 : (Jvm.Cond.methodLink "CurveSums" (76 : Nat) ({ cls := "CurveSums", name := "needAgeAndSpread", desc := "(II)V" } : Jvm.MethodName)) ∈ lw_tbl := mx_t 328 (by decide +kernel)
theorem w_329 : (Jvm.Cond.static ({ cls := "CurveSums", name := "needAgeAndSpread", desc := "(II)V" } : Jvm.MethodName)) ∈ lw_tbl := mx_t 329 (by decide +kernel)
theorem w_330 : (Jvm.Cond.code ({ cls := "CurveSums", name := "needAgeAndSpread", desc := "(II)V" } : Jvm.MethodName) prog_1_method_24_code (2 : Nat) (Option.none : Option Jvm.ClassFile.FieldType)) ∈ lw_tbl := mx_t 330 (by decide +kernel)
theorem w_331 : (Jvm.Cond.classLink "CurveSums" (103 : Nat) "java/lang/IllegalArgumentException") ∈ lw_tbl := mx_t 331 (by decide +kernel)
theorem w_332 : (Jvm.Cond.instantiable "java/lang/IllegalArgumentException" (6 : Nat)) ∈ lw_tbl := mx_t 332 (by decide +kernel)
theorem w_333 : (Jvm.Cond.castable "java/lang/IllegalArgumentException" "java/lang/IllegalArgumentException") ∈ lw_tbl := mx_t 333 (by decide +kernel)
theorem w_334 : (Jvm.Cond.selects "java/lang/IllegalArgumentException" ({ cls := "java/lang/Throwable", name := "fillInStackTrace", desc := "(I)Ljava/lang/Throwable;" } : Jvm.MethodName) ({ cls := "java/lang/Throwable", name := "fillInStackTrace", desc := "(I)Ljava/lang/Throwable;" } : Jvm.MethodName)) ∈ lw_tbl := mx_t 334 (by decide +kernel)
theorem w_335 : (Jvm.Cond.lays "java/lang/IllegalArgumentException" "java/lang/Throwable" "cause" "Ljava/lang/Throwable;") ∈ lw_tbl := mx_t 335 (by decide +kernel)
theorem w_336 : (Jvm.Cond.lays "java/lang/IllegalArgumentException" "java/lang/Throwable" "stackTrace" "[Ljava/lang/StackTraceElement;") ∈ lw_tbl := mx_t 336 (by decide +kernel)
theorem w_337 : (Jvm.Cond.lays "java/lang/IllegalArgumentException" "java/lang/Throwable" "suppressedExceptions" "Ljava/util/List;") ∈ lw_tbl := mx_t 337 (by decide +kernel)
theorem w_338 : (Jvm.Cond.lays "java/lang/IllegalArgumentException" "java/lang/Throwable" "detailMessage" "Ljava/lang/String;") ∈ lw_tbl := mx_t 338 (by decide +kernel)
theorem w_339 : (Jvm.Cond.lays "java/lang/IllegalArgumentException" "java/lang/Throwable" "backtrace" "Ljava/lang/Object;") ∈ lw_tbl := mx_t 339 (by decide +kernel)
theorem w_340 : (Jvm.Cond.stringRef "CurveSums" (241 : Nat) "an age is 0 .. 3000") ∈ lw_tbl := mx_t 340 (by decide +kernel)
theorem w_341 : (Jvm.Cond.methodLink "CurveSums" (107 : Nat) ({ cls := "java/lang/IllegalArgumentException", name := "<init>", desc := "(Ljava/lang/String;)V" } : Jvm.MethodName)) ∈ lw_tbl := mx_t 341 (by decide +kernel)
theorem w_342 : (Jvm.Cond.instanceMethod ({ cls := "java/lang/IllegalArgumentException", name := "<init>", desc := "(Ljava/lang/String;)V" } : Jvm.MethodName)) ∈ lw_tbl := mx_t 342 (by decide +kernel)
theorem w_343 : (Jvm.Cond.code ({ cls := "java/lang/IllegalArgumentException", name := "<init>", desc := "(Ljava/lang/String;)V" } : Jvm.MethodName) prog_11_method_2_code (2 : Nat) (Option.none : Option Jvm.ClassFile.FieldType)) ∈ lw_tbl := mx_t 343 (by decide +kernel)
theorem w_344 : (Jvm.Cond.methodLink "java/lang/IllegalArgumentException" (7 : Nat) ({ cls := "java/lang/RuntimeException", name := "<init>", desc := "(Ljava/lang/String;)V" } : Jvm.MethodName)) ∈ lw_tbl := mx_t 344 (by decide +kernel)
theorem w_345 : (Jvm.Cond.lays "java/lang/IllegalArgumentException" "java/lang/Throwable" "depth" "I") ∈ lw_tbl := mx_t 345 (by decide +kernel)
theorem w_346 : (Jvm.Cond.superclass "java/lang/IllegalArgumentException" "java/lang/RuntimeException") ∈ lw_tbl := mx_t 346 (by decide +kernel)
theorem w_347 : (Jvm.Cond.stringRef "CurveSums" (243 : Nat) "a spread is 1 .. 100") ∈ lw_tbl := mx_t 347 (by decide +kernel)
theorem w_348 : (Jvm.Cond.methodLink "CurveSumsLaw" (88 : Nat) ({ cls := "CurveSumsLaw", name := "edition", desc := "(LCurveSums;[J)I" } : Jvm.MethodName)) ∈ lw_tbl := mx_t 348 (by decide +kernel)
theorem w_349 : (Jvm.Cond.static ({ cls := "CurveSumsLaw", name := "edition", desc := "(LCurveSums;[J)I" } : Jvm.MethodName)) ∈ lw_tbl := mx_t 349 (by decide +kernel)
theorem w_350 : (Jvm.Cond.codeWith ({ cls := "CurveSumsLaw", name := "edition", desc := "(LCurveSums;[J)I" } : Jvm.MethodName) method_4_code (3 : Nat) (Option.some Jvm.ClassFile.FieldType.int) [((0 : Nat), (8 : Nat), (11 : Nat), (21 : Nat))]) ∈ lw_tbl := mx_t 350 (by decide +kernel)
theorem w_351 : (Jvm.Cond.classLink "CurveSumsLaw" (21 : Nat) "java/lang/IllegalStateException") ∈ lw_tbl := mx_t 351 (by decide +kernel)
theorem w_352 : (Jvm.Cond.methodLink "CurveSumsLaw" (17 : Nat) ({ cls := "CurveSums", name := "edition", desc := "()I" } : Jvm.MethodName)) ∈ lw_tbl := mx_t 352 (by decide +kernel)
theorem w_353 : (Jvm.Cond.instanceMethod ({ cls := "CurveSums", name := "edition", desc := "()I" } : Jvm.MethodName)) ∈ lw_tbl := mx_t 353 (by decide +kernel)
theorem w_354 : (Jvm.Cond.selects "CurveSums" ({ cls := "CurveSums", name := "edition", desc := "()I" } : Jvm.MethodName) ({ cls := "CurveSums", name := "edition", desc := "()I" } : Jvm.MethodName)) ∈ lw_tbl := mx_t 354 (by decide +kernel)
theorem w_355 : (Jvm.Cond.code ({ cls := "CurveSums", name := "edition", desc := "()I" } : Jvm.MethodName) prog_1_method_3_code (1 : Nat) (Option.some Jvm.ClassFile.FieldType.int)) ∈ lw_tbl := mx_t 355 (by decide +kernel)
theorem w_356 : (Jvm.Cond.classLink "CurveSums" (87 : Nat) "java/lang/IllegalStateException") ∈ lw_tbl := mx_t 356 (by decide +kernel)
theorem w_357 : (Jvm.Cond.instantiable "java/lang/IllegalStateException" (6 : Nat)) ∈ lw_tbl := mx_t 357 (by decide +kernel)
theorem w_358 : (Jvm.Cond.castable "java/lang/IllegalStateException" "java/lang/IllegalStateException") ∈ lw_tbl := mx_t 358 (by decide +kernel)
theorem w_359 : (Jvm.Cond.selects "java/lang/IllegalStateException" ({ cls := "java/lang/Throwable", name := "fillInStackTrace", desc := "(I)Ljava/lang/Throwable;" } : Jvm.MethodName) ({ cls := "java/lang/Throwable", name := "fillInStackTrace", desc := "(I)Ljava/lang/Throwable;" } : Jvm.MethodName)) ∈ lw_tbl := mx_t 359 (by decide +kernel)
theorem w_360 : (Jvm.Cond.lays "java/lang/IllegalStateException" "java/lang/Throwable" "cause" "Ljava/lang/Throwable;") ∈ lw_tbl := mx_t 360 (by decide +kernel)
theorem w_361 : (Jvm.Cond.lays "java/lang/IllegalStateException" "java/lang/Throwable" "stackTrace" "[Ljava/lang/StackTraceElement;") ∈ lw_tbl := mx_t 361 (by decide +kernel)
theorem w_362 : (Jvm.Cond.lays "java/lang/IllegalStateException" "java/lang/Throwable" "suppressedExceptions" "Ljava/util/List;") ∈ lw_tbl := mx_t 362 (by decide +kernel)
theorem w_363 : (Jvm.Cond.lays "java/lang/IllegalStateException" "java/lang/Throwable" "detailMessage" "Ljava/lang/String;") ∈ lw_tbl := mx_t 363 (by decide +kernel)
theorem w_364 : (Jvm.Cond.lays "java/lang/IllegalStateException" "java/lang/Throwable" "backtrace" "Ljava/lang/Object;") ∈ lw_tbl := mx_t 364 (by decide +kernel)
theorem w_365 : (Jvm.Cond.stringRef "CurveSums" (89 : Nat) "there are four editions") ∈ lw_tbl := mx_t 365 (by decide +kernel)
theorem w_366 : (Jvm.Cond.methodLink "CurveSums" (91 : Nat) ({ cls := "java/lang/IllegalStateException", name := "<init>", desc := "(Ljava/lang/String;)V" } : Jvm.MethodName)) ∈ lw_tbl := mx_t 366 (by decide +kernel)
theorem w_367 : (Jvm.Cond.instanceMethod ({ cls := "java/lang/IllegalStateException", name := "<init>", desc := "(Ljava/lang/String;)V" } : Jvm.MethodName)) ∈ lw_tbl := mx_t 367 (by decide +kernel)
theorem w_368 : (Jvm.Cond.code ({ cls := "java/lang/IllegalStateException", name := "<init>", desc := "(Ljava/lang/String;)V" } : Jvm.MethodName) prog_12_method_2_code (2 : Nat) (Option.none : Option Jvm.ClassFile.FieldType)) ∈ lw_tbl := mx_t 368 (by decide +kernel)
theorem w_369 : (Jvm.Cond.methodLink "java/lang/IllegalStateException" (7 : Nat) ({ cls := "java/lang/RuntimeException", name := "<init>", desc := "(Ljava/lang/String;)V" } : Jvm.MethodName)) ∈ lw_tbl := mx_t 369 (by decide +kernel)
theorem w_370 : (Jvm.Cond.lays "java/lang/IllegalStateException" "java/lang/Throwable" "depth" "I") ∈ lw_tbl := mx_t 370 (by decide +kernel)
theorem w_371 : (Jvm.Cond.superclass "java/lang/IllegalStateException" "java/lang/RuntimeException") ∈ lw_tbl := mx_t 371 (by decide +kernel)
theorem w_372 : (Jvm.Cond.methodLink "CurveSums" (94 : Nat) ({ cls := "CurveSums$Edition", name := "copyRowsOf", desc := "(LCurveSums$Edition;)V" } : Jvm.MethodName)) ∈ lw_tbl := mx_t 372 (by decide +kernel)
theorem w_373 : (Jvm.Cond.instanceMethod ({ cls := "CurveSums$Edition", name := "copyRowsOf", desc := "(LCurveSums$Edition;)V" } : Jvm.MethodName)) ∈ lw_tbl := mx_t 373 (by decide +kernel)
theorem w_374 : (Jvm.Cond.selects "CurveSums$Edition" ({ cls := "CurveSums$Edition", name := "copyRowsOf", desc := "(LCurveSums$Edition;)V" } : Jvm.MethodName) ({ cls := "CurveSums$Edition", name := "copyRowsOf", desc := "(LCurveSums$Edition;)V" } : Jvm.MethodName)) ∈ lw_tbl := mx_t 374 (by decide +kernel)
theorem w_375 : (Jvm.Cond.code ({ cls := "CurveSums$Edition", name := "copyRowsOf", desc := "(LCurveSums$Edition;)V" } : Jvm.MethodName) prog_4_method_4_code (2 : Nat) (Option.none : Option Jvm.ClassFile.FieldType)) ∈ lw_tbl := mx_t 375 (by decide +kernel)
theorem w_376 : (Jvm.Cond.methodLink "CurveSums$Edition" (24 : Nat) ({ cls := "java/lang/System", name := "arraycopy", desc := "(Ljava/lang/Object;ILjava/lang/Object;II)V" } : Jvm.MethodName)) ∈ lw_tbl := mx_t 376 (by decide +kernel)
theorem w_377 : (Jvm.Cond.static ({ cls := "java/lang/System", name := "arraycopy", desc := "(Ljava/lang/Object;ILjava/lang/Object;II)V" } : Jvm.MethodName)) ∈ lw_tbl := mx_t 377 (by decide +kernel)
theorem w_378 : (Jvm.Cond.native ({ cls := "java/lang/System", name := "arraycopy", desc := "(Ljava/lang/Object;ILjava/lang/Object;II)V" } : Jvm.MethodName)) ∈ lw_tbl := mx_t 378 (by decide +kernel)
theorem w_379 : (Jvm.Cond.methodLink "CurveSumsLaw" (92 : Nat) ({ cls := "CurveSumsLaw", name := "use", desc := "(LCurveSums;I[J)I" } : Jvm.MethodName)) ∈ lw_tbl := mx_t 379 (by decide +kernel)
theorem w_380 : (Jvm.Cond.static ({ cls := "CurveSumsLaw", name := "use", desc := "(LCurveSums;I[J)I" } : Jvm.MethodName)) ∈ lw_tbl := mx_t 380 (by decide +kernel)
theorem w_381 : (Jvm.Cond.codeWith ({ cls := "CurveSumsLaw", name := "use", desc := "(LCurveSums;I[J)I" } : Jvm.MethodName) method_5_code (4 : Nat) (Option.some Jvm.ClassFile.FieldType.int) [((0 : Nat), (9 : Nat), (12 : Nat), (13 : Nat))]) ∈ lw_tbl := mx_t 381 (by decide +kernel)
theorem w_382 : (Jvm.Cond.methodLink "CurveSumsLaw" (23 : Nat) ({ cls := "CurveSums", name := "use", desc := "(I)I" } : Jvm.MethodName)) ∈ lw_tbl := mx_t 382 (by decide +kernel)
theorem w_383 : (Jvm.Cond.instanceMethod ({ cls := "CurveSums", name := "use", desc := "(I)I" } : Jvm.MethodName)) ∈ lw_tbl := mx_t 383 (by decide +kernel)
theorem w_384 : (Jvm.Cond.selects "CurveSums" ({ cls := "CurveSums", name := "use", desc := "(I)I" } : Jvm.MethodName) ({ cls := "CurveSums", name := "use", desc := "(I)I" } : Jvm.MethodName)) ∈ lw_tbl := mx_t 384 (by decide +kernel)
theorem w_385 : (Jvm.Cond.code ({ cls := "CurveSums", name := "use", desc := "(I)I" } : Jvm.MethodName) prog_1_method_4_code (3 : Nat) (Option.some Jvm.ClassFile.FieldType.int)) ∈ lw_tbl := mx_t 385 (by decide +kernel)
theorem w_386 : (Jvm.Cond.stringRef "CurveSums" (100 : Nat) "no such edition") ∈ lw_tbl := mx_t 386 (by decide +kernel)
theorem w_387 : (Jvm.Cond.methodLink "CurveSumsLaw" (96 : Nat) ({ cls := "CurveSumsLaw", name := "reservoir", desc := "(LCurveSums;II)I" } : Jvm.MethodName)) ∈ lw_tbl := mx_t 387 (by decide +kernel)
theorem w_388 : (Jvm.Cond.static ({ cls := "CurveSumsLaw", name := "reservoir", desc := "(LCurveSums;II)I" } : Jvm.MethodName)) ∈ lw_tbl := mx_t 388 (by decide +kernel)
theorem w_389 : (Jvm.Cond.codeWith ({ cls := "CurveSumsLaw", name := "reservoir", desc := "(LCurveSums;II)I" } : Jvm.MethodName) method_6_code (4 : Nat) (Option.some Jvm.ClassFile.FieldType.int) [((0 : Nat), (6 : Nat), (9 : Nat), (15 : Nat))]) ∈ lw_tbl := mx_t 389 (by decide +kernel)
theorem w_390 : (Jvm.Cond.methodLink "CurveSumsLaw" (27 : Nat) ({ cls := "CurveSums", name := "reservoir", desc := "(II)V" } : Jvm.MethodName)) ∈ lw_tbl := mx_t 390 (by decide +kernel)
theorem w_391 : (Jvm.Cond.instanceMethod ({ cls := "CurveSums", name := "reservoir", desc := "(II)V" } : Jvm.MethodName)) ∈ lw_tbl := mx_t 391 (by decide +kernel)
theorem w_392 : (Jvm.Cond.selects "CurveSums" ({ cls := "CurveSums", name := "reservoir", desc := "(II)V" } : Jvm.MethodName) ({ cls := "CurveSums", name := "reservoir", desc := "(II)V" } : Jvm.MethodName)) ∈ lw_tbl := mx_t 392 (by decide +kernel)
theorem w_393 : (Jvm.Cond.code ({ cls := "CurveSums", name := "reservoir", desc := "(II)V" } : Jvm.MethodName) prog_1_method_5_code (3 : Nat) (Option.none : Option Jvm.ClassFile.FieldType)) ∈ lw_tbl := mx_t 393 (by decide +kernel)
theorem w_394 : (Jvm.Cond.stringRef "CurveSums" (105 : Nat) "a reservoir's age is -1000 .. 1000") ∈ lw_tbl := mx_t 394 (by decide +kernel)
theorem w_395 : (Jvm.Cond.stringRef "CurveSums" (108 : Nat) "a reservoir's spread is 0 .. 100") ∈ lw_tbl := mx_t 395 (by decide +kernel)
theorem w_396 : (Jvm.Cond.methodLink "CurveSumsLaw" (100 : Nat) ({ cls := "CurveSumsLaw", name := "date", desc := "(LCurveSums;II[J)I" } : Jvm.MethodName)) ∈ lw_tbl := mx_t 396 (by decide +kernel)
theorem w_397 : (Jvm.Cond.static ({ cls := "CurveSumsLaw", name := "date", desc := "(LCurveSums;II[J)I" } : Jvm.MethodName)) ∈ lw_tbl := mx_t 397 (by decide +kernel)
theorem w_398 : (Jvm.Cond.codeWith ({ cls := "CurveSumsLaw", name := "date", desc := "(LCurveSums;II[J)I" } : Jvm.MethodName) method_7_code (5 : Nat) (Option.some Jvm.ClassFile.FieldType.int) [((0 : Nat), (10 : Nat), (13 : Nat), (15 : Nat)), ((0 : Nat), (10 : Nat), (17 : Nat), (21 : Nat))]) ∈ lw_tbl := mx_t 398 (by decide +kernel)
theorem w_399 : (Jvm.Cond.methodLink "CurveSumsLaw" (31 : Nat) ({ cls := "CurveSums", name := "date", desc := "(II)I" } : Jvm.MethodName)) ∈ lw_tbl := mx_t 399 (by decide +kernel)
theorem w_400 : (Jvm.Cond.instanceMethod ({ cls := "CurveSums", name := "date", desc := "(II)I" } : Jvm.MethodName)) ∈ lw_tbl := mx_t 400 (by decide +kernel)
theorem w_401 : (Jvm.Cond.selects "CurveSums" ({ cls := "CurveSums", name := "date", desc := "(II)I" } : Jvm.MethodName) ({ cls := "CurveSums", name := "date", desc := "(II)I" } : Jvm.MethodName)) ∈ lw_tbl := mx_t 401 (by decide +kernel)
theorem w_402 : (Jvm.Cond.code ({ cls := "CurveSums", name := "date", desc := "(II)I" } : Jvm.MethodName) prog_1_method_6_code (3 : Nat) (Option.some Jvm.ClassFile.FieldType.int)) ∈ lw_tbl := mx_t 402 (by decide +kernel)
theorem w_403 : (Jvm.Cond.methodLink "CurveSums" (116 : Nat) ({ cls := "CurveSums", name := "needRoomForDate", desc := "()V" } : Jvm.MethodName)) ∈ lw_tbl := mx_t 403 (by decide +kernel)
theorem w_404 : (Jvm.Cond.privateMethod ({ cls := "CurveSums", name := "needRoomForDate", desc := "()V" } : Jvm.MethodName)) ∈ lw_tbl := mx_t 404 (by decide +kernel)
theorem w_405 : (Jvm.Cond.instanceMethod ({ cls := "CurveSums", name := "needRoomForDate", desc := "()V" } : Jvm.MethodName)) ∈ lw_tbl := mx_t 405 (by decide +kernel)
theorem w_406 : (Jvm.Cond.code ({ cls := "CurveSums", name := "needRoomForDate", desc := "()V" } : Jvm.MethodName) prog_1_method_23_code (1 : Nat) (Option.none : Option Jvm.ClassFile.FieldType)) ∈ lw_tbl := mx_t 406 (by decide +kernel)
theorem w_407 : (Jvm.Cond.stringRef "CurveSums" (239 : Nat) "there are twelve dates") ∈ lw_tbl := mx_t 407 (by decide +kernel)
theorem w_408 : (Jvm.Cond.methodLink "CurveSums" (119 : Nat) ({ cls := "CurveSums", name := "tellMeasured", desc := "(II)I" } : Jvm.MethodName)) ∈ lw_tbl := mx_t 408 (by decide +kernel)
theorem w_409 : (Jvm.Cond.privateMethod ({ cls := "CurveSums", name := "tellMeasured", desc := "(II)I" } : Jvm.MethodName)) ∈ lw_tbl := mx_t 409 (by decide +kernel)
theorem w_410 : (Jvm.Cond.instanceMethod ({ cls := "CurveSums", name := "tellMeasured", desc := "(II)I" } : Jvm.MethodName)) ∈ lw_tbl := mx_t 410 (by decide +kernel)
theorem w_411 : (Jvm.Cond.code ({ cls := "CurveSums", name := "tellMeasured", desc := "(II)I" } : Jvm.MethodName) prog_1_method_26_code (7 : Nat) (Option.some Jvm.ClassFile.FieldType.int)) ∈ lw_tbl := mx_t 411 (by decide +kernel)
theorem w_412 : (Jvm.Cond.methodLink "CurveSums" (247 : Nat) ({ cls := "CurveSums", name := "weightBy", desc := "(LCurveSums$Edition;III)I" } : Jvm.MethodName)) ∈ lw_tbl := mx_t 412 (by decide +kernel)
theorem w_413 : (Jvm.Cond.privateMethod ({ cls := "CurveSums", name := "weightBy", desc := "(LCurveSums$Edition;III)I" } : Jvm.MethodName)) ∈ lw_tbl := mx_t 413 (by decide +kernel)
theorem w_414 : (Jvm.Cond.instanceMethod ({ cls := "CurveSums", name := "weightBy", desc := "(LCurveSums$Edition;III)I" } : Jvm.MethodName)) ∈ lw_tbl := mx_t 414 (by decide +kernel)
theorem w_415 : (Jvm.Cond.code ({ cls := "CurveSums", name := "weightBy", desc := "(LCurveSums$Edition;III)I" } : Jvm.MethodName) prog_1_method_28_code (11 : Nat) (Option.some Jvm.ClassFile.FieldType.int)) ∈ lw_tbl := mx_t 415 (by decide +kernel)
theorem w_416 : (Jvm.Cond.methodLink "CurveSums" (251 : Nat) ({ cls := "CurveSums$Edition", name := "hasRow", desc := "(I)Z" } : Jvm.MethodName)) ∈ lw_tbl := mx_t 416 (by decide +kernel)
theorem w_417 : (Jvm.Cond.methodLink "CurveSums" (145 : Nat) ({ cls := "CurveSums", name := "countTold", desc := "()I" } : Jvm.MethodName)) ∈ lw_tbl := mx_t 417 (by decide +kernel)
theorem w_418 : (Jvm.Cond.privateMethod ({ cls := "CurveSums", name := "countTold", desc := "()I" } : Jvm.MethodName)) ∈ lw_tbl := mx_t 418 (by decide +kernel)
theorem w_419 : (Jvm.Cond.instanceMethod ({ cls := "CurveSums", name := "countTold", desc := "()I" } : Jvm.MethodName)) ∈ lw_tbl := mx_t 419 (by decide +kernel)
theorem w_420 : (Jvm.Cond.code ({ cls := "CurveSums", name := "countTold", desc := "()I" } : Jvm.MethodName) prog_1_method_27_code (1 : Nat) (Option.some Jvm.ClassFile.FieldType.int)) ∈ lw_tbl := mx_t 420 (by decide +kernel)
theorem w_421 : (Jvm.Cond.methodLink "CurveSumsLaw" (104 : Nat) ({ cls := "CurveSumsLaw", name := "weight", desc := "(LCurveSums;II[J)I" } : Jvm.MethodName)) ∈ lw_tbl := mx_t 421 (by decide +kernel)
theorem w_422 : (Jvm.Cond.static ({ cls := "CurveSumsLaw", name := "weight", desc := "(LCurveSums;II[J)I" } : Jvm.MethodName)) ∈ lw_tbl := mx_t 422 (by decide +kernel)
theorem w_423 : (Jvm.Cond.codeWith ({ cls := "CurveSumsLaw", name := "weight", desc := "(LCurveSums;II[J)I" } : Jvm.MethodName) method_8_code (5 : Nat) (Option.some Jvm.ClassFile.FieldType.int) [((0 : Nat), (10 : Nat), (13 : Nat), (13 : Nat))]) ∈ lw_tbl := mx_t 423 (by decide +kernel)
theorem w_424 : (Jvm.Cond.methodLink "CurveSumsLaw" (35 : Nat) ({ cls := "CurveSums", name := "weight", desc := "(II)I" } : Jvm.MethodName)) ∈ lw_tbl := mx_t 424 (by decide +kernel)
theorem w_425 : (Jvm.Cond.instanceMethod ({ cls := "CurveSums", name := "weight", desc := "(II)I" } : Jvm.MethodName)) ∈ lw_tbl := mx_t 425 (by decide +kernel)
theorem w_426 : (Jvm.Cond.selects "CurveSums" ({ cls := "CurveSums", name := "weight", desc := "(II)I" } : Jvm.MethodName) ({ cls := "CurveSums", name := "weight", desc := "(II)I" } : Jvm.MethodName)) ∈ lw_tbl := mx_t 426 (by decide +kernel)
theorem w_427 : (Jvm.Cond.code ({ cls := "CurveSums", name := "weight", desc := "(II)I" } : Jvm.MethodName) prog_1_method_7_code (3 : Nat) (Option.some Jvm.ClassFile.FieldType.int)) ∈ lw_tbl := mx_t 427 (by decide +kernel)
theorem w_428 : (Jvm.Cond.methodLink "CurveSums" (122 : Nat) ({ cls := "CurveSums", name := "needDate", desc := "(I)V" } : Jvm.MethodName)) ∈ lw_tbl := mx_t 428 (by decide +kernel)
theorem w_429 : (Jvm.Cond.privateMethod ({ cls := "CurveSums", name := "needDate", desc := "(I)V" } : Jvm.MethodName)) ∈ lw_tbl := mx_t 429 (by decide +kernel)
theorem w_430 : (Jvm.Cond.instanceMethod ({ cls := "CurveSums", name := "needDate", desc := "(I)V" } : Jvm.MethodName)) ∈ lw_tbl := mx_t 430 (by decide +kernel)
theorem w_431 : (Jvm.Cond.code ({ cls := "CurveSums", name := "needDate", desc := "(I)V" } : Jvm.MethodName) prog_1_method_22_code (2 : Nat) (Option.none : Option Jvm.ClassFile.FieldType)) ∈ lw_tbl := mx_t 431 (by decide +kernel)
theorem w_432 : (Jvm.Cond.stringRef "CurveSums" (237 : Nat) "no such date") ∈ lw_tbl := mx_t 432 (by decide +kernel)
theorem w_433 : (Jvm.Cond.methodLink "CurveSumsLaw" (107 : Nat) ({ cls := "CurveSumsLaw", name := "total", desc := "(LCurveSums;I[J)I" } : Jvm.MethodName)) ∈ lw_tbl := mx_t 433 (by decide +kernel)
theorem w_434 : (Jvm.Cond.static ({ cls := "CurveSumsLaw", name := "total", desc := "(LCurveSums;I[J)I" } : Jvm.MethodName)) ∈ lw_tbl := mx_t 434 (by decide +kernel)
theorem w_435 : (Jvm.Cond.codeWith ({ cls := "CurveSumsLaw", name := "total", desc := "(LCurveSums;I[J)I" } : Jvm.MethodName) method_9_code (4 : Nat) (Option.some Jvm.ClassFile.FieldType.int) [((0 : Nat), (9 : Nat), (12 : Nat), (13 : Nat))]) ∈ lw_tbl := mx_t 435 (by decide +kernel)
theorem w_436 : (Jvm.Cond.methodLink "CurveSumsLaw" (38 : Nat) ({ cls := "CurveSums", name := "total", desc := "(I)I" } : Jvm.MethodName)) ∈ lw_tbl := mx_t 436 (by decide +kernel)
theorem w_437 : (Jvm.Cond.instanceMethod ({ cls := "CurveSums", name := "total", desc := "(I)I" } : Jvm.MethodName)) ∈ lw_tbl := mx_t 437 (by decide +kernel)
theorem w_438 : (Jvm.Cond.selects "CurveSums" ({ cls := "CurveSums", name := "total", desc := "(I)I" } : Jvm.MethodName) ({ cls := "CurveSums", name := "total", desc := "(I)I" } : Jvm.MethodName)) ∈ lw_tbl := mx_t 438 (by decide +kernel)
theorem w_439 : (Jvm.Cond.code ({ cls := "CurveSums", name := "total", desc := "(I)I" } : Jvm.MethodName) prog_1_method_8_code (2 : Nat) (Option.some Jvm.ClassFile.FieldType.int)) ∈ lw_tbl := mx_t 439 (by decide +kernel)
theorem w_440 : (Jvm.Cond.methodLink "CurveSums" (129 : Nat) ({ cls := "CurveSums$Dating", name := "allWeights", desc := "()I" } : Jvm.MethodName)) ∈ lw_tbl := mx_t 440 (by decide +kernel)
theorem w_441 : (Jvm.Cond.instanceMethod ({ cls := "CurveSums$Dating", name := "allWeights", desc := "()I" } : Jvm.MethodName)) ∈ lw_tbl := mx_t 441 (by decide +kernel)
theorem w_442 : (Jvm.Cond.selects "CurveSums$Dating" ({ cls := "CurveSums$Dating", name := "allWeights", desc := "()I" } : Jvm.MethodName) ({ cls := "CurveSums$Dating", name := "allWeights", desc := "()I" } : Jvm.MethodName)) ∈ lw_tbl := mx_t 442 (by decide +kernel)
theorem w_443 : (Jvm.Cond.code ({ cls := "CurveSums$Dating", name := "allWeights", desc := "()I" } : Jvm.MethodName) prog_3_method_3_code (6 : Nat) (Option.some Jvm.ClassFile.FieldType.int)) ∈ lw_tbl := mx_t 443 (by decide +kernel)
theorem w_444 : (Jvm.Cond.methodLink "CurveSumsLaw" (110 : Nat) ({ cls := "CurveSumsLaw", name := "sum", desc := "(LCurveSums;II[J)I" } : Jvm.MethodName)) ∈ lw_tbl := mx_t 444 (by decide +kernel)
theorem w_445 : (Jvm.Cond.static ({ cls := "CurveSumsLaw", name := "sum", desc := "(LCurveSums;II[J)I" } : Jvm.MethodName)) ∈ lw_tbl := mx_t 445 (by decide +kernel)
theorem w_446 : (Jvm.Cond.codeWith ({ cls := "CurveSumsLaw", name := "sum", desc := "(LCurveSums;II[J)I" } : Jvm.MethodName) method_10_code (5 : Nat) (Option.some Jvm.ClassFile.FieldType.int) [((0 : Nat), (10 : Nat), (13 : Nat), (13 : Nat)), ((0 : Nat), (10 : Nat), (17 : Nat), (21 : Nat))]) ∈ lw_tbl := mx_t 446 (by decide +kernel)
theorem w_447 : (Jvm.Cond.methodLink "CurveSumsLaw" (41 : Nat) ({ cls := "CurveSums", name := "sum", desc := "(II)I" } : Jvm.MethodName)) ∈ lw_tbl := mx_t 447 (by decide +kernel)
theorem w_448 : (Jvm.Cond.instanceMethod ({ cls := "CurveSums", name := "sum", desc := "(II)I" } : Jvm.MethodName)) ∈ lw_tbl := mx_t 448 (by decide +kernel)
theorem w_449 : (Jvm.Cond.selects "CurveSums" ({ cls := "CurveSums", name := "sum", desc := "(II)I" } : Jvm.MethodName) ({ cls := "CurveSums", name := "sum", desc := "(II)I" } : Jvm.MethodName)) ∈ lw_tbl := mx_t 449 (by decide +kernel)
theorem w_450 : (Jvm.Cond.code ({ cls := "CurveSums", name := "sum", desc := "(II)I" } : Jvm.MethodName) prog_1_method_9_code (3 : Nat) (Option.some Jvm.ClassFile.FieldType.int)) ∈ lw_tbl := mx_t 450 (by decide +kernel)
theorem w_451 : (Jvm.Cond.methodLink "CurveSums" (133 : Nat) ({ cls := "CurveSums$Dating", name := "greatestSumWith", desc := "(LCurveSums$Dating;)I" } : Jvm.MethodName)) ∈ lw_tbl := mx_t 451 (by decide +kernel)
theorem w_452 : (Jvm.Cond.instanceMethod ({ cls := "CurveSums$Dating", name := "greatestSumWith", desc := "(LCurveSums$Dating;)I" } : Jvm.MethodName)) ∈ lw_tbl := mx_t 452 (by decide +kernel)
theorem w_453 : (Jvm.Cond.selects "CurveSums$Dating" ({ cls := "CurveSums$Dating", name := "greatestSumWith", desc := "(LCurveSums$Dating;)I" } : Jvm.MethodName) ({ cls := "CurveSums$Dating", name := "greatestSumWith", desc := "(LCurveSums$Dating;)I" } : Jvm.MethodName)) ∈ lw_tbl := mx_t 453 (by decide +kernel)
theorem w_454 : (Jvm.Cond.code ({ cls := "CurveSums$Dating", name := "greatestSumWith", desc := "(LCurveSums$Dating;)I" } : Jvm.MethodName) prog_3_method_4_code (4 : Nat) (Option.some Jvm.ClassFile.FieldType.int)) ∈ lw_tbl := mx_t 454 (by decide +kernel)
theorem w_455 : (Jvm.Cond.methodLink "CurveSums$Dating" (17 : Nat) ({ cls := "java/lang/Math", name := "max", desc := "(II)I" } : Jvm.MethodName)) ∈ lw_tbl := mx_t 455 (by decide +kernel)
theorem w_456 : (Jvm.Cond.constant "CurveSums" (137 : Nat) (1000000 : Int32)) ∈ lw_tbl := mx_t 456 (by decide +kernel)
theorem w_457 : (Jvm.Cond.methodLink "CurveSums" (141 : Nat) ({ cls := "CurveSums$Dating", name := "becomeSum", desc := "(LCurveSums$Dating;LCurveSums$Dating;)V" } : Jvm.MethodName)) ∈ lw_tbl := mx_t 457 (by decide +kernel)
theorem w_458 : (Jvm.Cond.instanceMethod ({ cls := "CurveSums$Dating", name := "becomeSum", desc := "(LCurveSums$Dating;LCurveSums$Dating;)V" } : Jvm.MethodName)) ∈ lw_tbl := mx_t 458 (by decide +kernel)
theorem w_459 : (Jvm.Cond.selects "CurveSums$Dating" ({ cls := "CurveSums$Dating", name := "becomeSum", desc := "(LCurveSums$Dating;LCurveSums$Dating;)V" } : Jvm.MethodName) ({ cls := "CurveSums$Dating", name := "becomeSum", desc := "(LCurveSums$Dating;LCurveSums$Dating;)V" } : Jvm.MethodName)) ∈ lw_tbl := mx_t 459 (by decide +kernel)
theorem w_460 : (Jvm.Cond.code ({ cls := "CurveSums$Dating", name := "becomeSum", desc := "(LCurveSums$Dating;LCurveSums$Dating;)V" } : Jvm.MethodName) prog_3_method_5_code (4 : Nat) (Option.none : Option Jvm.ClassFile.FieldType)) ∈ lw_tbl := mx_t 460 (by decide +kernel)
theorem w_461 : (Jvm.Cond.methodLink "CurveSumsLaw" (113 : Nat) ({ cls := "CurveSumsLaw", name := "mix", desc := "(LCurveSums;IIII[J)I" } : Jvm.MethodName)) ∈ lw_tbl := mx_t 461 (by decide +kernel)
theorem w_462 : (Jvm.Cond.static ({ cls := "CurveSumsLaw", name := "mix", desc := "(LCurveSums;IIII[J)I" } : Jvm.MethodName)) ∈ lw_tbl := mx_t 462 (by decide +kernel)
theorem w_463 : (Jvm.Cond.codeWith ({ cls := "CurveSumsLaw", name := "mix", desc := "(LCurveSums;IIII[J)I" } : Jvm.MethodName) method_11_code (7 : Nat) (Option.some Jvm.ClassFile.FieldType.int) [((0 : Nat), (14 : Nat), (17 : Nat), (13 : Nat)), ((0 : Nat), (14 : Nat), (21 : Nat), (15 : Nat)), ((0 : Nat), (14 : Nat), (25 : Nat), (21 : Nat))]) ∈ lw_tbl := mx_t 463 (by decide +kernel)
theorem w_464 : (Jvm.Cond.methodLink "CurveSumsLaw" (44 : Nat) ({ cls := "CurveSums", name := "mix", desc := "(IIII)I" } : Jvm.MethodName)) ∈ lw_tbl := mx_t 464 (by decide +kernel)
theorem w_465 : (Jvm.Cond.instanceMethod ({ cls := "CurveSums", name := "mix", desc := "(IIII)I" } : Jvm.MethodName)) ∈ lw_tbl := mx_t 465 (by decide +kernel)
theorem w_466 : (Jvm.Cond.selects "CurveSums" ({ cls := "CurveSums", name := "mix", desc := "(IIII)I" } : Jvm.MethodName) ({ cls := "CurveSums", name := "mix", desc := "(IIII)I" } : Jvm.MethodName)) ∈ lw_tbl := mx_t 466 (by decide +kernel)
theorem w_467 : (Jvm.Cond.code ({ cls := "CurveSums", name := "mix", desc := "(IIII)I" } : Jvm.MethodName) prog_1_method_10_code (5 : Nat) (Option.some Jvm.ClassFile.FieldType.int)) ∈ lw_tbl := mx_t 467 (by decide +kernel)
theorem w_468 : (Jvm.Cond.stringRef "CurveSums" (148 : Nat) "below is 1 at least") ∈ lw_tbl := mx_t 468 (by decide +kernel)
theorem w_469 : (Jvm.Cond.methodLink "CurveSums" (150 : Nat) ({ cls := "CurveSums", name := "needShare", desc := "(III)V" } : Jvm.MethodName)) ∈ lw_tbl := mx_t 469 (by decide +kernel)
theorem w_470 : (Jvm.Cond.static ({ cls := "CurveSums", name := "needShare", desc := "(III)V" } : Jvm.MethodName)) ∈ lw_tbl := mx_t 470 (by decide +kernel)
theorem w_471 : (Jvm.Cond.code ({ cls := "CurveSums", name := "needShare", desc := "(III)V" } : Jvm.MethodName) prog_1_method_25_code (3 : Nat) (Option.none : Option Jvm.ClassFile.FieldType)) ∈ lw_tbl := mx_t 471 (by decide +kernel)
theorem w_472 : (Jvm.Cond.stringRef "CurveSums" (245 : Nat) "no such share") ∈ lw_tbl := mx_t 472 (by decide +kernel)
theorem w_473 : (Jvm.Cond.methodLink "CurveSums" (154 : Nat) ({ cls := "CurveSums$Dating", name := "becomeMixture", desc := "(LCurveSums$Dating;LCurveSums$Dating;II)V" } : Jvm.MethodName)) ∈ lw_tbl := mx_t 473 (by decide +kernel)
theorem w_474 : (Jvm.Cond.instanceMethod ({ cls := "CurveSums$Dating", name := "becomeMixture", desc := "(LCurveSums$Dating;LCurveSums$Dating;II)V" } : Jvm.MethodName)) ∈ lw_tbl := mx_t 474 (by decide +kernel)
theorem w_475 : (Jvm.Cond.selects "CurveSums$Dating" ({ cls := "CurveSums$Dating", name := "becomeMixture", desc := "(LCurveSums$Dating;LCurveSums$Dating;II)V" } : Jvm.MethodName) ({ cls := "CurveSums$Dating", name := "becomeMixture", desc := "(LCurveSums$Dating;LCurveSums$Dating;II)V" } : Jvm.MethodName)) ∈ lw_tbl := mx_t 475 (by decide +kernel)
theorem w_476 : (Jvm.Cond.code ({ cls := "CurveSums$Dating", name := "becomeMixture", desc := "(LCurveSums$Dating;LCurveSums$Dating;II)V" } : Jvm.MethodName) prog_3_method_6_code (8 : Nat) (Option.none : Option Jvm.ClassFile.FieldType)) ∈ lw_tbl := mx_t 476 (by decide +kernel)
theorem w_477 : (Jvm.Cond.methodLink "CurveSumsLaw" (117 : Nat) ({ cls := "CurveSumsLaw", name := "joinRepeats", desc := "(LCurveSums;II[J)I" } : Jvm.MethodName)) ∈ lw_tbl := mx_t 477 (by decide +kernel)
theorem w_478 : (Jvm.Cond.static ({ cls := "CurveSumsLaw", name := "joinRepeats", desc := "(LCurveSums;II[J)I" } : Jvm.MethodName)) ∈ lw_tbl := mx_t 478 (by decide +kernel)
theorem w_479 : (Jvm.Cond.codeWith ({ cls := "CurveSumsLaw", name := "joinRepeats", desc := "(LCurveSums;II[J)I" } : Jvm.MethodName) method_12_code (5 : Nat) (Option.some Jvm.ClassFile.FieldType.int) [((0 : Nat), (10 : Nat), (13 : Nat), (13 : Nat)), ((0 : Nat), (10 : Nat), (17 : Nat), (21 : Nat))]) ∈ lw_tbl := mx_t 479 (by decide +kernel)
theorem w_480 : (Jvm.Cond.methodLink "CurveSumsLaw" (48 : Nat) ({ cls := "CurveSums", name := "joinRepeats", desc := "(II)I" } : Jvm.MethodName)) ∈ lw_tbl := mx_t 480 (by decide +kernel)
theorem w_481 : (Jvm.Cond.instanceMethod ({ cls := "CurveSums", name := "joinRepeats", desc := "(II)I" } : Jvm.MethodName)) ∈ lw_tbl := mx_t 481 (by decide +kernel)
theorem w_482 : (Jvm.Cond.selects "CurveSums" ({ cls := "CurveSums", name := "joinRepeats", desc := "(II)I" } : Jvm.MethodName) ({ cls := "CurveSums", name := "joinRepeats", desc := "(II)I" } : Jvm.MethodName)) ∈ lw_tbl := mx_t 482 (by decide +kernel)
theorem w_483 : (Jvm.Cond.code ({ cls := "CurveSums", name := "joinRepeats", desc := "(II)I" } : Jvm.MethodName) prog_1_method_11_code (9 : Nat) (Option.some Jvm.ClassFile.FieldType.int)) ∈ lw_tbl := mx_t 483 (by decide +kernel)
theorem w_484 : (Jvm.Cond.methodLink "CurveSums" (158 : Nat) ({ cls := "CurveSums$Dating", name := "isMeasured", desc := "()Z" } : Jvm.MethodName)) ∈ lw_tbl := mx_t 484 (by decide +kernel)
theorem w_485 : (Jvm.Cond.instanceMethod ({ cls := "CurveSums$Dating", name := "isMeasured", desc := "()Z" } : Jvm.MethodName)) ∈ lw_tbl := mx_t 485 (by decide +kernel)
theorem w_486 : (Jvm.Cond.selects "CurveSums$Dating" ({ cls := "CurveSums$Dating", name := "isMeasured", desc := "()Z" } : Jvm.MethodName) ({ cls := "CurveSums$Dating", name := "isMeasured", desc := "()Z" } : Jvm.MethodName)) ∈ lw_tbl := mx_t 486 (by decide +kernel)
theorem w_487 : (Jvm.Cond.code ({ cls := "CurveSums$Dating", name := "isMeasured", desc := "()Z" } : Jvm.MethodName) prog_3_method_2_code (1 : Nat) (Option.some Jvm.ClassFile.FieldType.boolean)) ∈ lw_tbl := mx_t 487 (by decide +kernel)
theorem w_488 : (Jvm.Cond.methodLink "CurveSums" (168 : Nat) ({ cls := "CurveSums", name := "rootAtLeastOne", desc := "(I)I" } : Jvm.MethodName)) ∈ lw_tbl := mx_t 488 (by decide +kernel)
theorem w_489 : (Jvm.Cond.static ({ cls := "CurveSums", name := "rootAtLeastOne", desc := "(I)I" } : Jvm.MethodName)) ∈ lw_tbl := mx_t 489 (by decide +kernel)
theorem w_490 : (Jvm.Cond.code ({ cls := "CurveSums", name := "rootAtLeastOne", desc := "(I)I" } : Jvm.MethodName) prog_1_method_29_code (2 : Nat) (Option.some Jvm.ClassFile.FieldType.int)) ∈ lw_tbl := mx_t 490 (by decide +kernel)
theorem w_491 : (Jvm.Cond.methodLink "CurveSumsLaw" (120 : Nat) ({ cls := "CurveSumsLaw", name := "least", desc := "(LCurveSums;III[J)I" } : Jvm.MethodName)) ∈ lw_tbl := mx_t 491 (by decide +kernel)
theorem w_492 : (Jvm.Cond.static ({ cls := "CurveSumsLaw", name := "least", desc := "(LCurveSums;III[J)I" } : Jvm.MethodName)) ∈ lw_tbl := mx_t 492 (by decide +kernel)
theorem w_493 : (Jvm.Cond.codeWith ({ cls := "CurveSumsLaw", name := "least", desc := "(LCurveSums;III[J)I" } : Jvm.MethodName) method_13_code (6 : Nat) (Option.some Jvm.ClassFile.FieldType.int) [((0 : Nat), (12 : Nat), (15 : Nat), (13 : Nat)), ((0 : Nat), (12 : Nat), (19 : Nat), (15 : Nat))]) ∈ lw_tbl := mx_t 493 (by decide +kernel)
theorem w_494 : (Jvm.Cond.methodLink "CurveSumsLaw" (51 : Nat) ({ cls := "CurveSums", name := "least", desc := "(III)I" } : Jvm.MethodName)) ∈ lw_tbl := mx_t 494 (by decide +kernel)
theorem w_495 : (Jvm.Cond.instanceMethod ({ cls := "CurveSums", name := "least", desc := "(III)I" } : Jvm.MethodName)) ∈ lw_tbl := mx_t 495 (by decide +kernel)
theorem w_496 : (Jvm.Cond.selects "CurveSums" ({ cls := "CurveSums", name := "least", desc := "(III)I" } : Jvm.MethodName) ({ cls := "CurveSums", name := "least", desc := "(III)I" } : Jvm.MethodName)) ∈ lw_tbl := mx_t 496 (by decide +kernel)
theorem w_497 : (Jvm.Cond.code ({ cls := "CurveSums", name := "least", desc := "(III)I" } : Jvm.MethodName) prog_1_method_12_code (4 : Nat) (Option.some Jvm.ClassFile.FieldType.int)) ∈ lw_tbl := mx_t 497 (by decide +kernel)
theorem w_498 : (Jvm.Cond.methodLink "CurveSums" (172 : Nat) ({ cls := "CurveSums$LeastSet", name := "choose", desc := "(LCurveSums$Dating;II)V" } : Jvm.MethodName)) ∈ lw_tbl := mx_t 498 (by decide +kernel)
theorem w_499 : (Jvm.Cond.instanceMethod ({ cls := "CurveSums$LeastSet", name := "choose", desc := "(LCurveSums$Dating;II)V" } : Jvm.MethodName)) ∈ lw_tbl := mx_t 499 (by decide +kernel)
theorem w_500 : (Jvm.Cond.selects "CurveSums$LeastSet" ({ cls := "CurveSums$LeastSet", name := "choose", desc := "(LCurveSums$Dating;II)V" } : Jvm.MethodName) ({ cls := "CurveSums$LeastSet", name := "choose", desc := "(LCurveSums$Dating;II)V" } : Jvm.MethodName)) ∈ lw_tbl := mx_t 500 (by decide +kernel)
theorem w_501 : (Jvm.Cond.code ({ cls := "CurveSums$LeastSet", name := "choose", desc := "(LCurveSums$Dating;II)V" } : Jvm.MethodName) prog_5_method_2_code (10 : Nat) (Option.none : Option Jvm.ClassFile.FieldType)) ∈ lw_tbl := mx_t 501 (by decide +kernel)
theorem w_502 : (Jvm.Cond.methodLink "CurveSums$LeastSet" (22 : Nat) ({ cls := "CurveSums$Dating", name := "allWeights", desc := "()I" } : Jvm.MethodName)) ∈ lw_tbl := mx_t 502 (by decide +kernel)
theorem w_503 : (Jvm.Cond.methodLink "CurveSums$LeastSet" (28 : Nat) ({ cls := "CurveSums$LeastSet", name := "heaviestLeft", desc := "(LCurveSums$Dating;)I" } : Jvm.MethodName)) ∈ lw_tbl := mx_t 503 (by decide +kernel)
theorem w_504 : (Jvm.Cond.privateMethod ({ cls := "CurveSums$LeastSet", name := "heaviestLeft", desc := "(LCurveSums$Dating;)I" } : Jvm.MethodName)) ∈ lw_tbl := mx_t 504 (by decide +kernel)
theorem w_505 : (Jvm.Cond.instanceMethod ({ cls := "CurveSums$LeastSet", name := "heaviestLeft", desc := "(LCurveSums$Dating;)I" } : Jvm.MethodName)) ∈ lw_tbl := mx_t 505 (by decide +kernel)
theorem w_506 : (Jvm.Cond.code ({ cls := "CurveSums$LeastSet", name := "heaviestLeft", desc := "(LCurveSums$Dating;)I" } : Jvm.MethodName) prog_5_method_3_code (5 : Nat) (Option.some Jvm.ClassFile.FieldType.int)) ∈ lw_tbl := mx_t 506 (by decide +kernel)
theorem w_507 : (Jvm.Cond.methodLink "CurveSums$LeastSet" (35 : Nat) ({ cls := "CurveSums$LeastSet", name := "findSpans", desc := "()V" } : Jvm.MethodName)) ∈ lw_tbl := mx_t 507 (by decide +kernel)
theorem w_508 : (Jvm.Cond.privateMethod ({ cls := "CurveSums$LeastSet", name := "findSpans", desc := "()V" } : Jvm.MethodName)) ∈ lw_tbl := mx_t 508 (by decide +kernel)
theorem w_509 : (Jvm.Cond.instanceMethod ({ cls := "CurveSums$LeastSet", name := "findSpans", desc := "()V" } : Jvm.MethodName)) ∈ lw_tbl := mx_t 509 (by decide +kernel)
theorem w_510 : (Jvm.Cond.code ({ cls := "CurveSums$LeastSet", name := "findSpans", desc := "()V" } : Jvm.MethodName) prog_5_method_4_code (2 : Nat) (Option.none : Option Jvm.ClassFile.FieldType)) ∈ lw_tbl := mx_t 510 (by decide +kernel)
theorem w_511 : (Jvm.Cond.methodLink "CurveSums$LeastSet" (42 : Nat) ({ cls := "CurveSums$LeastSet", name := "holdsYear", desc := "(I)Z" } : Jvm.MethodName)) ∈ lw_tbl := mx_t 511 (by decide +kernel)
theorem w_512 : (Jvm.Cond.privateMethod ({ cls := "CurveSums$LeastSet", name := "holdsYear", desc := "(I)Z" } : Jvm.MethodName)) ∈ lw_tbl := mx_t 512 (by decide +kernel)
theorem w_513 : (Jvm.Cond.instanceMethod ({ cls := "CurveSums$LeastSet", name := "holdsYear", desc := "(I)Z" } : Jvm.MethodName)) ∈ lw_tbl := mx_t 513 (by decide +kernel)
theorem w_514 : (Jvm.Cond.code ({ cls := "CurveSums$LeastSet", name := "holdsYear", desc := "(I)Z" } : Jvm.MethodName) prog_5_method_5_code (2 : Nat) (Option.some Jvm.ClassFile.FieldType.boolean)) ∈ lw_tbl := mx_t 514 (by decide +kernel)
theorem w_515 : (Jvm.Cond.methodLink "CurveSumsLaw" (123 : Nat) ({ cls := "CurveSumsLaw", name := "span", desc := "(LCurveSums;II[J)I" } : Jvm.MethodName)) ∈ lw_tbl := mx_t 515 (by decide +kernel)
theorem w_516 : (Jvm.Cond.static ({ cls := "CurveSumsLaw", name := "span", desc := "(LCurveSums;II[J)I" } : Jvm.MethodName)) ∈ lw_tbl := mx_t 516 (by decide +kernel)
theorem w_517 : (Jvm.Cond.codeWith ({ cls := "CurveSumsLaw", name := "span", desc := "(LCurveSums;II[J)I" } : Jvm.MethodName) method_14_code (5 : Nat) (Option.some Jvm.ClassFile.FieldType.int) [((0 : Nat), (10 : Nat), (13 : Nat), (13 : Nat))]) ∈ lw_tbl := mx_t 517 (by decide +kernel)
theorem w_518 : (Jvm.Cond.methodLink "CurveSumsLaw" (55 : Nat) ({ cls := "CurveSums", name := "span", desc := "(II)I" } : Jvm.MethodName)) ∈ lw_tbl := mx_t 518 (by decide +kernel)
theorem w_519 : (Jvm.Cond.instanceMethod ({ cls := "CurveSums", name := "span", desc := "(II)I" } : Jvm.MethodName)) ∈ lw_tbl := mx_t 519 (by decide +kernel)
theorem w_520 : (Jvm.Cond.selects "CurveSums" ({ cls := "CurveSums", name := "span", desc := "(II)I" } : Jvm.MethodName) ({ cls := "CurveSums", name := "span", desc := "(II)I" } : Jvm.MethodName)) ∈ lw_tbl := mx_t 520 (by decide +kernel)
theorem w_521 : (Jvm.Cond.code ({ cls := "CurveSums", name := "span", desc := "(II)I" } : Jvm.MethodName) prog_1_method_13_code (3 : Nat) (Option.some Jvm.ClassFile.FieldType.int)) ∈ lw_tbl := mx_t 521 (by decide +kernel)
theorem w_522 : (Jvm.Cond.stringRef "CurveSums" (179 : Nat) "no such span") ∈ lw_tbl := mx_t 522 (by decide +kernel)
theorem w_523 : (Jvm.Cond.stringRef "CurveSums" (181 : Nat) "no such end") ∈ lw_tbl := mx_t 523 (by decide +kernel)
theorem w_524 : (Jvm.Cond.methodLink "CurveSumsLaw" (126 : Nat) ({ cls := "CurveSumsLaw", name := "gap", desc := "(LCurveSums;II[J)I" } : Jvm.MethodName)) ∈ lw_tbl := mx_t 524 (by decide +kernel)
theorem w_525 : (Jvm.Cond.static ({ cls := "CurveSumsLaw", name := "gap", desc := "(LCurveSums;II[J)I" } : Jvm.MethodName)) ∈ lw_tbl := mx_t 525 (by decide +kernel)
theorem w_526 : (Jvm.Cond.codeWith ({ cls := "CurveSumsLaw", name := "gap", desc := "(LCurveSums;II[J)I" } : Jvm.MethodName) method_15_code (5 : Nat) (Option.some Jvm.ClassFile.FieldType.int) [((0 : Nat), (10 : Nat), (13 : Nat), (13 : Nat)), ((0 : Nat), (10 : Nat), (17 : Nat), (15 : Nat)), ((0 : Nat), (10 : Nat), (21 : Nat), (21 : Nat))]) ∈ lw_tbl := mx_t 526 (by decide +kernel)
theorem w_527 : (Jvm.Cond.methodLink "CurveSumsLaw" (58 : Nat) ({ cls := "CurveSums", name := "gap", desc := "(II)I" } : Jvm.MethodName)) ∈ lw_tbl := mx_t 527 (by decide +kernel)
theorem w_528 : (Jvm.Cond.instanceMethod ({ cls := "CurveSums", name := "gap", desc := "(II)I" } : Jvm.MethodName)) ∈ lw_tbl := mx_t 528 (by decide +kernel)
theorem w_529 : (Jvm.Cond.selects "CurveSums" ({ cls := "CurveSums", name := "gap", desc := "(II)I" } : Jvm.MethodName) ({ cls := "CurveSums", name := "gap", desc := "(II)I" } : Jvm.MethodName)) ∈ lw_tbl := mx_t 529 (by decide +kernel)
theorem w_530 : (Jvm.Cond.code ({ cls := "CurveSums", name := "gap", desc := "(II)I" } : Jvm.MethodName) prog_1_method_14_code (3 : Nat) (Option.some Jvm.ClassFile.FieldType.int)) ∈ lw_tbl := mx_t 530 (by decide +kernel)
theorem w_531 : (Jvm.Cond.stringRef "CurveSums" (189 : Nat) "a gap is 0 .. 59") ∈ lw_tbl := mx_t 531 (by decide +kernel)
theorem w_532 : (Jvm.Cond.stringRef "CurveSums" (194 : Nat) "the row has eight dates") ∈ lw_tbl := mx_t 532 (by decide +kernel)
theorem w_533 : (Jvm.Cond.methodLink "CurveSums" (196 : Nat) ({ cls := "CurveSums$DateRow", name := "append", desc := "(II)V" } : Jvm.MethodName)) ∈ lw_tbl := mx_t 533 (by decide +kernel)
theorem w_534 : (Jvm.Cond.instanceMethod ({ cls := "CurveSums$DateRow", name := "append", desc := "(II)V" } : Jvm.MethodName)) ∈ lw_tbl := mx_t 534 (by decide +kernel)
theorem w_535 : (Jvm.Cond.selects "CurveSums$DateRow" ({ cls := "CurveSums$DateRow", name := "append", desc := "(II)V" } : Jvm.MethodName) ({ cls := "CurveSums$DateRow", name := "append", desc := "(II)V" } : Jvm.MethodName)) ∈ lw_tbl := mx_t 535 (by decide +kernel)
theorem w_536 : (Jvm.Cond.code ({ cls := "CurveSums$DateRow", name := "append", desc := "(II)V" } : Jvm.MethodName) prog_2_method_2_code (3 : Nat) (Option.none : Option Jvm.ClassFile.FieldType)) ∈ lw_tbl := mx_t 536 (by decide +kernel)
theorem w_537 : (Jvm.Cond.methodLink "CurveSumsLaw" (129 : Nat) ({ cls := "CurveSumsLaw", name := "slid", desc := "(LCurveSums;I[J)I" } : Jvm.MethodName)) ∈ lw_tbl := mx_t 537 (by decide +kernel)
theorem w_538 : (Jvm.Cond.static ({ cls := "CurveSumsLaw", name := "slid", desc := "(LCurveSums;I[J)I" } : Jvm.MethodName)) ∈ lw_tbl := mx_t 538 (by decide +kernel)
theorem w_539 : (Jvm.Cond.codeWith ({ cls := "CurveSumsLaw", name := "slid", desc := "(LCurveSums;I[J)I" } : Jvm.MethodName) method_16_code (4 : Nat) (Option.some Jvm.ClassFile.FieldType.int) [((0 : Nat), (9 : Nat), (12 : Nat), (13 : Nat))]) ∈ lw_tbl := mx_t 539 (by decide +kernel)
theorem w_540 : (Jvm.Cond.methodLink "CurveSumsLaw" (61 : Nat) ({ cls := "CurveSums", name := "slid", desc := "(I)I" } : Jvm.MethodName)) ∈ lw_tbl := mx_t 540 (by decide +kernel)
theorem w_541 : (Jvm.Cond.instanceMethod ({ cls := "CurveSums", name := "slid", desc := "(I)I" } : Jvm.MethodName)) ∈ lw_tbl := mx_t 541 (by decide +kernel)
theorem w_542 : (Jvm.Cond.selects "CurveSums" ({ cls := "CurveSums", name := "slid", desc := "(I)I" } : Jvm.MethodName) ({ cls := "CurveSums", name := "slid", desc := "(I)I" } : Jvm.MethodName)) ∈ lw_tbl := mx_t 542 (by decide +kernel)
theorem w_543 : (Jvm.Cond.code ({ cls := "CurveSums", name := "slid", desc := "(I)I" } : Jvm.MethodName) prog_1_method_15_code (2 : Nat) (Option.some Jvm.ClassFile.FieldType.int)) ∈ lw_tbl := mx_t 543 (by decide +kernel)
theorem w_544 : (Jvm.Cond.methodLink "CurveSumsLaw" (140 : Nat) ({ cls := "CurveSumsLaw", name := "unit", desc := "(LCurveSums;II[J)I" } : Jvm.MethodName)) ∈ lw_tbl := mx_t 544 (by decide +kernel)
theorem w_545 : (Jvm.Cond.static ({ cls := "CurveSumsLaw", name := "unit", desc := "(LCurveSums;II[J)I" } : Jvm.MethodName)) ∈ lw_tbl := mx_t 545 (by decide +kernel)
theorem w_546 : (Jvm.Cond.codeWith ({ cls := "CurveSumsLaw", name := "unit", desc := "(LCurveSums;II[J)I" } : Jvm.MethodName) method_17_code (5 : Nat) (Option.some Jvm.ClassFile.FieldType.int) [((0 : Nat), (10 : Nat), (13 : Nat), (15 : Nat)), ((0 : Nat), (10 : Nat), (17 : Nat), (21 : Nat))]) ∈ lw_tbl := mx_t 546 (by decide +kernel)
theorem w_547 : (Jvm.Cond.methodLink "CurveSumsLaw" (64 : Nat) ({ cls := "CurveSums", name := "unit", desc := "(II)I" } : Jvm.MethodName)) ∈ lw_tbl := mx_t 547 (by decide +kernel)
theorem w_548 : (Jvm.Cond.instanceMethod ({ cls := "CurveSums", name := "unit", desc := "(II)I" } : Jvm.MethodName)) ∈ lw_tbl := mx_t 548 (by decide +kernel)
theorem w_549 : (Jvm.Cond.selects "CurveSums" ({ cls := "CurveSums", name := "unit", desc := "(II)I" } : Jvm.MethodName) ({ cls := "CurveSums", name := "unit", desc := "(II)I" } : Jvm.MethodName)) ∈ lw_tbl := mx_t 549 (by decide +kernel)
theorem w_550 : (Jvm.Cond.code ({ cls := "CurveSums", name := "unit", desc := "(II)I" } : Jvm.MethodName) prog_1_method_18_code (3 : Nat) (Option.some Jvm.ClassFile.FieldType.int)) ∈ lw_tbl := mx_t 550 (by decide +kernel)
theorem w_551 : (Jvm.Cond.methodLink "CurveSums" (203 : Nat) ({ cls := "CurveSums$Pad", name := "holdsSignsAlone", desc := "(I)Z" } : Jvm.MethodName)) ∈ lw_tbl := mx_t 551 (by decide +kernel)
theorem w_552 : (Jvm.Cond.static ({ cls := "CurveSums$Pad", name := "holdsSignsAlone", desc := "(I)Z" } : Jvm.MethodName)) ∈ lw_tbl := mx_t 552 (by decide +kernel)
theorem w_553 : (Jvm.Cond.code ({ cls := "CurveSums$Pad", name := "holdsSignsAlone", desc := "(I)Z" } : Jvm.MethodName) prog_6_method_2_code (3 : Nat) (Option.some Jvm.ClassFile.FieldType.boolean)) ∈ lw_tbl := mx_t 553 (by decide +kernel)
theorem w_554 : (Jvm.Cond.methodLink "CurveSums$Pad" (15 : Nat) ({ cls := "CurveSums$Pad", name := "signAt", desc := "(II)I" } : Jvm.MethodName)) ∈ lw_tbl := mx_t 554 (by decide +kernel)
theorem w_555 : (Jvm.Cond.static ({ cls := "CurveSums$Pad", name := "signAt", desc := "(II)I" } : Jvm.MethodName)) ∈ lw_tbl := mx_t 555 (by decide +kernel)
theorem w_556 : (Jvm.Cond.code ({ cls := "CurveSums$Pad", name := "signAt", desc := "(II)I" } : Jvm.MethodName) prog_6_method_5_code (2 : Nat) (Option.some Jvm.ClassFile.FieldType.int)) ∈ lw_tbl := mx_t 556 (by decide +kernel)
theorem w_557 : (Jvm.Cond.stringRef "CurveSums" (207 : Nat) "a sign is 32 .. 126") ∈ lw_tbl := mx_t 557 (by decide +kernel)
theorem w_558 : (Jvm.Cond.methodLink "CurveSums" (210 : Nat) ({ cls := "CurveSums$Pad", name := "signsIn", desc := "(I)I" } : Jvm.MethodName)) ∈ lw_tbl := mx_t 558 (by decide +kernel)
theorem w_559 : (Jvm.Cond.static ({ cls := "CurveSums$Pad", name := "signsIn", desc := "(I)I" } : Jvm.MethodName)) ∈ lw_tbl := mx_t 559 (by decide +kernel)
theorem w_560 : (Jvm.Cond.code ({ cls := "CurveSums$Pad", name := "signsIn", desc := "(I)I" } : Jvm.MethodName) prog_6_method_3_code (3 : Nat) (Option.some Jvm.ClassFile.FieldType.int)) ∈ lw_tbl := mx_t 560 (by decide +kernel)
theorem w_561 : (Jvm.Cond.stringRef "CurveSums" (213 : Nat) "the pad has at most 100 signs") ∈ lw_tbl := mx_t 561 (by decide +kernel)
theorem w_562 : (Jvm.Cond.methodLink "CurveSums" (215 : Nat) ({ cls := "CurveSums$Pad", name := "append", desc := "(I)V" } : Jvm.MethodName)) ∈ lw_tbl := mx_t 562 (by decide +kernel)
theorem w_563 : (Jvm.Cond.instanceMethod ({ cls := "CurveSums$Pad", name := "append", desc := "(I)V" } : Jvm.MethodName)) ∈ lw_tbl := mx_t 563 (by decide +kernel)
theorem w_564 : (Jvm.Cond.selects "CurveSums$Pad" ({ cls := "CurveSums$Pad", name := "append", desc := "(I)V" } : Jvm.MethodName) ({ cls := "CurveSums$Pad", name := "append", desc := "(I)V" } : Jvm.MethodName)) ∈ lw_tbl := mx_t 564 (by decide +kernel)
theorem w_565 : (Jvm.Cond.code ({ cls := "CurveSums$Pad", name := "append", desc := "(I)V" } : Jvm.MethodName) prog_6_method_4_code (4 : Nat) (Option.none : Option Jvm.ClassFile.FieldType)) ∈ lw_tbl := mx_t 565 (by decide +kernel)
theorem w_566 : (Jvm.Cond.methodLink "CurveSumsLaw" (147 : Nat) ({ cls := "CurveSumsLaw", name := "count", desc := "(LCurveSums;I[J)I" } : Jvm.MethodName)) ∈ lw_tbl := mx_t 566 (by decide +kernel)
theorem w_567 : (Jvm.Cond.static ({ cls := "CurveSumsLaw", name := "count", desc := "(LCurveSums;I[J)I" } : Jvm.MethodName)) ∈ lw_tbl := mx_t 567 (by decide +kernel)
theorem w_568 : (Jvm.Cond.codeWith ({ cls := "CurveSumsLaw", name := "count", desc := "(LCurveSums;I[J)I" } : Jvm.MethodName) method_18_code (4 : Nat) (Option.some Jvm.ClassFile.FieldType.int) [((0 : Nat), (9 : Nat), (12 : Nat), (13 : Nat))]) ∈ lw_tbl := mx_t 568 (by decide +kernel)
theorem w_569 : (Jvm.Cond.methodLink "CurveSumsLaw" (67 : Nat) ({ cls := "CurveSums", name := "count", desc := "(I)I" } : Jvm.MethodName)) ∈ lw_tbl := mx_t 569 (by decide +kernel)
theorem w_570 : (Jvm.Cond.instanceMethod ({ cls := "CurveSums", name := "count", desc := "(I)I" } : Jvm.MethodName)) ∈ lw_tbl := mx_t 570 (by decide +kernel)
theorem w_571 : (Jvm.Cond.selects "CurveSums" ({ cls := "CurveSums", name := "count", desc := "(I)I" } : Jvm.MethodName) ({ cls := "CurveSums", name := "count", desc := "(I)I" } : Jvm.MethodName)) ∈ lw_tbl := mx_t 571 (by decide +kernel)
theorem w_572 : (Jvm.Cond.code ({ cls := "CurveSums", name := "count", desc := "(I)I" } : Jvm.MethodName) prog_1_method_20_code (2 : Nat) (Option.some Jvm.ClassFile.FieldType.int)) ∈ lw_tbl := mx_t 572 (by decide +kernel)
theorem w_573 : (Jvm.Cond.stringRef "CurveSums" (233 : Nat) "there is no such count") ∈ lw_tbl := mx_t 573 (by decide +kernel)
theorem w_574 : (Jvm.Cond.classLink "CurveSumsLaw" (78 : Nat) "CurveSumsModel") ∈ lw_tbl := mx_t 574 (by decide +kernel)
theorem w_575 : (Jvm.Cond.instantiable "CurveSumsModel" (23 : Nat)) ∈ lw_tbl := mx_t 575 (by decide +kernel)
theorem w_576 : (Jvm.Cond.methodLink "CurveSumsLaw" (80 : Nat) ({ cls := "CurveSumsModel", name := "<init>", desc := "(II)V" } : Jvm.MethodName)) ∈ lw_tbl := mx_t 576 (by decide +kernel)
theorem w_577 : (Jvm.Cond.instanceMethod ({ cls := "CurveSumsModel", name := "<init>", desc := "(II)V" } : Jvm.MethodName)) ∈ lw_tbl := mx_t 577 (by decide +kernel)
theorem w_578 : (Jvm.Cond.code ({ cls := "CurveSumsModel", name := "<init>", desc := "(II)V" } : Jvm.MethodName) prog_9_method_1_code (3 : Nat) (Option.none : Option Jvm.ClassFile.FieldType)) ∈ lw_tbl := mx_t 578 (by decide +kernel)
theorem w_579 : (Jvm.Cond.methodLink "CurveSumsModel" (1 : Nat) ({ cls := "java/lang/Object", name := "<init>", desc := "()V" } : Jvm.MethodName)) ∈ lw_tbl := mx_t 579 (by decide +kernel)
theorem w_580 : (Jvm.Cond.constant "CurveSumsModel" (54 : Nat) (65536 : Int32)) ∈ lw_tbl := mx_t 580 (by decide +kernel)
theorem w_581 : (Jvm.Cond.fieldLink "CurveSumsModel" (58 : Nat) "CurveSumsModel" "thrown" "I") ∈ lw_tbl := mx_t 581 (by decide +kernel)
theorem w_582 : (Jvm.Cond.fieldLink "CurveSumsModel" (51 : Nat) "CurveSumsModel" "years" "I") ∈ lw_tbl := mx_t 582 (by decide +kernel)
theorem w_583 : (Jvm.Cond.fieldLink "CurveSumsModel" (55 : Nat) "CurveSumsModel" "scale" "I") ∈ lw_tbl := mx_t 583 (by decide +kernel)
theorem w_584 : (Jvm.Cond.fieldLink "CurveSumsModel" (7 : Nat) "CurveSumsModel" "editions" "I") ∈ lw_tbl := mx_t 584 (by decide +kernel)
theorem w_585 : (Jvm.Cond.fieldLink "CurveSumsModel" (68 : Nat) "CurveSumsModel" "used" "I") ∈ lw_tbl := mx_t 585 (by decide +kernel)
theorem w_586 : (Jvm.Cond.fieldLink "CurveSumsModel" (13 : Nat) "CurveSumsModel" "ages" "[I") ∈ lw_tbl := mx_t 586 (by decide +kernel)
theorem w_587 : (Jvm.Cond.fieldLink "CurveSumsModel" (17 : Nat) "CurveSumsModel" "spreads" "[I") ∈ lw_tbl := mx_t 587 (by decide +kernel)
theorem w_588 : (Jvm.Cond.fieldLink "CurveSumsModel" (82 : Nat) "CurveSumsModel" "reservoirAge" "I") ∈ lw_tbl := mx_t 588 (by decide +kernel)
theorem w_589 : (Jvm.Cond.fieldLink "CurveSumsModel" (85 : Nat) "CurveSumsModel" "reservoirSpread" "I") ∈ lw_tbl := mx_t 589 (by decide +kernel)
theorem w_590 : (Jvm.Cond.fieldLink "CurveSumsModel" (65 : Nat) "CurveSumsModel" "dates" "I") ∈ lw_tbl := mx_t 590 (by decide +kernel)
theorem w_591 : (Jvm.Cond.fieldLink "CurveSumsModel" (20 : Nat) "CurveSumsModel" "weights" "[I") ∈ lw_tbl := mx_t 591 (by decide +kernel)
theorem w_592 : (Jvm.Cond.fieldLink "CurveSumsModel" (23 : Nat) "CurveSumsModel" "dateAges" "[I") ∈ lw_tbl := mx_t 592 (by decide +kernel)
theorem w_593 : (Jvm.Cond.fieldLink "CurveSumsModel" (26 : Nat) "CurveSumsModel" "dateSpreads" "[I") ∈ lw_tbl := mx_t 593 (by decide +kernel)
theorem w_594 : (Jvm.Cond.fieldLink "CurveSumsModel" (29 : Nat) "CurveSumsModel" "chosen" "[Z") ∈ lw_tbl := mx_t 594 (by decide +kernel)
theorem w_595 : (Jvm.Cond.fieldLink "CurveSumsModel" (115 : Nat) "CurveSumsModel" "many" "I") ∈ lw_tbl := mx_t 595 (by decide +kernel)
theorem w_596 : (Jvm.Cond.fieldLink "CurveSumsModel" (33 : Nat) "CurveSumsModel" "lined" "[I") ∈ lw_tbl := mx_t 596 (by decide +kernel)
theorem w_597 : (Jvm.Cond.fieldLink "CurveSumsModel" (36 : Nat) "CurveSumsModel" "gaps" "[I") ∈ lw_tbl := mx_t 597 (by decide +kernel)
theorem w_598 : (Jvm.Cond.fieldLink "CurveSumsModel" (121 : Nat) "CurveSumsModel" "padded" "I") ∈ lw_tbl := mx_t 598 (by decide +kernel)
theorem w_599 : (Jvm.Cond.fieldLink "CurveSumsModel" (39 : Nat) "CurveSumsModel" "pad" "[I") ∈ lw_tbl := mx_t 599 (by decide +kernel)
theorem w_600 : (Jvm.Cond.fieldLink "CurveSumsModel" (42 : Nat) "CurveSumsModel" "textYears" "[I") ∈ lw_tbl := mx_t 600 (by decide +kernel)
theorem w_601 : (Jvm.Cond.fieldLink "CurveSumsModel" (45 : Nat) "CurveSumsModel" "textAges" "[I") ∈ lw_tbl := mx_t 601 (by decide +kernel)
theorem w_602 : (Jvm.Cond.fieldLink "CurveSumsModel" (48 : Nat) "CurveSumsModel" "textSpreads" "[I") ∈ lw_tbl := mx_t 602 (by decide +kernel)
theorem w_603 : (Jvm.Cond.fieldLink "CurveSumsModel" (134 : Nat) "CurveSumsModel" "rows" "I") ∈ lw_tbl := mx_t 603 (by decide +kernel)
theorem w_604 : (Jvm.Cond.lays "CurveSumsModel" "CurveSumsModel" "thrown" "I") ∈ lw_tbl := mx_t 604 (by decide +kernel)
theorem w_605 : (Jvm.Cond.soleField "CurveSumsModel" "thrown") ∈ lw_tbl := mx_t 605 (by decide +kernel)
theorem w_606 : (Jvm.Cond.laysFinal "CurveSumsModel" "CurveSumsModel" "years" "I") ∈ lw_tbl := mx_t 606 (by decide +kernel)
theorem w_607 : (Jvm.Cond.soleField "CurveSumsModel" "years") ∈ lw_tbl := mx_t 607 (by decide +kernel)
theorem w_608 : (Jvm.Cond.laysFinal "CurveSumsModel" "CurveSumsModel" "scale" "I") ∈ lw_tbl := mx_t 608 (by decide +kernel)
theorem w_609 : (Jvm.Cond.soleField "CurveSumsModel" "scale") ∈ lw_tbl := mx_t 609 (by decide +kernel)
theorem w_610 : (Jvm.Cond.lays "CurveSumsModel" "CurveSumsModel" "editions" "I") ∈ lw_tbl := mx_t 610 (by decide +kernel)
theorem w_611 : (Jvm.Cond.soleField "CurveSumsModel" "editions") ∈ lw_tbl := mx_t 611 (by decide +kernel)
theorem w_612 : (Jvm.Cond.lays "CurveSumsModel" "CurveSumsModel" "used" "I") ∈ lw_tbl := mx_t 612 (by decide +kernel)
theorem w_613 : (Jvm.Cond.soleField "CurveSumsModel" "used") ∈ lw_tbl := mx_t 613 (by decide +kernel)
theorem w_614 : (Jvm.Cond.laysFinal "CurveSumsModel" "CurveSumsModel" "ages" "[I") ∈ lw_tbl := mx_t 614 (by decide +kernel)
theorem w_615 : (Jvm.Cond.soleField "CurveSumsModel" "ages") ∈ lw_tbl := mx_t 615 (by decide +kernel)
theorem w_616 : (Jvm.Cond.laysFinal "CurveSumsModel" "CurveSumsModel" "spreads" "[I") ∈ lw_tbl := mx_t 616 (by decide +kernel)
theorem w_617 : (Jvm.Cond.soleField "CurveSumsModel" "spreads") ∈ lw_tbl := mx_t 617 (by decide +kernel)
theorem w_618 : (Jvm.Cond.lays "CurveSumsModel" "CurveSumsModel" "reservoirAge" "I") ∈ lw_tbl := mx_t 618 (by decide +kernel)
theorem w_619 : (Jvm.Cond.soleField "CurveSumsModel" "reservoirAge") ∈ lw_tbl := mx_t 619 (by decide +kernel)
theorem w_620 : (Jvm.Cond.lays "CurveSumsModel" "CurveSumsModel" "reservoirSpread" "I") ∈ lw_tbl := mx_t 620 (by decide +kernel)
theorem w_621 : (Jvm.Cond.soleField "CurveSumsModel" "reservoirSpread") ∈ lw_tbl := mx_t 621 (by decide +kernel)
theorem w_622 : (Jvm.Cond.lays "CurveSumsModel" "CurveSumsModel" "dates" "I") ∈ lw_tbl := mx_t 622 (by decide +kernel)
theorem w_623 : (Jvm.Cond.soleField "CurveSumsModel" "dates") ∈ lw_tbl := mx_t 623 (by decide +kernel)
theorem w_624 : (Jvm.Cond.laysFinal "CurveSumsModel" "CurveSumsModel" "weights" "[I") ∈ lw_tbl := mx_t 624 (by decide +kernel)
theorem w_625 : (Jvm.Cond.soleField "CurveSumsModel" "weights") ∈ lw_tbl := mx_t 625 (by decide +kernel)
theorem w_626 : (Jvm.Cond.laysFinal "CurveSumsModel" "CurveSumsModel" "dateAges" "[I") ∈ lw_tbl := mx_t 626 (by decide +kernel)
theorem w_627 : (Jvm.Cond.soleField "CurveSumsModel" "dateAges") ∈ lw_tbl := mx_t 627 (by decide +kernel)
theorem w_628 : (Jvm.Cond.laysFinal "CurveSumsModel" "CurveSumsModel" "dateSpreads" "[I") ∈ lw_tbl := mx_t 628 (by decide +kernel)
theorem w_629 : (Jvm.Cond.soleField "CurveSumsModel" "dateSpreads") ∈ lw_tbl := mx_t 629 (by decide +kernel)
theorem w_630 : (Jvm.Cond.laysFinal "CurveSumsModel" "CurveSumsModel" "chosen" "[Z") ∈ lw_tbl := mx_t 630 (by decide +kernel)
theorem w_631 : (Jvm.Cond.soleField "CurveSumsModel" "chosen") ∈ lw_tbl := mx_t 631 (by decide +kernel)
theorem w_632 : (Jvm.Cond.lays "CurveSumsModel" "CurveSumsModel" "many" "I") ∈ lw_tbl := mx_t 632 (by decide +kernel)
theorem w_633 : (Jvm.Cond.soleField "CurveSumsModel" "many") ∈ lw_tbl := mx_t 633 (by decide +kernel)
theorem w_634 : (Jvm.Cond.laysFinal "CurveSumsModel" "CurveSumsModel" "lined" "[I") ∈ lw_tbl := mx_t 634 (by decide +kernel)
theorem w_635 : (Jvm.Cond.soleField "CurveSumsModel" "lined") ∈ lw_tbl := mx_t 635 (by decide +kernel)
theorem w_636 : (Jvm.Cond.laysFinal "CurveSumsModel" "CurveSumsModel" "gaps" "[I") ∈ lw_tbl := mx_t 636 (by decide +kernel)
theorem w_637 : (Jvm.Cond.soleField "CurveSumsModel" "gaps") ∈ lw_tbl := mx_t 637 (by decide +kernel)
theorem w_638 : (Jvm.Cond.lays "CurveSumsModel" "CurveSumsModel" "padded" "I") ∈ lw_tbl := mx_t 638 (by decide +kernel)
theorem w_639 : (Jvm.Cond.soleField "CurveSumsModel" "padded") ∈ lw_tbl := mx_t 639 (by decide +kernel)
theorem w_640 : (Jvm.Cond.laysFinal "CurveSumsModel" "CurveSumsModel" "pad" "[I") ∈ lw_tbl := mx_t 640 (by decide +kernel)
theorem w_641 : (Jvm.Cond.soleField "CurveSumsModel" "pad") ∈ lw_tbl := mx_t 641 (by decide +kernel)
theorem w_642 : (Jvm.Cond.laysFinal "CurveSumsModel" "CurveSumsModel" "textYears" "[I") ∈ lw_tbl := mx_t 642 (by decide +kernel)
theorem w_643 : (Jvm.Cond.soleField "CurveSumsModel" "textYears") ∈ lw_tbl := mx_t 643 (by decide +kernel)
theorem w_644 : (Jvm.Cond.laysFinal "CurveSumsModel" "CurveSumsModel" "textAges" "[I") ∈ lw_tbl := mx_t 644 (by decide +kernel)
theorem w_645 : (Jvm.Cond.soleField "CurveSumsModel" "textAges") ∈ lw_tbl := mx_t 645 (by decide +kernel)
theorem w_646 : (Jvm.Cond.laysFinal "CurveSumsModel" "CurveSumsModel" "textSpreads" "[I") ∈ lw_tbl := mx_t 646 (by decide +kernel)
theorem w_647 : (Jvm.Cond.soleField "CurveSumsModel" "textSpreads") ∈ lw_tbl := mx_t 647 (by decide +kernel)
theorem w_648 : (Jvm.Cond.lays "CurveSumsModel" "CurveSumsModel" "rows" "I") ∈ lw_tbl := mx_t 648 (by decide +kernel)
theorem w_649 : (Jvm.Cond.soleField "CurveSumsModel" "rows") ∈ lw_tbl := mx_t 649 (by decide +kernel)
theorem w_650 : (Jvm.Cond.superclass "CurveSumsModel" "java/lang/Object") ∈ lw_tbl := mx_t 650 (by decide +kernel)
theorem w_651 : (Jvm.Cond.methodLink "CurveSumsLaw" (85 : Nat) ({ cls := "CurveSumsModel", name := "thrown", desc := "()I" } : Jvm.MethodName)) ∈ lw_tbl := mx_t 651 (by decide +kernel)
theorem w_652 : (Jvm.Cond.instanceMethod ({ cls := "CurveSumsModel", name := "thrown", desc := "()I" } : Jvm.MethodName)) ∈ lw_tbl := mx_t 652 (by decide +kernel)
theorem w_653 : (Jvm.Cond.selects "CurveSumsModel" ({ cls := "CurveSumsModel", name := "thrown", desc := "()I" } : Jvm.MethodName) ({ cls := "CurveSumsModel", name := "thrown", desc := "()I" } : Jvm.MethodName)) ∈ lw_tbl := mx_t 653 (by decide +kernel)
theorem w_654 : (Jvm.Cond.code ({ cls := "CurveSumsModel", name := "thrown", desc := "()I" } : Jvm.MethodName) prog_9_method_2_code (1 : Nat) (Option.some Jvm.ClassFile.FieldType.int)) ∈ lw_tbl := mx_t 654 (by decide +kernel)
theorem w_655 : (Jvm.Cond.methodLink "CurveSumsLaw" (84 : Nat) ({ cls := "CurveSumsModel", name := "curve", desc := "(III)Z" } : Jvm.MethodName)) ∈ lw_tbl := mx_t 655 (by decide +kernel)
theorem w_656 : (Jvm.Cond.instanceMethod ({ cls := "CurveSumsModel", name := "curve", desc := "(III)Z" } : Jvm.MethodName)) ∈ lw_tbl := mx_t 656 (by decide +kernel)
theorem w_657 : (Jvm.Cond.selects "CurveSumsModel" ({ cls := "CurveSumsModel", name := "curve", desc := "(III)Z" } : Jvm.MethodName) ({ cls := "CurveSumsModel", name := "curve", desc := "(III)Z" } : Jvm.MethodName)) ∈ lw_tbl := mx_t 657 (by decide +kernel)
theorem w_658 : (Jvm.Cond.code ({ cls := "CurveSumsModel", name := "curve", desc := "(III)Z" } : Jvm.MethodName) prog_9_method_8_code (4 : Nat) (Option.some Jvm.ClassFile.FieldType.boolean)) ∈ lw_tbl := mx_t 658 (by decide +kernel)
theorem w_659 : (Jvm.Cond.methodLink "CurveSumsModel" (71 : Nat) ({ cls := "CurveSumsModel", name := "isYear", desc := "(I)Z" } : Jvm.MethodName)) ∈ lw_tbl := mx_t 659 (by decide +kernel)
theorem w_660 : (Jvm.Cond.privateMethod ({ cls := "CurveSumsModel", name := "isYear", desc := "(I)Z" } : Jvm.MethodName)) ∈ lw_tbl := mx_t 660 (by decide +kernel)
theorem w_661 : (Jvm.Cond.instanceMethod ({ cls := "CurveSumsModel", name := "isYear", desc := "(I)Z" } : Jvm.MethodName)) ∈ lw_tbl := mx_t 661 (by decide +kernel)
theorem w_662 : (Jvm.Cond.code ({ cls := "CurveSumsModel", name := "isYear", desc := "(I)Z" } : Jvm.MethodName) prog_9_method_5_code (2 : Nat) (Option.some Jvm.ClassFile.FieldType.boolean)) ∈ lw_tbl := mx_t 662 (by decide +kernel)
theorem w_663 : (Jvm.Cond.methodLink "CurveSumsModel" (61 : Nat) ({ cls := "CurveSumsModel", name := "within", desc := "(III)Z" } : Jvm.MethodName)) ∈ lw_tbl := mx_t 663 (by decide +kernel)
theorem w_664 : (Jvm.Cond.static ({ cls := "CurveSumsModel", name := "within", desc := "(III)Z" } : Jvm.MethodName)) ∈ lw_tbl := mx_t 664 (by decide +kernel)
theorem w_665 : (Jvm.Cond.code ({ cls := "CurveSumsModel", name := "within", desc := "(III)Z" } : Jvm.MethodName) prog_9_method_4_code (3 : Nat) (Option.some Jvm.ClassFile.FieldType.boolean)) ∈ lw_tbl := mx_t 665 (by decide +kernel)
theorem w_666 : (Jvm.Cond.methodLink "CurveSumsModel" (75 : Nat) ({ cls := "CurveSumsModel", name := "goes", desc := "(ZZZ)Z" } : Jvm.MethodName)) ∈ lw_tbl := mx_t 666 (by decide +kernel)
theorem w_667 : (Jvm.Cond.privateMethod ({ cls := "CurveSumsModel", name := "goes", desc := "(ZZZ)Z" } : Jvm.MethodName)) ∈ lw_tbl := mx_t 667 (by decide +kernel)
theorem w_668 : (Jvm.Cond.instanceMethod ({ cls := "CurveSumsModel", name := "goes", desc := "(ZZZ)Z" } : Jvm.MethodName)) ∈ lw_tbl := mx_t 668 (by decide +kernel)
theorem w_669 : (Jvm.Cond.code ({ cls := "CurveSumsModel", name := "goes", desc := "(ZZZ)Z" } : Jvm.MethodName) prog_9_method_3_code (4 : Nat) (Option.some Jvm.ClassFile.FieldType.boolean)) ∈ lw_tbl := mx_t 669 (by decide +kernel)
theorem w_670 : (Jvm.Cond.methodLink "CurveSumsModel" (79 : Nat) ({ cls := "CurveSumsModel", name := "put", desc := "(III)Z" } : Jvm.MethodName)) ∈ lw_tbl := mx_t 670 (by decide +kernel)
theorem w_671 : (Jvm.Cond.privateMethod ({ cls := "CurveSumsModel", name := "put", desc := "(III)Z" } : Jvm.MethodName)) ∈ lw_tbl := mx_t 671 (by decide +kernel)
theorem w_672 : (Jvm.Cond.instanceMethod ({ cls := "CurveSumsModel", name := "put", desc := "(III)Z" } : Jvm.MethodName)) ∈ lw_tbl := mx_t 672 (by decide +kernel)
theorem w_673 : (Jvm.Cond.code ({ cls := "CurveSumsModel", name := "put", desc := "(III)Z" } : Jvm.MethodName) prog_9_method_7_code (5 : Nat) (Option.some Jvm.ClassFile.FieldType.boolean)) ∈ lw_tbl := mx_t 673 (by decide +kernel)
theorem w_674 : (Jvm.Cond.methodLink "CurveSumsLaw" (91 : Nat) ({ cls := "CurveSumsModel", name := "edition", desc := "()I" } : Jvm.MethodName)) ∈ lw_tbl := mx_t 674 (by decide +kernel)
theorem w_675 : (Jvm.Cond.instanceMethod ({ cls := "CurveSumsModel", name := "edition", desc := "()I" } : Jvm.MethodName)) ∈ lw_tbl := mx_t 675 (by decide +kernel)
theorem w_676 : (Jvm.Cond.selects "CurveSumsModel" ({ cls := "CurveSumsModel", name := "edition", desc := "()I" } : Jvm.MethodName) ({ cls := "CurveSumsModel", name := "edition", desc := "()I" } : Jvm.MethodName)) ∈ lw_tbl := mx_t 676 (by decide +kernel)
theorem w_677 : (Jvm.Cond.code ({ cls := "CurveSumsModel", name := "edition", desc := "()I" } : Jvm.MethodName) prog_9_method_9_code (2 : Nat) (Option.some Jvm.ClassFile.FieldType.int)) ∈ lw_tbl := mx_t 677 (by decide +kernel)
theorem w_678 : (Jvm.Cond.methodLink "CurveSumsLaw" (95 : Nat) ({ cls := "CurveSumsModel", name := "use", desc := "(I)I" } : Jvm.MethodName)) ∈ lw_tbl := mx_t 678 (by decide +kernel)
theorem w_679 : (Jvm.Cond.instanceMethod ({ cls := "CurveSumsModel", name := "use", desc := "(I)I" } : Jvm.MethodName)) ∈ lw_tbl := mx_t 679 (by decide +kernel)
theorem w_680 : (Jvm.Cond.selects "CurveSumsModel" ({ cls := "CurveSumsModel", name := "use", desc := "(I)I" } : Jvm.MethodName) ({ cls := "CurveSumsModel", name := "use", desc := "(I)I" } : Jvm.MethodName)) ∈ lw_tbl := mx_t 680 (by decide +kernel)
theorem w_681 : (Jvm.Cond.code ({ cls := "CurveSumsModel", name := "use", desc := "(I)I" } : Jvm.MethodName) prog_9_method_10_code (3 : Nat) (Option.some Jvm.ClassFile.FieldType.int)) ∈ lw_tbl := mx_t 681 (by decide +kernel)
theorem w_682 : (Jvm.Cond.methodLink "CurveSumsLaw" (99 : Nat) ({ cls := "CurveSumsModel", name := "reservoir", desc := "(II)V" } : Jvm.MethodName)) ∈ lw_tbl := mx_t 682 (by decide +kernel)
theorem w_683 : (Jvm.Cond.instanceMethod ({ cls := "CurveSumsModel", name := "reservoir", desc := "(II)V" } : Jvm.MethodName)) ∈ lw_tbl := mx_t 683 (by decide +kernel)
theorem w_684 : (Jvm.Cond.selects "CurveSumsModel" ({ cls := "CurveSumsModel", name := "reservoir", desc := "(II)V" } : Jvm.MethodName) ({ cls := "CurveSumsModel", name := "reservoir", desc := "(II)V" } : Jvm.MethodName)) ∈ lw_tbl := mx_t 684 (by decide +kernel)
theorem w_685 : (Jvm.Cond.code ({ cls := "CurveSumsModel", name := "reservoir", desc := "(II)V" } : Jvm.MethodName) prog_9_method_11_code (3 : Nat) (Option.none : Option Jvm.ClassFile.FieldType)) ∈ lw_tbl := mx_t 685 (by decide +kernel)
theorem w_686 : (Jvm.Cond.methodLink "CurveSumsLaw" (103 : Nat) ({ cls := "CurveSumsModel", name := "date", desc := "(II)I" } : Jvm.MethodName)) ∈ lw_tbl := mx_t 686 (by decide +kernel)
theorem w_687 : (Jvm.Cond.instanceMethod ({ cls := "CurveSumsModel", name := "date", desc := "(II)I" } : Jvm.MethodName)) ∈ lw_tbl := mx_t 687 (by decide +kernel)
theorem w_688 : (Jvm.Cond.selects "CurveSumsModel" ({ cls := "CurveSumsModel", name := "date", desc := "(II)I" } : Jvm.MethodName) ({ cls := "CurveSumsModel", name := "date", desc := "(II)I" } : Jvm.MethodName)) ∈ lw_tbl := mx_t 688 (by decide +kernel)
theorem w_689 : (Jvm.Cond.code ({ cls := "CurveSumsModel", name := "date", desc := "(II)I" } : Jvm.MethodName) prog_9_method_14_code (3 : Nat) (Option.some Jvm.ClassFile.FieldType.int)) ∈ lw_tbl := mx_t 689 (by decide +kernel)
theorem w_690 : (Jvm.Cond.methodLink "CurveSumsModel" (92 : Nat) ({ cls := "CurveSumsModel", name := "measure", desc := "(II)I" } : Jvm.MethodName)) ∈ lw_tbl := mx_t 690 (by decide +kernel)
theorem w_691 : (Jvm.Cond.privateMethod ({ cls := "CurveSumsModel", name := "measure", desc := "(II)I" } : Jvm.MethodName)) ∈ lw_tbl := mx_t 691 (by decide +kernel)
theorem w_692 : (Jvm.Cond.instanceMethod ({ cls := "CurveSumsModel", name := "measure", desc := "(II)I" } : Jvm.MethodName)) ∈ lw_tbl := mx_t 692 (by decide +kernel)
theorem w_693 : (Jvm.Cond.code ({ cls := "CurveSumsModel", name := "measure", desc := "(II)I" } : Jvm.MethodName) prog_9_method_13_code (4 : Nat) (Option.some Jvm.ClassFile.FieldType.int)) ∈ lw_tbl := mx_t 693 (by decide +kernel)
theorem w_694 : (Jvm.Cond.methodLink "CurveSumsModel" (88 : Nat) ({ cls := "CurveSumsModel", name := "weigh", desc := "(III)I" } : Jvm.MethodName)) ∈ lw_tbl := mx_t 694 (by decide +kernel)
theorem w_695 : (Jvm.Cond.privateMethod ({ cls := "CurveSumsModel", name := "weigh", desc := "(III)I" } : Jvm.MethodName)) ∈ lw_tbl := mx_t 695 (by decide +kernel)
theorem w_696 : (Jvm.Cond.instanceMethod ({ cls := "CurveSumsModel", name := "weigh", desc := "(III)I" } : Jvm.MethodName)) ∈ lw_tbl := mx_t 696 (by decide +kernel)
theorem w_697 : (Jvm.Cond.code ({ cls := "CurveSumsModel", name := "weigh", desc := "(III)I" } : Jvm.MethodName) prog_9_method_12_code (11 : Nat) (Option.some Jvm.ClassFile.FieldType.int)) ∈ lw_tbl := mx_t 697 (by decide +kernel)
theorem w_698 : (Jvm.Cond.methodLink "CurveSumsLaw" (106 : Nat) ({ cls := "CurveSumsModel", name := "weight", desc := "(II)I" } : Jvm.MethodName)) ∈ lw_tbl := mx_t 698 (by decide +kernel)
theorem w_699 : (Jvm.Cond.instanceMethod ({ cls := "CurveSumsModel", name := "weight", desc := "(II)I" } : Jvm.MethodName)) ∈ lw_tbl := mx_t 699 (by decide +kernel)
theorem w_700 : (Jvm.Cond.selects "CurveSumsModel" ({ cls := "CurveSumsModel", name := "weight", desc := "(II)I" } : Jvm.MethodName) ({ cls := "CurveSumsModel", name := "weight", desc := "(II)I" } : Jvm.MethodName)) ∈ lw_tbl := mx_t 700 (by decide +kernel)
theorem w_701 : (Jvm.Cond.code ({ cls := "CurveSumsModel", name := "weight", desc := "(II)I" } : Jvm.MethodName) prog_9_method_15_code (3 : Nat) (Option.some Jvm.ClassFile.FieldType.int)) ∈ lw_tbl := mx_t 701 (by decide +kernel)
theorem w_702 : (Jvm.Cond.methodLink "CurveSumsModel" (96 : Nat) ({ cls := "CurveSumsModel", name := "isDate", desc := "(I)Z" } : Jvm.MethodName)) ∈ lw_tbl := mx_t 702 (by decide +kernel)
theorem w_703 : (Jvm.Cond.privateMethod ({ cls := "CurveSumsModel", name := "isDate", desc := "(I)Z" } : Jvm.MethodName)) ∈ lw_tbl := mx_t 703 (by decide +kernel)
theorem w_704 : (Jvm.Cond.instanceMethod ({ cls := "CurveSumsModel", name := "isDate", desc := "(I)Z" } : Jvm.MethodName)) ∈ lw_tbl := mx_t 704 (by decide +kernel)
theorem w_705 : (Jvm.Cond.code ({ cls := "CurveSumsModel", name := "isDate", desc := "(I)Z" } : Jvm.MethodName) prog_9_method_6_code (2 : Nat) (Option.some Jvm.ClassFile.FieldType.boolean)) ∈ lw_tbl := mx_t 705 (by decide +kernel)
theorem w_706 : (Jvm.Cond.methodLink "CurveSumsLaw" (109 : Nat) ({ cls := "CurveSumsModel", name := "total", desc := "(I)I" } : Jvm.MethodName)) ∈ lw_tbl := mx_t 706 (by decide +kernel)
theorem w_707 : (Jvm.Cond.instanceMethod ({ cls := "CurveSumsModel", name := "total", desc := "(I)I" } : Jvm.MethodName)) ∈ lw_tbl := mx_t 707 (by decide +kernel)
theorem w_708 : (Jvm.Cond.selects "CurveSumsModel" ({ cls := "CurveSumsModel", name := "total", desc := "(I)I" } : Jvm.MethodName) ({ cls := "CurveSumsModel", name := "total", desc := "(I)I" } : Jvm.MethodName)) ∈ lw_tbl := mx_t 708 (by decide +kernel)
theorem w_709 : (Jvm.Cond.code ({ cls := "CurveSumsModel", name := "total", desc := "(I)I" } : Jvm.MethodName) prog_9_method_17_code (2 : Nat) (Option.some Jvm.ClassFile.FieldType.int)) ∈ lw_tbl := mx_t 709 (by decide +kernel)
theorem w_710 : (Jvm.Cond.methodLink "CurveSumsModel" (99 : Nat) ({ cls := "CurveSumsModel", name := "totalOf", desc := "(I)I" } : Jvm.MethodName)) ∈ lw_tbl := mx_t 710 (by decide +kernel)
theorem w_711 : (Jvm.Cond.privateMethod ({ cls := "CurveSumsModel", name := "totalOf", desc := "(I)I" } : Jvm.MethodName)) ∈ lw_tbl := mx_t 711 (by decide +kernel)
theorem w_712 : (Jvm.Cond.instanceMethod ({ cls := "CurveSumsModel", name := "totalOf", desc := "(I)I" } : Jvm.MethodName)) ∈ lw_tbl := mx_t 712 (by decide +kernel)
theorem w_713 : (Jvm.Cond.code ({ cls := "CurveSumsModel", name := "totalOf", desc := "(I)I" } : Jvm.MethodName) prog_9_method_16_code (4 : Nat) (Option.some Jvm.ClassFile.FieldType.int)) ∈ lw_tbl := mx_t 713 (by decide +kernel)
theorem w_714 : (Jvm.Cond.methodLink "CurveSumsLaw" (112 : Nat) ({ cls := "CurveSumsModel", name := "sum", desc := "(II)I" } : Jvm.MethodName)) ∈ lw_tbl := mx_t 714 (by decide +kernel)
theorem w_715 : (Jvm.Cond.instanceMethod ({ cls := "CurveSumsModel", name := "sum", desc := "(II)I" } : Jvm.MethodName)) ∈ lw_tbl := mx_t 715 (by decide +kernel)
theorem w_716 : (Jvm.Cond.selects "CurveSumsModel" ({ cls := "CurveSumsModel", name := "sum", desc := "(II)I" } : Jvm.MethodName) ({ cls := "CurveSumsModel", name := "sum", desc := "(II)I" } : Jvm.MethodName)) ∈ lw_tbl := mx_t 716 (by decide +kernel)
theorem w_717 : (Jvm.Cond.code ({ cls := "CurveSumsModel", name := "sum", desc := "(II)I" } : Jvm.MethodName) prog_9_method_18_code (5 : Nat) (Option.some Jvm.ClassFile.FieldType.int)) ∈ lw_tbl := mx_t 717 (by decide +kernel)
theorem w_718 : (Jvm.Cond.constant "CurveSumsModel" (103 : Nat) (1000000 : Int32)) ∈ lw_tbl := mx_t 718 (by decide +kernel)
theorem w_719 : (Jvm.Cond.methodLink "CurveSumsLaw" (116 : Nat) ({ cls := "CurveSumsModel", name := "mix", desc := "(IIII)I" } : Jvm.MethodName)) ∈ lw_tbl := mx_t 719 (by decide +kernel)
theorem w_720 : (Jvm.Cond.instanceMethod ({ cls := "CurveSumsModel", name := "mix", desc := "(IIII)I" } : Jvm.MethodName)) ∈ lw_tbl := mx_t 720 (by decide +kernel)
theorem w_721 : (Jvm.Cond.selects "CurveSumsModel" ({ cls := "CurveSumsModel", name := "mix", desc := "(IIII)I" } : Jvm.MethodName) ({ cls := "CurveSumsModel", name := "mix", desc := "(IIII)I" } : Jvm.MethodName)) ∈ lw_tbl := mx_t 721 (by decide +kernel)
theorem w_722 : (Jvm.Cond.code ({ cls := "CurveSumsModel", name := "mix", desc := "(IIII)I" } : Jvm.MethodName) prog_9_method_19_code (8 : Nat) (Option.some Jvm.ClassFile.FieldType.int)) ∈ lw_tbl := mx_t 722 (by decide +kernel)
theorem w_723 : (Jvm.Cond.methodLink "CurveSumsLaw" (119 : Nat) ({ cls := "CurveSumsModel", name := "joinRepeats", desc := "(II)I" } : Jvm.MethodName)) ∈ lw_tbl := mx_t 723 (by decide +kernel)
theorem w_724 : (Jvm.Cond.instanceMethod ({ cls := "CurveSumsModel", name := "joinRepeats", desc := "(II)I" } : Jvm.MethodName)) ∈ lw_tbl := mx_t 724 (by decide +kernel)
theorem w_725 : (Jvm.Cond.selects "CurveSumsModel" ({ cls := "CurveSumsModel", name := "joinRepeats", desc := "(II)I" } : Jvm.MethodName) ({ cls := "CurveSumsModel", name := "joinRepeats", desc := "(II)I" } : Jvm.MethodName)) ∈ lw_tbl := mx_t 725 (by decide +kernel)
theorem w_726 : (Jvm.Cond.code ({ cls := "CurveSumsModel", name := "joinRepeats", desc := "(II)I" } : Jvm.MethodName) prog_9_method_20_code (9 : Nat) (Option.some Jvm.ClassFile.FieldType.int)) ∈ lw_tbl := mx_t 726 (by decide +kernel)
theorem w_727 : (Jvm.Cond.methodLink "CurveSumsLaw" (122 : Nat) ({ cls := "CurveSumsModel", name := "least", desc := "(III)I" } : Jvm.MethodName)) ∈ lw_tbl := mx_t 727 (by decide +kernel)
theorem w_728 : (Jvm.Cond.instanceMethod ({ cls := "CurveSumsModel", name := "least", desc := "(III)I" } : Jvm.MethodName)) ∈ lw_tbl := mx_t 728 (by decide +kernel)
theorem w_729 : (Jvm.Cond.selects "CurveSumsModel" ({ cls := "CurveSumsModel", name := "least", desc := "(III)I" } : Jvm.MethodName) ({ cls := "CurveSumsModel", name := "least", desc := "(III)I" } : Jvm.MethodName)) ∈ lw_tbl := mx_t 729 (by decide +kernel)
theorem w_730 : (Jvm.Cond.code ({ cls := "CurveSumsModel", name := "least", desc := "(III)I" } : Jvm.MethodName) prog_9_method_24_code (5 : Nat) (Option.some Jvm.ClassFile.FieldType.int)) ∈ lw_tbl := mx_t 730 (by decide +kernel)
theorem w_731 : (Jvm.Cond.methodLink "CurveSumsModel" (107 : Nat) ({ cls := "CurveSumsModel", name := "isNeeded", desc := "(IIII)Z" } : Jvm.MethodName)) ∈ lw_tbl := mx_t 731 (by decide +kernel)
theorem w_732 : (Jvm.Cond.privateMethod ({ cls := "CurveSumsModel", name := "isNeeded", desc := "(IIII)Z" } : Jvm.MethodName)) ∈ lw_tbl := mx_t 732 (by decide +kernel)
theorem w_733 : (Jvm.Cond.instanceMethod ({ cls := "CurveSumsModel", name := "isNeeded", desc := "(IIII)Z" } : Jvm.MethodName)) ∈ lw_tbl := mx_t 733 (by decide +kernel)
theorem w_734 : (Jvm.Cond.code ({ cls := "CurveSumsModel", name := "isNeeded", desc := "(IIII)Z" } : Jvm.MethodName) prog_9_method_21_code (10 : Nat) (Option.some Jvm.ClassFile.FieldType.boolean)) ∈ lw_tbl := mx_t 734 (by decide +kernel)
theorem w_735 : (Jvm.Cond.methodLink "CurveSumsModel" (111 : Nat) ({ cls := "CurveSumsModel", name := "spans", desc := "()I" } : Jvm.MethodName)) ∈ lw_tbl := mx_t 735 (by decide +kernel)
theorem w_736 : (Jvm.Cond.privateMethod ({ cls := "CurveSumsModel", name := "spans", desc := "()I" } : Jvm.MethodName)) ∈ lw_tbl := mx_t 736 (by decide +kernel)
theorem w_737 : (Jvm.Cond.instanceMethod ({ cls := "CurveSumsModel", name := "spans", desc := "()I" } : Jvm.MethodName)) ∈ lw_tbl := mx_t 737 (by decide +kernel)
theorem w_738 : (Jvm.Cond.code ({ cls := "CurveSumsModel", name := "spans", desc := "()I" } : Jvm.MethodName) prog_9_method_23_code (3 : Nat) (Option.some Jvm.ClassFile.FieldType.int)) ∈ lw_tbl := mx_t 738 (by decide +kernel)
theorem w_739 : (Jvm.Cond.methodLink "CurveSumsModel" (104 : Nat) ({ cls := "CurveSumsModel", name := "begins", desc := "(I)Z" } : Jvm.MethodName)) ∈ lw_tbl := mx_t 739 (by decide +kernel)
theorem w_740 : (Jvm.Cond.privateMethod ({ cls := "CurveSumsModel", name := "begins", desc := "(I)Z" } : Jvm.MethodName)) ∈ lw_tbl := mx_t 740 (by decide +kernel)
theorem w_741 : (Jvm.Cond.instanceMethod ({ cls := "CurveSumsModel", name := "begins", desc := "(I)Z" } : Jvm.MethodName)) ∈ lw_tbl := mx_t 741 (by decide +kernel)
theorem w_742 : (Jvm.Cond.code ({ cls := "CurveSumsModel", name := "begins", desc := "(I)Z" } : Jvm.MethodName) prog_9_method_22_code (2 : Nat) (Option.some Jvm.ClassFile.FieldType.boolean)) ∈ lw_tbl := mx_t 742 (by decide +kernel)
theorem w_743 : (Jvm.Cond.methodLink "CurveSumsLaw" (125 : Nat) ({ cls := "CurveSumsModel", name := "span", desc := "(II)I" } : Jvm.MethodName)) ∈ lw_tbl := mx_t 743 (by decide +kernel)
theorem w_744 : (Jvm.Cond.instanceMethod ({ cls := "CurveSumsModel", name := "span", desc := "(II)I" } : Jvm.MethodName)) ∈ lw_tbl := mx_t 744 (by decide +kernel)
theorem w_745 : (Jvm.Cond.selects "CurveSumsModel" ({ cls := "CurveSumsModel", name := "span", desc := "(II)I" } : Jvm.MethodName) ({ cls := "CurveSumsModel", name := "span", desc := "(II)I" } : Jvm.MethodName)) ∈ lw_tbl := mx_t 745 (by decide +kernel)
theorem w_746 : (Jvm.Cond.code ({ cls := "CurveSumsModel", name := "span", desc := "(II)I" } : Jvm.MethodName) prog_9_method_25_code (5 : Nat) (Option.some Jvm.ClassFile.FieldType.int)) ∈ lw_tbl := mx_t 746 (by decide +kernel)
theorem w_747 : (Jvm.Cond.methodLink "CurveSumsLaw" (128 : Nat) ({ cls := "CurveSumsModel", name := "gap", desc := "(II)I" } : Jvm.MethodName)) ∈ lw_tbl := mx_t 747 (by decide +kernel)
theorem w_748 : (Jvm.Cond.instanceMethod ({ cls := "CurveSumsModel", name := "gap", desc := "(II)I" } : Jvm.MethodName)) ∈ lw_tbl := mx_t 748 (by decide +kernel)
theorem w_749 : (Jvm.Cond.selects "CurveSumsModel" ({ cls := "CurveSumsModel", name := "gap", desc := "(II)I" } : Jvm.MethodName) ({ cls := "CurveSumsModel", name := "gap", desc := "(II)I" } : Jvm.MethodName)) ∈ lw_tbl := mx_t 749 (by decide +kernel)
theorem w_750 : (Jvm.Cond.code ({ cls := "CurveSumsModel", name := "gap", desc := "(II)I" } : Jvm.MethodName) prog_9_method_26_code (3 : Nat) (Option.some Jvm.ClassFile.FieldType.int)) ∈ lw_tbl := mx_t 750 (by decide +kernel)
theorem w_751 : (Jvm.Cond.methodLink "CurveSumsLaw" (131 : Nat) ({ cls := "CurveSumsModel", name := "slid", desc := "(I)I" } : Jvm.MethodName)) ∈ lw_tbl := mx_t 751 (by decide +kernel)
theorem w_752 : (Jvm.Cond.instanceMethod ({ cls := "CurveSumsModel", name := "slid", desc := "(I)I" } : Jvm.MethodName)) ∈ lw_tbl := mx_t 752 (by decide +kernel)
theorem w_753 : (Jvm.Cond.selects "CurveSumsModel" ({ cls := "CurveSumsModel", name := "slid", desc := "(I)I" } : Jvm.MethodName) ({ cls := "CurveSumsModel", name := "slid", desc := "(I)I" } : Jvm.MethodName)) ∈ lw_tbl := mx_t 753 (by decide +kernel)
theorem w_754 : (Jvm.Cond.code ({ cls := "CurveSumsModel", name := "slid", desc := "(I)I" } : Jvm.MethodName) prog_9_method_28_code (2 : Nat) (Option.some Jvm.ClassFile.FieldType.int)) ∈ lw_tbl := mx_t 754 (by decide +kernel)
theorem w_755 : (Jvm.Cond.methodLink "CurveSumsModel" (118 : Nat) ({ cls := "CurveSumsModel", name := "slidTo", desc := "(I)I" } : Jvm.MethodName)) ∈ lw_tbl := mx_t 755 (by decide +kernel)
theorem w_756 : (Jvm.Cond.privateMethod ({ cls := "CurveSumsModel", name := "slidTo", desc := "(I)I" } : Jvm.MethodName)) ∈ lw_tbl := mx_t 756 (by decide +kernel)
theorem w_757 : (Jvm.Cond.instanceMethod ({ cls := "CurveSumsModel", name := "slidTo", desc := "(I)I" } : Jvm.MethodName)) ∈ lw_tbl := mx_t 757 (by decide +kernel)
theorem w_758 : (Jvm.Cond.code ({ cls := "CurveSumsModel", name := "slidTo", desc := "(I)I" } : Jvm.MethodName) prog_9_method_27_code (5 : Nat) (Option.some Jvm.ClassFile.FieldType.int)) ∈ lw_tbl := mx_t 758 (by decide +kernel)
theorem w_759 : (Jvm.Cond.methodLink "CurveSumsLaw" (135 : Nat) ({ cls := "CurveSumsModel", name := "wiggle", desc := "()I" } : Jvm.MethodName)) ∈ lw_tbl := mx_t 759 (by decide +kernel)
theorem w_760 : (Jvm.Cond.instanceMethod ({ cls := "CurveSumsModel", name := "wiggle", desc := "()I" } : Jvm.MethodName)) ∈ lw_tbl := mx_t 760 (by decide +kernel)
theorem w_761 : (Jvm.Cond.selects "CurveSumsModel" ({ cls := "CurveSumsModel", name := "wiggle", desc := "()I" } : Jvm.MethodName) ({ cls := "CurveSumsModel", name := "wiggle", desc := "()I" } : Jvm.MethodName)) ∈ lw_tbl := mx_t 761 (by decide +kernel)
theorem w_762 : (Jvm.Cond.code ({ cls := "CurveSumsModel", name := "wiggle", desc := "()I" } : Jvm.MethodName) prog_9_method_29_code (3 : Nat) (Option.some Jvm.ClassFile.FieldType.int)) ∈ lw_tbl := mx_t 762 (by decide +kernel)
theorem w_763 : (Jvm.Cond.methodLink "CurveSumsLaw" (139 : Nat) ({ cls := "CurveSumsModel", name := "clear", desc := "()I" } : Jvm.MethodName)) ∈ lw_tbl := mx_t 763 (by decide +kernel)
theorem w_764 : (Jvm.Cond.instanceMethod ({ cls := "CurveSumsModel", name := "clear", desc := "()I" } : Jvm.MethodName)) ∈ lw_tbl := mx_t 764 (by decide +kernel)
theorem w_765 : (Jvm.Cond.selects "CurveSumsModel" ({ cls := "CurveSumsModel", name := "clear", desc := "()I" } : Jvm.MethodName) ({ cls := "CurveSumsModel", name := "clear", desc := "()I" } : Jvm.MethodName)) ∈ lw_tbl := mx_t 765 (by decide +kernel)
theorem w_766 : (Jvm.Cond.code ({ cls := "CurveSumsModel", name := "clear", desc := "()I" } : Jvm.MethodName) prog_9_method_30_code (2 : Nat) (Option.some Jvm.ClassFile.FieldType.int)) ∈ lw_tbl := mx_t 766 (by decide +kernel)
theorem w_767 : (Jvm.Cond.methodLink "CurveSumsLaw" (142 : Nat) ({ cls := "CurveSumsModel", name := "unit", desc := "(II)I" } : Jvm.MethodName)) ∈ lw_tbl := mx_t 767 (by decide +kernel)
theorem w_768 : (Jvm.Cond.instanceMethod ({ cls := "CurveSumsModel", name := "unit", desc := "(II)I" } : Jvm.MethodName)) ∈ lw_tbl := mx_t 768 (by decide +kernel)
theorem w_769 : (Jvm.Cond.selects "CurveSumsModel" ({ cls := "CurveSumsModel", name := "unit", desc := "(II)I" } : Jvm.MethodName) ({ cls := "CurveSumsModel", name := "unit", desc := "(II)I" } : Jvm.MethodName)) ∈ lw_tbl := mx_t 769 (by decide +kernel)
theorem w_770 : (Jvm.Cond.code ({ cls := "CurveSumsModel", name := "unit", desc := "(II)I" } : Jvm.MethodName) prog_9_method_34_code (3 : Nat) (Option.some Jvm.ClassFile.FieldType.int)) ∈ lw_tbl := mx_t 770 (by decide +kernel)
theorem w_771 : (Jvm.Cond.methodLink "CurveSumsModel" (124 : Nat) ({ cls := "CurveSumsModel", name := "plain", desc := "(I)Z" } : Jvm.MethodName)) ∈ lw_tbl := mx_t 771 (by decide +kernel)
theorem w_772 : (Jvm.Cond.static ({ cls := "CurveSumsModel", name := "plain", desc := "(I)Z" } : Jvm.MethodName)) ∈ lw_tbl := mx_t 772 (by decide +kernel)
theorem w_773 : (Jvm.Cond.code ({ cls := "CurveSumsModel", name := "plain", desc := "(I)Z" } : Jvm.MethodName) prog_9_method_32_code (4 : Nat) (Option.some Jvm.ClassFile.FieldType.boolean)) ∈ lw_tbl := mx_t 773 (by decide +kernel)
theorem w_774 : (Jvm.Cond.methodLink "CurveSumsModel" (127 : Nat) ({ cls := "CurveSumsModel", name := "signs", desc := "(I)I" } : Jvm.MethodName)) ∈ lw_tbl := mx_t 774 (by decide +kernel)
theorem w_775 : (Jvm.Cond.static ({ cls := "CurveSumsModel", name := "signs", desc := "(I)I" } : Jvm.MethodName)) ∈ lw_tbl := mx_t 775 (by decide +kernel)
theorem w_776 : (Jvm.Cond.code ({ cls := "CurveSumsModel", name := "signs", desc := "(I)I" } : Jvm.MethodName) prog_9_method_31_code (3 : Nat) (Option.some Jvm.ClassFile.FieldType.int)) ∈ lw_tbl := mx_t 776 (by decide +kernel)
theorem w_777 : (Jvm.Cond.methodLink "CurveSumsModel" (130 : Nat) ({ cls := "CurveSumsModel", name := "push", desc := "(I)V" } : Jvm.MethodName)) ∈ lw_tbl := mx_t 777 (by decide +kernel)
theorem w_778 : (Jvm.Cond.privateMethod ({ cls := "CurveSumsModel", name := "push", desc := "(I)V" } : Jvm.MethodName)) ∈ lw_tbl := mx_t 778 (by decide +kernel)
theorem w_779 : (Jvm.Cond.instanceMethod ({ cls := "CurveSumsModel", name := "push", desc := "(I)V" } : Jvm.MethodName)) ∈ lw_tbl := mx_t 779 (by decide +kernel)
theorem w_780 : (Jvm.Cond.code ({ cls := "CurveSumsModel", name := "push", desc := "(I)V" } : Jvm.MethodName) prog_9_method_33_code (3 : Nat) (Option.none : Option Jvm.ClassFile.FieldType)) ∈ lw_tbl := mx_t 780 (by decide +kernel)
theorem w_781 : (Jvm.Cond.methodLink "CurveSumsLaw" (146 : Nat) ({ cls := "CurveSumsModel", name := "read", desc := "()I" } : Jvm.MethodName)) ∈ lw_tbl := mx_t 781 (by decide +kernel)
theorem w_782 : (Jvm.Cond.instanceMethod ({ cls := "CurveSumsModel", name := "read", desc := "()I" } : Jvm.MethodName)) ∈ lw_tbl := mx_t 782 (by decide +kernel)
theorem w_783 : (Jvm.Cond.selects "CurveSumsModel" ({ cls := "CurveSumsModel", name := "read", desc := "()I" } : Jvm.MethodName) ({ cls := "CurveSumsModel", name := "read", desc := "()I" } : Jvm.MethodName)) ∈ lw_tbl := mx_t 783 (by decide +kernel)
theorem w_784 : (Jvm.Cond.code ({ cls := "CurveSumsModel", name := "read", desc := "()I" } : Jvm.MethodName) prog_9_method_36_code (3 : Nat) (Option.some Jvm.ClassFile.FieldType.int)) ∈ lw_tbl := mx_t 784 (by decide +kernel)
theorem w_785 : (Jvm.Cond.methodLink "CurveSumsModel" (137 : Nat) ({ cls := "CurveSumsModel", name := "fault", desc := "()I" } : Jvm.MethodName)) ∈ lw_tbl := mx_t 785 (by decide +kernel)
theorem w_786 : (Jvm.Cond.privateMethod ({ cls := "CurveSumsModel", name := "fault", desc := "()I" } : Jvm.MethodName)) ∈ lw_tbl := mx_t 786 (by decide +kernel)
theorem w_787 : (Jvm.Cond.instanceMethod ({ cls := "CurveSumsModel", name := "fault", desc := "()I" } : Jvm.MethodName)) ∈ lw_tbl := mx_t 787 (by decide +kernel)
theorem w_788 : (Jvm.Cond.code ({ cls := "CurveSumsModel", name := "fault", desc := "()I" } : Jvm.MethodName) prog_9_method_35_code (8 : Nat) (Option.some Jvm.ClassFile.FieldType.int)) ∈ lw_tbl := mx_t 788 (by decide +kernel)
theorem w_789 : (Jvm.Cond.methodLink "CurveSumsLaw" (149 : Nat) ({ cls := "CurveSumsModel", name := "count", desc := "(I)I" } : Jvm.MethodName)) ∈ lw_tbl := mx_t 789 (by decide +kernel)
theorem w_790 : (Jvm.Cond.instanceMethod ({ cls := "CurveSumsModel", name := "count", desc := "(I)I" } : Jvm.MethodName)) ∈ lw_tbl := mx_t 790 (by decide +kernel)
theorem w_791 : (Jvm.Cond.selects "CurveSumsModel" ({ cls := "CurveSumsModel", name := "count", desc := "(I)I" } : Jvm.MethodName) ({ cls := "CurveSumsModel", name := "count", desc := "(I)I" } : Jvm.MethodName)) ∈ lw_tbl := mx_t 791 (by decide +kernel)
theorem w_792 : (Jvm.Cond.code ({ cls := "CurveSumsModel", name := "count", desc := "(I)I" } : Jvm.MethodName) prog_9_method_37_code (4 : Nat) (Option.some Jvm.ClassFile.FieldType.int)) ∈ lw_tbl := mx_t 792 (by decide +kernel)
theorem w_793 : (Jvm.Cond.arrayClass Jvm.ClassFile.FieldType.long) ∈ lw_tbl := mx_t 793 (by decide +kernel)
theorem w_794 : (Jvm.Cond.sameMethod "java/lang/Throwable" "java/lang/Throwable" "fillInStackTrace" "(I)Ljava/lang/Throwable;") ∈ lw_tbl := mx_t 794 (by decide +kernel)
end
section
/-! the words of the tables that every method's walk carries -/
def iI (z : Int) : Int32 := Int32.ofInt z
def lI (z : Int) : Int64 := Int64.ofInt z
def mx_gd (w : Cond) : Bool := goodWord w || (match w with
  | .castable _ _ => true
  | .declares _ => true
  | .arrayOver (.object _) => true
  | _ => false)
def mx_Ws (args : Array Value) (s : State) : Prop := (∀ w ∈ lw_tbl, mx_gd w = true → w.before args s = true) ∧ ∀ q ∈ mx_strs, ∃ a, vk_R q.1 q.2.1 q.2.2 a s
theorem mx_tr {args a' : Array Value} {s U : State} {w : Cond} (ho : w.onTables = true) (h : w.before args (s.setVm U.vm) = true) : w.before a' U = true := by
  have e := Cond.onTables_vm (A := args) (A' := a') (U := s) (U' := U) U.vm w ho
  have hU : U.setVm U.vm = U := rfl
  rw [hU] at e
  rw [← e]
  exact h
theorem mx_wat {args a' : Array Value} {s U : State} (hW : s.WarmedH U.vm) {w : Cond} (hg : mx_gd w = true) (h : w.before args s = true) : w.before a' U = true := by
  by_cases hgw : goodWord w = true
  · exact word_at hW (good_of_word hgw) h
  · cases w with
    | castable a b => exact mx_tr (args := args) (s := s) rfl (by rw [Cond.castable_setVm hW.alike]; exact h)
    | declares a => exact mx_tr (args := args) (s := s) rfl (by rw [Cond.declares_setVm hW.alike]; exact h)
    | arrayOver ty =>
      cases ty with
      | object C => exact va_AO.use (va_AO.moved hW.alike (va_AO.of h))
      | _ => exact absurd hg (by simp [mx_gd, hgw])
    | _ => exact absurd hg (by simp [mx_gd, hgw])
theorem mx_Ws.at {args a' : Array Value} {s U : State} (h : mx_Ws args s) (hW : s.WarmedH U.vm) : mx_Ws a' U :=
  ⟨fun w hw hg => mx_wat hW hg (h.1 w hw hg), fun q hq => (h.2 q hq).imp fun _ ha => vk_R.warm hW ha⟩
theorem mx_lay_good {C : String} {T : u_T} {n : Nat} {w : Cond} (h : w ∈ u_ws C T n) : mx_gd w = true := by
  obtain ⟨k, -, rfl⟩ := List.mem_map.mp h
  unfold u_lay
  split <;> rfl
/-! whole numbers in the machine's ints and longs -/
theorem iI_nat (n : Nat) : iI n = Int32.ofNat n := Int32.ofInt_eq_ofNat
theorem iI_nI (n : Nat) : iI n = nI n := Int32.ofInt_eq_ofNat
theorem iI_toInt {z : Int} (h1 : -2147483648 ≤ z) (h2 : z < 2147483648) : (iI z).toInt = z := Int32.toInt_ofInt_of_le h1 h2
theorem lI_toInt {z : Int} (h1 : -9223372036854775808 ≤ z) (h2 : z < 9223372036854775808) : (lI z).toInt = z := Int64.toInt_ofInt_of_le h1 h2
theorem iI_of (x : Int32) : x = iI x.toInt := (Int32.ofInt_toInt x).symm
theorem lI_of (x : Int64) : x = lI x.toInt := (Int64.ofInt_toInt x).symm
theorem i32_lo (x : Int32) : -2147483648 ≤ x.toInt := Int32.le_toInt x
theorem i32_hi (x : Int32) : x.toInt < 2147483648 := Int32.toInt_lt x
theorem iI_add (a b : Int) : iI a + iI b = iI (a + b) := (Int32.ofInt_add a b).symm
theorem iI_sub (a b : Int) : iI a - iI b = iI (a - b) := (Int32.ofInt_sub a b).symm
theorem iI_mul (a b : Int) : iI a * iI b = iI (a * b) := (Int32.ofInt_mul a b).symm
theorem iI_neg (a : Int) : - iI a = iI (-a) := (Int32.ofInt_neg a).symm
theorem lI_add (a b : Int) : lI a + lI b = lI (a + b) := (Int64.ofInt_add a b).symm
theorem lI_sub (a b : Int) : lI a - lI b = lI (a - b) := (Int64.ofInt_sub a b).symm
theorem lI_mul (a b : Int) : lI a * lI b = lI (a * b) := (Int64.ofInt_mul a b).symm
theorem iI_l {z : Int} (h1 : -2147483648 ≤ z) (h2 : z < 2147483648) : (iI z).toInt64 = lI z := by
  apply Int64.toInt_inj.mp
  rw [Int32.toInt_toInt64, iI_toInt h1 h2, lI_toInt (by omega) (by omega)]
theorem lI_i (z : Int) : (lI z).toInt32 = iI z := Int64.toInt32_ofInt
theorem iI_lt {a b : Int} (h1 : -2147483648 ≤ a) (h2 : a < 2147483648) (h3 : -2147483648 ≤ b) (h4 : b < 2147483648) : iI a < iI b ↔ a < b := by
  rw [Int32.lt_iff_toInt_lt, iI_toInt h1 h2, iI_toInt h3 h4]
theorem iI_le {a b : Int} (h1 : -2147483648 ≤ a) (h2 : a < 2147483648) (h3 : -2147483648 ≤ b) (h4 : b < 2147483648) : iI a ≤ iI b ↔ a ≤ b := by
  rw [Int32.le_iff_toInt_le, iI_toInt h1 h2, iI_toInt h3 h4]
theorem iI_eq {a b : Int} (h1 : -2147483648 ≤ a) (h2 : a < 2147483648) (h3 : -2147483648 ≤ b) (h4 : b < 2147483648) : iI a = iI b ↔ a = b := by
  rw [← Int32.toInt_inj, iI_toInt h1 h2, iI_toInt h3 h4]
theorem lI_lt {a b : Int} (h1 : -9223372036854775808 ≤ a) (h2 : a < 9223372036854775808) (h3 : -9223372036854775808 ≤ b) (h4 : b < 9223372036854775808) : lI a < lI b ↔ a < b := by
  rw [Int64.lt_iff_toInt_lt, lI_toInt h1 h2, lI_toInt h3 h4]
theorem lI_eq {a b : Int} (h1 : -9223372036854775808 ≤ a) (h2 : a < 9223372036854775808) (h3 : -9223372036854775808 ≤ b) (h4 : b < 9223372036854775808) : lI a = lI b ↔ a = b := by
  rw [← Int64.toInt_inj, lI_toInt h1 h2, lI_toInt h3 h4]
theorem iI_0 : (0 : Int32) = iI 0 := rfl
theorem lI_0 : (0 : Int64) = lI 0 := rfl
theorem iI_lt0 {a : Int} (h1 : -2147483648 ≤ a) (h2 : a < 2147483648) : iI a < 0 ↔ a < 0 := by rw [iI_0]; exact iI_lt h1 h2 (by omega) (by omega)
theorem iI_le0 {a : Int} (h1 : -2147483648 ≤ a) (h2 : a < 2147483648) : iI a ≤ 0 ↔ a ≤ 0 := by rw [iI_0]; exact iI_le h1 h2 (by omega) (by omega)
theorem iI_0lt {a : Int} (h1 : -2147483648 ≤ a) (h2 : a < 2147483648) : 0 < iI a ↔ 0 < a := by rw [iI_0]; exact iI_lt (by omega) (by omega) h1 h2
theorem iI_0le {a : Int} (h1 : -2147483648 ≤ a) (h2 : a < 2147483648) : 0 ≤ iI a ↔ 0 ≤ a := by rw [iI_0]; exact iI_le (by omega) (by omega) h1 h2
theorem iI_eq0 {a : Int} (h1 : -2147483648 ≤ a) (h2 : a < 2147483648) : iI a = 0 ↔ a = 0 := by rw [iI_0]; exact iI_eq h1 h2 (by omega) (by omega)
theorem lI_eq0 {a : Int} (h1 : -9223372036854775808 ≤ a) (h2 : a < 9223372036854775808) : lI a = 0 ↔ a = 0 := by rw [lI_0]; exact lI_eq h1 h2 (by omega) (by omega)
theorem iI_clamp {n : Nat} (h : n < 2 ^ 31) : (iI n).toNatClampNeg = n := by rw [iI_nI]; exact nI_clamp h
theorem iI_nneg {n : Nat} (h : n < 2 ^ 31) : ¬ iI n < 0 := by rw [iI_nI]; exact nI_pos h
theorem iI_in {j n : Nat} (hj : j < n) (hn : n < 2 ^ 31) : vp_in (iI j) n := by rw [iI_nI]; exact vp_in_nI hj hn
/-- division of numbers that aren't negative -/
theorem iI_div {a b : Int} (h1 : 0 ≤ a) (h2 : a < 2147483648) (h3 : 0 < b) (h4 : b < 2147483648) : iI a / iI b = iI (a / b) := by
  apply Int32.toInt_inj.mp
  have hq : 0 ≤ a / b := Int.ediv_nonneg h1 (by omega)
  have hq2 : a / b ≤ a := Int.ediv_le_self _ h1
  rw [Int32.toInt_div_of_ne_right _ _ (by
    intro h
    have := congrArg Int32.toInt h
    rw [iI_toInt (by omega) h4] at this
    have e : (-1 : Int32).toInt = -1 := by decide
    omega), iI_toInt (by omega) h2, iI_toInt (by omega) h4, iI_toInt (by omega) (by omega), Int.tdiv_eq_ediv_of_nonneg h1]
theorem iI_rem {a b : Int} (h1 : 0 ≤ a) (h2 : a < 2147483648) (h3 : 0 < b) (h4 : b < 2147483648) : iI a - iI a / iI b * iI b = iI (a % b) := by
  rw [iI_div h1 h2 h3 h4, iI_mul, iI_sub]
  congr 1
  have := Int.emod_add_mul_ediv a b
  rw [Int.mul_comm] at this
  omega
theorem lI_div {a b : Int} (h1 : 0 ≤ a) (h2 : a < 9223372036854775808) (h3 : 0 < b) (h4 : b < 9223372036854775808) : lI a / lI b = lI (a / b) := by
  apply Int64.toInt_inj.mp
  have hq : 0 ≤ a / b := Int.ediv_nonneg h1 (by omega)
  have hq2 : a / b ≤ a := Int.ediv_le_self _ h1
  rw [Int64.toInt_div_of_ne_right _ _ (by
    intro h
    have := congrArg Int64.toInt h
    rw [lI_toInt (by omega) h4] at this
    have e : (-1 : Int64).toInt = -1 := by decide
    omega), lI_toInt (by omega) h2, lI_toInt (by omega) h4, lI_toInt (by omega) (by omega), Int.tdiv_eq_ediv_of_nonneg h1]
/-- long comparison, as the machine gives it -/
theorem lI_cmp {a b : Int} (h1 : -9223372036854775808 ≤ a) (h2 : a < 9223372036854775808) (h3 : -9223372036854775808 ≤ b) (h4 : b < 9223372036854775808) : lg_cmp (lI a) (lI b) = iI (if b < a then 1 else if a = b then 0 else -1) := by
  unfold lg_cmp
  by_cases q1 : b < a
  · rw [if_pos ((lI_lt h3 h4 h1 h2).mpr q1), if_pos q1]; rfl
  · rw [if_neg (fun q => q1 ((lI_lt h3 h4 h1 h2).mp q)), if_neg q1]
    by_cases q2 : a = b
    · subst q2; simp; rfl
    · rw [if_neg q2]
      have : ¬ lI a = lI b := fun q => q2 ((lI_eq h1 h2 h3 h4).mp q)
      simp [this]; rfl
end
section
/-! ===== THE LAYER (mx_): the machine seen as one world of numbered cells; a method is walked by what holds behind it (returned or thrown) ===== -/
/-- what a method ends with: a value, or the name of the class of what it threw -/
abbrev mx_R : Type := Option Value ⊕ String
/-- a method: its name, bytes, locals, what it returns, its handlers -/
abbrev mx_Y : Type := MethodName × ByteArray × Nat × Option FieldType × List (Nat × Nat × Nat × Nat)
/-- the launch, the state at the law's entry, numbers and slots of the classes, the array classes -/
abbrev mx_G : Type := Launch × State × va_G × (Nat → ClassId)
/-- what is asked of an end: outcome, number of cells, the cells, cells and slots that are left -/
abbrev mx_P : Type := mx_R → Nat → (Nat → va_E) → Nat → Nat → Prop
abbrev mx_B (G : mx_G) : Nat := G.2.1.heap.size
def mx_A (G : mx_G) : Nat → Prop := fun q => mx_B G ≤ q
def mx_w (G : mx_G) (N : Nat) (ce : Nat → va_E) : va_W := (List.range N).map (fun k => (mx_B G + k, ce k))
theorem mx_w_at {G : mx_G} {N k : Nat} {ce : Nat → va_E} (hk : k < N) : (mx_w G N ce)[k]? = some (mx_B G + k, ce k) := by
  simp [mx_w, hk]
theorem mx_w_inv {G : mx_G} {N k : Nat} {ce : Nat → va_E} {q : Nat × va_E} (h : (mx_w G N ce)[k]? = some q) : k < N ∧ q = (mx_B G + k, ce k) := by
  have hk : k < N := by
    have := (List.getElem?_eq_some_iff.mp h).1
    simpa [mx_w] using this
  rw [mx_w_at hk] at h
  exact ⟨hk, (Option.some.inj h).symm⟩
theorem mx_w_set {G : mx_G} {N k : Nat} {ce : Nat → va_E} (e : va_E) : (mx_w G N ce).set k (mx_B G + k, e) = mx_w G N (va_up ce k e) := by
  apply List.ext_getElem?
  intro i
  by_cases hi : i < N
  · by_cases hik : i = k
    · subst hik
      rw [List.getElem?_set_self (by simpa [mx_w] using hi), mx_w_at hi, va_up_self]
    · rw [List.getElem?_set_ne (Ne.symm hik), mx_w_at hi, mx_w_at hi, va_up_ne _ _ hik]
  · rw [List.getElem?_eq_none (by simp [mx_w]; omega), List.getElem?_eq_none (by simp [mx_w]; omega)]
theorem mx_w_push {G : mx_G} {N : Nat} {ce : Nat → va_E} (e : va_E) : mx_w G N ce ++ [(mx_B G + N, e)] = mx_w G (N + 1) (va_up ce N e) := by
  unfold mx_w
  rw [List.range_succ, List.map_append]
  congr 1
  · apply List.map_congr_left
    intro k hk
    rw [va_up_ne _ _ (Nat.ne_of_lt (List.mem_range.mp hk))]
  · simp [va_up_self]
theorem mx_w_D {G : mx_G} {N : Nat} {ce : Nat → va_E} : va_D (mx_A G) (mx_w G N ce) := by
  refine ⟨fun i j p q hi hj hpq => ?_, fun k q hk => ?_⟩
  · obtain ⟨-, rfl⟩ := mx_w_inv hi
    obtain ⟨-, rfl⟩ := mx_w_inv hj
    exact Nat.add_left_cancel hpq
  · obtain ⟨-, rfl⟩ := mx_w_inv hk
    exact Nat.le_add_right _ _
/-- the heap holds the world; nothing that was there at the law's entry has changed -/
def mx_H (G : mx_G) (N : Nat) (ce : Nat → va_E) (H : Heap) (locs : List Loc) : Prop := va_P G.2.2.1 classes (mx_w G N ce) H ∧ va_S (mx_A G) G.2.1.heap H locs
/-- where it's asked (ex): the world's cells are the last ones -/
def mx_X (G : mx_G) (ex : Bool) (N : Nat) (H : Heap) : Prop := ex = true → H.size = mx_B G + N
/-- the method's frame: machine, code, tables' words -/
def mx_C (G : mx_G) (Y : mx_Y) (p : Program) (s : State) (m : MethodId) (args : Array Value) (meth : Method) (c : Code) : Prop :=
  p.tables.exec = Jvm.exec ∧ c.code = Y.2.1 ∧ c.maxLocals = Y.2.2.1 ∧ meth.sig.returnType = Y.2.2.2.1 ∧ meth.locks = false ∧ s.vm.findClass Y.1.cls = some m.cls ∧ mx_Ws args s ∧ G.2.1.vm.Alike s.vm ∧ meth.name = Y.1.name ∧ c.exceptionTable.toList.map (fun h => (h.startPc, h.endPc, h.handlerPc, h.catchType)) = Y.2.2.2.2
/-- what stands at a point of a walk -/
def mx_I (G : mx_G) (Y : mx_Y) (d bc bs : Nat) (ex : Bool) (N : Nat) (ce : Nat → va_E) (l : List (Nat × Value)) (p : Program) (R : Room) (s : State) (m : MethodId) (args : Array Value) (meth : Method) (c : Code) (H : Heap) (locs : List Loc) (cells slots : Nat) (ls : Array Slot) : Prop :=
  mx_C G Y p s m args meth c ∧ mx_H G N ce H locs ∧ mx_X G ex N H ∧ cells + bc ≤ R.cells ∧ slots + bs ≤ R.slots ∧ d + 1 ≤ R.frames ∧ 32 * d + 70 ≤ R.locals ∧ lv_has ls Y.2.2.1 l
/-- how it ends -/
def mx_O (G : mx_G) (ex : Bool) (N : Nat) (ce : Nat → va_E) (bc bs : Nat) (Q : mx_P) (o : Outcome) (t : State) : Prop :=
  (∃ v, o = .returned v ∧ mx_X G ex N t.heap ∧ Q (.inl v) N ce bc bs) ∨ (∃ (q : Addr) (E : String) (c0 : Cell), o = .threw q ∧ t.heap[q]? = some c0 ∧ c0.vm = .none ∧ G.2.1.vm.findClass E = some c0.cls ∧ Q (.inr E) N ce bc bs)
def mx_Z (G : mx_G) (ex : Bool) (R : Room) (Q : mx_P) (s : State) (below : List Frame) : State → Prop := fun t =>
  ∃ (o : Outcome) (L : List Loc) (k n N : Nat) (ce : Nat → va_E) (bc bs : Nat), t.status = .running ∧ Ended t below o ∧ s.WarmedH t.vm ∧ s.sameButNew ({ t with vm := s.vm } : State) L k n ∧ mx_H G N ce t.heap L ∧ k + bc ≤ R.cells ∧ n + bs ≤ R.slots ∧ mx_O G ex N ce bc bs Q o t
/-- from pc on, with these locals and this stack, the method comes to an end with Q -/
def mx_M (G : mx_G) (Y : mx_Y) (d bc bs : Nat) (ex : Bool) (N : Nat) (ce : Nat → va_E) (pc : Nat) (l : List (Nat × Value)) (st : List Value) (Q : mx_P) : Prop :=
  ∀ (p : Program) (e : Env) (R : Room) (s : State) (m : MethodId) (args : Array Value) (below : List Frame) (meth : Method) (c : Code) (H : Heap) (locs : List Loc) (cells slots : Nat) (ls : Array Slot),
    mx_I G Y d bc bs ex N ce l p R s m args meth c H locs cells slots ls → W p G.1 e R s m args below meth c H locs cells slots (mx_Z G ex R Q s below) (F0 m pc ls st)
def mx_get (l : List (Nat × Value)) (i : Nat) : Option Value := match l with
  | [] => none
  | q :: r => bif Nat.beq q.1 i then some q.2 else mx_get r i
theorem mx_get_mem {l : List (Nat × Value)} {i : Nat} {v : Value} (h : mx_get l i = some v) : (i, v) ∈ l := by
  induction l with
  | nil => simp [mx_get] at h
  | cons q r ih =>
    obtain ⟨a, b⟩ := q
    unfold mx_get at h
    cases hb : Nat.beq a i with
    | true =>
      rw [hb] at h
      have hb' := Nat.eq_of_beq_eq_true hb
      simp only [cond_true, Option.some.injEq] at h
      subst hb'; subst h
      exact List.mem_cons_self
    | false =>
      rw [hb] at h
      exact List.mem_cons_of_mem _ (ih h)
def mx_set1 (l : List (Nat × Value)) (i : Nat) (v : Value) : List (Nat × Value) := (i, v) :: l.filter (fun q => !(q.1 == i) && !(q.1 + 1 == i && q.2.category == 2))
def mx_set2 (l : List (Nat × Value)) (i : Nat) (v : Value) : List (Nat × Value) := (i, v) :: l.filter (fun q => !(q.1 == i) && (!(q.1 == i + 1) && !(q.1 + 1 == i && q.2.category == 2)))
section MXP
variable {G : mx_G} {Y : mx_Y} {d bc bs : Nat} {ex : Bool} {N : Nat} {ce : Nat → va_E} {pc : Nat} {l : List (Nat × Value)} {r : List Value} {Q : mx_P}
theorem mx_iconst {n : Int} (hd : decode Y.2.1 pc = .ok (.iconst n, 1)) (k : mx_M G Y d bc bs ex N ce (pc + 1) l (.int (iI n) :: r) Q) : mx_M G Y d bc bs ex N ce pc l r Q :=
  fun p e R s m args below meth c H locs cells slots ls h => lv_iconst h.1.1 h.1.2.1 hd rfl (k p e R s m args below meth c H locs cells slots ls h)
theorem mx_bipush {n : Int} (hd : decode Y.2.1 pc = .ok (.bipush n, 2)) (hv : (Int8.ofInt n).toInt32 = iI n) (k : mx_M G Y d bc bs ex N ce (pc + 2) l (.int (iI n) :: r) Q) : mx_M G Y d bc bs ex N ce pc l r Q :=
  fun p e R s m args below meth c H locs cells slots ls h => lv_bipush h.1.1 h.1.2.1 hd hv (k p e R s m args below meth c H locs cells slots ls h)
theorem mx_sipush {n : Int} (hd : decode Y.2.1 pc = .ok (.sipush n, 3)) (hv : (Int16.ofInt n).toInt32 = iI n) (k : mx_M G Y d bc bs ex N ce (pc + 3) l (.int (iI n) :: r) Q) : mx_M G Y d bc bs ex N ce pc l r Q :=
  fun p e R s m args below meth c H locs cells slots ls h => lv_sipush h.1.1 h.1.2.1 hd hv (k p e R s m args below meth c H locs cells slots ls h)
theorem mx_lconst {n : Fin 2} {v : Int64} (hd : decode Y.2.1 pc = .ok (.lconst n, 1)) (hv : Int64.ofNat (n : Nat) = v) (k : mx_M G Y d bc bs ex N ce (pc + 1) l (.long v :: r) Q) : mx_M G Y d bc bs ex N ce pc l r Q :=
  fun p e R s m args below meth c H locs cells slots ls h => lv_lconst h.1.1 h.1.2.1 hd hv (k p e R s m args below meth c H locs cells slots ls h)
theorem mx_iload_n {k4 : Fin 4} {x : Int32} (hd : decode Y.2.1 pc = .ok (.iload_n k4, 1)) (hg : mx_get l k4 = some (.int x)) (k : mx_M G Y d bc bs ex N ce (pc + 1) l (.int x :: r) Q) : mx_M G Y d bc bs ex N ce pc l r Q :=
  fun p e R s m args below meth c H locs cells slots ls h => lv_iload_n h.1.1 h.1.2.1 hd rfl (h.2.2.2.2.2.2.2.2.2 _ (mx_get_mem hg)) (k p e R s m args below meth c H locs cells slots ls h)
theorem mx_iload {i : Nat} {x : Int32} (hd : decode Y.2.1 pc = .ok (.iload i, 2)) (hg : mx_get l i = some (.int x)) (k : mx_M G Y d bc bs ex N ce (pc + 2) l (.int x :: r) Q) : mx_M G Y d bc bs ex N ce pc l r Q :=
  fun p e R s m args below meth c H locs cells slots ls h => lv_iload h.1.1 h.1.2.1 hd (h.2.2.2.2.2.2.2.2.2 _ (mx_get_mem hg)) (k p e R s m args below meth c H locs cells slots ls h)
theorem mx_istore_n {k4 : Fin 4} {x : Int32} (hd : decode Y.2.1 pc = .ok (.istore_n k4, 1)) (hn : (k4 : Nat) < Y.2.2.1) (k : mx_M G Y d bc bs ex N ce (pc + 1) (mx_set1 l k4 (.int x)) r Q) : mx_M G Y d bc bs ex N ce pc l (.int x :: r) Q :=
  fun p e R s m args below meth c H locs cells slots ls h => lv_istore_n h.1.1 h.1.2.1 hd rfl h.2.2.2.2.2.2.2 hn rfl (fun ls hl => k p e R s m args below meth c H locs cells slots ls ⟨h.1, h.2.1, h.2.2.1, h.2.2.2.1, h.2.2.2.2.1, h.2.2.2.2.2.1, h.2.2.2.2.2.2.1, hl⟩)
theorem mx_istore {i : Nat} {x : Int32} (hd : decode Y.2.1 pc = .ok (.istore i, 2)) (hn : i < Y.2.2.1) (k : mx_M G Y d bc bs ex N ce (pc + 2) (mx_set1 l i (.int x)) r Q) : mx_M G Y d bc bs ex N ce pc l (.int x :: r) Q :=
  fun p e R s m args below meth c H locs cells slots ls h => lv_istore h.1.1 h.1.2.1 hd h.2.2.2.2.2.2.2 hn rfl (fun ls hl => k p e R s m args below meth c H locs cells slots ls ⟨h.1, h.2.1, h.2.2.1, h.2.2.2.1, h.2.2.2.2.1, h.2.2.2.2.2.1, h.2.2.2.2.2.2.1, hl⟩)
theorem mx_lload_n {k4 : Fin 4} {x : Int64} (hd : decode Y.2.1 pc = .ok (.lload_n k4, 1)) (hg : mx_get l k4 = some (.long x)) (k : mx_M G Y d bc bs ex N ce (pc + 1) l (.long x :: r) Q) : mx_M G Y d bc bs ex N ce pc l r Q :=
  fun p e R s m args below meth c H locs cells slots ls h => lv_lload_n h.1.1 h.1.2.1 hd rfl (h.2.2.2.2.2.2.2.2.2 _ (mx_get_mem hg)) (k p e R s m args below meth c H locs cells slots ls h)
theorem mx_lload {i : Nat} {x : Int64} (hd : decode Y.2.1 pc = .ok (.lload i, 2)) (hg : mx_get l i = some (.long x)) (k : mx_M G Y d bc bs ex N ce (pc + 2) l (.long x :: r) Q) : mx_M G Y d bc bs ex N ce pc l r Q :=
  fun p e R s m args below meth c H locs cells slots ls h => lv_lload h.1.1 h.1.2.1 hd (h.2.2.2.2.2.2.2.2.2 _ (mx_get_mem hg)) (k p e R s m args below meth c H locs cells slots ls h)
theorem mx_lstore_n {k4 : Fin 4} {x : Int64} (hd : decode Y.2.1 pc = .ok (.lstore_n k4, 1)) (hn : (k4 : Nat) + 1 < Y.2.2.1) (k : mx_M G Y d bc bs ex N ce (pc + 1) (mx_set2 l k4 (.long x)) r Q) : mx_M G Y d bc bs ex N ce pc l (.long x :: r) Q :=
  fun p e R s m args below meth c H locs cells slots ls h => lv_lstore_n h.1.1 h.1.2.1 hd rfl h.2.2.2.2.2.2.2 hn rfl (fun ls hl => k p e R s m args below meth c H locs cells slots ls ⟨h.1, h.2.1, h.2.2.1, h.2.2.2.1, h.2.2.2.2.1, h.2.2.2.2.2.1, h.2.2.2.2.2.2.1, hl⟩)
theorem mx_lstore {i : Nat} {x : Int64} (hd : decode Y.2.1 pc = .ok (.lstore i, 2)) (hn : i + 1 < Y.2.2.1) (k : mx_M G Y d bc bs ex N ce (pc + 2) (mx_set2 l i (.long x)) r Q) : mx_M G Y d bc bs ex N ce pc l (.long x :: r) Q :=
  fun p e R s m args below meth c H locs cells slots ls h => lv_lstore h.1.1 h.1.2.1 hd h.2.2.2.2.2.2.2 hn rfl (fun ls hl => k p e R s m args below meth c H locs cells slots ls ⟨h.1, h.2.1, h.2.2.1, h.2.2.2.1, h.2.2.2.2.1, h.2.2.2.2.2.1, h.2.2.2.2.2.2.1, hl⟩)
theorem mx_aload_n {k4 : Fin 4} {x : Nat} (hd : decode Y.2.1 pc = .ok (.aload_n k4, 1)) (hg : mx_get l k4 = some (.ref x)) (k : mx_M G Y d bc bs ex N ce (pc + 1) l (.ref x :: r) Q) : mx_M G Y d bc bs ex N ce pc l r Q :=
  fun p e R s m args below meth c H locs cells slots ls h => lv_aload_n h.1.1 h.1.2.1 hd rfl (h.2.2.2.2.2.2.2.2.2 _ (mx_get_mem hg)) (k p e R s m args below meth c H locs cells slots ls h)
theorem mx_aload {i : Nat} {x : Nat} (hd : decode Y.2.1 pc = .ok (.aload i, 2)) (hg : mx_get l i = some (.ref x)) (k : mx_M G Y d bc bs ex N ce (pc + 2) l (.ref x :: r) Q) : mx_M G Y d bc bs ex N ce pc l r Q :=
  fun p e R s m args below meth c H locs cells slots ls h => lv_aload h.1.1 h.1.2.1 hd (h.2.2.2.2.2.2.2.2.2 _ (mx_get_mem hg)) (k p e R s m args below meth c H locs cells slots ls h)
theorem mx_astore_n {k4 : Fin 4} {x : Nat} (hd : decode Y.2.1 pc = .ok (.astore_n k4, 1)) (hn : (k4 : Nat) < Y.2.2.1) (k : mx_M G Y d bc bs ex N ce (pc + 1) (mx_set1 l k4 (.ref x)) r Q) : mx_M G Y d bc bs ex N ce pc l (.ref x :: r) Q :=
  fun p e R s m args below meth c H locs cells slots ls h => lv_astore_n h.1.1 h.1.2.1 hd rfl h.2.2.2.2.2.2.2 hn rfl (fun ls hl => k p e R s m args below meth c H locs cells slots ls ⟨h.1, h.2.1, h.2.2.1, h.2.2.2.1, h.2.2.2.2.1, h.2.2.2.2.2.1, h.2.2.2.2.2.2.1, hl⟩)
theorem mx_astore {i : Nat} {x : Nat} (hd : decode Y.2.1 pc = .ok (.astore i, 2)) (hn : i < Y.2.2.1) (k : mx_M G Y d bc bs ex N ce (pc + 2) (mx_set1 l i (.ref x)) r Q) : mx_M G Y d bc bs ex N ce pc l (.ref x :: r) Q :=
  fun p e R s m args below meth c H locs cells slots ls h => lv_astore h.1.1 h.1.2.1 hd h.2.2.2.2.2.2.2 hn rfl (fun ls hl => k p e R s m args below meth c H locs cells slots ls ⟨h.1, h.2.1, h.2.2.1, h.2.2.2.1, h.2.2.2.2.1, h.2.2.2.2.2.1, h.2.2.2.2.2.2.1, hl⟩)
theorem mx_iinc {i : Nat} {n : Int} {x : Int32} (hd : decode Y.2.1 pc = .ok (.iinc i n, 3)) (hg : mx_get l i = some (.int x)) (hn : i < Y.2.2.1) (k : mx_M G Y d bc bs ex N ce (pc + 3) (mx_set1 l i (.int (x + iI n))) r Q) : mx_M G Y d bc bs ex N ce pc l r Q := by
  intro p e R s m args below meth c H locs cells slots ls h
  obtain ⟨kk, hk⟩ := List.getElem?_of_mem (mx_get_mem hg)
  exact lv_iinc h.1.1 h.1.2.1 hd h.2.2.2.2.2.2.2 hk rfl hn rfl (fun ls hl => k p e R s m args below meth c H locs cells slots ls ⟨h.1, h.2.1, h.2.2.1, h.2.2.2.1, h.2.2.2.2.1, h.2.2.2.2.2.1, h.2.2.2.2.2.2.1, hl⟩)
theorem mx_iadd {x y : Int32} (hd : decode Y.2.1 pc = .ok (.iadd, 1)) (k : mx_M G Y d bc bs ex N ce (pc + 1) l (.int (x + y) :: r) Q) : mx_M G Y d bc bs ex N ce pc l (.int y :: .int x :: r) Q :=
  fun p e R s m args below meth c H locs cells slots ls h => lv_iadd h.1.1 h.1.2.1 hd (k p e R s m args below meth c H locs cells slots ls h)
theorem mx_isub {x y : Int32} (hd : decode Y.2.1 pc = .ok (.isub, 1)) (k : mx_M G Y d bc bs ex N ce (pc + 1) l (.int (x - y) :: r) Q) : mx_M G Y d bc bs ex N ce pc l (.int y :: .int x :: r) Q :=
  fun p e R s m args below meth c H locs cells slots ls h => lv_isub h.1.1 h.1.2.1 hd (k p e R s m args below meth c H locs cells slots ls h)
theorem mx_imul {x y : Int32} (hd : decode Y.2.1 pc = .ok (.imul, 1)) (k : mx_M G Y d bc bs ex N ce (pc + 1) l (.int (x * y) :: r) Q) : mx_M G Y d bc bs ex N ce pc l (.int y :: .int x :: r) Q :=
  fun p e R s m args below meth c H locs cells slots ls h => lv_imul h.1.1 h.1.2.1 hd (k p e R s m args below meth c H locs cells slots ls h)
theorem mx_iand {x y : Int32} (hd : decode Y.2.1 pc = .ok (.iand, 1)) (k : mx_M G Y d bc bs ex N ce (pc + 1) l (.int (x &&& y) :: r) Q) : mx_M G Y d bc bs ex N ce pc l (.int y :: .int x :: r) Q :=
  fun p e R s m args below meth c H locs cells slots ls h => lv_iand h.1.1 h.1.2.1 hd (k p e R s m args below meth c H locs cells slots ls h)
theorem mx_ior {x y : Int32} (hd : decode Y.2.1 pc = .ok (.ior, 1)) (k : mx_M G Y d bc bs ex N ce (pc + 1) l (.int (x ||| y) :: r) Q) : mx_M G Y d bc bs ex N ce pc l (.int y :: .int x :: r) Q :=
  fun p e R s m args below meth c H locs cells slots ls h => lv_ior h.1.1 h.1.2.1 hd (k p e R s m args below meth c H locs cells slots ls h)
theorem mx_ixor {x y : Int32} (hd : decode Y.2.1 pc = .ok (.ixor, 1)) (k : mx_M G Y d bc bs ex N ce (pc + 1) l (.int (x ^^^ y) :: r) Q) : mx_M G Y d bc bs ex N ce pc l (.int y :: .int x :: r) Q :=
  fun p e R s m args below meth c H locs cells slots ls h => lv_ixor h.1.1 h.1.2.1 hd (k p e R s m args below meth c H locs cells slots ls h)
theorem mx_ishl {x y : Int32} (hd : decode Y.2.1 pc = .ok (.ishl, 1)) (k : mx_M G Y d bc bs ex N ce (pc + 1) l (.int (x <<< (y &&& 31)) :: r) Q) : mx_M G Y d bc bs ex N ce pc l (.int y :: .int x :: r) Q :=
  fun p e R s m args below meth c H locs cells slots ls h => lv_ishl h.1.1 h.1.2.1 hd (k p e R s m args below meth c H locs cells slots ls h)
theorem mx_ishr {x y : Int32} (hd : decode Y.2.1 pc = .ok (.ishr, 1)) (k : mx_M G Y d bc bs ex N ce (pc + 1) l (.int (x >>> (y &&& 31)) :: r) Q) : mx_M G Y d bc bs ex N ce pc l (.int y :: .int x :: r) Q :=
  fun p e R s m args below meth c H locs cells slots ls h => lv_ishr h.1.1 h.1.2.1 hd (k p e R s m args below meth c H locs cells slots ls h)
theorem mx_ladd {x y : Int64} (hd : decode Y.2.1 pc = .ok (.ladd, 1)) (k : mx_M G Y d bc bs ex N ce (pc + 1) l (.long (x + y) :: r) Q) : mx_M G Y d bc bs ex N ce pc l (.long y :: .long x :: r) Q :=
  fun p e R s m args below meth c H locs cells slots ls h => lv_ladd h.1.1 h.1.2.1 hd (k p e R s m args below meth c H locs cells slots ls h)
theorem mx_lsub {x y : Int64} (hd : decode Y.2.1 pc = .ok (.lsub, 1)) (k : mx_M G Y d bc bs ex N ce (pc + 1) l (.long (x - y) :: r) Q) : mx_M G Y d bc bs ex N ce pc l (.long y :: .long x :: r) Q :=
  fun p e R s m args below meth c H locs cells slots ls h => lv_lsub h.1.1 h.1.2.1 hd (k p e R s m args below meth c H locs cells slots ls h)
theorem mx_lmul {x y : Int64} (hd : decode Y.2.1 pc = .ok (.lmul, 1)) (k : mx_M G Y d bc bs ex N ce (pc + 1) l (.long (x * y) :: r) Q) : mx_M G Y d bc bs ex N ce pc l (.long y :: .long x :: r) Q :=
  fun p e R s m args below meth c H locs cells slots ls h => lv_lmul h.1.1 h.1.2.1 hd (k p e R s m args below meth c H locs cells slots ls h)
theorem mx_idiv {x y : Int32} (hd : decode Y.2.1 pc = .ok (.idiv, 1)) (hne : ¬ y = 0) (k : mx_M G Y d bc bs ex N ce (pc + 1) l (.int (x / y) :: r) Q) : mx_M G Y d bc bs ex N ce pc l (.int y :: .int x :: r) Q :=
  fun p e R s m args below meth c H locs cells slots ls h => lv_idiv h.1.1 h.1.2.1 hd hne (k p e R s m args below meth c H locs cells slots ls h)
theorem mx_irem {x y : Int32} (hd : decode Y.2.1 pc = .ok (.irem, 1)) (hne : ¬ y = 0) (k : mx_M G Y d bc bs ex N ce (pc + 1) l (.int (x - x / y * y) :: r) Q) : mx_M G Y d bc bs ex N ce pc l (.int y :: .int x :: r) Q :=
  fun p e R s m args below meth c H locs cells slots ls h => lv_irem h.1.1 h.1.2.1 hd hne (k p e R s m args below meth c H locs cells slots ls h)
theorem mx_ldiv {x y : Int64} (hd : decode Y.2.1 pc = .ok (.ldiv, 1)) (hne : ¬ y = 0) (k : mx_M G Y d bc bs ex N ce (pc + 1) l (.long (x / y) :: r) Q) : mx_M G Y d bc bs ex N ce pc l (.long y :: .long x :: r) Q :=
  fun p e R s m args below meth c H locs cells slots ls h => lv_ldiv h.1.1 h.1.2.1 hd hne (k p e R s m args below meth c H locs cells slots ls h)
theorem mx_lrem {x y : Int64} (hd : decode Y.2.1 pc = .ok (.lrem, 1)) (hne : ¬ y = 0) (k : mx_M G Y d bc bs ex N ce (pc + 1) l (.long (x - x / y * y) :: r) Q) : mx_M G Y d bc bs ex N ce pc l (.long y :: .long x :: r) Q :=
  fun p e R s m args below meth c H locs cells slots ls h => lv_lrem h.1.1 h.1.2.1 hd hne (k p e R s m args below meth c H locs cells slots ls h)
theorem mx_iushr {x y : Int32} (hd : decode Y.2.1 pc = .ok (.iushr, 1)) (k : mx_M G Y d bc bs ex N ce (pc + 1) l (.int ((x.toUInt32 >>> (y.toUInt32 &&& Int32.toUInt32 31)).toInt32) :: r) Q) : mx_M G Y d bc bs ex N ce pc l (.int y :: .int x :: r) Q :=
  fun p e R s m args below meth c H locs cells slots ls h => lv_iushr h.1.1 h.1.2.1 hd rfl (k p e R s m args below meth c H locs cells slots ls h)
theorem mx_ineg {x : Int32} (hd : decode Y.2.1 pc = .ok (.ineg, 1)) (k : mx_M G Y d bc bs ex N ce (pc + 1) l (.int (-x) :: r) Q) : mx_M G Y d bc bs ex N ce pc l (.int x :: r) Q :=
  fun p e R s m args below meth c H locs cells slots ls h => lv_ineg h.1.1 h.1.2.1 hd (k p e R s m args below meth c H locs cells slots ls h)
theorem mx_i2l {x : Int32} (hd : decode Y.2.1 pc = .ok (.i2l, 1)) (k : mx_M G Y d bc bs ex N ce (pc + 1) l (.long x.toInt64 :: r) Q) : mx_M G Y d bc bs ex N ce pc l (.int x :: r) Q :=
  fun p e R s m args below meth c H locs cells slots ls h => lv_i2l h.1.1 h.1.2.1 hd rfl (k p e R s m args below meth c H locs cells slots ls h)
theorem mx_l2i {x : Int64} (hd : decode Y.2.1 pc = .ok (.l2i, 1)) (k : mx_M G Y d bc bs ex N ce (pc + 1) l (.int x.toInt32 :: r) Q) : mx_M G Y d bc bs ex N ce pc l (.long x :: r) Q :=
  fun p e R s m args below meth c H locs cells slots ls h => lv_l2i h.1.1 h.1.2.1 hd rfl (k p e R s m args below meth c H locs cells slots ls h)
theorem mx_i2c {x : Int32} (hd : decode Y.2.1 pc = .ok (.i2c, 1)) (k : mx_M G Y d bc bs ex N ce (pc + 1) l (.int (x.toUInt32 % 65536).toInt32 :: r) Q) : mx_M G Y d bc bs ex N ce pc l (.int x :: r) Q :=
  fun p e R s m args below meth c H locs cells slots ls h => lv_i2c h.1.1 h.1.2.1 hd rfl (k p e R s m args below meth c H locs cells slots ls h)
theorem mx_i2b {x : Int32} (hd : decode Y.2.1 pc = .ok (.i2b, 1)) (k : mx_M G Y d bc bs ex N ce (pc + 1) l (.int x.toInt8.toInt32 :: r) Q) : mx_M G Y d bc bs ex N ce pc l (.int x :: r) Q :=
  fun p e R s m args below meth c H locs cells slots ls h => lv_i2b h.1.1 h.1.2.1 hd rfl (k p e R s m args below meth c H locs cells slots ls h)
theorem mx_lcmp {x y : Int64} (hd : decode Y.2.1 pc = .ok (.lcmp, 1)) (k : mx_M G Y d bc bs ex N ce (pc + 1) l (.int (lg_cmp x y) :: r) Q) : mx_M G Y d bc bs ex N ce pc l (.long y :: .long x :: r) Q :=
  fun p e R s m args below meth c H locs cells slots ls h => W.lcmp h.1.1 h.1.2.1 hd (k p e R s m args below meth c H locs cells slots ls h)
theorem mx_dup {va : Value} (hd : decode Y.2.1 pc = .ok (.dup, 1)) (hva : va.category = 1) (k : mx_M G Y d bc bs ex N ce (pc + 1) l (va :: va :: r) Q) : mx_M G Y d bc bs ex N ce pc l (va :: r) Q :=
  fun p e R s m args below meth c H locs cells slots ls h => lv_dup h.1.1 h.1.2.1 hd hva (k p e R s m args below meth c H locs cells slots ls h)
theorem mx_pop {va : Value} (hd : decode Y.2.1 pc = .ok (.pop, 1)) (hva : va.category = 1) (k : mx_M G Y d bc bs ex N ce (pc + 1) l r Q) : mx_M G Y d bc bs ex N ce pc l (va :: r) Q :=
  fun p e R s m args below meth c H locs cells slots ls h => lv_pop h.1.1 h.1.2.1 hd hva (k p e R s m args below meth c H locs cells slots ls h)
theorem mx_dup_x1 {va vb : Value} (hd : decode Y.2.1 pc = .ok (.dup_x1, 1)) (hva : va.category = 1) (hvb : vb.category = 1) (k : mx_M G Y d bc bs ex N ce (pc + 1) l (va :: vb :: va :: r) Q) : mx_M G Y d bc bs ex N ce pc l (va :: vb :: r) Q :=
  fun p e R s m args below meth c H locs cells slots ls h => lv_dup_x1 h.1.1 h.1.2.1 hd hva hvb (k p e R s m args below meth c H locs cells slots ls h)
theorem mx_dup_x2 {va vb vd : Value} (hd : decode Y.2.1 pc = .ok (.dup_x2, 1)) (hva : va.category = 1) (hvb : vb.category = 1) (hvd : vd.category = 1) (k : mx_M G Y d bc bs ex N ce (pc + 1) l (va :: vb :: vd :: va :: r) Q) : mx_M G Y d bc bs ex N ce pc l (va :: vb :: vd :: r) Q :=
  fun p e R s m args below meth c H locs cells slots ls h => lv_dup_x2 h.1.1 h.1.2.1 hd hva hvb hvd (k p e R s m args below meth c H locs cells slots ls h)
theorem mx_dup2 {va vb : Value} (hd : decode Y.2.1 pc = .ok (.dup2, 1)) (hva : va.category = 1) (hvb : vb.category = 1) (k : mx_M G Y d bc bs ex N ce (pc + 1) l (va :: vb :: va :: vb :: r) Q) : mx_M G Y d bc bs ex N ce pc l (va :: vb :: r) Q :=
  fun p e R s m args below meth c H locs cells slots ls h => lv_dup2_11 h.1.1 h.1.2.1 hd hva hvb (k p e R s m args below meth c H locs cells slots ls h)
theorem mx_dup2L {va : Value} (hd : decode Y.2.1 pc = .ok (.dup2, 1)) (hva : va.category = 2) (k : mx_M G Y d bc bs ex N ce (pc + 1) l (va :: va :: r) Q) : mx_M G Y d bc bs ex N ce pc l (va :: r) Q :=
  fun p e R s m args below meth c H locs cells slots ls h => lv_dup2_2 h.1.1 h.1.2.1 hd hva (k p e R s m args below meth c H locs cells slots ls h)
theorem mx_pop2L {va : Value} (hd : decode Y.2.1 pc = .ok (.pop2, 1)) (hva : va.category = 2) (k : mx_M G Y d bc bs ex N ce (pc + 1) l r Q) : mx_M G Y d bc bs ex N ce pc l (va :: r) Q :=
  fun p e R s m args below meth c H locs cells slots ls h => lv_pop2_2 h.1.1 h.1.2.1 hd hva (k p e R s m args below meth c H locs cells slots ls h)
theorem mx_if_eq {x : Int32} {off : Int} (tgt : Nat) (hd : decode Y.2.1 pc = .ok (.ifCond .eq off, 3)) (ht : (pc : Int) + off = (tgt : Int)) (kt : x = 0 → mx_M G Y d bc bs ex N ce tgt l r Q) (kf : ¬ x = 0 → mx_M G Y d bc bs ex N ce (pc + 3) l r Q) : mx_M G Y d bc bs ex N ce pc l (.int x :: r) Q :=
  fun p e R s m args below meth c H locs cells slots ls h => lv_if_eq h.1.1 h.1.2.1 hd ht (fun q => kt q p e R s m args below meth c H locs cells slots ls h) (fun q => kf q p e R s m args below meth c H locs cells slots ls h)
theorem mx_icmp_eq {x y : Int32} {off : Int} (tgt : Nat) (hd : decode Y.2.1 pc = .ok (.if_icmp .eq off, 3)) (ht : (pc : Int) + off = (tgt : Int)) (kt : x = y → mx_M G Y d bc bs ex N ce tgt l r Q) (kf : ¬ x = y → mx_M G Y d bc bs ex N ce (pc + 3) l r Q) : mx_M G Y d bc bs ex N ce pc l (.int y :: .int x :: r) Q :=
  fun p e R s m args below meth c H locs cells slots ls h => lv_icmp_eq h.1.1 h.1.2.1 hd ht (fun q => kt q p e R s m args below meth c H locs cells slots ls h) (fun q => kf q p e R s m args below meth c H locs cells slots ls h)
theorem mx_if_ne {x : Int32} {off : Int} (tgt : Nat) (hd : decode Y.2.1 pc = .ok (.ifCond .ne off, 3)) (ht : (pc : Int) + off = (tgt : Int)) (kt : ¬ x = 0 → mx_M G Y d bc bs ex N ce tgt l r Q) (kf : x = 0 → mx_M G Y d bc bs ex N ce (pc + 3) l r Q) : mx_M G Y d bc bs ex N ce pc l (.int x :: r) Q :=
  fun p e R s m args below meth c H locs cells slots ls h => lv_if_ne h.1.1 h.1.2.1 hd ht (fun q => kt q p e R s m args below meth c H locs cells slots ls h) (fun q => kf q p e R s m args below meth c H locs cells slots ls h)
theorem mx_icmp_ne {x y : Int32} {off : Int} (tgt : Nat) (hd : decode Y.2.1 pc = .ok (.if_icmp .ne off, 3)) (ht : (pc : Int) + off = (tgt : Int)) (kt : ¬ x = y → mx_M G Y d bc bs ex N ce tgt l r Q) (kf : x = y → mx_M G Y d bc bs ex N ce (pc + 3) l r Q) : mx_M G Y d bc bs ex N ce pc l (.int y :: .int x :: r) Q :=
  fun p e R s m args below meth c H locs cells slots ls h => lv_icmp_ne h.1.1 h.1.2.1 hd ht (fun q => kt q p e R s m args below meth c H locs cells slots ls h) (fun q => kf q p e R s m args below meth c H locs cells slots ls h)
theorem mx_if_lt {x : Int32} {off : Int} (tgt : Nat) (hd : decode Y.2.1 pc = .ok (.ifCond .lt off, 3)) (ht : (pc : Int) + off = (tgt : Int)) (kt : x < 0 → mx_M G Y d bc bs ex N ce tgt l r Q) (kf : ¬ x < 0 → mx_M G Y d bc bs ex N ce (pc + 3) l r Q) : mx_M G Y d bc bs ex N ce pc l (.int x :: r) Q :=
  fun p e R s m args below meth c H locs cells slots ls h => lv_if_lt h.1.1 h.1.2.1 hd ht (fun q => kt q p e R s m args below meth c H locs cells slots ls h) (fun q => kf q p e R s m args below meth c H locs cells slots ls h)
theorem mx_icmp_lt {x y : Int32} {off : Int} (tgt : Nat) (hd : decode Y.2.1 pc = .ok (.if_icmp .lt off, 3)) (ht : (pc : Int) + off = (tgt : Int)) (kt : x < y → mx_M G Y d bc bs ex N ce tgt l r Q) (kf : ¬ x < y → mx_M G Y d bc bs ex N ce (pc + 3) l r Q) : mx_M G Y d bc bs ex N ce pc l (.int y :: .int x :: r) Q :=
  fun p e R s m args below meth c H locs cells slots ls h => lv_icmp_lt h.1.1 h.1.2.1 hd ht (fun q => kt q p e R s m args below meth c H locs cells slots ls h) (fun q => kf q p e R s m args below meth c H locs cells slots ls h)
theorem mx_if_ge {x : Int32} {off : Int} (tgt : Nat) (hd : decode Y.2.1 pc = .ok (.ifCond .ge off, 3)) (ht : (pc : Int) + off = (tgt : Int)) (kt : 0 ≤ x → mx_M G Y d bc bs ex N ce tgt l r Q) (kf : ¬ 0 ≤ x → mx_M G Y d bc bs ex N ce (pc + 3) l r Q) : mx_M G Y d bc bs ex N ce pc l (.int x :: r) Q :=
  fun p e R s m args below meth c H locs cells slots ls h => lv_if_ge h.1.1 h.1.2.1 hd ht (fun q => kt q p e R s m args below meth c H locs cells slots ls h) (fun q => kf q p e R s m args below meth c H locs cells slots ls h)
theorem mx_icmp_ge {x y : Int32} {off : Int} (tgt : Nat) (hd : decode Y.2.1 pc = .ok (.if_icmp .ge off, 3)) (ht : (pc : Int) + off = (tgt : Int)) (kt : y ≤ x → mx_M G Y d bc bs ex N ce tgt l r Q) (kf : ¬ y ≤ x → mx_M G Y d bc bs ex N ce (pc + 3) l r Q) : mx_M G Y d bc bs ex N ce pc l (.int y :: .int x :: r) Q :=
  fun p e R s m args below meth c H locs cells slots ls h => lv_icmp_ge h.1.1 h.1.2.1 hd ht (fun q => kt q p e R s m args below meth c H locs cells slots ls h) (fun q => kf q p e R s m args below meth c H locs cells slots ls h)
theorem mx_if_gt {x : Int32} {off : Int} (tgt : Nat) (hd : decode Y.2.1 pc = .ok (.ifCond .gt off, 3)) (ht : (pc : Int) + off = (tgt : Int)) (kt : 0 < x → mx_M G Y d bc bs ex N ce tgt l r Q) (kf : ¬ 0 < x → mx_M G Y d bc bs ex N ce (pc + 3) l r Q) : mx_M G Y d bc bs ex N ce pc l (.int x :: r) Q :=
  fun p e R s m args below meth c H locs cells slots ls h => lv_if_gt h.1.1 h.1.2.1 hd ht (fun q => kt q p e R s m args below meth c H locs cells slots ls h) (fun q => kf q p e R s m args below meth c H locs cells slots ls h)
theorem mx_icmp_gt {x y : Int32} {off : Int} (tgt : Nat) (hd : decode Y.2.1 pc = .ok (.if_icmp .gt off, 3)) (ht : (pc : Int) + off = (tgt : Int)) (kt : y < x → mx_M G Y d bc bs ex N ce tgt l r Q) (kf : ¬ y < x → mx_M G Y d bc bs ex N ce (pc + 3) l r Q) : mx_M G Y d bc bs ex N ce pc l (.int y :: .int x :: r) Q :=
  fun p e R s m args below meth c H locs cells slots ls h => lv_icmp_gt h.1.1 h.1.2.1 hd ht (fun q => kt q p e R s m args below meth c H locs cells slots ls h) (fun q => kf q p e R s m args below meth c H locs cells slots ls h)
theorem mx_if_le {x : Int32} {off : Int} (tgt : Nat) (hd : decode Y.2.1 pc = .ok (.ifCond .le off, 3)) (ht : (pc : Int) + off = (tgt : Int)) (kt : x ≤ 0 → mx_M G Y d bc bs ex N ce tgt l r Q) (kf : ¬ x ≤ 0 → mx_M G Y d bc bs ex N ce (pc + 3) l r Q) : mx_M G Y d bc bs ex N ce pc l (.int x :: r) Q :=
  fun p e R s m args below meth c H locs cells slots ls h => lv_if_le h.1.1 h.1.2.1 hd ht (fun q => kt q p e R s m args below meth c H locs cells slots ls h) (fun q => kf q p e R s m args below meth c H locs cells slots ls h)
theorem mx_icmp_le {x y : Int32} {off : Int} (tgt : Nat) (hd : decode Y.2.1 pc = .ok (.if_icmp .le off, 3)) (ht : (pc : Int) + off = (tgt : Int)) (kt : x ≤ y → mx_M G Y d bc bs ex N ce tgt l r Q) (kf : ¬ x ≤ y → mx_M G Y d bc bs ex N ce (pc + 3) l r Q) : mx_M G Y d bc bs ex N ce pc l (.int y :: .int x :: r) Q :=
  fun p e R s m args below meth c H locs cells slots ls h => lv_icmp_le h.1.1 h.1.2.1 hd ht (fun q => kt q p e R s m args below meth c H locs cells slots ls h) (fun q => kf q p e R s m args below meth c H locs cells slots ls h)
theorem mx_goto {off : Int} (tgt : Nat) (hd : decode Y.2.1 pc = .ok (.goto off, 3)) (ht : (pc : Int) + off = (tgt : Int)) (k : mx_M G Y d bc bs ex N ce tgt l r Q) : mx_M G Y d bc bs ex N ce pc l r Q :=
  fun p e R s m args below meth c H locs cells slots ls h => lv_goto h.1.1 h.1.2.1 hd ht (k p e R s m args below meth c H locs cells slots ls h)
theorem mx_tableOut {dflt lo hi : Int} {offs : Array Int} {len : Nat} {x : Int32} (tgt : Nat) (hd : decode Y.2.1 pc = .ok (.tableswitch dflt lo hi offs, len)) (hx : x.toInt < lo ∨ hi < x.toInt) (ht : (pc : Int) + dflt = (tgt : Int)) (k : mx_M G Y d bc bs ex N ce tgt l r Q) : mx_M G Y d bc bs ex N ce pc l (.int x :: r) Q :=
  fun p e R s m args below meth c H locs cells slots ls h => lv_tableOut h.1.1 h.1.2.1 hd hx ht (k p e R s m args below meth c H locs cells slots ls h)
theorem mx_tableIn {dflt lo hi : Int} {offs : Array Int} {len : Nat} {x : Int32} {off : Int} (tgt : Nat) (hd : decode Y.2.1 pc = .ok (.tableswitch dflt lo hi offs, len)) (h1 : ¬ x.toInt < lo) (h2 : ¬ hi < x.toInt) (ho : offs[(x.toInt - lo).toNat]? = some off) (ht : (pc : Int) + off = (tgt : Int)) (k : mx_M G Y d bc bs ex N ce tgt l r Q) : mx_M G Y d bc bs ex N ce pc l (.int x :: r) Q :=
  fun p e R s m args below meth c H locs cells slots ls h => lv_tableIn h.1.1 h.1.2.1 hd h1 h2 ho ht (k p e R s m args below meth c H locs cells slots ls h)
theorem mx_lookup {dflt : Int} {ps : Array (Int × Int)} {len : Nat} {x : Int32} {off : Int} (tgt : Nat) (hd : decode Y.2.1 pc = .ok (.lookupswitch dflt ps, len)) (hp : (ps.toList.zip (ps.toList.drop 1)).all (fun (a, next) => a.1 < next.1) = true) (ho : Op.lookupswitch.offset ps.toList dflt x.toInt = off) (ht : (pc : Int) + off = (tgt : Int)) (k : mx_M G Y d bc bs ex N ce tgt l r Q) : mx_M G Y d bc bs ex N ce pc l (.int x :: r) Q :=
  fun p e R s m args below meth c H locs cells slots ls h => lv_lookup h.1.1 h.1.2.1 hd hp ho ht (k p e R s m args below meth c H locs cells slots ls h)
theorem mx_st {st st' : List Value} (e : st = st') (k : mx_M G Y d bc bs ex N ce pc l st' Q) : mx_M G Y d bc bs ex N ce pc l st Q := e ▸ k
theorem mx_loc {st : List Value} {l' : List (Nat × Value)} (hmm : l'.map (fun q => mx_get l q.1) = l'.map (fun q => some q.2)) (k : mx_M G Y d bc bs ex N ce pc l' st Q) : mx_M G Y d bc bs ex N ce pc l st Q := by
  intro p e R s m args below meth c H locs cells slots ls h
  refine k p e R s m args below meth c H locs cells slots ls ⟨h.1, h.2.1, h.2.2.1, h.2.2.2.1, h.2.2.2.2.1, h.2.2.2.2.2.1, h.2.2.2.2.2.2.1, h.2.2.2.2.2.2.2.1, h.2.2.2.2.2.2.2.2.1, fun q hq => ?_⟩
  have h1 : mx_get l q.1 = some q.2 := List.map_inj_left.mp hmm q hq
  exact h.2.2.2.2.2.2.2.2.2 _ (mx_get_mem h1)
end MXP
end
section
/-! throwing a new exception with a text, and catching it -/
/-- a static that holds a reference or null, in a cell that was there at the law's entry -/
def mx_Sl (C n d : String) (B : Nat) (U : State) (H : Heap) : Prop := ∃ (c : ClassId) (k : Class) (i : Nat) (f : Field) (a : Nat) (cell : Cell) (v : Value), U.vm.findClass C = some c ∧ U.fieldFound? C n d = some (c, k, i, f) ∧ f.isStatic = true ∧ k.statics = some a ∧ H[a]? = some cell ∧ cell.vm.isStatics = true ∧ cell.cls = c ∧ f.slot < cell.slots.size ∧ k.staticTypes[f.slot]? = some f.type ∧ cell.slots[f.slot]? = some v ∧ v.isRef = true ∧ a < B
theorem mx_Sl_of {C n d : String} {args : Array Value} {s : State} (hl : (Cond.laysStatic C n d).before args s = true) (h : (Cond.isRef (.static C n d)).before args s = true) : mx_Sl C n d s.heap.size s s.heap := by
  obtain ⟨c, k, i, f, a, cell, h1, h2, h3, h4, h5, h6, h7, h8, h9⟩ := Cond.laysStatic_spec hl
  have hv : cell.slots[f.slot]? = some cell.slots[f.slot] := Array.getElem?_eq_getElem h8
  generalize cell.slots[f.slot] = v at hv
  have he : (Term.static C n d).eval args s none [] s = some v := by
    simp [Term.eval, State.fieldNamed?, h2, h3, h4, h5, h6, hv]
  refine ⟨c, k, i, f, a, cell, v, h1, h2, h3, h4, h5, h6, h7, h8, h9, hv, ?_, (Array.getElem?_eq_some_iff.mp h5).1⟩
  simp only [Cond.before, Cond.holds, Cond.value, he] at h
  cases v <;> simp_all [Value.isRef]
theorem mx_Sl.go {C n d : String} {B : Nat} {u U : State} {H H1 : Heap} (hvm : u.vm.Alike U.vm) (hH : ∀ q : Nat, q < B → H1[q]? = H[q]?) (h : mx_Sl C n d B u H) : mx_Sl C n d B U H1 := by
  obtain ⟨c, k, i, f, a, cell, v, h1, h2, h3, h4, h5, h6, h7, h8, h9, h10, h11, h12⟩ := h
  obtain ⟨k', hi', he⟩ := State.fieldFound?_setVm hvm h2
  exact ⟨c, k', i, f, a, cell, v, by rw [hvm.findClass]; exact h1, hi', h3, by rw [he]; exact h4, by rw [hH a h12]; exact h5, h6, h7, h8, by rw [he]; exact h9, h10, h11, h12⟩
theorem mx_Sl.lays {C n d : String} {B : Nat} {s : State} {args : Array Value} (h : mx_Sl C n d B s s.heap) : (Cond.laysStatic C n d).before args s = true := by
  obtain ⟨c, k, i, f, a, cell, v, h1, h2, h3, h4, h5, h6, h7, h8, h9, -⟩ := h
  show (Cond.laysStatic C n d).holds args s none s [] = true
  exact Cond.laysStatic_of h1 h2 h3 h4 h5 h6 h7 h8 h9
theorem mx_Sl.isRef {C n d : String} {B : Nat} {s : State} {args : Array Value} (h : mx_Sl C n d B s s.heap) : (Cond.isRef (.static C n d)).before args s = true := by
  obtain ⟨c, k, i, f, a, cell, v, h1, h2, h3, h4, h5, h6, h7, h8, h9, h10, h11, -⟩ := h
  have he : (Term.static C n d).eval args s none [] s = some v := by
    simp [Term.eval, State.fieldNamed?, h2, h3, h4, h5, h6, h10]
  simp only [Cond.before, Cond.holds, Cond.value, he]
  cases v <;> simp_all [Value.isRef]
def mx_four : List Cond := [.isRef (.static Bundle.tN "UNASSIGNED_STACK" Bundle.steD), .isRef (.static Bundle.tN "SUPPRESSED_SENTINEL" Bundle.listD), .laysStatic Bundle.tN "UNASSIGNED_STACK" Bundle.steD, .laysStatic Bundle.tN "SUPPRESSED_SENTINEL" Bundle.listD]
def mx_Stt (G : mx_G) : Prop := mx_Sl Bundle.tN "UNASSIGNED_STACK" Bundle.steD (mx_B G) G.2.1 G.2.1.heap ∧ mx_Sl Bundle.tN "SUPPRESSED_SENTINEL" Bundle.listD (mx_B G) G.2.1 G.2.1.heap
/-! returns and heap -/
/-- a class's fields: their words, their types, their names -/
def mx_cls (C : String) (T : u_T) (n : Nat) (ty : Nat → FieldType) : Prop := (∀ w ∈ u_ws C T n, w ∈ lw_tbl) ∧ (∀ k, k < n → parseFieldDescriptor (T k).2.2.1 = some (ty k)) ∧ ∀ a, a < n → ∀ b, b < n → a ≠ b → (T a).2.1 ≠ (T b).2.1
def mx_ok (G : mx_G) : Prop := G.1.stackTraces = false ∧ va_K G.2.2.1 classes (mx_tys G.2.2.2) G.2.1 ∧ mx_Stt G
section MXH
variable {G : mx_G} {Y : mx_Y} {d bc bs : Nat} {ex : Bool} {N : Nat} {ce : Nat → va_E} {pc : Nat} {l : List (Nat × Value)} {r : List Value} {Q : mx_P}
variable {p : Program} {R : Room} {s : State} {m : MethodId} {args : Array Value} {meth : Method} {c : Code} {H : Heap} {locs : List Loc} {cells slots : Nat} {ls : Array Slot}
theorem mx_Kn (hG : mx_ok G) (h : mx_C G Y p s m args meth c) : va_K G.2.2.1 classes (mx_tys G.2.2.2) s := va_K.moved h.2.2.2.2.2.2.2.1 hG.2.1
theorem mx_wd (h : mx_C G Y p s m args meth c) {w : Cond} (hw : w ∈ lw_tbl) (hg : mx_gd w = true) : w.before args s = true := h.2.2.2.2.2.2.1.1 w hw hg
theorem mx_I_put {a i : Nat} (h : mx_I G Y d bc bs ex N ce l p R s m args meth c H locs cells slots ls) (ha : a < N) {e : va_E} {H' : Heap} (h1 : va_at G.2.2.1 classes (mx_B G + a, e) H') (h2 : H'.size = H.size) (h3 : ∀ q : Nat, q ≠ mx_B G + a → H'[q]? = H[q]?) :
    mx_I G Y d bc bs ex N (va_up ce a e) l p R s m args meth c H' (locs ++ [⟨mx_B G + a, i⟩]) cells slots ls :=
  ⟨h.1, ⟨by rw [← mx_w_set]; exact h.2.1.1.set mx_w_D (mx_w_at ha) h1 h3, h.2.1.2.put h2 h3 (Nat.le_add_right _ _)⟩, fun q => by rw [h2]; exact h.2.2.1 q, h.2.2.2⟩
theorem mx_I_new {n : Nat} (h : mx_I G Y d (bc + 1) (bs + n) true N ce l p R s m args meth c H locs cells slots ls) {e : va_E} {H' : Heap} (h1 : va_at G.2.2.1 classes (mx_B G + N, e) H') (h2 : H'.size = mx_B G + N + 1) (h3 : ∀ q : Nat, q < mx_B G + N → H'[q]? = H[q]?) :
    mx_I G Y d bc bs true (N + 1) (va_up ce N e) l p R s m args meth c H' locs (cells + 1) (slots + n) ls := by
  obtain ⟨hC, ⟨hP, hS⟩, hX, g1, g2, g3, g4, g5⟩ := h
  have hz := hX rfl
  refine ⟨hC, ⟨?_, ?_⟩, fun _ => by rw [h2]; omega, by omega, by omega, g3, g4, g5⟩
  · rw [← mx_w_push]
    refine (hP.kept (fun k q hk => h3 q.1 ?_)).app (fun k q hk => ?_)
    · rw [← hz]; exact (hP k q hk).lt
    · have hz : k < 1 := (List.getElem?_eq_some_iff.mp hk).1
      rw [show k = 0 by omega] at hk
      cases hk
      exact h1
  · refine ⟨by rw [h2]; exact Nat.le_trans (Nat.le_add_right _ _) (Nat.le_succ _), fun q k1 k2 => ?_, hS.2.2⟩
    rw [h3 q (Nat.lt_of_lt_of_le k1 (Nat.le_add_right _ _))]
    exact hS.2.1 q k1 k2
theorem mx_end {e : Env} {below : List Frame} {v : Option Value} {g : JFrame} (h : mx_I G Y d bc bs ex N ce l p R s m args meth c H locs cells slots ls) (hq : Q (.inl v) N ce bc bs)
    (k : W p G.1 e R s m args below meth c H locs cells slots (MQ below (fun _ _ o t => o = .returned v ∧ t.heap = H) args s cells slots (mx_A G)) g) : W p G.1 e R s m args below meth c H locs cells slots (mx_Z G ex R Q s below) g := by
  intro T hT X
  obtain ⟨t, a1, o, b1, b2, ⟨rfl, b4⟩, L, ⟨-, b5, b6⟩, b7⟩ := k T hT X
  exact ⟨t, a1, _, L, cells, slots, N, ce, bc, bs, b1, b2, b5, b6, ⟨by rw [b4]; exact h.2.1.1, by rw [b4]; exact ⟨h.2.1.2.1, h.2.1.2.2.1, b7⟩⟩, h.2.2.2.1, h.2.2.2.2.1, Or.inl ⟨v, rfl, by rw [b4]; exact h.2.2.1, hq⟩⟩
theorem mx_iret {v : Int32} (hr : Y.2.2.2.1 = some .int) (hd : decode Y.2.1 pc = .ok (.ireturn, 1)) (hq : Q (.inl (some (.int v))) N ce bc bs) : mx_M G Y d bc bs ex N ce pc l [.int v] Q :=
  fun p e R s m args below meth c H locs cells slots ls h => mx_end h hq (W.iret h.1.1 h.1.2.1 (h.1.2.2.2.1.trans hr) (fun _ ht _ => ⟨rfl, ht⟩) h.2.1.2.2.2 hd h.1.2.2.2.2.1)
theorem mx_zret {v : Int32} (hr : Y.2.2.2.1 = some .boolean) (hd : decode Y.2.1 pc = .ok (.ireturn, 1)) (hn : narrow .boolean (.int v) = .int v) (hq : Q (.inl (some (.int v))) N ce bc bs) : mx_M G Y d bc bs ex N ce pc l [.int v] Q :=
  fun p e R s m args below meth c H locs cells slots ls h => mx_end h hq (W.zret h.1.1 h.1.2.1 (h.1.2.2.2.1.trans hr) hn (fun _ ht _ => ⟨rfl, ht⟩) h.2.1.2.2.2 hd h.1.2.2.2.2.1)
theorem mx_lret {v : Int64} (hr : Y.2.2.2.1 = some .long) (hd : decode Y.2.1 pc = .ok (.lreturn, 1)) (hq : Q (.inl (some (.long v))) N ce bc bs) : mx_M G Y d bc bs ex N ce pc l [.long v] Q :=
  fun p e R s m args below meth c H locs cells slots ls h => mx_end h hq (W.lret h.1.1 h.1.2.1 (h.1.2.2.2.1.trans hr) (fun _ ht _ => ⟨rfl, ht⟩) h.2.1.2.2.2 hd h.1.2.2.2.2.1)
theorem mx_vret (hr : Y.2.2.2.1 = none) (hd : decode Y.2.1 pc = .ok (.return_, 1)) (hq : Q (.inl none) N ce bc bs) : mx_M G Y d bc bs ex N ce pc l [] Q :=
  fun p e R s m args below meth c H locs cells slots ls h => mx_end h hq (W.vret h.1.1 h.1.2.1 (h.1.2.2.2.1.trans hr) (fun _ ht _ => ⟨rfl, ht⟩) h.2.1.2.2.2 hd h.1.2.2.2.2.1)
theorem mx_aret {v : Nat} {rt : FieldType} (hr : Y.2.2.2.1 = some rt) (hrt : (∃ n, rt = .object n) ∨ ∃ t, rt = .array t) (hd : decode Y.2.1 pc = .ok (.areturn, 1)) (hq : Q (.inl (some (.ref v))) N ce bc bs) : mx_M G Y d bc bs ex N ce pc l [.ref v] Q :=
  fun p e R s m args below meth c H locs cells slots ls h => mx_end h hq (W.aret h.1.1 h.1.2.1 (h.1.2.2.2.1.trans hr) hrt (Or.inr ⟨_, rfl⟩) (fun _ ht _ => ⟨rfl, ht⟩) h.2.1.2.2.2 hd h.1.2.2.2.2.1)
theorem mx_getf (hG : mx_ok G) {idx ci kf a n : Nat} {C : String} {T : u_T} {ty : Nat → FieldType} {fs : List Value} {v : Value} (hd : decode Y.2.1 pc = .ok (.getfield idx, 3)) (hc : classes[ci]? = some (C, T, n)) (hcl : mx_cls C T n ty) (hk : kf < n) (hlink : Cond.fieldLink Y.1.cls idx (T kf).1 (T kf).2.1 (T kf).2.2.1 ∈ lw_tbl) (ha : a < N) (he : ce a = .inr (ci, fs)) (hv : fs[kf]? = some v)
    (k : mx_M G Y d bc bs ex N ce (pc + 3) l (v :: r) Q) : mx_M G Y d bc bs ex N ce pc l (.ref (mx_B G + a) :: r) Q :=
  fun p e R s m args below meth c H locs cells slots ls h => va_get (Ts := u_ws C T n) h.1.1 h.1.2.1 (fun w hw => mx_wd h.1 (hcl.1 w hw) (mx_lay_good hw)) (fun _ h9 => h9) h.1.2.2.2.2.2.1 (mx_Kn hG h.1) h.2.1.1 a (by rw [mx_w_at ha, he]) hc kf hk (mx_wd h.1 hlink rfl) (fun _ h9 => h9) hv hd (k p e R s m args below meth c H locs cells slots ls h)
theorem mx_putf (hG : mx_ok G) {idx ci kf a n : Nat} {C : String} {T : u_T} {ty : Nat → FieldType} {t : FieldType} {fs : List Value} {v : Value} (hd : decode Y.2.1 pc = .ok (.putfield idx, 3)) (hc : classes[ci]? = some (C, T, n)) (hcl : mx_cls C T n ty) (hk : kf < n) (hfin : (T kf).2.2.2 = false ∨ ((T kf).2.2.2 = true ∧ Y.1.name = "<init>" ∧ (T kf).1 = Y.1.cls)) (hlink : Cond.fieldLink Y.1.cls idx (T kf).1 (T kf).2.1 (T kf).2.2.1 ∈ lw_tbl) (ha : a < N) (he : ce a = .inr (ci, fs)) (hl : kf < fs.length) (hp : parseFieldDescriptor (T kf).2.2.1 = some t) (hn : narrow t v = v) (hfit : fits t v = true)
    (k : mx_M G Y d bc bs ex N (va_up ce a (.inr (ci, fs.set kf v))) (pc + 3) l r Q) : mx_M G Y d bc bs ex N ce pc l (v :: .ref (mx_B G + a) :: r) Q := by
  intro p e R s m args below meth c H locs cells slots ls h
  have hK := mx_Kn hG h.1
  have hts : ∀ w ∈ u_ws C T n, w.before args s = true := fun w hw => mx_wd h.1 (hcl.1 w hw) (mx_lay_good hw)
  have hap := va_apart (own := Y.1.cls) hts (fun _ h9 => h9) ty hcl.2.1 hcl.2.2 hK hc
  obtain ⟨r0, h1, cell, q1, q2, q3, q4⟩ := h.2.1.1 a (mx_B G + a, .inr (ci, fs)) (by rw [mx_w_at ha, he])
  have hr : r0 = (C, T, n) := Option.some.inj (h1.symm.trans hc)
  subst hr
  obtain ⟨hS, hfc, kC, hkC, hkind⟩ := hK.1 ci _ hc
  obtain ⟨cf, kfc, fi, f, hi, hsl⟩ := hS kf hk
  have hlay := hts _ (u_in_lay hk)
  have hst := (u_facts hfc hkC (u_lays hts (fun _ h9 => h9) hk) hi).1
  unfold u_lay at hlay
  have fin : ∀ H' : Heap, H'[mx_B G + a]? = some (cell.setSlot f.slot v) → H'.size = H.size → (∀ q : Nat, q ≠ mx_B G + a → H'[q]? = H[q]?) → mx_I G Y d bc bs ex N (va_up ce a (.inr (ci, fs.set kf v))) l p R s m args meth c H' (locs ++ [⟨mx_B G + a, f.slot⟩]) cells slots ls := by
    intro H' e1 e2 e3
    rw [hsl] at e1
    exact mx_I_put h ha ⟨_, hc, t_OB.to (V := updV (vp_V fs) kf v) ⟨_, e1, q2, q3, t_set q4 hap hk v⟩ (fun j _ => vp_updV_set hl v j)⟩ e2 e3
  rcases hfin with hf | ⟨hf, hin, hde⟩
  · rw [if_neg (by rw [hf]; decide)] at hlay
    have h6 := u_store hfc hkC hkind hlay hi hp hn hfit
    exact W.putK h.1.1 h.1.2.1 (f := f) ⟨h.1.2.2.2.2.2.1, mx_wd h.1 hlink rfl, ⟨_, _, _, hi⟩, hst⟩ (by rw [q2]; exact h6) q1 q3 (by rw [hsl]; exact k2_hasslot (q4 kf hk)) rfl rfl hd fun H' e1 e2 e3 => k p e R s m args below meth c H' _ cells slots ls (fin H' e1 e2 e3)
  · rw [if_pos hf] at hlay
    have hcf : m.cls = cf := by
      obtain ⟨_, _, c', _, _, _, -, -, hf', -, -, -, hown2, -⟩ := Cond.laysFinal_spec hlay
      have e1 : c' = cf := by have := hi.symm.trans hf'; simp at this; exact this.1.symm
      rw [hde] at hown2
      rw [← e1]; exact Option.some.inj (h.1.2.2.2.2.2.1.symm.trans hown2)
    have h6 := u_fits hfc hkC hkind (Or.inr hlay) hi hp hn hfit
    exact W.putFinK h.1.1 h.1.2.1 h.1.2.2.2.2.2.1 (mx_wd h.1 hlink rfl) hi hst hcf (h.1.2.2.2.2.2.2.2.2.1.trans hin) (by rw [q2]; exact h6) q1 q3 (by rw [hsl]; exact k2_hasslot (q4 kf hk)) rfl rfl hd fun H' e1 e2 e3 => k p e R s m args below meth c H' _ cells slots ls (fin H' e1 e2 e3)
theorem mx_new (hG : mx_ok G) {idx ci n : Nat} {C : String} {T : u_T} {ty : Nat → FieldType} (fs : List Value) (hd : decode Y.2.1 pc = .ok (.new idx, 3)) (hc : classes[ci]? = some (C, T, n)) (hcl : mx_cls C T n ty) (hlk : Cond.classLink Y.1.cls idx C ∈ lw_tbl) (hins : Cond.instantiable C n ∈ lw_tbl) (hini : Cond.initialized C ∈ lw_tbl) (hfs : ∀ j, j < n → defaultValue (ty j) = vp_V fs j)
    (k : mx_M G Y d bc bs true (N + 1) (va_up ce N (.inr (ci, fs))) (pc + 3) l (.ref (mx_B G + N) :: r) Q) : mx_M G Y d (bc + 1) (bs + n) true N ce pc l r Q := by
  intro p e R s m args below meth c H locs cells slots ls h
  have hKn := (mx_Kn hG h.1).1 ci _ hc
  have g1 := h.2.2.2.1
  have g2 := h.2.2.2.2.1
  refine W.newcK h.1.1 h.1.2.1 h.1.2.2.2.2.2.1 (mx_wd h.1 hlk rfl) (mx_wd h.1 hins rfl) (mx_wd h.1 hini rfl) rfl hd (by omega) (by omega) hKn.2.1 (h.2.2.1 rfl) fun H1 kC hkC e1 z1 o1 => ?_
  exact k p e R s m args below meth c H1 locs (cells + 1) (slots + n) ls (mx_I_new h ⟨_, hc, (u_born ty (fun w hw => mx_wd h.1 (hcl.1 w hw) (mx_lay_good hw)) (fun _ h9 => h9) hKn hkC e1 hcl.2.1).to hfs⟩ z1 o1)
theorem mx_newa (hG : mx_ok G) {atype : ArrayType} {ty : FieldType} (t0 : Nat) {tA : ClassId} {x : Int32} {n : Nat} {a0 : vp_A} (hd : decode Y.2.1 pc = .ok (.newarray atype, 2)) (hty : newarray.typeOf atype = ty) (ht : (mx_tys G.2.2.2)[t0]? = some (tA, ty)) (hRA : ∀ (U : State) (cA : ClassId), va_RA U cA ty → U.vm.findClass ("[" ++ ty.toString) = some cA) (harr : Cond.arrayClass ty ∈ lw_tbl) (hx : x = iI n) (hn : n * componentBytes ty ≤ 536870912) (hn2 : n < 2 ^ 31) (ha : ∀ cA : ClassId, vp_cell cA a0 = arrV cA n (fun _ => defaultValue ty))
    (k : mx_M G Y d bc bs true (N + 1) (va_up ce N (.inl (tA, a0))) (pc + 2) l (.ref (mx_B G + N) :: r) Q) : mx_M G Y d (bc + 1) (bs + n) true N ce pc l (.int x :: r) Q := by
  intro p e R s m args below meth c H locs cells slots ls h
  subst hty
  have g1 := h.2.2.2.1
  have g2 := h.2.2.2.2.1
  have hT := (mx_Kn hG h.1).2 t0 _ ht
  refine va_newaK h.1.1 h.1.2.1 (mx_wd h.1 harr rfl) rfl hd rfl (by rw [hx]; exact iI_nneg hn2) (N := n) (by rw [hx]; exact iI_clamp hn2) hn (by omega) (by omega) (h.2.2.1 rfl) fun H1 cA e1 z1 o1 hA hNm => ?_
  have hcA : cA = tA := Option.some.inj (hNm.symm.trans (hRA s tA hT.2))
  subst hcA
  refine k p e R s m args below meth c H1 locs (cells + 1) (slots + n) ls (mx_I_new h ?_ z1 o1)
  show H1[_]? = some (vp_cell _ _)
  rw [ha]
  exact e1
theorem mx_newq (hG : mx_ok G) {idx : Nat} {C : String} (t0 : Nat) {tA : ClassId} {x : Int32} {n : Nat} (hd : decode Y.2.1 pc = .ok (.anewarray idx, 3)) (ht : (mx_tys G.2.2.2)[t0]? = some (tA, .object C)) (hlk : Cond.classLink Y.1.cls idx C ∈ lw_tbl) (hov : Cond.arrayOver (.object C) ∈ lw_tbl) (hx : x = iI n) (hn : n * 4 ≤ 536870912)
    (k : mx_M G Y d bc bs true (N + 1) (va_up ce N (.inl (tA, n, .inr (.inr (.inr (.inr (fun _ => none))))))) (pc + 3) l (.ref (mx_B G + N) :: r) Q) : mx_M G Y d (bc + 1) (bs + n) true N ce pc l (.int x :: r) Q := by
  intro p e R s m args below meth c H locs cells slots ls h
  have hn2 : n < 2 ^ 31 := by omega
  have g1 := h.2.2.2.1
  have g2 := h.2.2.2.2.1
  have hz := h.2.2.1 rfl
  have hT := (mx_Kn hG h.1).2 t0 _ ht
  have hcn : x.toNatClampNeg = n := by rw [hx]; exact iI_clamp hn2
  refine W.anew h.1.1 h.1.2.1 h.1.2.2.2.2.2.1 (mx_wd h.1 hlk rfl) (mx_wd h.1 hov rfl) rfl hd rfl (by rw [hx]; exact iI_nneg hn2) (by rw [hcn]; exact hn) (by omega) (by rw [hcn]; omega) fun cA kA comp f1 f2 f3 f4 => ?_
  obtain ⟨kA', comp', u1, u2, u3, u4⟩ := hT.2
  have hcA : cA = tA := Option.some.inj (f1.symm.trans u4)
  subst hcA
  rw [hcn]
  generalize hH1 : H.push ({ cls := cA, slots := Array.replicate n .null, vm := .none } : Cell) = H1
  have z1 : H1.size = H.size + 1 := by rw [← hH1, Array.size_push]
  have e1 : H1[H.size]? = some (arrV cA n (fun _ => .null)) := by rw [← hH1, Array.getElem?_push_size, ← arrV_new]
  have o1 : ∀ q : Nat, q < H.size → H1[q]? = H[q]? := fun q hq => by rw [← hH1, Array.getElem?_push, if_neg (Nat.ne_of_lt hq)]
  rw [hz] at z1 e1 o1
  have := k p e R s m args below meth c H1 locs (cells + 1) (slots + n) ls (mx_I_new h (by show H1[_]? = some (vp_cell _ _); rw [vp_cell_q]; exact e1) z1 o1)
  rw [hz]
  exact this
theorem mx_iald (hG : mx_ok G) {a n : Nat} {tA : ClassId} {f : Nat → Int32} (t0 : Nat) (j : Nat) {i : Int32} (hd : decode Y.2.1 pc = .ok (.iaload, 1)) (ha : a < N) (he : ce a = .inl (tA, n, .inl f)) (ht : (mx_tys G.2.2.2)[t0]? = some (tA, .int)) (hi : i = iI j) (hj : j < n) (hn : n < 2 ^ 31)
    (k : mx_M G Y d bc bs ex N ce (pc + 1) l (.int (f j) :: r) Q) : mx_M G Y d bc bs ex N ce pc l (.int i :: .ref (mx_B G + a) :: r) Q := by
  intro p e R s m args below meth c H locs cells slots ls h
  subst hi
  have hc := iI_clamp (Nat.lt_trans hj hn)
  refine va_iald h.1.1 h.1.2.1 (mx_Kn hG h.1) h.2.1.1 a t0 (by rw [mx_w_at ha, he]) ht (iI_in hj hn) hd ?_
  rw [hc]
  exact k p e R s m args below meth c H locs cells slots ls h
theorem mx_zald (hG : mx_ok G) {a n : Nat} {tA : ClassId} {f : Nat → Int32} (t0 : Nat) (j : Nat) {i : Int32} (hd : decode Y.2.1 pc = .ok (.baload, 1)) (ha : a < N) (he : ce a = .inl (tA, n, .inl f)) (ht : (mx_tys G.2.2.2)[t0]? = some (tA, .boolean)) (hi : i = iI j) (hj : j < n) (hn : n < 2 ^ 31)
    (k : mx_M G Y d bc bs ex N ce (pc + 1) l (.int (f j) :: r) Q) : mx_M G Y d bc bs ex N ce pc l (.int i :: .ref (mx_B G + a) :: r) Q := by
  intro p e R s m args below meth c H locs cells slots ls h
  subst hi
  have hc := iI_clamp (Nat.lt_trans hj hn)
  refine va_zald h.1.1 h.1.2.1 (mx_Kn hG h.1) h.2.1.1 a t0 (by rw [mx_w_at ha, he]) ht (iI_in hj hn) hd ?_
  rw [hc]
  exact k p e R s m args below meth c H locs cells slots ls h
theorem mx_lald (hG : mx_ok G) {a n : Nat} {tA : ClassId} {f : Nat → Int64} (t0 : Nat) (j : Nat) {i : Int32} (hd : decode Y.2.1 pc = .ok (.laload, 1)) (ha : a < N) (he : ce a = .inl (tA, n, .inr (.inl f))) (ht : (mx_tys G.2.2.2)[t0]? = some (tA, .long)) (hi : i = iI j) (hj : j < n) (hn : n < 2 ^ 31)
    (k : mx_M G Y d bc bs ex N ce (pc + 1) l (.long (f j) :: r) Q) : mx_M G Y d bc bs ex N ce pc l (.int i :: .ref (mx_B G + a) :: r) Q := by
  intro p e R s m args below meth c H locs cells slots ls h
  subst hi
  have hc := iI_clamp (Nat.lt_trans hj hn)
  refine va_lald h.1.1 h.1.2.1 (mx_Kn hG h.1) h.2.1.1 a t0 (by rw [mx_w_at ha, he]) ht (iI_in hj hn) hd ?_
  rw [hc]
  exact k p e R s m args below meth c H locs cells slots ls h
theorem mx_aald (hG : mx_ok G) {a n : Nat} {tA : ClassId} {ty : FieldType} {f : Nat → Option Nat} (t0 : Nat) (j : Nat) {i : Int32} {v : Nat} (hd : decode Y.2.1 pc = .ok (.aaload, 1)) (ha : a < N) (he : ce a = .inl (tA, n, .inr (.inr (.inr (.inr f))))) (ht : (mx_tys G.2.2.2)[t0]? = some (tA, ty)) (hty : ty.isReference = true) (hi : i = iI j) (hj : j < n) (hn : n < 2 ^ 31) (hv : f j = some v)
    (k : mx_M G Y d bc bs ex N ce (pc + 1) l (.ref v :: r) Q) : mx_M G Y d bc bs ex N ce pc l (.int i :: .ref (mx_B G + a) :: r) Q := by
  intro p e R s m args below meth c H locs cells slots ls h
  subst hi
  have hc := iI_clamp (Nat.lt_trans hj hn)
  have hcell : H[mx_B G + a]? = some (vp_cell tA (n, .inr (.inr (.inr (.inr f))))) := h.2.1.1 a (mx_B G + a, .inl (tA, n, .inr (.inr (.inr (.inr f))))) (by rw [mx_w_at ha, he])
  refine W.aald (v := va_rf (f (iI j).toNatClampNeg)) (ty := ty) h.1.1 h.1.2.1 hcell (((mx_Kn hG h.1).2 t0 _ ht).1 n (fun j => va_rf (f j))) hty (fun q => by cases q) (by show ¬ (iI j < 0 ∨ (arrV _ _ _).slots.size ≤ _); rw [arrV_size]; exact iI_in hj hn) (by show (arrV _ _ _).slots[_]? = _; rw [arrV_read _ _ (by rw [hc]; exact hj)]) rfl rfl hd ?_
  rw [hc, hv]
  exact k p e R s m args below meth c H locs cells slots ls h
theorem mx_alen (hG : mx_ok G) {a : Nat} {tA : ClassId} {x : vp_A} {ty : FieldType} (t0 : Nat) (hd : decode Y.2.1 pc = .ok (.arraylength, 1)) (ha : a < N) (he : ce a = .inl (tA, x)) (ht : (mx_tys G.2.2.2)[t0]? = some (tA, ty))
    (k : mx_M G Y d bc bs ex N ce (pc + 1) l (.int (iI x.1) :: r) Q) : mx_M G Y d bc bs ex N ce pc l (.ref (mx_B G + a) :: r) Q :=
  fun p e R s m args below meth c H locs cells slots ls h => va_alen h.1.1 h.1.2.1 (mx_Kn hG h.1) h.2.1.1 a t0 (by rw [mx_w_at ha, he]) ht (iI_nat x.1).symm hd (k p e R s m args below meth c H locs cells slots ls h)
theorem mx_iast (hG : mx_ok G) {a n : Nat} {tA : ClassId} {f : Nat → Int32} (t0 : Nat) (j : Nat) {i x : Int32} (hd : decode Y.2.1 pc = .ok (.iastore, 1)) (ha : a < N) (he : ce a = .inl (tA, n, .inl f)) (ht : (mx_tys G.2.2.2)[t0]? = some (tA, .int)) (hi : i = iI j) (hj : j < n) (hn : n < 2 ^ 31)
    (k : mx_M G Y d bc bs ex N (va_up ce a (.inl (tA, n, .inl (va_up f j x)))) (pc + 1) l r Q) : mx_M G Y d bc bs ex N ce pc l (.int x :: .int i :: .ref (mx_B G + a) :: r) Q := by
  intro p e R s m args below meth c H locs cells slots ls h
  subst hi
  have hc := iI_clamp (Nat.lt_trans hj hn)
  have hcell : H[mx_B G + a]? = some (vp_cell tA (n, .inl f)) := h.2.1.1 a (mx_B G + a, .inl (tA, n, .inl f)) (by rw [mx_w_at ha, he])
  refine W.iast h.1.1 h.1.2.1 hcell (((mx_Kn hG h.1).2 t0 _ ht).1 n (fun j => .int (f j))) (fun q => by cases q) (by show ¬ (iI j < 0 ∨ (arrV _ _ _).slots.size ≤ _); rw [arrV_size]; exact iI_in hj hn) rfl rfl hd fun H1 e1 z oq => ?_
  refine k p e R s m args below meth c H1 _ cells slots ls (mx_I_put h ha ?_ z oq)
  show H1[_]? = some (vp_cell _ _)
  rw [e1, hc]
  rw [vp_cell_i, vp_cell_i, arrV_store]
  congr 2
  funext q
  by_cases hq : q = j <;> simp [updV, va_up, hq]
theorem mx_zast (hG : mx_ok G) {a n : Nat} {tA : ClassId} {f : Nat → Int32} (t0 : Nat) (j : Nat) {i x : Int32} (hd : decode Y.2.1 pc = .ok (.bastore, 1)) (ha : a < N) (he : ce a = .inl (tA, n, .inl f)) (ht : (mx_tys G.2.2.2)[t0]? = some (tA, .boolean)) (hi : i = iI j) (hj : j < n) (hn : n < 2 ^ 31) (hx : narrow .boolean (.int x) = .int x)
    (k : mx_M G Y d bc bs ex N (va_up ce a (.inl (tA, n, .inl (va_up f j x)))) (pc + 1) l r Q) : mx_M G Y d bc bs ex N ce pc l (.int x :: .int i :: .ref (mx_B G + a) :: r) Q := by
  intro p e R s m args below meth c H locs cells slots ls h
  subst hi
  have hc := iI_clamp (Nat.lt_trans hj hn)
  have hcell : H[mx_B G + a]? = some (vp_cell tA (n, .inl f)) := h.2.1.1 a (mx_B G + a, .inl (tA, n, .inl f)) (by rw [mx_w_at ha, he])
  refine W.zast h.1.1 h.1.2.1 hcell (((mx_Kn hG h.1).2 t0 _ ht).1 n (fun j => .int (f j))) (fun q => by cases q) (by show ¬ (iI j < 0 ∨ (arrV _ _ _).slots.size ≤ _); rw [arrV_size]; exact iI_in hj hn) rfl rfl hd fun H1 e1 z oq => ?_
  refine k p e R s m args below meth c H1 _ cells slots ls (mx_I_put h ha ?_ z oq)
  show H1[_]? = some (vp_cell _ _)
  rw [e1, hc, hx]
  rw [vp_cell_i, vp_cell_i, arrV_store]
  congr 2
  funext q
  by_cases hq : q = j <;> simp [updV, va_up, hq]
theorem mx_last (hG : mx_ok G) {a n : Nat} {tA : ClassId} {f : Nat → Int64} (t0 : Nat) (j : Nat) {i : Int32} {x : Int64} (hd : decode Y.2.1 pc = .ok (.lastore, 1)) (ha : a < N) (he : ce a = .inl (tA, n, .inr (.inl f))) (ht : (mx_tys G.2.2.2)[t0]? = some (tA, .long)) (hi : i = iI j) (hj : j < n) (hn : n < 2 ^ 31)
    (k : mx_M G Y d bc bs ex N (va_up ce a (.inl (tA, n, .inr (.inl (va_up f j x))))) (pc + 1) l r Q) : mx_M G Y d bc bs ex N ce pc l (.long x :: .int i :: .ref (mx_B G + a) :: r) Q := by
  intro p e R s m args below meth c H locs cells slots ls h
  subst hi
  have hc := iI_clamp (Nat.lt_trans hj hn)
  have hcell : H[mx_B G + a]? = some (vp_cell tA (n, .inr (.inl f))) := h.2.1.1 a (mx_B G + a, .inl (tA, n, .inr (.inl f))) (by rw [mx_w_at ha, he])
  refine W.last h.1.1 h.1.2.1 hcell (((mx_Kn hG h.1).2 t0 _ ht).1 n (fun j => .long (f j))) (fun q => by cases q) (by show ¬ (iI j < 0 ∨ (arrV _ _ _).slots.size ≤ _); rw [arrV_size]; exact iI_in hj hn) rfl rfl hd fun H1 e1 z oq => ?_
  refine k p e R s m args below meth c H1 _ cells slots ls (mx_I_put h ha ?_ z oq)
  show H1[_]? = some (vp_cell _ _)
  rw [e1, hc]
  rw [vp_cell_l, vp_cell_l, arrV_store]
  congr 2
  funext q
  by_cases hq : q = j <;> simp [updV, va_up, hq]
theorem mx_aast (hG : mx_ok G) {a b n ci : Nat} {tA : ClassId} {r0 : vw_C} {vs : List Value} {f : Nat → Option Nat} (t0 : Nat) (j : Nat) {i : Int32} (hd : decode Y.2.1 pc = .ok (.aastore, 1)) (ha : a < N) (he : ce a = .inl (tA, n, .inr (.inr (.inr (.inr f))))) (ht : (mx_tys G.2.2.2)[t0]? = some (tA, .object r0.1)) (hb : b < N) (hv : ce b = .inr (ci, vs)) (hcl : classes[ci]? = some r0) (hi : i = iI j) (hj : j < n) (hn : n < 2 ^ 31)
    (k : mx_M G Y d bc bs ex N (va_up ce a (.inl (tA, n, .inr (.inr (.inr (.inr (va_up f j (some (mx_B G + b))))))))) (pc + 1) l r Q) : mx_M G Y d bc bs ex N ce pc l (.ref (mx_B G + b) :: .int i :: .ref (mx_B G + a) :: r) Q := by
  intro p e R s m args below meth c H locs cells slots ls h
  subst hi
  have hc := iI_clamp (Nat.lt_trans hj hn)
  have hcell : H[mx_B G + a]? = some (vp_cell tA (n, .inr (.inr (.inr (.inr f))))) := h.2.1.1 a (mx_B G + a, .inl (tA, n, .inr (.inr (.inr (.inr f))))) (by rw [mx_w_at ha, he])
  have hK := mx_Kn hG h.1
  have hin : vp_in (iI j) n := iI_in hj hn
  have h0 : ¬ iI j < 0 := fun q => hin (Or.inl q)
  obtain ⟨r', hr', cellV, g1, g2, g3, -⟩ := h.2.1.1 b (mx_B G + b, .inr (ci, vs)) (by rw [mx_w_at hb, hv])
  have hcls := (hK.1 ci r0 hcl).2
  obtain ⟨kA, comp, k1, k2, k3, -⟩ := (hK.2 t0 _ ht).2
  have hcomp : comp = G.2.2.1.1 ci := Option.some.inj (k3.symm.trans hcls.1)
  subst hcomp
  obtain ⟨kC, hkC, -⟩ := hcls.2
  refine W.aast h.1.1 h.1.2.1 hcell (fun q h => by cases h) (fun h => by cases h) k1 k2 rfl hkC ⟨h0, by show _ < (arrV _ _ _).slots.size; rw [arrV_size, hc]; exact hj⟩ g1 (fun q h => by rw [g3] at h; cases h) (by rw [g2]; exact hkC) (by rw [g2]; exact va_assign hcls) rfl rfl hd fun H1 e1 z oq => ?_
  refine k p e R s m args below meth c H1 _ cells slots ls (mx_I_put h ha ?_ z oq)
  show H1[_]? = some (vp_cell _ _)
  rw [e1, hc]
  rw [vp_cell_q, vp_cell_q, arrV_store]
  congr 2
  funext q
  by_cases hq : q = j <;> simp [updV, va_up, hq, va_rf]
end MXH
end
section
/-! calls: the callee is walked where it stands; it returns, or throws -/
theorem mx_weaken {tb : Tables} {e : Env} {f : Frame} {below : List Frame} {a b : State} (h : Steps tb e (f :: below) a b) : Steps tb e below a b := by
  obtain ⟨n, hn, w⟩ := h
  exact ⟨n, hn, fun k hk => (show Within _ ([f] ++ below) from w k hk).weaken⟩
/-- Y is a method of the tables -/
def mx_in (Y : mx_Y) : Prop := plainName Y.1.cls = true ∧ (Y.1.cls ≠ "java/lang/invoke/MethodHandle" ∧ Y.1.cls ≠ "java/lang/invoke/VarHandle") ∧ Cond.initialized Y.1.cls ∈ lw_tbl ∧ ((Cond.code Y.1 Y.2.1 Y.2.2.1 Y.2.2.2.1 ∈ lw_tbl ∧ Y.2.2.2.2 = []) ∨ Cond.codeWith Y.1 Y.2.1 Y.2.2.1 Y.2.2.2.1 Y.2.2.2.2 ∈ lw_tbl)
theorem mx_facts {Y : mx_Y} {args : Array Value} {s : State} (h : mx_Ws args s) (hY : mx_in Y) : ∃ (mk : MethodId) (meth : Method) (c : Code), s.methodNamed? Y.1 = some mk ∧ s.vm.method? mk = some meth ∧ meth.code = some c ∧ c.code = Y.2.1 ∧ c.maxLocals = Y.2.2.1 ∧ meth.sig.returnType = Y.2.2.2.1 ∧ meth.locks = false ∧ c.exceptionTable.toList.map (fun h => (h.startPc, h.endPc, h.handlerPc, h.catchType)) = Y.2.2.2.2 ∧ parseMethodDescriptor Y.1.desc = some meth.sig := by
  rcases hY.2.2.2 with ⟨hc, he⟩ | hc
  · have hw := h.1 _ hc rfl
    obtain ⟨mk, hn⟩ := Cond.code_named hw
    obtain ⟨meth, c, h1, h2, h3, h4, h5, h6, h7, h8⟩ := Cond.code_spec hn hw
    refine ⟨mk, meth, c, hn, h1, h2, h3, h4, h5, h6, ?_, h8⟩
    rw [he]
    have h9 : c.exceptionTable = #[] := by simpa using h7
    rw [h9]
    rfl
  · obtain ⟨mk, meth, c, hn, h1, h2, h3, h4, h5, h6, h7, h8⟩ := Cond.codeWith_spec (h.1 _ hc rfl)
    exact ⟨mk, meth, c, hn, h1, h2, h3, h4, h6, h7, h5, h8⟩
theorem mx_heapTop (T : State) (g : JFrame) : (T.setTop g).heap = T.heap := by
  first | rfl | simp [State.setTop, State.modifyTopJava]
theorem mx_heapPush (T : State) (g : JFrame) (f : Frame) : ((T.setTop g).pushFrame f).heap = T.heap := by
  first | rfl | simp [State.pushFrame, State.setFrames, State.setTop, State.modifyTopJava]
/-- what goes on behind a call: with the answer, or with what was thrown -/
def mx_K (G : mx_G) (Y : mx_Y) (d : Nat) (ex : Bool) (pc : Nat) (l : List (Nat × Value)) (r : List Value) (Q : mx_P) : mx_P := fun o N ce bc bs => match o with
  | .inl none => mx_M G Y d bc bs ex N ce pc l r Q
  | .inl (some v) => mx_M G Y d bc bs ex N ce pc l (v :: r) Q
  | .inr E => Q (.inr E) N ce bc bs
def mx_free (Y : mx_Y) (pc : Nat) : Prop := Y.2.2.2.2.all (fun h => !(decide (h.1 ≤ pc) && decide (pc < h.2.1))) = true
section MXC
variable {G : mx_G} {Y Y' : mx_Y} {d bc bs : Nat} {ex : Bool} {N : Nat} {ce : Nat → va_E} {pc : Nat} {l : List (Nat × Value)} {r : List Value} {Q Q' : mx_P}
variable {p : Program} {e : Env} {R : Room} {s : State} {m : MethodId} {args : Array Value} {below : List Frame} {meth : Method} {c : Code} {T : State} {locs : List Loc} {cells slots : Nat} {ls : Array Slot}
theorem mx_enter (X : Stand p G.1 e R s m args below meth c T locs cells slots) (hI : mx_I G Y (d + 1) bc bs ex N ce l p R s m args meth c T.heap locs cells slots ls) {mk : MethodId} {methk : Method} {ck : Code} (hY : mx_in Y')
    (f1 : s.methodNamed? Y'.1 = some mk) (f2 : s.vm.method? mk = some methk) (f3 : methk.code = some ck) (f4 : ck.code = Y'.2.1) (f5 : ck.maxLocals = Y'.2.2.1) (f6 : methk.sig.returnType = Y'.2.2.2.1) (f7 : methk.locks = false) (f8 : ck.exceptionTable.toList.map (fun h => (h.startPc, h.endPc, h.handlerPc, h.catchType)) = Y'.2.2.2.2)
    {g : JFrame} (hg : g.method = m) (hsize : g.locals.size = c.maxLocals) (hmon : g.monitorRoom = 0) {ig : Instr} {len : Nat} (hdg : decode c.code g.pc = .ok (ig, len)) {as : List Value} (has : (lg_sl as).length ≤ Y'.2.2.1) (hst : (g.stack.map fun v => v.category).sum + Y'.2.2.1 ≤ 21)
    (hM : mx_M G Y' d bc bs ex N ce 0 (lv_args 0 as) [] Q') :
    (∃ (v : Option Value) (T' : State) (L : List Loc) (k n N' : Nat) (ce' : Nat → va_E) (bc' bs' : Nat), Stand p G.1 e R s m args below meth c T' (locs ++ L) (cells + k) (slots + n) ∧ mx_I G Y (d + 1) bc' bs' ex N' ce' l p R s m args meth c T'.heap (locs ++ L) (cells + k) (slots + n) ls ∧ Q' (.inl v) N' ce' bc' bs' ∧
      ∀ acts, Steps p.tables e below (doInvoke e (T.setTop g) acts mk as.toArray).1 (T'.setTop { g with pc := g.pc + len, stack := v.toList ++ g.stack })) ∨
    (∃ (q : Addr) (E : String) (c0 : Cell) (T' : State) (L : List Loc) (k n N' : Nat) (ce' : Nat → va_E) (bc' bs' : Nat), Stand p G.1 e R s m args below meth c T' (locs ++ L) (cells + k) (slots + n) ∧ mx_I G Y (d + 1) bc' bs' false N' ce' l p R s m args meth c T'.heap (locs ++ L) (cells + k) (slots + n) ls ∧ T'.heap[q]? = some c0 ∧ c0.vm = .none ∧ G.2.1.vm.findClass E = some c0.cls ∧ Q' (.inr E) N' ce' bc' bs' ∧
      ∀ acts, Steps p.tables e below (doInvoke e (T.setTop g) acts mk as.toArray).1 ((T'.setTop g).pushFrame (.throwing q))) := by
  obtain ⟨hC, hH, hX, g1, g2, g3, g4, g5⟩ := hI
  have hnT : T.methodNamed? Y'.1 = some mk := X.named f1
  have hmT : T.vm.method? mk = some methk := by rw [X.warmed.alike.method?]; exact f2
  obtain ⟨Y0, hin⟩ := X.into hg hsize hdg as.toArray (R' := { frames := d + 1, cells := bc, slots := bs, locals := 32 * d + 70 }) hmT f3 f7 (State.plainMethod.of_named (plainFor_of_name hY.1) hnT hmT)
    (by show d + 1 + 1 ≤ R.frames; omega) (by rw [hmon, f5]; show 2 * 0 + _ + (Y'.2.2.1 + 11) + (32 * d + 70) ≤ R.locals; omega) g1 g2
  have K := hM p e { frames := d + 1, cells := bc, slots := bs, locals := 32 * d + 70 } (T.calling g mk as.toArray) mk as.toArray (.java g :: below) methk ck T.heap [] 0 0 _
    ⟨⟨hC.1, f4, f5, f6, f7, findClass_of_methodNamed hnT, hC.2.2.2.2.2.2.1.at (U := T.calling g mk as.toArray) X.warmed, hC.2.2.2.2.2.2.2.1.trans X.warmed.alike, (name_of_methodNamed f1 f2).1, f8⟩,
      ⟨hH.1, hH.2.1, hH.2.2.1, fun q hq => nomatch hq⟩, hX, by show 0 + bc ≤ bc; omega, by show 0 + bs ≤ bs; omega, by show d + 1 ≤ d + 1; omega, by show 32 * d + 70 ≤ 32 * d + 70; omega, lv_entry as has⟩
  obtain ⟨t, st, o, L, k, n, N', ce', bc', bs', hrun, hend, hW, hsame, hH', hk, hn, hO⟩ := K _ (mx_heapPush T g _) Y0
  have hsteps : ∀ acts, Steps p.tables e below (doInvoke e (T.setTop g) acts mk as.toArray).1 t := fun acts => by
    rw [hin acts]
    refine mx_weaken (f := .java g) ?_
    rw [f5] at st ⊢
    rw [lg_entry_eq] at st ⊢
    exact st
  have hk' : k + bc' ≤ bc := hk
  have hn' : n + bs' ≤ bs := hn
  have hL : ∀ q ∈ locs ++ L, mx_A G q.base := fun q hq => (List.mem_append.mp hq).elim (hH.2.2.2 q) (hH'.2.2.2 q)
  rcases hO with ⟨v, rfl, hx, hq⟩ | ⟨q, E, c0, rfl, h1, h2, h3, hq⟩
  · obtain ⟨T', X', -, -, ht⟩ := X.outOf hg hdg hend hW hsame
    have hh : t.heap = T'.heap := by rw [ht]; exact mx_heapTop T' _
    rw [hh] at hH' hx
    exact Or.inl ⟨v, T', L, k, n, N', ce', bc', bs', X', ⟨hC, ⟨hH'.1, hH'.2.1, hH'.2.2.1, hL⟩, hx, by omega, by omega, g3, g4, g5⟩, hq, fun acts => by rw [← ht]; exact hsteps acts⟩
  · obtain ⟨T', X', -, -, ht⟩ := X.outOfThrown hg hend hW hsame
    have hh : t.heap = T'.heap := by rw [ht]; exact mx_heapPush T' _ _
    rw [hh] at hH' h1
    exact Or.inr ⟨q, E, c0, T', L, k, n, N', ce', bc', bs', X', ⟨hC, ⟨hH'.1, hH'.2.1, hH'.2.2.1, hL⟩, (fun h => by cases h), by omega, by omega, g3, g4, g5⟩, h1, h2, h3, hq, fun acts => by rw [← ht]; exact hsteps acts⟩
/-- what was thrown is caught by nobody here: the method throws it -/
theorem mx_out (X : Stand p G.1 e R s m args below meth c T locs cells slots) (hI : mx_I G Y d bc bs false N ce l p R s m args meth c T.heap locs cells slots ls) {q : Addr} {E : String} {c0 : Cell} (h1 : T.heap[q]? = some c0) (h2 : c0.vm = .none) (h3 : G.2.1.vm.findClass E = some c0.cls) {g : JFrame} (hg : g.method = m) (hlk : g.locked = none) (hen : g.entered = []) (hno : mx_free Y g.pc) (hq : Q (.inr E) N ce bc bs) :
    ∃ t, Steps p.tables e below ((T.setTop g).pushFrame (.throwing q)) t ∧ mx_Z G ex R Q s below t := by
  have hout : ∀ x ∈ c.exceptionTable.toList, covers x g.pc = false := by
    intro x hx
    have hm : (x.startPc, x.endPc, x.handlerPc, x.catchType) ∈ Y.2.2.2.2 := by
      rw [← hI.1.2.2.2.2.2.2.2.2.2]
      exact List.mem_map.mpr ⟨x, hx, rfl⟩
    have h9 := List.all_eq_true.mp hno _ hm
    simp only [Bool.not_eq_true', Bool.and_eq_false_iff, decide_eq_false_iff_not] at h9
    simp only [covers, Bool.and_eq_false_iff, decide_eq_false_iff_not]
    exact h9
  obtain ⟨a1, a2, a3, a4, a5⟩ := X.leaveThrown q hg hlk hen hout hI.1.2.2.2.2.1
  exact ⟨_, a1, _, locs, cells, slots, N, ce, bc, bs, a2, a3, a4, a5, hI.2.1, hI.2.2.2.1, hI.2.2.2.2.1, Or.inr ⟨q, E, c0, rfl, h1, h2, h3, hq⟩⟩
/-- a call, once it is linked -/
theorem mx_fin {vm1 : Vm} (X : Stand p G.1 e R s m args below meth c (T.setVm vm1) locs cells slots) (hI : mx_I G Y (d + 1) bc bs ex N ce l p R s m args meth c T.heap locs cells slots ls) {mk : MethodId} {methk : Method} {ck : Code} (hY : mx_in Y')
    (f1 : s.methodNamed? Y'.1 = some mk) (f2 : s.vm.method? mk = some methk) (f3 : methk.code = some ck) (f4 : ck.code = Y'.2.1) (f5 : ck.maxLocals = Y'.2.2.1) (f6 : methk.sig.returnType = Y'.2.2.2.1) (f7 : methk.locks = false) (f8 : ck.exceptionTable.toList.map (fun h => (h.startPc, h.endPc, h.handlerPc, h.catchType)) = Y'.2.2.2.2)
    {st0 rest : List Value} {ig : Instr} (hdg : decode Y.2.1 pc = .ok (ig, 3)) {as : List Value} (has : (lg_sl as).length ≤ Y'.2.2.1) (hst : (rest.map fun v => v.category).sum + Y'.2.2.1 ≤ 21) (hno : mx_free Y pc)
    (hstep : ∀ target, (∀ acts, Steps p.tables e below (doInvoke e ((T.setVm vm1).setTop { (F0 m pc ls st0) with stack := rest }) acts mk as.toArray).1 target) → Steps p.tables e below (T.setTop (F0 m pc ls st0)) target)
    (hM : mx_M G Y' d bc bs ex N ce 0 (lv_args 0 as) [] (mx_K G Y (d + 1) ex (pc + 3) l rest Q)) :
    ∃ t, Steps p.tables e below (T.setTop (F0 m pc ls st0)) t ∧ mx_Z G ex R Q s below t := by
  rcases mx_enter X hI hY f1 f2 f3 f4 f5 f6 f7 f8 (g := { (F0 m pc ls st0) with stack := rest }) rfl (by rw [hI.1.2.2.1]; exact hI.2.2.2.2.2.2.2.1) rfl (by rw [hI.1.2.1]; exact hdg) has hst hM with ⟨v, T', L, k, n, N', ce', bc', bs', X', hI', hq, st⟩ | ⟨q, E, c0, T', L, k, n, N', ce', bc', bs', X', hI', h1, h2, h3, hq, st⟩
  · have hq' : mx_M G Y (d + 1) bc' bs' ex N' ce' (pc + 3) l (v.toList ++ rest) Q := by cases v <;> exact hq
    obtain ⟨t, a1, b1⟩ := hq' p e R s m args below meth c T'.heap _ _ _ ls hI' T' rfl X'
    exact ⟨t, hstep t fun acts => (st acts).trans a1, b1⟩
  · obtain ⟨t, a1, b1⟩ := mx_out (ex := ex) (Q := Q) X' hI' h1 h2 h3 (g := { (F0 m pc ls st0) with stack := rest }) rfl rfl rfl hno hq
    exact ⟨t, hstep t fun acts => (st acts).trans a1, b1⟩
end MXC
section MXD
variable {G : mx_G} {Y : mx_Y} {d bc bs : Nat} {ex : Bool} {N : Nat} {ce : Nat → va_E} {pc : Nat} {l : List (Nat × Value)} {r : List Value} {Q : mx_P}
theorem mx_callS {Y' : mx_Y} {idx : Nat} (as : List Value) {st : List Value} (hd : decode Y.2.1 pc = .ok (.invokestatic idx, 3)) (hY : mx_in Y') (hlk : Cond.methodLink Y.1.cls idx Y'.1 ∈ lw_tbl) (hsta : Cond.static Y'.1 ∈ lw_tbl) (hn : (parseMethodDescriptor Y'.1.desc).map (fun sig => sig.parameters.length) = some as.length) (has : (lg_sl as).length ≤ Y'.2.2.1) (hno : mx_free Y pc) (hst0 : st = as.reverse ++ r) (hst : (r.map fun v => v.category).sum + Y'.2.2.1 ≤ 21)
    (hM : mx_M G Y' d bc bs ex N ce 0 (lv_args 0 as) [] (mx_K G Y (d + 1) ex (pc + 3) l r Q)) : mx_M G Y (d + 1) bc bs ex N ce pc l st Q := by
  intro p e R s m args below meth c H locs cells slots ls h T hT X
  obtain ⟨mk, methk, ck, f1, f2, f3, f4, f5, f6, f7, f8, f9⟩ := mx_facts h.1.2.2.2.2.2.2.1 hY
  have hstatic : methk.isStatic = true := Cond.static_spec f1 f2 (mx_wd h.1 hsta rfl)
  obtain ⟨kP, hkP, -⟩ := className_of_methodNamed f1
  have hinitP : kP.init = .initialized := Cond.initialized_spec (findClass_of_methodNamed f1) hkP (mx_wd h.1 hY.2.2.1 rfl)
  rw [f9] at hn
  obtain ⟨vm1, X1, hstep⟩ := X.invokestatic h.1.1 h.1.2.2.2.2.2.1 (mx_wd h.1 hlk rfl) f1 f2 hstatic hkP hinitP hY.2.1 (g := F0 m pc ls st) rfl (argsL := as) (rest := r) (Option.some.inj hn).symm hst0 (by rw [h.1.2.1]; exact hd)
  subst hT
  exact mx_fin X1 h hY f1 f2 f3 f4 f5 f6 f7 f8 hd has hst hno hstep hM
theorem mx_callV {Y' : mx_Y} (hG : mx_ok G) {idx a ci n : Nat} {T0 : u_T} {fs : List Value} (as : List Value) {st : List Value} (hd : decode Y.2.1 pc = .ok (.invokevirtual idx, 3)) (hY : mx_in Y') (hlk : Cond.methodLink Y.1.cls idx Y'.1 ∈ lw_tbl) (hins : Cond.instanceMethod Y'.1 ∈ lw_tbl) (hsel : Cond.selects Y'.1.cls Y'.1 Y'.1 ∈ lw_tbl) (hc : classes[ci]? = some (Y'.1.cls, T0, n)) (hn : (parseMethodDescriptor Y'.1.desc).map (fun sig => sig.parameters.length) = some as.length) (has : (lg_sl (.ref (mx_B G + a) :: as)).length ≤ Y'.2.2.1) (hno : mx_free Y pc) (ha : a < N) (he : ce a = .inr (ci, fs)) (hst0 : st = as.reverse ++ .ref (mx_B G + a) :: r) (hst : (r.map fun v => v.category).sum + Y'.2.2.1 ≤ 21)
    (hM : mx_M G Y' d bc bs ex N ce 0 (lv_args 0 (.ref (mx_B G + a) :: as)) [] (mx_K G Y (d + 1) ex (pc + 3) l r Q)) : mx_M G Y (d + 1) bc bs ex N ce pc l st Q := by
  intro p e R s m args below meth c H locs cells slots ls h T hT X
  obtain ⟨mk, methk, ck, f1, f2, f3, f4, f5, f6, f7, f8, f9⟩ := mx_facts h.1.2.2.2.2.2.2.1 hY
  obtain ⟨mk', methM, hnamed, hmethM, hstM, habM⟩ := Cond.instanceMethod_spec (mx_wd h.1 hins rfl)
  cases f1.symm.trans hnamed
  cases f2.symm.trans hmethM
  obtain ⟨cell, hcell, hobj, hcls⟩ := va_recv (mx_Kn hG h.1) h.2.1.1 hc (a := mx_B G + a) (q0 := a) (fs := fs) (by rw [mx_w_at ha, he])
  obtain ⟨c2, r2, m2, q1, q2, q3, q4, kP, hkP, hkPi⟩ := Cond.selects_spec (mx_wd h.1 hsel rfl)
  cases hcls.symm.trans q1
  cases (State.methodFound?_of_named f1 hY.2.1).symm.trans q2
  cases f1.symm.trans q3
  have hselP : selectMethod e.platform s.vm cell.cls mk = .method mk := by rw [Launch.admits_selectMethod X.admits]; exact q4
  rw [f9] at hn
  subst hT
  obtain ⟨vm1, X1, hstep⟩ := X.invokevirtual h.1.1 h.1.2.2.2.2.2.1 (mx_wd h.1 hlk rfl) f1 f2 hstM hkP hkPi hY.2.1 (a := mx_B G + a) (cell := cell) hcell
    (fun z h => by rw [h] at hobj; cases hobj) hselP f2 habM hkP hkPi (g := F0 m pc ls st) rfl (argsL := as) (rest := r) (Option.some.inj hn).symm hst0 (by rw [h.1.2.1]; exact hd)
  exact mx_fin X1 h hY f1 f2 f3 f4 f5 f6 f7 f8 hd has hst hno hstep hM
theorem mx_callI {Y' : mx_Y} {idx : Nat} {a : Nat} (as : List Value) {st : List Value} (hd : decode Y.2.1 pc = .ok (.invokespecial idx, 3)) (hY : mx_in Y') (hcode : Cond.code Y'.1 Y'.2.1 Y'.2.2.1 none ∈ lw_tbl) (hnm : Y'.1.name = "<init>") (hlk : Cond.methodLink Y.1.cls idx Y'.1 ∈ lw_tbl) (hins : Cond.instanceMethod Y'.1 ∈ lw_tbl) (hn : (parseMethodDescriptor Y'.1.desc).map (fun sig => sig.parameters.length) = some as.length) (has : (lg_sl (.ref a :: as)).length ≤ Y'.2.2.1) (hno : mx_free Y pc) (hst0 : st = as.reverse ++ .ref a :: r) (hst : (r.map fun v => v.category).sum + Y'.2.2.1 ≤ 21)
    (hM : mx_M G Y' d bc bs ex N ce 0 (lv_args 0 (.ref a :: as)) [] (mx_K G Y (d + 1) ex (pc + 3) l r Q)) : mx_M G Y (d + 1) bc bs ex N ce pc l st Q := by
  intro p e R s m args below meth c H locs cells slots ls h T hT X
  obtain ⟨mk, methk, ck, f1, f2, f3, f4, f5, f6, f7, f8, f9⟩ := mx_facts h.1.2.2.2.2.2.2.1 hY
  have hpl : e.platform.magicAccessors = ({} : Platform).magicAccessors := by rw [X.admits.platform]
  subst hT
  obtain ⟨mk', methM, cM, kP, vm1, hnamed, hmethM, hcodeM, -, hlocalsM, -, hkP, -, hW1, hstep⟩ := Steps.initColdArgs (e := e) X.here h.1.1 X.warmed hpl h.1.2.2.2.2.2.1 hnm hY.2.1 (mx_wd h.1 hlk rfl) (mx_wd h.1 hins rfl) (mx_wd h.1 hcode rfl) (f := F0 m pc ls st) rfl (a := a) (argsL := as) (rest := r) (fun sig hs => by rw [hs] at hn; exact (Option.some.inj hn).symm) hst0 (by rw [h.1.2.1]; exact hd)
  cases f1.symm.trans hnamed
  exact mx_fin (X.noted hW1) h hY f1 f2 f3 f4 f5 f6 f7 f8 hd has hst hno hstep hM
theorem mx_objInit {idx a : Nat} (hd : decode Y.2.1 pc = .ok (.invokespecial idx, 3)) (hlk : Cond.methodLink Y.1.cls idx Lib.objectInit ∈ lw_tbl) (hins : Cond.instanceMethod Lib.objectInit ∈ lw_tbl) (hcode : Cond.code Lib.objectInit ⟨#[0xb1]⟩ 1 none ∈ lw_tbl) (hst : (r.map fun v => v.category).sum ≤ 29)
    (k : mx_M G Y d bc bs ex N ce (pc + 3) l r Q) : mx_M G Y d bc bs ex N ce pc l (.ref a :: r) Q := by
  intro p e R s m args below meth c H locs cells slots ls h
  have g3 := h.2.2.2.2.2.1
  have g4 := h.2.2.2.2.2.2.1
  exact W.objInit h.1.1 h.1.2.1 h.1.2.2.2.2.2.1 (mx_wd h.1 hlk rfl) (mx_wd h.1 hins rfl) (mx_wd h.1 hcode rfl) rfl (by rw [h.1.2.2.1]; exact h.2.2.2.2.2.2.2.1) rfl hd (by omega) (by show 2 * 0 + _ + 12 ≤ R.locals; omega) (k p e R s m args below meth c H locs cells slots ls h)
theorem mx_mmax {idx : Nat} {x y : Int32} (hd : decode Y.2.1 pc = .ok (.invokestatic idx, 3)) (hlk : Cond.methodLink Y.1.cls idx Lib.Math.max.name ∈ lw_tbl) (hsta : Cond.static Lib.Math.max.name ∈ lw_tbl) (hini : Cond.initialized "java/lang/Math" ∈ lw_tbl) (hcode : Cond.code Lib.Math.max.name Lib.Math.max.code 2 (some .int) ∈ lw_tbl) (hst : (r.map fun v => v.category).sum ≤ 29)
    (k : mx_M G Y d bc bs ex N ce (pc + 3) l (.int (if x < y then y else x) :: r) Q) : mx_M G Y d bc bs ex N ce pc l (.int y :: .int x :: r) Q := by
  intro p e R s m args below meth c H locs cells slots ls h
  have g1 := h.2.2.2.1
  have g2 := h.2.2.2.2.1
  have g3 := h.2.2.2.2.2.1
  have g4 := h.2.2.2.2.2.2.1
  exact va_mmax h.1.1 h.1.2.1 (by rw [h.1.2.2.1]; exact h.2.2.2.2.2.2.2.1.symm) h.1.2.2.2.2.2.1 (mx_wd h.1 hlk rfl) (mx_wd h.1 hsta rfl) (mx_wd h.1 hini rfl) (mx_wd h.1 hcode rfl) (by omega) (by omega) (by omega) (by omega) hd (k p e R s m args below meth c H locs cells slots ls h)
theorem mx_mmin {idx : Nat} {x y : Int32} (hd : decode Y.2.1 pc = .ok (.invokestatic idx, 3)) (hlk : Cond.methodLink Y.1.cls idx Lib.Math.min.name ∈ lw_tbl) (hsta : Cond.static Lib.Math.min.name ∈ lw_tbl) (hini : Cond.initialized "java/lang/Math" ∈ lw_tbl) (hcode : Cond.code Lib.Math.min.name Lib.Math.min.code 2 (some .int) ∈ lw_tbl) (hst : (r.map fun v => v.category).sum ≤ 29)
    (k : mx_M G Y d bc bs ex N ce (pc + 3) l (.int (if y < x then y else x) :: r) Q) : mx_M G Y d bc bs ex N ce pc l (.int y :: .int x :: r) Q := by
  intro p e R s m args below meth c H locs cells slots ls h
  have g1 := h.2.2.2.1
  have g2 := h.2.2.2.2.1
  have g3 := h.2.2.2.2.2.1
  have g4 := h.2.2.2.2.2.2.1
  exact va_mmin h.1.1 h.1.2.1 (by rw [h.1.2.2.1]; exact h.2.2.2.2.2.2.2.1.symm) h.1.2.2.2.2.2.1 (mx_wd h.1 hlk rfl) (mx_wd h.1 hsta rfl) (mx_wd h.1 hini rfl) (mx_wd h.1 hcode rfl) (by omega) (by omega) (by omega) (by omega) hd (k p e R s m args below meth c H locs cells slots ls h)
end MXD
end
section
/-- the words of a throw are among the tables', but for the four that speak of statics -/
def mx_thr (own : String) (ic : Nat) (E : String) (names : List String) : Prop := (Bundle.ownAtoms own ic E names).all (fun w => decide (w ∈ mx_four) || (decide (w ∈ lw_tbl) && mx_gd w)) = true
section MXT
variable {p : Program} {lc : Launch} {e : Env} {R : Room} {s : State} {m : MethodId} {args : Array Value} {below : List Frame} {meth : Method} {c : Code} {T : State} {locs : List Loc} {cells slots : Nat}
/-- the walk, counted anew from the state in which it is -/
theorem mx_rebase (X : Stand p lc e R s m args below meth c T locs cells slots) (R' : Room) (hf : R'.frames ≤ R.frames) (hl : R'.locals ≤ R.locals) (hc : cells + R'.cells ≤ R.cells) (hs : slots + R'.slots ≤ R.slots) :
    Stand p lc e R' ((T.setVm s.vm).setFrames (.invoking m args :: below)) m args below meth c T [] 0 0 := by
  obtain ⟨g0, hfr⟩ := X.frames_eq
  have hfr' : (T.setVm s.vm).frames = .java g0 :: below := hfr
  have hF : ((T.setVm s.vm).setFrames (.invoking m args :: below)).frames = .invoking m args :: below := State.frames_setFrames _ (State.cur_lt_of_frames hfr')
  have hlim : e.platform.stackLimits (T.setVm s.vm).me = e.platform.stackLimits s.me := X.limits
  have hby : (T.setVm s.vm).me.stackBytes = s.me.stackBytes := X.bytes
  obtain ⟨th, hth, -⟩ := State.frames_cons hfr'
  have hnil : T.heap.toList.drop T.heap.size = [] := List.drop_eq_nil_of_le (Nat.le_of_eq Array.length_toList)
  refine ⟨X.admits, X.cas, X.clock, hF, ?_, X.hears, X.method, X.code, X.here, X.tail, X.warmed, ?_, ?_, ?_, Nat.le_refl _, Nat.le_refl _, ?_, ?_, fun a c9 h9 => ⟨c9, h9, rfl, rfl, fun _ _ => rfl⟩⟩
  · have hr := X.room
    have q1 := X.heapSize
    have q2 := X.used
    have hU : ((T.setVm s.vm).setFrames (.invoking m args :: below)).localsInUse = s.localsInUse := by
      rw [State.localsInUse_invoking hF (meth := meth) (c := c) X.method X.code, State.localsInUse_invoking X.frames X.method X.code]
    simp only [State.hasRoom, Bool.and_eq_true, decide_eq_true_eq] at hr ⊢
    obtain ⟨⟨⟨⟨h1, h2, h3, h4, h5, h6⟩, h7⟩, h8⟩, h9⟩ := hr
    rw [X.frames, List.length_cons] at h2 h3
    simp only [hF, hU, List.length_cons, State.stackLimits_setFrames, State.stackBytes_setFrames, hlim, hby]
    refine ⟨⟨⟨⟨by omega, by omega, by omega, by omega, by omega, h6⟩, ?_⟩, ?_⟩, X.book⟩
    · show T.heap.size + R'.cells ≤ e.platform.maxCells
      omega
    · show T.slotsUsed + R'.slots ≤ e.platform.maxSlots
      omega
  · rw [State.stackLimits_setFrames]; rfl
  · rw [State.stackBytes_setFrames]; rfl
  · show T.setVm s.vm = { ((T.setVm s.vm).setFrames (.invoking m args :: below)).setFrames (T.setVm s.vm).frames with heap := T.heap, slotsUsed := T.slotsUsed }
    rw [State.setFrames_setFrames, State.setFrames_self hth]
    rfl
  · show T.slotsUsed = T.slotsUsed + ((T.heap.toList.drop T.heap.size).map (·.slots.size)).sum
    rw [hnil]; rfl
  · show ((T.heap.toList.drop T.heap.size).map (·.slots.size)).sum ≤ 0
    rw [hnil]; exact Nat.le_refl _
/-- where nothing was written, what was there is there -/
theorem mx_kept {U : State} {k n : Nat} (h : s.sameButNew ({ U with vm := s.vm } : State) [] k n) : s.heap.size ≤ U.heap.size ∧ ∀ q : Nat, q < s.heap.size → U.heap[q]? = s.heap[q]? := by
  refine ⟨h.2.1, fun q hq => ?_⟩
  obtain ⟨c9, e1, e2, -, e4⟩ := h.2.2.2.2.2 q _ (Array.getElem?_eq_getElem hq)
  have hs : c9.slots = (s.heap[q]).slots := Array.ext_getElem? fun i => e4 i (fun z => nomatch z)
  rw [hs] at e2
  have e5 : U.heap[q]? = some c9 := e1
  rw [e5, e2, Array.getElem?_eq_getElem hq]
end MXT
section MXU
variable {G : mx_G} {Y : mx_Y} {d bc bs : Nat} {ex : Bool} {N : Nat} {ce : Nat → va_E} {pc : Nat} {l : List (Nat × Value)} {r : List Value} {Q : mx_P}
/-- 'throw new E("text")' -/
theorem mx_throw (hG : mx_ok G) {E tx : String} (names : List String) {ik is ic : Nat} (d0 : decode Y.2.1 pc = .ok (.new ik, 3)) (d3 : decode Y.2.1 (pc + 3) = .ok (.dup, 1)) (d4 : decode Y.2.1 (pc + 4) = .ok (.ldc is, 2)) (d6 : decode Y.2.1 (pc + 6) = .ok (.invokespecial ic, 3)) (d9 : decode Y.2.1 (pc + 9) = .ok (.athrow, 1))
    (hE : Bundle.fit E = true) (hnames : ∀ n ∈ names, Bundle.fit n = true) (hlen : names.length ≤ 2) (hk : Cond.classLink Y.1.cls ik E ∈ lw_tbl) (hini : Cond.initialized E ∈ lw_tbl) (hins : Cond.instantiable E 6 ∈ lw_tbl) (hstr : (Y.1.cls, is, tx) ∈ mx_strs) (hat : mx_thr Y.1.cls ic E names) (hno : mx_free Y (pc + 9)) (hst : (r.map fun v => v.category).sum ≤ 29) (hq : Q (.inr E) N ce bc bs) : mx_M G Y (d + 5) (bc + 1) (bs + 6) false N ce pc l r Q := by
  intro p e R s m args below meth c H locs cells slots ls h T hT X
  have htr : e.platform.stackTraces = false := (show e.platform.stackTraces = G.1.stackTraces by rw [X.admits.platform]).trans hG.1
  have g1 := h.2.2.2.1
  have g2 := h.2.2.2.2.1
  have g3 := h.2.2.2.2.2.1
  have g4 := h.2.2.2.2.2.2.1
  have hC := h.1
  have Y9 := mx_rebase X { frames := R.frames, cells := 1, slots := 6, locals := R.locals } (Nat.le_refl _) (Nat.le_refl _) (by show cells + 1 ≤ R.cells; omega) (by show slots + 6 ≤ R.slots; omega)
  obtain ⟨s', hs'⟩ : ∃ z, z = (T.setVm s.vm).setFrames (.invoking m args :: below) := ⟨_, rfl⟩
  rw [← hs'] at Y9
  have hvm : s'.vm = s.vm := by rw [hs']; rfl
  have hhp : s'.heap = H := by rw [hs']; exact hT
  have hW0 : s.WarmedH s'.vm := by rw [hvm]; exact State.WarmedH.refl s
  have hws : mx_Ws args s' := hC.2.2.2.2.2.2.1.at hW0
  have hal : G.2.1.vm.Alike s'.vm := by rw [hvm]; exact hC.2.2.2.2.2.2.2.1
  have hold : ∀ q : Nat, q < mx_B G → s'.heap[q]? = G.2.1.heap[q]? := fun q hq => by rw [hhp]; exact h.2.1.2.2.1 q hq (Nat.not_le.mpr hq)
  have hU := hG.2.2.1.go hal hold
  have hN := hG.2.2.2.go hal hold
  have hown : s'.vm.findClass Y.1.cls = some m.cls := by rw [hvm]; exact hC.2.2.2.2.2.1
  have hwords : ∀ w ∈ Bundle.ownAtoms Y.1.cls ic E names, w.before args s' = true := by
    intro w hw
    have h9 := List.all_eq_true.mp hat w hw
    simp only [Bool.or_eq_true, Bool.and_eq_true, decide_eq_true_eq] at h9
    rcases h9 with h9 | h9
    · simp only [mx_four, List.mem_cons, List.not_mem_nil, or_false] at h9
      rcases h9 with rfl | rfl | rfl | rfl
      · exact hU.isRef
      · exact hN.isRef
      · exact hU.lays
      · exact hN.lays
    · exact hws.1 w h9.1 h9.2
  obtain ⟨sa, hsa⟩ := hws.2 _ hstr
  have hout : ∀ x ∈ c.exceptionTable.toList, covers x (pc + 9) = false := by
    intro x hx
    have hm : (x.startPc, x.endPc, x.handlerPc, x.catchType) ∈ Y.2.2.2.2 := by
      rw [← hC.2.2.2.2.2.2.2.2.2]
      exact List.mem_map.mpr ⟨x, hx, rfl⟩
    have h9 := List.all_eq_true.mp hno _ hm
    simp only [Bool.not_eq_true', Bool.and_eq_false_iff, decide_eq_false_iff_not] at h9
    simp only [covers, Bool.and_eq_false_iff, decide_eq_false_iff_not]
    exact h9
  have hsize : ls.size = c.maxLocals := by rw [hC.2.2.1]; exact h.2.2.2.2.2.2.2.1
  have K : W p G.1 e { frames := R.frames, cells := 1, slots := 6, locals := R.locals } s' m args below meth c H [] 0 0 (fun U => ∃ c0 : Cell, U.status = .running ∧ Ended U below (.threw H.size) ∧ s'.WarmedH U.vm ∧ s'.sameButNew ({ U with vm := s'.vm } : State) [] 1 6 ∧ U.heap[H.size]? = some c0 ∧ c0.vm = .none ∧ s'.vm.findClass E = some c0.cls) (F0 m pc ls r) := by
    refine W.newc hC.1 hC.2.1 hown (hws.1 _ hk rfl) (hws.1 _ hins rfl) (hws.1 _ hini rfl) rfl d0 (by show 0 + 1 ≤ 1; omega) (by show 0 + 6 ≤ 6; omega) fun cC kC h1 h2 h3 h4 => ?_
    refine lv_dup hC.1 hC.2.1 d3 rfl ?_
    refine va_ldcS hC.1 hC.2.1 hown hsa d4 ?_
    intro T9 hT9 X9
    have hcat : (Value.ref H.size).category = 1 := rfl
    obtain ⟨U, hsteps, hrun, hend, hW, hsame, c0, hce, hO⟩ := X9.ctorThrowS hC.1 htr (own := Y.1.cls) (cls := E) (names := names) (ic := ic) hown hE hnames hwords (fun x hx => nomatch hx) h1 h2 (a := H.size) (by rw [hT9]; exact Array.getElem?_push_size) (by rw [hhp]; exact Nat.le_refl _) (msg := .ref sa) rfl
      (g := F0 m (pc + 6) ls (.ref sa :: .ref H.size :: .ref H.size :: r)) rfl hsize rfl rfl (rest := r) rfl (by rw [hC.2.1]; exact d6) (by rw [hC.2.1]; exact d9) hout (by show names.length + 3 < R.frames; omega)
      (by show 2 * 0 + _ + _ ≤ R.locals; simp only [List.map_cons, List.sum_cons, hcat]; omega) hC.2.2.2.2.1
    exact ⟨U, hsteps, c0, hrun, hend, hW, hsame, hce, hO.vm, hO.cls⟩
  obtain ⟨U, hsteps, c0, hrun, hend, hW, hsame, hce, hv0, hcl⟩ := K T hT Y9
  obtain ⟨k1, k2⟩ := mx_kept hsame
  rw [hhp] at k1 k2
  have hall : s.sameButNew ({ U with vm := s.vm } : State) locs (cells + 1) (slots + 6) := by
    rw [hs'] at hsame
    obtain ⟨e1, e2⟩ := hsame
    rw [State.setFrames_setFrames] at e1
    have h2 : (T.setVm s.vm).sameButNew ({ U with vm := s.vm } : State) [] 1 6 := ⟨e1, e2⟩
    have h3 := X.same.trans h2
    rw [List.append_nil] at h3
    exact h3
  refine ⟨U, hsteps, _, locs, cells + 1, slots + 6, N, ce, bc, bs, hrun, hend, State.WarmedH.trans hW0 hW, hall, ⟨h.2.1.1.kept (fun k q hk => k2 q.1 (h.2.1.1 k q hk).lt), Nat.le_trans h.2.1.2.1 k1, fun q q1 q2 => ?_, h.2.1.2.2.2⟩, by omega, by omega, Or.inr ⟨H.size, E, c0, rfl, hce, hv0, ?_, hq⟩⟩
  · rw [k2 q (Nat.lt_of_lt_of_le q1 h.2.1.2.1)]
    exact h.2.1.2.2.1 q q1 q2
  · rw [← hal.findClass]; exact hcl
end MXU
end
section
/-! catching: the rows of the method's own table, resolved or not -/
theorem mx_row {Q : Handler → Pre} {E : CtlPost} {e : Env} {d : Bool} {acts : List Action} {s : State} {f : JFrame} {a : Addr} {x : ExceptionTableEntry} {t : List ExceptionTableEntry} {c : ClassId} {cell : Cell} (hx : covers x f.pc = true) (h0 : x.catchType ≠ 0)
    (hl : s.vm.ClassLinks e.platform f.method.cls x.catchType c) (hcell : s.heap[a]? = some cell) (hobj : ∀ k, cell.vm ≠ .statics k) (hk : ∃ k, s.vm.classes[cell.cls]? = some k) (hc : ∃ k, s.vm.classes[c]? = some k) :
    wp (findHandler.go f a (x :: t)) Q E e d acts s ↔ if s.vm.assignable cell.cls c = true then Q (.found x.handlerPc) d acts (s.setVm (s.vm.noted f.method.cls x.catchType (.cls c))) else wp (findHandler.go f a t) Q E e d acts (s.setVm (s.vm.noted f.method.cls x.catchType (.cls c))) := by
  simp only [covers] at hx
  obtain ⟨ha, ht⟩ := (resolveClass_links e.toSetting hl).op (op := VmOp.resolveClass f.method.cls x.catchType) rfl
  have hal : s.vm.Alike (s.vm.noted f.method.cls x.catchType (.cls c)) := (Vm.Alike.refl s.vm).noted _ _ _
  obtain ⟨k1, hk1⟩ := hk
  obtain ⟨k2, hk2⟩ := hc
  obtain ⟨k1', hk1', -⟩ := hal.2.2 _ _ hk1
  obtain ⟨k2', hk2', -⟩ := hal.2.2 _ _ hk2
  have hasg := hal.assignable cell.cls c
  cases hfit : s.vm.assignable cell.cls c <;> rw [hfit] at hasg <;> simp [findHandler.go, hx, h0, ha, ht, hcell, hobj, hk1', hk2', hasg, VmOp.dirties, VmOp.acts]
/-- the rows ahead pass it on, the row x takes it -/
theorem mx_rows {e : Env} {s0 : State} {f : JFrame} {a : Addr} {cell : Cell} (hobj : ∀ k, cell.vm ≠ .statics k) (hk0 : ∃ k, s0.vm.classes[cell.cls]? = some k) (x : ExceptionTableEntry) (rest : List ExceptionTableEntry) (hx : covers x f.pc = true) (h0 : x.catchType ≠ 0) {cx : ClassId} (hlx : s0.vm.ClassLinks e.platform f.method.cls x.catchType cx) (hfit : s0.vm.assignable cell.cls cx = true) :
    ∀ (pre : List ExceptionTableEntry) (S : State), s0.WarmedH S.vm → S.heap[a]? = some cell → (∀ y ∈ pre, covers y f.pc = false ∨ (y.catchType ≠ 0 ∧ ∃ cy, s0.vm.ClassLinks e.platform f.method.cls y.catchType cy ∧ s0.vm.assignable cell.cls cy = false)) →
      ∃ vm', s0.WarmedH vm' ∧ ∀ (Q : Handler → Pre) (E : CtlPost) (d : Bool) (acts : List Action), wp (findHandler.go f a (pre ++ x :: rest)) Q E e d acts S ↔ Q (.found x.handlerPc) d acts (S.setVm vm') := by
  obtain ⟨k0, hk0⟩ := hk0
  intro pre
  induction pre with
  | nil =>
    intro S hW hcell _
    obtain ⟨k0', hk0', -⟩ := hW.alike.2.2 _ _ hk0
    obtain ⟨dk, _, _, kt, hd, _, _, _, _, hkt, _, hopen⟩ := hlx.here
    obtain ⟨kt', hkt', -⟩ := hW.alike.2.2 _ _ hkt
    refine ⟨_, hW.noted hd hopen (State.rightAt_cls hlx), fun Q E d acts => ?_⟩
    rw [List.nil_append, mx_row hx h0 (hW.classLinks hlx) hcell hobj ⟨k0', hk0'⟩ ⟨kt', hkt'⟩, if_pos (by rw [hW.alike.assignable]; exact hfit)]
  | cons y ys ih =>
    intro S hW hcell hpass
    obtain ⟨k0', hk0', -⟩ := hW.alike.2.2 _ _ hk0
    have hrest := fun z hz => hpass z (List.mem_cons_of_mem y hz)
    by_cases hcov : covers y f.pc = true
    · rcases hpass y List.mem_cons_self with h | ⟨hy0, cy, hl, hno⟩
      · rw [h] at hcov; cases hcov
      · obtain ⟨dk, _, _, kt, hd, _, _, _, _, hkt, _, hopen⟩ := hl.here
        obtain ⟨kt', hkt', -⟩ := hW.alike.2.2 _ _ hkt
        obtain ⟨vm', hW', hq⟩ := ih (S.setVm (S.vm.noted f.method.cls y.catchType (.cls cy))) (hW.noted hd hopen (State.rightAt_cls hl)) hcell hrest
        refine ⟨vm', hW', fun Q E d acts => ?_⟩
        rw [List.cons_append, mx_row hcov hy0 (hW.classLinks hl) hcell hobj ⟨k0', hk0'⟩ ⟨kt', hkt'⟩, if_neg (by rw [hW.alike.assignable, hno]; decide)]
        exact hq Q E d acts
    · obtain ⟨vm', hW', hq⟩ := ih S hW hcell hrest
      refine ⟨vm', hW', fun Q E d acts => ?_⟩
      rw [List.cons_append, W.findHandler_go_skip (by simpa using hcov)]
      exact hq Q E d acts
theorem mx_stepCatch {e : Env} {s : State} {a : Addr} {f : JFrame} {r : List Frame} {pc : Nat} {vm' : Vm} (hfind : ∀ (Q : Handler → Pre) (E : CtlPost) (d : Bool) (acts : List Action), wp (findHandler f a) Q E e d acts s ↔ Q (.found pc) d acts (s.setVm vm')) :
    (stepThrowing e s a (.java f :: r)).Is ((s.setVm vm').setFrames (.java { f with pc := pc, stack := [.ref a] } :: r)) [] := by
  simp only [stepThrowing, searchFrame, vmDo]
  generalize hr : Sem.go _ e false [] s = res
  obtain ⟨as, rfl, ha⟩ := Sem.eq_ok_of hr (a := Handler.found pc) (s' := s.setVm vm') (acts' := []) (by simp [hfind _ _ _ _])
  exact ⟨rfl, ha⟩
theorem mx_stepsCatch {tb : Tables} {e : Env} {s target : State} {g : JFrame} {c : Code} {below : List Frame} {a : Addr} (h : At s g.method c below) {pc : Nat} {vm' : Vm}
    (hfind : ∀ (Q : Handler → Pre) (E : CtlPost) (d : Bool) (acts : List Action), wp (findHandler g a) Q E e d acts ((s.setTop g).pushFrame (.throwing a)) ↔ Q (.found pc) d acts (((s.setTop g).pushFrame (.throwing a)).setVm vm')) (hrest : Steps tb e below ((s.setVm vm').setTop { g with pc := pc, stack := [.ref a] }) target) :
    Steps tb e below ((s.setTop g).pushFrame (.throwing a)) target := by
  obtain ⟨hgo, hw⟩ := h.throwing a
  refine Steps.head hgo hw ?_
  rw [stepThread_throwing (frames_entered h.top _), (mx_stepCatch (s := (s.setTop g).pushFrame (.throwing a)) hfind).1]
  obtain ⟨g₀, hg⟩ := Option.isSome_iff_exists.mp h.top
  obtain ⟨r, hr⟩ := State.topJava?_eq_some.mp hg
  have hr' : (s.setVm vm').frames = .java g₀ :: r := hr
  have hsw : ∀ (u : State) (F : List Frame), (u.setFrames F).setVm vm' = (u.setVm vm').setFrames F := fun _ _ => rfl
  rw [State.setTop_of_frames _ hr'] at hrest
  rw [hr, List.tail_cons, State.pushFrame, hsw, State.setFrames_setFrames, State.setTop_of_frames _ hr, hsw, State.setFrames_setFrames]
  exact hrest
/-- at pc, what is of the class E is caught at h -/
def mx_cat (Y : mx_Y) (pc : Nat) (E : String) (h : Nat) : Prop := ∃ (pre : List (Nat × Nat × Nat × Nat)) (x : Nat × Nat × Nat × Nat) (suf : List (Nat × Nat × Nat × Nat)) (nm : String), Y.2.2.2.2 = pre ++ x :: suf ∧ (∀ z ∈ pre, z.2.2.2 ≠ 0 ∧ ∃ nz : String, Cond.classLink Y.1.cls z.2.2.2 nz ∈ lw_tbl ∧ (E, nz) ∈ mx_ncs) ∧ (x.1 ≤ pc ∧ pc < x.2.1) ∧ x.2.2.2 ≠ 0 ∧ Cond.classLink Y.1.cls x.2.2.2 nm ∈ lw_tbl ∧ Cond.castable E nm ∈ lw_tbl ∧ x.2.2.1 = h
def mx_Nok (G : mx_G) : Prop := ∀ q ∈ mx_ncs, va_Nc q.1 q.2 G.2.1
section MXE
variable {G : mx_G} {Y : mx_Y} {d bc bs : Nat} {ex : Bool} {N : Nat} {ce : Nat → va_E} {pc : Nat} {l : List (Nat × Value)} {r : List Value} {Q : mx_P}
variable {p : Program} {e : Env} {R : Room} {s : State} {m : MethodId} {args : Array Value} {below : List Frame} {meth : Method} {c : Code} {T : State} {locs : List Loc} {cells slots : Nat} {ls : Array Slot}
theorem mx_in_ (hN : mx_Nok G) (X : Stand p G.1 e R s m args below meth c T locs cells slots) (hI : mx_I G Y d bc bs false N ce l p R s m args meth c T.heap locs cells slots ls) {q : Addr} {E : String} {c0 : Cell} {hp : Nat} {st0 : List Value} (h1 : T.heap[q]? = some c0) (h2 : c0.vm = .none) (h3 : G.2.1.vm.findClass E = some c0.cls) (hcat : mx_cat Y pc E hp)
    (k : mx_M G Y d bc bs false N ce hp l [.ref q] Q) : ∃ t, Steps p.tables e below ((T.setTop (F0 m pc ls st0)).pushFrame (.throwing q)) t ∧ mx_Z G false R Q s below t := by
  obtain ⟨pre, x, suf, nm, hsp, hpass, hcv, hx0, hlk, hca, rfl⟩ := hcat
  have hC := hI.1
  have htab := hC.2.2.2.2.2.2.2.2.2
  rw [hsp] at htab
  obtain ⟨pre', rst, hsplit, hpre, hrst⟩ := List.map_eq_append_iff.mp htab
  obtain ⟨x', suf', hrs, hx', -⟩ := List.map_eq_cons_iff.mp hrst
  subst hrs
  have hpl : e.platform.magicAccessors = ({} : Platform).magicAccessors := by rw [X.admits.platform]
  have hal := hC.2.2.2.2.2.2.2.1
  have hcl : s.vm.findClass E = some c0.cls := by rw [hal.findClass]; exact h3
  obtain ⟨c3, c4, hc3, hc4, hasg⟩ := Cond.castable_spec (mx_wd hC hca rfl)
  cases Option.some.inj (hc3.symm.trans hcl)
  have hxt : x'.catchType = x.2.2.2 := by rw [← hx']
  have hxs : x'.startPc = x.1 := by rw [← hx']
  have hxe : x'.endPc = x.2.1 := by rw [← hx']
  have hxh : x'.handlerPc = x.2.2.1 := by rw [← hx']
  obtain ⟨c5, hc5, hcl5⟩ := Cond.classLink_spec hC.2.2.2.2.2.1 (mx_wd hC hlk rfl) e.platform hpl
  cases Option.some.inj (hc4.symm.trans hc5)
  obtain ⟨k9, hk9, -⟩ := Vm.findClass_spec hcl
  have hmth : ((T.setTop (F0 m pc ls st0)).pushFrame (.throwing q)).vm.method? m = some meth := X.method'
  obtain ⟨vm', hW', hq⟩ := mx_rows (e := e) (s0 := s) (f := F0 m pc ls st0) (a := q) (cell := c0) (fun z hz => by rw [h2] at hz; cases hz) ⟨k9, hk9⟩ x' suf' (by simp [covers, hxs, hxe, hcv.1, hcv.2]) (by rw [hxt]; exact hx0) (cx := c4) (by rw [hxt]; exact hcl5) hasg
    pre' ((T.setTop (F0 m pc ls st0)).pushFrame (.throwing q)) X.warmed (by rw [mx_heapPush]; exact h1) (fun y hy => by
      have hm : (y.startPc, y.endPc, y.handlerPc, y.catchType) ∈ pre := by rw [← hpre]; exact List.mem_map.mpr ⟨y, hy, rfl⟩
      obtain ⟨hz0, nz, hl1, hn1⟩ := hpass _ hm
      obtain ⟨c6, hc6, hcl6⟩ := Cond.classLink_spec hC.2.2.2.2.2.1 (mx_wd hC hl1 rfl) e.platform hpl
      obtain ⟨a8, b8, u1, u2, u3⟩ := va_Nc.moved hal (hN _ hn1)
      cases Option.some.inj (u1.symm.trans hcl)
      cases Option.some.inj (u2.symm.trans hc6)
      exact Or.inr ⟨hz0, _, hcl6, u3⟩)
  obtain ⟨t, a1, b1⟩ := k p e R s m args below meth c T.heap locs cells slots ls hI (T.setVm vm') rfl (X.noted hW')
  refine ⟨t, mx_stepsCatch (pc := x.2.2.1) (vm' := vm') (g := F0 m pc ls st0) X.here (fun Q E d acts => ?_) a1, b1⟩
  rw [W.findHandler_eq hmth X.code, hsplit, ← hxh]
  exact hq Q E d acts
def mx_KH (G : mx_G) (Y : mx_Y) (d : Nat) (pc : Nat) (l : List (Nat × Value)) (r : List Value) (Q : mx_P) : mx_P := fun o N ce bc bs => match o with
  | .inl none => mx_M G Y d bc bs false N ce (pc + 3) l r Q
  | .inl (some v) => mx_M G Y d bc bs false N ce (pc + 3) l (v :: r) Q
  | .inr E => ∃ h, mx_cat Y pc E h ∧ ∀ q : Nat, mx_M G Y d bc bs false N ce h l [.ref q] Q
theorem mx_callVH (hG : mx_ok G) (hN : mx_Nok G) {Y' : mx_Y} {idx a ci n : Nat} {T0 : u_T} {fs : List Value} (as : List Value) {st : List Value} (hd : decode Y.2.1 pc = .ok (.invokevirtual idx, 3)) (hY : mx_in Y') (hlk : Cond.methodLink Y.1.cls idx Y'.1 ∈ lw_tbl) (hins : Cond.instanceMethod Y'.1 ∈ lw_tbl) (hsel : Cond.selects Y'.1.cls Y'.1 Y'.1 ∈ lw_tbl) (hc : classes[ci]? = some (Y'.1.cls, T0, n)) (hn : (parseMethodDescriptor Y'.1.desc).map (fun sig => sig.parameters.length) = some as.length) (has : (lg_sl (.ref (mx_B G + a) :: as)).length ≤ Y'.2.2.1) (ha : a < N) (he : ce a = .inr (ci, fs)) (hst0 : st = as.reverse ++ .ref (mx_B G + a) :: r) (hst : (r.map fun v => v.category).sum + Y'.2.2.1 ≤ 21)
    (hM : mx_M G Y' d bc bs false N ce 0 (lv_args 0 (.ref (mx_B G + a) :: as)) [] (mx_KH G Y (d + 1) pc l r Q)) : mx_M G Y (d + 1) bc bs false N ce pc l st Q := by
  intro p e R s m args below meth c H locs cells slots ls h T hT X
  obtain ⟨mk, methk, ck, f1, f2, f3, f4, f5, f6, f7, f8, f9⟩ := mx_facts h.1.2.2.2.2.2.2.1 hY
  obtain ⟨mk', methM, hnamed, hmethM, hstM, habM⟩ := Cond.instanceMethod_spec (mx_wd h.1 hins rfl)
  cases f1.symm.trans hnamed
  cases f2.symm.trans hmethM
  obtain ⟨cell, hcell, hobj, hcls⟩ := va_recv (mx_Kn hG h.1) h.2.1.1 hc (a := mx_B G + a) (q0 := a) (fs := fs) (by rw [mx_w_at ha, he])
  obtain ⟨c2, r2, m2, q1, q2, q3, q4, kP, hkP, hkPi⟩ := Cond.selects_spec (mx_wd h.1 hsel rfl)
  cases hcls.symm.trans q1
  cases (State.methodFound?_of_named f1 hY.2.1).symm.trans q2
  cases f1.symm.trans q3
  have hselP : selectMethod e.platform s.vm cell.cls mk = .method mk := by rw [Launch.admits_selectMethod X.admits]; exact q4
  rw [f9] at hn
  subst hT
  obtain ⟨vm1, X1, hstep⟩ := X.invokevirtual h.1.1 h.1.2.2.2.2.2.1 (mx_wd h.1 hlk rfl) f1 f2 hstM hkP hkPi hY.2.1 (a := mx_B G + a) (cell := cell) hcell
    (fun z h => by rw [h] at hobj; cases hobj) hselP f2 habM hkP hkPi (g := F0 m pc ls st) rfl (argsL := as) (rest := r) (Option.some.inj hn).symm hst0 (by rw [h.1.2.1]; exact hd)
  rcases mx_enter X1 h hY f1 f2 f3 f4 f5 f6 f7 f8 (g := { (F0 m pc ls st) with stack := r }) rfl (by rw [h.1.2.2.1]; exact h.2.2.2.2.2.2.2.1) rfl (by rw [h.1.2.1]; exact hd) has hst hM with ⟨v, T', L, k, n, N', ce', bc', bs', X', hI', hq, st⟩ | ⟨q, E, c0, T', L, k, n, N', ce', bc', bs', X', hI', h1, h2, h3, ⟨hp, hcat, hq⟩, st⟩
  · have hq' : mx_M G Y (d + 1) bc' bs' false N' ce' (pc + 3) l (v.toList ++ r) Q := by cases v <;> exact hq
    obtain ⟨t, a1, b1⟩ := hq' p e R s m args below meth c T'.heap _ _ _ ls hI' T' rfl X'
    exact ⟨t, hstep t fun acts => (st acts).trans a1, b1⟩
  · obtain ⟨t, a1, b1⟩ := mx_in_ hN X' hI' (st0 := r) h1 h2 h3 hcat (hq q)
    exact ⟨t, hstep t fun acts => (st acts).trans a1, b1⟩
end MXE
end
section
set_option maxRecDepth 20000 in
theorem cls_C : mx_cls "CurveSums" F_C 13 ft_C := ⟨by decide +kernel, by decide +kernel, by decide +kernel⟩
set_option maxRecDepth 20000 in
theorem cls_E : mx_cls "CurveSums$Edition" F_E 3 ft_E := ⟨by decide +kernel, by decide +kernel, by decide +kernel⟩
set_option maxRecDepth 20000 in
theorem cls_D : mx_cls "CurveSums$Dating" F_D 3 ft_D := ⟨by decide +kernel, by decide +kernel, by decide +kernel⟩
set_option maxRecDepth 20000 in
theorem cls_L : mx_cls "CurveSums$LeastSet" F_L 4 ft_L := ⟨by decide +kernel, by decide +kernel, by decide +kernel⟩
set_option maxRecDepth 20000 in
theorem cls_R : mx_cls "CurveSums$DateRow" F_R 3 ft_R := ⟨by decide +kernel, by decide +kernel, by decide +kernel⟩
set_option maxRecDepth 20000 in
theorem cls_P : mx_cls "CurveSums$Pad" F_P 2 ft_P := ⟨by decide +kernel, by decide +kernel, by decide +kernel⟩
set_option maxRecDepth 20000 in
theorem cls_T : mx_cls "CurveSums$TextReader" F_T 4 ft_T := ⟨by decide +kernel, by decide +kernel, by decide +kernel⟩
set_option maxRecDepth 20000 in
theorem cls_M : mx_cls "CurveSumsModel" F_M 23 ft_M := ⟨by decide +kernel, by decide +kernel, by decide +kernel⟩
theorem in_C_init : mx_in Y_C_init := ⟨by decide, ⟨by decide, by decide⟩, w_1, Or.inl ⟨w_21, rfl⟩⟩
theorem np_C_init : (parseMethodDescriptor (Y_C_init).1.desc).map (fun sig => sig.parameters.length) = some 2 := by decide +kernel
theorem in_E_init : mx_in Y_E_init := ⟨by decide, ⟨by decide, by decide⟩, w_3, Or.inl ⟨w_37, rfl⟩⟩
theorem np_E_init : (parseMethodDescriptor (Y_E_init).1.desc).map (fun sig => sig.parameters.length) = some 1 := by decide +kernel
theorem in_D_init : mx_in Y_D_init := ⟨by decide, ⟨by decide, by decide⟩, w_4, Or.inl ⟨w_58, rfl⟩⟩
theorem np_D_init : (parseMethodDescriptor (Y_D_init).1.desc).map (fun sig => sig.parameters.length) = some 1 := by decide +kernel
theorem in_L_init : mx_in Y_L_init := ⟨by decide, ⟨by decide, by decide⟩, w_5, Or.inl ⟨w_78, rfl⟩⟩
theorem np_L_init : (parseMethodDescriptor (Y_L_init).1.desc).map (fun sig => sig.parameters.length) = some 1 := by decide +kernel
theorem in_R_init : mx_in Y_R_init := ⟨by decide, ⟨by decide, by decide⟩, w_6, Or.inl ⟨w_101, rfl⟩⟩
theorem np_R_init : (parseMethodDescriptor (Y_R_init).1.desc).map (fun sig => sig.parameters.length) = some 0 := by decide +kernel
theorem in_P_init : mx_in Y_P_init := ⟨by decide, ⟨by decide, by decide⟩, w_7, Or.inl ⟨w_118, rfl⟩⟩
theorem np_P_init : (parseMethodDescriptor (Y_P_init).1.desc).map (fun sig => sig.parameters.length) = some 0 := by decide +kernel
theorem in_T_init : mx_in Y_T_init := ⟨by decide, ⟨by decide, by decide⟩, w_8, Or.inl ⟨w_134, rfl⟩⟩
theorem np_T_init : (parseMethodDescriptor (Y_T_init).1.desc).map (fun sig => sig.parameters.length) = some 1 := by decide +kernel
theorem in_C_wiggle : mx_in Y_C_wiggle := ⟨by decide, ⟨by decide, by decide⟩, w_1, Or.inl ⟨w_192, rfl⟩⟩
theorem np_C_wiggle : (parseMethodDescriptor (Y_C_wiggle).1.desc).map (fun sig => sig.parameters.length) = some 0 := by decide +kernel
theorem s_C_wiggle : Cond.selects (Y_C_wiggle).1.cls (Y_C_wiggle).1 (Y_C_wiggle).1 ∈ lw_tbl := w_191
theorem in_R_sumAt : mx_in Y_R_sumAt := ⟨by decide, ⟨by decide, by decide⟩, w_6, Or.inl ⟨w_196, rfl⟩⟩
theorem np_R_sumAt : (parseMethodDescriptor (Y_R_sumAt).1.desc).map (fun sig => sig.parameters.length) = some 2 := by decide +kernel
theorem s_R_sumAt : Cond.selects (Y_R_sumAt).1.cls (Y_R_sumAt).1 (Y_R_sumAt).1 ∈ lw_tbl := w_195
theorem in_C_clear : mx_in Y_C_clear := ⟨by decide, ⟨by decide, by decide⟩, w_1, Or.inl ⟨w_200, rfl⟩⟩
theorem np_C_clear : (parseMethodDescriptor (Y_C_clear).1.desc).map (fun sig => sig.parameters.length) = some 0 := by decide +kernel
theorem s_C_clear : Cond.selects (Y_C_clear).1.cls (Y_C_clear).1 (Y_C_clear).1 ∈ lw_tbl := w_199
theorem in_C_read : mx_in Y_C_read := ⟨by decide, ⟨by decide, by decide⟩, w_1, Or.inl ⟨w_204, rfl⟩⟩
theorem np_C_read : (parseMethodDescriptor (Y_C_read).1.desc).map (fun sig => sig.parameters.length) = some 0 := by decide +kernel
theorem s_C_read : Cond.selects (Y_C_read).1.cls (Y_C_read).1 (Y_C_read).1 ∈ lw_tbl := w_203
theorem in_T_scan : mx_in Y_T_scan := ⟨by decide, ⟨by decide, by decide⟩, w_8, Or.inl ⟨w_208, rfl⟩⟩
theorem np_T_scan : (parseMethodDescriptor (Y_T_scan).1.desc).map (fun sig => sig.parameters.length) = some 1 := by decide +kernel
theorem s_T_scan : Cond.selects (Y_T_scan).1.cls (Y_T_scan).1 (Y_T_scan).1 ∈ lw_tbl := w_207
theorem in_T_takes : mx_in Y_T_takes := ⟨by decide, ⟨by decide, by decide⟩, w_8, Or.inl ⟨w_212, rfl⟩⟩
theorem np_T_takes : (parseMethodDescriptor (Y_T_takes).1.desc).map (fun sig => sig.parameters.length) = some 1 := by decide +kernel
theorem s_T_takes : Cond.selects (Y_T_takes).1.cls (Y_T_takes).1 (Y_T_takes).1 ∈ lw_tbl := List.mem_append_left _ (by decide +kernel)
theorem in_T_takesDigit : mx_in Y_T_takesDigit := ⟨by decide, ⟨by decide, by decide⟩, w_8, Or.inl ⟨w_216, rfl⟩⟩
theorem np_T_takesDigit : (parseMethodDescriptor (Y_T_takesDigit).1.desc).map (fun sig => sig.parameters.length) = some 1 := by decide +kernel
theorem s_T_takesDigit : Cond.selects (Y_T_takesDigit).1.cls (Y_T_takesDigit).1 (Y_T_takesDigit).1 ∈ lw_tbl := List.mem_append_left _ (by decide +kernel)
theorem in_T_isWithinBounds : mx_in Y_T_isWithinBounds := ⟨by decide, ⟨by decide, by decide⟩, w_8, Or.inl ⟨w_220, rfl⟩⟩
theorem np_T_isWithinBounds : (parseMethodDescriptor (Y_T_isWithinBounds).1.desc).map (fun sig => sig.parameters.length) = some 2 := by decide +kernel
theorem s_T_isWithinBounds : Cond.selects (Y_T_isWithinBounds).1.cls (Y_T_isWithinBounds).1 (Y_T_isWithinBounds).1 ∈ lw_tbl := List.mem_append_left _ (by decide +kernel)
theorem in_T_signBehind : mx_in Y_T_signBehind := ⟨by decide, ⟨by decide, by decide⟩, w_8, Or.inl ⟨w_223, rfl⟩⟩
theorem np_T_signBehind : (parseMethodDescriptor (Y_T_signBehind).1.desc).map (fun sig => sig.parameters.length) = some 1 := by decide +kernel
theorem in_T_yearOf : mx_in Y_T_yearOf := ⟨by decide, ⟨by decide, by decide⟩, w_8, Or.inl ⟨w_227, rfl⟩⟩
theorem np_T_yearOf : (parseMethodDescriptor (Y_T_yearOf).1.desc).map (fun sig => sig.parameters.length) = some 1 := by decide +kernel
theorem s_T_yearOf : Cond.selects (Y_T_yearOf).1.cls (Y_T_yearOf).1 (Y_T_yearOf).1 ∈ lw_tbl := w_226
theorem in_T_ageOf : mx_in Y_T_ageOf := ⟨by decide, ⟨by decide, by decide⟩, w_8, Or.inl ⟨w_231, rfl⟩⟩
theorem np_T_ageOf : (parseMethodDescriptor (Y_T_ageOf).1.desc).map (fun sig => sig.parameters.length) = some 1 := by decide +kernel
theorem s_T_ageOf : Cond.selects (Y_T_ageOf).1.cls (Y_T_ageOf).1 (Y_T_ageOf).1 ∈ lw_tbl := w_230
theorem in_T_spreadOf : mx_in Y_T_spreadOf := ⟨by decide, ⟨by decide, by decide⟩, w_8, Or.inl ⟨w_235, rfl⟩⟩
theorem np_T_spreadOf : (parseMethodDescriptor (Y_T_spreadOf).1.desc).map (fun sig => sig.parameters.length) = some 1 := by decide +kernel
theorem s_T_spreadOf : Cond.selects (Y_T_spreadOf).1.cls (Y_T_spreadOf).1 (Y_T_spreadOf).1 ∈ lw_tbl := w_234
theorem in_E_tellRow : mx_in Y_E_tellRow := ⟨by decide, ⟨by decide, by decide⟩, w_3, Or.inl ⟨w_239, rfl⟩⟩
theorem np_E_tellRow : (parseMethodDescriptor (Y_E_tellRow).1.desc).map (fun sig => sig.parameters.length) = some 3 := by decide +kernel
theorem s_E_tellRow : Cond.selects (Y_E_tellRow).1.cls (Y_E_tellRow).1 (Y_E_tellRow).1 ∈ lw_tbl := w_238
theorem in_E_hasRow : mx_in Y_E_hasRow := ⟨by decide, ⟨by decide, by decide⟩, w_3, Or.inl ⟨w_243, rfl⟩⟩
theorem np_E_hasRow : (parseMethodDescriptor (Y_E_hasRow).1.desc).map (fun sig => sig.parameters.length) = some 1 := by decide +kernel
theorem s_E_hasRow : Cond.selects (Y_E_hasRow).1.cls (Y_E_hasRow).1 (Y_E_hasRow).1 ∈ lw_tbl := w_242
theorem in_W_cell : mx_in Y_W_cell := ⟨by decide, ⟨by decide, by decide⟩, w_0, Or.inl ⟨w_246, rfl⟩⟩
theorem np_W_cell : (parseMethodDescriptor (Y_W_cell).1.desc).map (fun sig => sig.parameters.length) = some 2 := by decide +kernel
theorem in_W_curve : mx_in Y_W_curve := ⟨by decide, ⟨by decide, by decide⟩, w_0, Or.inr w_249⟩
theorem np_W_curve : (parseMethodDescriptor (Y_W_curve).1.desc).map (fun sig => sig.parameters.length) = some 5 := by decide +kernel
theorem in_C_curve : mx_in Y_C_curve := ⟨by decide, ⟨by decide, by decide⟩, w_1, Or.inl ⟨w_255, rfl⟩⟩
theorem np_C_curve : (parseMethodDescriptor (Y_C_curve).1.desc).map (fun sig => sig.parameters.length) = some 3 := by decide +kernel
theorem s_C_curve : Cond.selects (Y_C_curve).1.cls (Y_C_curve).1 (Y_C_curve).1 ∈ lw_tbl := w_254
theorem in_C_needYear : mx_in Y_C_needYear := ⟨by decide, ⟨by decide, by decide⟩, w_1, Or.inl ⟨w_259, rfl⟩⟩
theorem np_C_needYear : (parseMethodDescriptor (Y_C_needYear).1.desc).map (fun sig => sig.parameters.length) = some 1 := by decide +kernel
theorem s_C_needYear : Cond.selects (Y_C_needYear).1.cls (Y_C_needYear).1 (Y_C_needYear).1 ∈ lw_tbl := List.mem_append_left _ (by decide +kernel)
theorem in_C_needAgeAndSpread : mx_in Y_C_needAgeAndSpread := ⟨by decide, ⟨by decide, by decide⟩, w_1, Or.inl ⟨w_330, rfl⟩⟩
theorem np_C_needAgeAndSpread : (parseMethodDescriptor (Y_C_needAgeAndSpread).1.desc).map (fun sig => sig.parameters.length) = some 2 := by decide +kernel
theorem in_W_edition : mx_in Y_W_edition := ⟨by decide, ⟨by decide, by decide⟩, w_0, Or.inr w_350⟩
theorem np_W_edition : (parseMethodDescriptor (Y_W_edition).1.desc).map (fun sig => sig.parameters.length) = some 2 := by decide +kernel
theorem in_C_edition : mx_in Y_C_edition := ⟨by decide, ⟨by decide, by decide⟩, w_1, Or.inl ⟨w_355, rfl⟩⟩
theorem np_C_edition : (parseMethodDescriptor (Y_C_edition).1.desc).map (fun sig => sig.parameters.length) = some 0 := by decide +kernel
theorem s_C_edition : Cond.selects (Y_C_edition).1.cls (Y_C_edition).1 (Y_C_edition).1 ∈ lw_tbl := w_354
theorem in_E_copyRowsOf : mx_in Y_E_copyRowsOf := ⟨by decide, ⟨by decide, by decide⟩, w_3, Or.inl ⟨w_375, rfl⟩⟩
theorem np_E_copyRowsOf : (parseMethodDescriptor (Y_E_copyRowsOf).1.desc).map (fun sig => sig.parameters.length) = some 1 := by decide +kernel
theorem s_E_copyRowsOf : Cond.selects (Y_E_copyRowsOf).1.cls (Y_E_copyRowsOf).1 (Y_E_copyRowsOf).1 ∈ lw_tbl := w_374
theorem in_W_use : mx_in Y_W_use := ⟨by decide, ⟨by decide, by decide⟩, w_0, Or.inr w_381⟩
theorem np_W_use : (parseMethodDescriptor (Y_W_use).1.desc).map (fun sig => sig.parameters.length) = some 3 := by decide +kernel
theorem in_C_use : mx_in Y_C_use := ⟨by decide, ⟨by decide, by decide⟩, w_1, Or.inl ⟨w_385, rfl⟩⟩
theorem np_C_use : (parseMethodDescriptor (Y_C_use).1.desc).map (fun sig => sig.parameters.length) = some 1 := by decide +kernel
theorem s_C_use : Cond.selects (Y_C_use).1.cls (Y_C_use).1 (Y_C_use).1 ∈ lw_tbl := w_384
theorem in_W_reservoir : mx_in Y_W_reservoir := ⟨by decide, ⟨by decide, by decide⟩, w_0, Or.inr w_389⟩
theorem np_W_reservoir : (parseMethodDescriptor (Y_W_reservoir).1.desc).map (fun sig => sig.parameters.length) = some 3 := by decide +kernel
theorem in_C_reservoir : mx_in Y_C_reservoir := ⟨by decide, ⟨by decide, by decide⟩, w_1, Or.inl ⟨w_393, rfl⟩⟩
theorem np_C_reservoir : (parseMethodDescriptor (Y_C_reservoir).1.desc).map (fun sig => sig.parameters.length) = some 2 := by decide +kernel
theorem s_C_reservoir : Cond.selects (Y_C_reservoir).1.cls (Y_C_reservoir).1 (Y_C_reservoir).1 ∈ lw_tbl := w_392
theorem in_W_date : mx_in Y_W_date := ⟨by decide, ⟨by decide, by decide⟩, w_0, Or.inr w_398⟩
theorem np_W_date : (parseMethodDescriptor (Y_W_date).1.desc).map (fun sig => sig.parameters.length) = some 4 := by decide +kernel
theorem in_C_date : mx_in Y_C_date := ⟨by decide, ⟨by decide, by decide⟩, w_1, Or.inl ⟨w_402, rfl⟩⟩
theorem np_C_date : (parseMethodDescriptor (Y_C_date).1.desc).map (fun sig => sig.parameters.length) = some 2 := by decide +kernel
theorem s_C_date : Cond.selects (Y_C_date).1.cls (Y_C_date).1 (Y_C_date).1 ∈ lw_tbl := w_401
theorem in_C_needRoomForDate : mx_in Y_C_needRoomForDate := ⟨by decide, ⟨by decide, by decide⟩, w_1, Or.inl ⟨w_406, rfl⟩⟩
theorem np_C_needRoomForDate : (parseMethodDescriptor (Y_C_needRoomForDate).1.desc).map (fun sig => sig.parameters.length) = some 0 := by decide +kernel
theorem s_C_needRoomForDate : Cond.selects (Y_C_needRoomForDate).1.cls (Y_C_needRoomForDate).1 (Y_C_needRoomForDate).1 ∈ lw_tbl := List.mem_append_left _ (by decide +kernel)
theorem in_C_tellMeasured : mx_in Y_C_tellMeasured := ⟨by decide, ⟨by decide, by decide⟩, w_1, Or.inl ⟨w_411, rfl⟩⟩
theorem np_C_tellMeasured : (parseMethodDescriptor (Y_C_tellMeasured).1.desc).map (fun sig => sig.parameters.length) = some 2 := by decide +kernel
theorem s_C_tellMeasured : Cond.selects (Y_C_tellMeasured).1.cls (Y_C_tellMeasured).1 (Y_C_tellMeasured).1 ∈ lw_tbl := List.mem_append_left _ (by decide +kernel)
theorem in_C_weightBy : mx_in Y_C_weightBy := ⟨by decide, ⟨by decide, by decide⟩, w_1, Or.inl ⟨w_415, rfl⟩⟩
theorem np_C_weightBy : (parseMethodDescriptor (Y_C_weightBy).1.desc).map (fun sig => sig.parameters.length) = some 4 := by decide +kernel
theorem s_C_weightBy : Cond.selects (Y_C_weightBy).1.cls (Y_C_weightBy).1 (Y_C_weightBy).1 ∈ lw_tbl := List.mem_append_left _ (by decide +kernel)
theorem in_C_countTold : mx_in Y_C_countTold := ⟨by decide, ⟨by decide, by decide⟩, w_1, Or.inl ⟨w_420, rfl⟩⟩
theorem np_C_countTold : (parseMethodDescriptor (Y_C_countTold).1.desc).map (fun sig => sig.parameters.length) = some 0 := by decide +kernel
theorem s_C_countTold : Cond.selects (Y_C_countTold).1.cls (Y_C_countTold).1 (Y_C_countTold).1 ∈ lw_tbl := List.mem_append_left _ (by decide +kernel)
theorem in_W_weight : mx_in Y_W_weight := ⟨by decide, ⟨by decide, by decide⟩, w_0, Or.inr w_423⟩
theorem np_W_weight : (parseMethodDescriptor (Y_W_weight).1.desc).map (fun sig => sig.parameters.length) = some 4 := by decide +kernel
theorem in_C_weight : mx_in Y_C_weight := ⟨by decide, ⟨by decide, by decide⟩, w_1, Or.inl ⟨w_427, rfl⟩⟩
theorem np_C_weight : (parseMethodDescriptor (Y_C_weight).1.desc).map (fun sig => sig.parameters.length) = some 2 := by decide +kernel
theorem s_C_weight : Cond.selects (Y_C_weight).1.cls (Y_C_weight).1 (Y_C_weight).1 ∈ lw_tbl := w_426
theorem in_C_needDate : mx_in Y_C_needDate := ⟨by decide, ⟨by decide, by decide⟩, w_1, Or.inl ⟨w_431, rfl⟩⟩
theorem np_C_needDate : (parseMethodDescriptor (Y_C_needDate).1.desc).map (fun sig => sig.parameters.length) = some 1 := by decide +kernel
theorem s_C_needDate : Cond.selects (Y_C_needDate).1.cls (Y_C_needDate).1 (Y_C_needDate).1 ∈ lw_tbl := List.mem_append_left _ (by decide +kernel)
theorem in_W_total : mx_in Y_W_total := ⟨by decide, ⟨by decide, by decide⟩, w_0, Or.inr w_435⟩
theorem np_W_total : (parseMethodDescriptor (Y_W_total).1.desc).map (fun sig => sig.parameters.length) = some 3 := by decide +kernel
theorem in_C_total : mx_in Y_C_total := ⟨by decide, ⟨by decide, by decide⟩, w_1, Or.inl ⟨w_439, rfl⟩⟩
theorem np_C_total : (parseMethodDescriptor (Y_C_total).1.desc).map (fun sig => sig.parameters.length) = some 1 := by decide +kernel
theorem s_C_total : Cond.selects (Y_C_total).1.cls (Y_C_total).1 (Y_C_total).1 ∈ lw_tbl := w_438
theorem in_D_allWeights : mx_in Y_D_allWeights := ⟨by decide, ⟨by decide, by decide⟩, w_4, Or.inl ⟨w_443, rfl⟩⟩
theorem np_D_allWeights : (parseMethodDescriptor (Y_D_allWeights).1.desc).map (fun sig => sig.parameters.length) = some 0 := by decide +kernel
theorem s_D_allWeights : Cond.selects (Y_D_allWeights).1.cls (Y_D_allWeights).1 (Y_D_allWeights).1 ∈ lw_tbl := w_442
theorem in_W_sum : mx_in Y_W_sum := ⟨by decide, ⟨by decide, by decide⟩, w_0, Or.inr w_446⟩
theorem np_W_sum : (parseMethodDescriptor (Y_W_sum).1.desc).map (fun sig => sig.parameters.length) = some 4 := by decide +kernel
theorem in_C_sum : mx_in Y_C_sum := ⟨by decide, ⟨by decide, by decide⟩, w_1, Or.inl ⟨w_450, rfl⟩⟩
theorem np_C_sum : (parseMethodDescriptor (Y_C_sum).1.desc).map (fun sig => sig.parameters.length) = some 2 := by decide +kernel
theorem s_C_sum : Cond.selects (Y_C_sum).1.cls (Y_C_sum).1 (Y_C_sum).1 ∈ lw_tbl := w_449
theorem in_D_greatestSumWith : mx_in Y_D_greatestSumWith := ⟨by decide, ⟨by decide, by decide⟩, w_4, Or.inl ⟨w_454, rfl⟩⟩
theorem np_D_greatestSumWith : (parseMethodDescriptor (Y_D_greatestSumWith).1.desc).map (fun sig => sig.parameters.length) = some 1 := by decide +kernel
theorem s_D_greatestSumWith : Cond.selects (Y_D_greatestSumWith).1.cls (Y_D_greatestSumWith).1 (Y_D_greatestSumWith).1 ∈ lw_tbl := w_453
theorem in_D_becomeSum : mx_in Y_D_becomeSum := ⟨by decide, ⟨by decide, by decide⟩, w_4, Or.inl ⟨w_460, rfl⟩⟩
theorem np_D_becomeSum : (parseMethodDescriptor (Y_D_becomeSum).1.desc).map (fun sig => sig.parameters.length) = some 2 := by decide +kernel
theorem s_D_becomeSum : Cond.selects (Y_D_becomeSum).1.cls (Y_D_becomeSum).1 (Y_D_becomeSum).1 ∈ lw_tbl := w_459
theorem in_W_mix : mx_in Y_W_mix := ⟨by decide, ⟨by decide, by decide⟩, w_0, Or.inr w_463⟩
theorem np_W_mix : (parseMethodDescriptor (Y_W_mix).1.desc).map (fun sig => sig.parameters.length) = some 6 := by decide +kernel
theorem in_C_mix : mx_in Y_C_mix := ⟨by decide, ⟨by decide, by decide⟩, w_1, Or.inl ⟨w_467, rfl⟩⟩
theorem np_C_mix : (parseMethodDescriptor (Y_C_mix).1.desc).map (fun sig => sig.parameters.length) = some 4 := by decide +kernel
theorem s_C_mix : Cond.selects (Y_C_mix).1.cls (Y_C_mix).1 (Y_C_mix).1 ∈ lw_tbl := w_466
theorem in_C_needShare : mx_in Y_C_needShare := ⟨by decide, ⟨by decide, by decide⟩, w_1, Or.inl ⟨w_471, rfl⟩⟩
theorem np_C_needShare : (parseMethodDescriptor (Y_C_needShare).1.desc).map (fun sig => sig.parameters.length) = some 3 := by decide +kernel
theorem in_D_becomeMixture : mx_in Y_D_becomeMixture := ⟨by decide, ⟨by decide, by decide⟩, w_4, Or.inl ⟨w_476, rfl⟩⟩
theorem np_D_becomeMixture : (parseMethodDescriptor (Y_D_becomeMixture).1.desc).map (fun sig => sig.parameters.length) = some 4 := by decide +kernel
theorem s_D_becomeMixture : Cond.selects (Y_D_becomeMixture).1.cls (Y_D_becomeMixture).1 (Y_D_becomeMixture).1 ∈ lw_tbl := w_475
theorem in_W_joinRepeats : mx_in Y_W_joinRepeats := ⟨by decide, ⟨by decide, by decide⟩, w_0, Or.inr w_479⟩
theorem np_W_joinRepeats : (parseMethodDescriptor (Y_W_joinRepeats).1.desc).map (fun sig => sig.parameters.length) = some 4 := by decide +kernel
theorem in_C_joinRepeats : mx_in Y_C_joinRepeats := ⟨by decide, ⟨by decide, by decide⟩, w_1, Or.inl ⟨w_483, rfl⟩⟩
theorem np_C_joinRepeats : (parseMethodDescriptor (Y_C_joinRepeats).1.desc).map (fun sig => sig.parameters.length) = some 2 := by decide +kernel
theorem s_C_joinRepeats : Cond.selects (Y_C_joinRepeats).1.cls (Y_C_joinRepeats).1 (Y_C_joinRepeats).1 ∈ lw_tbl := w_482
theorem in_D_isMeasured : mx_in Y_D_isMeasured := ⟨by decide, ⟨by decide, by decide⟩, w_4, Or.inl ⟨w_487, rfl⟩⟩
theorem np_D_isMeasured : (parseMethodDescriptor (Y_D_isMeasured).1.desc).map (fun sig => sig.parameters.length) = some 0 := by decide +kernel
theorem s_D_isMeasured : Cond.selects (Y_D_isMeasured).1.cls (Y_D_isMeasured).1 (Y_D_isMeasured).1 ∈ lw_tbl := w_486
theorem in_C_rootAtLeastOne : mx_in Y_C_rootAtLeastOne := ⟨by decide, ⟨by decide, by decide⟩, w_1, Or.inl ⟨w_490, rfl⟩⟩
theorem np_C_rootAtLeastOne : (parseMethodDescriptor (Y_C_rootAtLeastOne).1.desc).map (fun sig => sig.parameters.length) = some 1 := by decide +kernel
theorem in_W_least : mx_in Y_W_least := ⟨by decide, ⟨by decide, by decide⟩, w_0, Or.inr w_493⟩
theorem np_W_least : (parseMethodDescriptor (Y_W_least).1.desc).map (fun sig => sig.parameters.length) = some 5 := by decide +kernel
theorem in_C_least : mx_in Y_C_least := ⟨by decide, ⟨by decide, by decide⟩, w_1, Or.inl ⟨w_497, rfl⟩⟩
theorem np_C_least : (parseMethodDescriptor (Y_C_least).1.desc).map (fun sig => sig.parameters.length) = some 3 := by decide +kernel
theorem s_C_least : Cond.selects (Y_C_least).1.cls (Y_C_least).1 (Y_C_least).1 ∈ lw_tbl := w_496
theorem in_L_choose : mx_in Y_L_choose := ⟨by decide, ⟨by decide, by decide⟩, w_5, Or.inl ⟨w_501, rfl⟩⟩
theorem np_L_choose : (parseMethodDescriptor (Y_L_choose).1.desc).map (fun sig => sig.parameters.length) = some 3 := by decide +kernel
theorem s_L_choose : Cond.selects (Y_L_choose).1.cls (Y_L_choose).1 (Y_L_choose).1 ∈ lw_tbl := w_500
theorem in_L_heaviestLeft : mx_in Y_L_heaviestLeft := ⟨by decide, ⟨by decide, by decide⟩, w_5, Or.inl ⟨w_506, rfl⟩⟩
theorem np_L_heaviestLeft : (parseMethodDescriptor (Y_L_heaviestLeft).1.desc).map (fun sig => sig.parameters.length) = some 1 := by decide +kernel
theorem s_L_heaviestLeft : Cond.selects (Y_L_heaviestLeft).1.cls (Y_L_heaviestLeft).1 (Y_L_heaviestLeft).1 ∈ lw_tbl := List.mem_append_left _ (by decide +kernel)
theorem in_L_findSpans : mx_in Y_L_findSpans := ⟨by decide, ⟨by decide, by decide⟩, w_5, Or.inl ⟨w_510, rfl⟩⟩
theorem np_L_findSpans : (parseMethodDescriptor (Y_L_findSpans).1.desc).map (fun sig => sig.parameters.length) = some 0 := by decide +kernel
theorem s_L_findSpans : Cond.selects (Y_L_findSpans).1.cls (Y_L_findSpans).1 (Y_L_findSpans).1 ∈ lw_tbl := List.mem_append_left _ (by decide +kernel)
theorem in_L_holdsYear : mx_in Y_L_holdsYear := ⟨by decide, ⟨by decide, by decide⟩, w_5, Or.inl ⟨w_514, rfl⟩⟩
theorem np_L_holdsYear : (parseMethodDescriptor (Y_L_holdsYear).1.desc).map (fun sig => sig.parameters.length) = some 1 := by decide +kernel
theorem s_L_holdsYear : Cond.selects (Y_L_holdsYear).1.cls (Y_L_holdsYear).1 (Y_L_holdsYear).1 ∈ lw_tbl := List.mem_append_left _ (by decide +kernel)
theorem in_W_span : mx_in Y_W_span := ⟨by decide, ⟨by decide, by decide⟩, w_0, Or.inr w_517⟩
theorem np_W_span : (parseMethodDescriptor (Y_W_span).1.desc).map (fun sig => sig.parameters.length) = some 4 := by decide +kernel
theorem in_C_span : mx_in Y_C_span := ⟨by decide, ⟨by decide, by decide⟩, w_1, Or.inl ⟨w_521, rfl⟩⟩
theorem np_C_span : (parseMethodDescriptor (Y_C_span).1.desc).map (fun sig => sig.parameters.length) = some 2 := by decide +kernel
theorem s_C_span : Cond.selects (Y_C_span).1.cls (Y_C_span).1 (Y_C_span).1 ∈ lw_tbl := w_520
theorem in_W_gap : mx_in Y_W_gap := ⟨by decide, ⟨by decide, by decide⟩, w_0, Or.inr w_526⟩
theorem np_W_gap : (parseMethodDescriptor (Y_W_gap).1.desc).map (fun sig => sig.parameters.length) = some 4 := by decide +kernel
theorem in_C_gap : mx_in Y_C_gap := ⟨by decide, ⟨by decide, by decide⟩, w_1, Or.inl ⟨w_530, rfl⟩⟩
theorem np_C_gap : (parseMethodDescriptor (Y_C_gap).1.desc).map (fun sig => sig.parameters.length) = some 2 := by decide +kernel
theorem s_C_gap : Cond.selects (Y_C_gap).1.cls (Y_C_gap).1 (Y_C_gap).1 ∈ lw_tbl := w_529
theorem in_R_append : mx_in Y_R_append := ⟨by decide, ⟨by decide, by decide⟩, w_6, Or.inl ⟨w_536, rfl⟩⟩
theorem np_R_append : (parseMethodDescriptor (Y_R_append).1.desc).map (fun sig => sig.parameters.length) = some 2 := by decide +kernel
theorem s_R_append : Cond.selects (Y_R_append).1.cls (Y_R_append).1 (Y_R_append).1 ∈ lw_tbl := w_535
theorem in_W_slid : mx_in Y_W_slid := ⟨by decide, ⟨by decide, by decide⟩, w_0, Or.inr w_539⟩
theorem np_W_slid : (parseMethodDescriptor (Y_W_slid).1.desc).map (fun sig => sig.parameters.length) = some 3 := by decide +kernel
theorem in_C_slid : mx_in Y_C_slid := ⟨by decide, ⟨by decide, by decide⟩, w_1, Or.inl ⟨w_543, rfl⟩⟩
theorem np_C_slid : (parseMethodDescriptor (Y_C_slid).1.desc).map (fun sig => sig.parameters.length) = some 1 := by decide +kernel
theorem s_C_slid : Cond.selects (Y_C_slid).1.cls (Y_C_slid).1 (Y_C_slid).1 ∈ lw_tbl := w_542
theorem in_W_unit : mx_in Y_W_unit := ⟨by decide, ⟨by decide, by decide⟩, w_0, Or.inr w_546⟩
theorem np_W_unit : (parseMethodDescriptor (Y_W_unit).1.desc).map (fun sig => sig.parameters.length) = some 4 := by decide +kernel
theorem in_C_unit : mx_in Y_C_unit := ⟨by decide, ⟨by decide, by decide⟩, w_1, Or.inl ⟨w_550, rfl⟩⟩
theorem np_C_unit : (parseMethodDescriptor (Y_C_unit).1.desc).map (fun sig => sig.parameters.length) = some 2 := by decide +kernel
theorem s_C_unit : Cond.selects (Y_C_unit).1.cls (Y_C_unit).1 (Y_C_unit).1 ∈ lw_tbl := w_549
theorem in_P_holdsSignsAlone : mx_in Y_P_holdsSignsAlone := ⟨by decide, ⟨by decide, by decide⟩, w_7, Or.inl ⟨w_553, rfl⟩⟩
theorem np_P_holdsSignsAlone : (parseMethodDescriptor (Y_P_holdsSignsAlone).1.desc).map (fun sig => sig.parameters.length) = some 1 := by decide +kernel
theorem in_P_signAt : mx_in Y_P_signAt := ⟨by decide, ⟨by decide, by decide⟩, w_7, Or.inl ⟨w_556, rfl⟩⟩
theorem np_P_signAt : (parseMethodDescriptor (Y_P_signAt).1.desc).map (fun sig => sig.parameters.length) = some 2 := by decide +kernel
theorem in_P_signsIn : mx_in Y_P_signsIn := ⟨by decide, ⟨by decide, by decide⟩, w_7, Or.inl ⟨w_560, rfl⟩⟩
theorem np_P_signsIn : (parseMethodDescriptor (Y_P_signsIn).1.desc).map (fun sig => sig.parameters.length) = some 1 := by decide +kernel
theorem in_P_append : mx_in Y_P_append := ⟨by decide, ⟨by decide, by decide⟩, w_7, Or.inl ⟨w_565, rfl⟩⟩
theorem np_P_append : (parseMethodDescriptor (Y_P_append).1.desc).map (fun sig => sig.parameters.length) = some 1 := by decide +kernel
theorem s_P_append : Cond.selects (Y_P_append).1.cls (Y_P_append).1 (Y_P_append).1 ∈ lw_tbl := w_564
theorem in_W_count : mx_in Y_W_count := ⟨by decide, ⟨by decide, by decide⟩, w_0, Or.inr w_568⟩
theorem np_W_count : (parseMethodDescriptor (Y_W_count).1.desc).map (fun sig => sig.parameters.length) = some 3 := by decide +kernel
theorem in_C_count : mx_in Y_C_count := ⟨by decide, ⟨by decide, by decide⟩, w_1, Or.inl ⟨w_572, rfl⟩⟩
theorem np_C_count : (parseMethodDescriptor (Y_C_count).1.desc).map (fun sig => sig.parameters.length) = some 1 := by decide +kernel
theorem s_C_count : Cond.selects (Y_C_count).1.cls (Y_C_count).1 (Y_C_count).1 ∈ lw_tbl := w_571
theorem in_M_init : mx_in Y_M_init := ⟨by decide, ⟨by decide, by decide⟩, w_9, Or.inl ⟨w_578, rfl⟩⟩
theorem np_M_init : (parseMethodDescriptor (Y_M_init).1.desc).map (fun sig => sig.parameters.length) = some 2 := by decide +kernel
theorem in_M_thrown : mx_in Y_M_thrown := ⟨by decide, ⟨by decide, by decide⟩, w_9, Or.inl ⟨w_654, rfl⟩⟩
theorem np_M_thrown : (parseMethodDescriptor (Y_M_thrown).1.desc).map (fun sig => sig.parameters.length) = some 0 := by decide +kernel
theorem s_M_thrown : Cond.selects (Y_M_thrown).1.cls (Y_M_thrown).1 (Y_M_thrown).1 ∈ lw_tbl := w_653
theorem in_M_curve : mx_in Y_M_curve := ⟨by decide, ⟨by decide, by decide⟩, w_9, Or.inl ⟨w_658, rfl⟩⟩
theorem np_M_curve : (parseMethodDescriptor (Y_M_curve).1.desc).map (fun sig => sig.parameters.length) = some 3 := by decide +kernel
theorem s_M_curve : Cond.selects (Y_M_curve).1.cls (Y_M_curve).1 (Y_M_curve).1 ∈ lw_tbl := w_657
theorem in_M_isYear : mx_in Y_M_isYear := ⟨by decide, ⟨by decide, by decide⟩, w_9, Or.inl ⟨w_662, rfl⟩⟩
theorem np_M_isYear : (parseMethodDescriptor (Y_M_isYear).1.desc).map (fun sig => sig.parameters.length) = some 1 := by decide +kernel
theorem s_M_isYear : Cond.selects (Y_M_isYear).1.cls (Y_M_isYear).1 (Y_M_isYear).1 ∈ lw_tbl := List.mem_append_left _ (by decide +kernel)
theorem in_M_within : mx_in Y_M_within := ⟨by decide, ⟨by decide, by decide⟩, w_9, Or.inl ⟨w_665, rfl⟩⟩
theorem np_M_within : (parseMethodDescriptor (Y_M_within).1.desc).map (fun sig => sig.parameters.length) = some 3 := by decide +kernel
theorem in_M_goes : mx_in Y_M_goes := ⟨by decide, ⟨by decide, by decide⟩, w_9, Or.inl ⟨w_669, rfl⟩⟩
theorem np_M_goes : (parseMethodDescriptor (Y_M_goes).1.desc).map (fun sig => sig.parameters.length) = some 3 := by decide +kernel
theorem s_M_goes : Cond.selects (Y_M_goes).1.cls (Y_M_goes).1 (Y_M_goes).1 ∈ lw_tbl := List.mem_append_left _ (by decide +kernel)
theorem in_M_put : mx_in Y_M_put := ⟨by decide, ⟨by decide, by decide⟩, w_9, Or.inl ⟨w_673, rfl⟩⟩
theorem np_M_put : (parseMethodDescriptor (Y_M_put).1.desc).map (fun sig => sig.parameters.length) = some 3 := by decide +kernel
theorem s_M_put : Cond.selects (Y_M_put).1.cls (Y_M_put).1 (Y_M_put).1 ∈ lw_tbl := List.mem_append_left _ (by decide +kernel)
theorem in_M_edition : mx_in Y_M_edition := ⟨by decide, ⟨by decide, by decide⟩, w_9, Or.inl ⟨w_677, rfl⟩⟩
theorem np_M_edition : (parseMethodDescriptor (Y_M_edition).1.desc).map (fun sig => sig.parameters.length) = some 0 := by decide +kernel
theorem s_M_edition : Cond.selects (Y_M_edition).1.cls (Y_M_edition).1 (Y_M_edition).1 ∈ lw_tbl := w_676
theorem in_M_use : mx_in Y_M_use := ⟨by decide, ⟨by decide, by decide⟩, w_9, Or.inl ⟨w_681, rfl⟩⟩
theorem np_M_use : (parseMethodDescriptor (Y_M_use).1.desc).map (fun sig => sig.parameters.length) = some 1 := by decide +kernel
theorem s_M_use : Cond.selects (Y_M_use).1.cls (Y_M_use).1 (Y_M_use).1 ∈ lw_tbl := w_680
theorem in_M_reservoir : mx_in Y_M_reservoir := ⟨by decide, ⟨by decide, by decide⟩, w_9, Or.inl ⟨w_685, rfl⟩⟩
theorem np_M_reservoir : (parseMethodDescriptor (Y_M_reservoir).1.desc).map (fun sig => sig.parameters.length) = some 2 := by decide +kernel
theorem s_M_reservoir : Cond.selects (Y_M_reservoir).1.cls (Y_M_reservoir).1 (Y_M_reservoir).1 ∈ lw_tbl := w_684
theorem in_M_date : mx_in Y_M_date := ⟨by decide, ⟨by decide, by decide⟩, w_9, Or.inl ⟨w_689, rfl⟩⟩
theorem np_M_date : (parseMethodDescriptor (Y_M_date).1.desc).map (fun sig => sig.parameters.length) = some 2 := by decide +kernel
theorem s_M_date : Cond.selects (Y_M_date).1.cls (Y_M_date).1 (Y_M_date).1 ∈ lw_tbl := w_688
theorem in_M_measure : mx_in Y_M_measure := ⟨by decide, ⟨by decide, by decide⟩, w_9, Or.inl ⟨w_693, rfl⟩⟩
theorem np_M_measure : (parseMethodDescriptor (Y_M_measure).1.desc).map (fun sig => sig.parameters.length) = some 2 := by decide +kernel
theorem s_M_measure : Cond.selects (Y_M_measure).1.cls (Y_M_measure).1 (Y_M_measure).1 ∈ lw_tbl := List.mem_append_left _ (by decide +kernel)
theorem in_M_weigh : mx_in Y_M_weigh := ⟨by decide, ⟨by decide, by decide⟩, w_9, Or.inl ⟨w_697, rfl⟩⟩
theorem np_M_weigh : (parseMethodDescriptor (Y_M_weigh).1.desc).map (fun sig => sig.parameters.length) = some 3 := by decide +kernel
theorem s_M_weigh : Cond.selects (Y_M_weigh).1.cls (Y_M_weigh).1 (Y_M_weigh).1 ∈ lw_tbl := List.mem_append_left _ (by decide +kernel)
theorem in_M_weight : mx_in Y_M_weight := ⟨by decide, ⟨by decide, by decide⟩, w_9, Or.inl ⟨w_701, rfl⟩⟩
theorem np_M_weight : (parseMethodDescriptor (Y_M_weight).1.desc).map (fun sig => sig.parameters.length) = some 2 := by decide +kernel
theorem s_M_weight : Cond.selects (Y_M_weight).1.cls (Y_M_weight).1 (Y_M_weight).1 ∈ lw_tbl := w_700
theorem in_M_isDate : mx_in Y_M_isDate := ⟨by decide, ⟨by decide, by decide⟩, w_9, Or.inl ⟨w_705, rfl⟩⟩
theorem np_M_isDate : (parseMethodDescriptor (Y_M_isDate).1.desc).map (fun sig => sig.parameters.length) = some 1 := by decide +kernel
theorem s_M_isDate : Cond.selects (Y_M_isDate).1.cls (Y_M_isDate).1 (Y_M_isDate).1 ∈ lw_tbl := List.mem_append_left _ (by decide +kernel)
theorem in_M_total : mx_in Y_M_total := ⟨by decide, ⟨by decide, by decide⟩, w_9, Or.inl ⟨w_709, rfl⟩⟩
theorem np_M_total : (parseMethodDescriptor (Y_M_total).1.desc).map (fun sig => sig.parameters.length) = some 1 := by decide +kernel
theorem s_M_total : Cond.selects (Y_M_total).1.cls (Y_M_total).1 (Y_M_total).1 ∈ lw_tbl := w_708
theorem in_M_totalOf : mx_in Y_M_totalOf := ⟨by decide, ⟨by decide, by decide⟩, w_9, Or.inl ⟨w_713, rfl⟩⟩
theorem np_M_totalOf : (parseMethodDescriptor (Y_M_totalOf).1.desc).map (fun sig => sig.parameters.length) = some 1 := by decide +kernel
theorem s_M_totalOf : Cond.selects (Y_M_totalOf).1.cls (Y_M_totalOf).1 (Y_M_totalOf).1 ∈ lw_tbl := List.mem_append_left _ (by decide +kernel)
theorem in_M_sum : mx_in Y_M_sum := ⟨by decide, ⟨by decide, by decide⟩, w_9, Or.inl ⟨w_717, rfl⟩⟩
theorem np_M_sum : (parseMethodDescriptor (Y_M_sum).1.desc).map (fun sig => sig.parameters.length) = some 2 := by decide +kernel
theorem s_M_sum : Cond.selects (Y_M_sum).1.cls (Y_M_sum).1 (Y_M_sum).1 ∈ lw_tbl := w_716
theorem in_M_mix : mx_in Y_M_mix := ⟨by decide, ⟨by decide, by decide⟩, w_9, Or.inl ⟨w_722, rfl⟩⟩
theorem np_M_mix : (parseMethodDescriptor (Y_M_mix).1.desc).map (fun sig => sig.parameters.length) = some 4 := by decide +kernel
theorem s_M_mix : Cond.selects (Y_M_mix).1.cls (Y_M_mix).1 (Y_M_mix).1 ∈ lw_tbl := w_721
theorem in_M_joinRepeats : mx_in Y_M_joinRepeats := ⟨by decide, ⟨by decide, by decide⟩, w_9, Or.inl ⟨w_726, rfl⟩⟩
theorem np_M_joinRepeats : (parseMethodDescriptor (Y_M_joinRepeats).1.desc).map (fun sig => sig.parameters.length) = some 2 := by decide +kernel
theorem s_M_joinRepeats : Cond.selects (Y_M_joinRepeats).1.cls (Y_M_joinRepeats).1 (Y_M_joinRepeats).1 ∈ lw_tbl := w_725
theorem in_M_least : mx_in Y_M_least := ⟨by decide, ⟨by decide, by decide⟩, w_9, Or.inl ⟨w_730, rfl⟩⟩
theorem np_M_least : (parseMethodDescriptor (Y_M_least).1.desc).map (fun sig => sig.parameters.length) = some 3 := by decide +kernel
theorem s_M_least : Cond.selects (Y_M_least).1.cls (Y_M_least).1 (Y_M_least).1 ∈ lw_tbl := w_729
theorem in_M_isNeeded : mx_in Y_M_isNeeded := ⟨by decide, ⟨by decide, by decide⟩, w_9, Or.inl ⟨w_734, rfl⟩⟩
theorem np_M_isNeeded : (parseMethodDescriptor (Y_M_isNeeded).1.desc).map (fun sig => sig.parameters.length) = some 4 := by decide +kernel
theorem s_M_isNeeded : Cond.selects (Y_M_isNeeded).1.cls (Y_M_isNeeded).1 (Y_M_isNeeded).1 ∈ lw_tbl := List.mem_append_left _ (by decide +kernel)
theorem in_M_spans : mx_in Y_M_spans := ⟨by decide, ⟨by decide, by decide⟩, w_9, Or.inl ⟨w_738, rfl⟩⟩
theorem np_M_spans : (parseMethodDescriptor (Y_M_spans).1.desc).map (fun sig => sig.parameters.length) = some 0 := by decide +kernel
theorem s_M_spans : Cond.selects (Y_M_spans).1.cls (Y_M_spans).1 (Y_M_spans).1 ∈ lw_tbl := List.mem_append_left _ (by decide +kernel)
theorem in_M_begins : mx_in Y_M_begins := ⟨by decide, ⟨by decide, by decide⟩, w_9, Or.inl ⟨w_742, rfl⟩⟩
theorem np_M_begins : (parseMethodDescriptor (Y_M_begins).1.desc).map (fun sig => sig.parameters.length) = some 1 := by decide +kernel
theorem s_M_begins : Cond.selects (Y_M_begins).1.cls (Y_M_begins).1 (Y_M_begins).1 ∈ lw_tbl := List.mem_append_left _ (by decide +kernel)
theorem in_M_span : mx_in Y_M_span := ⟨by decide, ⟨by decide, by decide⟩, w_9, Or.inl ⟨w_746, rfl⟩⟩
theorem np_M_span : (parseMethodDescriptor (Y_M_span).1.desc).map (fun sig => sig.parameters.length) = some 2 := by decide +kernel
theorem s_M_span : Cond.selects (Y_M_span).1.cls (Y_M_span).1 (Y_M_span).1 ∈ lw_tbl := w_745
theorem in_M_gap : mx_in Y_M_gap := ⟨by decide, ⟨by decide, by decide⟩, w_9, Or.inl ⟨w_750, rfl⟩⟩
theorem np_M_gap : (parseMethodDescriptor (Y_M_gap).1.desc).map (fun sig => sig.parameters.length) = some 2 := by decide +kernel
theorem s_M_gap : Cond.selects (Y_M_gap).1.cls (Y_M_gap).1 (Y_M_gap).1 ∈ lw_tbl := w_749
theorem in_M_slid : mx_in Y_M_slid := ⟨by decide, ⟨by decide, by decide⟩, w_9, Or.inl ⟨w_754, rfl⟩⟩
theorem np_M_slid : (parseMethodDescriptor (Y_M_slid).1.desc).map (fun sig => sig.parameters.length) = some 1 := by decide +kernel
theorem s_M_slid : Cond.selects (Y_M_slid).1.cls (Y_M_slid).1 (Y_M_slid).1 ∈ lw_tbl := w_753
theorem in_M_slidTo : mx_in Y_M_slidTo := ⟨by decide, ⟨by decide, by decide⟩, w_9, Or.inl ⟨w_758, rfl⟩⟩
theorem np_M_slidTo : (parseMethodDescriptor (Y_M_slidTo).1.desc).map (fun sig => sig.parameters.length) = some 1 := by decide +kernel
theorem s_M_slidTo : Cond.selects (Y_M_slidTo).1.cls (Y_M_slidTo).1 (Y_M_slidTo).1 ∈ lw_tbl := List.mem_append_left _ (by decide +kernel)
theorem in_M_wiggle : mx_in Y_M_wiggle := ⟨by decide, ⟨by decide, by decide⟩, w_9, Or.inl ⟨w_762, rfl⟩⟩
theorem np_M_wiggle : (parseMethodDescriptor (Y_M_wiggle).1.desc).map (fun sig => sig.parameters.length) = some 0 := by decide +kernel
theorem s_M_wiggle : Cond.selects (Y_M_wiggle).1.cls (Y_M_wiggle).1 (Y_M_wiggle).1 ∈ lw_tbl := w_761
theorem in_M_clear : mx_in Y_M_clear := ⟨by decide, ⟨by decide, by decide⟩, w_9, Or.inl ⟨w_766, rfl⟩⟩
theorem np_M_clear : (parseMethodDescriptor (Y_M_clear).1.desc).map (fun sig => sig.parameters.length) = some 0 := by decide +kernel
theorem s_M_clear : Cond.selects (Y_M_clear).1.cls (Y_M_clear).1 (Y_M_clear).1 ∈ lw_tbl := w_765
theorem in_M_unit : mx_in Y_M_unit := ⟨by decide, ⟨by decide, by decide⟩, w_9, Or.inl ⟨w_770, rfl⟩⟩
theorem np_M_unit : (parseMethodDescriptor (Y_M_unit).1.desc).map (fun sig => sig.parameters.length) = some 2 := by decide +kernel
theorem s_M_unit : Cond.selects (Y_M_unit).1.cls (Y_M_unit).1 (Y_M_unit).1 ∈ lw_tbl := w_769
theorem in_M_plain : mx_in Y_M_plain := ⟨by decide, ⟨by decide, by decide⟩, w_9, Or.inl ⟨w_773, rfl⟩⟩
theorem np_M_plain : (parseMethodDescriptor (Y_M_plain).1.desc).map (fun sig => sig.parameters.length) = some 1 := by decide +kernel
theorem in_M_signs : mx_in Y_M_signs := ⟨by decide, ⟨by decide, by decide⟩, w_9, Or.inl ⟨w_776, rfl⟩⟩
theorem np_M_signs : (parseMethodDescriptor (Y_M_signs).1.desc).map (fun sig => sig.parameters.length) = some 1 := by decide +kernel
theorem in_M_push : mx_in Y_M_push := ⟨by decide, ⟨by decide, by decide⟩, w_9, Or.inl ⟨w_780, rfl⟩⟩
theorem np_M_push : (parseMethodDescriptor (Y_M_push).1.desc).map (fun sig => sig.parameters.length) = some 1 := by decide +kernel
theorem s_M_push : Cond.selects (Y_M_push).1.cls (Y_M_push).1 (Y_M_push).1 ∈ lw_tbl := List.mem_append_left _ (by decide +kernel)
theorem in_M_read : mx_in Y_M_read := ⟨by decide, ⟨by decide, by decide⟩, w_9, Or.inl ⟨w_784, rfl⟩⟩
theorem np_M_read : (parseMethodDescriptor (Y_M_read).1.desc).map (fun sig => sig.parameters.length) = some 0 := by decide +kernel
theorem s_M_read : Cond.selects (Y_M_read).1.cls (Y_M_read).1 (Y_M_read).1 ∈ lw_tbl := w_783
theorem in_M_fault : mx_in Y_M_fault := ⟨by decide, ⟨by decide, by decide⟩, w_9, Or.inl ⟨w_788, rfl⟩⟩
theorem np_M_fault : (parseMethodDescriptor (Y_M_fault).1.desc).map (fun sig => sig.parameters.length) = some 0 := by decide +kernel
theorem s_M_fault : Cond.selects (Y_M_fault).1.cls (Y_M_fault).1 (Y_M_fault).1 ∈ lw_tbl := List.mem_append_left _ (by decide +kernel)
theorem in_M_count : mx_in Y_M_count := ⟨by decide, ⟨by decide, by decide⟩, w_9, Or.inl ⟨w_792, rfl⟩⟩
theorem np_M_count : (parseMethodDescriptor (Y_M_count).1.desc).map (fun sig => sig.parameters.length) = some 1 := by decide +kernel
theorem s_M_count : Cond.selects (Y_M_count).1.cls (Y_M_count).1 (Y_M_count).1 ∈ lw_tbl := w_791
end
section
/-! words about the JDK's own codes; the texts of throws -/
theorem w_objcode : Cond.code Lib.objectInit ⟨#[0xb1]⟩ 1 none ∈ lw_tbl := by decide +kernel
theorem w_mmaxcode : Cond.code Lib.Math.max.name Lib.Math.max.code 2 (some .int) ∈ lw_tbl := by decide +kernel
theorem w_mmincode : Cond.code Lib.Math.min.name Lib.Math.min.code 2 (some .int) ∈ lw_tbl := by decide +kernel
theorem th_102 : mx_thr "CurveSums" 102 "java/lang/IndexOutOfBoundsException" ["java/lang/RuntimeException", "java/lang/Exception"] := by unfold mx_thr; decide +kernel
theorem th_107 : mx_thr "CurveSums" 107 "java/lang/IllegalArgumentException" ["java/lang/RuntimeException", "java/lang/Exception"] := by unfold mx_thr; decide +kernel
theorem th_91 : mx_thr "CurveSums" 91 "java/lang/IllegalStateException" ["java/lang/RuntimeException", "java/lang/Exception"] := by unfold mx_thr; decide +kernel
section MXL
variable {G : mx_G} {Y : mx_Y} {d bc bs : Nat} {ex : Bool} {N : Nat} {ce : Nat → va_E} {pc : Nat} {l : List (Nat × Value)} {r : List Value} {Q : mx_P}
theorem mx_ldcI {idx : Nat} {v : Int32} {z : Int} (hd : decode Y.2.1 pc = .ok (.ldc idx, 2)) (hw : Cond.constant Y.1.cls idx v ∈ lw_tbl) (hv : v = iI z) (k : mx_M G Y d bc bs ex N ce (pc + 2) l (.int (iI z) :: r) Q) : mx_M G Y d bc bs ex N ce pc l r Q := by
  intro p e R s m args below meth c H locs cells slots ls h
  subst hv
  exact lv_ldc h.1.1 h.1.2.1 h.1.2.2.2.2.2.1 (mx_wd h.1 hw rfl) hd (k p e R s m args below meth c H locs cells slots ls h)
theorem mx_bud {bc' bs' : Nat} {st : List Value} (h1 : bc ≤ bc') (h2 : bs ≤ bs') (k : mx_M G Y d bc bs ex N ce pc l st Q) : mx_M G Y d bc' bs' ex N ce pc l st Q := by
  intro p e R s m args below meth c H locs cells slots ls h
  have g1 := h.2.2.2.1
  have g2 := h.2.2.2.2.1
  exact k p e R s m args below meth c H locs cells slots ls ⟨h.1, h.2.1, h.2.2.1, by omega, by omega, h.2.2.2.2.2⟩
theorem mx_ce {ce' : Nat → va_E} {st : List Value} (e : ce = ce') (k : mx_M G Y d bc bs ex N ce' pc l st Q) : mx_M G Y d bc bs ex N ce pc l st Q := e ▸ k
end MXL
end
section
/-! branches over whole numbers; arrays of them -/
abbrev aI (G : mx_G) (n : Nat) (f : Nat → Int) : va_E := .inl (G.2.2.2 0, n, .inl (fun j => iI (f j)))
def bI (b : Bool) : Int := if b = true then 1 else 0
abbrev aB (G : mx_G) (n : Nat) (f : Nat → Bool) : va_E := .inl (G.2.2.2 1, n, .inl (fun j => iI (bI (f j))))
theorem bI_nar (b : Bool) : narrow .boolean (.int (iI (bI b))) = .int (iI (bI b)) := by cases b <;> rfl
theorem iI_nar1 : narrow .boolean (.int (iI 1)) = .int (iI 1) := rfl
theorem iI_nar0 : narrow .boolean (.int (iI 0)) = .int (iI 0) := rfl
section MXN
variable {G : mx_G} {Y : mx_Y} {d bc bs : Nat} {ex : Bool} {N : Nat} {ce : Nat → va_E} {pc : Nat} {l : List (Nat × Value)} {r : List Value} {Q : mx_P}
theorem mx_icmp_eqI {a b : Int} {off : Int} (tgt : Nat) (hd : decode Y.2.1 pc = .ok (.if_icmp .eq off, 3)) (ht : (pc : Int) + off = (tgt : Int)) (h1 : -2147483648 ≤ a) (h2 : a < 2147483648) (h3 : -2147483648 ≤ b) (h4 : b < 2147483648) (kt : a = b → mx_M G Y d bc bs ex N ce tgt l r Q) (kf : ¬ a = b → mx_M G Y d bc bs ex N ce (pc + 3) l r Q) : mx_M G Y d bc bs ex N ce pc l (.int (iI b) :: .int (iI a) :: r) Q :=
  mx_icmp_eq tgt hd ht (fun q => kt ((iI_eq h1 h2 h3 h4).mp q)) (fun q => kf (fun z => q ((iI_eq h1 h2 h3 h4).mpr z)))
theorem mx_icmp_eqY {a b : Int} {off : Int} (tgt : Nat) (hd : decode Y.2.1 pc = .ok (.if_icmp .eq off, 3)) (ht : (pc : Int) + off = (tgt : Int)) (h1 : -2147483648 ≤ a) (h2 : a < 2147483648) (h3 : -2147483648 ≤ b) (h4 : b < 2147483648) (hc : a = b) (k : mx_M G Y d bc bs ex N ce tgt l r Q) : mx_M G Y d bc bs ex N ce pc l (.int (iI b) :: .int (iI a) :: r) Q := mx_icmp_eqI tgt hd ht h1 h2 h3 h4 (fun _ => k) (fun q => absurd hc q)
theorem mx_icmp_eqN {a b : Int} {off : Int} (tgt : Nat) (hd : decode Y.2.1 pc = .ok (.if_icmp .eq off, 3)) (ht : (pc : Int) + off = (tgt : Int)) (h1 : -2147483648 ≤ a) (h2 : a < 2147483648) (h3 : -2147483648 ≤ b) (h4 : b < 2147483648) (hc : ¬ a = b) (k : mx_M G Y d bc bs ex N ce (pc + 3) l r Q) : mx_M G Y d bc bs ex N ce pc l (.int (iI b) :: .int (iI a) :: r) Q := mx_icmp_eqI tgt hd ht h1 h2 h3 h4 (fun q => absurd q hc) (fun _ => k)
theorem mx_icmp_neI {a b : Int} {off : Int} (tgt : Nat) (hd : decode Y.2.1 pc = .ok (.if_icmp .ne off, 3)) (ht : (pc : Int) + off = (tgt : Int)) (h1 : -2147483648 ≤ a) (h2 : a < 2147483648) (h3 : -2147483648 ≤ b) (h4 : b < 2147483648) (kt : ¬ a = b → mx_M G Y d bc bs ex N ce tgt l r Q) (kf : a = b → mx_M G Y d bc bs ex N ce (pc + 3) l r Q) : mx_M G Y d bc bs ex N ce pc l (.int (iI b) :: .int (iI a) :: r) Q :=
  mx_icmp_ne tgt hd ht (fun q => kt (fun z => q ((iI_eq h1 h2 h3 h4).mpr z))) (fun q => kf ((iI_eq h1 h2 h3 h4).mp q))
theorem mx_icmp_neY {a b : Int} {off : Int} (tgt : Nat) (hd : decode Y.2.1 pc = .ok (.if_icmp .ne off, 3)) (ht : (pc : Int) + off = (tgt : Int)) (h1 : -2147483648 ≤ a) (h2 : a < 2147483648) (h3 : -2147483648 ≤ b) (h4 : b < 2147483648) (hc : ¬ a = b) (k : mx_M G Y d bc bs ex N ce tgt l r Q) : mx_M G Y d bc bs ex N ce pc l (.int (iI b) :: .int (iI a) :: r) Q := mx_icmp_neI tgt hd ht h1 h2 h3 h4 (fun _ => k) (fun q => absurd q hc)
theorem mx_icmp_neN {a b : Int} {off : Int} (tgt : Nat) (hd : decode Y.2.1 pc = .ok (.if_icmp .ne off, 3)) (ht : (pc : Int) + off = (tgt : Int)) (h1 : -2147483648 ≤ a) (h2 : a < 2147483648) (h3 : -2147483648 ≤ b) (h4 : b < 2147483648) (hc : a = b) (k : mx_M G Y d bc bs ex N ce (pc + 3) l r Q) : mx_M G Y d bc bs ex N ce pc l (.int (iI b) :: .int (iI a) :: r) Q := mx_icmp_neI tgt hd ht h1 h2 h3 h4 (fun q => absurd hc q) (fun _ => k)
theorem mx_icmp_ltI {a b : Int} {off : Int} (tgt : Nat) (hd : decode Y.2.1 pc = .ok (.if_icmp .lt off, 3)) (ht : (pc : Int) + off = (tgt : Int)) (h1 : -2147483648 ≤ a) (h2 : a < 2147483648) (h3 : -2147483648 ≤ b) (h4 : b < 2147483648) (kt : a < b → mx_M G Y d bc bs ex N ce tgt l r Q) (kf : ¬ a < b → mx_M G Y d bc bs ex N ce (pc + 3) l r Q) : mx_M G Y d bc bs ex N ce pc l (.int (iI b) :: .int (iI a) :: r) Q :=
  mx_icmp_lt tgt hd ht (fun q => kt ((iI_lt h1 h2 h3 h4).mp q)) (fun q => kf (fun z => q ((iI_lt h1 h2 h3 h4).mpr z)))
theorem mx_icmp_ltY {a b : Int} {off : Int} (tgt : Nat) (hd : decode Y.2.1 pc = .ok (.if_icmp .lt off, 3)) (ht : (pc : Int) + off = (tgt : Int)) (h1 : -2147483648 ≤ a) (h2 : a < 2147483648) (h3 : -2147483648 ≤ b) (h4 : b < 2147483648) (hc : a < b) (k : mx_M G Y d bc bs ex N ce tgt l r Q) : mx_M G Y d bc bs ex N ce pc l (.int (iI b) :: .int (iI a) :: r) Q := mx_icmp_ltI tgt hd ht h1 h2 h3 h4 (fun _ => k) (fun q => absurd hc q)
theorem mx_icmp_ltN {a b : Int} {off : Int} (tgt : Nat) (hd : decode Y.2.1 pc = .ok (.if_icmp .lt off, 3)) (ht : (pc : Int) + off = (tgt : Int)) (h1 : -2147483648 ≤ a) (h2 : a < 2147483648) (h3 : -2147483648 ≤ b) (h4 : b < 2147483648) (hc : ¬ a < b) (k : mx_M G Y d bc bs ex N ce (pc + 3) l r Q) : mx_M G Y d bc bs ex N ce pc l (.int (iI b) :: .int (iI a) :: r) Q := mx_icmp_ltI tgt hd ht h1 h2 h3 h4 (fun q => absurd q hc) (fun _ => k)
theorem mx_icmp_geI {a b : Int} {off : Int} (tgt : Nat) (hd : decode Y.2.1 pc = .ok (.if_icmp .ge off, 3)) (ht : (pc : Int) + off = (tgt : Int)) (h1 : -2147483648 ≤ a) (h2 : a < 2147483648) (h3 : -2147483648 ≤ b) (h4 : b < 2147483648) (kt : b ≤ a → mx_M G Y d bc bs ex N ce tgt l r Q) (kf : ¬ b ≤ a → mx_M G Y d bc bs ex N ce (pc + 3) l r Q) : mx_M G Y d bc bs ex N ce pc l (.int (iI b) :: .int (iI a) :: r) Q :=
  mx_icmp_ge tgt hd ht (fun q => kt ((iI_le h3 h4 h1 h2).mp q)) (fun q => kf (fun z => q ((iI_le h3 h4 h1 h2).mpr z)))
theorem mx_icmp_geY {a b : Int} {off : Int} (tgt : Nat) (hd : decode Y.2.1 pc = .ok (.if_icmp .ge off, 3)) (ht : (pc : Int) + off = (tgt : Int)) (h1 : -2147483648 ≤ a) (h2 : a < 2147483648) (h3 : -2147483648 ≤ b) (h4 : b < 2147483648) (hc : b ≤ a) (k : mx_M G Y d bc bs ex N ce tgt l r Q) : mx_M G Y d bc bs ex N ce pc l (.int (iI b) :: .int (iI a) :: r) Q := mx_icmp_geI tgt hd ht h1 h2 h3 h4 (fun _ => k) (fun q => absurd hc q)
theorem mx_icmp_geN {a b : Int} {off : Int} (tgt : Nat) (hd : decode Y.2.1 pc = .ok (.if_icmp .ge off, 3)) (ht : (pc : Int) + off = (tgt : Int)) (h1 : -2147483648 ≤ a) (h2 : a < 2147483648) (h3 : -2147483648 ≤ b) (h4 : b < 2147483648) (hc : ¬ b ≤ a) (k : mx_M G Y d bc bs ex N ce (pc + 3) l r Q) : mx_M G Y d bc bs ex N ce pc l (.int (iI b) :: .int (iI a) :: r) Q := mx_icmp_geI tgt hd ht h1 h2 h3 h4 (fun q => absurd q hc) (fun _ => k)
theorem mx_icmp_gtI {a b : Int} {off : Int} (tgt : Nat) (hd : decode Y.2.1 pc = .ok (.if_icmp .gt off, 3)) (ht : (pc : Int) + off = (tgt : Int)) (h1 : -2147483648 ≤ a) (h2 : a < 2147483648) (h3 : -2147483648 ≤ b) (h4 : b < 2147483648) (kt : b < a → mx_M G Y d bc bs ex N ce tgt l r Q) (kf : ¬ b < a → mx_M G Y d bc bs ex N ce (pc + 3) l r Q) : mx_M G Y d bc bs ex N ce pc l (.int (iI b) :: .int (iI a) :: r) Q :=
  mx_icmp_gt tgt hd ht (fun q => kt ((iI_lt h3 h4 h1 h2).mp q)) (fun q => kf (fun z => q ((iI_lt h3 h4 h1 h2).mpr z)))
theorem mx_icmp_gtY {a b : Int} {off : Int} (tgt : Nat) (hd : decode Y.2.1 pc = .ok (.if_icmp .gt off, 3)) (ht : (pc : Int) + off = (tgt : Int)) (h1 : -2147483648 ≤ a) (h2 : a < 2147483648) (h3 : -2147483648 ≤ b) (h4 : b < 2147483648) (hc : b < a) (k : mx_M G Y d bc bs ex N ce tgt l r Q) : mx_M G Y d bc bs ex N ce pc l (.int (iI b) :: .int (iI a) :: r) Q := mx_icmp_gtI tgt hd ht h1 h2 h3 h4 (fun _ => k) (fun q => absurd hc q)
theorem mx_icmp_gtN {a b : Int} {off : Int} (tgt : Nat) (hd : decode Y.2.1 pc = .ok (.if_icmp .gt off, 3)) (ht : (pc : Int) + off = (tgt : Int)) (h1 : -2147483648 ≤ a) (h2 : a < 2147483648) (h3 : -2147483648 ≤ b) (h4 : b < 2147483648) (hc : ¬ b < a) (k : mx_M G Y d bc bs ex N ce (pc + 3) l r Q) : mx_M G Y d bc bs ex N ce pc l (.int (iI b) :: .int (iI a) :: r) Q := mx_icmp_gtI tgt hd ht h1 h2 h3 h4 (fun q => absurd q hc) (fun _ => k)
theorem mx_icmp_leI {a b : Int} {off : Int} (tgt : Nat) (hd : decode Y.2.1 pc = .ok (.if_icmp .le off, 3)) (ht : (pc : Int) + off = (tgt : Int)) (h1 : -2147483648 ≤ a) (h2 : a < 2147483648) (h3 : -2147483648 ≤ b) (h4 : b < 2147483648) (kt : a ≤ b → mx_M G Y d bc bs ex N ce tgt l r Q) (kf : ¬ a ≤ b → mx_M G Y d bc bs ex N ce (pc + 3) l r Q) : mx_M G Y d bc bs ex N ce pc l (.int (iI b) :: .int (iI a) :: r) Q :=
  mx_icmp_le tgt hd ht (fun q => kt ((iI_le h1 h2 h3 h4).mp q)) (fun q => kf (fun z => q ((iI_le h1 h2 h3 h4).mpr z)))
theorem mx_icmp_leY {a b : Int} {off : Int} (tgt : Nat) (hd : decode Y.2.1 pc = .ok (.if_icmp .le off, 3)) (ht : (pc : Int) + off = (tgt : Int)) (h1 : -2147483648 ≤ a) (h2 : a < 2147483648) (h3 : -2147483648 ≤ b) (h4 : b < 2147483648) (hc : a ≤ b) (k : mx_M G Y d bc bs ex N ce tgt l r Q) : mx_M G Y d bc bs ex N ce pc l (.int (iI b) :: .int (iI a) :: r) Q := mx_icmp_leI tgt hd ht h1 h2 h3 h4 (fun _ => k) (fun q => absurd hc q)
theorem mx_icmp_leN {a b : Int} {off : Int} (tgt : Nat) (hd : decode Y.2.1 pc = .ok (.if_icmp .le off, 3)) (ht : (pc : Int) + off = (tgt : Int)) (h1 : -2147483648 ≤ a) (h2 : a < 2147483648) (h3 : -2147483648 ≤ b) (h4 : b < 2147483648) (hc : ¬ a ≤ b) (k : mx_M G Y d bc bs ex N ce (pc + 3) l r Q) : mx_M G Y d bc bs ex N ce pc l (.int (iI b) :: .int (iI a) :: r) Q := mx_icmp_leI tgt hd ht h1 h2 h3 h4 (fun q => absurd q hc) (fun _ => k)
theorem mx_if_eqI {a : Int} {off : Int} (tgt : Nat) (hd : decode Y.2.1 pc = .ok (.ifCond .eq off, 3)) (ht : (pc : Int) + off = (tgt : Int)) (h1 : -2147483648 ≤ a) (h2 : a < 2147483648) (kt : a = 0 → mx_M G Y d bc bs ex N ce tgt l r Q) (kf : ¬ a = 0 → mx_M G Y d bc bs ex N ce (pc + 3) l r Q) : mx_M G Y d bc bs ex N ce pc l (.int (iI a) :: r) Q :=
  mx_if_eq tgt hd ht (fun q => kt ((iI_eq0 h1 h2).mp q)) (fun q => kf (fun z => q ((iI_eq0 h1 h2).mpr z)))
theorem mx_if_eqY {a : Int} {off : Int} (tgt : Nat) (hd : decode Y.2.1 pc = .ok (.ifCond .eq off, 3)) (ht : (pc : Int) + off = (tgt : Int)) (h1 : -2147483648 ≤ a) (h2 : a < 2147483648) (hc : a = 0) (k : mx_M G Y d bc bs ex N ce tgt l r Q) : mx_M G Y d bc bs ex N ce pc l (.int (iI a) :: r) Q := mx_if_eqI tgt hd ht h1 h2 (fun _ => k) (fun q => absurd hc q)
theorem mx_if_eqN {a : Int} {off : Int} (tgt : Nat) (hd : decode Y.2.1 pc = .ok (.ifCond .eq off, 3)) (ht : (pc : Int) + off = (tgt : Int)) (h1 : -2147483648 ≤ a) (h2 : a < 2147483648) (hc : ¬ a = 0) (k : mx_M G Y d bc bs ex N ce (pc + 3) l r Q) : mx_M G Y d bc bs ex N ce pc l (.int (iI a) :: r) Q := mx_if_eqI tgt hd ht h1 h2 (fun q => absurd q hc) (fun _ => k)
theorem mx_if_neI {a : Int} {off : Int} (tgt : Nat) (hd : decode Y.2.1 pc = .ok (.ifCond .ne off, 3)) (ht : (pc : Int) + off = (tgt : Int)) (h1 : -2147483648 ≤ a) (h2 : a < 2147483648) (kt : ¬ a = 0 → mx_M G Y d bc bs ex N ce tgt l r Q) (kf : a = 0 → mx_M G Y d bc bs ex N ce (pc + 3) l r Q) : mx_M G Y d bc bs ex N ce pc l (.int (iI a) :: r) Q :=
  mx_if_ne tgt hd ht (fun q => kt (fun z => q ((iI_eq0 h1 h2).mpr z))) (fun q => kf ((iI_eq0 h1 h2).mp q))
theorem mx_if_neY {a : Int} {off : Int} (tgt : Nat) (hd : decode Y.2.1 pc = .ok (.ifCond .ne off, 3)) (ht : (pc : Int) + off = (tgt : Int)) (h1 : -2147483648 ≤ a) (h2 : a < 2147483648) (hc : ¬ a = 0) (k : mx_M G Y d bc bs ex N ce tgt l r Q) : mx_M G Y d bc bs ex N ce pc l (.int (iI a) :: r) Q := mx_if_neI tgt hd ht h1 h2 (fun _ => k) (fun q => absurd q hc)
theorem mx_if_neN {a : Int} {off : Int} (tgt : Nat) (hd : decode Y.2.1 pc = .ok (.ifCond .ne off, 3)) (ht : (pc : Int) + off = (tgt : Int)) (h1 : -2147483648 ≤ a) (h2 : a < 2147483648) (hc : a = 0) (k : mx_M G Y d bc bs ex N ce (pc + 3) l r Q) : mx_M G Y d bc bs ex N ce pc l (.int (iI a) :: r) Q := mx_if_neI tgt hd ht h1 h2 (fun q => absurd hc q) (fun _ => k)
theorem mx_if_ltI {a : Int} {off : Int} (tgt : Nat) (hd : decode Y.2.1 pc = .ok (.ifCond .lt off, 3)) (ht : (pc : Int) + off = (tgt : Int)) (h1 : -2147483648 ≤ a) (h2 : a < 2147483648) (kt : a < 0 → mx_M G Y d bc bs ex N ce tgt l r Q) (kf : ¬ a < 0 → mx_M G Y d bc bs ex N ce (pc + 3) l r Q) : mx_M G Y d bc bs ex N ce pc l (.int (iI a) :: r) Q :=
  mx_if_lt tgt hd ht (fun q => kt ((iI_lt0 h1 h2).mp q)) (fun q => kf (fun z => q ((iI_lt0 h1 h2).mpr z)))
theorem mx_if_ltY {a : Int} {off : Int} (tgt : Nat) (hd : decode Y.2.1 pc = .ok (.ifCond .lt off, 3)) (ht : (pc : Int) + off = (tgt : Int)) (h1 : -2147483648 ≤ a) (h2 : a < 2147483648) (hc : a < 0) (k : mx_M G Y d bc bs ex N ce tgt l r Q) : mx_M G Y d bc bs ex N ce pc l (.int (iI a) :: r) Q := mx_if_ltI tgt hd ht h1 h2 (fun _ => k) (fun q => absurd hc q)
theorem mx_if_ltN {a : Int} {off : Int} (tgt : Nat) (hd : decode Y.2.1 pc = .ok (.ifCond .lt off, 3)) (ht : (pc : Int) + off = (tgt : Int)) (h1 : -2147483648 ≤ a) (h2 : a < 2147483648) (hc : ¬ a < 0) (k : mx_M G Y d bc bs ex N ce (pc + 3) l r Q) : mx_M G Y d bc bs ex N ce pc l (.int (iI a) :: r) Q := mx_if_ltI tgt hd ht h1 h2 (fun q => absurd q hc) (fun _ => k)
theorem mx_if_geI {a : Int} {off : Int} (tgt : Nat) (hd : decode Y.2.1 pc = .ok (.ifCond .ge off, 3)) (ht : (pc : Int) + off = (tgt : Int)) (h1 : -2147483648 ≤ a) (h2 : a < 2147483648) (kt : 0 ≤ a → mx_M G Y d bc bs ex N ce tgt l r Q) (kf : ¬ 0 ≤ a → mx_M G Y d bc bs ex N ce (pc + 3) l r Q) : mx_M G Y d bc bs ex N ce pc l (.int (iI a) :: r) Q :=
  mx_if_ge tgt hd ht (fun q => kt ((iI_0le h1 h2).mp q)) (fun q => kf (fun z => q ((iI_0le h1 h2).mpr z)))
theorem mx_if_geY {a : Int} {off : Int} (tgt : Nat) (hd : decode Y.2.1 pc = .ok (.ifCond .ge off, 3)) (ht : (pc : Int) + off = (tgt : Int)) (h1 : -2147483648 ≤ a) (h2 : a < 2147483648) (hc : 0 ≤ a) (k : mx_M G Y d bc bs ex N ce tgt l r Q) : mx_M G Y d bc bs ex N ce pc l (.int (iI a) :: r) Q := mx_if_geI tgt hd ht h1 h2 (fun _ => k) (fun q => absurd hc q)
theorem mx_if_geN {a : Int} {off : Int} (tgt : Nat) (hd : decode Y.2.1 pc = .ok (.ifCond .ge off, 3)) (ht : (pc : Int) + off = (tgt : Int)) (h1 : -2147483648 ≤ a) (h2 : a < 2147483648) (hc : ¬ 0 ≤ a) (k : mx_M G Y d bc bs ex N ce (pc + 3) l r Q) : mx_M G Y d bc bs ex N ce pc l (.int (iI a) :: r) Q := mx_if_geI tgt hd ht h1 h2 (fun q => absurd q hc) (fun _ => k)
theorem mx_if_gtI {a : Int} {off : Int} (tgt : Nat) (hd : decode Y.2.1 pc = .ok (.ifCond .gt off, 3)) (ht : (pc : Int) + off = (tgt : Int)) (h1 : -2147483648 ≤ a) (h2 : a < 2147483648) (kt : 0 < a → mx_M G Y d bc bs ex N ce tgt l r Q) (kf : ¬ 0 < a → mx_M G Y d bc bs ex N ce (pc + 3) l r Q) : mx_M G Y d bc bs ex N ce pc l (.int (iI a) :: r) Q :=
  mx_if_gt tgt hd ht (fun q => kt ((iI_0lt h1 h2).mp q)) (fun q => kf (fun z => q ((iI_0lt h1 h2).mpr z)))
theorem mx_if_gtY {a : Int} {off : Int} (tgt : Nat) (hd : decode Y.2.1 pc = .ok (.ifCond .gt off, 3)) (ht : (pc : Int) + off = (tgt : Int)) (h1 : -2147483648 ≤ a) (h2 : a < 2147483648) (hc : 0 < a) (k : mx_M G Y d bc bs ex N ce tgt l r Q) : mx_M G Y d bc bs ex N ce pc l (.int (iI a) :: r) Q := mx_if_gtI tgt hd ht h1 h2 (fun _ => k) (fun q => absurd hc q)
theorem mx_if_gtN {a : Int} {off : Int} (tgt : Nat) (hd : decode Y.2.1 pc = .ok (.ifCond .gt off, 3)) (ht : (pc : Int) + off = (tgt : Int)) (h1 : -2147483648 ≤ a) (h2 : a < 2147483648) (hc : ¬ 0 < a) (k : mx_M G Y d bc bs ex N ce (pc + 3) l r Q) : mx_M G Y d bc bs ex N ce pc l (.int (iI a) :: r) Q := mx_if_gtI tgt hd ht h1 h2 (fun q => absurd q hc) (fun _ => k)
theorem mx_if_leI {a : Int} {off : Int} (tgt : Nat) (hd : decode Y.2.1 pc = .ok (.ifCond .le off, 3)) (ht : (pc : Int) + off = (tgt : Int)) (h1 : -2147483648 ≤ a) (h2 : a < 2147483648) (kt : a ≤ 0 → mx_M G Y d bc bs ex N ce tgt l r Q) (kf : ¬ a ≤ 0 → mx_M G Y d bc bs ex N ce (pc + 3) l r Q) : mx_M G Y d bc bs ex N ce pc l (.int (iI a) :: r) Q :=
  mx_if_le tgt hd ht (fun q => kt ((iI_le0 h1 h2).mp q)) (fun q => kf (fun z => q ((iI_le0 h1 h2).mpr z)))
theorem mx_if_leY {a : Int} {off : Int} (tgt : Nat) (hd : decode Y.2.1 pc = .ok (.ifCond .le off, 3)) (ht : (pc : Int) + off = (tgt : Int)) (h1 : -2147483648 ≤ a) (h2 : a < 2147483648) (hc : a ≤ 0) (k : mx_M G Y d bc bs ex N ce tgt l r Q) : mx_M G Y d bc bs ex N ce pc l (.int (iI a) :: r) Q := mx_if_leI tgt hd ht h1 h2 (fun _ => k) (fun q => absurd hc q)
theorem mx_if_leN {a : Int} {off : Int} (tgt : Nat) (hd : decode Y.2.1 pc = .ok (.ifCond .le off, 3)) (ht : (pc : Int) + off = (tgt : Int)) (h1 : -2147483648 ≤ a) (h2 : a < 2147483648) (hc : ¬ a ≤ 0) (k : mx_M G Y d bc bs ex N ce (pc + 3) l r Q) : mx_M G Y d bc bs ex N ce pc l (.int (iI a) :: r) Q := mx_if_leI tgt hd ht h1 h2 (fun q => absurd q hc) (fun _ => k)
theorem mx_ialdI (hG : mx_ok G) {a n : Nat} {f : Nat → Int} (j : Nat) {i : Int32} (hd : decode Y.2.1 pc = .ok (.iaload, 1)) (ha : a < N) (he : ce a = aI G n f) (hi : i = iI j) (hj : j < n) (hn : n < 2147483648)
    (k : mx_M G Y d bc bs ex N ce (pc + 1) l (.int (iI (f j)) :: r) Q) : mx_M G Y d bc bs ex N ce pc l (.int i :: .ref (mx_B G + a) :: r) Q :=
  mx_iald hG 0 j hd ha he rfl hi hj hn k
theorem mx_iastI (hG : mx_ok G) {a n : Nat} {f : Nat → Int} (j : Nat) (z : Int) {i x : Int32} (hd : decode Y.2.1 pc = .ok (.iastore, 1)) (ha : a < N) (he : ce a = aI G n f) (hi : i = iI j) (hx : x = iI z) (hj : j < n) (hn : n < 2147483648)
    (k : mx_M G Y d bc bs ex N (va_up ce a (aI G n (va_up f j z))) (pc + 1) l r Q) : mx_M G Y d bc bs ex N ce pc l (.int x :: .int i :: .ref (mx_B G + a) :: r) Q := by
  subst hx
  refine mx_iast hG 0 j hd ha he rfl hi hj hn ?_
  have e : va_up (fun j => iI (f j)) j (iI z) = fun q => iI (va_up f j z q) := by
    funext q
    by_cases hq : q = j <;> simp [va_up, hq]
  rw [e]
  exact k
theorem mx_zaldB (hG : mx_ok G) {a n : Nat} {f : Nat → Bool} (j : Nat) {i : Int32} (hd : decode Y.2.1 pc = .ok (.baload, 1)) (ha : a < N) (he : ce a = aB G n f) (hi : i = iI j) (hj : j < n) (hn : n < 2147483648)
    (k : mx_M G Y d bc bs ex N ce (pc + 1) l (.int (iI (bI (f j))) :: r) Q) : mx_M G Y d bc bs ex N ce pc l (.int i :: .ref (mx_B G + a) :: r) Q :=
  mx_zald hG 1 j hd ha he rfl hi hj hn k
theorem mx_zastB (hG : mx_ok G) {a n : Nat} {f : Nat → Bool} (j : Nat) (z : Bool) {i x : Int32} (hd : decode Y.2.1 pc = .ok (.bastore, 1)) (ha : a < N) (he : ce a = aB G n f) (hi : i = iI j) (hx : x = iI (bI z)) (hj : j < n) (hn : n < 2147483648)
    (k : mx_M G Y d bc bs ex N (va_up ce a (aB G n (va_up f j z))) (pc + 1) l r Q) : mx_M G Y d bc bs ex N ce pc l (.int x :: .int i :: .ref (mx_B G + a) :: r) Q := by
  subst hx
  refine mx_zast hG 1 j hd ha he rfl hi hj hn (bI_nar z) ?_
  have e : va_up (fun j => iI (bI (f j))) j (iI (bI z)) = fun q => iI (bI (va_up f j z q)) := by
    funext q
    by_cases hq : q = j <;> simp [va_up, hq]
  rw [e]
  exact k
theorem mx_copyI (hG : mx_ok G) {a b n : Nat} {f g : Nat → Int} {idx : Nat} (hd : decode Y.2.1 pc = .ok (.invokestatic idx, 3)) (hlk : Cond.methodLink Y.1.cls idx arraycopyName ∈ lw_tbl) (hnat : Cond.native arraycopyName ∈ lw_tbl) (hsta : Cond.static arraycopyName ∈ lw_tbl) (hini : Cond.initialized "java/lang/System" ∈ lw_tbl) (ha : a < N) (hb : b < N) (he : ce a = aI G n f) (hf : ce b = aI G n g) (hn : n < 2147483648) (hst : (r.map fun v => v.category).sum ≤ 21)
    (k : mx_M G Y (d + 1) bc bs false N (va_up ce b (aI G n (fun j => if j < n then f j else g j))) (pc + 3) l r Q) : mx_M G Y (d + 1) bc bs false N ce pc l (.int (iI n) :: .int (iI 0) :: .ref (mx_B G + b) :: .int (iI 0) :: .ref (mx_B G + a) :: r) Q := by
  intro p e R s m args below meth c H locs cells slots ls h
  have g3 := h.2.2.2.2.2.1
  have g4 := h.2.2.2.2.2.2.1
  have hc := iI_clamp (n := n) hn
  have h0 : (iI 0).toNatClampNeg = 0 := rfl
  have hz : ¬ iI 0 < 0 := by decide
  refine va_copyi h.1.1 h.1.2.1 (by rw [h.1.2.2.1]; exact h.2.2.2.2.2.2.2.1.symm) h.1.2.2.2.2.2.1 (mx_wd h.1 hlk rfl) (mx_wd h.1 hnat rfl) (mx_wd h.1 hsta rfl) (mx_wd h.1 hini rfl) (mx_Kn hG h.1) h.2.1.1 mx_w_D h.2.1.2 a b 0 0 (ty := .int) (by rw [mx_w_at ha, he]) (by rw [mx_w_at hb, hf]) rfl rfl rfl hz hz (iI_nneg hn) (by rw [h0, hc]; omega) (by rw [h0, hc]; omega) (fun _ _ => rfl) (by omega) (by show _ + (5 + _ + 11) ≤ _; omega) hd fun H1 locs1 hP _ hS => ?_
  rw [h0, hc, mx_w_set] at hP
  have e : va_cpy (fun j => iI (f j)) (fun j => iI (g j)) 0 0 n = fun j => iI (if j < n then f j else g j) := by
    funext q
    by_cases hq : q < n <;> simp [va_cpy, hq]
  rw [e] at hP
  exact k p _ R s m args below meth c H1 locs1 cells slots ls ⟨h.1, ⟨hP, hS⟩, (fun z => by cases z), h.2.2.2⟩
end MXN
end
section
/-! sums and greatest; some rows more -/
def sumTo (f : Nat → Int) : Nat → Int
  | 0 => 0
  | n + 1 => sumTo f n + f n
def mxTo (f : Nat → Int) : Nat → Int
  | 0 => 0
  | n + 1 => if mxTo f n < f n then f n else mxTo f n
theorem sumTo_bd {f : Nat → Int} {n : Nat} {M : Int} (h : ∀ j, j < n → 0 ≤ f j ∧ f j ≤ M) : 0 ≤ sumTo f n ∧ sumTo f n ≤ n * M := by
  induction n with
  | zero => simp [sumTo]
  | succ n ih =>
    have h1 := ih (fun j hj => h j (by omega))
    have h2 := h n (by omega)
    have e : ((n + 1 : Nat) : Int) * M = n * M + M := by rw [Int.natCast_add, Int.add_mul]; simp
    rw [e]
    simp only [sumTo]
    omega
theorem sumTo_congr {f g : Nat → Int} {n : Nat} (h : ∀ j, j < n → f j = g j) : sumTo f n = sumTo g n := by
  induction n with
  | zero => rfl
  | succ n ih => simp only [sumTo]; rw [ih (fun j hj => h j (by omega)), h n (by omega)]
theorem mxTo_bd {f : Nat → Int} {n : Nat} {M : Int} (hM : 0 ≤ M) (h : ∀ j, j < n → 0 ≤ f j ∧ f j ≤ M) : 0 ≤ mxTo f n ∧ mxTo f n ≤ M := by
  induction n with
  | zero => simp [mxTo]; exact hM
  | succ n ih =>
    have h1 := ih (fun j hj => h j (by omega))
    have h2 := h n (by omega)
    simp only [mxTo]
    split <;> omega
theorem mxTo_le {f : Nat → Int} {n : Nat} {M : Int} (hM : 0 ≤ M) : mxTo f n ≤ M ↔ ∀ j, j < n → f j ≤ M := by
  induction n with
  | zero => simp [mxTo, hM]
  | succ n ih =>
    simp only [mxTo]
    constructor
    · intro h j hj
      by_cases hjn : j = n
      · subst hjn; split at h <;> omega
      · exact ih.mp (by split at h <;> omega) j (by omega)
    · intro h
      have h1 := ih.mpr (fun j hj => h j (by omega))
      have h2 := h n (by omega)
      split <;> omega
theorem va_up_id (ce : Nat → va_E) (k : Nat) {e : va_E} (h : ce k = e) : va_up ce k e = ce := by
  funext j
  by_cases hj : j = k
  · subst hj; rw [va_up_self, h]
  · rw [va_up_ne _ _ hj]
section MXM
variable {G : mx_G} {Y : mx_Y} {d bc bs : Nat} {ex : Bool} {N : Nat} {ce : Nat → va_E} {pc : Nat} {l : List (Nat × Value)} {r : List Value} {Q : mx_P}
theorem mx_mmaxI {idx : Nat} {a b : Int} (hd : decode Y.2.1 pc = .ok (.invokestatic idx, 3)) (hlk : Cond.methodLink Y.1.cls idx Lib.Math.max.name ∈ lw_tbl) (hsta : Cond.static Lib.Math.max.name ∈ lw_tbl) (hini : Cond.initialized "java/lang/Math" ∈ lw_tbl) (hcode : Cond.code Lib.Math.max.name Lib.Math.max.code 2 (some .int) ∈ lw_tbl) (hst : (r.map fun v => v.category).sum ≤ 29) (h1 : -2147483648 ≤ a) (h2 : a < 2147483648) (h3 : -2147483648 ≤ b) (h4 : b < 2147483648)
    (k : mx_M G Y d bc bs ex N ce (pc + 3) l (.int (iI (if a < b then b else a)) :: r) Q) : mx_M G Y d bc bs ex N ce pc l (.int (iI b) :: .int (iI a) :: r) Q := by
  refine mx_mmax hd hlk hsta hini hcode hst ?_
  by_cases hc : a < b
  · rw [if_pos ((iI_lt h1 h2 h3 h4).mpr hc)]; rw [if_pos hc] at k; exact k
  · rw [if_neg (fun q => hc ((iI_lt h1 h2 h3 h4).mp q))]; rw [if_neg hc] at k; exact k
theorem mx_mminI {idx : Nat} {a b : Int} (hd : decode Y.2.1 pc = .ok (.invokestatic idx, 3)) (hlk : Cond.methodLink Y.1.cls idx Lib.Math.min.name ∈ lw_tbl) (hsta : Cond.static Lib.Math.min.name ∈ lw_tbl) (hini : Cond.initialized "java/lang/Math" ∈ lw_tbl) (hcode : Cond.code Lib.Math.min.name Lib.Math.min.code 2 (some .int) ∈ lw_tbl) (hst : (r.map fun v => v.category).sum ≤ 29) (h1 : -2147483648 ≤ a) (h2 : a < 2147483648) (h3 : -2147483648 ≤ b) (h4 : b < 2147483648)
    (k : mx_M G Y d bc bs ex N ce (pc + 3) l (.int (iI (if b < a then b else a)) :: r) Q) : mx_M G Y d bc bs ex N ce pc l (.int (iI b) :: .int (iI a) :: r) Q := by
  refine mx_mmin hd hlk hsta hini hcode hst ?_
  by_cases hc : b < a
  · rw [if_pos ((iI_lt h3 h4 h1 h2).mpr hc)]; rw [if_pos hc] at k; exact k
  · rw [if_neg (fun q => hc ((iI_lt h3 h4 h1 h2).mp q))]; rw [if_neg hc] at k; exact k
theorem mx_divI {a b : Int} (hd : decode Y.2.1 pc = .ok (.idiv, 1)) (h1 : 0 ≤ a) (h2 : a < 2147483648) (h3 : 0 < b) (h4 : b < 2147483648) (k : mx_M G Y d bc bs ex N ce (pc + 1) l (.int (iI (a / b)) :: r) Q) : mx_M G Y d bc bs ex N ce pc l (.int (iI b) :: .int (iI a) :: r) Q := by
  refine mx_idiv hd (fun q => ?_) ?_
  · rw [iI_eq0 (by omega) h4] at q; omega
  · rw [iI_div h1 h2 h3 h4]; exact k
theorem mx_remI {a b : Int} (hd : decode Y.2.1 pc = .ok (.irem, 1)) (h1 : 0 ≤ a) (h2 : a < 2147483648) (h3 : 0 < b) (h4 : b < 2147483648) (k : mx_M G Y d bc bs ex N ce (pc + 1) l (.int (iI (a % b)) :: r) Q) : mx_M G Y d bc bs ex N ce pc l (.int (iI b) :: .int (iI a) :: r) Q := by
  refine mx_irem hd (fun q => ?_) ?_
  · rw [iI_eq0 (by omega) h4] at q; omega
  · rw [iI_rem h1 h2 h3 h4]; exact k
theorem mx_ldivI {a b : Int} (hd : decode Y.2.1 pc = .ok (.ldiv, 1)) (h1 : 0 ≤ a) (h2 : a < 9223372036854775808) (h3 : 0 < b) (h4 : b < 9223372036854775808) (k : mx_M G Y d bc bs ex N ce (pc + 1) l (.long (lI (a / b)) :: r) Q) : mx_M G Y d bc bs ex N ce pc l (.long (lI b) :: .long (lI a) :: r) Q := by
  refine mx_ldiv hd (fun q => ?_) ?_
  · rw [lI_eq0 (by omega) h4] at q; omega
  · rw [lI_div h1 h2 h3 h4]; exact k
theorem mx_i2lI {a : Int} (hd : decode Y.2.1 pc = .ok (.i2l, 1)) (h1 : -2147483648 ≤ a) (h2 : a < 2147483648) (k : mx_M G Y d bc bs ex N ce (pc + 1) l (.long (lI a) :: r) Q) : mx_M G Y d bc bs ex N ce pc l (.int (iI a) :: r) Q := by
  refine mx_i2l hd ?_
  rw [iI_l h1 h2]; exact k
theorem mx_l2iI {a : Int} (hd : decode Y.2.1 pc = .ok (.l2i, 1)) (k : mx_M G Y d bc bs ex N ce (pc + 1) l (.int (iI a) :: r) Q) : mx_M G Y d bc bs ex N ce pc l (.long (lI a) :: r) Q := by
  refine mx_l2i hd ?_
  rw [lI_i]; exact k
theorem mx_lcmpI {a b : Int} (hd : decode Y.2.1 pc = .ok (.lcmp, 1)) (h1 : -9223372036854775808 ≤ a) (h2 : a < 9223372036854775808) (h3 : -9223372036854775808 ≤ b) (h4 : b < 9223372036854775808) (k : mx_M G Y d bc bs ex N ce (pc + 1) l (.int (iI (if b < a then 1 else if a = b then 0 else -1)) :: r) Q) : mx_M G Y d bc bs ex N ce pc l (.long (lI b) :: .long (lI a) :: r) Q := by
  refine mx_lcmp hd ?_
  rw [lI_cmp h1 h2 h3 h4]; exact k
theorem mx_iaddI {a b : Int} (hd : decode Y.2.1 pc = .ok (.iadd, 1)) (k : mx_M G Y d bc bs ex N ce (pc + 1) l (.int (iI (a + b)) :: r) Q) : mx_M G Y d bc bs ex N ce pc l (.int (iI b) :: .int (iI a) :: r) Q := mx_iadd hd (by rw [iI_add]; exact k)
theorem mx_isubI {a b : Int} (hd : decode Y.2.1 pc = .ok (.isub, 1)) (k : mx_M G Y d bc bs ex N ce (pc + 1) l (.int (iI (a - b)) :: r) Q) : mx_M G Y d bc bs ex N ce pc l (.int (iI b) :: .int (iI a) :: r) Q := mx_isub hd (by rw [iI_sub]; exact k)
theorem mx_imulI {a b : Int} (hd : decode Y.2.1 pc = .ok (.imul, 1)) (k : mx_M G Y d bc bs ex N ce (pc + 1) l (.int (iI (a * b)) :: r) Q) : mx_M G Y d bc bs ex N ce pc l (.int (iI b) :: .int (iI a) :: r) Q := mx_imul hd (by rw [iI_mul]; exact k)
theorem mx_laddI {a b : Int} (hd : decode Y.2.1 pc = .ok (.ladd, 1)) (k : mx_M G Y d bc bs ex N ce (pc + 1) l (.long (lI (a + b)) :: r) Q) : mx_M G Y d bc bs ex N ce pc l (.long (lI b) :: .long (lI a) :: r) Q := mx_ladd hd (by rw [lI_add]; exact k)
theorem mx_lmulI {a b : Int} (hd : decode Y.2.1 pc = .ok (.lmul, 1)) (k : mx_M G Y d bc bs ex N ce (pc + 1) l (.long (lI (a * b)) :: r) Q) : mx_M G Y d bc bs ex N ce pc l (.long (lI b) :: .long (lI a) :: r) Q := mx_lmul hd (by rw [lI_mul]; exact k)
theorem mx_iincI {i : Nat} {n a : Int} (hd : decode Y.2.1 pc = .ok (.iinc i n, 3)) (hg : mx_get l i = some (.int (iI a))) (hn : i < Y.2.2.1) (k : mx_M G Y d bc bs ex N ce (pc + 3) (mx_set1 l i (.int (iI (a + n)))) r Q) : mx_M G Y d bc bs ex N ce pc l r Q := mx_iinc hd hg hn (by rw [iI_add]; exact k)
theorem mx_newaI (hG : mx_ok G) {n : Nat} {x : Int32} (hd : decode Y.2.1 pc = .ok (.newarray .int, 2)) (hx : x = iI n) (hn : n ≤ 1000) (k : mx_M G Y d bc bs true (N + 1) (va_up ce N (aI G n (fun _ => 0))) (pc + 2) l (.ref (mx_B G + N) :: r) Q) : mx_M G Y d (bc + 1) (bs + n) true N ce pc l (.int x :: r) Q :=
  mx_newa hG 0 (a0 := (n, .inl (fun _ => iI 0))) hd rfl rfl (fun _ _ h => h) w_52 hx (by show n * 4 ≤ _; omega) (by omega) (fun _ => rfl) k
theorem mx_newaB (hG : mx_ok G) {n : Nat} {x : Int32} (hd : decode Y.2.1 pc = .ok (.newarray .boolean, 2)) (hx : x = iI n) (hn : n ≤ 1000) (k : mx_M G Y d bc bs true (N + 1) (va_up ce N (aB G n (fun _ => false))) (pc + 2) l (.ref (mx_B G + N) :: r) Q) : mx_M G Y d (bc + 1) (bs + n) true N ce pc l (.int x :: r) Q :=
  mx_newa hG 1 (a0 := (n, .inl (fun _ => iI 0))) hd rfl rfl (fun _ _ h => h) w_96 hx (by show n * 1 ≤ _; omega) (by omega) (fun _ => rfl) k
end MXM
end
section
/-! Edition: rows of a curve -/
section ED
variable {G : mx_G} {d bc bs : Nat} {ex : Bool} {N : Nat} {ce : Nat → va_E} {Q : mx_P} {o a s n : Nat} {fa fs : Nat → Int} {rc : Int}
theorem c_E_hasRow (hG : mx_ok G) (ho : o < N) (hs : s < N) (h1 : ce o = .inr (1, [.ref (mx_B G + a), .ref (mx_B G + s), .int (iI rc)])) (h2 : ce s = aI G n fs) (hn : n < 2147483648) {y : Nat} (hy : y < n) (hr : 0 ≤ fs y ∧ fs y ≤ 100)
    (q : Q (.inl (some (.int (iI (bI (decide (0 < fs y))))))) N ce bc bs) : mx_M G Y_E_hasRow d bc bs ex N ce 0 [(0, .ref (mx_B G + o)), (1, .int (iI y))] [] Q := by
  refine mx_aload_n (k4 := 0) (mx_d D_E_hasRow 0 rfl) (by rfl) ?_
  refine mx_getf hG (idx := 13) (ci := 1) (kf := 1) (mx_d D_E_hasRow 1 rfl) (by rfl) cls_E (by decide) w_41 (by first | assumption | omega) (by first | assumption | exact va_up_self _ _ _ | (rw [va_up_ne _ _ (by omega)]; assumption) | (rw [va_up_ne _ _ (by omega), va_up_ne _ _ (by omega)]; assumption)) (by rfl) ?_
  refine mx_iload_n (k4 := 1) (mx_d D_E_hasRow 2 rfl) (by rfl) ?_
  refine mx_ialdI hG _ (mx_d D_E_hasRow 3 rfl) (by first | assumption | omega) (by first | assumption | exact va_up_self _ _ _ | (rw [va_up_ne _ _ (by omega)]; assumption) | (rw [va_up_ne _ _ (by omega), va_up_ne _ _ (by omega)]; assumption)) (by rfl) (by omega) (by omega) ?_
  refine mx_if_leI 13 (mx_d D_E_hasRow 4 rfl) (by decide) (by omega) (by omega) (fun hb => ?_) (fun hb => ?_)
  · refine mx_iconst (n := 0) (mx_d D_E_hasRow 7 rfl) ?_
    refine mx_zret (by rfl) (mx_d D_E_hasRow 8 rfl) (by first | rfl | assumption) ?_
    rw [show bI (decide (0 < fs y)) = 0 from by simp [bI]; omega] at q
    exact q
  · refine mx_iconst (n := 1) (mx_d D_E_hasRow 5 rfl) ?_
    refine mx_goto 14 (mx_d D_E_hasRow 6 rfl) (by decide) ?_
    refine mx_zret (by rfl) (mx_d D_E_hasRow 8 rfl) (by first | rfl | assumption) ?_
    rw [show bI (decide (0 < fs y)) = 1 from by simp [bI]; omega] at q
    exact q
theorem c_E_tellRow (hG : mx_ok G) (ho : o < N) (ha : a < N) (hs : s < N) (hoa : o ≠ a) (hos : o ≠ s) (has : a ≠ s) (h1 : ce o = .inr (1, [.ref (mx_B G + a), .ref (mx_B G + s), .int (iI rc)])) (h2 : ce a = aI G n fa) (h3 : ce s = aI G n fs) (hn : n < 2147483648) {y : Nat} (hy : y < n) (hr : 0 ≤ fs y ∧ fs y ≤ 100) {x z : Int}
    (q : Q (.inl (some (.int (iI (bI (decide (0 < fs y))))))) N (va_up (va_up (va_up ce a (aI G n (va_up fa y x))) s (aI G n (va_up fs y z))) o (.inr (1, [.ref (mx_B G + a), .ref (mx_B G + s), .int (iI (rc + if 0 < fs y then 0 else 1))]))) bc bs) : mx_M G Y_E_tellRow (d + 1) bc bs ex N ce 0 [(0, .ref (mx_B G + o)), (1, .int (iI y)), (2, .int (iI x)), (3, .int (iI z))] [] Q := by
  refine mx_aload_n (k4 := 0) (mx_d D_E_tellRow 0 rfl) (by rfl) ?_
  refine mx_iload_n (k4 := 1) (mx_d D_E_tellRow 1 rfl) (by rfl) ?_
  refine mx_callV hG (Y' := Y_E_hasRow) (ci := 1) [_] (mx_d D_E_tellRow 2 rfl) in_E_hasRow w_240 w_241 s_E_hasRow (by rfl) np_E_hasRow (by exact Nat.le_of_ble_eq_true rfl) (by rfl) (by first | assumption | omega) (by first | assumption | exact va_up_self _ _ _ | (rw [va_up_ne _ _ (by omega)]; assumption) | (rw [va_up_ne _ _ (by omega), va_up_ne _ _ (by omega)]; assumption)) (by rfl) (by exact Nat.le_of_ble_eq_true rfl) (c_E_hasRow hG ho hs h1 h3 hn hy hr ?_)
  refine mx_istore (i := 4) (mx_d D_E_tellRow 3 rfl) (by decide) ?_
  refine mx_aload_n (k4 := 0) (mx_d D_E_tellRow 4 rfl) (by rfl) ?_
  refine mx_getf hG (idx := 7) (ci := 1) (kf := 0) (mx_d D_E_tellRow 5 rfl) (by rfl) cls_E (by decide) w_39 (by first | assumption | omega) (by first | assumption | exact va_up_self _ _ _ | (rw [va_up_ne _ _ (by omega)]; assumption) | (rw [va_up_ne _ _ (by omega), va_up_ne _ _ (by omega)]; assumption)) (by rfl) ?_
  refine mx_iload_n (k4 := 1) (mx_d D_E_tellRow 6 rfl) (by rfl) ?_
  refine mx_iload_n (k4 := 2) (mx_d D_E_tellRow 7 rfl) (by rfl) ?_
  refine mx_iastI hG _ _ (mx_d D_E_tellRow 8 rfl) (by first | assumption | omega) (by first | assumption | exact va_up_self _ _ _ | (rw [va_up_ne _ _ (by omega)]; assumption) | (rw [va_up_ne _ _ (by omega), va_up_ne _ _ (by omega)]; assumption)) (by rfl) (by rfl) (by omega) (by omega) ?_
  refine mx_aload_n (k4 := 0) (mx_d D_E_tellRow 9 rfl) (by rfl) ?_
  refine mx_getf hG (idx := 13) (ci := 1) (kf := 1) (mx_d D_E_tellRow 10 rfl) (by rfl) cls_E (by decide) w_41 (by first | assumption | omega) (by first | assumption | exact va_up_self _ _ _ | (rw [va_up_ne _ _ (by omega)]; assumption) | (rw [va_up_ne _ _ (by omega), va_up_ne _ _ (by omega)]; assumption)) (by rfl) ?_
  refine mx_iload_n (k4 := 1) (mx_d D_E_tellRow 11 rfl) (by rfl) ?_
  refine mx_iload_n (k4 := 3) (mx_d D_E_tellRow 12 rfl) (by rfl) ?_
  refine mx_iastI hG _ _ (mx_d D_E_tellRow 13 rfl) (by first | assumption | omega) (by first | assumption | exact va_up_self _ _ _ | (rw [va_up_ne _ _ (by omega)]; assumption) | (rw [va_up_ne _ _ (by omega), va_up_ne _ _ (by omega)]; assumption)) (by rfl) (by rfl) (by omega) (by omega) ?_
  refine mx_iload (i := 4) (mx_d D_E_tellRow 14 rfl) (by rfl) ?_
  by_cases hc : 0 < fs y
  · rw [show bI (decide (0 < fs y)) = 1 from by simp [bI, hc]] at q ⊢
    rw [if_pos hc, Int.add_zero] at q
    refine mx_if_neY 36 (mx_d D_E_tellRow 15 rfl) (by decide) (by omega) (by omega) (by omega) ?_
    refine mx_iload (i := 4) (mx_d D_E_tellRow 22 rfl) (by rfl) ?_
    refine mx_zret (by rfl) (mx_d D_E_tellRow 23 rfl) (by first | rfl | assumption) ?_
    have e : va_up (va_up (va_up ce a (aI G n (va_up fa y x))) s (aI G n (va_up fs y z))) o (.inr (1, [.ref (mx_B G + a), .ref (mx_B G + s), .int (iI rc)])) = va_up (va_up ce a (aI G n (va_up fa y x))) s (aI G n (va_up fs y z)) := by
      funext k
      by_cases hk : k = o
      · subst hk; rw [va_up_self, va_up_ne _ _ hos, va_up_ne _ _ hoa, h1]
      · rw [va_up_ne _ _ hk]
    rw [e] at q
    exact q
  · rw [show bI (decide (0 < fs y)) = 0 from by simp [bI, hc]] at q ⊢
    rw [if_neg hc] at q
    refine mx_if_neN 36 (mx_d D_E_tellRow 15 rfl) (by decide) (by omega) (by omega) (by omega) ?_
    refine mx_aload_n (k4 := 0) (mx_d D_E_tellRow 16 rfl) (by rfl) ?_
    refine mx_dup (mx_d D_E_tellRow 17 rfl) (by rfl) ?_
    refine mx_getf hG (idx := 20) (ci := 1) (kf := 2) (mx_d D_E_tellRow 18 rfl) (by rfl) cls_E (by decide) w_43 (by first | assumption | omega) (by first | assumption | exact va_up_self _ _ _ | (rw [va_up_ne _ _ (by omega)]; assumption) | (rw [va_up_ne _ _ (by omega), va_up_ne _ _ (by omega)]; assumption)) (by rfl) ?_
    refine mx_iconst (n := 1) (mx_d D_E_tellRow 19 rfl) ?_
    refine mx_iadd (mx_d D_E_tellRow 20 rfl) ?_
    simp only [iI_add, iI_sub, iI_mul, iI_neg, lI_add, lI_sub, lI_mul]
    refine mx_putf hG (idx := 20) (ci := 1) (kf := 2) (t := (.int)) (mx_d D_E_tellRow 21 rfl) (by rfl) cls_E (by decide) (Or.inl rfl) w_43 (by first | assumption | omega) (by first | assumption | exact va_up_self _ _ _ | (rw [va_up_ne _ _ (by omega)]; assumption) | (rw [va_up_ne _ _ (by omega), va_up_ne _ _ (by omega)]; assumption)) (by exact Nat.le_of_ble_eq_true rfl) (by decide +kernel) (by rfl) (by rfl) ?_
    refine mx_iload (i := 4) (mx_d D_E_tellRow 22 rfl) (by rfl) ?_
    refine mx_zret (by rfl) (mx_d D_E_tellRow 23 rfl) (by first | rfl | assumption) ?_
    exact q
end ED
end
section
/-! Edition: copyRowsOf, <init>; Dating -/
section EE
variable {G : mx_G} {d bc bs : Nat} {N : Nat} {ce : Nat → va_E} {Q : mx_P} {o a s o' a' s' n : Nat} {fa fs fa' fs' : Nat → Int} {rc rc' : Int}
theorem c_E_copy (hG : mx_ok G) (ho : o < N) (ha : a < N) (hs : s < N) (ho' : o' < N) (ha' : a' < N) (hs' : s' < N) (e1 : o ≠ a) (e2 : o ≠ s) (e3 : a ≠ s) (e4 : a ≠ o') (e5 : a ≠ s') (e6 : s ≠ o') (h1 : ce o = .inr (1, [.ref (mx_B G + a), .ref (mx_B G + s), .int (iI rc)])) (h2 : ce a = aI G n fa) (h3 : ce s = aI G n fs) (h4 : ce o' = .inr (1, [.ref (mx_B G + a'), .ref (mx_B G + s'), .int (iI rc')])) (h5 : ce a' = aI G n fa') (h6 : ce s' = aI G n fs') (hn : n < 2147483648)
    (q : Q (.inl none) N (va_up (va_up (va_up ce a (aI G n (fun j => if j < n then fa' j else fa j))) s (aI G n (fun j => if j < n then fs' j else fs j))) o (.inr (1, [.ref (mx_B G + a), .ref (mx_B G + s), .int (iI rc')]))) bc bs) : mx_M G Y_E_copyRowsOf (d + 1) bc bs false N ce 0 [(0, .ref (mx_B G + o)), (1, .ref (mx_B G + o'))] [] Q := by
  refine mx_aload_n (k4 := 1) (mx_d D_E_copyRowsOf 0 rfl) (by rfl) ?_
  refine mx_getf hG (idx := 7) (ci := 1) (kf := 0) (mx_d D_E_copyRowsOf 1 rfl) (by rfl) cls_E (by decide) w_39 (by first | assumption | omega) (by first | assumption | exact va_up_self _ _ _ | (rw [va_up_ne _ _ (by omega)]; first | assumption | exact va_up_self _ _ _ | (rw [va_up_ne _ _ (by omega)]; first | assumption | exact va_up_self _ _ _ | (rw [va_up_ne _ _ (by omega)]; first | assumption | exact va_up_self _ _ _ | (rw [va_up_ne _ _ (by omega)]; first | assumption | exact va_up_self _ _ _ | (rw [va_up_ne _ _ (by omega)]; first | assumption | exact va_up_self _ _ _)))))) (by rfl) ?_
  refine mx_iconst (n := 0) (mx_d D_E_copyRowsOf 2 rfl) ?_
  refine mx_aload_n (k4 := 0) (mx_d D_E_copyRowsOf 3 rfl) (by rfl) ?_
  refine mx_getf hG (idx := 7) (ci := 1) (kf := 0) (mx_d D_E_copyRowsOf 4 rfl) (by rfl) cls_E (by decide) w_39 (by first | assumption | omega) (by first | assumption | exact va_up_self _ _ _ | (rw [va_up_ne _ _ (by omega)]; first | assumption | exact va_up_self _ _ _ | (rw [va_up_ne _ _ (by omega)]; first | assumption | exact va_up_self _ _ _ | (rw [va_up_ne _ _ (by omega)]; first | assumption | exact va_up_self _ _ _ | (rw [va_up_ne _ _ (by omega)]; first | assumption | exact va_up_self _ _ _ | (rw [va_up_ne _ _ (by omega)]; first | assumption | exact va_up_self _ _ _)))))) (by rfl) ?_
  refine mx_iconst (n := 0) (mx_d D_E_copyRowsOf 5 rfl) ?_
  refine mx_aload_n (k4 := 0) (mx_d D_E_copyRowsOf 6 rfl) (by rfl) ?_
  refine mx_getf hG (idx := 7) (ci := 1) (kf := 0) (mx_d D_E_copyRowsOf 7 rfl) (by rfl) cls_E (by decide) w_39 (by first | assumption | omega) (by first | assumption | exact va_up_self _ _ _ | (rw [va_up_ne _ _ (by omega)]; first | assumption | exact va_up_self _ _ _ | (rw [va_up_ne _ _ (by omega)]; first | assumption | exact va_up_self _ _ _ | (rw [va_up_ne _ _ (by omega)]; first | assumption | exact va_up_self _ _ _ | (rw [va_up_ne _ _ (by omega)]; first | assumption | exact va_up_self _ _ _ | (rw [va_up_ne _ _ (by omega)]; first | assumption | exact va_up_self _ _ _)))))) (by rfl) ?_
  refine mx_alen hG 0 (mx_d D_E_copyRowsOf 8 rfl) (by first | assumption | omega) (by first | assumption | exact va_up_self _ _ _ | (rw [va_up_ne _ _ (by omega)]; first | assumption | exact va_up_self _ _ _ | (rw [va_up_ne _ _ (by omega)]; first | assumption | exact va_up_self _ _ _ | (rw [va_up_ne _ _ (by omega)]; first | assumption | exact va_up_self _ _ _ | (rw [va_up_ne _ _ (by omega)]; first | assumption | exact va_up_self _ _ _ | (rw [va_up_ne _ _ (by omega)]; first | assumption | exact va_up_self _ _ _)))))) (by rfl) ?_
  refine mx_copyI hG (mx_d D_E_copyRowsOf 9 rfl) w_376 w_378 w_377 w_16 (by first | assumption | omega) (by first | assumption | omega) (by first | assumption | exact va_up_self _ _ _ | (rw [va_up_ne _ _ (by omega)]; first | assumption | exact va_up_self _ _ _ | (rw [va_up_ne _ _ (by omega)]; first | assumption | exact va_up_self _ _ _ | (rw [va_up_ne _ _ (by omega)]; first | assumption | exact va_up_self _ _ _ | (rw [va_up_ne _ _ (by omega)]; first | assumption | exact va_up_self _ _ _ | (rw [va_up_ne _ _ (by omega)]; first | assumption | exact va_up_self _ _ _)))))) (by first | assumption | exact va_up_self _ _ _ | (rw [va_up_ne _ _ (by omega)]; first | assumption | exact va_up_self _ _ _ | (rw [va_up_ne _ _ (by omega)]; first | assumption | exact va_up_self _ _ _ | (rw [va_up_ne _ _ (by omega)]; first | assumption | exact va_up_self _ _ _ | (rw [va_up_ne _ _ (by omega)]; first | assumption | exact va_up_self _ _ _ | (rw [va_up_ne _ _ (by omega)]; first | assumption | exact va_up_self _ _ _)))))) (by omega) (by exact Nat.le_of_ble_eq_true rfl) ?_
  refine mx_aload_n (k4 := 1) (mx_d D_E_copyRowsOf 10 rfl) (by rfl) ?_
  refine mx_getf hG (idx := 13) (ci := 1) (kf := 1) (mx_d D_E_copyRowsOf 11 rfl) (by rfl) cls_E (by decide) w_41 (by first | assumption | omega) (by first | assumption | exact va_up_self _ _ _ | (rw [va_up_ne _ _ (by omega)]; first | assumption | exact va_up_self _ _ _ | (rw [va_up_ne _ _ (by omega)]; first | assumption | exact va_up_self _ _ _ | (rw [va_up_ne _ _ (by omega)]; first | assumption | exact va_up_self _ _ _ | (rw [va_up_ne _ _ (by omega)]; first | assumption | exact va_up_self _ _ _ | (rw [va_up_ne _ _ (by omega)]; first | assumption | exact va_up_self _ _ _)))))) (by rfl) ?_
  refine mx_iconst (n := 0) (mx_d D_E_copyRowsOf 12 rfl) ?_
  refine mx_aload_n (k4 := 0) (mx_d D_E_copyRowsOf 13 rfl) (by rfl) ?_
  refine mx_getf hG (idx := 13) (ci := 1) (kf := 1) (mx_d D_E_copyRowsOf 14 rfl) (by rfl) cls_E (by decide) w_41 (by first | assumption | omega) (by first | assumption | exact va_up_self _ _ _ | (rw [va_up_ne _ _ (by omega)]; first | assumption | exact va_up_self _ _ _ | (rw [va_up_ne _ _ (by omega)]; first | assumption | exact va_up_self _ _ _ | (rw [va_up_ne _ _ (by omega)]; first | assumption | exact va_up_self _ _ _ | (rw [va_up_ne _ _ (by omega)]; first | assumption | exact va_up_self _ _ _ | (rw [va_up_ne _ _ (by omega)]; first | assumption | exact va_up_self _ _ _)))))) (by rfl) ?_
  refine mx_iconst (n := 0) (mx_d D_E_copyRowsOf 15 rfl) ?_
  refine mx_aload_n (k4 := 0) (mx_d D_E_copyRowsOf 16 rfl) (by rfl) ?_
  refine mx_getf hG (idx := 13) (ci := 1) (kf := 1) (mx_d D_E_copyRowsOf 17 rfl) (by rfl) cls_E (by decide) w_41 (by first | assumption | omega) (by first | assumption | exact va_up_self _ _ _ | (rw [va_up_ne _ _ (by omega)]; first | assumption | exact va_up_self _ _ _ | (rw [va_up_ne _ _ (by omega)]; first | assumption | exact va_up_self _ _ _ | (rw [va_up_ne _ _ (by omega)]; first | assumption | exact va_up_self _ _ _ | (rw [va_up_ne _ _ (by omega)]; first | assumption | exact va_up_self _ _ _ | (rw [va_up_ne _ _ (by omega)]; first | assumption | exact va_up_self _ _ _)))))) (by rfl) ?_
  refine mx_alen hG 0 (mx_d D_E_copyRowsOf 18 rfl) (by first | assumption | omega) (by first | assumption | exact va_up_self _ _ _ | (rw [va_up_ne _ _ (by omega)]; first | assumption | exact va_up_self _ _ _ | (rw [va_up_ne _ _ (by omega)]; first | assumption | exact va_up_self _ _ _ | (rw [va_up_ne _ _ (by omega)]; first | assumption | exact va_up_self _ _ _ | (rw [va_up_ne _ _ (by omega)]; first | assumption | exact va_up_self _ _ _ | (rw [va_up_ne _ _ (by omega)]; first | assumption | exact va_up_self _ _ _)))))) (by rfl) ?_
  refine mx_copyI hG (mx_d D_E_copyRowsOf 19 rfl) w_376 w_378 w_377 w_16 (by first | assumption | omega) (by first | assumption | omega) (by first | assumption | exact va_up_self _ _ _ | (rw [va_up_ne _ _ (by omega)]; first | assumption | exact va_up_self _ _ _ | (rw [va_up_ne _ _ (by omega)]; first | assumption | exact va_up_self _ _ _ | (rw [va_up_ne _ _ (by omega)]; first | assumption | exact va_up_self _ _ _ | (rw [va_up_ne _ _ (by omega)]; first | assumption | exact va_up_self _ _ _ | (rw [va_up_ne _ _ (by omega)]; first | assumption | exact va_up_self _ _ _)))))) (by first | assumption | exact va_up_self _ _ _ | (rw [va_up_ne _ _ (by omega)]; first | assumption | exact va_up_self _ _ _ | (rw [va_up_ne _ _ (by omega)]; first | assumption | exact va_up_self _ _ _ | (rw [va_up_ne _ _ (by omega)]; first | assumption | exact va_up_self _ _ _ | (rw [va_up_ne _ _ (by omega)]; first | assumption | exact va_up_self _ _ _ | (rw [va_up_ne _ _ (by omega)]; first | assumption | exact va_up_self _ _ _)))))) (by omega) (by exact Nat.le_of_ble_eq_true rfl) ?_
  refine mx_aload_n (k4 := 0) (mx_d D_E_copyRowsOf 20 rfl) (by rfl) ?_
  refine mx_aload_n (k4 := 1) (mx_d D_E_copyRowsOf 21 rfl) (by rfl) ?_
  refine mx_getf hG (idx := 20) (ci := 1) (kf := 2) (mx_d D_E_copyRowsOf 22 rfl) (by rfl) cls_E (by decide) w_43 (by first | assumption | omega) (by first | assumption | exact va_up_self _ _ _ | (rw [va_up_ne _ _ (by omega)]; first | assumption | exact va_up_self _ _ _ | (rw [va_up_ne _ _ (by omega)]; first | assumption | exact va_up_self _ _ _ | (rw [va_up_ne _ _ (by omega)]; first | assumption | exact va_up_self _ _ _ | (rw [va_up_ne _ _ (by omega)]; first | assumption | exact va_up_self _ _ _ | (rw [va_up_ne _ _ (by omega)]; first | assumption | exact va_up_self _ _ _)))))) (by rfl) ?_
  refine mx_putf hG (idx := 20) (ci := 1) (kf := 2) (t := (.int)) (mx_d D_E_copyRowsOf 23 rfl) (by rfl) cls_E (by decide) (Or.inl rfl) w_43 (by first | assumption | omega) (by first | assumption | exact va_up_self _ _ _ | (rw [va_up_ne _ _ (by omega)]; first | assumption | exact va_up_self _ _ _ | (rw [va_up_ne _ _ (by omega)]; first | assumption | exact va_up_self _ _ _ | (rw [va_up_ne _ _ (by omega)]; first | assumption | exact va_up_self _ _ _ | (rw [va_up_ne _ _ (by omega)]; first | assumption | exact va_up_self _ _ _ | (rw [va_up_ne _ _ (by omega)]; first | assumption | exact va_up_self _ _ _)))))) (by exact Nat.le_of_ble_eq_true rfl) (by decide +kernel) (by rfl) (by rfl) ?_
  refine mx_vret (by rfl) (mx_d D_E_copyRowsOf 24 rfl) ?_
  exact q
theorem c_E_init (hG : mx_ok G) (ho : o < N) (h1 : ce o = .inr (1, [.null, .null, .int 0])) (hn : n ≤ 1000)
    (q : ∀ ce', (∀ k, k ≠ o → k < N → ce' k = ce k) → ce' o = .inr (1, [.ref (mx_B G + N), .ref (mx_B G + (N + 1)), .int (iI 0)]) → ce' N = aI G n (fun _ => 0) → ce' (N + 1) = aI G n (fun _ => 0) → Q (.inl none) (N + 2) ce' bc bs) : mx_M G Y_E_init d (bc + 2) (bs + n + n) true N ce 0 [(0, .ref (mx_B G + o)), (1, .int (iI n))] [] Q := by
  refine mx_aload_n (k4 := 0) (mx_d D_E_init 0 rfl) (by rfl) ?_
  refine mx_objInit (mx_d D_E_init 1 rfl) w_38 w_23 w_objcode (by exact Nat.le_of_ble_eq_true rfl) ?_
  refine mx_aload_n (k4 := 0) (mx_d D_E_init 2 rfl) (by rfl) ?_
  refine mx_iload_n (k4 := 1) (mx_d D_E_init 3 rfl) (by rfl) ?_
  refine mx_newaI hG (mx_d D_E_init 4 rfl) (by rfl) (by omega) ?_
  refine mx_putf hG (idx := 7) (ci := 1) (kf := 0) (t := (.array .int)) (mx_d D_E_init 5 rfl) (by rfl) cls_E (by decide) (Or.inr ⟨rfl, rfl, rfl⟩) w_39 (by first | assumption | omega) (by first | assumption | exact va_up_self _ _ _ | (rw [va_up_ne _ _ (by omega)]; first | assumption | exact va_up_self _ _ _ | (rw [va_up_ne _ _ (by omega)]; first | assumption | exact va_up_self _ _ _ | (rw [va_up_ne _ _ (by omega)]; first | assumption | exact va_up_self _ _ _ | (rw [va_up_ne _ _ (by omega)]; first | assumption | exact va_up_self _ _ _ | (rw [va_up_ne _ _ (by omega)]; first | assumption | exact va_up_self _ _ _)))))) (by exact Nat.le_of_ble_eq_true rfl) (by decide +kernel) (by rfl) (by rfl) ?_
  refine mx_aload_n (k4 := 0) (mx_d D_E_init 6 rfl) (by rfl) ?_
  refine mx_iload_n (k4 := 1) (mx_d D_E_init 7 rfl) (by rfl) ?_
  refine mx_newaI hG (mx_d D_E_init 8 rfl) (by rfl) (by omega) ?_
  refine mx_putf hG (idx := 13) (ci := 1) (kf := 1) (t := (.array .int)) (mx_d D_E_init 9 rfl) (by rfl) cls_E (by decide) (Or.inr ⟨rfl, rfl, rfl⟩) w_41 (by first | assumption | omega) (by first | assumption | exact va_up_self _ _ _ | (rw [va_up_ne _ _ (by omega)]; first | assumption | exact va_up_self _ _ _ | (rw [va_up_ne _ _ (by omega)]; first | assumption | exact va_up_self _ _ _ | (rw [va_up_ne _ _ (by omega)]; first | assumption | exact va_up_self _ _ _ | (rw [va_up_ne _ _ (by omega)]; first | assumption | exact va_up_self _ _ _ | (rw [va_up_ne _ _ (by omega)]; first | assumption | exact va_up_self _ _ _)))))) (by exact Nat.le_of_ble_eq_true rfl) (by decide +kernel) (by rfl) (by rfl) ?_
  refine mx_vret (by rfl) (mx_d D_E_init 10 rfl) ?_
  refine q _ (fun k h1 h2 => ?_) (va_up_self _ _ _) ?_ ?_
  · rw [va_up_ne _ _ h1, va_up_ne _ _ (by omega), va_up_ne _ _ h1, va_up_ne _ _ (by omega)]
  · rw [va_up_ne _ _ (by omega), va_up_ne _ _ (by omega), va_up_ne _ _ (by omega), va_up_self]
  · rw [va_up_ne _ _ (by omega), va_up_self]
end EE
section DA
variable {G : mx_G} {d bc bs : Nat} {ex : Bool} {N : Nat} {ce : Nat → va_E} {Q : mx_P} {o w o1 w1 o2 w2 n : Nat} {f f1 f2 : Nat → Int} {A S A1 S1 A2 S2 : Int}
theorem c_D_init (hG : mx_ok G) (ho : o < N) (h1 : ce o = .inr (2, [.null, .int 0, .int 0])) (hn : n ≤ 1000)
    (q : ∀ ce', (∀ k, k ≠ o → k < N → ce' k = ce k) → ce' o = .inr (2, [.ref (mx_B G + N), .int (iI 0), .int (iI 0)]) → ce' N = aI G n (fun _ => 0) → Q (.inl none) (N + 1) ce' bc bs) : mx_M G Y_D_init d (bc + 1) (bs + n) true N ce 0 [(0, .ref (mx_B G + o)), (1, .int (iI n))] [] Q := by
  refine mx_aload_n (k4 := 0) (mx_d D_D_init 0 rfl) (by rfl) ?_
  refine mx_objInit (mx_d D_D_init 1 rfl) w_59 w_23 w_objcode (by exact Nat.le_of_ble_eq_true rfl) ?_
  refine mx_aload_n (k4 := 0) (mx_d D_D_init 2 rfl) (by rfl) ?_
  refine mx_iload_n (k4 := 1) (mx_d D_D_init 3 rfl) (by rfl) ?_
  refine mx_newaI hG (mx_d D_D_init 4 rfl) (by rfl) (by omega) ?_
  refine mx_putf hG (idx := 7) (ci := 2) (kf := 0) (t := (.array .int)) (mx_d D_D_init 5 rfl) (by rfl) cls_D (by decide) (Or.inr ⟨rfl, rfl, rfl⟩) w_60 (by first | assumption | omega) (by first | assumption | exact va_up_self _ _ _ | (rw [va_up_ne _ _ (by omega)]; first | assumption | exact va_up_self _ _ _ | (rw [va_up_ne _ _ (by omega)]; first | assumption | exact va_up_self _ _ _ | (rw [va_up_ne _ _ (by omega)]; first | assumption | exact va_up_self _ _ _ | (rw [va_up_ne _ _ (by omega)]; first | assumption | exact va_up_self _ _ _ | (rw [va_up_ne _ _ (by omega)]; first | assumption | exact va_up_self _ _ _)))))) (by exact Nat.le_of_ble_eq_true rfl) (by decide +kernel) (by rfl) (by rfl) ?_
  refine mx_vret (by rfl) (mx_d D_D_init 6 rfl) ?_
  refine q _ (fun k h1 h2 => ?_) (va_up_self _ _ _) ?_
  · rw [va_up_ne _ _ h1, va_up_ne _ _ (by omega)]
  · rw [va_up_ne _ _ (by omega), va_up_self]
theorem c_D_isMeasured (hG : mx_ok G) (ho : o < N) (h1 : ce o = .inr (2, [.ref (mx_B G + w), .int (iI A), .int (iI S)])) (hS : 0 ≤ S ∧ S ≤ 100)
    (q : Q (.inl (some (.int (iI (bI (decide (0 < S))))))) N ce bc bs) : mx_M G Y_D_isMeasured d bc bs ex N ce 0 [(0, .ref (mx_B G + o))] [] Q := by
  refine mx_aload_n (k4 := 0) (mx_d D_D_isMeasured 0 rfl) (by rfl) ?_
  refine mx_getf hG (idx := 13) (ci := 2) (kf := 2) (mx_d D_D_isMeasured 1 rfl) (by rfl) cls_D (by decide) w_65 (by first | assumption | omega) (by first | assumption | exact va_up_self _ _ _ | (rw [va_up_ne _ _ (by omega)]; first | assumption | exact va_up_self _ _ _ | (rw [va_up_ne _ _ (by omega)]; first | assumption | exact va_up_self _ _ _ | (rw [va_up_ne _ _ (by omega)]; first | assumption | exact va_up_self _ _ _ | (rw [va_up_ne _ _ (by omega)]; first | assumption | exact va_up_self _ _ _ | (rw [va_up_ne _ _ (by omega)]; first | assumption | exact va_up_self _ _ _)))))) (by rfl) ?_
  refine mx_if_leI 11 (mx_d D_D_isMeasured 2 rfl) (by decide) (by omega) (by omega) (fun hb => ?_) (fun hb => ?_)
  · refine mx_iconst (n := 0) (mx_d D_D_isMeasured 5 rfl) ?_
    refine mx_zret (by rfl) (mx_d D_D_isMeasured 6 rfl) (by first | rfl | assumption) ?_
    rw [show bI (decide (0 < S)) = 0 from by simp [bI]; omega] at q
    exact q
  · refine mx_iconst (n := 1) (mx_d D_D_isMeasured 3 rfl) ?_
    refine mx_goto 12 (mx_d D_D_isMeasured 4 rfl) (by decide) ?_
    refine mx_zret (by rfl) (mx_d D_D_isMeasured 6 rfl) (by first | rfl | assumption) ?_
    rw [show bI (decide (0 < S)) = 1 from by simp [bI]; omega] at q
    exact q
theorem c_D_all (hG : mx_ok G) (ho : o < N) (hw : w < N) (h1 : ce o = .inr (2, [.ref (mx_B G + w), .int (iI A), .int (iI S)])) (h2 : ce w = aI G n f) (hn : n ≤ 1000)
    (q : Q (.inl (some (.int (iI (sumTo f n))))) N ce bc bs) : mx_M G Y_D_allWeights d bc bs ex N ce 0 [(0, .ref (mx_B G + o))] [] Q := by
  refine mx_iconst (n := 0) (mx_d D_D_allWeights 0 rfl) ?_
  refine mx_istore_n (k4 := 1) (mx_d D_D_allWeights 1 rfl) (by decide) ?_
  refine mx_aload_n (k4 := 0) (mx_d D_D_allWeights 2 rfl) (by rfl) ?_
  refine mx_getf hG (idx := 7) (ci := 2) (kf := 0) (mx_d D_D_allWeights 3 rfl) (by rfl) cls_D (by decide) w_60 (by first | assumption | omega) (by first | assumption | exact va_up_self _ _ _ | (rw [va_up_ne _ _ (by omega)]; first | assumption | exact va_up_self _ _ _ | (rw [va_up_ne _ _ (by omega)]; first | assumption | exact va_up_self _ _ _ | (rw [va_up_ne _ _ (by omega)]; first | assumption | exact va_up_self _ _ _ | (rw [va_up_ne _ _ (by omega)]; first | assumption | exact va_up_self _ _ _ | (rw [va_up_ne _ _ (by omega)]; first | assumption | exact va_up_self _ _ _)))))) (by rfl) ?_
  refine mx_astore_n (k4 := 2) (mx_d D_D_allWeights 4 rfl) (by decide) ?_
  refine mx_aload_n (k4 := 2) (mx_d D_D_allWeights 5 rfl) (by rfl) ?_
  refine mx_alen hG 0 (mx_d D_D_allWeights 6 rfl) (by first | assumption | omega) (by first | assumption | exact va_up_self _ _ _ | (rw [va_up_ne _ _ (by omega)]; first | assumption | exact va_up_self _ _ _ | (rw [va_up_ne _ _ (by omega)]; first | assumption | exact va_up_self _ _ _ | (rw [va_up_ne _ _ (by omega)]; first | assumption | exact va_up_self _ _ _ | (rw [va_up_ne _ _ (by omega)]; first | assumption | exact va_up_self _ _ _ | (rw [va_up_ne _ _ (by omega)]; first | assumption | exact va_up_self _ _ _)))))) (by rfl) ?_
  refine mx_istore_n (k4 := 3) (mx_d D_D_allWeights 7 rfl) (by decide) ?_
  refine mx_iconst (n := 0) (mx_d D_D_allWeights 8 rfl) ?_
  refine mx_istore (i := 4) (mx_d D_D_allWeights 9 rfl) (by decide) ?_
  suffices H : ∀ k i : Nat, i + k = n → mx_M G Y_D_allWeights d bc bs ex N ce 13 [(1, .int (iI (sumTo f i))), (2, .ref (mx_B G + w)), (3, .int (iI n)), (4, .int (iI i))] [] Q from mx_loc (by rfl) (H n 0 (by omega))
  intro k
  induction k with
  | zero =>
    intro i hi
    obtain rfl : i = n := by omega
    refine mx_iload (i := 4) (mx_d D_D_allWeights 10 rfl) (by rfl) ?_
    refine mx_iload_n (k4 := 3) (mx_d D_D_allWeights 11 rfl) (by rfl) ?_
    refine mx_icmp_geY 36 (mx_d D_D_allWeights 12 rfl) (by decide) (by omega) (by omega) (by omega) (by omega) (by omega) ?_
    refine mx_iload_n (k4 := 1) (mx_d D_D_allWeights 23 rfl) (by rfl) ?_
    refine mx_iret (by rfl) (mx_d D_D_allWeights 24 rfl) ?_
    exact q
  | succ k ih =>
    intro i hi
    refine mx_iload (i := 4) (mx_d D_D_allWeights 10 rfl) (by rfl) ?_
    refine mx_iload_n (k4 := 3) (mx_d D_D_allWeights 11 rfl) (by rfl) ?_
    refine mx_icmp_geN 36 (mx_d D_D_allWeights 12 rfl) (by decide) (by omega) (by omega) (by omega) (by omega) (by omega) ?_
    refine mx_aload_n (k4 := 2) (mx_d D_D_allWeights 13 rfl) (by rfl) ?_
    refine mx_iload (i := 4) (mx_d D_D_allWeights 14 rfl) (by rfl) ?_
    refine mx_ialdI hG _ (mx_d D_D_allWeights 15 rfl) (by first | assumption | omega) (by first | assumption | exact va_up_self _ _ _ | (rw [va_up_ne _ _ (by omega)]; first | assumption | exact va_up_self _ _ _ | (rw [va_up_ne _ _ (by omega)]; first | assumption | exact va_up_self _ _ _ | (rw [va_up_ne _ _ (by omega)]; first | assumption | exact va_up_self _ _ _ | (rw [va_up_ne _ _ (by omega)]; first | assumption | exact va_up_self _ _ _ | (rw [va_up_ne _ _ (by omega)]; first | assumption | exact va_up_self _ _ _)))))) (by rfl) (by omega) (by omega) ?_
    refine mx_istore (i := 5) (mx_d D_D_allWeights 16 rfl) (by decide) ?_
    refine mx_iload_n (k4 := 1) (mx_d D_D_allWeights 17 rfl) (by rfl) ?_
    refine mx_iload (i := 5) (mx_d D_D_allWeights 18 rfl) (by rfl) ?_
    refine mx_iaddI (mx_d D_D_allWeights 19 rfl) ?_
    refine mx_istore_n (k4 := 1) (mx_d D_D_allWeights 20 rfl) (by decide) ?_
    refine mx_iincI (i := 4) (n := 1) (mx_d D_D_allWeights 21 rfl) (by rfl) (by decide) ?_
    refine mx_goto 13 (mx_d D_D_allWeights 22 rfl) (by decide) ?_
    exact mx_loc (by rfl) (ih (i + 1) (by omega))
theorem c_D_greatest (hG : mx_ok G) (ho : o1 < N) (hw : w1 < N) (ho2 : o2 < N) (hw2 : w2 < N) (h1 : ce o1 = .inr (2, [.ref (mx_B G + w1), .int (iI A1), .int (iI S1)])) (h2 : ce w1 = aI G n f1) (h3 : ce o2 = .inr (2, [.ref (mx_B G + w2), .int (iI A2), .int (iI S2)])) (h4 : ce w2 = aI G n f2) (hn : n ≤ 1000) (hb1 : ∀ j, j < n → 0 ≤ f1 j ∧ f1 j ≤ 1000000) (hb2 : ∀ j, j < n → 0 ≤ f2 j ∧ f2 j ≤ 1000000)
    (q : Q (.inl (some (.int (iI (mxTo (fun j => f1 j + f2 j) n))))) N ce bc bs) : mx_M G Y_D_greatestSumWith d bc bs ex N ce 0 [(0, .ref (mx_B G + o1)), (1, .ref (mx_B G + o2))] [] Q := by
  refine mx_iconst (n := 0) (mx_d D_D_greatestSumWith 0 rfl) ?_
  refine mx_istore_n (k4 := 2) (mx_d D_D_greatestSumWith 1 rfl) (by decide) ?_
  refine mx_iconst (n := 0) (mx_d D_D_greatestSumWith 2 rfl) ?_
  refine mx_istore_n (k4 := 3) (mx_d D_D_greatestSumWith 3 rfl) (by decide) ?_
  suffices H : ∀ k i : Nat, i + k = n → mx_M G Y_D_greatestSumWith d bc bs ex N ce 4 [(0, .ref (mx_B G + o1)), (1, .ref (mx_B G + o2)), (2, .int (iI (mxTo (fun j => f1 j + f2 j) i))), (3, .int (iI i))] [] Q from mx_loc (by rfl) (H n 0 (by omega))
  intro k
  induction k with
  | zero =>
    intro i hi
    obtain rfl : i = n := by omega
    refine mx_iload_n (k4 := 3) (mx_d D_D_greatestSumWith 4 rfl) (by rfl) ?_
    refine mx_aload_n (k4 := 0) (mx_d D_D_greatestSumWith 5 rfl) (by rfl) ?_
    refine mx_getf hG (idx := 7) (ci := 2) (kf := 0) (mx_d D_D_greatestSumWith 6 rfl) (by rfl) cls_D (by decide) w_60 (by first | assumption | omega) (by first | assumption | exact va_up_self _ _ _ | (rw [va_up_ne _ _ (by omega)]; first | assumption | exact va_up_self _ _ _ | (rw [va_up_ne _ _ (by omega)]; first | assumption | exact va_up_self _ _ _ | (rw [va_up_ne _ _ (by omega)]; first | assumption | exact va_up_self _ _ _ | (rw [va_up_ne _ _ (by omega)]; first | assumption | exact va_up_self _ _ _ | (rw [va_up_ne _ _ (by omega)]; first | assumption | exact va_up_self _ _ _)))))) (by rfl) ?_
    refine mx_alen hG 0 (mx_d D_D_greatestSumWith 7 rfl) (by first | assumption | omega) (by first | assumption | exact va_up_self _ _ _ | (rw [va_up_ne _ _ (by omega)]; first | assumption | exact va_up_self _ _ _ | (rw [va_up_ne _ _ (by omega)]; first | assumption | exact va_up_self _ _ _ | (rw [va_up_ne _ _ (by omega)]; first | assumption | exact va_up_self _ _ _ | (rw [va_up_ne _ _ (by omega)]; first | assumption | exact va_up_self _ _ _ | (rw [va_up_ne _ _ (by omega)]; first | assumption | exact va_up_self _ _ _)))))) (by rfl) ?_
    refine mx_icmp_geY 37 (mx_d D_D_greatestSumWith 8 rfl) (by decide) (by omega) (by omega) (by omega) (by omega) (by omega) ?_
    refine mx_iload_n (k4 := 2) (mx_d D_D_greatestSumWith 23 rfl) (by rfl) ?_
    refine mx_iret (by rfl) (mx_d D_D_greatestSumWith 24 rfl) ?_
    exact q
  | succ k ih =>
    intro i hi
    have b0 := mxTo_bd (f := fun j => f1 j + f2 j) (n := i) (M := 2000000) (by omega) (fun j hj => by have := hb1 j (by omega); have := hb2 j (by omega); exact ⟨by omega, by omega⟩)
    have b1 := hb1 i (by omega)
    have b2 := hb2 i (by omega)
    refine mx_iload_n (k4 := 3) (mx_d D_D_greatestSumWith 4 rfl) (by rfl) ?_
    refine mx_aload_n (k4 := 0) (mx_d D_D_greatestSumWith 5 rfl) (by rfl) ?_
    refine mx_getf hG (idx := 7) (ci := 2) (kf := 0) (mx_d D_D_greatestSumWith 6 rfl) (by rfl) cls_D (by decide) w_60 (by first | assumption | omega) (by first | assumption | exact va_up_self _ _ _ | (rw [va_up_ne _ _ (by omega)]; first | assumption | exact va_up_self _ _ _ | (rw [va_up_ne _ _ (by omega)]; first | assumption | exact va_up_self _ _ _ | (rw [va_up_ne _ _ (by omega)]; first | assumption | exact va_up_self _ _ _ | (rw [va_up_ne _ _ (by omega)]; first | assumption | exact va_up_self _ _ _ | (rw [va_up_ne _ _ (by omega)]; first | assumption | exact va_up_self _ _ _)))))) (by rfl) ?_
    refine mx_alen hG 0 (mx_d D_D_greatestSumWith 7 rfl) (by first | assumption | omega) (by first | assumption | exact va_up_self _ _ _ | (rw [va_up_ne _ _ (by omega)]; first | assumption | exact va_up_self _ _ _ | (rw [va_up_ne _ _ (by omega)]; first | assumption | exact va_up_self _ _ _ | (rw [va_up_ne _ _ (by omega)]; first | assumption | exact va_up_self _ _ _ | (rw [va_up_ne _ _ (by omega)]; first | assumption | exact va_up_self _ _ _ | (rw [va_up_ne _ _ (by omega)]; first | assumption | exact va_up_self _ _ _)))))) (by rfl) ?_
    refine mx_icmp_geN 37 (mx_d D_D_greatestSumWith 8 rfl) (by decide) (by omega) (by omega) (by omega) (by omega) (by omega) ?_
    refine mx_iload_n (k4 := 2) (mx_d D_D_greatestSumWith 9 rfl) (by rfl) ?_
    refine mx_aload_n (k4 := 0) (mx_d D_D_greatestSumWith 10 rfl) (by rfl) ?_
    refine mx_getf hG (idx := 7) (ci := 2) (kf := 0) (mx_d D_D_greatestSumWith 11 rfl) (by rfl) cls_D (by decide) w_60 (by first | assumption | omega) (by first | assumption | exact va_up_self _ _ _ | (rw [va_up_ne _ _ (by omega)]; first | assumption | exact va_up_self _ _ _ | (rw [va_up_ne _ _ (by omega)]; first | assumption | exact va_up_self _ _ _ | (rw [va_up_ne _ _ (by omega)]; first | assumption | exact va_up_self _ _ _ | (rw [va_up_ne _ _ (by omega)]; first | assumption | exact va_up_self _ _ _ | (rw [va_up_ne _ _ (by omega)]; first | assumption | exact va_up_self _ _ _)))))) (by rfl) ?_
    refine mx_iload_n (k4 := 3) (mx_d D_D_greatestSumWith 12 rfl) (by rfl) ?_
    refine mx_ialdI hG _ (mx_d D_D_greatestSumWith 13 rfl) (by first | assumption | omega) (by first | assumption | exact va_up_self _ _ _ | (rw [va_up_ne _ _ (by omega)]; first | assumption | exact va_up_self _ _ _ | (rw [va_up_ne _ _ (by omega)]; first | assumption | exact va_up_self _ _ _ | (rw [va_up_ne _ _ (by omega)]; first | assumption | exact va_up_self _ _ _ | (rw [va_up_ne _ _ (by omega)]; first | assumption | exact va_up_self _ _ _ | (rw [va_up_ne _ _ (by omega)]; first | assumption | exact va_up_self _ _ _)))))) (by rfl) (by omega) (by omega) ?_
    refine mx_aload_n (k4 := 1) (mx_d D_D_greatestSumWith 14 rfl) (by rfl) ?_
    refine mx_getf hG (idx := 7) (ci := 2) (kf := 0) (mx_d D_D_greatestSumWith 15 rfl) (by rfl) cls_D (by decide) w_60 (by first | assumption | omega) (by first | assumption | exact va_up_self _ _ _ | (rw [va_up_ne _ _ (by omega)]; first | assumption | exact va_up_self _ _ _ | (rw [va_up_ne _ _ (by omega)]; first | assumption | exact va_up_self _ _ _ | (rw [va_up_ne _ _ (by omega)]; first | assumption | exact va_up_self _ _ _ | (rw [va_up_ne _ _ (by omega)]; first | assumption | exact va_up_self _ _ _ | (rw [va_up_ne _ _ (by omega)]; first | assumption | exact va_up_self _ _ _)))))) (by rfl) ?_
    refine mx_iload_n (k4 := 3) (mx_d D_D_greatestSumWith 16 rfl) (by rfl) ?_
    refine mx_ialdI hG _ (mx_d D_D_greatestSumWith 17 rfl) (by first | assumption | omega) (by first | assumption | exact va_up_self _ _ _ | (rw [va_up_ne _ _ (by omega)]; first | assumption | exact va_up_self _ _ _ | (rw [va_up_ne _ _ (by omega)]; first | assumption | exact va_up_self _ _ _ | (rw [va_up_ne _ _ (by omega)]; first | assumption | exact va_up_self _ _ _ | (rw [va_up_ne _ _ (by omega)]; first | assumption | exact va_up_self _ _ _ | (rw [va_up_ne _ _ (by omega)]; first | assumption | exact va_up_self _ _ _)))))) (by rfl) (by omega) (by omega) ?_
    refine mx_iaddI (mx_d D_D_greatestSumWith 18 rfl) ?_
    refine mx_mmaxI (mx_d D_D_greatestSumWith 19 rfl) w_455 w_29 w_2 w_mmaxcode (by exact Nat.le_of_ble_eq_true rfl) (by omega) (by omega) (by omega) (by omega) ?_
    refine mx_istore_n (k4 := 2) (mx_d D_D_greatestSumWith 20 rfl) (by decide) ?_
    refine mx_iincI (i := 3) (n := 1) (mx_d D_D_greatestSumWith 21 rfl) (by rfl) (by decide) ?_
    refine mx_goto 4 (mx_d D_D_greatestSumWith 22 rfl) (by decide) ?_
    exact mx_loc (by rfl) (ih (i + 1) (by omega))
theorem c_D_sum (hG : mx_ok G) (ho : o < N) (hw : w < N) (ho1 : o1 < N) (hw1 : w1 < N) (ho2 : o2 < N) (hw2 : w2 < N) (h0 : ce o = .inr (2, [.ref (mx_B G + w), .int (iI A), .int (iI S)])) (h1 : ce o1 = .inr (2, [.ref (mx_B G + w1), .int (iI A1), .int (iI S1)])) (h2 : ce w1 = aI G n f1) (h3 : ce o2 = .inr (2, [.ref (mx_B G + w2), .int (iI A2), .int (iI S2)])) (h4 : ce w2 = aI G n f2) (h5 : ce w = aI G n f) (hn : n ≤ 1000) (e1 : o ≠ w) (e2 : o1 ≠ w) (e3 : o2 ≠ w) (e4 : w1 ≠ w) (e5 : w2 ≠ w)
    (q : ∀ h : Nat → Int, (∀ j, j < n → h j = f1 j + f2 j) → Q (.inl none) N (va_up ce w (aI G n h)) bc bs) : mx_M G Y_D_becomeSum d bc bs ex N ce 0 [(0, .ref (mx_B G + o)), (1, .ref (mx_B G + o1)), (2, .ref (mx_B G + o2))] [] Q := by
  refine mx_iconst (n := 0) (mx_d D_D_becomeSum 0 rfl) ?_
  refine mx_istore_n (k4 := 3) (mx_d D_D_becomeSum 1 rfl) (by decide) ?_
  suffices H : ∀ (k i : Nat) (h : Nat → Int), i + k = n → (∀ j, j < i → h j = f1 j + f2 j) → mx_M G Y_D_becomeSum d bc bs ex N (va_up ce w (aI G n h)) 2 [(0, .ref (mx_B G + o)), (1, .ref (mx_B G + o1)), (2, .ref (mx_B G + o2)), (3, .int (iI i))] [] Q by
    have H0 := H n 0 f (by omega) (fun j hj => absurd hj (by omega))
    rw [va_up_id ce w h5] at H0
    exact mx_loc (by rfl) H0
  intro k
  induction k with
  | zero =>
    intro i h hi hh
    obtain rfl : i = n := by omega
    refine mx_iload_n (k4 := 3) (mx_d D_D_becomeSum 2 rfl) (by rfl) ?_
    refine mx_aload_n (k4 := 0) (mx_d D_D_becomeSum 3 rfl) (by rfl) ?_
    refine mx_getf hG (idx := 7) (ci := 2) (kf := 0) (mx_d D_D_becomeSum 4 rfl) (by rfl) cls_D (by decide) w_60 (by first | assumption | omega) (by first | assumption | exact va_up_self _ _ _ | (rw [va_up_ne _ _ (by omega)]; first | assumption | exact va_up_self _ _ _ | (rw [va_up_ne _ _ (by omega)]; first | assumption | exact va_up_self _ _ _ | (rw [va_up_ne _ _ (by omega)]; first | assumption | exact va_up_self _ _ _ | (rw [va_up_ne _ _ (by omega)]; first | assumption | exact va_up_self _ _ _ | (rw [va_up_ne _ _ (by omega)]; first | assumption | exact va_up_self _ _ _)))))) (by rfl) ?_
    refine mx_alen hG 0 (mx_d D_D_becomeSum 5 rfl) (by first | assumption | omega) (by first | assumption | exact va_up_self _ _ _ | (rw [va_up_ne _ _ (by omega)]; first | assumption | exact va_up_self _ _ _ | (rw [va_up_ne _ _ (by omega)]; first | assumption | exact va_up_self _ _ _ | (rw [va_up_ne _ _ (by omega)]; first | assumption | exact va_up_self _ _ _ | (rw [va_up_ne _ _ (by omega)]; first | assumption | exact va_up_self _ _ _ | (rw [va_up_ne _ _ (by omega)]; first | assumption | exact va_up_self _ _ _)))))) (by rfl) ?_
    refine mx_icmp_geY 36 (mx_d D_D_becomeSum 6 rfl) (by decide) (by omega) (by omega) (by omega) (by omega) (by omega) ?_
    refine mx_vret (by rfl) (mx_d D_D_becomeSum 22 rfl) ?_
    exact q h hh
  | succ k ih =>
    intro i h hi hh
    refine mx_iload_n (k4 := 3) (mx_d D_D_becomeSum 2 rfl) (by rfl) ?_
    refine mx_aload_n (k4 := 0) (mx_d D_D_becomeSum 3 rfl) (by rfl) ?_
    refine mx_getf hG (idx := 7) (ci := 2) (kf := 0) (mx_d D_D_becomeSum 4 rfl) (by rfl) cls_D (by decide) w_60 (by first | assumption | omega) (by first | assumption | exact va_up_self _ _ _ | (rw [va_up_ne _ _ (by omega)]; first | assumption | exact va_up_self _ _ _ | (rw [va_up_ne _ _ (by omega)]; first | assumption | exact va_up_self _ _ _ | (rw [va_up_ne _ _ (by omega)]; first | assumption | exact va_up_self _ _ _ | (rw [va_up_ne _ _ (by omega)]; first | assumption | exact va_up_self _ _ _ | (rw [va_up_ne _ _ (by omega)]; first | assumption | exact va_up_self _ _ _)))))) (by rfl) ?_
    refine mx_alen hG 0 (mx_d D_D_becomeSum 5 rfl) (by first | assumption | omega) (by first | assumption | exact va_up_self _ _ _ | (rw [va_up_ne _ _ (by omega)]; first | assumption | exact va_up_self _ _ _ | (rw [va_up_ne _ _ (by omega)]; first | assumption | exact va_up_self _ _ _ | (rw [va_up_ne _ _ (by omega)]; first | assumption | exact va_up_self _ _ _ | (rw [va_up_ne _ _ (by omega)]; first | assumption | exact va_up_self _ _ _ | (rw [va_up_ne _ _ (by omega)]; first | assumption | exact va_up_self _ _ _)))))) (by rfl) ?_
    refine mx_icmp_geN 36 (mx_d D_D_becomeSum 6 rfl) (by decide) (by omega) (by omega) (by omega) (by omega) (by omega) ?_
    refine mx_aload_n (k4 := 0) (mx_d D_D_becomeSum 7 rfl) (by rfl) ?_
    refine mx_getf hG (idx := 7) (ci := 2) (kf := 0) (mx_d D_D_becomeSum 8 rfl) (by rfl) cls_D (by decide) w_60 (by first | assumption | omega) (by first | assumption | exact va_up_self _ _ _ | (rw [va_up_ne _ _ (by omega)]; first | assumption | exact va_up_self _ _ _ | (rw [va_up_ne _ _ (by omega)]; first | assumption | exact va_up_self _ _ _ | (rw [va_up_ne _ _ (by omega)]; first | assumption | exact va_up_self _ _ _ | (rw [va_up_ne _ _ (by omega)]; first | assumption | exact va_up_self _ _ _ | (rw [va_up_ne _ _ (by omega)]; first | assumption | exact va_up_self _ _ _)))))) (by rfl) ?_
    refine mx_iload_n (k4 := 3) (mx_d D_D_becomeSum 9 rfl) (by rfl) ?_
    refine mx_aload_n (k4 := 1) (mx_d D_D_becomeSum 10 rfl) (by rfl) ?_
    refine mx_getf hG (idx := 7) (ci := 2) (kf := 0) (mx_d D_D_becomeSum 11 rfl) (by rfl) cls_D (by decide) w_60 (by first | assumption | omega) (by first | assumption | exact va_up_self _ _ _ | (rw [va_up_ne _ _ (by omega)]; first | assumption | exact va_up_self _ _ _ | (rw [va_up_ne _ _ (by omega)]; first | assumption | exact va_up_self _ _ _ | (rw [va_up_ne _ _ (by omega)]; first | assumption | exact va_up_self _ _ _ | (rw [va_up_ne _ _ (by omega)]; first | assumption | exact va_up_self _ _ _ | (rw [va_up_ne _ _ (by omega)]; first | assumption | exact va_up_self _ _ _)))))) (by rfl) ?_
    refine mx_iload_n (k4 := 3) (mx_d D_D_becomeSum 12 rfl) (by rfl) ?_
    refine mx_ialdI hG _ (mx_d D_D_becomeSum 13 rfl) (by first | assumption | omega) (by first | assumption | exact va_up_self _ _ _ | (rw [va_up_ne _ _ (by omega)]; first | assumption | exact va_up_self _ _ _ | (rw [va_up_ne _ _ (by omega)]; first | assumption | exact va_up_self _ _ _ | (rw [va_up_ne _ _ (by omega)]; first | assumption | exact va_up_self _ _ _ | (rw [va_up_ne _ _ (by omega)]; first | assumption | exact va_up_self _ _ _ | (rw [va_up_ne _ _ (by omega)]; first | assumption | exact va_up_self _ _ _)))))) (by rfl) (by omega) (by omega) ?_
    refine mx_aload_n (k4 := 2) (mx_d D_D_becomeSum 14 rfl) (by rfl) ?_
    refine mx_getf hG (idx := 7) (ci := 2) (kf := 0) (mx_d D_D_becomeSum 15 rfl) (by rfl) cls_D (by decide) w_60 (by first | assumption | omega) (by first | assumption | exact va_up_self _ _ _ | (rw [va_up_ne _ _ (by omega)]; first | assumption | exact va_up_self _ _ _ | (rw [va_up_ne _ _ (by omega)]; first | assumption | exact va_up_self _ _ _ | (rw [va_up_ne _ _ (by omega)]; first | assumption | exact va_up_self _ _ _ | (rw [va_up_ne _ _ (by omega)]; first | assumption | exact va_up_self _ _ _ | (rw [va_up_ne _ _ (by omega)]; first | assumption | exact va_up_self _ _ _)))))) (by rfl) ?_
    refine mx_iload_n (k4 := 3) (mx_d D_D_becomeSum 16 rfl) (by rfl) ?_
    refine mx_ialdI hG _ (mx_d D_D_becomeSum 17 rfl) (by first | assumption | omega) (by first | assumption | exact va_up_self _ _ _ | (rw [va_up_ne _ _ (by omega)]; first | assumption | exact va_up_self _ _ _ | (rw [va_up_ne _ _ (by omega)]; first | assumption | exact va_up_self _ _ _ | (rw [va_up_ne _ _ (by omega)]; first | assumption | exact va_up_self _ _ _ | (rw [va_up_ne _ _ (by omega)]; first | assumption | exact va_up_self _ _ _ | (rw [va_up_ne _ _ (by omega)]; first | assumption | exact va_up_self _ _ _)))))) (by rfl) (by omega) (by omega) ?_
    refine mx_iaddI (mx_d D_D_becomeSum 18 rfl) ?_
    refine mx_iastI hG _ _ (mx_d D_D_becomeSum 19 rfl) (by first | assumption | omega) (by first | assumption | exact va_up_self _ _ _ | (rw [va_up_ne _ _ (by omega)]; first | assumption | exact va_up_self _ _ _ | (rw [va_up_ne _ _ (by omega)]; first | assumption | exact va_up_self _ _ _ | (rw [va_up_ne _ _ (by omega)]; first | assumption | exact va_up_self _ _ _ | (rw [va_up_ne _ _ (by omega)]; first | assumption | exact va_up_self _ _ _ | (rw [va_up_ne _ _ (by omega)]; first | assumption | exact va_up_self _ _ _)))))) (by rfl) (by rfl) (by omega) (by omega) ?_
    refine mx_iincI (i := 3) (n := 1) (mx_d D_D_becomeSum 20 rfl) (by rfl) (by decide) ?_
    refine mx_goto 2 (mx_d D_D_becomeSum 21 rfl) (by decide) ?_
    rw [bx_uu]
    refine mx_loc (by rfl) (ih (i + 1) _ (by omega) (fun j hj => ?_))
    by_cases hji : j = i
    · subst hji; rw [va_up_self]
    · rw [va_up_ne _ _ hji]; exact hh j (by omega)
theorem c_D_mix (hG : mx_ok G) (ho : o < N) (hw : w < N) (ho1 : o1 < N) (hw1 : w1 < N) (ho2 : o2 < N) (hw2 : w2 < N) (h0 : ce o = .inr (2, [.ref (mx_B G + w), .int (iI A), .int (iI S)])) (h1 : ce o1 = .inr (2, [.ref (mx_B G + w1), .int (iI A1), .int (iI S1)])) (h2 : ce w1 = aI G n f1) (h3 : ce o2 = .inr (2, [.ref (mx_B G + w2), .int (iI A2), .int (iI S2)])) (h4 : ce w2 = aI G n f2) (h5 : ce w = aI G n f) (hn : n ≤ 1000) (e1 : o ≠ w) (e2 : o1 ≠ w) (e3 : o2 ≠ w) (e4 : w1 ≠ w) (e5 : w2 ≠ w) {u v : Int} (hu : 0 ≤ u) (huv : u ≤ v) (hv1 : 1 ≤ v) (hv : v ≤ 1000) (hb1 : ∀ j, j < n → 0 ≤ f1 j ∧ f1 j ≤ 1000000) (hb2 : ∀ j, j < n → 0 ≤ f2 j ∧ f2 j ≤ 1000000)
    (q : ∀ h : Nat → Int, (∀ j, j < n → h j = (u * f1 j + (v - u) * f2 j) / v) → Q (.inl none) N (va_up ce w (aI G n h)) bc bs) : mx_M G Y_D_becomeMixture d bc bs ex N ce 0 [(0, .ref (mx_B G + o)), (1, .ref (mx_B G + o1)), (2, .ref (mx_B G + o2)), (3, .int (iI u)), (4, .int (iI v))] [] Q := by
  refine mx_iconst (n := 0) (mx_d D_D_becomeMixture 0 rfl) ?_
  refine mx_istore (i := 5) (mx_d D_D_becomeMixture 1 rfl) (by decide) ?_
  suffices H : ∀ (k i : Nat) (h : Nat → Int), i + k = n → (∀ j, j < i → h j = (u * f1 j + (v - u) * f2 j) / v) → mx_M G Y_D_becomeMixture d bc bs ex N (va_up ce w (aI G n h)) 3 [(0, .ref (mx_B G + o)), (1, .ref (mx_B G + o1)), (2, .ref (mx_B G + o2)), (3, .int (iI u)), (4, .int (iI v)), (5, .int (iI i))] [] Q by
    have H0 := H n 0 f (by omega) (fun j hj => absurd hj (by omega))
    rw [va_up_id ce w h5] at H0
    exact mx_loc (by rfl) H0
  intro k
  induction k with
  | zero =>
    intro i h hi hh
    obtain rfl : i = n := by omega
    refine mx_iload (i := 5) (mx_d D_D_becomeMixture 2 rfl) (by rfl) ?_
    refine mx_aload_n (k4 := 0) (mx_d D_D_becomeMixture 3 rfl) (by rfl) ?_
    refine mx_getf hG (idx := 7) (ci := 2) (kf := 0) (mx_d D_D_becomeMixture 4 rfl) (by rfl) cls_D (by decide) w_60 (by first | assumption | omega) (by first | assumption | exact va_up_self _ _ _ | (rw [va_up_ne _ _ (by omega)]; first | assumption | exact va_up_self _ _ _ | (rw [va_up_ne _ _ (by omega)]; first | assumption | exact va_up_self _ _ _ | (rw [va_up_ne _ _ (by omega)]; first | assumption | exact va_up_self _ _ _ | (rw [va_up_ne _ _ (by omega)]; first | assumption | exact va_up_self _ _ _ | (rw [va_up_ne _ _ (by omega)]; first | assumption | exact va_up_self _ _ _)))))) (by rfl) ?_
    refine mx_alen hG 0 (mx_d D_D_becomeMixture 5 rfl) (by first | assumption | omega) (by first | assumption | exact va_up_self _ _ _ | (rw [va_up_ne _ _ (by omega)]; first | assumption | exact va_up_self _ _ _ | (rw [va_up_ne _ _ (by omega)]; first | assumption | exact va_up_self _ _ _ | (rw [va_up_ne _ _ (by omega)]; first | assumption | exact va_up_self _ _ _ | (rw [va_up_ne _ _ (by omega)]; first | assumption | exact va_up_self _ _ _ | (rw [va_up_ne _ _ (by omega)]; first | assumption | exact va_up_self _ _ _)))))) (by rfl) ?_
    refine mx_icmp_geY 61 (mx_d D_D_becomeMixture 6 rfl) (by decide) (by omega) (by omega) (by omega) (by omega) (by omega) ?_
    refine mx_vret (by rfl) (mx_d D_D_becomeMixture 38 rfl) ?_
    exact q h hh
  | succ k ih =>
    intro i h hi hh
    have b1 := hb1 i (by omega)
    have b2 := hb2 i (by omega)
    have c1 : 0 ≤ u * f1 i := Int.mul_nonneg hu b1.1
    have c2 : u * f1 i ≤ 1000 * 1000000 := Int.mul_le_mul (by omega) b1.2 b1.1 (by omega)
    have c3 : 0 ≤ (v - u) * f2 i := Int.mul_nonneg (by omega) b2.1
    have c4 : (v - u) * f2 i ≤ 1000 * 1000000 := Int.mul_le_mul (by omega) b2.2 b2.1 (by omega)
    refine mx_iload (i := 5) (mx_d D_D_becomeMixture 2 rfl) (by rfl) ?_
    refine mx_aload_n (k4 := 0) (mx_d D_D_becomeMixture 3 rfl) (by rfl) ?_
    refine mx_getf hG (idx := 7) (ci := 2) (kf := 0) (mx_d D_D_becomeMixture 4 rfl) (by rfl) cls_D (by decide) w_60 (by first | assumption | omega) (by first | assumption | exact va_up_self _ _ _ | (rw [va_up_ne _ _ (by omega)]; first | assumption | exact va_up_self _ _ _ | (rw [va_up_ne _ _ (by omega)]; first | assumption | exact va_up_self _ _ _ | (rw [va_up_ne _ _ (by omega)]; first | assumption | exact va_up_self _ _ _ | (rw [va_up_ne _ _ (by omega)]; first | assumption | exact va_up_self _ _ _ | (rw [va_up_ne _ _ (by omega)]; first | assumption | exact va_up_self _ _ _)))))) (by rfl) ?_
    refine mx_alen hG 0 (mx_d D_D_becomeMixture 5 rfl) (by first | assumption | omega) (by first | assumption | exact va_up_self _ _ _ | (rw [va_up_ne _ _ (by omega)]; first | assumption | exact va_up_self _ _ _ | (rw [va_up_ne _ _ (by omega)]; first | assumption | exact va_up_self _ _ _ | (rw [va_up_ne _ _ (by omega)]; first | assumption | exact va_up_self _ _ _ | (rw [va_up_ne _ _ (by omega)]; first | assumption | exact va_up_self _ _ _ | (rw [va_up_ne _ _ (by omega)]; first | assumption | exact va_up_self _ _ _)))))) (by rfl) ?_
    refine mx_icmp_geN 61 (mx_d D_D_becomeMixture 6 rfl) (by decide) (by omega) (by omega) (by omega) (by omega) (by omega) ?_
    refine mx_iload_n (k4 := 3) (mx_d D_D_becomeMixture 7 rfl) (by rfl) ?_
    refine mx_i2lI (mx_d D_D_becomeMixture 8 rfl) (by omega) (by omega) ?_
    refine mx_aload_n (k4 := 1) (mx_d D_D_becomeMixture 9 rfl) (by rfl) ?_
    refine mx_getf hG (idx := 7) (ci := 2) (kf := 0) (mx_d D_D_becomeMixture 10 rfl) (by rfl) cls_D (by decide) w_60 (by first | assumption | omega) (by first | assumption | exact va_up_self _ _ _ | (rw [va_up_ne _ _ (by omega)]; first | assumption | exact va_up_self _ _ _ | (rw [va_up_ne _ _ (by omega)]; first | assumption | exact va_up_self _ _ _ | (rw [va_up_ne _ _ (by omega)]; first | assumption | exact va_up_self _ _ _ | (rw [va_up_ne _ _ (by omega)]; first | assumption | exact va_up_self _ _ _ | (rw [va_up_ne _ _ (by omega)]; first | assumption | exact va_up_self _ _ _)))))) (by rfl) ?_
    refine mx_iload (i := 5) (mx_d D_D_becomeMixture 11 rfl) (by rfl) ?_
    refine mx_ialdI hG _ (mx_d D_D_becomeMixture 12 rfl) (by first | assumption | omega) (by first | assumption | exact va_up_self _ _ _ | (rw [va_up_ne _ _ (by omega)]; first | assumption | exact va_up_self _ _ _ | (rw [va_up_ne _ _ (by omega)]; first | assumption | exact va_up_self _ _ _ | (rw [va_up_ne _ _ (by omega)]; first | assumption | exact va_up_self _ _ _ | (rw [va_up_ne _ _ (by omega)]; first | assumption | exact va_up_self _ _ _ | (rw [va_up_ne _ _ (by omega)]; first | assumption | exact va_up_self _ _ _)))))) (by rfl) (by omega) (by omega) ?_
    refine mx_i2lI (mx_d D_D_becomeMixture 13 rfl) (by omega) (by omega) ?_
    refine mx_lmulI (mx_d D_D_becomeMixture 14 rfl) ?_
    refine mx_iload (i := 4) (mx_d D_D_becomeMixture 15 rfl) (by rfl) ?_
    refine mx_iload_n (k4 := 3) (mx_d D_D_becomeMixture 16 rfl) (by rfl) ?_
    refine mx_isubI (mx_d D_D_becomeMixture 17 rfl) ?_
    refine mx_i2lI (mx_d D_D_becomeMixture 18 rfl) (by omega) (by omega) ?_
    refine mx_aload_n (k4 := 2) (mx_d D_D_becomeMixture 19 rfl) (by rfl) ?_
    refine mx_getf hG (idx := 7) (ci := 2) (kf := 0) (mx_d D_D_becomeMixture 20 rfl) (by rfl) cls_D (by decide) w_60 (by first | assumption | omega) (by first | assumption | exact va_up_self _ _ _ | (rw [va_up_ne _ _ (by omega)]; first | assumption | exact va_up_self _ _ _ | (rw [va_up_ne _ _ (by omega)]; first | assumption | exact va_up_self _ _ _ | (rw [va_up_ne _ _ (by omega)]; first | assumption | exact va_up_self _ _ _ | (rw [va_up_ne _ _ (by omega)]; first | assumption | exact va_up_self _ _ _ | (rw [va_up_ne _ _ (by omega)]; first | assumption | exact va_up_self _ _ _)))))) (by rfl) ?_
    refine mx_iload (i := 5) (mx_d D_D_becomeMixture 21 rfl) (by rfl) ?_
    refine mx_ialdI hG _ (mx_d D_D_becomeMixture 22 rfl) (by first | assumption | omega) (by first | assumption | exact va_up_self _ _ _ | (rw [va_up_ne _ _ (by omega)]; first | assumption | exact va_up_self _ _ _ | (rw [va_up_ne _ _ (by omega)]; first | assumption | exact va_up_self _ _ _ | (rw [va_up_ne _ _ (by omega)]; first | assumption | exact va_up_self _ _ _ | (rw [va_up_ne _ _ (by omega)]; first | assumption | exact va_up_self _ _ _ | (rw [va_up_ne _ _ (by omega)]; first | assumption | exact va_up_self _ _ _)))))) (by rfl) (by omega) (by omega) ?_
    refine mx_i2lI (mx_d D_D_becomeMixture 23 rfl) (by omega) (by omega) ?_
    refine mx_lmulI (mx_d D_D_becomeMixture 24 rfl) ?_
    refine mx_laddI (mx_d D_D_becomeMixture 25 rfl) ?_
    refine mx_lstore (i := 6) (mx_d D_D_becomeMixture 26 rfl) (by decide) ?_
    refine mx_aload_n (k4 := 0) (mx_d D_D_becomeMixture 27 rfl) (by rfl) ?_
    refine mx_getf hG (idx := 7) (ci := 2) (kf := 0) (mx_d D_D_becomeMixture 28 rfl) (by rfl) cls_D (by decide) w_60 (by first | assumption | omega) (by first | assumption | exact va_up_self _ _ _ | (rw [va_up_ne _ _ (by omega)]; first | assumption | exact va_up_self _ _ _ | (rw [va_up_ne _ _ (by omega)]; first | assumption | exact va_up_self _ _ _ | (rw [va_up_ne _ _ (by omega)]; first | assumption | exact va_up_self _ _ _ | (rw [va_up_ne _ _ (by omega)]; first | assumption | exact va_up_self _ _ _ | (rw [va_up_ne _ _ (by omega)]; first | assumption | exact va_up_self _ _ _)))))) (by rfl) ?_
    refine mx_iload (i := 5) (mx_d D_D_becomeMixture 29 rfl) (by rfl) ?_
    refine mx_lload (i := 6) (mx_d D_D_becomeMixture 30 rfl) (by rfl) ?_
    refine mx_iload (i := 4) (mx_d D_D_becomeMixture 31 rfl) (by rfl) ?_
    refine mx_i2lI (mx_d D_D_becomeMixture 32 rfl) (by omega) (by omega) ?_
    refine mx_ldivI (mx_d D_D_becomeMixture 33 rfl) (by omega) (by omega) (by omega) (by omega) ?_
    refine mx_l2iI (mx_d D_D_becomeMixture 34 rfl) ?_
    refine mx_iastI hG _ _ (mx_d D_D_becomeMixture 35 rfl) (by first | assumption | omega) (by first | assumption | exact va_up_self _ _ _ | (rw [va_up_ne _ _ (by omega)]; first | assumption | exact va_up_self _ _ _ | (rw [va_up_ne _ _ (by omega)]; first | assumption | exact va_up_self _ _ _ | (rw [va_up_ne _ _ (by omega)]; first | assumption | exact va_up_self _ _ _ | (rw [va_up_ne _ _ (by omega)]; first | assumption | exact va_up_self _ _ _ | (rw [va_up_ne _ _ (by omega)]; first | assumption | exact va_up_self _ _ _)))))) (by rfl) (by rfl) (by omega) (by omega) ?_
    refine mx_iincI (i := 5) (n := 1) (mx_d D_D_becomeMixture 36 rfl) (by rfl) (by decide) ?_
    refine mx_goto 3 (mx_d D_D_becomeMixture 37 rfl) (by decide) ?_
    rw [bx_uu]
    refine mx_loc (by rfl) (ih (i + 1) _ (by omega) (fun j hj => ?_))
    by_cases hji : j = i
    · subst hji; rw [va_up_self]
    · rw [va_up_ne _ _ hji]; exact hh j (by omega)
end DA
end
section
/-! DateRow, Pad -/
abbrev aQ (G : mx_G) (t n : Nat) (f : Nat → Nat) : va_E := .inl (G.2.2.2 t, n, .inr (.inr (.inr (.inr (fun j => if j < n then some (mx_B G + f j) else none)))))
def slTo (Y : Nat) (dW : Nat → Nat → Int) (rn rg : Nat → Nat) (y : Nat) : Nat → Int
  | 0 => 0
  | n + 1 => slTo Y dW rn rg y n + (if y + rg n < Y then dW (rn n) (y + rg n) else 0)
theorem slTo_bd {Y : Nat} {dW : Nat → Nat → Int} {rn rg : Nat → Nat} {y : Nat} (hb : ∀ d, d < 12 → ∀ y, y < Y → 0 ≤ dW d y ∧ dW d y ≤ 1000000) {n : Nat} (hr : ∀ i, i < n → rn i < 12) : 0 ≤ slTo Y dW rn rg y n ∧ slTo Y dW rn rg y n ≤ n * 1000000 := by
  induction n with
  | zero => simp [slTo]
  | succ n ih =>
    have h1 := ih (fun i hi => hr i (by omega))
    have h2 := hb (rn n) (hr n (by omega)) (y + rg n)
    simp only [slTo]
    split
    · have := h2 (by assumption); omega
    · omega
section DR
variable {G : mx_G} {d bc bs : Nat} {ex : Bool} {N : Nat} {ce : Nat → va_E} {Q : mx_P} {o a g n c : Nat} {rn rg : Nat → Nat}
theorem c_R_init (hG : mx_ok G) (ho : o < N) (h1 : ce o = .inr (4, [.null, .null, .int 0]))
    (q : ∀ ce', (∀ k, k ≠ o → k < N → ce' k = ce k) → ce' o = .inr (4, [.ref (mx_B G + N), .ref (mx_B G + (N + 1)), .int (iI 0)]) → ce' N = aI G 8 (fun _ => 0) → ce' (N + 1) = aI G 8 (fun _ => 0) → Q (.inl none) (N + 2) ce' bc bs) : mx_M G Y_R_init d (bc + 2) (bs + 8 + 8) true N ce 0 [(0, .ref (mx_B G + o))] [] Q := by
  refine mx_aload_n (k4 := 0) (mx_d D_R_init 0 rfl) (by rfl) ?_
  refine mx_objInit (mx_d D_R_init 1 rfl) w_102 w_23 w_objcode (by exact Nat.le_of_ble_eq_true rfl) ?_
  refine mx_aload_n (k4 := 0) (mx_d D_R_init 2 rfl) (by rfl) ?_
  refine mx_bipush (n := 8) (mx_d D_R_init 3 rfl) (by decide) ?_
  refine mx_newaI hG (mx_d D_R_init 4 rfl) (by rfl) (by omega) ?_
  refine mx_putf hG (idx := 9) (ci := 4) (kf := 0) (t := (.array .int)) (mx_d D_R_init 5 rfl) (by rfl) cls_R (by decide) (Or.inr ⟨rfl, rfl, rfl⟩) w_103 (by first | assumption | omega) (by first | assumption | exact va_up_self _ _ _ | (rw [va_up_ne _ _ (by omega)]; first | assumption | exact va_up_self _ _ _ | (rw [va_up_ne _ _ (by omega)]; first | assumption | exact va_up_self _ _ _ | (rw [va_up_ne _ _ (by omega)]; first | assumption | exact va_up_self _ _ _ | (rw [va_up_ne _ _ (by omega)]; first | assumption | exact va_up_self _ _ _ | (rw [va_up_ne _ _ (by omega)]; first | assumption | exact va_up_self _ _ _)))))) (by exact Nat.le_of_ble_eq_true rfl) (by decide +kernel) (by rfl) (by rfl) ?_
  refine mx_aload_n (k4 := 0) (mx_d D_R_init 6 rfl) (by rfl) ?_
  refine mx_bipush (n := 8) (mx_d D_R_init 7 rfl) (by decide) ?_
  refine mx_newaI hG (mx_d D_R_init 8 rfl) (by rfl) (by omega) ?_
  refine mx_putf hG (idx := 15) (ci := 4) (kf := 1) (t := (.array .int)) (mx_d D_R_init 9 rfl) (by rfl) cls_R (by decide) (Or.inr ⟨rfl, rfl, rfl⟩) w_104 (by first | assumption | omega) (by first | assumption | exact va_up_self _ _ _ | (rw [va_up_ne _ _ (by omega)]; first | assumption | exact va_up_self _ _ _ | (rw [va_up_ne _ _ (by omega)]; first | assumption | exact va_up_self _ _ _ | (rw [va_up_ne _ _ (by omega)]; first | assumption | exact va_up_self _ _ _ | (rw [va_up_ne _ _ (by omega)]; first | assumption | exact va_up_self _ _ _ | (rw [va_up_ne _ _ (by omega)]; first | assumption | exact va_up_self _ _ _)))))) (by exact Nat.le_of_ble_eq_true rfl) (by decide +kernel) (by rfl) (by rfl) ?_
  refine mx_vret (by rfl) (mx_d D_R_init 10 rfl) ?_
  refine q _ (fun k h1 h2 => ?_) (va_up_self _ _ _) ?_ ?_
  · rw [va_up_ne _ _ h1, va_up_ne _ _ (by omega), va_up_ne _ _ h1, va_up_ne _ _ (by omega)]
  · rw [va_up_ne _ _ (by omega), va_up_ne _ _ (by omega), va_up_ne _ _ (by omega), va_up_self]
  · rw [va_up_ne _ _ (by omega), va_up_self]
theorem c_R_append (hG : mx_ok G) (ho : o < N) (ha : a < N) (hg : g < N) (e1 : o ≠ a) (e2 : o ≠ g) (e3 : a ≠ g) (h1 : ce o = .inr (4, [.ref (mx_B G + a), .ref (mx_B G + g), .int (iI n)])) (h2 : ce a = aI G 8 (fun j => (rn j : Int))) (h3 : ce g = aI G 8 (fun j => (rg j : Int))) (hn : n < 8) {x z : Nat}
    (q : Q (.inl none) N (va_up (va_up (va_up ce a (aI G 8 (fun j => ((va_up rn n x j : Nat) : Int)))) g (aI G 8 (fun j => ((va_up rg n z j : Nat) : Int)))) o (.inr (4, [.ref (mx_B G + a), .ref (mx_B G + g), .int (iI ((n + 1 : Nat) : Int))]))) bc bs) : mx_M G Y_R_append d bc bs ex N ce 0 [(0, .ref (mx_B G + o)), (1, .int (iI x)), (2, .int (iI z))] [] Q := by
  have e : ∀ (f : Nat → Nat) (v : Nat), va_up (fun j => ((f j : Nat) : Int)) n (v : Int) = fun j => ((va_up f n v j : Nat) : Int) := by
    intro f v
    funext j
    by_cases hj : j = n
    · subst hj; rw [va_up_self, va_up_self]
    · rw [va_up_ne _ _ hj, va_up_ne _ _ hj]
  refine mx_aload_n (k4 := 0) (mx_d D_R_append 0 rfl) (by rfl) ?_
  refine mx_getf hG (idx := 9) (ci := 4) (kf := 0) (mx_d D_R_append 1 rfl) (by rfl) cls_R (by decide) w_103 (by first | assumption | omega) (by first | assumption | exact va_up_self _ _ _ | (rw [va_up_ne _ _ (by omega)]; first | assumption | exact va_up_self _ _ _ | (rw [va_up_ne _ _ (by omega)]; first | assumption | exact va_up_self _ _ _ | (rw [va_up_ne _ _ (by omega)]; first | assumption | exact va_up_self _ _ _ | (rw [va_up_ne _ _ (by omega)]; first | assumption | exact va_up_self _ _ _ | (rw [va_up_ne _ _ (by omega)]; first | assumption | exact va_up_self _ _ _)))))) (by rfl) ?_
  refine mx_aload_n (k4 := 0) (mx_d D_R_append 2 rfl) (by rfl) ?_
  refine mx_getf hG (idx := 18) (ci := 4) (kf := 2) (mx_d D_R_append 3 rfl) (by rfl) cls_R (by decide) w_105 (by first | assumption | omega) (by first | assumption | exact va_up_self _ _ _ | (rw [va_up_ne _ _ (by omega)]; first | assumption | exact va_up_self _ _ _ | (rw [va_up_ne _ _ (by omega)]; first | assumption | exact va_up_self _ _ _ | (rw [va_up_ne _ _ (by omega)]; first | assumption | exact va_up_self _ _ _ | (rw [va_up_ne _ _ (by omega)]; first | assumption | exact va_up_self _ _ _ | (rw [va_up_ne _ _ (by omega)]; first | assumption | exact va_up_self _ _ _)))))) (by rfl) ?_
  refine mx_iload_n (k4 := 1) (mx_d D_R_append 4 rfl) (by rfl) ?_
  refine mx_iastI hG _ _ (mx_d D_R_append 5 rfl) (by first | assumption | omega) (by first | assumption | exact va_up_self _ _ _ | (rw [va_up_ne _ _ (by omega)]; first | assumption | exact va_up_self _ _ _ | (rw [va_up_ne _ _ (by omega)]; first | assumption | exact va_up_self _ _ _ | (rw [va_up_ne _ _ (by omega)]; first | assumption | exact va_up_self _ _ _ | (rw [va_up_ne _ _ (by omega)]; first | assumption | exact va_up_self _ _ _ | (rw [va_up_ne _ _ (by omega)]; first | assumption | exact va_up_self _ _ _)))))) (by rfl) (by rfl) (by omega) (by omega) ?_
  refine mx_aload_n (k4 := 0) (mx_d D_R_append 6 rfl) (by rfl) ?_
  refine mx_getf hG (idx := 15) (ci := 4) (kf := 1) (mx_d D_R_append 7 rfl) (by rfl) cls_R (by decide) w_104 (by first | assumption | omega) (by first | assumption | exact va_up_self _ _ _ | (rw [va_up_ne _ _ (by omega)]; first | assumption | exact va_up_self _ _ _ | (rw [va_up_ne _ _ (by omega)]; first | assumption | exact va_up_self _ _ _ | (rw [va_up_ne _ _ (by omega)]; first | assumption | exact va_up_self _ _ _ | (rw [va_up_ne _ _ (by omega)]; first | assumption | exact va_up_self _ _ _ | (rw [va_up_ne _ _ (by omega)]; first | assumption | exact va_up_self _ _ _)))))) (by rfl) ?_
  refine mx_aload_n (k4 := 0) (mx_d D_R_append 8 rfl) (by rfl) ?_
  refine mx_getf hG (idx := 18) (ci := 4) (kf := 2) (mx_d D_R_append 9 rfl) (by rfl) cls_R (by decide) w_105 (by first | assumption | omega) (by first | assumption | exact va_up_self _ _ _ | (rw [va_up_ne _ _ (by omega)]; first | assumption | exact va_up_self _ _ _ | (rw [va_up_ne _ _ (by omega)]; first | assumption | exact va_up_self _ _ _ | (rw [va_up_ne _ _ (by omega)]; first | assumption | exact va_up_self _ _ _ | (rw [va_up_ne _ _ (by omega)]; first | assumption | exact va_up_self _ _ _ | (rw [va_up_ne _ _ (by omega)]; first | assumption | exact va_up_self _ _ _)))))) (by rfl) ?_
  refine mx_iload_n (k4 := 2) (mx_d D_R_append 10 rfl) (by rfl) ?_
  refine mx_iastI hG _ _ (mx_d D_R_append 11 rfl) (by first | assumption | omega) (by first | assumption | exact va_up_self _ _ _ | (rw [va_up_ne _ _ (by omega)]; first | assumption | exact va_up_self _ _ _ | (rw [va_up_ne _ _ (by omega)]; first | assumption | exact va_up_self _ _ _ | (rw [va_up_ne _ _ (by omega)]; first | assumption | exact va_up_self _ _ _ | (rw [va_up_ne _ _ (by omega)]; first | assumption | exact va_up_self _ _ _ | (rw [va_up_ne _ _ (by omega)]; first | assumption | exact va_up_self _ _ _)))))) (by rfl) (by rfl) (by omega) (by omega) ?_
  refine mx_aload_n (k4 := 0) (mx_d D_R_append 12 rfl) (by rfl) ?_
  refine mx_dup (mx_d D_R_append 13 rfl) (by rfl) ?_
  refine mx_getf hG (idx := 18) (ci := 4) (kf := 2) (mx_d D_R_append 14 rfl) (by rfl) cls_R (by decide) w_105 (by first | assumption | omega) (by first | assumption | exact va_up_self _ _ _ | (rw [va_up_ne _ _ (by omega)]; first | assumption | exact va_up_self _ _ _ | (rw [va_up_ne _ _ (by omega)]; first | assumption | exact va_up_self _ _ _ | (rw [va_up_ne _ _ (by omega)]; first | assumption | exact va_up_self _ _ _ | (rw [va_up_ne _ _ (by omega)]; first | assumption | exact va_up_self _ _ _ | (rw [va_up_ne _ _ (by omega)]; first | assumption | exact va_up_self _ _ _)))))) (by rfl) ?_
  refine mx_iconst (n := 1) (mx_d D_R_append 15 rfl) ?_
  refine mx_iaddI (mx_d D_R_append 16 rfl) ?_
  refine mx_putf hG (idx := 18) (ci := 4) (kf := 2) (t := (.int)) (mx_d D_R_append 17 rfl) (by rfl) cls_R (by decide) (Or.inl rfl) w_105 (by first | assumption | omega) (by first | assumption | exact va_up_self _ _ _ | (rw [va_up_ne _ _ (by omega)]; first | assumption | exact va_up_self _ _ _ | (rw [va_up_ne _ _ (by omega)]; first | assumption | exact va_up_self _ _ _ | (rw [va_up_ne _ _ (by omega)]; first | assumption | exact va_up_self _ _ _ | (rw [va_up_ne _ _ (by omega)]; first | assumption | exact va_up_self _ _ _ | (rw [va_up_ne _ _ (by omega)]; first | assumption | exact va_up_self _ _ _)))))) (by exact Nat.le_of_ble_eq_true rfl) (by decide +kernel) (by rfl) (by rfl) ?_
  refine mx_vret (by rfl) (mx_d D_R_append 18 rfl) ?_
  rw [e, e]
  exact q
theorem c_R_sumAt (hG : mx_ok G) (ho : o < N) (ha : a < N) (hg : g < N) (hc : c < N) (h1 : ce o = .inr (4, [.ref (mx_B G + a), .ref (mx_B G + g), .int (iI n)])) (h2 : ce a = aI G 8 (fun j => (rn j : Int))) (h3 : ce g = aI G 8 (fun j => (rg j : Int))) (hn : n ≤ 8) (h4 : ce c = aQ G 4 12 (fun j => 15 + 2 * j)) {dA dS : Nat → Int} {dW : Nat → Nat → Int} {Y y : Nat} (hN : 39 ≤ N) (h5 : ∀ i, i < 12 → ce (15 + 2 * i) = .inr (2, [.ref (mx_B G + (16 + 2 * i)), .int (iI (dA i)), .int (iI (dS i))])) (h6 : ∀ i, i < 12 → ce (16 + 2 * i) = aI G Y (dW i)) (hY : Y ≤ 60) (hy : y < Y) (hr : ∀ i, i < n → rn i < 12 ∧ rg i ≤ 59)
    (q : Q (.inl (some (.int (iI (slTo Y dW rn rg y n))))) N ce bc bs) : mx_M G Y_R_sumAt d bc bs ex N ce 0 [(0, .ref (mx_B G + o)), (1, .int (iI y)), (2, .ref (mx_B G + c))] [] Q := by
  refine mx_iconst (n := 0) (mx_d D_R_sumAt 0 rfl) ?_
  refine mx_istore_n (k4 := 3) (mx_d D_R_sumAt 1 rfl) (by decide) ?_
  refine mx_iconst (n := 0) (mx_d D_R_sumAt 2 rfl) ?_
  refine mx_istore (i := 4) (mx_d D_R_sumAt 3 rfl) (by decide) ?_
  suffices H : ∀ k i : Nat, i + k = n → mx_M G Y_R_sumAt d bc bs ex N ce 5 [(0, .ref (mx_B G + o)), (1, .int (iI y)), (2, .ref (mx_B G + c)), (3, .int (iI (slTo Y dW rn rg y i))), (4, .int (iI i))] [] Q from mx_loc (by rfl) (H n 0 (by omega))
  intro k
  induction k with
  | zero =>
    intro i hi
    obtain rfl : i = n := by omega
    refine mx_iload (i := 4) (mx_d D_R_sumAt 4 rfl) (by rfl) ?_
    refine mx_aload_n (k4 := 0) (mx_d D_R_sumAt 5 rfl) (by rfl) ?_
    refine mx_getf hG (idx := 18) (ci := 4) (kf := 2) (mx_d D_R_sumAt 6 rfl) (by rfl) cls_R (by decide) w_105 (by first | assumption | omega) (by first | assumption | exact va_up_self _ _ _ | (rw [va_up_ne _ _ (by omega)]; first | assumption | exact va_up_self _ _ _ | (rw [va_up_ne _ _ (by omega)]; first | assumption | exact va_up_self _ _ _ | (rw [va_up_ne _ _ (by omega)]; first | assumption | exact va_up_self _ _ _ | (rw [va_up_ne _ _ (by omega)]; first | assumption | exact va_up_self _ _ _ | (rw [va_up_ne _ _ (by omega)]; first | assumption | exact va_up_self _ _ _)))))) (by rfl) ?_
    refine mx_icmp_geY 61 (mx_d D_R_sumAt 7 rfl) (by decide) (by omega) (by omega) (by omega) (by omega) (by omega) ?_
    refine mx_iload_n (k4 := 3) (mx_d D_R_sumAt 35 rfl) (by rfl) ?_
    refine mx_iret (by rfl) (mx_d D_R_sumAt 36 rfl) ?_
    exact q
  | succ k ih =>
    intro i hi
    have b1 := hr i (by omega)
    have b2 := h5 (rn i) (by omega)
    have b3 := h6 (rn i) (by omega)
    refine mx_iload (i := 4) (mx_d D_R_sumAt 4 rfl) (by rfl) ?_
    refine mx_aload_n (k4 := 0) (mx_d D_R_sumAt 5 rfl) (by rfl) ?_
    refine mx_getf hG (idx := 18) (ci := 4) (kf := 2) (mx_d D_R_sumAt 6 rfl) (by rfl) cls_R (by decide) w_105 (by first | assumption | omega) (by first | assumption | exact va_up_self _ _ _ | (rw [va_up_ne _ _ (by omega)]; first | assumption | exact va_up_self _ _ _ | (rw [va_up_ne _ _ (by omega)]; first | assumption | exact va_up_self _ _ _ | (rw [va_up_ne _ _ (by omega)]; first | assumption | exact va_up_self _ _ _ | (rw [va_up_ne _ _ (by omega)]; first | assumption | exact va_up_self _ _ _ | (rw [va_up_ne _ _ (by omega)]; first | assumption | exact va_up_self _ _ _)))))) (by rfl) ?_
    refine mx_icmp_geN 61 (mx_d D_R_sumAt 7 rfl) (by decide) (by omega) (by omega) (by omega) (by omega) (by omega) ?_
    refine mx_aload_n (k4 := 2) (mx_d D_R_sumAt 8 rfl) (by rfl) ?_
    refine mx_aload_n (k4 := 0) (mx_d D_R_sumAt 9 rfl) (by rfl) ?_
    refine mx_getf hG (idx := 9) (ci := 4) (kf := 0) (mx_d D_R_sumAt 10 rfl) (by rfl) cls_R (by decide) w_103 (by first | assumption | omega) (by first | assumption | exact va_up_self _ _ _ | (rw [va_up_ne _ _ (by omega)]; first | assumption | exact va_up_self _ _ _ | (rw [va_up_ne _ _ (by omega)]; first | assumption | exact va_up_self _ _ _ | (rw [va_up_ne _ _ (by omega)]; first | assumption | exact va_up_self _ _ _ | (rw [va_up_ne _ _ (by omega)]; first | assumption | exact va_up_self _ _ _ | (rw [va_up_ne _ _ (by omega)]; first | assumption | exact va_up_self _ _ _)))))) (by rfl) ?_
    refine mx_iload (i := 4) (mx_d D_R_sumAt 11 rfl) (by rfl) ?_
    refine mx_ialdI hG _ (mx_d D_R_sumAt 12 rfl) (by first | assumption | omega) (by first | assumption | exact va_up_self _ _ _ | (rw [va_up_ne _ _ (by omega)]; first | assumption | exact va_up_self _ _ _ | (rw [va_up_ne _ _ (by omega)]; first | assumption | exact va_up_self _ _ _ | (rw [va_up_ne _ _ (by omega)]; first | assumption | exact va_up_self _ _ _ | (rw [va_up_ne _ _ (by omega)]; first | assumption | exact va_up_self _ _ _ | (rw [va_up_ne _ _ (by omega)]; first | assumption | exact va_up_self _ _ _)))))) (by rfl) (by omega) (by omega) ?_
    refine mx_aald hG 4 (rn i) (mx_d D_R_sumAt 13 rfl) (by first | assumption | omega) (by first | assumption | exact va_up_self _ _ _ | (rw [va_up_ne _ _ (by omega)]; first | assumption | exact va_up_self _ _ _ | (rw [va_up_ne _ _ (by omega)]; first | assumption | exact va_up_self _ _ _ | (rw [va_up_ne _ _ (by omega)]; first | assumption | exact va_up_self _ _ _ | (rw [va_up_ne _ _ (by omega)]; first | assumption | exact va_up_self _ _ _ | (rw [va_up_ne _ _ (by omega)]; first | assumption | exact va_up_self _ _ _)))))) (by rfl) (by rfl) (by rfl) (by omega) (by omega) (show _ = some (mx_B G + (15 + 2 * rn i)) by exact if_pos (by omega)) ?_
    refine mx_getf hG (idx := 22) (ci := 2) (kf := 0) (mx_d D_R_sumAt 14 rfl) (by rfl) cls_D (by decide) w_62 (by first | assumption | omega) (by first | assumption | exact va_up_self _ _ _ | (rw [va_up_ne _ _ (by omega)]; first | assumption | exact va_up_self _ _ _ | (rw [va_up_ne _ _ (by omega)]; first | assumption | exact va_up_self _ _ _ | (rw [va_up_ne _ _ (by omega)]; first | assumption | exact va_up_self _ _ _ | (rw [va_up_ne _ _ (by omega)]; first | assumption | exact va_up_self _ _ _ | (rw [va_up_ne _ _ (by omega)]; first | assumption | exact va_up_self _ _ _)))))) (by rfl) ?_
    refine mx_astore (i := 5) (mx_d D_R_sumAt 15 rfl) (by decide) ?_
    refine mx_iload_n (k4 := 1) (mx_d D_R_sumAt 16 rfl) (by rfl) ?_
    refine mx_aload_n (k4 := 0) (mx_d D_R_sumAt 17 rfl) (by rfl) ?_
    refine mx_getf hG (idx := 15) (ci := 4) (kf := 1) (mx_d D_R_sumAt 18 rfl) (by rfl) cls_R (by decide) w_104 (by first | assumption | omega) (by first | assumption | exact va_up_self _ _ _ | (rw [va_up_ne _ _ (by omega)]; first | assumption | exact va_up_self _ _ _ | (rw [va_up_ne _ _ (by omega)]; first | assumption | exact va_up_self _ _ _ | (rw [va_up_ne _ _ (by omega)]; first | assumption | exact va_up_self _ _ _ | (rw [va_up_ne _ _ (by omega)]; first | assumption | exact va_up_self _ _ _ | (rw [va_up_ne _ _ (by omega)]; first | assumption | exact va_up_self _ _ _)))))) (by rfl) ?_
    refine mx_iload (i := 4) (mx_d D_R_sumAt 19 rfl) (by rfl) ?_
    refine mx_ialdI hG _ (mx_d D_R_sumAt 20 rfl) (by first | assumption | omega) (by first | assumption | exact va_up_self _ _ _ | (rw [va_up_ne _ _ (by omega)]; first | assumption | exact va_up_self _ _ _ | (rw [va_up_ne _ _ (by omega)]; first | assumption | exact va_up_self _ _ _ | (rw [va_up_ne _ _ (by omega)]; first | assumption | exact va_up_self _ _ _ | (rw [va_up_ne _ _ (by omega)]; first | assumption | exact va_up_self _ _ _ | (rw [va_up_ne _ _ (by omega)]; first | assumption | exact va_up_self _ _ _)))))) (by rfl) (by omega) (by omega) ?_
    refine mx_iaddI (mx_d D_R_sumAt 21 rfl) ?_
    refine mx_istore (i := 6) (mx_d D_R_sumAt 22 rfl) (by decide) ?_
    refine mx_iload (i := 6) (mx_d D_R_sumAt 23 rfl) (by rfl) ?_
    refine mx_aload (i := 5) (mx_d D_R_sumAt 24 rfl) (by rfl) ?_
    refine mx_alen hG 0 (mx_d D_R_sumAt 25 rfl) (by first | assumption | omega) (by first | assumption | exact va_up_self _ _ _ | (rw [va_up_ne _ _ (by omega)]; first | assumption | exact va_up_self _ _ _ | (rw [va_up_ne _ _ (by omega)]; first | assumption | exact va_up_self _ _ _ | (rw [va_up_ne _ _ (by omega)]; first | assumption | exact va_up_self _ _ _ | (rw [va_up_ne _ _ (by omega)]; first | assumption | exact va_up_self _ _ _ | (rw [va_up_ne _ _ (by omega)]; first | assumption | exact va_up_self _ _ _)))))) (by rfl) ?_
    by_cases hc : y + rg i < Y
    · refine mx_icmp_geN 55 (mx_d D_R_sumAt 26 rfl) (by decide) (by omega) (by omega) (by omega) (by omega) (by omega) ?_
      refine mx_iload_n (k4 := 3) (mx_d D_R_sumAt 27 rfl) (by rfl) ?_
      refine mx_aload (i := 5) (mx_d D_R_sumAt 28 rfl) (by rfl) ?_
      refine mx_iload (i := 6) (mx_d D_R_sumAt 29 rfl) (by rfl) ?_
      refine mx_ialdI hG (y + rg i) (mx_d D_R_sumAt 30 rfl) (by first | assumption | omega) (by first | assumption | exact va_up_self _ _ _ | (rw [va_up_ne _ _ (by omega)]; first | assumption | exact va_up_self _ _ _ | (rw [va_up_ne _ _ (by omega)]; first | assumption | exact va_up_self _ _ _ | (rw [va_up_ne _ _ (by omega)]; first | assumption | exact va_up_self _ _ _ | (rw [va_up_ne _ _ (by omega)]; first | assumption | exact va_up_self _ _ _ | (rw [va_up_ne _ _ (by omega)]; first | assumption | exact va_up_self _ _ _)))))) (by rfl) (by omega) (by omega) ?_
      refine mx_iaddI (mx_d D_R_sumAt 31 rfl) ?_
      refine mx_istore_n (k4 := 3) (mx_d D_R_sumAt 32 rfl) (by decide) ?_
      refine mx_iincI (i := 4) (n := 1) (mx_d D_R_sumAt 33 rfl) (by rfl) (by decide) ?_
      refine mx_goto 5 (mx_d D_R_sumAt 34 rfl) (by decide) ?_
      refine mx_loc ?_ (ih (i + 1) (by omega))
      simp only [slTo, if_pos hc]
      rfl
    · refine mx_icmp_geY 55 (mx_d D_R_sumAt 26 rfl) (by decide) (by omega) (by omega) (by omega) (by omega) (by omega) ?_
      refine mx_iincI (i := 4) (n := 1) (mx_d D_R_sumAt 33 rfl) (by rfl) (by decide) ?_
      refine mx_goto 5 (mx_d D_R_sumAt 34 rfl) (by decide) ?_
      refine mx_loc ?_ (ih (i + 1) (by omega))
      simp only [slTo, if_neg hc, Int.add_zero]
      rfl
end DR
/-! Pad: four signs in an int -/
def sg (x : Int32) (k : Nat) : Int := (((x.toUInt32 >>> ((iI ((8 * k : Nat) : Int)).toUInt32 &&& Int32.toUInt32 31)).toInt32) &&& iI 255).toInt
theorem sg_lo (x : Int32) (k : Nat) : -2147483648 ≤ sg x k := i32_lo _
theorem sg_hi (x : Int32) (k : Nat) : sg x k < 2147483648 := i32_hi _
def sgOk (x : Int32) : Nat → Bool
  | 0 => true
  | n + 1 => sgOk x n && (decide (sg x n = 0) || (decide (32 ≤ sg x n) && decide (sg x n ≤ 126)))
def sgN (x : Int32) : Nat → Nat
  | 0 => 0
  | n + 1 => sgN x n + (if sg x n = 0 then 0 else 1)
def sgP (x : Int32) (ps : Nat → Int) (m : Nat) : Nat → (Nat → Int)
  | 0 => ps
  | n + 1 => if sg x n = 0 then sgP x ps m n else va_up (sgP x ps m n) (m + sgN x n) (sg x n)
theorem sgOk_mono {x : Int32} {i n : Nat} (h : i ≤ n) (hf : sgOk x i = false) : sgOk x n = false := by
  induction n with
  | zero => obtain rfl : i = 0 := by omega
            exact hf
  | succ n ih =>
    by_cases hi : i = n + 1
    · subst hi; exact hf
    · simp only [sgOk, ih (by omega), Bool.false_and]
theorem sgN_le (x : Int32) (n : Nat) : sgN x n ≤ n := by
  induction n with
  | zero => simp [sgN]
  | succ n ih => simp only [sgN]; split <;> omega
theorem sgN_mono (x : Int32) {i n : Nat} (h : i ≤ n) : sgN x i ≤ sgN x n := by
  induction n with
  | zero => obtain rfl : i = 0 := by omega
            exact Nat.le_refl _
  | succ n ih =>
    by_cases hi : i = n + 1
    · subst hi; exact Nat.le_refl _
    · simp only [sgN]; have := ih (by omega); omega
section PA
variable {G : mx_G} {d bc bs : Nat} {ex : Bool} {N : Nat} {ce : Nat → va_E} {Q : mx_P} {o a n : Nat} {ps : Nat → Int} {x : Int32}
theorem c_P_init (hG : mx_ok G) (ho : o < N) (h1 : ce o = .inr (5, [.null, .int 0]))
    (q : ∀ ce', (∀ k, k ≠ o → k < N → ce' k = ce k) → ce' o = .inr (5, [.ref (mx_B G + N), .int (iI 0)]) → ce' N = aI G 100 (fun _ => 0) → Q (.inl none) (N + 1) ce' bc bs) : mx_M G Y_P_init d (bc + 1) (bs + 100) true N ce 0 [(0, .ref (mx_B G + o))] [] Q := by
  refine mx_aload_n (k4 := 0) (mx_d D_P_init 0 rfl) (by rfl) ?_
  refine mx_objInit (mx_d D_P_init 1 rfl) w_119 w_23 w_objcode (by exact Nat.le_of_ble_eq_true rfl) ?_
  refine mx_aload_n (k4 := 0) (mx_d D_P_init 2 rfl) (by rfl) ?_
  refine mx_bipush (n := 100) (mx_d D_P_init 3 rfl) (by decide) ?_
  refine mx_newaI hG (mx_d D_P_init 4 rfl) (by rfl) (by omega) ?_
  refine mx_putf hG (idx := 9) (ci := 5) (kf := 0) (t := (.array .int)) (mx_d D_P_init 5 rfl) (by rfl) cls_P (by decide) (Or.inr ⟨rfl, rfl, rfl⟩) w_120 (by first | assumption | omega) (by first | assumption | exact va_up_self _ _ _ | (rw [va_up_ne _ _ (by omega)]; first | assumption | exact va_up_self _ _ _ | (rw [va_up_ne _ _ (by omega)]; first | assumption | exact va_up_self _ _ _ | (rw [va_up_ne _ _ (by omega)]; first | assumption | exact va_up_self _ _ _ | (rw [va_up_ne _ _ (by omega)]; first | assumption | exact va_up_self _ _ _ | (rw [va_up_ne _ _ (by omega)]; first | assumption | exact va_up_self _ _ _)))))) (by exact Nat.le_of_ble_eq_true rfl) (by decide +kernel) (by rfl) (by rfl) ?_
  refine mx_vret (by rfl) (mx_d D_P_init 6 rfl) ?_
  refine q _ (fun k h1 h2 => ?_) (va_up_self _ _ _) ?_
  · rw [va_up_ne _ _ h1, va_up_ne _ _ (by omega)]
  · rw [va_up_ne _ _ (by omega), va_up_self]
theorem c_P_signAt {k : Nat} (q : Q (.inl (some (.int (iI (sg x k))))) N ce bc bs) : mx_M G Y_P_signAt d bc bs ex N ce 0 [(0, .int x), (1, .int (iI ((8 * k : Nat) : Int)))] [] Q := by
  refine mx_iload_n (k4 := 0) (mx_d D_P_signAt 0 rfl) (by rfl) ?_
  refine mx_iload_n (k4 := 1) (mx_d D_P_signAt 1 rfl) (by rfl) ?_
  refine mx_iushr (mx_d D_P_signAt 2 rfl) ?_
  refine mx_sipush (n := 255) (mx_d D_P_signAt 3 rfl) (by decide) ?_
  refine mx_iand (mx_d D_P_signAt 4 rfl) ?_
  refine mx_iret (by rfl) (mx_d D_P_signAt 5 rfl) ?_
  rw [sg, ← iI_of] at q
  exact q
theorem c_P_holds (q : Q (.inl (some (.int (iI (bI (sgOk x 4)))))) N ce bc bs) : mx_M G Y_P_holdsSignsAlone (d + 1) bc bs ex N ce 0 [(0, .int x)] [] Q := by
  refine mx_iconst (n := 0) (mx_d D_P_holdsSignsAlone 0 rfl) ?_
  refine mx_istore_n (k4 := 1) (mx_d D_P_holdsSignsAlone 1 rfl) (by decide) ?_
  suffices H : ∀ k i : Nat, i + k = 4 → sgOk x i = true → mx_M G Y_P_holdsSignsAlone (d + 1) bc bs ex N ce 2 [(0, .int x), (1, .int (iI ((8 * i : Nat) : Int)))] [] Q from mx_loc (by rfl) (H 4 0 (by omega) rfl)
  intro k
  induction k with
  | zero =>
    intro i hi hs
    obtain rfl : i = 4 := by omega
    refine mx_iload_n (k4 := 1) (mx_d D_P_holdsSignsAlone 2 rfl) (by rfl) ?_
    refine mx_bipush (n := 32) (mx_d D_P_holdsSignsAlone 3 rfl) (by decide) ?_
    refine mx_icmp_geY 38 (mx_d D_P_holdsSignsAlone 4 rfl) (by decide) (by omega) (by omega) (by omega) (by omega) (by omega) ?_
    refine mx_iconst (n := 1) (mx_d D_P_holdsSignsAlone 21 rfl) ?_
    refine mx_zret (by rfl) (mx_d D_P_holdsSignsAlone 22 rfl) (by first | rfl | assumption) ?_
    rw [hs] at q
    exact q
  | succ k ih =>
    intro i hi hs
    have b1 := sg_lo x i
    have b2 := sg_hi x i
    refine mx_iload_n (k4 := 1) (mx_d D_P_holdsSignsAlone 2 rfl) (by rfl) ?_
    refine mx_bipush (n := 32) (mx_d D_P_holdsSignsAlone 3 rfl) (by decide) ?_
    refine mx_icmp_geN 38 (mx_d D_P_holdsSignsAlone 4 rfl) (by decide) (by omega) (by omega) (by omega) (by omega) (by omega) ?_
    refine mx_iload_n (k4 := 0) (mx_d D_P_holdsSignsAlone 5 rfl) (by rfl) ?_
    refine mx_iload_n (k4 := 1) (mx_d D_P_holdsSignsAlone 6 rfl) (by rfl) ?_
    refine mx_callS (Y' := Y_P_signAt) [_, _] (mx_d D_P_holdsSignsAlone 7 rfl) in_P_signAt w_554 w_555 np_P_signAt (by exact Nat.le_of_ble_eq_true rfl) (by rfl) (by rfl) (by exact Nat.le_of_ble_eq_true rfl) (c_P_signAt ?_)
    refine mx_istore_n (k4 := 2) (mx_d D_P_holdsSignsAlone 8 rfl) (by decide) ?_
    refine mx_iload_n (k4 := 2) (mx_d D_P_holdsSignsAlone 9 rfl) (by rfl) ?_
    have fin : sgOk x (i + 1) = true → mx_M G Y_P_holdsSignsAlone (d + 1) bc bs ex N ce 32 [(0, .int x), (1, .int (iI ((8 * i : Nat) : Int))), (2, .int (iI (sg x i)))] [] Q := by
      intro hs1
      refine mx_iincI (i := 1) (n := 8) (mx_d D_P_holdsSignsAlone 19 rfl) (by rfl) (by decide) ?_
      refine mx_goto 2 (mx_d D_P_holdsSignsAlone 20 rfl) (by decide) ?_
      refine mx_loc ?_ (ih (i + 1) (by omega) hs1)
      rw [show ((8 * (i + 1) : Nat) : Int) = ((8 * i : Nat) : Int) + 8 from by omega]
      rfl
    have bad : ¬ sg x i = 0 → (sg x i < 32 ∨ 126 < sg x i) → mx_M G Y_P_holdsSignsAlone (d + 1) bc bs ex N ce 30 [(0, .int x), (1, .int (iI ((8 * i : Nat) : Int))), (2, .int (iI (sg x i)))] [] Q := by
      intro z1 z2
      refine mx_iconst (n := 0) (mx_d D_P_holdsSignsAlone 17 rfl) ?_
      refine mx_zret (by rfl) (mx_d D_P_holdsSignsAlone 18 rfl) (by first | rfl | assumption) ?_
      have : sgOk x (i + 1) = false := by
        simp only [sgOk, hs, Bool.true_and, Bool.or_eq_false_iff, Bool.and_eq_false_iff, decide_eq_false_iff_not]
        omega
      rw [sgOk_mono (by omega : i + 1 ≤ 4) this] at q
      exact q
    refine mx_if_eqI 32 (mx_d D_P_holdsSignsAlone 10 rfl) (by decide) (by omega) (by omega) (fun hb => ?_) (fun hb => ?_)
    · refine mx_loc (by rfl) (fin ?_)
      simp only [sgOk, hs, Bool.true_and, hb, decide_true, Bool.true_or]
    · have hz := hb
      refine mx_iload_n (k4 := 2) (mx_d D_P_holdsSignsAlone 11 rfl) (by rfl) ?_
      refine mx_bipush (n := 32) (mx_d D_P_holdsSignsAlone 12 rfl) (by decide) ?_
      refine mx_icmp_ltI 30 (mx_d D_P_holdsSignsAlone 13 rfl) (by decide) (by omega) (by omega) (by omega) (by omega) (fun hb => ?_) (fun hb => ?_)
      · exact mx_loc (by rfl) (bad hz (Or.inl hb))
      · refine mx_iload_n (k4 := 2) (mx_d D_P_holdsSignsAlone 14 rfl) (by rfl) ?_
        refine mx_bipush (n := 126) (mx_d D_P_holdsSignsAlone 15 rfl) (by decide) ?_
        have hy := hb
        refine mx_icmp_leI 32 (mx_d D_P_holdsSignsAlone 16 rfl) (by decide) (by omega) (by omega) (by omega) (by omega) (fun hb => ?_) (fun hb => ?_)
        · refine mx_loc (by rfl) (fin ?_)
          simp only [sgOk, hs, Bool.true_and, Bool.or_eq_true, Bool.and_eq_true, decide_eq_true_eq]
          omega
        · exact mx_loc (by rfl) (bad hz (Or.inr (by omega)))
theorem c_P_signsIn (q : Q (.inl (some (.int (iI (sgN x 4))))) N ce bc bs) : mx_M G Y_P_signsIn (d + 1) bc bs ex N ce 0 [(0, .int x)] [] Q := by
  refine mx_iconst (n := 0) (mx_d D_P_signsIn 0 rfl) ?_
  refine mx_istore_n (k4 := 1) (mx_d D_P_signsIn 1 rfl) (by decide) ?_
  refine mx_iconst (n := 0) (mx_d D_P_signsIn 2 rfl) ?_
  refine mx_istore_n (k4 := 2) (mx_d D_P_signsIn 3 rfl) (by decide) ?_
  suffices H : ∀ k i : Nat, i + k = 4 → mx_M G Y_P_signsIn (d + 1) bc bs ex N ce 4 [(0, .int x), (1, .int (iI (sgN x i))), (2, .int (iI ((8 * i : Nat) : Int)))] [] Q from mx_loc (by rfl) (H 4 0 (by omega))
  intro k
  induction k with
  | zero =>
    intro i hi
    obtain rfl : i = 4 := by omega
    refine mx_iload_n (k4 := 2) (mx_d D_P_signsIn 4 rfl) (by rfl) ?_
    refine mx_bipush (n := 32) (mx_d D_P_signsIn 5 rfl) (by decide) ?_
    refine mx_icmp_geY 27 (mx_d D_P_signsIn 6 rfl) (by decide) (by omega) (by omega) (by omega) (by omega) (by omega) ?_
    refine mx_iload_n (k4 := 1) (mx_d D_P_signsIn 14 rfl) (by rfl) ?_
    refine mx_iret (by rfl) (mx_d D_P_signsIn 15 rfl) ?_
    exact q
  | succ k ih =>
    intro i hi
    have b1 := sg_lo x i
    have b2 := sg_hi x i
    refine mx_iload_n (k4 := 2) (mx_d D_P_signsIn 4 rfl) (by rfl) ?_
    refine mx_bipush (n := 32) (mx_d D_P_signsIn 5 rfl) (by decide) ?_
    refine mx_icmp_geN 27 (mx_d D_P_signsIn 6 rfl) (by decide) (by omega) (by omega) (by omega) (by omega) (by omega) ?_
    refine mx_iload_n (k4 := 0) (mx_d D_P_signsIn 7 rfl) (by rfl) ?_
    refine mx_iload_n (k4 := 2) (mx_d D_P_signsIn 8 rfl) (by rfl) ?_
    refine mx_callS (Y' := Y_P_signAt) [_, _] (mx_d D_P_signsIn 9 rfl) in_P_signAt w_554 w_555 np_P_signAt (by exact Nat.le_of_ble_eq_true rfl) (by rfl) (by rfl) (by exact Nat.le_of_ble_eq_true rfl) (c_P_signAt ?_)
    have e8 : ((8 * (i + 1) : Nat) : Int) = ((8 * i : Nat) : Int) + 8 := by omega
    refine mx_if_eqI 21 (mx_d D_P_signsIn 10 rfl) (by decide) (by omega) (by omega) (fun hb => ?_) (fun hb => ?_)
    · refine mx_iincI (i := 2) (n := 8) (mx_d D_P_signsIn 12 rfl) (by rfl) (by decide) ?_
      refine mx_goto 4 (mx_d D_P_signsIn 13 rfl) (by decide) ?_
      refine mx_loc ?_ (ih (i + 1) (by omega))
      rw [e8]
      simp only [sgN, if_pos hb, Nat.add_zero]
      rfl
    · refine mx_iincI (i := 1) (n := 1) (mx_d D_P_signsIn 11 rfl) (by rfl) (by decide) ?_
      refine mx_iincI (i := 2) (n := 8) (mx_d D_P_signsIn 12 rfl) (by rfl) (by decide) ?_
      refine mx_goto 4 (mx_d D_P_signsIn 13 rfl) (by decide) ?_
      refine mx_loc ?_ (ih (i + 1) (by omega))
      rw [e8]
      simp only [sgN, if_neg hb]
      rfl
theorem c_P_append (hG : mx_ok G) (ho : o < N) (ha : a < N) (e1 : o ≠ a) (h1 : ce o = .inr (5, [.ref (mx_B G + a), .int (iI n)])) (h2 : ce a = aI G 100 ps) (hn : n + sgN x 4 ≤ 100)
    (q : Q (.inl none) N (va_up (va_up ce a (aI G 100 (sgP x ps n 4))) o (.inr (5, [.ref (mx_B G + a), .int (iI ((n + sgN x 4 : Nat) : Int))]))) bc bs) : mx_M G Y_P_append (d + 1) bc bs ex N ce 0 [(0, .ref (mx_B G + o)), (1, .int x)] [] Q := by
  refine mx_iconst (n := 0) (mx_d D_P_append 0 rfl) ?_
  refine mx_istore_n (k4 := 2) (mx_d D_P_append 1 rfl) (by decide) ?_
  suffices H : ∀ k i : Nat, i + k = 4 → mx_M G Y_P_append (d + 1) bc bs ex N (va_up (va_up ce a (aI G 100 (sgP x ps n i))) o (.inr (5, [.ref (mx_B G + a), .int (iI ((n + sgN x i : Nat) : Int))]))) 2 [(0, .ref (mx_B G + o)), (1, .int x), (2, .int (iI ((8 * i : Nat) : Int)))] [] Q by
    have H0 := H 4 0 (by omega)
    have e : va_up (va_up ce a (aI G 100 (sgP x ps n 0))) o (.inr (5, [.ref (mx_B G + a), .int (iI ((n + sgN x 0 : Nat) : Int))])) = ce := by
      rw [show sgP x ps n 0 = ps from rfl, show n + sgN x 0 = n from rfl, va_up_id ce a h2, va_up_id ce o h1]
    rw [e] at H0
    exact mx_loc (by rfl) H0
  intro k
  induction k with
  | zero =>
    intro i hi
    obtain rfl : i = 4 := by omega
    refine mx_iload_n (k4 := 2) (mx_d D_P_append 2 rfl) (by rfl) ?_
    refine mx_bipush (n := 32) (mx_d D_P_append 3 rfl) (by decide) ?_
    refine mx_icmp_geY 56 (mx_d D_P_append 4 rfl) (by decide) (by omega) (by omega) (by omega) (by omega) (by omega) ?_
    refine mx_vret (by rfl) (mx_d D_P_append 31 rfl) ?_
    exact q
  | succ k ih =>
    intro i hi
    have b1 := sg_lo x i
    have b2 := sg_hi x i
    have b3 := sgN_mono x (show i + 1 ≤ 4 by omega)
    have e8 : ((8 * (i + 1) : Nat) : Int) = ((8 * i : Nat) : Int) + 8 := by omega
    refine mx_iload_n (k4 := 2) (mx_d D_P_append 2 rfl) (by rfl) ?_
    refine mx_bipush (n := 32) (mx_d D_P_append 3 rfl) (by decide) ?_
    refine mx_icmp_geN 56 (mx_d D_P_append 4 rfl) (by decide) (by omega) (by omega) (by omega) (by omega) (by omega) ?_
    refine mx_iload_n (k4 := 1) (mx_d D_P_append 5 rfl) (by rfl) ?_
    refine mx_iload_n (k4 := 2) (mx_d D_P_append 6 rfl) (by rfl) ?_
    refine mx_callS (Y' := Y_P_signAt) [_, _] (mx_d D_P_append 7 rfl) in_P_signAt w_554 w_555 np_P_signAt (by exact Nat.le_of_ble_eq_true rfl) (by rfl) (by rfl) (by exact Nat.le_of_ble_eq_true rfl) (c_P_signAt ?_)
    refine mx_istore_n (k4 := 3) (mx_d D_P_append 8 rfl) (by decide) ?_
    refine mx_iload_n (k4 := 3) (mx_d D_P_append 9 rfl) (by rfl) ?_
    refine mx_if_eqI 50 (mx_d D_P_append 10 rfl) (by decide) (by omega) (by omega) (fun hb => ?_) (fun hb => ?_)
    · refine mx_iincI (i := 2) (n := 8) (mx_d D_P_append 29 rfl) (by rfl) (by decide) ?_
      refine mx_goto 2 (mx_d D_P_append 30 rfl) (by decide) ?_
      refine mx_loc ?_ (mx_ce ?_ (ih (i + 1) (by omega)))
      · rw [e8]; rfl
      · simp only [sgN, sgP, if_pos hb, Nat.add_zero]
    · have b4 : n + sgN x i < 100 := by have e0 : sgN x (i + 1) = sgN x i + 1 := by { simp only [sgN, if_neg hb] }; omega
      refine mx_aload_n (k4 := 0) (mx_d D_P_append 11 rfl) (by rfl) ?_
      refine mx_getf hG (idx := 19) (ci := 5) (kf := 1) (mx_d D_P_append 12 rfl) (by rfl) cls_P (by decide) w_123 (by first | assumption | omega) (by first | assumption | exact va_up_self _ _ _ | (rw [va_up_ne _ _ (by omega)]; first | assumption | exact va_up_self _ _ _ | (rw [va_up_ne _ _ (by omega)]; first | assumption | exact va_up_self _ _ _ | (rw [va_up_ne _ _ (by omega)]; first | assumption | exact va_up_self _ _ _ | (rw [va_up_ne _ _ (by omega)]; first | assumption | exact va_up_self _ _ _ | (rw [va_up_ne _ _ (by omega)]; first | assumption | exact va_up_self _ _ _)))))) (by rfl) ?_
      refine mx_aload_n (k4 := 0) (mx_d D_P_append 13 rfl) (by rfl) ?_
      refine mx_getf hG (idx := 9) (ci := 5) (kf := 0) (mx_d D_P_append 14 rfl) (by rfl) cls_P (by decide) w_120 (by first | assumption | omega) (by first | assumption | exact va_up_self _ _ _ | (rw [va_up_ne _ _ (by omega)]; first | assumption | exact va_up_self _ _ _ | (rw [va_up_ne _ _ (by omega)]; first | assumption | exact va_up_self _ _ _ | (rw [va_up_ne _ _ (by omega)]; first | assumption | exact va_up_self _ _ _ | (rw [va_up_ne _ _ (by omega)]; first | assumption | exact va_up_self _ _ _ | (rw [va_up_ne _ _ (by omega)]; first | assumption | exact va_up_self _ _ _)))))) (by rfl) ?_
      refine mx_alen hG 0 (mx_d D_P_append 15 rfl) (by first | assumption | omega) (by first | assumption | exact va_up_self _ _ _ | (rw [va_up_ne _ _ (by omega)]; first | assumption | exact va_up_self _ _ _ | (rw [va_up_ne _ _ (by omega)]; first | assumption | exact va_up_self _ _ _ | (rw [va_up_ne _ _ (by omega)]; first | assumption | exact va_up_self _ _ _ | (rw [va_up_ne _ _ (by omega)]; first | assumption | exact va_up_self _ _ _ | (rw [va_up_ne _ _ (by omega)]; first | assumption | exact va_up_self _ _ _)))))) (by rfl) ?_
      refine mx_icmp_geN 50 (mx_d D_P_append 16 rfl) (by decide) (by omega) (by omega) (by omega) (by omega) (by omega) ?_
      refine mx_aload_n (k4 := 0) (mx_d D_P_append 17 rfl) (by rfl) ?_
      refine mx_getf hG (idx := 9) (ci := 5) (kf := 0) (mx_d D_P_append 18 rfl) (by rfl) cls_P (by decide) w_120 (by first | assumption | omega) (by first | assumption | exact va_up_self _ _ _ | (rw [va_up_ne _ _ (by omega)]; first | assumption | exact va_up_self _ _ _ | (rw [va_up_ne _ _ (by omega)]; first | assumption | exact va_up_self _ _ _ | (rw [va_up_ne _ _ (by omega)]; first | assumption | exact va_up_self _ _ _ | (rw [va_up_ne _ _ (by omega)]; first | assumption | exact va_up_self _ _ _ | (rw [va_up_ne _ _ (by omega)]; first | assumption | exact va_up_self _ _ _)))))) (by rfl) ?_
      refine mx_aload_n (k4 := 0) (mx_d D_P_append 19 rfl) (by rfl) ?_
      refine mx_getf hG (idx := 19) (ci := 5) (kf := 1) (mx_d D_P_append 20 rfl) (by rfl) cls_P (by decide) w_123 (by first | assumption | omega) (by first | assumption | exact va_up_self _ _ _ | (rw [va_up_ne _ _ (by omega)]; first | assumption | exact va_up_self _ _ _ | (rw [va_up_ne _ _ (by omega)]; first | assumption | exact va_up_self _ _ _ | (rw [va_up_ne _ _ (by omega)]; first | assumption | exact va_up_self _ _ _ | (rw [va_up_ne _ _ (by omega)]; first | assumption | exact va_up_self _ _ _ | (rw [va_up_ne _ _ (by omega)]; first | assumption | exact va_up_self _ _ _)))))) (by rfl) ?_
      refine mx_iload_n (k4 := 3) (mx_d D_P_append 21 rfl) (by rfl) ?_
      refine mx_iastI hG _ _ (mx_d D_P_append 22 rfl) (by first | assumption | omega) (by first | assumption | exact va_up_self _ _ _ | (rw [va_up_ne _ _ (by omega)]; first | assumption | exact va_up_self _ _ _ | (rw [va_up_ne _ _ (by omega)]; first | assumption | exact va_up_self _ _ _ | (rw [va_up_ne _ _ (by omega)]; first | assumption | exact va_up_self _ _ _ | (rw [va_up_ne _ _ (by omega)]; first | assumption | exact va_up_self _ _ _ | (rw [va_up_ne _ _ (by omega)]; first | assumption | exact va_up_self _ _ _)))))) (by rfl) (by rfl) (by omega) (by omega) ?_
      refine mx_aload_n (k4 := 0) (mx_d D_P_append 23 rfl) (by rfl) ?_
      refine mx_dup (mx_d D_P_append 24 rfl) (by rfl) ?_
      refine mx_getf hG (idx := 19) (ci := 5) (kf := 1) (mx_d D_P_append 25 rfl) (by rfl) cls_P (by decide) w_123 (by first | assumption | omega) (by first | assumption | exact va_up_self _ _ _ | (rw [va_up_ne _ _ (by omega)]; first | assumption | exact va_up_self _ _ _ | (rw [va_up_ne _ _ (by omega)]; first | assumption | exact va_up_self _ _ _ | (rw [va_up_ne _ _ (by omega)]; first | assumption | exact va_up_self _ _ _ | (rw [va_up_ne _ _ (by omega)]; first | assumption | exact va_up_self _ _ _ | (rw [va_up_ne _ _ (by omega)]; first | assumption | exact va_up_self _ _ _)))))) (by rfl) ?_
      refine mx_iconst (n := 1) (mx_d D_P_append 26 rfl) ?_
      refine mx_iaddI (mx_d D_P_append 27 rfl) ?_
      refine mx_putf hG (idx := 19) (ci := 5) (kf := 1) (t := (.int)) (mx_d D_P_append 28 rfl) (by rfl) cls_P (by decide) (Or.inl rfl) w_123 (by first | assumption | omega) (by first | assumption | exact va_up_self _ _ _ | (rw [va_up_ne _ _ (by omega)]; first | assumption | exact va_up_self _ _ _ | (rw [va_up_ne _ _ (by omega)]; first | assumption | exact va_up_self _ _ _ | (rw [va_up_ne _ _ (by omega)]; first | assumption | exact va_up_self _ _ _ | (rw [va_up_ne _ _ (by omega)]; first | assumption | exact va_up_self _ _ _ | (rw [va_up_ne _ _ (by omega)]; first | assumption | exact va_up_self _ _ _)))))) (by exact Nat.le_of_ble_eq_true rfl) (by decide +kernel) (by rfl) (by rfl) ?_
      refine mx_iincI (i := 2) (n := 8) (mx_d D_P_append 29 rfl) (by rfl) (by decide) ?_
      refine mx_goto 2 (mx_d D_P_append 30 rfl) (by decide) ?_
      refine mx_loc ?_ (mx_ce ?_ (ih (i + 1) (by omega)))
      · rw [e8]; rfl
      · simp only [sgN, sgP, if_neg hb]
        funext j
        by_cases j1 : j = o
        · subst j1; rw [va_up_self, va_up_self]; rfl
        · rw [va_up_ne _ _ j1, va_up_ne _ _ j1]
          by_cases j2 : j = a
          · subst j2; rw [va_up_self, va_up_self]
          · rw [va_up_ne _ _ j2, va_up_ne _ _ j1, va_up_ne _ _ j2, va_up_ne _ _ j2]
end PA
end
section
/-! TextReader -/
def rdOk (Y : Nat) (k : Nat) (v : Int) : Bool := if k = 1 then decide (v ≤ 3000) else if k = 2 then (decide (1 ≤ v) && decide (v ≤ 100)) else decide (v < (Y : Int))
def rdSep (k : Nat) : Int := if k = 1 then 43 else if k = 2 then 59 else 58
def rdNum (b : Bool) (u z : Int) : Int := if b = true then 10 * u + z else z
def rdStep (Y : Nat) (x : Int) (c : Nat) (b : Bool) (t : Nat → Int) : Option (Nat × Bool × (Nat → Int)) :=
  if 48 ≤ x ∧ x ≤ 57 then (if b = true ∧ t c = 0 then none else if rdOk Y (c % 3) (rdNum b (t c) (x - 48)) = true then some (c, true, va_up t c (rdNum b (t c) (x - 48))) else none)
  else if b = true ∧ x = rdSep (c % 3) then some (c + 1, false, t) else none
section TR
variable {G : mx_G} {d bc bs : Nat} {ex : Bool} {N : Nat} {ce : Nat → va_E} {Q : mx_P} {o a c Y : Nat} {t : Nat → Int} {b : Bool}
theorem c_T_init (hG : mx_ok G) (ho : o < N) (h1 : ce o = .inr (6, [.int 0, .null, .int 0, .int 0]))
    (q : ∀ ce', (∀ k, k ≠ o → k < N → ce' k = ce k) → ce' o = .inr (6, [.int (iI Y), .ref (mx_B G + N), .int (iI 0), .int (iI (bI false))]) → ce' N = aI G 100 (fun _ => 0) → Q (.inl none) (N + 1) ce' bc bs) : mx_M G Y_T_init d (bc + 1) (bs + 100) true N ce 0 [(0, .ref (mx_B G + o)), (1, .int (iI Y))] [] Q := by
  refine mx_aload_n (k4 := 0) (mx_d D_T_init 0 rfl) (by rfl) ?_
  refine mx_objInit (mx_d D_T_init 1 rfl) w_135 w_23 w_objcode (by exact Nat.le_of_ble_eq_true rfl) ?_
  refine mx_aload_n (k4 := 0) (mx_d D_T_init 2 rfl) (by rfl) ?_
  refine mx_iload_n (k4 := 1) (mx_d D_T_init 3 rfl) (by rfl) ?_
  refine mx_putf hG (idx := 9) (ci := 6) (kf := 0) (t := (.int)) (mx_d D_T_init 4 rfl) (by rfl) cls_T (by decide) (Or.inr ⟨rfl, rfl, rfl⟩) w_136 (by first | assumption | omega) (by first | assumption | exact va_up_self _ _ _ | (rw [va_up_ne _ _ (by omega)]; first | assumption | exact va_up_self _ _ _ | (rw [va_up_ne _ _ (by omega)]; first | assumption | exact va_up_self _ _ _ | (rw [va_up_ne _ _ (by omega)]; first | assumption | exact va_up_self _ _ _ | (rw [va_up_ne _ _ (by omega)]; first | assumption | exact va_up_self _ _ _ | (rw [va_up_ne _ _ (by omega)]; first | assumption | exact va_up_self _ _ _)))))) (by exact Nat.le_of_ble_eq_true rfl) (by decide +kernel) (by rfl) (by rfl) ?_
  refine mx_aload_n (k4 := 0) (mx_d D_T_init 5 rfl) (by rfl) ?_
  refine mx_bipush (n := 100) (mx_d D_T_init 6 rfl) (by decide) ?_
  refine mx_newaI hG (mx_d D_T_init 7 rfl) (by rfl) (by omega) ?_
  refine mx_putf hG (idx := 15) (ci := 6) (kf := 1) (t := (.array .int)) (mx_d D_T_init 8 rfl) (by rfl) cls_T (by decide) (Or.inr ⟨rfl, rfl, rfl⟩) w_137 (by first | assumption | omega) (by first | assumption | exact va_up_self _ _ _ | (rw [va_up_ne _ _ (by omega)]; first | assumption | exact va_up_self _ _ _ | (rw [va_up_ne _ _ (by omega)]; first | assumption | exact va_up_self _ _ _ | (rw [va_up_ne _ _ (by omega)]; first | assumption | exact va_up_self _ _ _ | (rw [va_up_ne _ _ (by omega)]; first | assumption | exact va_up_self _ _ _ | (rw [va_up_ne _ _ (by omega)]; first | assumption | exact va_up_self _ _ _)))))) (by exact Nat.le_of_ble_eq_true rfl) (by decide +kernel) (by rfl) (by rfl) ?_
  refine mx_vret (by rfl) (mx_d D_T_init 9 rfl) ?_
  refine q _ (fun k h1 h2 => ?_) (va_up_self _ _ _) ?_
  · rw [va_up_ne _ _ h1, va_up_ne _ _ (by omega), va_up_ne _ _ h1]
  · rw [va_up_ne _ _ (by omega), va_up_self]
theorem c_T_yearOf (hG : mx_ok G) (ho : o < N) (ha : a < N) {x y z : Value} (h1 : ce o = .inr (6, [x, .ref (mx_B G + a), y, z])) (h2 : ce a = aI G 100 t) {r : Nat} (hr : 3 * r + 2 < 100)
    (q : Q (.inl (some (.int (iI (t (3 * r)))))) N ce bc bs) : mx_M G Y_T_yearOf d bc bs ex N ce 0 [(0, .ref (mx_B G + o)), (1, .int (iI r))] [] Q := by
  refine mx_aload_n (k4 := 0) (mx_d D_T_yearOf 0 rfl) (by rfl) ?_
  refine mx_getf hG (idx := 15) (ci := 6) (kf := 1) (mx_d D_T_yearOf 1 rfl) (by rfl) cls_T (by decide) w_137 (by first | assumption | omega) (by first | assumption | exact va_up_self _ _ _ | (rw [va_up_ne _ _ (by omega)]; first | assumption | exact va_up_self _ _ _ | (rw [va_up_ne _ _ (by omega)]; first | assumption | exact va_up_self _ _ _ | (rw [va_up_ne _ _ (by omega)]; first | assumption | exact va_up_self _ _ _ | (rw [va_up_ne _ _ (by omega)]; first | assumption | exact va_up_self _ _ _ | (rw [va_up_ne _ _ (by omega)]; first | assumption | exact va_up_self _ _ _)))))) (by rfl) ?_
  refine mx_iconst (n := 3) (mx_d D_T_yearOf 2 rfl) ?_
  refine mx_iload_n (k4 := 1) (mx_d D_T_yearOf 3 rfl) (by rfl) ?_
  refine mx_imulI (mx_d D_T_yearOf 4 rfl) ?_
  refine mx_ialdI hG (3 * r) (mx_d D_T_yearOf 5 rfl) (by first | assumption | omega) (by first | assumption | exact va_up_self _ _ _ | (rw [va_up_ne _ _ (by omega)]; first | assumption | exact va_up_self _ _ _ | (rw [va_up_ne _ _ (by omega)]; first | assumption | exact va_up_self _ _ _ | (rw [va_up_ne _ _ (by omega)]; first | assumption | exact va_up_self _ _ _ | (rw [va_up_ne _ _ (by omega)]; first | assumption | exact va_up_self _ _ _ | (rw [va_up_ne _ _ (by omega)]; first | assumption | exact va_up_self _ _ _)))))) (by rfl) (by omega) (by omega) ?_
  refine mx_iret (by rfl) (mx_d D_T_yearOf 6 rfl) ?_
  exact q
theorem c_T_ageOf (hG : mx_ok G) (ho : o < N) (ha : a < N) {x y z : Value} (h1 : ce o = .inr (6, [x, .ref (mx_B G + a), y, z])) (h2 : ce a = aI G 100 t) {r : Nat} (hr : 3 * r + 2 < 100)
    (q : Q (.inl (some (.int (iI (t (3 * r + 1)))))) N ce bc bs) : mx_M G Y_T_ageOf d bc bs ex N ce 0 [(0, .ref (mx_B G + o)), (1, .int (iI r))] [] Q := by
  refine mx_aload_n (k4 := 0) (mx_d D_T_ageOf 0 rfl) (by rfl) ?_
  refine mx_getf hG (idx := 15) (ci := 6) (kf := 1) (mx_d D_T_ageOf 1 rfl) (by rfl) cls_T (by decide) w_137 (by first | assumption | omega) (by first | assumption | exact va_up_self _ _ _ | (rw [va_up_ne _ _ (by omega)]; first | assumption | exact va_up_self _ _ _ | (rw [va_up_ne _ _ (by omega)]; first | assumption | exact va_up_self _ _ _ | (rw [va_up_ne _ _ (by omega)]; first | assumption | exact va_up_self _ _ _ | (rw [va_up_ne _ _ (by omega)]; first | assumption | exact va_up_self _ _ _ | (rw [va_up_ne _ _ (by omega)]; first | assumption | exact va_up_self _ _ _)))))) (by rfl) ?_
  refine mx_iconst (n := 3) (mx_d D_T_ageOf 2 rfl) ?_
  refine mx_iload_n (k4 := 1) (mx_d D_T_ageOf 3 rfl) (by rfl) ?_
  refine mx_imulI (mx_d D_T_ageOf 4 rfl) ?_
  refine mx_iconst (n := 1) (mx_d D_T_ageOf 5 rfl) ?_
  refine mx_iaddI (mx_d D_T_ageOf 6 rfl) ?_
  refine mx_ialdI hG (3 * r + 1) (mx_d D_T_ageOf 7 rfl) (by first | assumption | omega) (by first | assumption | exact va_up_self _ _ _ | (rw [va_up_ne _ _ (by omega)]; first | assumption | exact va_up_self _ _ _ | (rw [va_up_ne _ _ (by omega)]; first | assumption | exact va_up_self _ _ _ | (rw [va_up_ne _ _ (by omega)]; first | assumption | exact va_up_self _ _ _ | (rw [va_up_ne _ _ (by omega)]; first | assumption | exact va_up_self _ _ _ | (rw [va_up_ne _ _ (by omega)]; first | assumption | exact va_up_self _ _ _)))))) (by rfl) (by omega) (by omega) ?_
  refine mx_iret (by rfl) (mx_d D_T_ageOf 8 rfl) ?_
  exact q
theorem c_T_spreadOf (hG : mx_ok G) (ho : o < N) (ha : a < N) {x y z : Value} (h1 : ce o = .inr (6, [x, .ref (mx_B G + a), y, z])) (h2 : ce a = aI G 100 t) {r : Nat} (hr : 3 * r + 2 < 100)
    (q : Q (.inl (some (.int (iI (t (3 * r + 2)))))) N ce bc bs) : mx_M G Y_T_spreadOf d bc bs ex N ce 0 [(0, .ref (mx_B G + o)), (1, .int (iI r))] [] Q := by
  refine mx_aload_n (k4 := 0) (mx_d D_T_spreadOf 0 rfl) (by rfl) ?_
  refine mx_getf hG (idx := 15) (ci := 6) (kf := 1) (mx_d D_T_spreadOf 1 rfl) (by rfl) cls_T (by decide) w_137 (by first | assumption | omega) (by first | assumption | exact va_up_self _ _ _ | (rw [va_up_ne _ _ (by omega)]; first | assumption | exact va_up_self _ _ _ | (rw [va_up_ne _ _ (by omega)]; first | assumption | exact va_up_self _ _ _ | (rw [va_up_ne _ _ (by omega)]; first | assumption | exact va_up_self _ _ _ | (rw [va_up_ne _ _ (by omega)]; first | assumption | exact va_up_self _ _ _ | (rw [va_up_ne _ _ (by omega)]; first | assumption | exact va_up_self _ _ _)))))) (by rfl) ?_
  refine mx_iconst (n := 3) (mx_d D_T_spreadOf 2 rfl) ?_
  refine mx_iload_n (k4 := 1) (mx_d D_T_spreadOf 3 rfl) (by rfl) ?_
  refine mx_imulI (mx_d D_T_spreadOf 4 rfl) ?_
  refine mx_iconst (n := 2) (mx_d D_T_spreadOf 5 rfl) ?_
  refine mx_iaddI (mx_d D_T_spreadOf 6 rfl) ?_
  refine mx_ialdI hG (3 * r + 2) (mx_d D_T_spreadOf 7 rfl) (by first | assumption | omega) (by first | assumption | exact va_up_self _ _ _ | (rw [va_up_ne _ _ (by omega)]; first | assumption | exact va_up_self _ _ _ | (rw [va_up_ne _ _ (by omega)]; first | assumption | exact va_up_self _ _ _ | (rw [va_up_ne _ _ (by omega)]; first | assumption | exact va_up_self _ _ _ | (rw [va_up_ne _ _ (by omega)]; first | assumption | exact va_up_self _ _ _ | (rw [va_up_ne _ _ (by omega)]; first | assumption | exact va_up_self _ _ _)))))) (by rfl) (by omega) (by omega) ?_
  refine mx_iret (by rfl) (mx_d D_T_spreadOf 8 rfl) ?_
  exact q
theorem c_T_signBehind {k : Nat} (hk : k < 3) (q : Q (.inl (some (.int (iI (rdSep k))))) N ce bc bs) : mx_M G Y_T_signBehind d bc bs ex N ce 0 [(0, .int (iI k))] [] Q := by
  refine mx_iload_n (k4 := 0) (mx_d D_T_signBehind 0 rfl) (by rfl) ?_
  obtain rfl | rfl | rfl : k = 0 ∨ k = 1 ∨ k = 2 := by omega
  · refine mx_lookup 34 (mx_d D_T_signBehind 1 rfl) (by decide) (by rfl) (by decide) ?_
    refine mx_bipush (n := 58) (mx_d D_T_signBehind 6 rfl) (by decide) ?_
    refine mx_iret (by rfl) (mx_d D_T_signBehind 7 rfl) ?_
    exact q
  · refine mx_lookup 28 (mx_d D_T_signBehind 1 rfl) (by decide) (by rfl) (by decide) ?_
    refine mx_bipush (n := 43) (mx_d D_T_signBehind 2 rfl) (by decide) ?_
    refine mx_iret (by rfl) (mx_d D_T_signBehind 3 rfl) ?_
    exact q
  · refine mx_lookup 31 (mx_d D_T_signBehind 1 rfl) (by decide) (by rfl) (by decide) ?_
    refine mx_bipush (n := 59) (mx_d D_T_signBehind 4 rfl) (by decide) ?_
    refine mx_iret (by rfl) (mx_d D_T_signBehind 5 rfl) ?_
    exact q
theorem c_T_isWithin (hG : mx_ok G) (ho : o < N) {x y z : Value} (h1 : ce o = .inr (6, [.int (iI Y), x, y, z])) (hY : Y ≤ 60) {k : Nat} (hk : k < 3) {v : Int} (hv1 : 0 ≤ v) (hv2 : v ≤ 100000) (q : Q (.inl (some (.int (iI (bI (rdOk Y k v)))))) N ce bc bs) : mx_M G Y_T_isWithinBounds d bc bs ex N ce 0 [(0, .ref (mx_B G + o)), (1, .int (iI v)), (2, .int (iI k))] [] Q := by
  refine mx_iload_n (k4 := 2) (mx_d D_T_isWithinBounds 0 rfl) (by rfl) ?_
  obtain rfl | rfl | rfl : k = 0 ∨ k = 1 ∨ k = 2 := by omega
  · refine mx_lookup 58 (mx_d D_T_isWithinBounds 1 rfl) (by decide) (by rfl) (by decide) ?_
    refine mx_iload_n (k4 := 1) (mx_d D_T_isWithinBounds 19 rfl) (by rfl) ?_
    refine mx_aload_n (k4 := 0) (mx_d D_T_isWithinBounds 20 rfl) (by rfl) ?_
    refine mx_getf hG (idx := 9) (ci := 6) (kf := 0) (mx_d D_T_isWithinBounds 21 rfl) (by rfl) cls_T (by decide) w_136 (by first | assumption | omega) (by first | assumption | exact va_up_self _ _ _ | (rw [va_up_ne _ _ (by omega)]; first | assumption | exact va_up_self _ _ _ | (rw [va_up_ne _ _ (by omega)]; first | assumption | exact va_up_self _ _ _ | (rw [va_up_ne _ _ (by omega)]; first | assumption | exact va_up_self _ _ _ | (rw [va_up_ne _ _ (by omega)]; first | assumption | exact va_up_self _ _ _ | (rw [va_up_ne _ _ (by omega)]; first | assumption | exact va_up_self _ _ _)))))) (by rfl) ?_
    by_cases hc : v < (Y : Int)
    · refine mx_icmp_geN 70 (mx_d D_T_isWithinBounds 22 rfl) (by decide) (by omega) (by omega) (by omega) (by omega) (by omega) ?_
      refine mx_iconst (n := 1) (mx_d D_T_isWithinBounds 23 rfl) ?_
      refine mx_goto 71 (mx_d D_T_isWithinBounds 24 rfl) (by decide) ?_
      refine mx_zret (by rfl) (mx_d D_T_isWithinBounds 26 rfl) (by first | rfl | assumption) ?_
      rw [show rdOk Y 0 v = true from by simp [rdOk, hc]] at q
      exact q
    · refine mx_icmp_geY 70 (mx_d D_T_isWithinBounds 22 rfl) (by decide) (by omega) (by omega) (by omega) (by omega) (by omega) ?_
      refine mx_iconst (n := 0) (mx_d D_T_isWithinBounds 25 rfl) ?_
      refine mx_zret (by rfl) (mx_d D_T_isWithinBounds 26 rfl) (by first | rfl | assumption) ?_
      rw [show rdOk Y 0 v = false from by simp [rdOk]; omega] at q
      exact q
  · refine mx_lookup 28 (mx_d D_T_isWithinBounds 1 rfl) (by decide) (by rfl) (by decide) ?_
    refine mx_iload_n (k4 := 1) (mx_d D_T_isWithinBounds 2 rfl) (by rfl) ?_
    refine mx_sipush (n := 3000) (mx_d D_T_isWithinBounds 3 rfl) (by decide) ?_
    by_cases hc : v ≤ 3000
    · refine mx_icmp_gtN 39 (mx_d D_T_isWithinBounds 4 rfl) (by decide) (by omega) (by omega) (by omega) (by omega) (by omega) ?_
      refine mx_iconst (n := 1) (mx_d D_T_isWithinBounds 5 rfl) ?_
      refine mx_goto 40 (mx_d D_T_isWithinBounds 6 rfl) (by decide) ?_
      refine mx_zret (by rfl) (mx_d D_T_isWithinBounds 8 rfl) (by first | rfl | assumption) ?_
      rw [show rdOk Y 1 v = true from by simp [rdOk, hc]] at q
      exact q
    · refine mx_icmp_gtY 39 (mx_d D_T_isWithinBounds 4 rfl) (by decide) (by omega) (by omega) (by omega) (by omega) (by omega) ?_
      refine mx_iconst (n := 0) (mx_d D_T_isWithinBounds 7 rfl) ?_
      refine mx_zret (by rfl) (mx_d D_T_isWithinBounds 8 rfl) (by first | rfl | assumption) ?_
      rw [show rdOk Y 1 v = false from by simp [rdOk]; omega] at q
      exact q
  · refine mx_lookup 41 (mx_d D_T_isWithinBounds 1 rfl) (by decide) (by rfl) (by decide) ?_
    refine mx_iload_n (k4 := 1) (mx_d D_T_isWithinBounds 9 rfl) (by rfl) ?_
    refine mx_iconst (n := 1) (mx_d D_T_isWithinBounds 10 rfl) ?_
    by_cases hc : 1 ≤ v
    · refine mx_icmp_ltN 56 (mx_d D_T_isWithinBounds 11 rfl) (by decide) (by omega) (by omega) (by omega) (by omega) (by omega) ?_
      refine mx_iload_n (k4 := 1) (mx_d D_T_isWithinBounds 12 rfl) (by rfl) ?_
      refine mx_bipush (n := 100) (mx_d D_T_isWithinBounds 13 rfl) (by decide) ?_
      by_cases hc2 : v ≤ 100
      · refine mx_icmp_gtN 56 (mx_d D_T_isWithinBounds 14 rfl) (by decide) (by omega) (by omega) (by omega) (by omega) (by omega) ?_
        refine mx_iconst (n := 1) (mx_d D_T_isWithinBounds 15 rfl) ?_
        refine mx_goto 57 (mx_d D_T_isWithinBounds 16 rfl) (by decide) ?_
        refine mx_zret (by rfl) (mx_d D_T_isWithinBounds 18 rfl) (by first | rfl | assumption) ?_
        rw [show rdOk Y 2 v = true from by simp [rdOk, hc, hc2]] at q
        exact q
      · refine mx_icmp_gtY 56 (mx_d D_T_isWithinBounds 14 rfl) (by decide) (by omega) (by omega) (by omega) (by omega) (by omega) ?_
        refine mx_iconst (n := 0) (mx_d D_T_isWithinBounds 17 rfl) ?_
        refine mx_zret (by rfl) (mx_d D_T_isWithinBounds 18 rfl) (by first | rfl | assumption) ?_
        rw [show rdOk Y 2 v = false from by simp [rdOk]; omega] at q
        exact q
    · refine mx_icmp_ltY 56 (mx_d D_T_isWithinBounds 11 rfl) (by decide) (by omega) (by omega) (by omega) (by omega) (by omega) ?_
      refine mx_iconst (n := 0) (mx_d D_T_isWithinBounds 17 rfl) ?_
      refine mx_zret (by rfl) (mx_d D_T_isWithinBounds 18 rfl) (by first | rfl | assumption) ?_
      rw [show rdOk Y 2 v = false from by simp [rdOk]; omega] at q
      exact q
theorem c_T_takesDigit (hG : mx_ok G) (ho : o < N) (ha : a < N) (e1 : o ≠ a) (h1 : ce o = .inr (6, [.int (iI Y), .ref (mx_B G + a), .int (iI c), .int (iI (bI b))])) (h2 : ce a = aI G 100 t) (hY : Y ≤ 60) (hc : c < 100) (hb1 : b = true → 0 ≤ t c ∧ t c ≤ 3000) {z : Int} (hz1 : 0 ≤ z) (hz2 : z ≤ 9)
    (q0 : rdStep Y (z + 48) c b t = none → Q (.inl (some (.int (iI (bI false))))) N ce bc bs)
    (q1 : ∀ ce' t', rdStep Y (z + 48) c b t = some (c, true, t') → (∀ k, k ≠ o → k ≠ a → ce' k = ce k) → ce' o = .inr (6, [.int (iI Y), .ref (mx_B G + a), .int (iI c), .int (iI (bI true))]) → ce' a = aI G 100 t' → Q (.inl (some (.int (iI (bI true))))) N ce' bc bs) : mx_M G Y_T_takesDigit (d + 1) bc bs ex N ce 0 [(0, .ref (mx_B G + o)), (1, .int (iI z))] [] Q := by
  have hx : 48 ≤ z + 48 ∧ z + 48 ≤ 57 := by omega
  have hzz : z + 48 - 48 = z := by omega
  rw [rdStep, if_pos hx, hzz] at q0
  simp only [rdStep, if_pos hx, hzz] at q1
  have fin : ¬ (b = true ∧ t c = 0) → 0 ≤ rdNum b (t c) z → rdNum b (t c) z ≤ 100000 → mx_M G Y_T_takesDigit (d + 1) bc bs ex N ce 58 [(0, .ref (mx_B G + o)), (1, .int (iI z))] [.int (iI (rdNum b (t c) z))] Q := by
    intro hn hl1 hl2
    rw [if_neg hn] at q0
    simp only [if_neg hn] at q1
    refine mx_istore_n (k4 := 2) (mx_d D_T_takesDigit 31 rfl) (by decide) ?_
    refine mx_aload_n (k4 := 0) (mx_d D_T_takesDigit 32 rfl) (by rfl) ?_
    refine mx_iload_n (k4 := 2) (mx_d D_T_takesDigit 33 rfl) (by rfl) ?_
    refine mx_aload_n (k4 := 0) (mx_d D_T_takesDigit 34 rfl) (by rfl) ?_
    refine mx_getf hG (idx := 19) (ci := 6) (kf := 2) (mx_d D_T_takesDigit 35 rfl) (by rfl) cls_T (by decide) w_138 (by first | assumption | omega) (by first | assumption | exact va_up_self _ _ _ | (rw [va_up_ne _ _ (by omega)]; first | assumption | exact va_up_self _ _ _ | (rw [va_up_ne _ _ (by omega)]; first | assumption | exact va_up_self _ _ _ | (rw [va_up_ne _ _ (by omega)]; first | assumption | exact va_up_self _ _ _ | (rw [va_up_ne _ _ (by omega)]; first | assumption | exact va_up_self _ _ _ | (rw [va_up_ne _ _ (by omega)]; first | assumption | exact va_up_self _ _ _)))))) (by rfl) ?_
    refine mx_iconst (n := 3) (mx_d D_T_takesDigit 36 rfl) ?_
    refine mx_remI (mx_d D_T_takesDigit 37 rfl) (by omega) (by omega) (by omega) (by omega) ?_
    refine mx_callV hG (Y' := Y_T_isWithinBounds) (ci := 6) [_, _] (mx_d D_T_takesDigit 38 rfl) in_T_isWithinBounds w_217 w_219 s_T_isWithinBounds (by rfl) np_T_isWithinBounds (by exact Nat.le_of_ble_eq_true rfl) (by rfl) (by first | assumption | omega) (by first | assumption | exact va_up_self _ _ _ | (rw [va_up_ne _ _ (by omega)]; first | assumption | exact va_up_self _ _ _ | (rw [va_up_ne _ _ (by omega)]; first | assumption | exact va_up_self _ _ _ | (rw [va_up_ne _ _ (by omega)]; first | assumption | exact va_up_self _ _ _ | (rw [va_up_ne _ _ (by omega)]; first | assumption | exact va_up_self _ _ _ | (rw [va_up_ne _ _ (by omega)]; first | assumption | exact va_up_self _ _ _)))))) (by rfl) (by exact Nat.le_of_ble_eq_true rfl) (c_T_isWithin hG ho h1 hY (k := c % 3) (by omega) hl1 hl2 ?_)
    cases hok : rdOk Y (c % 3) (rdNum b (t c) z) with
    | true =>
      simp only [hok, if_true] at q1
      refine mx_if_neY 75 (mx_d D_T_takesDigit 39 rfl) (by decide) (by decide) (by decide) (by decide) ?_
      refine mx_aload_n (k4 := 0) (mx_d D_T_takesDigit 42 rfl) (by rfl) ?_
      refine mx_getf hG (idx := 15) (ci := 6) (kf := 1) (mx_d D_T_takesDigit 43 rfl) (by rfl) cls_T (by decide) w_137 (by first | assumption | omega) (by first | assumption | exact va_up_self _ _ _ | (rw [va_up_ne _ _ (by omega)]; first | assumption | exact va_up_self _ _ _ | (rw [va_up_ne _ _ (by omega)]; first | assumption | exact va_up_self _ _ _ | (rw [va_up_ne _ _ (by omega)]; first | assumption | exact va_up_self _ _ _ | (rw [va_up_ne _ _ (by omega)]; first | assumption | exact va_up_self _ _ _ | (rw [va_up_ne _ _ (by omega)]; first | assumption | exact va_up_self _ _ _)))))) (by rfl) ?_
      refine mx_aload_n (k4 := 0) (mx_d D_T_takesDigit 44 rfl) (by rfl) ?_
      refine mx_getf hG (idx := 19) (ci := 6) (kf := 2) (mx_d D_T_takesDigit 45 rfl) (by rfl) cls_T (by decide) w_138 (by first | assumption | omega) (by first | assumption | exact va_up_self _ _ _ | (rw [va_up_ne _ _ (by omega)]; first | assumption | exact va_up_self _ _ _ | (rw [va_up_ne _ _ (by omega)]; first | assumption | exact va_up_self _ _ _ | (rw [va_up_ne _ _ (by omega)]; first | assumption | exact va_up_self _ _ _ | (rw [va_up_ne _ _ (by omega)]; first | assumption | exact va_up_self _ _ _ | (rw [va_up_ne _ _ (by omega)]; first | assumption | exact va_up_self _ _ _)))))) (by rfl) ?_
      refine mx_iload_n (k4 := 2) (mx_d D_T_takesDigit 46 rfl) (by rfl) ?_
      refine mx_iastI hG _ _ (mx_d D_T_takesDigit 47 rfl) (by first | assumption | omega) (by first | assumption | exact va_up_self _ _ _ | (rw [va_up_ne _ _ (by omega)]; first | assumption | exact va_up_self _ _ _ | (rw [va_up_ne _ _ (by omega)]; first | assumption | exact va_up_self _ _ _ | (rw [va_up_ne _ _ (by omega)]; first | assumption | exact va_up_self _ _ _ | (rw [va_up_ne _ _ (by omega)]; first | assumption | exact va_up_self _ _ _ | (rw [va_up_ne _ _ (by omega)]; first | assumption | exact va_up_self _ _ _)))))) (by rfl) (by rfl) (by omega) (by omega) ?_
      refine mx_aload_n (k4 := 0) (mx_d D_T_takesDigit 48 rfl) (by rfl) ?_
      refine mx_iconst (n := 1) (mx_d D_T_takesDigit 49 rfl) ?_
      refine mx_putf hG (idx := 22) (ci := 6) (kf := 3) (t := (.boolean)) (mx_d D_T_takesDigit 50 rfl) (by rfl) cls_T (by decide) (Or.inl rfl) w_139 (by first | assumption | omega) (by first | assumption | exact va_up_self _ _ _ | (rw [va_up_ne _ _ (by omega)]; first | assumption | exact va_up_self _ _ _ | (rw [va_up_ne _ _ (by omega)]; first | assumption | exact va_up_self _ _ _ | (rw [va_up_ne _ _ (by omega)]; first | assumption | exact va_up_self _ _ _ | (rw [va_up_ne _ _ (by omega)]; first | assumption | exact va_up_self _ _ _ | (rw [va_up_ne _ _ (by omega)]; first | assumption | exact va_up_self _ _ _)))))) (by exact Nat.le_of_ble_eq_true rfl) (by decide +kernel) (by rfl) (by rfl) ?_
      refine mx_iconst (n := 1) (mx_d D_T_takesDigit 51 rfl) ?_
      refine mx_zret (by rfl) (mx_d D_T_takesDigit 52 rfl) (by first | rfl | assumption) ?_
      refine q1 _ _ rfl (fun k k1 k2 => ?_) (va_up_self _ _ _) ?_
      · rw [va_up_ne _ _ k1, va_up_ne _ _ k2]
      · rw [va_up_ne _ _ (Ne.symm e1), va_up_self]
    | false =>
      rw [hok, if_neg (by decide)] at q0
      refine mx_if_neN 75 (mx_d D_T_takesDigit 39 rfl) (by decide) (by decide) (by decide) (by decide) ?_
      refine mx_iconst (n := 0) (mx_d D_T_takesDigit 40 rfl) ?_
      refine mx_zret (by rfl) (mx_d D_T_takesDigit 41 rfl) (by first | rfl | assumption) ?_
      exact q0 rfl
  refine mx_aload_n (k4 := 0) (mx_d D_T_takesDigit 0 rfl) (by rfl) ?_
  refine mx_getf hG (idx := 19) (ci := 6) (kf := 2) (mx_d D_T_takesDigit 1 rfl) (by rfl) cls_T (by decide) w_138 (by first | assumption | omega) (by first | assumption | exact va_up_self _ _ _ | (rw [va_up_ne _ _ (by omega)]; first | assumption | exact va_up_self _ _ _ | (rw [va_up_ne _ _ (by omega)]; first | assumption | exact va_up_self _ _ _ | (rw [va_up_ne _ _ (by omega)]; first | assumption | exact va_up_self _ _ _ | (rw [va_up_ne _ _ (by omega)]; first | assumption | exact va_up_self _ _ _ | (rw [va_up_ne _ _ (by omega)]; first | assumption | exact va_up_self _ _ _)))))) (by rfl) ?_
  refine mx_aload_n (k4 := 0) (mx_d D_T_takesDigit 2 rfl) (by rfl) ?_
  refine mx_getf hG (idx := 15) (ci := 6) (kf := 1) (mx_d D_T_takesDigit 3 rfl) (by rfl) cls_T (by decide) w_137 (by first | assumption | omega) (by first | assumption | exact va_up_self _ _ _ | (rw [va_up_ne _ _ (by omega)]; first | assumption | exact va_up_self _ _ _ | (rw [va_up_ne _ _ (by omega)]; first | assumption | exact va_up_self _ _ _ | (rw [va_up_ne _ _ (by omega)]; first | assumption | exact va_up_self _ _ _ | (rw [va_up_ne _ _ (by omega)]; first | assumption | exact va_up_self _ _ _ | (rw [va_up_ne _ _ (by omega)]; first | assumption | exact va_up_self _ _ _)))))) (by rfl) ?_
  refine mx_alen hG 0 (mx_d D_T_takesDigit 4 rfl) (by first | assumption | omega) (by first | assumption | exact va_up_self _ _ _ | (rw [va_up_ne _ _ (by omega)]; first | assumption | exact va_up_self _ _ _ | (rw [va_up_ne _ _ (by omega)]; first | assumption | exact va_up_self _ _ _ | (rw [va_up_ne _ _ (by omega)]; first | assumption | exact va_up_self _ _ _ | (rw [va_up_ne _ _ (by omega)]; first | assumption | exact va_up_self _ _ _ | (rw [va_up_ne _ _ (by omega)]; first | assumption | exact va_up_self _ _ _)))))) (by rfl) ?_
  refine mx_icmp_geN 31 (mx_d D_T_takesDigit 5 rfl) (by decide) (by omega) (by omega) (by omega) (by omega) (by omega) ?_
  refine mx_aload_n (k4 := 0) (mx_d D_T_takesDigit 6 rfl) (by rfl) ?_
  refine mx_getf hG (idx := 22) (ci := 6) (kf := 3) (mx_d D_T_takesDigit 7 rfl) (by rfl) cls_T (by decide) w_139 (by first | assumption | omega) (by first | assumption | exact va_up_self _ _ _ | (rw [va_up_ne _ _ (by omega)]; first | assumption | exact va_up_self _ _ _ | (rw [va_up_ne _ _ (by omega)]; first | assumption | exact va_up_self _ _ _ | (rw [va_up_ne _ _ (by omega)]; first | assumption | exact va_up_self _ _ _ | (rw [va_up_ne _ _ (by omega)]; first | assumption | exact va_up_self _ _ _ | (rw [va_up_ne _ _ (by omega)]; first | assumption | exact va_up_self _ _ _)))))) (by rfl) ?_
  cases b with
  | false =>
    refine mx_if_eqY 33 (mx_d D_T_takesDigit 8 rfl) (by decide) (by decide) (by decide) (by decide) ?_
    refine mx_aload_n (k4 := 0) (mx_d D_T_takesDigit 17 rfl) (by rfl) ?_
    refine mx_getf hG (idx := 22) (ci := 6) (kf := 3) (mx_d D_T_takesDigit 18 rfl) (by rfl) cls_T (by decide) w_139 (by first | assumption | omega) (by first | assumption | exact va_up_self _ _ _ | (rw [va_up_ne _ _ (by omega)]; first | assumption | exact va_up_self _ _ _ | (rw [va_up_ne _ _ (by omega)]; first | assumption | exact va_up_self _ _ _ | (rw [va_up_ne _ _ (by omega)]; first | assumption | exact va_up_self _ _ _ | (rw [va_up_ne _ _ (by omega)]; first | assumption | exact va_up_self _ _ _ | (rw [va_up_ne _ _ (by omega)]; first | assumption | exact va_up_self _ _ _)))))) (by rfl) ?_
    refine mx_if_eqY 57 (mx_d D_T_takesDigit 19 rfl) (by decide) (by decide) (by decide) (by decide) ?_
    refine mx_iload_n (k4 := 1) (mx_d D_T_takesDigit 30 rfl) (by rfl) ?_
    exact fin (by simp) (by simpa [rdNum] using hz1) (by simp [rdNum]; omega)
  | true =>
    have hb2 := hb1 rfl
    refine mx_if_eqN 33 (mx_d D_T_takesDigit 8 rfl) (by decide) (by decide) (by decide) (by decide) ?_
    refine mx_aload_n (k4 := 0) (mx_d D_T_takesDigit 9 rfl) (by rfl) ?_
    refine mx_getf hG (idx := 15) (ci := 6) (kf := 1) (mx_d D_T_takesDigit 10 rfl) (by rfl) cls_T (by decide) w_137 (by first | assumption | omega) (by first | assumption | exact va_up_self _ _ _ | (rw [va_up_ne _ _ (by omega)]; first | assumption | exact va_up_self _ _ _ | (rw [va_up_ne _ _ (by omega)]; first | assumption | exact va_up_self _ _ _ | (rw [va_up_ne _ _ (by omega)]; first | assumption | exact va_up_self _ _ _ | (rw [va_up_ne _ _ (by omega)]; first | assumption | exact va_up_self _ _ _ | (rw [va_up_ne _ _ (by omega)]; first | assumption | exact va_up_self _ _ _)))))) (by rfl) ?_
    refine mx_aload_n (k4 := 0) (mx_d D_T_takesDigit 11 rfl) (by rfl) ?_
    refine mx_getf hG (idx := 19) (ci := 6) (kf := 2) (mx_d D_T_takesDigit 12 rfl) (by rfl) cls_T (by decide) w_138 (by first | assumption | omega) (by first | assumption | exact va_up_self _ _ _ | (rw [va_up_ne _ _ (by omega)]; first | assumption | exact va_up_self _ _ _ | (rw [va_up_ne _ _ (by omega)]; first | assumption | exact va_up_self _ _ _ | (rw [va_up_ne _ _ (by omega)]; first | assumption | exact va_up_self _ _ _ | (rw [va_up_ne _ _ (by omega)]; first | assumption | exact va_up_self _ _ _ | (rw [va_up_ne _ _ (by omega)]; first | assumption | exact va_up_self _ _ _)))))) (by rfl) ?_
    refine mx_ialdI hG _ (mx_d D_T_takesDigit 13 rfl) (by first | assumption | omega) (by first | assumption | exact va_up_self _ _ _ | (rw [va_up_ne _ _ (by omega)]; first | assumption | exact va_up_self _ _ _ | (rw [va_up_ne _ _ (by omega)]; first | assumption | exact va_up_self _ _ _ | (rw [va_up_ne _ _ (by omega)]; first | assumption | exact va_up_self _ _ _ | (rw [va_up_ne _ _ (by omega)]; first | assumption | exact va_up_self _ _ _ | (rw [va_up_ne _ _ (by omega)]; first | assumption | exact va_up_self _ _ _)))))) (by rfl) (by omega) (by omega) ?_
    by_cases h0 : t c = 0
    · refine mx_if_neN 33 (mx_d D_T_takesDigit 14 rfl) (by decide) (by omega) (by omega) (by omega) ?_
      refine mx_iconst (n := 0) (mx_d D_T_takesDigit 15 rfl) ?_
      refine mx_zret (by rfl) (mx_d D_T_takesDigit 16 rfl) (by first | rfl | assumption) ?_
      exact q0 (by rw [if_pos ⟨rfl, h0⟩])
    · refine mx_if_neY 33 (mx_d D_T_takesDigit 14 rfl) (by decide) (by omega) (by omega) (by omega) ?_
      refine mx_aload_n (k4 := 0) (mx_d D_T_takesDigit 17 rfl) (by rfl) ?_
      refine mx_getf hG (idx := 22) (ci := 6) (kf := 3) (mx_d D_T_takesDigit 18 rfl) (by rfl) cls_T (by decide) w_139 (by first | assumption | omega) (by first | assumption | exact va_up_self _ _ _ | (rw [va_up_ne _ _ (by omega)]; first | assumption | exact va_up_self _ _ _ | (rw [va_up_ne _ _ (by omega)]; first | assumption | exact va_up_self _ _ _ | (rw [va_up_ne _ _ (by omega)]; first | assumption | exact va_up_self _ _ _ | (rw [va_up_ne _ _ (by omega)]; first | assumption | exact va_up_self _ _ _ | (rw [va_up_ne _ _ (by omega)]; first | assumption | exact va_up_self _ _ _)))))) (by rfl) ?_
      refine mx_if_eqN 57 (mx_d D_T_takesDigit 19 rfl) (by decide) (by decide) (by decide) (by decide) ?_
      refine mx_bipush (n := 10) (mx_d D_T_takesDigit 20 rfl) (by decide) ?_
      refine mx_aload_n (k4 := 0) (mx_d D_T_takesDigit 21 rfl) (by rfl) ?_
      refine mx_getf hG (idx := 15) (ci := 6) (kf := 1) (mx_d D_T_takesDigit 22 rfl) (by rfl) cls_T (by decide) w_137 (by first | assumption | omega) (by first | assumption | exact va_up_self _ _ _ | (rw [va_up_ne _ _ (by omega)]; first | assumption | exact va_up_self _ _ _ | (rw [va_up_ne _ _ (by omega)]; first | assumption | exact va_up_self _ _ _ | (rw [va_up_ne _ _ (by omega)]; first | assumption | exact va_up_self _ _ _ | (rw [va_up_ne _ _ (by omega)]; first | assumption | exact va_up_self _ _ _ | (rw [va_up_ne _ _ (by omega)]; first | assumption | exact va_up_self _ _ _)))))) (by rfl) ?_
      refine mx_aload_n (k4 := 0) (mx_d D_T_takesDigit 23 rfl) (by rfl) ?_
      refine mx_getf hG (idx := 19) (ci := 6) (kf := 2) (mx_d D_T_takesDigit 24 rfl) (by rfl) cls_T (by decide) w_138 (by first | assumption | omega) (by first | assumption | exact va_up_self _ _ _ | (rw [va_up_ne _ _ (by omega)]; first | assumption | exact va_up_self _ _ _ | (rw [va_up_ne _ _ (by omega)]; first | assumption | exact va_up_self _ _ _ | (rw [va_up_ne _ _ (by omega)]; first | assumption | exact va_up_self _ _ _ | (rw [va_up_ne _ _ (by omega)]; first | assumption | exact va_up_self _ _ _ | (rw [va_up_ne _ _ (by omega)]; first | assumption | exact va_up_self _ _ _)))))) (by rfl) ?_
      refine mx_ialdI hG _ (mx_d D_T_takesDigit 25 rfl) (by first | assumption | omega) (by first | assumption | exact va_up_self _ _ _ | (rw [va_up_ne _ _ (by omega)]; first | assumption | exact va_up_self _ _ _ | (rw [va_up_ne _ _ (by omega)]; first | assumption | exact va_up_self _ _ _ | (rw [va_up_ne _ _ (by omega)]; first | assumption | exact va_up_self _ _ _ | (rw [va_up_ne _ _ (by omega)]; first | assumption | exact va_up_self _ _ _ | (rw [va_up_ne _ _ (by omega)]; first | assumption | exact va_up_self _ _ _)))))) (by rfl) (by omega) (by omega) ?_
      refine mx_imulI (mx_d D_T_takesDigit 26 rfl) ?_
      refine mx_iload_n (k4 := 1) (mx_d D_T_takesDigit 27 rfl) (by rfl) ?_
      refine mx_iaddI (mx_d D_T_takesDigit 28 rfl) ?_
      refine mx_goto 58 (mx_d D_T_takesDigit 29 rfl) (by decide) ?_
      exact fin (fun h => h0 h.2) (by simp [rdNum]; omega) (by simp [rdNum]; omega)
theorem c_T_takes (hG : mx_ok G) (ho : o < N) (ha : a < N) (e1 : o ≠ a) (h1 : ce o = .inr (6, [.int (iI Y), .ref (mx_B G + a), .int (iI c), .int (iI (bI b))])) (h2 : ce a = aI G 100 t) (hY : Y ≤ 60) (hc : c < 100) (hb1 : b = true → 0 ≤ t c ∧ t c ≤ 3000) {x : Int} (hx1 : -2147483648 ≤ x) (hx2 : x < 2147483648)
    (q0 : rdStep Y x c b t = none → Q (.inl (some (.int (iI (bI false))))) N ce bc bs)
    (q1 : ∀ ce' c' b' t', rdStep Y x c b t = some (c', b', t') → (∀ k, k ≠ o → k ≠ a → ce' k = ce k) → ce' o = .inr (6, [.int (iI Y), .ref (mx_B G + a), .int (iI c'), .int (iI (bI b'))]) → ce' a = aI G 100 t' → Q (.inl (some (.int (iI (bI true))))) N ce' bc bs) : mx_M G Y_T_takes (d + 2) bc bs ex N ce 0 [(0, .ref (mx_B G + o)), (1, .int (iI x))] [] Q := by
  have oth : ¬ (48 ≤ x ∧ x ≤ 57) → mx_M G Y_T_takes (d + 2) bc bs ex N ce 21 [(0, .ref (mx_B G + o)), (1, .int (iI x))] [] Q := by
    intro hx
    simp only [rdStep, if_neg hx] at q0 q1
    have b3 : -2147483648 ≤ rdSep (c % 3) ∧ rdSep (c % 3) < 2147483648 := by unfold rdSep; split <;> (try split) <;> omega
    refine mx_aload_n (k4 := 0) (mx_d D_T_takes 12 rfl) (by rfl) ?_
    refine mx_getf hG (idx := 22) (ci := 6) (kf := 3) (mx_d D_T_takes 13 rfl) (by rfl) cls_T (by decide) w_139 (by first | assumption | omega) (by first | assumption | exact va_up_self _ _ _ | (rw [va_up_ne _ _ (by omega)]; first | assumption | exact va_up_self _ _ _ | (rw [va_up_ne _ _ (by omega)]; first | assumption | exact va_up_self _ _ _ | (rw [va_up_ne _ _ (by omega)]; first | assumption | exact va_up_self _ _ _ | (rw [va_up_ne _ _ (by omega)]; first | assumption | exact va_up_self _ _ _ | (rw [va_up_ne _ _ (by omega)]; first | assumption | exact va_up_self _ _ _)))))) (by rfl) ?_
    cases b with
    | false =>
      refine mx_if_eqY 41 (mx_d D_T_takes 14 rfl) (by decide) (by decide) (by decide) (by decide) ?_
      refine mx_iconst (n := 0) (mx_d D_T_takes 22 rfl) ?_
      refine mx_zret (by rfl) (mx_d D_T_takes 23 rfl) (by first | rfl | assumption) ?_
      exact q0 (by simp)
    | true =>
      refine mx_if_eqN 41 (mx_d D_T_takes 14 rfl) (by decide) (by decide) (by decide) (by decide) ?_
      refine mx_iload_n (k4 := 1) (mx_d D_T_takes 15 rfl) (by rfl) ?_
      refine mx_aload_n (k4 := 0) (mx_d D_T_takes 16 rfl) (by rfl) ?_
      refine mx_getf hG (idx := 19) (ci := 6) (kf := 2) (mx_d D_T_takes 17 rfl) (by rfl) cls_T (by decide) w_138 (by first | assumption | omega) (by first | assumption | exact va_up_self _ _ _ | (rw [va_up_ne _ _ (by omega)]; first | assumption | exact va_up_self _ _ _ | (rw [va_up_ne _ _ (by omega)]; first | assumption | exact va_up_self _ _ _ | (rw [va_up_ne _ _ (by omega)]; first | assumption | exact va_up_self _ _ _ | (rw [va_up_ne _ _ (by omega)]; first | assumption | exact va_up_self _ _ _ | (rw [va_up_ne _ _ (by omega)]; first | assumption | exact va_up_self _ _ _)))))) (by rfl) ?_
      refine mx_iconst (n := 3) (mx_d D_T_takes 18 rfl) ?_
      refine mx_remI (mx_d D_T_takes 19 rfl) (by omega) (by omega) (by omega) (by omega) ?_
      refine mx_callS (Y' := Y_T_signBehind) [_] (mx_d D_T_takes 20 rfl) in_T_signBehind w_221 w_222 np_T_signBehind (by exact Nat.le_of_ble_eq_true rfl) (by rfl) (by rfl) (by exact Nat.le_of_ble_eq_true rfl) (c_T_signBehind (k := c % 3) (by omega) ?_)
      by_cases hs : x = rdSep (c % 3)
      · refine mx_icmp_eqY 43 (mx_d D_T_takes 21 rfl) (by decide) (by omega) (by omega) (by omega) (by omega) (by omega) ?_
        refine mx_aload_n (k4 := 0) (mx_d D_T_takes 24 rfl) (by rfl) ?_
        refine mx_dup (mx_d D_T_takes 25 rfl) (by rfl) ?_
        refine mx_getf hG (idx := 19) (ci := 6) (kf := 2) (mx_d D_T_takes 26 rfl) (by rfl) cls_T (by decide) w_138 (by first | assumption | omega) (by first | assumption | exact va_up_self _ _ _ | (rw [va_up_ne _ _ (by omega)]; first | assumption | exact va_up_self _ _ _ | (rw [va_up_ne _ _ (by omega)]; first | assumption | exact va_up_self _ _ _ | (rw [va_up_ne _ _ (by omega)]; first | assumption | exact va_up_self _ _ _ | (rw [va_up_ne _ _ (by omega)]; first | assumption | exact va_up_self _ _ _ | (rw [va_up_ne _ _ (by omega)]; first | assumption | exact va_up_self _ _ _)))))) (by rfl) ?_
        refine mx_iconst (n := 1) (mx_d D_T_takes 27 rfl) ?_
        refine mx_iaddI (mx_d D_T_takes 28 rfl) ?_
        refine mx_putf hG (idx := 19) (ci := 6) (kf := 2) (t := (.int)) (mx_d D_T_takes 29 rfl) (by rfl) cls_T (by decide) (Or.inl rfl) w_138 (by first | assumption | omega) (by first | assumption | exact va_up_self _ _ _ | (rw [va_up_ne _ _ (by omega)]; first | assumption | exact va_up_self _ _ _ | (rw [va_up_ne _ _ (by omega)]; first | assumption | exact va_up_self _ _ _ | (rw [va_up_ne _ _ (by omega)]; first | assumption | exact va_up_self _ _ _ | (rw [va_up_ne _ _ (by omega)]; first | assumption | exact va_up_self _ _ _ | (rw [va_up_ne _ _ (by omega)]; first | assumption | exact va_up_self _ _ _)))))) (by exact Nat.le_of_ble_eq_true rfl) (by decide +kernel) (by rfl) (by rfl) ?_
        refine mx_aload_n (k4 := 0) (mx_d D_T_takes 30 rfl) (by rfl) ?_
        refine mx_iconst (n := 0) (mx_d D_T_takes 31 rfl) ?_
        refine mx_putf hG (idx := 22) (ci := 6) (kf := 3) (t := (.boolean)) (mx_d D_T_takes 32 rfl) (by rfl) cls_T (by decide) (Or.inl rfl) w_139 (by first | assumption | omega) (by first | assumption | exact va_up_self _ _ _ | (rw [va_up_ne _ _ (by omega)]; first | assumption | exact va_up_self _ _ _ | (rw [va_up_ne _ _ (by omega)]; first | assumption | exact va_up_self _ _ _ | (rw [va_up_ne _ _ (by omega)]; first | assumption | exact va_up_self _ _ _ | (rw [va_up_ne _ _ (by omega)]; first | assumption | exact va_up_self _ _ _ | (rw [va_up_ne _ _ (by omega)]; first | assumption | exact va_up_self _ _ _)))))) (by exact Nat.le_of_ble_eq_true rfl) (by decide +kernel) (by rfl) (by rfl) ?_
        refine mx_iconst (n := 1) (mx_d D_T_takes 33 rfl) ?_
        refine mx_zret (by rfl) (mx_d D_T_takes 34 rfl) (by first | rfl | assumption) ?_
        refine q1 _ (c + 1) false t (by rw [if_pos ⟨rfl, hs⟩]) (fun k k1 k2 => ?_) (va_up_self _ _ _) ?_
        · rw [va_up_ne _ _ k1, va_up_ne _ _ k1]
        · rw [va_up_ne _ _ (Ne.symm e1), va_up_ne _ _ (Ne.symm e1), h2]
      · refine mx_icmp_eqN 43 (mx_d D_T_takes 21 rfl) (by decide) (by omega) (by omega) (by omega) (by omega) (by omega) ?_
        refine mx_iconst (n := 0) (mx_d D_T_takes 22 rfl) ?_
        refine mx_zret (by rfl) (mx_d D_T_takes 23 rfl) (by first | rfl | assumption) ?_
        exact q0 (by rw [if_neg (fun h => hs h.2)])
  refine mx_iload_n (k4 := 1) (mx_d D_T_takes 0 rfl) (by rfl) ?_
  refine mx_bipush (n := 48) (mx_d D_T_takes 1 rfl) (by decide) ?_
  by_cases g1 : 48 ≤ x
  · refine mx_icmp_ltN 21 (mx_d D_T_takes 2 rfl) (by decide) (by omega) (by omega) (by omega) (by omega) (by omega) ?_
    refine mx_iload_n (k4 := 1) (mx_d D_T_takes 3 rfl) (by rfl) ?_
    refine mx_bipush (n := 57) (mx_d D_T_takes 4 rfl) (by decide) ?_
    by_cases g2 : x ≤ 57
    · refine mx_icmp_gtN 21 (mx_d D_T_takes 5 rfl) (by decide) (by omega) (by omega) (by omega) (by omega) (by omega) ?_
      refine mx_aload_n (k4 := 0) (mx_d D_T_takes 6 rfl) (by rfl) ?_
      refine mx_iload_n (k4 := 1) (mx_d D_T_takes 7 rfl) (by rfl) ?_
      refine mx_bipush (n := 48) (mx_d D_T_takes 8 rfl) (by decide) ?_
      refine mx_isubI (mx_d D_T_takes 9 rfl) ?_
      have e9 : x - 48 + 48 = x := by omega
      refine mx_callV hG (Y' := Y_T_takesDigit) (ci := 6) [_] (mx_d D_T_takes 10 rfl) in_T_takesDigit w_213 w_215 s_T_takesDigit (by rfl) np_T_takesDigit (by exact Nat.le_of_ble_eq_true rfl) (by rfl) (by first | assumption | omega) (by first | assumption | exact va_up_self _ _ _ | (rw [va_up_ne _ _ (by omega)]; first | assumption | exact va_up_self _ _ _ | (rw [va_up_ne _ _ (by omega)]; first | assumption | exact va_up_self _ _ _ | (rw [va_up_ne _ _ (by omega)]; first | assumption | exact va_up_self _ _ _ | (rw [va_up_ne _ _ (by omega)]; first | assumption | exact va_up_self _ _ _ | (rw [va_up_ne _ _ (by omega)]; first | assumption | exact va_up_self _ _ _)))))) (by rfl) (by exact Nat.le_of_ble_eq_true rfl) (c_T_takesDigit hG ho ha e1 h1 h2 hY hc hb1 (z := x - 48) (by omega) (by omega) (fun hn => ?_) (fun ce' t' hn k1 k2 k3 => ?_))
      · refine mx_zret (by rfl) (mx_d D_T_takes 11 rfl) (bI_nar _) ?_
        exact q0 (by rw [← e9]; exact hn)
      · refine mx_zret (by rfl) (mx_d D_T_takes 11 rfl) (bI_nar _) ?_
        exact q1 _ _ _ _ (by rw [← e9]; exact hn) k1 k2 k3
    · refine mx_icmp_gtY 21 (mx_d D_T_takes 5 rfl) (by decide) (by omega) (by omega) (by omega) (by omega) (by omega) ?_
      exact mx_loc (by rfl) (oth (by omega))
  · refine mx_icmp_ltY 21 (mx_d D_T_takes 2 rfl) (by decide) (by omega) (by omega) (by omega) (by omega) (by omega) ?_
    exact mx_loc (by rfl) (oth (by omega))
end TR
end
section
/-! TextReader.scan -/
def rdR (Y : Nat) (ps t0 : Nat → Int) : Nat → Nat ⊕ (Nat × Bool × (Nat → Int))
  | 0 => .inr (0, false, t0)
  | n + 1 => match rdR Y ps t0 n with
    | .inl i => .inl i
    | .inr (c, b, t) => match rdStep Y (ps n) c b t with
      | none => .inl n
      | some s => .inr s
def rdOut (Y : Nat) (ps t0 : Nat → Int) (n : Nat) : Int × Nat × (Nat → Int) := match rdR Y ps t0 n with
  | .inl i => (-1 - i, 0, t0)
  | .inr (c, b, t) => if b = true ∧ c % 3 = 2 then ((((c + 1) / 3 : Nat) : Int), (c + 1) / 3, t) else (-1 - n, 0, t)
def rdInv (Y n c : Nat) (b : Bool) (t : Nat → Int) : Prop := 2 * c + (if b = true then 1 else 0) ≤ n ∧ ∀ j, (j < c ∨ (j = c ∧ b = true)) → 0 ≤ t j ∧ rdOk Y (j % 3) (t j) = true
theorem rdOk_bd {Y k : Nat} (hY : Y ≤ 60) {v : Int} (h : rdOk Y k v = true) : v ≤ 3000 := by
  unfold rdOk at h
  split at h
  · simpa using h
  · split at h
    · simp at h; omega
    · simp at h; omega
theorem rdInv_step {Y n c : Nat} {b : Bool} {t : Nat → Int} {x : Int} {c' : Nat} {b' : Bool} {t' : Nat → Int} (h : rdInv Y n c b t) (hs : rdStep Y x c b t = some (c', b', t')) : rdInv Y (n + 1) c' b' t' := by
  obtain ⟨h1, h2⟩ := h
  unfold rdStep at hs
  by_cases hx : 48 ≤ x ∧ x ≤ 57
  · rw [if_pos hx] at hs
    by_cases hz : b = true ∧ t c = 0
    · rw [if_pos hz] at hs; exact absurd hs (by simp)
    · rw [if_neg hz] at hs
      by_cases hk : rdOk Y (c % 3) (rdNum b (t c) (x - 48)) = true
      · rw [if_pos hk] at hs
        simp only [Option.some.injEq, Prod.mk.injEq] at hs
        obtain ⟨rfl, rfl, rfl⟩ := hs
        refine ⟨?_, fun j hj => ?_⟩
        · simp only [if_true]
          split at h1 <;> omega
        · by_cases hjc : j = c
          · subst hjc
            rw [va_up_self]
            refine ⟨?_, hk⟩
            unfold rdNum
            cases b with
            | false => simp; omega
            | true =>
              have := (h2 j (Or.inr ⟨rfl, rfl⟩)).1
              simp; omega
          · rw [va_up_ne _ _ hjc]
            exact h2 j (by omega)
      · rw [if_neg hk] at hs; exact absurd hs (by simp)
  · rw [if_neg hx] at hs
    by_cases hz : b = true ∧ x = rdSep (c % 3)
    · rw [if_pos hz] at hs
      simp only [Option.some.injEq, Prod.mk.injEq] at hs
      obtain ⟨rfl, rfl, rfl⟩ := hs
      rw [if_pos hz.1] at h1
      refine ⟨by simp; omega, fun j hj => h2 j ?_⟩
      rcases hj with hj | hj
      · by_cases hjc : j = c
        · exact Or.inr ⟨hjc, hz.1⟩
        · exact Or.inl (by omega)
      · exact absurd hj.2 (by decide)
    · rw [if_neg hz] at hs; exact absurd hs (by simp)
theorem rdR_inv {Y : Nat} {ps t0 : Nat → Int} : ∀ (n : Nat) {c : Nat} {b : Bool} {t : Nat → Int}, rdR Y ps t0 n = .inr (c, b, t) → rdInv Y n c b t
  | 0, c, b, t, h => by
    simp only [rdR, Sum.inr.injEq, Prod.mk.injEq] at h
    obtain ⟨rfl, rfl, rfl⟩ := h
    exact ⟨by simp, fun j hj => by simp at hj⟩
  | n + 1, c, b, t, h => by
    simp only [rdR] at h
    cases e : rdR Y ps t0 n with
    | inl i => rw [e] at h; exact absurd h (by simp)
    | inr s =>
      obtain ⟨c1, b1, t1⟩ := s
      rw [e] at h
      simp only at h
      have hi := rdR_inv n e
      cases e2 : rdStep Y (ps n) c1 b1 t1 with
      | none => rw [e2] at h; exact absurd h (by simp)
      | some s2 =>
        rw [e2] at h
        simp only [Sum.inr.injEq] at h
        subst h
        exact rdInv_step hi e2
theorem rdR_bad {Y : Nat} {ps t0 : Nat → Int} {i n m : Nat} (h : rdR Y ps t0 n = .inl i) (hm : n ≤ m) : rdR Y ps t0 m = .inl i := by
  induction m with
  | zero => obtain rfl : n = 0 := by omega
            exact h
  | succ m ih =>
    by_cases e : n = m + 1
    · subst e; exact h
    · simp only [rdR, ih (by omega)]
theorem rdR_lt {Y : Nat} {ps t0 : Nat → Int} {i n : Nat} (h : rdR Y ps t0 n = .inl i) : i < n := by
  induction n with
  | zero => exact absurd h (by simp [rdR])
  | succ n ih =>
    simp only [rdR] at h
    cases e : rdR Y ps t0 n with
    | inl j => rw [e] at h; simp only [Sum.inl.injEq] at h; subst h; have := ih e; omega
    | inr s =>
      obtain ⟨c1, b1, t1⟩ := s
      rw [e] at h
      simp only at h
      cases e2 : rdStep Y (ps n) c1 b1 t1 with
      | none => rw [e2] at h; simp only [Sum.inl.injEq] at h; omega
      | some s2 => rw [e2] at h; exact absurd h (by simp)
theorem rdOut_rows {Y : Nat} {ps t0 : Nat → Int} {n : Nat} (hn : n ≤ 100) : ((rdOut Y ps t0 n).2.1 = 0 ∧ (rdOut Y ps t0 n).1 < 0 ∧ -1 - (n : Int) ≤ (rdOut Y ps t0 n).1) ∨ (0 < (rdOut Y ps t0 n).2.1 ∧ (rdOut Y ps t0 n).1 = ((rdOut Y ps t0 n).2.1 : Int) ∧ 3 * (rdOut Y ps t0 n).2.1 ≤ 51 ∧ ∀ r, r < (rdOut Y ps t0 n).2.1 → ((0 ≤ (rdOut Y ps t0 n).2.2 (3 * r) ∧ (rdOut Y ps t0 n).2.2 (3 * r) < Y) ∧ (0 ≤ (rdOut Y ps t0 n).2.2 (3 * r + 1) ∧ (rdOut Y ps t0 n).2.2 (3 * r + 1) ≤ 3000) ∧ (1 ≤ (rdOut Y ps t0 n).2.2 (3 * r + 2) ∧ (rdOut Y ps t0 n).2.2 (3 * r + 2) ≤ 100))) := by
  unfold rdOut
  cases e : rdR Y ps t0 n with
  | inl i =>
    have := rdR_lt e
    left
    refine ⟨rfl, ?_, ?_⟩ <;> simp only <;> omega
  | inr s =>
    obtain ⟨c, b, t⟩ := s
    have hi := rdR_inv n e
    simp only
    by_cases hc : b = true ∧ c % 3 = 2
    · right
      rw [if_pos hc]
      have h1 := hi.1
      rw [if_pos hc.1] at h1
      refine ⟨by simp only; omega, rfl, by simp only; omega, fun r hr => ?_⟩
      simp only at hr ⊢
      have g0 := hi.2 (3 * r) (Or.inl (by omega))
      have g1 := hi.2 (3 * r + 1) (Or.inl (by omega))
      have g2 := hi.2 (3 * r + 2) (by by_cases q : 3 * r + 2 = c; exact Or.inr ⟨q, hc.1⟩; exact Or.inl (by omega))
      rw [show (3 * r) % 3 = 0 from by omega] at g0
      rw [show (3 * r + 1) % 3 = 1 from by omega] at g1
      rw [show (3 * r + 2) % 3 = 2 from by omega] at g2
      simp [rdOk] at g0 g1 g2
      exact ⟨g0, g1, g2.2⟩
    · left
      rw [if_neg hc]
      refine ⟨rfl, ?_, ?_⟩ <;> simp only <;> omega
section TS
variable {G : mx_G} {d bc bs : Nat} {ex : Bool} {N : Nat} {ce : Nat → va_E} {Q : mx_P} {o a c0 Y po pa n : Nat} {t0 ps : Nat → Int} {b0 : Bool}
theorem c_T_scan (hG : mx_ok G) (ho : o < N) (ha : a < N) (hpo : po < N) (hpa : pa < N) (e1 : o ≠ a) (e2 : o ≠ po) (e3 : o ≠ pa) (e4 : a ≠ po) (e5 : a ≠ pa) (h1 : ce o = .inr (6, [.int (iI Y), .ref (mx_B G + a), .int (iI c0), .int (iI (bI b0))])) (h2 : ce a = aI G 100 t0) (h3 : ce po = .inr (5, [.ref (mx_B G + pa), .int (iI n)])) (h4 : ce pa = aI G 100 ps) (hY : Y ≤ 60) (hn : n ≤ 100) (hp : ∀ j, j < n → -2147483648 ≤ ps j ∧ ps j < 2147483648)
    (q : ∀ ce' c b t, (∀ k, k ≠ o → k ≠ a → ce' k = ce k) → ce' o = .inr (6, [.int (iI Y), .ref (mx_B G + a), .int (iI (c : Nat)), .int (iI (bI b))]) → ce' a = aI G 100 t → ((rdOut Y ps t0 n).2.1 ≠ 0 → t = (rdOut Y ps t0 n).2.2) → Q (.inl (some (.int (iI (rdOut Y ps t0 n).1)))) N ce' bc bs) : mx_M G Y_T_scan (d + 3) bc bs ex N ce 0 [(0, .ref (mx_B G + o)), (1, .ref (mx_B G + po))] [] Q := by
  refine mx_aload_n (k4 := 0) (mx_d D_T_scan 0 rfl) (by rfl) ?_
  refine mx_iconst (n := 0) (mx_d D_T_scan 1 rfl) ?_
  refine mx_putf hG (idx := 19) (ci := 6) (kf := 2) (t := (.int)) (mx_d D_T_scan 2 rfl) (by rfl) cls_T (by decide) (Or.inl rfl) w_138 (by first | assumption | omega) (by first | assumption | exact va_up_self _ _ _ | (rw [va_up_ne _ _ (by omega)]; first | assumption | exact va_up_self _ _ _ | (rw [va_up_ne _ _ (by omega)]; first | assumption | exact va_up_self _ _ _ | (rw [va_up_ne _ _ (by omega)]; first | assumption | exact va_up_self _ _ _ | (rw [va_up_ne _ _ (by omega)]; first | assumption | exact va_up_self _ _ _ | (rw [va_up_ne _ _ (by omega)]; first | assumption | exact va_up_self _ _ _)))))) (by exact Nat.le_of_ble_eq_true rfl) (by decide +kernel) (by rfl) (by rfl) ?_
  refine mx_aload_n (k4 := 0) (mx_d D_T_scan 3 rfl) (by rfl) ?_
  refine mx_iconst (n := 0) (mx_d D_T_scan 4 rfl) ?_
  refine mx_putf hG (idx := 22) (ci := 6) (kf := 3) (t := (.boolean)) (mx_d D_T_scan 5 rfl) (by rfl) cls_T (by decide) (Or.inl rfl) w_139 (by first | assumption | omega) (by first | assumption | exact va_up_self _ _ _ | (rw [va_up_ne _ _ (by omega)]; first | assumption | exact va_up_self _ _ _ | (rw [va_up_ne _ _ (by omega)]; first | assumption | exact va_up_self _ _ _ | (rw [va_up_ne _ _ (by omega)]; first | assumption | exact va_up_self _ _ _ | (rw [va_up_ne _ _ (by omega)]; first | assumption | exact va_up_self _ _ _ | (rw [va_up_ne _ _ (by omega)]; first | assumption | exact va_up_self _ _ _)))))) (by exact Nat.le_of_ble_eq_true rfl) (by decide +kernel) (by rfl) (by rfl) ?_
  refine mx_iconst (n := 0) (mx_d D_T_scan 6 rfl) ?_
  refine mx_istore_n (k4 := 2) (mx_d D_T_scan 7 rfl) (by decide) ?_
  rw [bx_uu]
  suffices H : ∀ (k i : Nat) (ce' : Nat → va_E) (c : Nat) (b : Bool) (t : Nat → Int), i + k = n → rdR Y ps t0 i = .inr (c, b, t) → (∀ k, k ≠ o → k ≠ a → ce' k = ce k) → ce' o = .inr (6, [.int (iI Y), .ref (mx_B G + a), .int (iI (c : Nat)), .int (iI (bI b))]) → ce' a = aI G 100 t → mx_M G Y_T_scan (d + 3) bc bs ex N ce' 12 [(0, .ref (mx_B G + o)), (1, .ref (mx_B G + po)), (2, .int (iI i))] [] Q from
    mx_loc (by rfl) (H n 0 _ 0 false t0 (by omega) rfl (fun k k1 k2 => va_up_ne _ _ k1) (va_up_self _ _ _) (by rw [va_up_ne _ _ (Ne.symm e1)]; exact h2))
  intro k
  induction k with
  | zero =>
    intro i ce' c b t hi hr k1 k2 k3
    obtain rfl : i = n := by omega
    have k4 : ce' po = _ := (k1 po (Ne.symm e2) (Ne.symm e4)).trans h3
    have hinv := (rdR_inv i hr).1
    have q9 := q ce' c b t k1 k2 k3
    simp only [rdOut, hr] at q9
    have ans : ∀ {l : List (Nat × Value)}, mx_get l 0 = some (.ref (mx_B G + o)) → mx_get l 1 = some (.ref (mx_B G + po)) → ¬ (b = true ∧ c % 3 = 2) → mx_M G Y_T_scan (d + 3) bc bs ex N ce' 81 l [] Q := by
      intro l l0 l1 hc
      rw [if_neg hc] at q9
      refine mx_loc (l' := [(0, .ref (mx_B G + o)), (1, .ref (mx_B G + po))]) (by simp only [List.map_cons, List.map_nil, l0, l1]) ?_
      refine mx_iconst (n := -1) (mx_d D_T_scan 47 rfl) ?_
      refine mx_aload_n (k4 := 1) (mx_d D_T_scan 48 rfl) (by rfl) ?_
      refine mx_getf hG (idx := 26) (ci := 5) (kf := 1) (mx_d D_T_scan 49 rfl) (by rfl) cls_P (by decide) w_122 (by first | assumption | omega) (by first | assumption | exact va_up_self _ _ _ | (rw [va_up_ne _ _ (by omega)]; first | assumption | exact va_up_self _ _ _ | (rw [va_up_ne _ _ (by omega)]; first | assumption | exact va_up_self _ _ _ | (rw [va_up_ne _ _ (by omega)]; first | assumption | exact va_up_self _ _ _ | (rw [va_up_ne _ _ (by omega)]; first | assumption | exact va_up_self _ _ _ | (rw [va_up_ne _ _ (by omega)]; first | assumption | exact va_up_self _ _ _)))))) (by rfl) ?_
      refine mx_isubI (mx_d D_T_scan 50 rfl) ?_
      refine mx_iret (by rfl) (mx_d D_T_scan 51 rfl) ?_
      exact q9 (fun h => absurd rfl h)
    refine mx_iload_n (k4 := 2) (mx_d D_T_scan 8 rfl) (by rfl) ?_
    refine mx_aload_n (k4 := 1) (mx_d D_T_scan 9 rfl) (by rfl) ?_
    refine mx_getf hG (idx := 26) (ci := 5) (kf := 1) (mx_d D_T_scan 10 rfl) (by rfl) cls_P (by decide) w_122 (by first | assumption | omega) (by first | assumption | exact va_up_self _ _ _ | (rw [va_up_ne _ _ (by omega)]; first | assumption | exact va_up_self _ _ _ | (rw [va_up_ne _ _ (by omega)]; first | assumption | exact va_up_self _ _ _ | (rw [va_up_ne _ _ (by omega)]; first | assumption | exact va_up_self _ _ _ | (rw [va_up_ne _ _ (by omega)]; first | assumption | exact va_up_self _ _ _ | (rw [va_up_ne _ _ (by omega)]; first | assumption | exact va_up_self _ _ _)))))) (by rfl) ?_
    refine mx_icmp_geY 43 (mx_d D_T_scan 11 rfl) (by decide) (by omega) (by omega) (by omega) (by omega) (by omega) ?_
    refine mx_aload_n (k4 := 0) (mx_d D_T_scan 25 rfl) (by rfl) ?_
    refine mx_getf hG (idx := 22) (ci := 6) (kf := 3) (mx_d D_T_scan 26 rfl) (by rfl) cls_T (by decide) w_139 (by first | assumption | omega) (by first | assumption | exact va_up_self _ _ _ | (rw [va_up_ne _ _ (by omega)]; first | assumption | exact va_up_self _ _ _ | (rw [va_up_ne _ _ (by omega)]; first | assumption | exact va_up_self _ _ _ | (rw [va_up_ne _ _ (by omega)]; first | assumption | exact va_up_self _ _ _ | (rw [va_up_ne _ _ (by omega)]; first | assumption | exact va_up_self _ _ _ | (rw [va_up_ne _ _ (by omega)]; first | assumption | exact va_up_self _ _ _)))))) (by rfl) ?_
    cases b with
    | false =>
      refine mx_if_eqY 64 (mx_d D_T_scan 27 rfl) (by decide) (by decide) (by decide) (by decide) ?_
      refine mx_iconst (n := 0) (mx_d D_T_scan 36 rfl) ?_
      refine mx_istore_n (k4 := 2) (mx_d D_T_scan 37 rfl) (by decide) ?_
      refine mx_iload_n (k4 := 2) (mx_d D_T_scan 38 rfl) (by rfl) ?_
      refine mx_if_eqY 81 (mx_d D_T_scan 39 rfl) (by decide) (by omega) (by omega) (by omega) ?_
      exact ans rfl rfl (by simp)
    | true =>
      refine mx_if_eqN 64 (mx_d D_T_scan 27 rfl) (by decide) (by decide) (by decide) (by decide) ?_
      refine mx_aload_n (k4 := 0) (mx_d D_T_scan 28 rfl) (by rfl) ?_
      refine mx_getf hG (idx := 19) (ci := 6) (kf := 2) (mx_d D_T_scan 29 rfl) (by rfl) cls_T (by decide) w_138 (by first | assumption | omega) (by first | assumption | exact va_up_self _ _ _ | (rw [va_up_ne _ _ (by omega)]; first | assumption | exact va_up_self _ _ _ | (rw [va_up_ne _ _ (by omega)]; first | assumption | exact va_up_self _ _ _ | (rw [va_up_ne _ _ (by omega)]; first | assumption | exact va_up_self _ _ _ | (rw [va_up_ne _ _ (by omega)]; first | assumption | exact va_up_self _ _ _ | (rw [va_up_ne _ _ (by omega)]; first | assumption | exact va_up_self _ _ _)))))) (by rfl) ?_
      refine mx_iconst (n := 3) (mx_d D_T_scan 30 rfl) ?_
      refine mx_remI (mx_d D_T_scan 31 rfl) (by omega) (by omega) (by omega) (by omega) ?_
      refine mx_iconst (n := 2) (mx_d D_T_scan 32 rfl) ?_
      by_cases hc : c % 3 = 2
      · refine mx_icmp_neN 64 (mx_d D_T_scan 33 rfl) (by decide) (by omega) (by omega) (by omega) (by omega) (by omega) ?_
        refine mx_iconst (n := 1) (mx_d D_T_scan 34 rfl) ?_
        refine mx_goto 65 (mx_d D_T_scan 35 rfl) (by decide) ?_
        refine mx_istore_n (k4 := 2) (mx_d D_T_scan 37 rfl) (by decide) ?_
        refine mx_iload_n (k4 := 2) (mx_d D_T_scan 38 rfl) (by rfl) ?_
        refine mx_if_eqN 81 (mx_d D_T_scan 39 rfl) (by decide) (by omega) (by omega) (by omega) ?_
        refine mx_aload_n (k4 := 0) (mx_d D_T_scan 40 rfl) (by rfl) ?_
        refine mx_getf hG (idx := 19) (ci := 6) (kf := 2) (mx_d D_T_scan 41 rfl) (by rfl) cls_T (by decide) w_138 (by first | assumption | omega) (by first | assumption | exact va_up_self _ _ _ | (rw [va_up_ne _ _ (by omega)]; first | assumption | exact va_up_self _ _ _ | (rw [va_up_ne _ _ (by omega)]; first | assumption | exact va_up_self _ _ _ | (rw [va_up_ne _ _ (by omega)]; first | assumption | exact va_up_self _ _ _ | (rw [va_up_ne _ _ (by omega)]; first | assumption | exact va_up_self _ _ _ | (rw [va_up_ne _ _ (by omega)]; first | assumption | exact va_up_self _ _ _)))))) (by rfl) ?_
        refine mx_iconst (n := 1) (mx_d D_T_scan 42 rfl) ?_
        refine mx_iaddI (mx_d D_T_scan 43 rfl) ?_
        refine mx_iconst (n := 3) (mx_d D_T_scan 44 rfl) ?_
        refine mx_divI (mx_d D_T_scan 45 rfl) (by omega) (by omega) (by omega) (by omega) ?_
        refine mx_goto 87 (mx_d D_T_scan 46 rfl) (by decide) ?_
        refine mx_iret (by rfl) (mx_d D_T_scan 51 rfl) ?_
        rw [if_pos ⟨rfl, hc⟩] at q9
        exact q9 (fun _ => rfl)
      · refine mx_icmp_neY 64 (mx_d D_T_scan 33 rfl) (by decide) (by omega) (by omega) (by omega) (by omega) (by omega) ?_
        refine mx_iconst (n := 0) (mx_d D_T_scan 36 rfl) ?_
        refine mx_istore_n (k4 := 2) (mx_d D_T_scan 37 rfl) (by decide) ?_
        refine mx_iload_n (k4 := 2) (mx_d D_T_scan 38 rfl) (by rfl) ?_
        refine mx_if_eqY 81 (mx_d D_T_scan 39 rfl) (by decide) (by omega) (by omega) (by omega) ?_
        exact ans rfl rfl (fun h => hc h.2)
  | succ k ih =>
    intro i ce' c b t hi hr k1 k2 k3
    have k4 : ce' po = _ := (k1 po (Ne.symm e2) (Ne.symm e4)).trans h3
    have k5 : ce' pa = _ := (k1 pa (Ne.symm e3) (Ne.symm e5)).trans h4
    have hinv := rdR_inv i hr
    have hc1 := hinv.1
    have hp1 := hp i (by omega)
    refine mx_iload_n (k4 := 2) (mx_d D_T_scan 8 rfl) (by rfl) ?_
    refine mx_aload_n (k4 := 1) (mx_d D_T_scan 9 rfl) (by rfl) ?_
    refine mx_getf hG (idx := 26) (ci := 5) (kf := 1) (mx_d D_T_scan 10 rfl) (by rfl) cls_P (by decide) w_122 (by first | assumption | omega) (by first | assumption | exact va_up_self _ _ _ | (rw [va_up_ne _ _ (by omega)]; first | assumption | exact va_up_self _ _ _ | (rw [va_up_ne _ _ (by omega)]; first | assumption | exact va_up_self _ _ _ | (rw [va_up_ne _ _ (by omega)]; first | assumption | exact va_up_self _ _ _ | (rw [va_up_ne _ _ (by omega)]; first | assumption | exact va_up_self _ _ _ | (rw [va_up_ne _ _ (by omega)]; first | assumption | exact va_up_self _ _ _)))))) (by rfl) ?_
    refine mx_icmp_geN 43 (mx_d D_T_scan 11 rfl) (by decide) (by omega) (by omega) (by omega) (by omega) (by omega) ?_
    refine mx_aload_n (k4 := 0) (mx_d D_T_scan 12 rfl) (by rfl) ?_
    refine mx_aload_n (k4 := 1) (mx_d D_T_scan 13 rfl) (by rfl) ?_
    refine mx_getf hG (idx := 31) (ci := 5) (kf := 0) (mx_d D_T_scan 14 rfl) (by rfl) cls_P (by decide) w_121 (by first | assumption | omega) (by first | assumption | exact va_up_self _ _ _ | (rw [va_up_ne _ _ (by omega)]; first | assumption | exact va_up_self _ _ _ | (rw [va_up_ne _ _ (by omega)]; first | assumption | exact va_up_self _ _ _ | (rw [va_up_ne _ _ (by omega)]; first | assumption | exact va_up_self _ _ _ | (rw [va_up_ne _ _ (by omega)]; first | assumption | exact va_up_self _ _ _ | (rw [va_up_ne _ _ (by omega)]; first | assumption | exact va_up_self _ _ _)))))) (by rfl) ?_
    refine mx_iload_n (k4 := 2) (mx_d D_T_scan 15 rfl) (by rfl) ?_
    refine mx_ialdI hG _ (mx_d D_T_scan 16 rfl) (by first | assumption | omega) (by first | assumption | exact va_up_self _ _ _ | (rw [va_up_ne _ _ (by omega)]; first | assumption | exact va_up_self _ _ _ | (rw [va_up_ne _ _ (by omega)]; first | assumption | exact va_up_self _ _ _ | (rw [va_up_ne _ _ (by omega)]; first | assumption | exact va_up_self _ _ _ | (rw [va_up_ne _ _ (by omega)]; first | assumption | exact va_up_self _ _ _ | (rw [va_up_ne _ _ (by omega)]; first | assumption | exact va_up_self _ _ _)))))) (by rfl) (by omega) (by omega) ?_
    refine mx_callV hG (Y' := Y_T_takes) (ci := 6) [_] (mx_d D_T_scan 17 rfl) in_T_takes w_209 w_211 s_T_takes (by rfl) np_T_takes (by exact Nat.le_of_ble_eq_true rfl) (by rfl) (by first | assumption | omega) (by first | assumption | exact va_up_self _ _ _ | (rw [va_up_ne _ _ (by omega)]; first | assumption | exact va_up_self _ _ _ | (rw [va_up_ne _ _ (by omega)]; first | assumption | exact va_up_self _ _ _ | (rw [va_up_ne _ _ (by omega)]; first | assumption | exact va_up_self _ _ _ | (rw [va_up_ne _ _ (by omega)]; first | assumption | exact va_up_self _ _ _ | (rw [va_up_ne _ _ (by omega)]; first | assumption | exact va_up_self _ _ _)))))) (by rfl) (by exact Nat.le_of_ble_eq_true rfl) (c_T_takes hG ho ha e1 k2 k3 hY (by omega) (fun hb => ⟨(hinv.2 c (Or.inr ⟨rfl, hb⟩)).1, rdOk_bd hY (hinv.2 c (Or.inr ⟨rfl, hb⟩)).2⟩) hp1.1 hp1.2 (fun hs => ?_) (fun ce2 c2 b2 t2 hs g1 g2 g3 => ?_))
    · refine mx_if_neN 37 (mx_d D_T_scan 18 rfl) (by decide) (by decide) (by decide) (by decide) ?_
      refine mx_iconst (n := -1) (mx_d D_T_scan 19 rfl) ?_
      refine mx_iload_n (k4 := 2) (mx_d D_T_scan 20 rfl) (by rfl) ?_
      refine mx_isubI (mx_d D_T_scan 21 rfl) ?_
      refine mx_iret (by rfl) (mx_d D_T_scan 22 rfl) ?_
      have hbad : rdR Y ps t0 n = .inl i := rdR_bad (n := i + 1) (by simp only [rdR, hr, hs]) (by omega)
      have q9 := q ce' c b t k1 k2 k3
      simp only [rdOut, hbad] at q9
      exact q9 (fun h => absurd rfl h)
    · refine mx_if_neY 37 (mx_d D_T_scan 18 rfl) (by decide) (by decide) (by decide) (by decide) ?_
      refine mx_iincI (i := 2) (n := 1) (mx_d D_T_scan 23 rfl) (by rfl) (by decide) ?_
      refine mx_goto 12 (mx_d D_T_scan 24 rfl) (by decide) ?_
      refine mx_loc (by rfl) (ih (i + 1) ce2 c2 b2 t2 (by omega) (by simp only [rdR, hr, hs]) (fun k9 h8 h9 => (g1 k9 h8 h9).trans (k1 k9 h8 h9)) g2 g3)
end TS
end
section
/-! LeastSet: what it means -/
def hyB (lc : Nat → Bool) (Y : Nat) (z : Int) : Bool := decide (0 ≤ z) && decide (z < Y) && lc z.toNat
def bgB (lc : Nat → Bool) (y : Nat) : Bool := lc y && (decide (y = 0) || !lc (y - 1))
def bgN (lc : Nat → Bool) : Nat → Nat
  | 0 => 0
  | n + 1 => bgN lc n + (if bgB lc n = true then 1 else 0)
theorem bgN_le (lc : Nat → Bool) (n : Nat) : bgN lc n ≤ n := by
  induction n with
  | zero => simp [bgN]
  | succ n ih => simp only [bgN]; split <;> omega
theorem bgN_mono (lc : Nat → Bool) {i n : Nat} (h : i ≤ n) : bgN lc i ≤ bgN lc n := by
  induction n with
  | zero => obtain rfl : i = 0 := by omega
            exact Nat.le_refl _
  | succ n ih =>
    by_cases hi : i = n + 1
    · subst hi; exact Nat.le_refl _
    · simp only [bgN]; have := ih (by omega); omega
def spOf (lc : Nat → Bool) (Y k F L : Nat) : Prop := F ≤ L ∧ L < Y ∧ bgB lc F = true ∧ bgN lc F = k ∧ (∀ j, F ≤ j → j ≤ L → lc j = true) ∧ ¬ (L + 1 < Y ∧ lc (L + 1) = true)
def spAll (lc : Nat → Bool) (Y n : Nat) (lf ll : Nat → Int) : Prop := ∀ k, k < n → ∃ F L : Nat, lf k = F ∧ ll k = L ∧ spOf lc Y k F L
def spOpen (lc : Nat → Bool) (Y i : Nat) : Prop := 0 < i ∧ i < Y ∧ lc (i - 1) = true ∧ lc i = true
def spInv (lc : Nat → Bool) (Y i n : Nat) (lf ll : Nat → Int) : Prop := n ≤ i ∧ spAll lc Y n lf ll ∧ (spOpen lc Y i → bgN lc i = n + 1 ∧ ∃ F : Nat, lf n = F ∧ F < i ∧ bgB lc F = true ∧ bgN lc F = n ∧ ∀ j, F ≤ j → j < i → lc j = true) ∧ (¬ spOpen lc Y i → bgN lc i = n)
/-- the years ahead of a year, by weight, then by number -/
def ahB (w : Nat → Int) (y j : Nat) : Bool := decide (w y < w j) || (decide (w j = w y) && decide (j < y))
def ahTo (w : Nat → Int) (y : Nat) (n : Nat) : Int := sumTo (fun j => if ahB w y j = true then w j else 0) n
def need (w : Nat → Int) (Y : Nat) (u v : Int) (y : Nat) : Bool := decide (0 < w y) && decide (ahTo w y Y * v < u * sumTo w Y)
def chTo (lc : Nat → Bool) (w : Nat → Int) (n : Nat) : Int := sumTo (fun j => if lc j = true then w j else 0) n
def cnB (lc : Nat → Bool) : Nat → Nat
  | 0 => 0
  | n + 1 => cnB lc n + (if lc n = true then 1 else 0)
theorem cnB_le (lc : Nat → Bool) (n : Nat) : cnB lc n ≤ n := by
  induction n with
  | zero => simp [cnB]
  | succ n ih => simp only [cnB]; split <;> omega
theorem cnB_all {lc : Nat → Bool} {n : Nat} (h : cnB lc n = n) {j : Nat} (hj : j < n) : lc j = true := by
  induction n with
  | zero => omega
  | succ n ih =>
    simp only [cnB] at h
    have h1 := cnB_le lc n
    by_cases hl : lc n = true
    · rw [if_pos hl] at h
      by_cases e : j = n
      · subst e; exact hl
      · exact ih (by omega) (by omega)
    · rw [if_neg hl] at h; omega
theorem cnB_none {lc : Nat → Bool} {n : Nat} (h : ∀ j, j < n → lc j = false) : cnB lc n = 0 := by
  induction n with
  | zero => rfl
  | succ n ih => simp only [cnB, ih (fun j hj => h j (by omega)), h n (by omega)]; rfl
theorem cnB_up {lc : Nat → Bool} {y n : Nat} (hf : lc y = false) : cnB (va_up lc y true) n = cnB lc n + (if y < n then 1 else 0) := by
  induction n with
  | zero => rfl
  | succ n ih =>
    simp only [cnB, ih]
    by_cases e : n = y
    · subst e; rw [va_up_self, hf]; simp
    · rw [va_up_ne _ _ e]
      by_cases h1 : y < n
      · rw [if_pos h1, if_pos (by omega : y < n + 1)]; omega
      · rw [if_neg h1, if_neg (by omega : ¬ y < n + 1)]; omega
theorem chTo_up {lc : Nat → Bool} {w : Nat → Int} {y n : Nat} (hf : lc y = false) : chTo (va_up lc y true) w n = chTo lc w n + (if y < n then w y else 0) := by
  unfold chTo
  induction n with
  | zero => rfl
  | succ n ih =>
    simp only [sumTo, ih]
    by_cases e : n = y
    · subst e; rw [va_up_self, hf]; simp
    · rw [va_up_ne _ _ e]
      by_cases h1 : y < n
      · rw [if_pos h1, if_pos (by omega : y < n + 1)]; omega
      · rw [if_neg h1, if_neg (by omega : ¬ y < n + 1)]; omega
theorem chTo_none {lc : Nat → Bool} {w : Nat → Int} {n : Nat} (h : ∀ j, j < n → lc j = false) : chTo lc w n = 0 := by
  unfold chTo
  induction n with
  | zero => rfl
  | succ n ih => simp only [sumTo, ih (fun j hj => h j (by omega)), h n (by omega)]; rfl
theorem sumTo_le {f g : Nat → Int} {n : Nat} (h : ∀ j, j < n → f j ≤ g j) : sumTo f n ≤ sumTo g n := by
  induction n with
  | zero => exact Int.le_refl _
  | succ n ih => simp only [sumTo]; have := ih (fun j hj => h j (by omega)); have := h n (by omega); omega
/-- what holds of the years picked so far -/
def gpInv (w : Nat → Int) (Y : Nat) (u v : Int) (lc : Nat → Bool) : Prop := (∀ y, y < Y → lc y = true → need w Y u v y = true) ∧ ∀ c y, c < Y → y < Y → lc c = true → lc y = false → 0 < w y → ahB w y c = true
theorem gp_ah {w : Nat → Int} {Y : Nat} {u v : Int} {lc : Nat → Bool} (hI : gpInv w Y u v lc) {y : Nat} (hy : y < Y) (hf : lc y = false) (hp : 0 < w y) (hg : ∀ j, j < Y → lc j = false → w j < w y ∨ (w j = w y ∧ y ≤ j)) : ahTo w y Y = chTo lc w Y := by
  unfold ahTo chTo
  refine sumTo_congr (fun j hj => ?_)
  cases hl : lc j with
  | true => rw [hI.2 j y hj hy hl hf hp]
  | false =>
    have := hg j hj hl
    have e : ahB w y j = false := by
      simp only [ahB, Bool.or_eq_false_iff, Bool.and_eq_false_iff, decide_eq_false_iff_not]
      omega
    rw [e]
theorem gp_step {w : Nat → Int} {Y : Nat} {u v : Int} {lc : Nat → Bool} (hI : gpInv w Y u v lc) {y : Nat} (hy : y < Y) (hf : lc y = false) (hp : 0 < w y) (hg : ∀ j, j < Y → lc j = false → w j < w y ∨ (w j = w y ∧ y ≤ j)) (hd : v * chTo lc w Y < u * sumTo w Y) : gpInv w Y u v (va_up lc y true) := by
  refine ⟨fun j hj hl => ?_, fun c j hc hj hlc hlj hpj => ?_⟩
  · by_cases e : j = y
    · subst e
      simp only [need, Bool.and_eq_true, decide_eq_true_eq]
      refine ⟨hp, ?_⟩
      rw [gp_ah hI hj hf hp hg, Int.mul_comm]
      exact hd
    · rw [va_up_ne _ _ e] at hl
      exact hI.1 j hj hl
  · have ejy : j ≠ y := fun e => by subst e; rw [va_up_self] at hlj; exact absurd hlj (by decide)
    rw [va_up_ne _ _ ejy] at hlj
    by_cases e : c = y
    · subst e
      have := hg j hj hlj
      simp only [ahB, Bool.or_eq_true, Bool.and_eq_true, decide_eq_true_eq]
      omega
    · rw [va_up_ne _ _ e] at hlc
      exact hI.2 c j hc hj hlc hlj hpj
/-- at the end the years picked are the needed ones -/
theorem gp_end {w : Nat → Int} {Y : Nat} {u v : Int} {lc : Nat → Bool} (hI : gpInv w Y u v lc) (hv : 0 ≤ v) (hw : ∀ j, j < Y → 0 ≤ w j) (he : (∀ j, j < Y → lc j = true) ∨ (∀ j, j < Y → lc j = false → w j ≤ 0) ∨ u * sumTo w Y ≤ v * chTo lc w Y) {y : Nat} (hy : y < Y) : lc y = need w Y u v y := by
  cases hl : lc y with
  | true => exact (hI.1 y hy hl).symm
  | false =>
    symm
    simp only [need, Bool.and_eq_false_iff, decide_eq_false_iff_not]
    rcases he with h | h | h
    · rw [h y hy] at hl; exact absurd hl (by decide)
    · left; have := h y hy hl; omega
    · by_cases hp : 0 < w y
      · right
        have h1 : chTo lc w Y ≤ ahTo w y Y := by
          refine sumTo_le (fun j hj => ?_)
          cases hlj : lc j with
          | true => rw [hI.2 j y hj hy hlj hl hp]; simp
          | false => have := hw j hj; simp; split <;> omega
        have h2 : v * chTo lc w Y ≤ ahTo w y Y * v := by
          rw [Int.mul_comm v]; exact Int.mul_le_mul_of_nonneg_right h1 hv
        omega
      · left; exact hp
end
section
/-! LeastSet: its walks -/
theorem chTo_bd {lc : Nat → Bool} {w : Nat → Int} {n : Nat} {M : Int} (hM : 0 ≤ M) (h : ∀ j, j < n → 0 ≤ w j ∧ w j ≤ M) : 0 ≤ chTo lc w n ∧ chTo lc w n ≤ n * M := by
  unfold chTo
  exact sumTo_bd (fun j hj => by have := h j hj; split <;> omega)
section LS
variable {G : mx_G} {d bc bs : Nat} {ex : Bool} {N : Nat} {ce : Nat → va_E} {Q : mx_P} {o c f l Y n : Nat} {lc : Nat → Bool} {lf ll : Nat → Int}
theorem c_L_init (hG : mx_ok G) (ho : o < N) (h1 : ce o = .inr (3, [.null, .null, .null, .int 0])) (hn : n ≤ 1000)
    (q : ∀ ce', (∀ k, k ≠ o → k < N → ce' k = ce k) → ce' o = .inr (3, [.ref (mx_B G + N), .ref (mx_B G + (N + 1)), .ref (mx_B G + (N + 2)), .int (iI 0)]) → ce' N = aB G n (fun _ => false) → ce' (N + 1) = aI G n (fun _ => 0) → ce' (N + 2) = aI G n (fun _ => 0) → Q (.inl none) (N + 3) ce' bc bs) : mx_M G Y_L_init d (bc + 3) (bs + n + n + n) true N ce 0 [(0, .ref (mx_B G + o)), (1, .int (iI n))] [] Q := by
  refine mx_aload_n (k4 := 0) (mx_d D_L_init 0 rfl) (by rfl) ?_
  refine mx_objInit (mx_d D_L_init 1 rfl) w_79 w_23 w_objcode (by exact Nat.le_of_ble_eq_true rfl) ?_
  refine mx_aload_n (k4 := 0) (mx_d D_L_init 2 rfl) (by rfl) ?_
  refine mx_iload_n (k4 := 1) (mx_d D_L_init 3 rfl) (by rfl) ?_
  refine mx_newaB hG (mx_d D_L_init 4 rfl) (by rfl) (by omega) ?_
  refine mx_putf hG (idx := 9) (ci := 3) (kf := 0) (t := (.array .boolean)) (mx_d D_L_init 5 rfl) (by rfl) cls_L (by decide) (Or.inr ⟨rfl, rfl, rfl⟩) w_80 (by first | assumption | omega) (by first | assumption | exact va_up_self _ _ _ | (rw [va_up_ne _ _ (by omega)]; first | assumption | exact va_up_self _ _ _ | (rw [va_up_ne _ _ (by omega)]; first | assumption | exact va_up_self _ _ _ | (rw [va_up_ne _ _ (by omega)]; first | assumption | exact va_up_self _ _ _ | (rw [va_up_ne _ _ (by omega)]; first | assumption | exact va_up_self _ _ _ | (rw [va_up_ne _ _ (by omega)]; first | assumption | exact va_up_self _ _ _)))))) (by exact Nat.le_of_ble_eq_true rfl) (by decide +kernel) (by rfl) (by rfl) ?_
  refine mx_aload_n (k4 := 0) (mx_d D_L_init 6 rfl) (by rfl) ?_
  refine mx_iload_n (k4 := 1) (mx_d D_L_init 7 rfl) (by rfl) ?_
  refine mx_newaI hG (mx_d D_L_init 8 rfl) (by rfl) (by omega) ?_
  refine mx_putf hG (idx := 15) (ci := 3) (kf := 1) (t := (.array .int)) (mx_d D_L_init 9 rfl) (by rfl) cls_L (by decide) (Or.inr ⟨rfl, rfl, rfl⟩) w_81 (by first | assumption | omega) (by first | assumption | exact va_up_self _ _ _ | (rw [va_up_ne _ _ (by omega)]; first | assumption | exact va_up_self _ _ _ | (rw [va_up_ne _ _ (by omega)]; first | assumption | exact va_up_self _ _ _ | (rw [va_up_ne _ _ (by omega)]; first | assumption | exact va_up_self _ _ _ | (rw [va_up_ne _ _ (by omega)]; first | assumption | exact va_up_self _ _ _ | (rw [va_up_ne _ _ (by omega)]; first | assumption | exact va_up_self _ _ _)))))) (by exact Nat.le_of_ble_eq_true rfl) (by decide +kernel) (by rfl) (by rfl) ?_
  refine mx_aload_n (k4 := 0) (mx_d D_L_init 10 rfl) (by rfl) ?_
  refine mx_iload_n (k4 := 1) (mx_d D_L_init 11 rfl) (by rfl) ?_
  refine mx_newaI hG (mx_d D_L_init 12 rfl) (by rfl) (by omega) ?_
  refine mx_putf hG (idx := 19) (ci := 3) (kf := 2) (t := (.array .int)) (mx_d D_L_init 13 rfl) (by rfl) cls_L (by decide) (Or.inr ⟨rfl, rfl, rfl⟩) w_83 (by first | assumption | omega) (by first | assumption | exact va_up_self _ _ _ | (rw [va_up_ne _ _ (by omega)]; first | assumption | exact va_up_self _ _ _ | (rw [va_up_ne _ _ (by omega)]; first | assumption | exact va_up_self _ _ _ | (rw [va_up_ne _ _ (by omega)]; first | assumption | exact va_up_self _ _ _ | (rw [va_up_ne _ _ (by omega)]; first | assumption | exact va_up_self _ _ _ | (rw [va_up_ne _ _ (by omega)]; first | assumption | exact va_up_self _ _ _)))))) (by exact Nat.le_of_ble_eq_true rfl) (by decide +kernel) (by rfl) (by rfl) ?_
  refine mx_vret (by rfl) (mx_d D_L_init 14 rfl) ?_
  refine q _ (fun k h1 h2 => ?_) (va_up_self _ _ _) ?_ ?_ ?_
  · rw [va_up_ne _ _ h1, va_up_ne _ _ (by omega), va_up_ne _ _ h1, va_up_ne _ _ (by omega), va_up_ne _ _ h1, va_up_ne _ _ (by omega)]
  · rw [va_up_ne _ _ (by omega), va_up_ne _ _ (by omega), va_up_ne _ _ (by omega), va_up_ne _ _ (by omega), va_up_ne _ _ (by omega), va_up_self]
  · rw [va_up_ne _ _ (by omega), va_up_ne _ _ (by omega), va_up_ne _ _ (by omega), va_up_self]
  · rw [va_up_ne _ _ (by omega), va_up_self]
theorem c_L_holds (hG : mx_ok G) (ho : o < N) (hc : c < N) {v1 v2 v3 : Value} (h1 : ce o = .inr (3, [.ref (mx_B G + c), v1, v2, v3])) (h2 : ce c = aB G Y lc) (hY : Y ≤ 60) {z : Int} (hz1 : -1 ≤ z) (hz2 : z ≤ 60)
    (q : Q (.inl (some (.int (iI (bI (hyB lc Y z)))))) N ce bc bs) : mx_M G Y_L_holdsYear d bc bs ex N ce 0 [(0, .ref (mx_B G + o)), (1, .int (iI z))] [] Q := by
  have no : hyB lc Y z = false → ∀ {l9 : List (Nat × Value)}, mx_M G Y_L_holdsYear d bc bs ex N ce 26 l9 [] Q := by
    intro hf l9
    refine mx_iconst (n := 0) (mx_d D_L_holdsYear 14 rfl) ?_
    refine mx_zret (by rfl) (mx_d D_L_holdsYear 15 rfl) (by first | rfl | assumption) ?_
    rw [hf] at q
    exact q
  refine mx_iload_n (k4 := 1) (mx_d D_L_holdsYear 0 rfl) (by rfl) ?_
  by_cases g1 : z < 0
  · refine mx_if_ltY 26 (mx_d D_L_holdsYear 1 rfl) (by decide) (by omega) (by omega) (by omega) ?_
    exact no (by simp [hyB]; omega)
  · refine mx_if_ltN 26 (mx_d D_L_holdsYear 1 rfl) (by decide) (by omega) (by omega) (by omega) ?_
    refine mx_iload_n (k4 := 1) (mx_d D_L_holdsYear 2 rfl) (by rfl) ?_
    refine mx_aload_n (k4 := 0) (mx_d D_L_holdsYear 3 rfl) (by rfl) ?_
    refine mx_getf hG (idx := 9) (ci := 3) (kf := 0) (mx_d D_L_holdsYear 4 rfl) (by rfl) cls_L (by decide) w_80 (by first | assumption | omega) (by first | assumption | exact va_up_self _ _ _ | (rw [va_up_ne _ _ (by omega)]; first | assumption | exact va_up_self _ _ _ | (rw [va_up_ne _ _ (by omega)]; first | assumption | exact va_up_self _ _ _ | (rw [va_up_ne _ _ (by omega)]; first | assumption | exact va_up_self _ _ _ | (rw [va_up_ne _ _ (by omega)]; first | assumption | exact va_up_self _ _ _ | (rw [va_up_ne _ _ (by omega)]; first | assumption | exact va_up_self _ _ _)))))) (by rfl) ?_
    refine mx_alen hG 1 (mx_d D_L_holdsYear 5 rfl) (by first | assumption | omega) (by first | assumption | exact va_up_self _ _ _ | (rw [va_up_ne _ _ (by omega)]; first | assumption | exact va_up_self _ _ _ | (rw [va_up_ne _ _ (by omega)]; first | assumption | exact va_up_self _ _ _ | (rw [va_up_ne _ _ (by omega)]; first | assumption | exact va_up_self _ _ _ | (rw [va_up_ne _ _ (by omega)]; first | assumption | exact va_up_self _ _ _ | (rw [va_up_ne _ _ (by omega)]; first | assumption | exact va_up_self _ _ _)))))) (by rfl) ?_
    by_cases g2 : z < (Y : Int)
    · obtain ⟨m, rfl⟩ : ∃ m : Nat, z = m := ⟨z.toNat, by omega⟩
      have e : hyB lc Y (m : Int) = lc m := by
        have : m < Y := by omega
        simp [hyB, this]
      refine mx_icmp_geN 26 (mx_d D_L_holdsYear 6 rfl) (by decide) (by omega) (by omega) (by omega) (by omega) (by omega) ?_
      refine mx_aload_n (k4 := 0) (mx_d D_L_holdsYear 7 rfl) (by rfl) ?_
      refine mx_getf hG (idx := 9) (ci := 3) (kf := 0) (mx_d D_L_holdsYear 8 rfl) (by rfl) cls_L (by decide) w_80 (by first | assumption | omega) (by first | assumption | exact va_up_self _ _ _ | (rw [va_up_ne _ _ (by omega)]; first | assumption | exact va_up_self _ _ _ | (rw [va_up_ne _ _ (by omega)]; first | assumption | exact va_up_self _ _ _ | (rw [va_up_ne _ _ (by omega)]; first | assumption | exact va_up_self _ _ _ | (rw [va_up_ne _ _ (by omega)]; first | assumption | exact va_up_self _ _ _ | (rw [va_up_ne _ _ (by omega)]; first | assumption | exact va_up_self _ _ _)))))) (by rfl) ?_
      refine mx_iload_n (k4 := 1) (mx_d D_L_holdsYear 9 rfl) (by rfl) ?_
      refine mx_zaldB hG _ (mx_d D_L_holdsYear 10 rfl) (by first | assumption | omega) (by first | assumption | exact va_up_self _ _ _ | (rw [va_up_ne _ _ (by omega)]; first | assumption | exact va_up_self _ _ _ | (rw [va_up_ne _ _ (by omega)]; first | assumption | exact va_up_self _ _ _ | (rw [va_up_ne _ _ (by omega)]; first | assumption | exact va_up_self _ _ _ | (rw [va_up_ne _ _ (by omega)]; first | assumption | exact va_up_self _ _ _ | (rw [va_up_ne _ _ (by omega)]; first | assumption | exact va_up_self _ _ _)))))) (by rfl) (by omega) (by omega) ?_
      rw [e] at no q
      cases hl : lc m with
      | true =>
        refine mx_if_eqN 26 (mx_d D_L_holdsYear 11 rfl) (by decide) (by decide) (by decide) (by decide) ?_
        refine mx_iconst (n := 1) (mx_d D_L_holdsYear 12 rfl) ?_
        refine mx_goto 27 (mx_d D_L_holdsYear 13 rfl) (by decide) ?_
        refine mx_zret (by rfl) (mx_d D_L_holdsYear 15 rfl) (by first | rfl | assumption) ?_
        rw [hl] at q
        exact q
      | false =>
        refine mx_if_eqY 26 (mx_d D_L_holdsYear 11 rfl) (by decide) (by decide) (by decide) (by decide) ?_
        exact no hl
    · refine mx_icmp_geY 26 (mx_d D_L_holdsYear 6 rfl) (by decide) (by omega) (by omega) (by omega) (by omega) (by omega) ?_
      exact no (by simp [hyB]; omega)
theorem c_L_heaviest (hG : mx_ok G) (ho : o < N) (hc : c < N) {v1 v2 v3 : Value} (h1 : ce o = .inr (3, [.ref (mx_B G + c), v1, v2, v3])) (h2 : ce c = aB G Y lc) (hY : Y ≤ 60) {D W : Nat} {w : Nat → Int} {v4 v5 : Value} (hD : D < N) (hW : W < N) (h3 : ce D = .inr (2, [.ref (mx_B G + W), v4, v5])) (h4 : ce W = aI G Y w) (hw : ∀ j, j < Y → 0 ≤ w j ∧ w j ≤ 1000000)
    (q0 : (∀ j, j < Y → lc j = false → w j ≤ 0) → Q (.inl (some (.int (iI (-1))))) N ce bc bs)
    (q1 : ∀ y, y < Y → lc y = false → 0 < w y → (∀ j, j < Y → lc j = false → w j < w y ∨ (w j = w y ∧ y ≤ j)) → Q (.inl (some (.int (iI (y : Nat))))) N ce bc bs) : mx_M G Y_L_heaviestLeft d bc bs ex N ce 0 [(0, .ref (mx_B G + o)), (1, .ref (mx_B G + D))] [] Q := by
  refine mx_iconst (n := -1) (mx_d D_L_heaviestLeft 0 rfl) ?_
  refine mx_istore_n (k4 := 2) (mx_d D_L_heaviestLeft 1 rfl) (by decide) ?_
  refine mx_iconst (n := 0) (mx_d D_L_heaviestLeft 2 rfl) ?_
  refine mx_istore_n (k4 := 3) (mx_d D_L_heaviestLeft 3 rfl) (by decide) ?_
  refine mx_iconst (n := 0) (mx_d D_L_heaviestLeft 4 rfl) ?_
  refine mx_istore (i := 4) (mx_d D_L_heaviestLeft 5 rfl) (by decide) ?_
  suffices H : ∀ (k i : Nat) (h g : Int), i + k = Y → ((h = -1 ∧ g = 0 ∧ ∀ j, j < i → lc j = false → w j ≤ 0) ∨ (∃ y : Nat, h = y ∧ g = w y ∧ y < i ∧ lc y = false ∧ 0 < w y ∧ ∀ j, j < i → lc j = false → w j < w y ∨ (w j = w y ∧ y ≤ j))) → mx_M G Y_L_heaviestLeft d bc bs ex N ce 7 [(0, .ref (mx_B G + o)), (1, .ref (mx_B G + D)), (2, .int (iI h)), (3, .int (iI g)), (4, .int (iI i))] [] Q from
    mx_loc (by rfl) (H Y 0 (-1) 0 (by omega) (Or.inl ⟨rfl, rfl, fun j hj => absurd hj (by omega)⟩))
  intro k
  induction k with
  | zero =>
    intro i h g hi hh
    obtain rfl : i = Y := by omega
    refine mx_iload (i := 4) (mx_d D_L_heaviestLeft 6 rfl) (by rfl) ?_
    refine mx_aload_n (k4 := 0) (mx_d D_L_heaviestLeft 7 rfl) (by rfl) ?_
    refine mx_getf hG (idx := 9) (ci := 3) (kf := 0) (mx_d D_L_heaviestLeft 8 rfl) (by rfl) cls_L (by decide) w_80 (by first | assumption | omega) (by first | assumption | exact va_up_self _ _ _ | (rw [va_up_ne _ _ (by omega)]; first | assumption | exact va_up_self _ _ _ | (rw [va_up_ne _ _ (by omega)]; first | assumption | exact va_up_self _ _ _ | (rw [va_up_ne _ _ (by omega)]; first | assumption | exact va_up_self _ _ _ | (rw [va_up_ne _ _ (by omega)]; first | assumption | exact va_up_self _ _ _ | (rw [va_up_ne _ _ (by omega)]; first | assumption | exact va_up_self _ _ _)))))) (by rfl) ?_
    refine mx_alen hG 1 (mx_d D_L_heaviestLeft 9 rfl) (by first | assumption | omega) (by first | assumption | exact va_up_self _ _ _ | (rw [va_up_ne _ _ (by omega)]; first | assumption | exact va_up_self _ _ _ | (rw [va_up_ne _ _ (by omega)]; first | assumption | exact va_up_self _ _ _ | (rw [va_up_ne _ _ (by omega)]; first | assumption | exact va_up_self _ _ _ | (rw [va_up_ne _ _ (by omega)]; first | assumption | exact va_up_self _ _ _ | (rw [va_up_ne _ _ (by omega)]; first | assumption | exact va_up_self _ _ _)))))) (by rfl) ?_
    refine mx_icmp_geY 55 (mx_d D_L_heaviestLeft 10 rfl) (by decide) (by omega) (by omega) (by omega) (by omega) (by omega) ?_
    refine mx_iload_n (k4 := 2) (mx_d D_L_heaviestLeft 31 rfl) (by rfl) ?_
    refine mx_iret (by rfl) (mx_d D_L_heaviestLeft 32 rfl) ?_
    rcases hh with ⟨rfl, rfl, hh⟩ | ⟨y, rfl, rfl, y1, y2, y3, y4⟩
    · exact q0 hh
    · exact q1 y y1 y2 y3 y4
  | succ k ih =>
    intro i h g hi hh
    have wi := hw i (by omega)
    have gb : 0 ≤ g ∧ g ≤ 1000000 := by
      rcases hh with ⟨rfl, rfl, hh⟩ | ⟨y, rfl, rfl, y1, y2, y3, y4⟩
      · omega
      · exact hw y (by omega)
    have stay : (lc i = false → w i ≤ g) → mx_M G Y_L_heaviestLeft d bc bs ex N ce 49 [(0, .ref (mx_B G + o)), (1, .ref (mx_B G + D)), (2, .int (iI h)), (3, .int (iI g)), (4, .int (iI i))] [] Q := by
      intro hl
      refine mx_iincI (i := 4) (n := 1) (mx_d D_L_heaviestLeft 29 rfl) (by rfl) (by decide) ?_
      refine mx_goto 7 (mx_d D_L_heaviestLeft 30 rfl) (by decide) ?_
      refine mx_loc (by rfl) (ih (i + 1) h g (by omega) ?_)
      rcases hh with ⟨rfl, rfl, hh⟩ | ⟨y, rfl, rfl, y1, y2, y3, y4⟩
      · refine Or.inl ⟨rfl, rfl, fun j hj hlj => ?_⟩
        by_cases e : j = i
        · subst e; exact hl hlj
        · exact hh j (by omega) hlj
      · refine Or.inr ⟨y, rfl, rfl, by omega, y2, y3, fun j hj hlj => ?_⟩
        by_cases e : j = i
        · subst e; have := hl hlj; omega
        · exact y4 j (by omega) hlj
    refine mx_iload (i := 4) (mx_d D_L_heaviestLeft 6 rfl) (by rfl) ?_
    refine mx_aload_n (k4 := 0) (mx_d D_L_heaviestLeft 7 rfl) (by rfl) ?_
    refine mx_getf hG (idx := 9) (ci := 3) (kf := 0) (mx_d D_L_heaviestLeft 8 rfl) (by rfl) cls_L (by decide) w_80 (by first | assumption | omega) (by first | assumption | exact va_up_self _ _ _ | (rw [va_up_ne _ _ (by omega)]; first | assumption | exact va_up_self _ _ _ | (rw [va_up_ne _ _ (by omega)]; first | assumption | exact va_up_self _ _ _ | (rw [va_up_ne _ _ (by omega)]; first | assumption | exact va_up_self _ _ _ | (rw [va_up_ne _ _ (by omega)]; first | assumption | exact va_up_self _ _ _ | (rw [va_up_ne _ _ (by omega)]; first | assumption | exact va_up_self _ _ _)))))) (by rfl) ?_
    refine mx_alen hG 1 (mx_d D_L_heaviestLeft 9 rfl) (by first | assumption | omega) (by first | assumption | exact va_up_self _ _ _ | (rw [va_up_ne _ _ (by omega)]; first | assumption | exact va_up_self _ _ _ | (rw [va_up_ne _ _ (by omega)]; first | assumption | exact va_up_self _ _ _ | (rw [va_up_ne _ _ (by omega)]; first | assumption | exact va_up_self _ _ _ | (rw [va_up_ne _ _ (by omega)]; first | assumption | exact va_up_self _ _ _ | (rw [va_up_ne _ _ (by omega)]; first | assumption | exact va_up_self _ _ _)))))) (by rfl) ?_
    refine mx_icmp_geN 55 (mx_d D_L_heaviestLeft 10 rfl) (by decide) (by omega) (by omega) (by omega) (by omega) (by omega) ?_
    refine mx_aload_n (k4 := 0) (mx_d D_L_heaviestLeft 11 rfl) (by rfl) ?_
    refine mx_getf hG (idx := 9) (ci := 3) (kf := 0) (mx_d D_L_heaviestLeft 12 rfl) (by rfl) cls_L (by decide) w_80 (by first | assumption | omega) (by first | assumption | exact va_up_self _ _ _ | (rw [va_up_ne _ _ (by omega)]; first | assumption | exact va_up_self _ _ _ | (rw [va_up_ne _ _ (by omega)]; first | assumption | exact va_up_self _ _ _ | (rw [va_up_ne _ _ (by omega)]; first | assumption | exact va_up_self _ _ _ | (rw [va_up_ne _ _ (by omega)]; first | assumption | exact va_up_self _ _ _ | (rw [va_up_ne _ _ (by omega)]; first | assumption | exact va_up_self _ _ _)))))) (by rfl) ?_
    refine mx_iload (i := 4) (mx_d D_L_heaviestLeft 13 rfl) (by rfl) ?_
    refine mx_zaldB hG _ (mx_d D_L_heaviestLeft 14 rfl) (by first | assumption | omega) (by first | assumption | exact va_up_self _ _ _ | (rw [va_up_ne _ _ (by omega)]; first | assumption | exact va_up_self _ _ _ | (rw [va_up_ne _ _ (by omega)]; first | assumption | exact va_up_self _ _ _ | (rw [va_up_ne _ _ (by omega)]; first | assumption | exact va_up_self _ _ _ | (rw [va_up_ne _ _ (by omega)]; first | assumption | exact va_up_self _ _ _ | (rw [va_up_ne _ _ (by omega)]; first | assumption | exact va_up_self _ _ _)))))) (by rfl) (by omega) (by omega) ?_
    cases hl : lc i with
    | true =>
      refine mx_if_neY 49 (mx_d D_L_heaviestLeft 15 rfl) (by decide) (by decide) (by decide) (by decide) ?_
      exact mx_loc (by rfl) (stay (fun h => absurd (hl.symm.trans h) (by decide)))
    | false =>
      refine mx_if_neN 49 (mx_d D_L_heaviestLeft 15 rfl) (by decide) (by decide) (by decide) (by decide) ?_
      refine mx_aload_n (k4 := 1) (mx_d D_L_heaviestLeft 16 rfl) (by rfl) ?_
      refine mx_getf hG (idx := 32) (ci := 2) (kf := 0) (mx_d D_L_heaviestLeft 17 rfl) (by rfl) cls_D (by decide) w_61 (by first | assumption | omega) (by first | assumption | exact va_up_self _ _ _ | (rw [va_up_ne _ _ (by omega)]; first | assumption | exact va_up_self _ _ _ | (rw [va_up_ne _ _ (by omega)]; first | assumption | exact va_up_self _ _ _ | (rw [va_up_ne _ _ (by omega)]; first | assumption | exact va_up_self _ _ _ | (rw [va_up_ne _ _ (by omega)]; first | assumption | exact va_up_self _ _ _ | (rw [va_up_ne _ _ (by omega)]; first | assumption | exact va_up_self _ _ _)))))) (by rfl) ?_
      refine mx_iload (i := 4) (mx_d D_L_heaviestLeft 18 rfl) (by rfl) ?_
      refine mx_ialdI hG _ (mx_d D_L_heaviestLeft 19 rfl) (by first | assumption | omega) (by first | assumption | exact va_up_self _ _ _ | (rw [va_up_ne _ _ (by omega)]; first | assumption | exact va_up_self _ _ _ | (rw [va_up_ne _ _ (by omega)]; first | assumption | exact va_up_self _ _ _ | (rw [va_up_ne _ _ (by omega)]; first | assumption | exact va_up_self _ _ _ | (rw [va_up_ne _ _ (by omega)]; first | assumption | exact va_up_self _ _ _ | (rw [va_up_ne _ _ (by omega)]; first | assumption | exact va_up_self _ _ _)))))) (by rfl) (by omega) (by omega) ?_
      refine mx_iload_n (k4 := 3) (mx_d D_L_heaviestLeft 20 rfl) (by rfl) ?_
      by_cases hg : w i ≤ g
      · refine mx_icmp_leY 49 (mx_d D_L_heaviestLeft 21 rfl) (by decide) (by omega) (by omega) (by omega) (by omega) (by omega) ?_
        exact mx_loc (by rfl) (stay (fun _ => hg))
      · refine mx_icmp_leN 49 (mx_d D_L_heaviestLeft 21 rfl) (by decide) (by omega) (by omega) (by omega) (by omega) (by omega) ?_
        refine mx_iload (i := 4) (mx_d D_L_heaviestLeft 22 rfl) (by rfl) ?_
        refine mx_istore_n (k4 := 2) (mx_d D_L_heaviestLeft 23 rfl) (by decide) ?_
        refine mx_aload_n (k4 := 1) (mx_d D_L_heaviestLeft 24 rfl) (by rfl) ?_
        refine mx_getf hG (idx := 32) (ci := 2) (kf := 0) (mx_d D_L_heaviestLeft 25 rfl) (by rfl) cls_D (by decide) w_61 (by first | assumption | omega) (by first | assumption | exact va_up_self _ _ _ | (rw [va_up_ne _ _ (by omega)]; first | assumption | exact va_up_self _ _ _ | (rw [va_up_ne _ _ (by omega)]; first | assumption | exact va_up_self _ _ _ | (rw [va_up_ne _ _ (by omega)]; first | assumption | exact va_up_self _ _ _ | (rw [va_up_ne _ _ (by omega)]; first | assumption | exact va_up_self _ _ _ | (rw [va_up_ne _ _ (by omega)]; first | assumption | exact va_up_self _ _ _)))))) (by rfl) ?_
        refine mx_iload (i := 4) (mx_d D_L_heaviestLeft 26 rfl) (by rfl) ?_
        refine mx_ialdI hG _ (mx_d D_L_heaviestLeft 27 rfl) (by first | assumption | omega) (by first | assumption | exact va_up_self _ _ _ | (rw [va_up_ne _ _ (by omega)]; first | assumption | exact va_up_self _ _ _ | (rw [va_up_ne _ _ (by omega)]; first | assumption | exact va_up_self _ _ _ | (rw [va_up_ne _ _ (by omega)]; first | assumption | exact va_up_self _ _ _ | (rw [va_up_ne _ _ (by omega)]; first | assumption | exact va_up_self _ _ _ | (rw [va_up_ne _ _ (by omega)]; first | assumption | exact va_up_self _ _ _)))))) (by rfl) (by omega) (by omega) ?_
        refine mx_istore_n (k4 := 3) (mx_d D_L_heaviestLeft 28 rfl) (by decide) ?_
        refine mx_iincI (i := 4) (n := 1) (mx_d D_L_heaviestLeft 29 rfl) (by rfl) (by decide) ?_
        refine mx_goto 7 (mx_d D_L_heaviestLeft 30 rfl) (by decide) ?_
        refine mx_loc (by rfl) (ih (i + 1) i (w i) (by omega) (Or.inr ⟨i, rfl, rfl, by omega, hl, by omega, fun j hj hlj => ?_⟩))
        by_cases e : j = i
        · subst e; omega
        · rcases hh with ⟨rfl, rfl, hh⟩ | ⟨y, rfl, rfl, y1, y2, y3, y4⟩
          · have := hh j (by omega) hlj; omega
          · have := y4 j (by omega) hlj; omega
theorem hyB_at {i : Nat} (hi : i < Y) : hyB lc Y (i : Int) = lc i := by simp [hyB, hi]
theorem c_L_findSpans (hG : mx_ok G) (ho : o < N) (hc : c < N) (hf : f < N) (hl : l < N) (e1 : o ≠ c) (e2 : o ≠ f) (e3 : o ≠ l) (e4 : c ≠ f) (e5 : c ≠ l) (e6 : f ≠ l) (h1 : ce o = .inr (3, [.ref (mx_B G + c), .ref (mx_B G + f), .ref (mx_B G + l), .int (iI n)])) (h2 : ce c = aB G Y lc) (h3 : ce f = aI G Y lf) (h4 : ce l = aI G Y ll) (hY : Y ≤ 60)
    (q : ∀ ce' lf' ll', (∀ k, k ≠ o → k ≠ f → k ≠ l → ce' k = ce k) → ce' o = .inr (3, [.ref (mx_B G + c), .ref (mx_B G + f), .ref (mx_B G + l), .int (iI (bgN lc Y : Nat))]) → ce' f = aI G Y lf' → ce' l = aI G Y ll' → spAll lc Y (bgN lc Y) lf' ll' → Q (.inl none) N ce' bc bs) : mx_M G Y_L_findSpans (d + 1) bc bs ex N ce 0 [(0, .ref (mx_B G + o))] [] Q := by
  refine mx_aload_n (k4 := 0) (mx_d D_L_findSpans 0 rfl) (by rfl) ?_
  refine mx_iconst (n := 0) (mx_d D_L_findSpans 1 rfl) ?_
  refine mx_putf hG (idx := 38) (ci := 3) (kf := 3) (t := (.int)) (mx_d D_L_findSpans 2 rfl) (by rfl) cls_L (by decide) (Or.inl rfl) w_85 (by first | assumption | omega) (by first | assumption | exact va_up_self _ _ _ | (rw [va_up_ne _ _ (by omega)]; first | assumption | exact va_up_self _ _ _ | (rw [va_up_ne _ _ (by omega)]; first | assumption | exact va_up_self _ _ _ | (rw [va_up_ne _ _ (by omega)]; first | assumption | exact va_up_self _ _ _ | (rw [va_up_ne _ _ (by omega)]; first | assumption | exact va_up_self _ _ _ | (rw [va_up_ne _ _ (by omega)]; first | assumption | exact va_up_self _ _ _)))))) (by exact Nat.le_of_ble_eq_true rfl) (by decide +kernel) (by rfl) (by rfl) ?_
  refine mx_iconst (n := 0) (mx_d D_L_findSpans 3 rfl) ?_
  refine mx_istore_n (k4 := 1) (mx_d D_L_findSpans 4 rfl) (by decide) ?_
  suffices H : ∀ (k i : Nat) (ce' : Nat → va_E) (n : Nat) (lf ll : Nat → Int), i + k = Y → spInv lc Y i n lf ll → (∀ k, k ≠ o → k ≠ f → k ≠ l → ce' k = ce k) → ce' o = .inr (3, [.ref (mx_B G + c), .ref (mx_B G + f), .ref (mx_B G + l), .int (iI (n : Nat))]) → ce' f = aI G Y lf → ce' l = aI G Y ll → mx_M G Y_L_findSpans (d + 1) bc bs ex N ce' 7 [(0, .ref (mx_B G + o)), (1, .int (iI i))] [] Q from
    mx_loc (by rfl) (H Y 0 _ 0 lf ll (by omega) ⟨by omega, fun k hk => absurd hk (by omega), fun h => absurd h.1 (by omega), fun _ => rfl⟩ (fun k k1 k2 k3 => va_up_ne _ _ k1) (va_up_self _ _ _) (by rw [va_up_ne _ _ (Ne.symm e2)]; exact h3) (by rw [va_up_ne _ _ (Ne.symm e3)]; exact h4))
  intro k
  induction k with
  | zero =>
    intro i ce' n lf ll hi hI k1 k2 k3 k4
    obtain rfl : i = Y := by omega
    have k5 : ce' c = _ := (k1 c (Ne.symm e1) e4 e5).trans h2
    have hn := hI.2.2.2 (fun h => absurd h.2.1 (by omega))
    refine mx_iload_n (k4 := 1) (mx_d D_L_findSpans 5 rfl) (by rfl) ?_
    refine mx_aload_n (k4 := 0) (mx_d D_L_findSpans 6 rfl) (by rfl) ?_
    refine mx_getf hG (idx := 9) (ci := 3) (kf := 0) (mx_d D_L_findSpans 7 rfl) (by rfl) cls_L (by decide) w_80 (by first | assumption | omega) (by first | assumption | exact va_up_self _ _ _ | (rw [va_up_ne _ _ (by omega)]; first | assumption | exact va_up_self _ _ _ | (rw [va_up_ne _ _ (by omega)]; first | assumption | exact va_up_self _ _ _ | (rw [va_up_ne _ _ (by omega)]; first | assumption | exact va_up_self _ _ _ | (rw [va_up_ne _ _ (by omega)]; first | assumption | exact va_up_self _ _ _ | (rw [va_up_ne _ _ (by omega)]; first | assumption | exact va_up_self _ _ _)))))) (by rfl) ?_
    refine mx_alen hG 1 (mx_d D_L_findSpans 8 rfl) (by first | assumption | omega) (by first | assumption | exact va_up_self _ _ _ | (rw [va_up_ne _ _ (by omega)]; first | assumption | exact va_up_self _ _ _ | (rw [va_up_ne _ _ (by omega)]; first | assumption | exact va_up_self _ _ _ | (rw [va_up_ne _ _ (by omega)]; first | assumption | exact va_up_self _ _ _ | (rw [va_up_ne _ _ (by omega)]; first | assumption | exact va_up_self _ _ _ | (rw [va_up_ne _ _ (by omega)]; first | assumption | exact va_up_self _ _ _)))))) (by rfl) ?_
    refine mx_icmp_geY 88 (mx_d D_L_findSpans 9 rfl) (by decide) (by omega) (by omega) (by omega) (by omega) (by omega) ?_
    refine mx_vret (by rfl) (mx_d D_L_findSpans 50 rfl) ?_
    exact q ce' lf ll k1 (by rw [hn]; exact k2) k3 k4 (by rw [hn]; exact hI.2.1)
  | succ k ih =>
    intro i ce' n lf ll hi hI k1 k2 k3 k4
    have k5 : ce' c = _ := (k1 c (Ne.symm e1) e4 e5).trans h2
    have hni := hI.1
    have hyi := hyB_at (lc := lc) (show i < Y by omega)
    have next : ∀ (ce' : Nat → va_E) (n : Nat) (lf ll : Nat → Int), spInv lc Y (i + 1) n lf ll → (∀ k, k ≠ o → k ≠ f → k ≠ l → ce' k = ce k) → ce' o = .inr (3, [.ref (mx_B G + c), .ref (mx_B G + f), .ref (mx_B G + l), .int (iI (n : Nat))]) → ce' f = aI G Y lf → ce' l = aI G Y ll → mx_M G Y_L_findSpans (d + 1) bc bs ex N ce' 82 [(0, .ref (mx_B G + o)), (1, .int (iI i))] [] Q := by
      intro ce' n lf ll hI k1 k2 k3 k4
      refine mx_iincI (i := 1) (n := 1) (mx_d D_L_findSpans 48 rfl) (by rfl) (by decide) ?_
      refine mx_goto 7 (mx_d D_L_findSpans 49 rfl) (by decide) ?_
      exact mx_loc (by rfl) (ih (i + 1) ce' n lf ll (by omega) hI k1 k2 k3 k4)
    refine mx_iload_n (k4 := 1) (mx_d D_L_findSpans 5 rfl) (by rfl) ?_
    refine mx_aload_n (k4 := 0) (mx_d D_L_findSpans 6 rfl) (by rfl) ?_
    refine mx_getf hG (idx := 9) (ci := 3) (kf := 0) (mx_d D_L_findSpans 7 rfl) (by rfl) cls_L (by decide) w_80 (by first | assumption | omega) (by first | assumption | exact va_up_self _ _ _ | (rw [va_up_ne _ _ (by omega)]; first | assumption | exact va_up_self _ _ _ | (rw [va_up_ne _ _ (by omega)]; first | assumption | exact va_up_self _ _ _ | (rw [va_up_ne _ _ (by omega)]; first | assumption | exact va_up_self _ _ _ | (rw [va_up_ne _ _ (by omega)]; first | assumption | exact va_up_self _ _ _ | (rw [va_up_ne _ _ (by omega)]; first | assumption | exact va_up_self _ _ _)))))) (by rfl) ?_
    refine mx_alen hG 1 (mx_d D_L_findSpans 8 rfl) (by first | assumption | omega) (by first | assumption | exact va_up_self _ _ _ | (rw [va_up_ne _ _ (by omega)]; first | assumption | exact va_up_self _ _ _ | (rw [va_up_ne _ _ (by omega)]; first | assumption | exact va_up_self _ _ _ | (rw [va_up_ne _ _ (by omega)]; first | assumption | exact va_up_self _ _ _ | (rw [va_up_ne _ _ (by omega)]; first | assumption | exact va_up_self _ _ _ | (rw [va_up_ne _ _ (by omega)]; first | assumption | exact va_up_self _ _ _)))))) (by rfl) ?_
    refine mx_icmp_geN 88 (mx_d D_L_findSpans 9 rfl) (by decide) (by omega) (by omega) (by omega) (by omega) (by omega) ?_
    refine mx_aload_n (k4 := 0) (mx_d D_L_findSpans 10 rfl) (by rfl) ?_
    refine mx_iload_n (k4 := 1) (mx_d D_L_findSpans 11 rfl) (by rfl) ?_
    refine mx_callV hG (Y' := Y_L_holdsYear) (ci := 3) [_] (mx_d D_L_findSpans 12 rfl) in_L_holdsYear w_511 w_513 s_L_holdsYear (by rfl) np_L_holdsYear (by exact Nat.le_of_ble_eq_true rfl) (by rfl) (by first | assumption | omega) (by first | assumption | exact va_up_self _ _ _ | (rw [va_up_ne _ _ (by omega)]; first | assumption | exact va_up_self _ _ _ | (rw [va_up_ne _ _ (by omega)]; first | assumption | exact va_up_self _ _ _ | (rw [va_up_ne _ _ (by omega)]; first | assumption | exact va_up_self _ _ _ | (rw [va_up_ne _ _ (by omega)]; first | assumption | exact va_up_self _ _ _ | (rw [va_up_ne _ _ (by omega)]; first | assumption | exact va_up_self _ _ _)))))) (by rfl) (by exact Nat.le_of_ble_eq_true rfl) (c_L_holds hG ho hc k2 k5 hY (by omega) (by omega) ?_)
    rw [hyi]
    cases hli : lc i with
    | false =>
      refine mx_if_eqY 44 (mx_d D_L_findSpans 13 rfl) (by decide) (by decide) (by decide) (by decide) ?_
      refine mx_aload_n (k4 := 0) (mx_d D_L_findSpans 26 rfl) (by rfl) ?_
      refine mx_iload_n (k4 := 1) (mx_d D_L_findSpans 27 rfl) (by rfl) ?_
      refine mx_callV hG (Y' := Y_L_holdsYear) (ci := 3) [_] (mx_d D_L_findSpans 28 rfl) in_L_holdsYear w_511 w_513 s_L_holdsYear (by rfl) np_L_holdsYear (by exact Nat.le_of_ble_eq_true rfl) (by rfl) (by first | assumption | omega) (by first | assumption | exact va_up_self _ _ _ | (rw [va_up_ne _ _ (by omega)]; first | assumption | exact va_up_self _ _ _ | (rw [va_up_ne _ _ (by omega)]; first | assumption | exact va_up_self _ _ _ | (rw [va_up_ne _ _ (by omega)]; first | assumption | exact va_up_self _ _ _ | (rw [va_up_ne _ _ (by omega)]; first | assumption | exact va_up_self _ _ _ | (rw [va_up_ne _ _ (by omega)]; first | assumption | exact va_up_self _ _ _)))))) (by rfl) (by exact Nat.le_of_ble_eq_true rfl) (c_L_holds hG ho hc k2 k5 hY (by omega) (by omega) ?_)
      rw [hyi, hli]
      refine mx_if_eqY 82 (mx_d D_L_findSpans 29 rfl) (by decide) (by decide) (by decide) (by decide) ?_
      refine mx_loc (by rfl) (next ce' n lf ll ⟨by omega, hI.2.1, fun h => ?_, fun _ => ?_⟩ k1 k2 k3 k4)
      · have := h.2.2.1; rw [Nat.add_sub_cancel, hli] at this; exact absurd this (by decide)
      · simp only [bgN, bgB, hli, Bool.false_and]
        exact hI.2.2.2 (fun h => by rw [h.2.2.2] at hli; exact absurd hli (by decide))
    | true =>
      have second : ∀ (ce' : Nat → va_E) (lf : Nat → Int) (F : Nat), lf n = F → F ≤ i → bgB lc F = true → bgN lc F = n → (∀ j, F ≤ j → j ≤ i → lc j = true) → bgN lc (i + 1) = n + 1 → spAll lc Y n lf ll → (∀ k, k ≠ o → k ≠ f → k ≠ l → ce' k = ce k) → ce' o = .inr (3, [.ref (mx_B G + c), .ref (mx_B G + f), .ref (mx_B G + l), .int (iI (n : Nat))]) → ce' f = aI G Y lf → ce' l = aI G Y ll → mx_M G Y_L_findSpans (d + 1) bc bs ex N ce' 44 [(0, .ref (mx_B G + o)), (1, .int (iI i))] [] Q := by
        intro ce' lf F f1 f2 f3 f4 f5 f6 f7 k1 k2 k3 k4
        have k5 : ce' c = _ := (k1 c (Ne.symm e1) e4 e5).trans h2
        refine mx_aload_n (k4 := 0) (mx_d D_L_findSpans 26 rfl) (by rfl) ?_
        refine mx_iload_n (k4 := 1) (mx_d D_L_findSpans 27 rfl) (by rfl) ?_
        refine mx_callV hG (Y' := Y_L_holdsYear) (ci := 3) [_] (mx_d D_L_findSpans 28 rfl) in_L_holdsYear w_511 w_513 s_L_holdsYear (by rfl) np_L_holdsYear (by exact Nat.le_of_ble_eq_true rfl) (by rfl) (by first | assumption | omega) (by first | assumption | exact va_up_self _ _ _ | (rw [va_up_ne _ _ (by omega)]; first | assumption | exact va_up_self _ _ _ | (rw [va_up_ne _ _ (by omega)]; first | assumption | exact va_up_self _ _ _ | (rw [va_up_ne _ _ (by omega)]; first | assumption | exact va_up_self _ _ _ | (rw [va_up_ne _ _ (by omega)]; first | assumption | exact va_up_self _ _ _ | (rw [va_up_ne _ _ (by omega)]; first | assumption | exact va_up_self _ _ _)))))) (by rfl) (by exact Nat.le_of_ble_eq_true rfl) (c_L_holds hG ho hc k2 k5 hY (by omega) (by omega) ?_)
        rw [hyi, hli]
        refine mx_if_eqN 82 (mx_d D_L_findSpans 29 rfl) (by decide) (by decide) (by decide) (by decide) ?_
        refine mx_aload_n (k4 := 0) (mx_d D_L_findSpans 30 rfl) (by rfl) ?_
        refine mx_iload_n (k4 := 1) (mx_d D_L_findSpans 31 rfl) (by rfl) ?_
        refine mx_iconst (n := 1) (mx_d D_L_findSpans 32 rfl) ?_
        refine mx_iaddI (mx_d D_L_findSpans 33 rfl) ?_
        refine mx_callV hG (Y' := Y_L_holdsYear) (ci := 3) [_] (mx_d D_L_findSpans 34 rfl) in_L_holdsYear w_511 w_513 s_L_holdsYear (by rfl) np_L_holdsYear (by exact Nat.le_of_ble_eq_true rfl) (by rfl) (by first | assumption | omega) (by first | assumption | exact va_up_self _ _ _ | (rw [va_up_ne _ _ (by omega)]; first | assumption | exact va_up_self _ _ _ | (rw [va_up_ne _ _ (by omega)]; first | assumption | exact va_up_self _ _ _ | (rw [va_up_ne _ _ (by omega)]; first | assumption | exact va_up_self _ _ _ | (rw [va_up_ne _ _ (by omega)]; first | assumption | exact va_up_self _ _ _ | (rw [va_up_ne _ _ (by omega)]; first | assumption | exact va_up_self _ _ _)))))) (by rfl) (by exact Nat.le_of_ble_eq_true rfl) (c_L_holds hG ho hc k2 k5 hY (by omega) (by omega) ?_)
        cases hn1 : hyB lc Y ((i : Int) + 1) with
        | true =>
          have hn2 : i + 1 < Y ∧ lc (i + 1) = true := by
            simp only [hyB, Bool.and_eq_true, decide_eq_true_eq] at hn1
            exact ⟨by omega, hn1.2⟩
          refine mx_if_neY 82 (mx_d D_L_findSpans 35 rfl) (by decide) (by decide) (by decide) (by decide) ?_
          refine mx_loc (by rfl) (next ce' n lf ll ⟨by omega, f7, fun _ => ⟨f6, F, f1, by omega, f3, f4, fun j j1 j2 => f5 j j1 (by omega)⟩, fun h => ?_⟩ k1 k2 k3 k4)
          exact absurd ⟨by omega, hn2.1, by rw [Nat.add_sub_cancel]; exact hli, hn2.2⟩ h
        | false =>
          have hn2 : ¬ (i + 1 < Y ∧ lc (i + 1) = true) := by
            intro h
            have : hyB lc Y ((i : Int) + 1) = true := by
              rw [show ((i : Int) + 1) = ((i + 1 : Nat) : Int) from rfl, hyB_at h.1]; exact h.2
            rw [this] at hn1; exact absurd hn1 (by decide)
          refine mx_if_neN 82 (mx_d D_L_findSpans 35 rfl) (by decide) (by decide) (by decide) (by decide) ?_
          refine mx_aload_n (k4 := 0) (mx_d D_L_findSpans 36 rfl) (by rfl) ?_
          refine mx_getf hG (idx := 19) (ci := 3) (kf := 2) (mx_d D_L_findSpans 37 rfl) (by rfl) cls_L (by decide) w_83 (by first | assumption | omega) (by first | assumption | exact va_up_self _ _ _ | (rw [va_up_ne _ _ (by omega)]; first | assumption | exact va_up_self _ _ _ | (rw [va_up_ne _ _ (by omega)]; first | assumption | exact va_up_self _ _ _ | (rw [va_up_ne _ _ (by omega)]; first | assumption | exact va_up_self _ _ _ | (rw [va_up_ne _ _ (by omega)]; first | assumption | exact va_up_self _ _ _ | (rw [va_up_ne _ _ (by omega)]; first | assumption | exact va_up_self _ _ _)))))) (by rfl) ?_
          refine mx_aload_n (k4 := 0) (mx_d D_L_findSpans 38 rfl) (by rfl) ?_
          refine mx_getf hG (idx := 38) (ci := 3) (kf := 3) (mx_d D_L_findSpans 39 rfl) (by rfl) cls_L (by decide) w_85 (by first | assumption | omega) (by first | assumption | exact va_up_self _ _ _ | (rw [va_up_ne _ _ (by omega)]; first | assumption | exact va_up_self _ _ _ | (rw [va_up_ne _ _ (by omega)]; first | assumption | exact va_up_self _ _ _ | (rw [va_up_ne _ _ (by omega)]; first | assumption | exact va_up_self _ _ _ | (rw [va_up_ne _ _ (by omega)]; first | assumption | exact va_up_self _ _ _ | (rw [va_up_ne _ _ (by omega)]; first | assumption | exact va_up_self _ _ _)))))) (by rfl) ?_
          refine mx_iload_n (k4 := 1) (mx_d D_L_findSpans 40 rfl) (by rfl) ?_
          refine mx_iastI hG _ _ (mx_d D_L_findSpans 41 rfl) (by first | assumption | omega) (by first | assumption | exact va_up_self _ _ _ | (rw [va_up_ne _ _ (by omega)]; first | assumption | exact va_up_self _ _ _ | (rw [va_up_ne _ _ (by omega)]; first | assumption | exact va_up_self _ _ _ | (rw [va_up_ne _ _ (by omega)]; first | assumption | exact va_up_self _ _ _ | (rw [va_up_ne _ _ (by omega)]; first | assumption | exact va_up_self _ _ _ | (rw [va_up_ne _ _ (by omega)]; first | assumption | exact va_up_self _ _ _)))))) (by rfl) (by rfl) (by omega) (by omega) ?_
          refine mx_aload_n (k4 := 0) (mx_d D_L_findSpans 42 rfl) (by rfl) ?_
          refine mx_dup (mx_d D_L_findSpans 43 rfl) (by rfl) ?_
          refine mx_getf hG (idx := 38) (ci := 3) (kf := 3) (mx_d D_L_findSpans 44 rfl) (by rfl) cls_L (by decide) w_85 (by first | assumption | omega) (by first | assumption | exact va_up_self _ _ _ | (rw [va_up_ne _ _ (by omega)]; first | assumption | exact va_up_self _ _ _ | (rw [va_up_ne _ _ (by omega)]; first | assumption | exact va_up_self _ _ _ | (rw [va_up_ne _ _ (by omega)]; first | assumption | exact va_up_self _ _ _ | (rw [va_up_ne _ _ (by omega)]; first | assumption | exact va_up_self _ _ _ | (rw [va_up_ne _ _ (by omega)]; first | assumption | exact va_up_self _ _ _)))))) (by rfl) ?_
          refine mx_iconst (n := 1) (mx_d D_L_findSpans 45 rfl) ?_
          refine mx_iaddI (mx_d D_L_findSpans 46 rfl) ?_
          refine mx_putf hG (idx := 38) (ci := 3) (kf := 3) (t := (.int)) (mx_d D_L_findSpans 47 rfl) (by rfl) cls_L (by decide) (Or.inl rfl) w_85 (by first | assumption | omega) (by first | assumption | exact va_up_self _ _ _ | (rw [va_up_ne _ _ (by omega)]; first | assumption | exact va_up_self _ _ _ | (rw [va_up_ne _ _ (by omega)]; first | assumption | exact va_up_self _ _ _ | (rw [va_up_ne _ _ (by omega)]; first | assumption | exact va_up_self _ _ _ | (rw [va_up_ne _ _ (by omega)]; first | assumption | exact va_up_self _ _ _ | (rw [va_up_ne _ _ (by omega)]; first | assumption | exact va_up_self _ _ _)))))) (by exact Nat.le_of_ble_eq_true rfl) (by decide +kernel) (by rfl) (by rfl) ?_
          refine mx_loc (by rfl) (next _ (n + 1) lf (va_up ll n i) ⟨by omega, fun k hk => ?_, fun h => absurd ⟨h.2.1, h.2.2.2⟩ hn2, fun _ => f6⟩ (fun k k6 k7 k8 => ?_) (va_up_self _ _ _) ?_ ?_)
          · by_cases e : k = n
            · subst e
              exact ⟨F, i, f1, va_up_self _ _ _, f2, by omega, f3, f4, f5, hn2⟩
            · rw [va_up_ne _ _ e]; exact f7 k (by omega)
          · rw [va_up_ne _ _ k6, va_up_ne _ _ k8]; exact k1 k k6 k7 k8
          · rw [va_up_ne _ _ (Ne.symm e2), va_up_ne _ _ e6]; exact k3
          · rw [va_up_ne _ _ (Ne.symm e3), va_up_self]
      refine mx_if_eqN 44 (mx_d D_L_findSpans 13 rfl) (by decide) (by decide) (by decide) (by decide) ?_
      refine mx_aload_n (k4 := 0) (mx_d D_L_findSpans 14 rfl) (by rfl) ?_
      refine mx_iload_n (k4 := 1) (mx_d D_L_findSpans 15 rfl) (by rfl) ?_
      refine mx_iconst (n := 1) (mx_d D_L_findSpans 16 rfl) ?_
      refine mx_isubI (mx_d D_L_findSpans 17 rfl) ?_
      refine mx_callV hG (Y' := Y_L_holdsYear) (ci := 3) [_] (mx_d D_L_findSpans 18 rfl) in_L_holdsYear w_511 w_513 s_L_holdsYear (by rfl) np_L_holdsYear (by exact Nat.le_of_ble_eq_true rfl) (by rfl) (by first | assumption | omega) (by first | assumption | exact va_up_self _ _ _ | (rw [va_up_ne _ _ (by omega)]; first | assumption | exact va_up_self _ _ _ | (rw [va_up_ne _ _ (by omega)]; first | assumption | exact va_up_self _ _ _ | (rw [va_up_ne _ _ (by omega)]; first | assumption | exact va_up_self _ _ _ | (rw [va_up_ne _ _ (by omega)]; first | assumption | exact va_up_self _ _ _ | (rw [va_up_ne _ _ (by omega)]; first | assumption | exact va_up_self _ _ _)))))) (by rfl) (by exact Nat.le_of_ble_eq_true rfl) (c_L_holds hG ho hc k2 k5 hY (by omega) (by omega) ?_)
      cases hp : hyB lc Y ((i : Int) - 1) with
      | true =>
        have hp2 : 0 < i ∧ lc (i - 1) = true := by
          simp only [hyB, Bool.and_eq_true, decide_eq_true_eq] at hp
          refine ⟨by omega, ?_⟩
          have := hp.2
          rw [show ((i : Int) - 1).toNat = i - 1 from by omega] at this
          exact this
        refine mx_if_neY 44 (mx_d D_L_findSpans 19 rfl) (by decide) (by decide) (by decide) (by decide) ?_
        obtain ⟨g1, F, g2, g3, g4, g5, g6⟩ := hI.2.2.1 ⟨hp2.1, by omega, hp2.2, hli⟩
        refine mx_loc (by rfl) (second ce' lf F g2 (by omega) g4 g5 (fun j j1 j2 => ?_) ?_ hI.2.1 k1 k2 k3 k4)
        · by_cases e : j = i
          · subst e; exact hli
          · exact g6 j j1 (by omega)
        · have : bgB lc i = false := by
            have h0 : ¬ i = 0 := by omega
            simp [bgB, hli, hp2.2, h0]
          simp only [bgN, this]
          exact g1
      | false =>
        have hp2 : i = 0 ∨ lc (i - 1) = false := by
          by_cases h0 : i = 0
          · exact Or.inl h0
          · right
            cases hq : lc (i - 1) with
            | false => rfl
            | true =>
              have : hyB lc Y ((i : Int) - 1) = true := by
                rw [show ((i : Int) - 1) = ((i - 1 : Nat) : Int) from by omega, hyB_at (by omega)]; exact hq
              rw [this] at hp; exact absurd hp (by decide)
        have hb : bgB lc i = true := by
          unfold bgB; rw [hli]; rcases hp2 with h | h <;> simp [h]
        have hno : ¬ spOpen lc Y i := by
          intro h
          rcases hp2 with h0 | h0
          · have := h.1; omega
          · rw [h.2.2.1] at h0; exact absurd h0 (by decide)
        refine mx_if_neN 44 (mx_d D_L_findSpans 19 rfl) (by decide) (by decide) (by decide) (by decide) ?_
        refine mx_aload_n (k4 := 0) (mx_d D_L_findSpans 20 rfl) (by rfl) ?_
        refine mx_getf hG (idx := 15) (ci := 3) (kf := 1) (mx_d D_L_findSpans 21 rfl) (by rfl) cls_L (by decide) w_81 (by first | assumption | omega) (by first | assumption | exact va_up_self _ _ _ | (rw [va_up_ne _ _ (by omega)]; first | assumption | exact va_up_self _ _ _ | (rw [va_up_ne _ _ (by omega)]; first | assumption | exact va_up_self _ _ _ | (rw [va_up_ne _ _ (by omega)]; first | assumption | exact va_up_self _ _ _ | (rw [va_up_ne _ _ (by omega)]; first | assumption | exact va_up_self _ _ _ | (rw [va_up_ne _ _ (by omega)]; first | assumption | exact va_up_self _ _ _)))))) (by rfl) ?_
        refine mx_aload_n (k4 := 0) (mx_d D_L_findSpans 22 rfl) (by rfl) ?_
        refine mx_getf hG (idx := 38) (ci := 3) (kf := 3) (mx_d D_L_findSpans 23 rfl) (by rfl) cls_L (by decide) w_85 (by first | assumption | omega) (by first | assumption | exact va_up_self _ _ _ | (rw [va_up_ne _ _ (by omega)]; first | assumption | exact va_up_self _ _ _ | (rw [va_up_ne _ _ (by omega)]; first | assumption | exact va_up_self _ _ _ | (rw [va_up_ne _ _ (by omega)]; first | assumption | exact va_up_self _ _ _ | (rw [va_up_ne _ _ (by omega)]; first | assumption | exact va_up_self _ _ _ | (rw [va_up_ne _ _ (by omega)]; first | assumption | exact va_up_self _ _ _)))))) (by rfl) ?_
        refine mx_iload_n (k4 := 1) (mx_d D_L_findSpans 24 rfl) (by rfl) ?_
        refine mx_iastI hG _ _ (mx_d D_L_findSpans 25 rfl) (by first | assumption | omega) (by first | assumption | exact va_up_self _ _ _ | (rw [va_up_ne _ _ (by omega)]; first | assumption | exact va_up_self _ _ _ | (rw [va_up_ne _ _ (by omega)]; first | assumption | exact va_up_self _ _ _ | (rw [va_up_ne _ _ (by omega)]; first | assumption | exact va_up_self _ _ _ | (rw [va_up_ne _ _ (by omega)]; first | assumption | exact va_up_self _ _ _ | (rw [va_up_ne _ _ (by omega)]; first | assumption | exact va_up_self _ _ _)))))) (by rfl) (by rfl) (by omega) (by omega) ?_
        refine mx_loc (by rfl) (second _ (va_up lf n i) i (va_up_self _ _ _) (by omega) hb (hI.2.2.2 hno) (fun j j1 j2 => by rw [show j = i from by omega]; exact hli) ?_ (fun k hk => ?_) (fun k k6 k7 k8 => ?_) ?_ ?_ ?_)
        · simp only [bgN, hb, if_true, hI.2.2.2 hno]
        · rw [va_up_ne _ _ (by omega)]; exact hI.2.1 k hk
        · rw [va_up_ne _ _ k7]; exact k1 k k6 k7 k8
        · rw [va_up_ne _ _ e2]; exact k2
        · rw [va_up_self]
        · rw [va_up_ne _ _ (Ne.symm e6)]; exact k4
theorem c_L_choose (hG : mx_ok G) (ho : o < N) (hc : c < N) (hf : f < N) (hl : l < N) (e1 : o ≠ c) (e2 : o ≠ f) (e3 : o ≠ l) (e4 : c ≠ f) (e5 : c ≠ l) (e6 : f ≠ l) (h1 : ce o = .inr (3, [.ref (mx_B G + c), .ref (mx_B G + f), .ref (mx_B G + l), .int (iI n)])) (h2 : ce c = aB G Y lc) (h3 : ce f = aI G Y lf) (h4 : ce l = aI G Y ll) (hY : Y ≤ 60) {D W : Nat} {w : Nat → Int} {A S : Int} (hD : D < N) (hW : W < N) (e7 : D ≠ c) (e8 : W ≠ c) (h5 : ce D = .inr (2, [.ref (mx_B G + W), .int (iI A), .int (iI S)])) (h6 : ce W = aI G Y w) (hw : ∀ j, j < Y → 0 ≤ w j ∧ w j ≤ 1000000) {u v : Int} (hu1 : 0 ≤ u) (hu2 : u ≤ 1000) (hv1 : 0 ≤ v) (hv2 : v ≤ 1000)
    (q : ∀ ce' lc' lf' ll', (∀ k, k ≠ o → k ≠ c → k ≠ f → k ≠ l → ce' k = ce k) → ce' o = .inr (3, [.ref (mx_B G + c), .ref (mx_B G + f), .ref (mx_B G + l), .int (iI (bgN lc' Y : Nat))]) → ce' c = aB G Y lc' → ce' f = aI G Y lf' → ce' l = aI G Y ll' → spAll lc' Y (bgN lc' Y) lf' ll' → (∀ y, y < Y → lc' y = need w Y u v y) → Q (.inl none) N ce' bc bs) : mx_M G Y_L_choose (d + 2) bc bs ex N ce 0 [(0, .ref (mx_B G + o)), (1, .ref (mx_B G + D)), (2, .int (iI u)), (3, .int (iI v))] [] Q := by
  have hsum := sumTo_bd (f := w) (n := Y) (M := 1000000) hw
  have hdue0 : 0 ≤ u * sumTo w Y := Int.mul_nonneg hu1 hsum.1
  have hdue1 : u * sumTo w Y ≤ 1000 * (60 * 1000000) := Int.mul_le_mul hu2 (by omega) hsum.1 (by omega)
  have last : ∀ (lc' : Nat → Bool) (l9 : List (Nat × Value)), mx_get l9 0 = some (.ref (mx_B G + o)) → (∀ y, y < Y → lc' y = need w Y u v y) → mx_M G Y_L_choose (d + 2) bc bs ex N (va_up ce c (aB G Y lc')) 107 l9 [] Q := by
    intro lc' l9 l0 hn
    refine mx_loc (l' := [(0, .ref (mx_B G + o))]) (by simp only [List.map_cons, List.map_nil, l0]) ?_
    refine mx_aload_n (k4 := 0) (mx_d D_L_choose 60 rfl) (by rfl) ?_
    refine mx_callV hG (Y' := Y_L_findSpans) (ci := 3) [] (mx_d D_L_choose 61 rfl) in_L_findSpans w_507 w_509 s_L_findSpans (by rfl) np_L_findSpans (by exact Nat.le_of_ble_eq_true rfl) (by rfl) (by first | assumption | omega) (by first | assumption | exact va_up_self _ _ _ | (rw [va_up_ne _ _ (by omega)]; first | assumption | exact va_up_self _ _ _ | (rw [va_up_ne _ _ (by omega)]; first | assumption | exact va_up_self _ _ _ | (rw [va_up_ne _ _ (by omega)]; first | assumption | exact va_up_self _ _ _ | (rw [va_up_ne _ _ (by omega)]; first | assumption | exact va_up_self _ _ _ | (rw [va_up_ne _ _ (by omega)]; first | assumption | exact va_up_self _ _ _)))))) (by rfl) (by exact Nat.le_of_ble_eq_true rfl) (c_L_findSpans hG ho hc hf hl e1 e2 e3 e4 e5 e6 ((va_up_ne _ _ e1).trans h1) (va_up_self _ _ _) ((va_up_ne _ _ (Ne.symm e4)).trans h3) ((va_up_ne _ _ (Ne.symm e5)).trans h4) hY (fun ce' lf' ll' k1 k2 k3 k4 k5 => ?_))
    refine mx_vret (by rfl) (mx_d D_L_choose 62 rfl) ?_
    refine q ce' lc' lf' ll' (fun k z1 z2 z3 z4 => ?_) k2 ?_ k3 k4 k5 hn
    · rw [k1 k z1 z3 z4, va_up_ne _ _ z2]
    · rw [k1 c (Ne.symm e1) e4 e5, va_up_self]
  have loop : ∀ (k i : Nat) (lc' : Nat → Bool), i + k = Y → gpInv w Y u v lc' → cnB lc' Y = i → mx_M G Y_L_choose (d + 2) bc bs ex N (va_up ce c (aB G Y lc')) 43 [(0, .ref (mx_B G + o)), (1, .ref (mx_B G + D)), (2, .int (iI u)), (3, .int (iI v)), (4, .long (lI (u * sumTo w Y))), (6, .long (lI (v * chTo lc' w Y))), (8, .int (iI i))] [] Q := by
    intro k
    induction k with
    | zero =>
      intro i lc' hi hI hn
      obtain rfl : i = Y := by omega
      refine mx_iload (i := 8) (mx_d D_L_choose 25 rfl) (by rfl) ?_
      refine mx_aload_n (k4 := 0) (mx_d D_L_choose 26 rfl) (by rfl) ?_
      refine mx_getf hG (idx := 9) (ci := 3) (kf := 0) (mx_d D_L_choose 27 rfl) (by rfl) cls_L (by decide) w_80 (by first | assumption | omega) (by first | assumption | exact va_up_self _ _ _ | (rw [va_up_ne _ _ (by omega)]; first | assumption | exact va_up_self _ _ _ | (rw [va_up_ne _ _ (by omega)]; first | assumption | exact va_up_self _ _ _ | (rw [va_up_ne _ _ (by omega)]; first | assumption | exact va_up_self _ _ _ | (rw [va_up_ne _ _ (by omega)]; first | assumption | exact va_up_self _ _ _ | (rw [va_up_ne _ _ (by omega)]; first | assumption | exact va_up_self _ _ _)))))) (by rfl) ?_
      refine mx_alen hG 1 (mx_d D_L_choose 28 rfl) (by first | assumption | omega) (by first | assumption | exact va_up_self _ _ _ | (rw [va_up_ne _ _ (by omega)]; first | assumption | exact va_up_self _ _ _ | (rw [va_up_ne _ _ (by omega)]; first | assumption | exact va_up_self _ _ _ | (rw [va_up_ne _ _ (by omega)]; first | assumption | exact va_up_self _ _ _ | (rw [va_up_ne _ _ (by omega)]; first | assumption | exact va_up_self _ _ _ | (rw [va_up_ne _ _ (by omega)]; first | assumption | exact va_up_self _ _ _)))))) (by rfl) ?_
      refine mx_icmp_geY 107 (mx_d D_L_choose 29 rfl) (by decide) (by omega) (by omega) (by omega) (by omega) (by omega) ?_
      exact last lc' _ rfl (fun y hy => gp_end hI hv1 (fun j hj => (hw j hj).1) (Or.inl (fun j hj => cnB_all hn hj)) hy)
    | succ k ih =>
      intro i lc' hi hI hn
      have hch := chTo_bd (lc := lc') (w := w) (n := Y) (M := 1000000) (by omega) hw
      have hh0 : 0 ≤ v * chTo lc' w Y := Int.mul_nonneg hv1 hch.1
      have hh1 : v * chTo lc' w Y ≤ 1000 * (60 * 1000000) := Int.mul_le_mul hv2 (by omega) hch.1 (by omega)
      refine mx_iload (i := 8) (mx_d D_L_choose 25 rfl) (by rfl) ?_
      refine mx_aload_n (k4 := 0) (mx_d D_L_choose 26 rfl) (by rfl) ?_
      refine mx_getf hG (idx := 9) (ci := 3) (kf := 0) (mx_d D_L_choose 27 rfl) (by rfl) cls_L (by decide) w_80 (by first | assumption | omega) (by first | assumption | exact va_up_self _ _ _ | (rw [va_up_ne _ _ (by omega)]; first | assumption | exact va_up_self _ _ _ | (rw [va_up_ne _ _ (by omega)]; first | assumption | exact va_up_self _ _ _ | (rw [va_up_ne _ _ (by omega)]; first | assumption | exact va_up_self _ _ _ | (rw [va_up_ne _ _ (by omega)]; first | assumption | exact va_up_self _ _ _ | (rw [va_up_ne _ _ (by omega)]; first | assumption | exact va_up_self _ _ _)))))) (by rfl) ?_
      refine mx_alen hG 1 (mx_d D_L_choose 28 rfl) (by first | assumption | omega) (by first | assumption | exact va_up_self _ _ _ | (rw [va_up_ne _ _ (by omega)]; first | assumption | exact va_up_self _ _ _ | (rw [va_up_ne _ _ (by omega)]; first | assumption | exact va_up_self _ _ _ | (rw [va_up_ne _ _ (by omega)]; first | assumption | exact va_up_self _ _ _ | (rw [va_up_ne _ _ (by omega)]; first | assumption | exact va_up_self _ _ _ | (rw [va_up_ne _ _ (by omega)]; first | assumption | exact va_up_self _ _ _)))))) (by rfl) ?_
      refine mx_icmp_geN 107 (mx_d D_L_choose 29 rfl) (by decide) (by omega) (by omega) (by omega) (by omega) (by omega) ?_
      refine mx_lload (i := 6) (mx_d D_L_choose 30 rfl) (by rfl) ?_
      refine mx_lload (i := 4) (mx_d D_L_choose 31 rfl) (by rfl) ?_
      refine mx_lcmpI (mx_d D_L_choose 32 rfl) (by omega) (by omega) (by omega) (by omega) ?_
      by_cases hd : u * sumTo w Y ≤ v * chTo lc' w Y
      · refine mx_if_geY 107 (mx_d D_L_choose 33 rfl) (by decide) (by split <;> (try split) <;> omega) (by split <;> (try split) <;> omega) (by split <;> (try split) <;> omega) ?_
        exact last lc' _ rfl (fun y hy => gp_end hI hv1 (fun j hj => (hw j hj).1) (Or.inr (Or.inr hd)) hy)
      · refine mx_if_geN 107 (mx_d D_L_choose 33 rfl) (by decide) (by split <;> (try split) <;> omega) (by split <;> (try split) <;> omega) (by split <;> (try split) <;> omega) ?_
        refine mx_aload_n (k4 := 0) (mx_d D_L_choose 34 rfl) (by rfl) ?_
        refine mx_aload_n (k4 := 1) (mx_d D_L_choose 35 rfl) (by rfl) ?_
        refine mx_callV hG (Y' := Y_L_heaviestLeft) (ci := 3) [_] (mx_d D_L_choose 36 rfl) in_L_heaviestLeft w_503 w_505 s_L_heaviestLeft (by rfl) np_L_heaviestLeft (by exact Nat.le_of_ble_eq_true rfl) (by rfl) (by first | assumption | omega) (by first | assumption | exact va_up_self _ _ _ | (rw [va_up_ne _ _ (by omega)]; first | assumption | exact va_up_self _ _ _ | (rw [va_up_ne _ _ (by omega)]; first | assumption | exact va_up_self _ _ _ | (rw [va_up_ne _ _ (by omega)]; first | assumption | exact va_up_self _ _ _ | (rw [va_up_ne _ _ (by omega)]; first | assumption | exact va_up_self _ _ _ | (rw [va_up_ne _ _ (by omega)]; first | assumption | exact va_up_self _ _ _)))))) (by rfl) (by exact Nat.le_of_ble_eq_true rfl) (c_L_heaviest hG ho hc ((va_up_ne _ _ e1).trans h1) (va_up_self _ _ _) hY hD hW ((va_up_ne _ _ e7).trans h5) ((va_up_ne _ _ e8).trans h6) hw (fun hno => ?_) (fun y y1 y2 y3 y4 => ?_))
        · refine mx_istore (i := 9) (mx_d D_L_choose 37 rfl) (by decide) ?_
          refine mx_iload (i := 9) (mx_d D_L_choose 38 rfl) (by rfl) ?_
          refine mx_iconst (n := -1) (mx_d D_L_choose 39 rfl) ?_
          refine mx_icmp_neN 77 (mx_d D_L_choose 40 rfl) (by decide) (by omega) (by omega) (by omega) (by omega) (by omega) ?_
          refine mx_goto 107 (mx_d D_L_choose 41 rfl) (by decide) ?_
          exact last lc' _ rfl (fun y hy => gp_end hI hv1 (fun j hj => (hw j hj).1) (Or.inr (Or.inl hno)) hy)
        · have wy := hw y y1
          refine mx_istore (i := 9) (mx_d D_L_choose 37 rfl) (by decide) ?_
          refine mx_iload (i := 9) (mx_d D_L_choose 38 rfl) (by rfl) ?_
          refine mx_iconst (n := -1) (mx_d D_L_choose 39 rfl) ?_
          refine mx_icmp_neY 77 (mx_d D_L_choose 40 rfl) (by decide) (by omega) (by omega) (by omega) (by omega) (by omega) ?_
          refine mx_aload_n (k4 := 0) (mx_d D_L_choose 42 rfl) (by rfl) ?_
          refine mx_getf hG (idx := 9) (ci := 3) (kf := 0) (mx_d D_L_choose 43 rfl) (by rfl) cls_L (by decide) w_80 (by first | assumption | omega) (by first | assumption | exact va_up_self _ _ _ | (rw [va_up_ne _ _ (by omega)]; first | assumption | exact va_up_self _ _ _ | (rw [va_up_ne _ _ (by omega)]; first | assumption | exact va_up_self _ _ _ | (rw [va_up_ne _ _ (by omega)]; first | assumption | exact va_up_self _ _ _ | (rw [va_up_ne _ _ (by omega)]; first | assumption | exact va_up_self _ _ _ | (rw [va_up_ne _ _ (by omega)]; first | assumption | exact va_up_self _ _ _)))))) (by rfl) ?_
          refine mx_iload (i := 9) (mx_d D_L_choose 44 rfl) (by rfl) ?_
          refine mx_iconst (n := 1) (mx_d D_L_choose 45 rfl) ?_
          refine mx_zastB hG _ (true) (mx_d D_L_choose 46 rfl) (by first | assumption | omega) (by first | assumption | exact va_up_self _ _ _ | (rw [va_up_ne _ _ (by omega)]; first | assumption | exact va_up_self _ _ _ | (rw [va_up_ne _ _ (by omega)]; first | assumption | exact va_up_self _ _ _ | (rw [va_up_ne _ _ (by omega)]; first | assumption | exact va_up_self _ _ _ | (rw [va_up_ne _ _ (by omega)]; first | assumption | exact va_up_self _ _ _ | (rw [va_up_ne _ _ (by omega)]; first | assumption | exact va_up_self _ _ _)))))) (by rfl) (by rfl) (by omega) (by omega) ?_
          rw [bx_uu]
          refine mx_lload (i := 6) (mx_d D_L_choose 47 rfl) (by rfl) ?_
          refine mx_iload_n (k4 := 3) (mx_d D_L_choose 48 rfl) (by rfl) ?_
          refine mx_i2lI (mx_d D_L_choose 49 rfl) (by omega) (by omega) ?_
          refine mx_aload_n (k4 := 1) (mx_d D_L_choose 50 rfl) (by rfl) ?_
          refine mx_getf hG (idx := 32) (ci := 2) (kf := 0) (mx_d D_L_choose 51 rfl) (by rfl) cls_D (by decide) w_61 (by first | assumption | omega) (by first | assumption | exact va_up_self _ _ _ | (rw [va_up_ne _ _ (by omega)]; first | assumption | exact va_up_self _ _ _ | (rw [va_up_ne _ _ (by omega)]; first | assumption | exact va_up_self _ _ _ | (rw [va_up_ne _ _ (by omega)]; first | assumption | exact va_up_self _ _ _ | (rw [va_up_ne _ _ (by omega)]; first | assumption | exact va_up_self _ _ _ | (rw [va_up_ne _ _ (by omega)]; first | assumption | exact va_up_self _ _ _)))))) (by rfl) ?_
          refine mx_iload (i := 9) (mx_d D_L_choose 52 rfl) (by rfl) ?_
          refine mx_ialdI hG _ (mx_d D_L_choose 53 rfl) (by first | assumption | omega) (by first | assumption | exact va_up_self _ _ _ | (rw [va_up_ne _ _ (by omega)]; first | assumption | exact va_up_self _ _ _ | (rw [va_up_ne _ _ (by omega)]; first | assumption | exact va_up_self _ _ _ | (rw [va_up_ne _ _ (by omega)]; first | assumption | exact va_up_self _ _ _ | (rw [va_up_ne _ _ (by omega)]; first | assumption | exact va_up_self _ _ _ | (rw [va_up_ne _ _ (by omega)]; first | assumption | exact va_up_self _ _ _)))))) (by rfl) (by omega) (by omega) ?_
          refine mx_i2lI (mx_d D_L_choose 54 rfl) (by omega) (by omega) ?_
          refine mx_lmulI (mx_d D_L_choose 55 rfl) ?_
          refine mx_laddI (mx_d D_L_choose 56 rfl) ?_
          refine mx_lstore (i := 6) (mx_d D_L_choose 57 rfl) (by decide) ?_
          refine mx_iincI (i := 8) (n := 1) (mx_d D_L_choose 58 rfl) (by rfl) (by decide) ?_
          refine mx_goto 43 (mx_d D_L_choose 59 rfl) (by decide) ?_
          have hu9 := chTo_up (w := w) (n := Y) y2
          have hc9 := cnB_up (n := Y) y2
          rw [if_pos y1] at hu9 hc9
          refine mx_loc ?_ (ih (i + 1) (va_up lc' y true) (by omega) (gp_step hI y1 y2 y3 y4 (by omega)) (by omega))
          rw [hu9, Int.mul_add]
          rfl
  refine mx_iconst (n := 0) (mx_d D_L_choose 0 rfl) ?_
  refine mx_istore (i := 4) (mx_d D_L_choose 1 rfl) (by decide) ?_
  suffices H : ∀ (k i : Nat) (lc' : Nat → Bool), i + k = Y → (∀ j, j < i → lc' j = false) → mx_M G Y_L_choose (d + 2) bc bs ex N (va_up ce c (aB G Y lc')) 3 [(0, .ref (mx_B G + o)), (1, .ref (mx_B G + D)), (2, .int (iI u)), (3, .int (iI v)), (4, .int (iI i))] [] Q by
    have H0 := H Y 0 lc (by omega) (fun j hj => absurd hj (by omega))
    rw [va_up_id ce c h2] at H0
    exact mx_loc (by rfl) H0
  intro k
  induction k with
  | zero =>
    intro i lc' hi hz
    obtain rfl : i = Y := by omega
    refine mx_iload (i := 4) (mx_d D_L_choose 2 rfl) (by rfl) ?_
    refine mx_aload_n (k4 := 0) (mx_d D_L_choose 3 rfl) (by rfl) ?_
    refine mx_getf hG (idx := 9) (ci := 3) (kf := 0) (mx_d D_L_choose 4 rfl) (by rfl) cls_L (by decide) w_80 (by first | assumption | omega) (by first | assumption | exact va_up_self _ _ _ | (rw [va_up_ne _ _ (by omega)]; first | assumption | exact va_up_self _ _ _ | (rw [va_up_ne _ _ (by omega)]; first | assumption | exact va_up_self _ _ _ | (rw [va_up_ne _ _ (by omega)]; first | assumption | exact va_up_self _ _ _ | (rw [va_up_ne _ _ (by omega)]; first | assumption | exact va_up_self _ _ _ | (rw [va_up_ne _ _ (by omega)]; first | assumption | exact va_up_self _ _ _)))))) (by rfl) ?_
    refine mx_alen hG 1 (mx_d D_L_choose 5 rfl) (by first | assumption | omega) (by first | assumption | exact va_up_self _ _ _ | (rw [va_up_ne _ _ (by omega)]; first | assumption | exact va_up_self _ _ _ | (rw [va_up_ne _ _ (by omega)]; first | assumption | exact va_up_self _ _ _ | (rw [va_up_ne _ _ (by omega)]; first | assumption | exact va_up_self _ _ _ | (rw [va_up_ne _ _ (by omega)]; first | assumption | exact va_up_self _ _ _ | (rw [va_up_ne _ _ (by omega)]; first | assumption | exact va_up_self _ _ _)))))) (by rfl) ?_
    refine mx_icmp_geY 27 (mx_d D_L_choose 6 rfl) (by decide) (by omega) (by omega) (by omega) (by omega) (by omega) ?_
    refine mx_iload_n (k4 := 2) (mx_d D_L_choose 14 rfl) (by rfl) ?_
    refine mx_i2lI (mx_d D_L_choose 15 rfl) (by omega) (by omega) ?_
    refine mx_aload_n (k4 := 1) (mx_d D_L_choose 16 rfl) (by rfl) ?_
    refine mx_callV hG (Y' := Y_D_allWeights) (ci := 2) [] (mx_d D_L_choose 17 rfl) in_D_allWeights w_502 w_441 s_D_allWeights (by rfl) np_D_allWeights (by exact Nat.le_of_ble_eq_true rfl) (by rfl) (by first | assumption | omega) (by first | assumption | exact va_up_self _ _ _ | (rw [va_up_ne _ _ (by omega)]; first | assumption | exact va_up_self _ _ _ | (rw [va_up_ne _ _ (by omega)]; first | assumption | exact va_up_self _ _ _ | (rw [va_up_ne _ _ (by omega)]; first | assumption | exact va_up_self _ _ _ | (rw [va_up_ne _ _ (by omega)]; first | assumption | exact va_up_self _ _ _ | (rw [va_up_ne _ _ (by omega)]; first | assumption | exact va_up_self _ _ _)))))) (by rfl) (by exact Nat.le_of_ble_eq_true rfl) (c_D_all hG hD hW ((va_up_ne _ _ e7).trans h5) ((va_up_ne _ _ e8).trans h6) (by omega) ?_)
    refine mx_i2lI (mx_d D_L_choose 18 rfl) (by omega) (by omega) ?_
    refine mx_lmulI (mx_d D_L_choose 19 rfl) ?_
    refine mx_lstore (i := 4) (mx_d D_L_choose 20 rfl) (by decide) ?_
    refine mx_lconst (n := 0) (v := lI 0) (mx_d D_L_choose 21 rfl) (by rfl) ?_
    refine mx_lstore (i := 6) (mx_d D_L_choose 22 rfl) (by decide) ?_
    refine mx_iconst (n := 0) (mx_d D_L_choose 23 rfl) ?_
    refine mx_istore (i := 8) (mx_d D_L_choose 24 rfl) (by decide) ?_
    refine mx_loc ?_ (loop i 0 lc' (by omega) ⟨fun y hy hl => ?_, fun c y hc hy hl => ?_⟩ (cnB_none hz))
    · rw [chTo_none hz, Int.mul_zero]; rfl
    · rw [hz y hy] at hl; exact absurd hl (by decide)
    · rw [hz c hc] at hl; exact absurd hl (by decide)
  | succ k ih =>
    intro i lc' hi hz
    refine mx_iload (i := 4) (mx_d D_L_choose 2 rfl) (by rfl) ?_
    refine mx_aload_n (k4 := 0) (mx_d D_L_choose 3 rfl) (by rfl) ?_
    refine mx_getf hG (idx := 9) (ci := 3) (kf := 0) (mx_d D_L_choose 4 rfl) (by rfl) cls_L (by decide) w_80 (by first | assumption | omega) (by first | assumption | exact va_up_self _ _ _ | (rw [va_up_ne _ _ (by omega)]; first | assumption | exact va_up_self _ _ _ | (rw [va_up_ne _ _ (by omega)]; first | assumption | exact va_up_self _ _ _ | (rw [va_up_ne _ _ (by omega)]; first | assumption | exact va_up_self _ _ _ | (rw [va_up_ne _ _ (by omega)]; first | assumption | exact va_up_self _ _ _ | (rw [va_up_ne _ _ (by omega)]; first | assumption | exact va_up_self _ _ _)))))) (by rfl) ?_
    refine mx_alen hG 1 (mx_d D_L_choose 5 rfl) (by first | assumption | omega) (by first | assumption | exact va_up_self _ _ _ | (rw [va_up_ne _ _ (by omega)]; first | assumption | exact va_up_self _ _ _ | (rw [va_up_ne _ _ (by omega)]; first | assumption | exact va_up_self _ _ _ | (rw [va_up_ne _ _ (by omega)]; first | assumption | exact va_up_self _ _ _ | (rw [va_up_ne _ _ (by omega)]; first | assumption | exact va_up_self _ _ _ | (rw [va_up_ne _ _ (by omega)]; first | assumption | exact va_up_self _ _ _)))))) (by rfl) ?_
    refine mx_icmp_geN 27 (mx_d D_L_choose 6 rfl) (by decide) (by omega) (by omega) (by omega) (by omega) (by omega) ?_
    refine mx_aload_n (k4 := 0) (mx_d D_L_choose 7 rfl) (by rfl) ?_
    refine mx_getf hG (idx := 9) (ci := 3) (kf := 0) (mx_d D_L_choose 8 rfl) (by rfl) cls_L (by decide) w_80 (by first | assumption | omega) (by first | assumption | exact va_up_self _ _ _ | (rw [va_up_ne _ _ (by omega)]; first | assumption | exact va_up_self _ _ _ | (rw [va_up_ne _ _ (by omega)]; first | assumption | exact va_up_self _ _ _ | (rw [va_up_ne _ _ (by omega)]; first | assumption | exact va_up_self _ _ _ | (rw [va_up_ne _ _ (by omega)]; first | assumption | exact va_up_self _ _ _ | (rw [va_up_ne _ _ (by omega)]; first | assumption | exact va_up_self _ _ _)))))) (by rfl) ?_
    refine mx_iload (i := 4) (mx_d D_L_choose 9 rfl) (by rfl) ?_
    refine mx_iconst (n := 0) (mx_d D_L_choose 10 rfl) ?_
    refine mx_zastB hG _ (false) (mx_d D_L_choose 11 rfl) (by first | assumption | omega) (by first | assumption | exact va_up_self _ _ _ | (rw [va_up_ne _ _ (by omega)]; first | assumption | exact va_up_self _ _ _ | (rw [va_up_ne _ _ (by omega)]; first | assumption | exact va_up_self _ _ _ | (rw [va_up_ne _ _ (by omega)]; first | assumption | exact va_up_self _ _ _ | (rw [va_up_ne _ _ (by omega)]; first | assumption | exact va_up_self _ _ _ | (rw [va_up_ne _ _ (by omega)]; first | assumption | exact va_up_self _ _ _)))))) (by rfl) (by rfl) (by omega) (by omega) ?_
    rw [bx_uu]
    refine mx_iincI (i := 4) (n := 1) (mx_d D_L_choose 12 rfl) (by rfl) (by decide) ?_
    refine mx_goto 3 (mx_d D_L_choose 13 rfl) (by decide) ?_
    refine mx_loc (by rfl) (ih (i + 1) (va_up lc' i false) (by omega) (fun j hj => ?_))
    by_cases e : j = i
    · subst e; exact va_up_self _ _ _
    · rw [va_up_ne _ _ e]; exact hz j (by omega)
end LS
end
section
/-! the class's cells, as one state -/
abbrev xI : String := "java/lang/IndexOutOfBoundsException"
abbrev xA : String := "java/lang/IllegalArgumentException"
abbrev xS : String := "java/lang/IllegalStateException"
def rwN (f : Nat → Int) : Nat → Nat
  | 0 => 0
  | n + 1 => rwN f n + (if 0 < f n then 1 else 0)
def up2 (f : Nat → Nat → Int) (i j : Nat) (v : Int) : Nat → Nat → Int := va_up f i (va_up (f i) j v)
theorem rwN_le (f : Nat → Int) (n : Nat) : rwN f n ≤ n := by
  induction n with
  | zero => simp [rwN]
  | succ n ih => simp only [rwN]; split <;> omega
theorem rwN_up {f : Nat → Int} {j n : Nat} {v : Int} (hv : 0 < v) : rwN (va_up f j v) n = rwN f n + (if j < n ∧ ¬ 0 < f j then 1 else 0) := by
  induction n with
  | zero => simp [rwN]
  | succ n ih =>
    simp only [rwN, ih]
    by_cases e : n = j
    · subst e
      rw [va_up_self, if_pos hv, if_neg (fun h => by omega : ¬ (n < n ∧ ¬ 0 < f n))]
      by_cases hf : 0 < f n
      · rw [if_pos hf, if_neg (fun h => h.2 hf)]
      · rw [if_neg hf, if_pos ⟨by omega, hf⟩]
    · rw [va_up_ne _ _ e]
      by_cases h1 : j < n ∧ ¬ 0 < f j
      · rw [if_pos h1, if_pos (⟨by omega, h1.2⟩ : j < n + 1 ∧ ¬ 0 < f j)]; omega
      · rw [if_neg h1, if_neg (fun h => h1 ⟨by omega, h.2⟩ : ¬ (j < n + 1 ∧ ¬ 0 < f j))]; omega
theorem rwN_congr {f g : Nat → Int} {n : Nat} (h : ∀ j, j < n → f j = g j) : rwN f n = rwN g n := by
  induction n with
  | zero => rfl
  | succ n ih => simp only [rwN]; rw [ih (fun j hj => h j (by omega)), h n (by omega)]
theorem up2_bd {f : Nat → Nat → Int} {i j Y : Nat} {v lo hi : Int} (h : ∀ e, e < 4 → ∀ y, y < Y → lo ≤ f e y ∧ f e y ≤ hi) (hv : lo ≤ v ∧ v ≤ hi) : ∀ e, e < 4 → ∀ y, y < Y → lo ≤ up2 f i j v e y ∧ up2 f i j v e y ≤ hi := by
  intro e he y hy
  unfold up2
  by_cases h1 : e = i
  · subst h1
    rw [va_up_self]
    by_cases h2 : y = j
    · subst h2; rw [va_up_self]; exact hv
    · rw [va_up_ne _ _ h2]; exact h e he y hy
  · rw [va_up_ne _ _ h1]; exact h e he y hy
abbrev cs0 (G : mx_G) (Y : Nat) (U : Int) (nE iE nD : Nat) (rA rS : Int) : va_E := .inr (0, [.int (iI Y), .int (iI U), .ref (mx_B G + 1), .ref (mx_B G + 14), .ref (mx_B G + 39), .ref (mx_B G + 43), .ref (mx_B G + 46), .ref (mx_B G + 48), .int (iI nE), .int (iI iE), .int (iI nD), .int (iI rA), .int (iI rS)])
def csE (G : mx_G) (Y : Nat) (eA eS : Nat → Nat → Int) (ce : Nat → va_E) : Prop := ∀ e, e < 4 → ce (2 + 3 * e) = .inr (1, [.ref (mx_B G + (3 + 3 * e)), .ref (mx_B G + (4 + 3 * e)), .int (iI (rwN (eS e) Y : Nat))]) ∧ ce (3 + 3 * e) = aI G Y (eA e) ∧ ce (4 + 3 * e) = aI G Y (eS e)
def csD (G : mx_G) (Y : Nat) (dA dS : Nat → Int) (dW : Nat → Nat → Int) (ce : Nat → va_E) : Prop := ∀ i, i < 12 → ce (15 + 2 * i) = .inr (2, [.ref (mx_B G + (16 + 2 * i)), .int (iI (dA i)), .int (iI (dS i))]) ∧ ce (16 + 2 * i) = aI G Y (dW i)
def csL (G : mx_G) (Y : Nat) (lc : Nat → Bool) (ce : Nat → va_E) : Prop := ce 39 = .inr (3, [.ref (mx_B G + 40), .ref (mx_B G + 41), .ref (mx_B G + 42), .int (iI (bgN lc Y : Nat))]) ∧ ce 40 = aB G Y lc ∧ ∃ lf ll, ce 41 = aI G Y lf ∧ ce 42 = aI G Y ll ∧ spAll lc Y (bgN lc Y) lf ll
def csR (G : mx_G) (rn rg : Nat → Nat) (rN : Nat) (ce : Nat → va_E) : Prop := ce 43 = .inr (4, [.ref (mx_B G + 44), .ref (mx_B G + 45), .int (iI rN)]) ∧ ce 44 = aI G 8 (fun j => (rn j : Int)) ∧ ce 45 = aI G 8 (fun j => (rg j : Int))
def csP (G : mx_G) (ps : Nat → Int) (pN : Nat) (ce : Nat → va_E) : Prop := ce 46 = .inr (5, [.ref (mx_B G + 47), .int (iI pN)]) ∧ ce 47 = aI G 100 ps
def csT (G : mx_G) (Y : Nat) (ce : Nat → va_E) : Prop := ∃ (c : Nat) (b : Bool) (t : Nat → Int), ce 48 = .inr (6, [.int (iI Y), .ref (mx_B G + 49), .int (iI c), .int (iI (bI b))]) ∧ ce 49 = aI G 100 t
def IV (Y : Nat) (U : Int) (nE iE nD : Nat) (rA rS : Int) (eA eS : Nat → Nat → Int) (dA dS : Nat → Int) (dW : Nat → Nat → Int) (lc : Nat → Bool) (rn rg : Nat → Nat) (rN : Nat) (ps : Nat → Int) (pN : Nat) : Prop := (8 ≤ Y ∧ Y ≤ 60) ∧ (1 ≤ U ∧ U ≤ 65536) ∧ (nE ≤ 4 ∧ iE < nE) ∧ nD ≤ 12 ∧ (-1000 ≤ rA ∧ rA ≤ 1000) ∧ (0 ≤ rS ∧ rS ≤ 100) ∧ (∀ e, e < 4 → ∀ y, y < Y → 0 ≤ eA e y ∧ eA e y ≤ 3000) ∧ (∀ e, e < 4 → ∀ y, y < Y → 0 ≤ eS e y ∧ eS e y ≤ 100) ∧ (∀ i, i < 12 → 0 ≤ dA i ∧ dA i ≤ 3000) ∧ (∀ i, i < 12 → 0 ≤ dS i ∧ dS i ≤ 100) ∧ (∀ i, i < 12 → nD ≤ i → dA i = 0 ∧ dS i = 0) ∧ (∀ i, i < 12 → ∀ y, y < Y → 0 ≤ dW i y ∧ dW i y ≤ 1000000) ∧ rN ≤ 8 ∧ (∀ i, i < rN → rn i < nD ∧ rg i ≤ 59) ∧ pN ≤ 100 ∧ (∀ j, j < pN → -2147483648 ≤ ps j ∧ ps j < 2147483648)
def CS (G : mx_G) (Y : Nat) (U : Int) (nE iE nD : Nat) (rA rS : Int) (eA eS : Nat → Nat → Int) (dA dS : Nat → Int) (dW : Nat → Nat → Int) (lc : Nat → Bool) (rn rg : Nat → Nat) (rN : Nat) (ps : Nat → Int) (pN : Nat) (ce : Nat → va_E) : Prop := IV Y U nE iE nD rA rS eA eS dA dS dW lc rn rg rN ps pN ∧ ce 0 = cs0 G Y U nE iE nD rA rS ∧ ce 1 = aQ G 3 4 (fun j => 2 + 3 * j) ∧ ce 14 = aQ G 4 12 (fun j => 15 + 2 * j) ∧ csE G Y eA eS ce ∧ csD G Y dA dS dW ce ∧ csL G Y lc ce ∧ csR G rn rg rN ce ∧ csP G ps pN ce ∧ csT G Y ce
theorem csE_fr {G : mx_G} {Y : Nat} {eA eS : Nat → Nat → Int} {ce ce' : Nat → va_E} (h : csE G Y eA eS ce) (hf : ∀ k, 2 ≤ k → k < 14 → ce' k = ce k) : csE G Y eA eS ce' :=
  fun e he => ⟨(hf _ (by omega) (by omega)).trans (h e he).1, (hf _ (by omega) (by omega)).trans (h e he).2.1, (hf _ (by omega) (by omega)).trans (h e he).2.2⟩
theorem csD_fr {G : mx_G} {Y : Nat} {dA dS : Nat → Int} {dW : Nat → Nat → Int} {ce ce' : Nat → va_E} (h : csD G Y dA dS dW ce) (hf : ∀ k, 15 ≤ k → k < 39 → ce' k = ce k) : csD G Y dA dS dW ce' :=
  fun i hi => ⟨(hf _ (by omega) (by omega)).trans (h i hi).1, (hf _ (by omega) (by omega)).trans (h i hi).2⟩
theorem csL_fr {G : mx_G} {Y : Nat} {lc : Nat → Bool} {ce ce' : Nat → va_E} (h : csL G Y lc ce) (hf : ∀ k, 39 ≤ k → k < 43 → ce' k = ce k) : csL G Y lc ce' := by
  obtain ⟨h1, h2, lf, ll, h3, h4, h5⟩ := h
  exact ⟨(hf _ (by omega) (by omega)).trans h1, (hf _ (by omega) (by omega)).trans h2, lf, ll, (hf _ (by omega) (by omega)).trans h3, (hf _ (by omega) (by omega)).trans h4, h5⟩
theorem csR_fr {G : mx_G} {rn rg : Nat → Nat} {rN : Nat} {ce ce' : Nat → va_E} (h : csR G rn rg rN ce) (hf : ∀ k, 43 ≤ k → k < 46 → ce' k = ce k) : csR G rn rg rN ce' :=
  ⟨(hf _ (by omega) (by omega)).trans h.1, (hf _ (by omega) (by omega)).trans h.2.1, (hf _ (by omega) (by omega)).trans h.2.2⟩
theorem csP_fr {G : mx_G} {ps : Nat → Int} {pN : Nat} {ce ce' : Nat → va_E} (h : csP G ps pN ce) (hf : ∀ k, 46 ≤ k → k < 48 → ce' k = ce k) : csP G ps pN ce' :=
  ⟨(hf _ (by omega) (by omega)).trans h.1, (hf _ (by omega) (by omega)).trans h.2⟩
theorem csT_fr {G : mx_G} {Y : Nat} {ce ce' : Nat → va_E} (h : csT G Y ce) (hf : ∀ k, 48 ≤ k → k < 50 → ce' k = ce k) : csT G Y ce' := by
  obtain ⟨c, b, t, h1, h2⟩ := h
  exact ⟨c, b, t, (hf _ (by omega) (by omega)).trans h1, (hf _ (by omega) (by omega)).trans h2⟩
theorem CS.fr {G : mx_G} {Y : Nat} {U : Int} {nE iE nD : Nat} {rA rS : Int} {eA eS : Nat → Nat → Int} {dA dS : Nat → Int} {dW : Nat → Nat → Int} {lc : Nat → Bool} {rn rg : Nat → Nat} {rN : Nat} {ps : Nat → Int} {pN : Nat} {ce ce' : Nat → va_E} (h : CS G Y U nE iE nD rA rS eA eS dA dS dW lc rn rg rN ps pN ce) (hf : ∀ k, k < 50 → ce' k = ce k) : CS G Y U nE iE nD rA rS eA eS dA dS dW lc rn rg rN ps pN ce' := by
  obtain ⟨h0, h1, h2, h3, h4, h5, h6, h7, h8, h9⟩ := h
  exact ⟨h0, (hf _ (by omega)).trans h1, (hf _ (by omega)).trans h2, (hf _ (by omega)).trans h3, csE_fr h4 (fun k _ _ => hf k (by omega)), csD_fr h5 (fun k _ _ => hf k (by omega)), csL_fr h6 (fun k _ _ => hf k (by omega)), csR_fr h7 (fun k _ _ => hf k (by omega)), csP_fr h8 (fun k _ _ => hf k (by omega)), csT_fr h9 (fun k _ _ => hf k (by omega))⟩
section CN
variable {G : mx_G} {d bc bs : Nat} {N : Nat} {ce : Nat → va_E} {Q : mx_P} {Y : Nat} {U : Int} {nE iE nD : Nat} {rA rS : Int} {eA eS : Nat → Nat → Int} {dA dS : Nat → Int} {dW : Nat → Nat → Int} {lc : Nat → Bool} {rn rg : Nat → Nat} {rN : Nat} {ps : Nat → Int} {pN : Nat}
theorem c_needYear (hG : mx_ok G) (hN : 50 ≤ N) (c0 : ce 0 = cs0 G Y U nE iE nD rA rS) (hY : Y ≤ 60) {y : Int} (y1 : -2147483648 ≤ y) (y2 : y < 2147483648) (q0 : ¬ (0 ≤ y ∧ y < Y) → Q (.inr xI) N ce bc bs) (q1 : 0 ≤ y → y < Y → Q (.inl none) N ce (bc + 1) (bs + 6)) : mx_M G Y_C_needYear (d + 5) (bc + 1) (bs + 6) false N ce 0 [(0, .ref (mx_B G + 0)), (1, .int (iI y))] [] Q := by
  have thr : ¬ (0 ≤ y ∧ y < Y) → ∀ {l9 : List (Nat × Value)}, mx_M G Y_C_needYear (d + 5) (bc + 1) (bs + 6) false N ce 12 l9 [] Q := by
    intro h l9
    refine mx_throw hG ["java/lang/RuntimeException", "java/lang/Exception"] (E := "java/lang/IndexOutOfBoundsException") (tx := "no such year") (mx_d D_C_needYear 6 rfl) (mx_d D_C_needYear 7 rfl) (mx_d D_C_needYear 8 rfl) (mx_d D_C_needYear 9 rfl) (mx_d D_C_needYear 10 rfl) (by decide) (by decide) (by decide) w_260 w_13 w_261 (by decide) th_102 (by rfl) (by exact Nat.le_of_ble_eq_true rfl) ?_
    exact q0 h
  refine mx_iload_n (k4 := 1) (mx_d D_C_needYear 0 rfl) (by rfl) ?_
  by_cases h1 : y < 0
  · refine mx_if_ltY 12 (mx_d D_C_needYear 1 rfl) (by decide) (by omega) (by omega) (by omega) ?_
    exact thr (by omega)
  · refine mx_if_ltN 12 (mx_d D_C_needYear 1 rfl) (by decide) (by omega) (by omega) (by omega) ?_
    refine mx_iload_n (k4 := 1) (mx_d D_C_needYear 2 rfl) (by rfl) ?_
    refine mx_aload_n (k4 := 0) (mx_d D_C_needYear 3 rfl) (by rfl) ?_
    refine mx_getf hG (idx := 18) (ci := 0) (kf := 0) (mx_d D_C_needYear 4 rfl) (by rfl) cls_C (by decide) w_149 (by first | assumption | omega) (by first | assumption | exact va_up_self _ _ _ | (rw [va_up_ne _ _ (by omega)]; first | assumption | exact va_up_self _ _ _ | (rw [va_up_ne _ _ (by omega)]; first | assumption | exact va_up_self _ _ _ | (rw [va_up_ne _ _ (by omega)]; first | assumption | exact va_up_self _ _ _ | (rw [va_up_ne _ _ (by omega)]; first | assumption | exact va_up_self _ _ _ | (rw [va_up_ne _ _ (by omega)]; first | assumption | exact va_up_self _ _ _)))))) (by rfl) ?_
    by_cases h2 : y < Y
    · refine mx_icmp_ltY 22 (mx_d D_C_needYear 5 rfl) (by decide) (by omega) (by omega) (by omega) (by omega) (by omega) ?_
      refine mx_vret (by rfl) (mx_d D_C_needYear 11 rfl) ?_
      exact q1 (by omega) h2
    · refine mx_icmp_ltN 22 (mx_d D_C_needYear 5 rfl) (by decide) (by omega) (by omega) (by omega) (by omega) (by omega) ?_
      exact thr (by omega)
theorem c_needDate (hG : mx_ok G) (hN : 50 ≤ N) (c0 : ce 0 = cs0 G Y U nE iE nD rA rS) (hD : nD ≤ 12) {y : Int} (y1 : -2147483648 ≤ y) (y2 : y < 2147483648) (q0 : ¬ (0 ≤ y ∧ y < nD) → Q (.inr xI) N ce bc bs) (q1 : 0 ≤ y → y < nD → Q (.inl none) N ce (bc + 1) (bs + 6)) : mx_M G Y_C_needDate (d + 5) (bc + 1) (bs + 6) false N ce 0 [(0, .ref (mx_B G + 0)), (1, .int (iI y))] [] Q := by
  have thr : ¬ (0 ≤ y ∧ y < nD) → ∀ {l9 : List (Nat × Value)}, mx_M G Y_C_needDate (d + 5) (bc + 1) (bs + 6) false N ce 12 l9 [] Q := by
    intro h l9
    refine mx_throw hG ["java/lang/RuntimeException", "java/lang/Exception"] (E := "java/lang/IndexOutOfBoundsException") (tx := "no such date") (mx_d D_C_needDate 6 rfl) (mx_d D_C_needDate 7 rfl) (mx_d D_C_needDate 8 rfl) (mx_d D_C_needDate 9 rfl) (mx_d D_C_needDate 10 rfl) (by decide) (by decide) (by decide) w_260 w_13 w_261 (by decide) th_102 (by rfl) (by exact Nat.le_of_ble_eq_true rfl) ?_
    exact q0 h
  refine mx_iload_n (k4 := 1) (mx_d D_C_needDate 0 rfl) (by rfl) ?_
  by_cases h1 : y < 0
  · refine mx_if_ltY 12 (mx_d D_C_needDate 1 rfl) (by decide) (by omega) (by omega) (by omega) ?_
    exact thr (by omega)
  · refine mx_if_ltN 12 (mx_d D_C_needDate 1 rfl) (by decide) (by omega) (by omega) (by omega) ?_
    refine mx_iload_n (k4 := 1) (mx_d D_C_needDate 2 rfl) (by rfl) ?_
    refine mx_aload_n (k4 := 0) (mx_d D_C_needDate 3 rfl) (by rfl) ?_
    refine mx_getf hG (idx := 138) (ci := 0) (kf := 10) (mx_d D_C_needDate 4 rfl) (by rfl) cls_C (by decide) w_159 (by first | assumption | omega) (by first | assumption | exact va_up_self _ _ _ | (rw [va_up_ne _ _ (by omega)]; first | assumption | exact va_up_self _ _ _ | (rw [va_up_ne _ _ (by omega)]; first | assumption | exact va_up_self _ _ _ | (rw [va_up_ne _ _ (by omega)]; first | assumption | exact va_up_self _ _ _ | (rw [va_up_ne _ _ (by omega)]; first | assumption | exact va_up_self _ _ _ | (rw [va_up_ne _ _ (by omega)]; first | assumption | exact va_up_self _ _ _)))))) (by rfl) ?_
    by_cases h2 : y < nD
    · refine mx_icmp_ltY 22 (mx_d D_C_needDate 5 rfl) (by decide) (by omega) (by omega) (by omega) (by omega) (by omega) ?_
      refine mx_vret (by rfl) (mx_d D_C_needDate 11 rfl) ?_
      exact q1 (by omega) h2
    · refine mx_icmp_ltN 22 (mx_d D_C_needDate 5 rfl) (by decide) (by omega) (by omega) (by omega) (by omega) (by omega) ?_
      exact thr (by omega)
theorem c_needRoom (hG : mx_ok G) (hN : 50 ≤ N) (c0 : ce 0 = cs0 G Y U nE iE nD rA rS) (hD : nD ≤ 12) (q0 : ¬ nD < 12 → Q (.inr xS) N ce bc bs) (q1 : nD < 12 → Q (.inl none) N ce (bc + 1) (bs + 6)) : mx_M G Y_C_needRoomForDate (d + 5) (bc + 1) (bs + 6) false N ce 0 [(0, .ref (mx_B G + 0))] [] Q := by
  refine mx_aload_n (k4 := 0) (mx_d D_C_needRoomForDate 0 rfl) (by rfl) ?_
  refine mx_getf hG (idx := 138) (ci := 0) (kf := 10) (mx_d D_C_needRoomForDate 1 rfl) (by rfl) cls_C (by decide) w_159 (by first | assumption | omega) (by first | assumption | exact va_up_self _ _ _ | (rw [va_up_ne _ _ (by omega)]; first | assumption | exact va_up_self _ _ _ | (rw [va_up_ne _ _ (by omega)]; first | assumption | exact va_up_self _ _ _ | (rw [va_up_ne _ _ (by omega)]; first | assumption | exact va_up_self _ _ _ | (rw [va_up_ne _ _ (by omega)]; first | assumption | exact va_up_self _ _ _ | (rw [va_up_ne _ _ (by omega)]; first | assumption | exact va_up_self _ _ _)))))) (by rfl) ?_
  refine mx_bipush (n := 12) (mx_d D_C_needRoomForDate 2 rfl) (by decide) ?_
  by_cases h2 : nD < 12
  · refine mx_icmp_ltY 19 (mx_d D_C_needRoomForDate 3 rfl) (by decide) (by omega) (by omega) (by omega) (by omega) (by omega) ?_
    refine mx_vret (by rfl) (mx_d D_C_needRoomForDate 9 rfl) ?_
    exact q1 h2
  · refine mx_icmp_ltN 19 (mx_d D_C_needRoomForDate 3 rfl) (by decide) (by omega) (by omega) (by omega) (by omega) (by omega) ?_
    refine mx_throw hG ["java/lang/RuntimeException", "java/lang/Exception"] (E := "java/lang/IllegalStateException") (tx := "there are twelve dates") (mx_d D_C_needRoomForDate 4 rfl) (mx_d D_C_needRoomForDate 5 rfl) (mx_d D_C_needRoomForDate 6 rfl) (mx_d D_C_needRoomForDate 7 rfl) (mx_d D_C_needRoomForDate 8 rfl) (by decide) (by decide) (by decide) w_356 w_15 w_357 (by decide) th_91 (by rfl) (by exact Nat.le_of_ble_eq_true rfl) ?_
    exact q0 h2
theorem c_needAge (hG : mx_ok G) {a s : Int} (a1 : -2147483648 ≤ a) (a2 : a < 2147483648) (s1 : -2147483648 ≤ s) (s2 : s < 2147483648) (q0 : ¬ ((0 ≤ a ∧ a ≤ 3000) ∧ 1 ≤ s ∧ s ≤ 100) → Q (.inr xA) N ce bc bs) (q1 : (0 ≤ a ∧ a ≤ 3000) ∧ 1 ≤ s ∧ s ≤ 100 → Q (.inl none) N ce (bc + 1) (bs + 6)) : mx_M G Y_C_needAgeAndSpread (d + 5) (bc + 1) (bs + 6) false N ce 0 [(0, .int (iI a)), (1, .int (iI s))] [] Q := by
  have thr : ¬ (0 ≤ a ∧ a ≤ 3000) → ∀ {l9 : List (Nat × Value)}, mx_M G Y_C_needAgeAndSpread (d + 5) (bc + 1) (bs + 6) false N ce 11 l9 [] Q := by
    intro h l9
    refine mx_throw hG ["java/lang/RuntimeException", "java/lang/Exception"] (E := "java/lang/IllegalArgumentException") (tx := "an age is 0 .. 3000") (mx_d D_C_needAgeAndSpread 5 rfl) (mx_d D_C_needAgeAndSpread 6 rfl) (mx_d D_C_needAgeAndSpread 7 rfl) (mx_d D_C_needAgeAndSpread 8 rfl) (mx_d D_C_needAgeAndSpread 9 rfl) (by decide) (by decide) (by decide) w_331 w_14 w_332 (by decide) th_107 (by rfl) (by exact Nat.le_of_ble_eq_true rfl) ?_
    exact q0 (fun z => h z.1)
  have thr2 : ¬ (1 ≤ s ∧ s ≤ 100) → ∀ {l9 : List (Nat × Value)}, mx_M G Y_C_needAgeAndSpread (d + 5) (bc + 1) (bs + 6) false N ce 32 l9 [] Q := by
    intro h l9
    refine mx_throw hG ["java/lang/RuntimeException", "java/lang/Exception"] (E := "java/lang/IllegalArgumentException") (tx := "a spread is 1 .. 100") (mx_d D_C_needAgeAndSpread 16 rfl) (mx_d D_C_needAgeAndSpread 17 rfl) (mx_d D_C_needAgeAndSpread 18 rfl) (mx_d D_C_needAgeAndSpread 19 rfl) (mx_d D_C_needAgeAndSpread 20 rfl) (by decide) (by decide) (by decide) w_331 w_14 w_332 (by decide) th_107 (by rfl) (by exact Nat.le_of_ble_eq_true rfl) ?_
    exact q0 (fun z => h z.2)
  refine mx_iload_n (k4 := 0) (mx_d D_C_needAgeAndSpread 0 rfl) (by rfl) ?_
  by_cases h1 : a < 0
  · refine mx_if_ltY 11 (mx_d D_C_needAgeAndSpread 1 rfl) (by decide) (by omega) (by omega) (by omega) ?_
    exact thr (by omega)
  · refine mx_if_ltN 11 (mx_d D_C_needAgeAndSpread 1 rfl) (by decide) (by omega) (by omega) (by omega) ?_
    refine mx_iload_n (k4 := 0) (mx_d D_C_needAgeAndSpread 2 rfl) (by rfl) ?_
    refine mx_sipush (n := 3000) (mx_d D_C_needAgeAndSpread 3 rfl) (by decide) ?_
    by_cases h2 : a ≤ 3000
    · refine mx_icmp_leY 21 (mx_d D_C_needAgeAndSpread 4 rfl) (by decide) (by omega) (by omega) (by omega) (by omega) (by omega) ?_
      refine mx_iload_n (k4 := 1) (mx_d D_C_needAgeAndSpread 10 rfl) (by rfl) ?_
      refine mx_iconst (n := 1) (mx_d D_C_needAgeAndSpread 11 rfl) ?_
      by_cases h3 : s < 1
      · refine mx_icmp_ltY 32 (mx_d D_C_needAgeAndSpread 12 rfl) (by decide) (by omega) (by omega) (by omega) (by omega) (by omega) ?_
        exact thr2 (by omega)
      · refine mx_icmp_ltN 32 (mx_d D_C_needAgeAndSpread 12 rfl) (by decide) (by omega) (by omega) (by omega) (by omega) (by omega) ?_
        refine mx_iload_n (k4 := 1) (mx_d D_C_needAgeAndSpread 13 rfl) (by rfl) ?_
        refine mx_bipush (n := 100) (mx_d D_C_needAgeAndSpread 14 rfl) (by decide) ?_
        by_cases h4 : s ≤ 100
        · refine mx_icmp_leY 42 (mx_d D_C_needAgeAndSpread 15 rfl) (by decide) (by omega) (by omega) (by omega) (by omega) (by omega) ?_
          refine mx_vret (by rfl) (mx_d D_C_needAgeAndSpread 21 rfl) ?_
          exact q1 (by omega)
        · refine mx_icmp_leN 42 (mx_d D_C_needAgeAndSpread 15 rfl) (by decide) (by omega) (by omega) (by omega) (by omega) (by omega) ?_
          exact thr2 (by omega)
    · refine mx_icmp_leN 21 (mx_d D_C_needAgeAndSpread 4 rfl) (by decide) (by omega) (by omega) (by omega) (by omega) (by omega) ?_
      exact thr (by omega)
theorem c_needShare (hG : mx_ok G) {u v w : Int} (u1 : -2147483648 ≤ u) (u2 : u < 2147483648) (v1 : -2147483648 ≤ v) (v2 : v < 2147483648) (w1 : -2147483648 ≤ w) (w2 : w < 2147483648) (q0 : ¬ (u ≤ v ∧ v ≤ w ∧ w ≤ 1000) → Q (.inr xA) N ce bc bs) (q1 : u ≤ v ∧ v ≤ w ∧ w ≤ 1000 → Q (.inl none) N ce (bc + 1) (bs + 6)) : mx_M G Y_C_needShare (d + 5) (bc + 1) (bs + 6) false N ce 0 [(0, .int (iI u)), (1, .int (iI v)), (2, .int (iI w))] [] Q := by
  have thr : ¬ (u ≤ v ∧ v ≤ w ∧ w ≤ 1000) → ∀ {l9 : List (Nat × Value)}, mx_M G Y_C_needShare (d + 5) (bc + 1) (bs + 6) false N ce 17 l9 [] Q := by
    intro h l9
    refine mx_throw hG ["java/lang/RuntimeException", "java/lang/Exception"] (E := "java/lang/IllegalArgumentException") (tx := "no such share") (mx_d D_C_needShare 9 rfl) (mx_d D_C_needShare 10 rfl) (mx_d D_C_needShare 11 rfl) (mx_d D_C_needShare 12 rfl) (mx_d D_C_needShare 13 rfl) (by decide) (by decide) (by decide) w_331 w_14 w_332 (by decide) th_107 (by rfl) (by exact Nat.le_of_ble_eq_true rfl) ?_
    exact q0 h
  refine mx_iload_n (k4 := 1) (mx_d D_C_needShare 0 rfl) (by rfl) ?_
  refine mx_iload_n (k4 := 0) (mx_d D_C_needShare 1 rfl) (by rfl) ?_
  by_cases h1 : v < u
  · refine mx_icmp_ltY 17 (mx_d D_C_needShare 2 rfl) (by decide) (by omega) (by omega) (by omega) (by omega) (by omega) ?_
    exact thr (by omega)
  · refine mx_icmp_ltN 17 (mx_d D_C_needShare 2 rfl) (by decide) (by omega) (by omega) (by omega) (by omega) (by omega) ?_
    refine mx_iload_n (k4 := 1) (mx_d D_C_needShare 3 rfl) (by rfl) ?_
    refine mx_iload_n (k4 := 2) (mx_d D_C_needShare 4 rfl) (by rfl) ?_
    by_cases h2 : w < v
    · refine mx_icmp_gtY 17 (mx_d D_C_needShare 5 rfl) (by decide) (by omega) (by omega) (by omega) (by omega) (by omega) ?_
      exact thr (by omega)
    · refine mx_icmp_gtN 17 (mx_d D_C_needShare 5 rfl) (by decide) (by omega) (by omega) (by omega) (by omega) (by omega) ?_
      refine mx_iload_n (k4 := 2) (mx_d D_C_needShare 6 rfl) (by rfl) ?_
      refine mx_sipush (n := 1000) (mx_d D_C_needShare 7 rfl) (by decide) ?_
      by_cases h3 : w ≤ 1000
      · refine mx_icmp_leY 27 (mx_d D_C_needShare 8 rfl) (by decide) (by omega) (by omega) (by omega) (by omega) (by omega) ?_
        refine mx_vret (by rfl) (mx_d D_C_needShare 14 rfl) ?_
        exact q1 (by omega)
      · refine mx_icmp_leN 27 (mx_d D_C_needShare 8 rfl) (by decide) (by omega) (by omega) (by omega) (by omega) (by omega) ?_
        exact thr (by omega)
end CN
end
section
/-! the class's methods: curve, edition, use, reservoir, weight, total -/
theorem csE_tell {G : mx_G} {Y : Nat} {eA eS : Nat → Nat → Int} {ce : Nat → va_E} (h : csE G Y eA eS ce) {e0 y : Nat} (he : e0 < 4) (hy : y < Y) {a s : Int} (hs : 0 < s) : csE G Y (up2 eA e0 y a) (up2 eS e0 y s) (va_up (va_up (va_up ce (3 + 3 * e0) (aI G Y (va_up (eA e0) y a))) (4 + 3 * e0) (aI G Y (va_up (eS e0) y s))) (2 + 3 * e0) (.inr (1, [.ref (mx_B G + (3 + 3 * e0)), .ref (mx_B G + (4 + 3 * e0)), .int (iI ((rwN (eS e0) Y : Int) + if 0 < eS e0 y then 0 else 1))]))) := by
  intro e he'
  unfold up2
  by_cases e1 : e = e0
  · subst e1
    rw [va_up_self, va_up_self, va_up_self, va_up_ne _ _ (by omega), va_up_ne _ _ (by omega), va_up_self, va_up_ne _ _ (by omega), va_up_self]
    refine ⟨?_, rfl, rfl⟩
    rw [rwN_up hs]
    by_cases hf : 0 < eS e y
    · rw [if_pos hf, if_neg (fun z => z.2 hf)]; rfl
    · rw [if_neg hf, if_pos ⟨hy, hf⟩]; rfl
  · rw [va_up_ne _ _ e1, va_up_ne _ _ e1, va_up_ne _ _ (by omega), va_up_ne _ _ (by omega), va_up_ne _ _ (by omega), va_up_ne _ _ (by omega), va_up_ne _ _ (by omega), va_up_ne _ _ (by omega), va_up_ne _ _ (by omega), va_up_ne _ _ (by omega), va_up_ne _ _ (by omega)]
    exact h e he'
section CM
variable {G : mx_G} {d bc bs : Nat} {N : Nat} {ce : Nat → va_E} {Q : mx_P} {Y : Nat} {U : Int} {nE iE nD : Nat} {rA rS : Int} {eA eS : Nat → Nat → Int} {dA dS : Nat → Int} {dW : Nat → Nat → Int} {lc : Nat → Bool} {rn rg : Nat → Nat} {rN : Nat} {ps : Nat → Int} {pN : Nat}
theorem c_C_curve (hG : mx_ok G) (hN : 50 ≤ N) (hC : CS G Y U nE iE nD rA rS eA eS dA dS dW lc rn rg rN ps pN ce) {y a s : Int} (y1 : -2147483648 ≤ y) (y2 : y < 2147483648) (a1 : -2147483648 ≤ a) (a2 : a < 2147483648) (s1 : -2147483648 ≤ s) (s2 : s < 2147483648)
    (q0 : ¬ (0 ≤ y ∧ y < Y) → Q (.inr xI) N ce bc bs) (q1 : (0 ≤ y ∧ y < Y) → ¬ ((0 ≤ a ∧ a ≤ 3000) ∧ 1 ≤ s ∧ s ≤ 100) → Q (.inr xA) N ce bc bs)
    (q2 : ∀ ce' (m : Nat), y = m → m < Y → ((0 ≤ a ∧ a ≤ 3000) ∧ 1 ≤ s ∧ s ≤ 100) → CS G Y U nE iE nD rA rS (up2 eA iE m a) (up2 eS iE m s) dA dS dW lc rn rg rN ps pN ce' → (∀ k, 50 ≤ k → ce' k = ce k) → Q (.inl (some (.int (iI (bI (decide (0 < eS iE m))))))) N ce' bc bs) : mx_M G Y_C_curve (d + 6) (bc + 1) (bs + 6) false N ce 0 [(0, .ref (mx_B G + 0)), (1, .int (iI y)), (2, .int (iI a)), (3, .int (iI s))] [] Q := by
  obtain ⟨⟨hY, hU, hE, hD, hrA, hrS, hEA, hES, hDA, hDS, hDz, hDW, hrN, hrn, hpN, hps⟩, c0, c1, c14, cE, cD, cL, cR, cP, cT⟩ := hC
  refine mx_aload_n (k4 := 0) (mx_d D_C_curve 0 rfl) (by rfl) ?_
  refine mx_iload_n (k4 := 1) (mx_d D_C_curve 1 rfl) (by rfl) ?_
  refine mx_callV hG (Y' := Y_C_needYear) (ci := 0) [_] (mx_d D_C_curve 2 rfl) in_C_needYear w_256 w_258 s_C_needYear (by rfl) np_C_needYear (by exact Nat.le_of_ble_eq_true rfl) (by rfl) (by first | assumption | omega) (by first | assumption | exact va_up_self _ _ _ | (rw [va_up_ne _ _ (by omega)]; first | assumption | exact va_up_self _ _ _ | (rw [va_up_ne _ _ (by omega)]; first | assumption | exact va_up_self _ _ _ | (rw [va_up_ne _ _ (by omega)]; first | assumption | exact va_up_self _ _ _ | (rw [va_up_ne _ _ (by omega)]; first | assumption | exact va_up_self _ _ _ | (rw [va_up_ne _ _ (by omega)]; first | assumption | exact va_up_self _ _ _)))))) (by rfl) (by exact Nat.le_of_ble_eq_true rfl) (c_needYear hG hN c0 hY.2 y1 y2 q0 (fun h1 h2 => ?_))
  refine mx_iload_n (k4 := 2) (mx_d D_C_curve 3 rfl) (by rfl) ?_
  refine mx_iload_n (k4 := 3) (mx_d D_C_curve 4 rfl) (by rfl) ?_
  refine mx_callS (Y' := Y_C_needAgeAndSpread) [_, _] (mx_d D_C_curve 5 rfl) in_C_needAgeAndSpread w_328 w_329 np_C_needAgeAndSpread (by exact Nat.le_of_ble_eq_true rfl) (by rfl) (by rfl) (by exact Nat.le_of_ble_eq_true rfl) (c_needAge hG a1 a2 s1 s2 (q1 ⟨h1, h2⟩) (fun h3 => ?_))
  refine mx_bud (Nat.le_succ bc) (Nat.le_add_right bs 6) ?_
  obtain ⟨m, rfl⟩ : ∃ m : Nat, y = m := ⟨y.toNat, by omega⟩
  have hE' := cE iE (by omega)
  have hEa := hE'.1
  have hs9 := hES iE (by omega) m (by omega)
  refine mx_aload_n (k4 := 0) (mx_d D_C_curve 6 rfl) (by rfl) ?_
  refine mx_getf hG (idx := 28) (ci := 0) (kf := 2) (mx_d D_C_curve 7 rfl) (by rfl) cls_C (by decide) w_151 (by first | assumption | omega) (by first | assumption | exact va_up_self _ _ _ | (rw [va_up_ne _ _ (by omega)]; first | assumption | exact va_up_self _ _ _ | (rw [va_up_ne _ _ (by omega)]; first | assumption | exact va_up_self _ _ _ | (rw [va_up_ne _ _ (by omega)]; first | assumption | exact va_up_self _ _ _ | (rw [va_up_ne _ _ (by omega)]; first | assumption | exact va_up_self _ _ _ | (rw [va_up_ne _ _ (by omega)]; first | assumption | exact va_up_self _ _ _)))))) (by rfl) ?_
  refine mx_aload_n (k4 := 0) (mx_d D_C_curve 8 rfl) (by rfl) ?_
  refine mx_getf hG (idx := 80) (ci := 0) (kf := 9) (mx_d D_C_curve 9 rfl) (by rfl) cls_C (by decide) w_158 (by first | assumption | omega) (by first | assumption | exact va_up_self _ _ _ | (rw [va_up_ne _ _ (by omega)]; first | assumption | exact va_up_self _ _ _ | (rw [va_up_ne _ _ (by omega)]; first | assumption | exact va_up_self _ _ _ | (rw [va_up_ne _ _ (by omega)]; first | assumption | exact va_up_self _ _ _ | (rw [va_up_ne _ _ (by omega)]; first | assumption | exact va_up_self _ _ _ | (rw [va_up_ne _ _ (by omega)]; first | assumption | exact va_up_self _ _ _)))))) (by rfl) ?_
  refine mx_aald hG 3 (iE) (mx_d D_C_curve 10 rfl) (by first | assumption | omega) (by first | assumption | exact va_up_self _ _ _ | (rw [va_up_ne _ _ (by omega)]; first | assumption | exact va_up_self _ _ _ | (rw [va_up_ne _ _ (by omega)]; first | assumption | exact va_up_self _ _ _ | (rw [va_up_ne _ _ (by omega)]; first | assumption | exact va_up_self _ _ _ | (rw [va_up_ne _ _ (by omega)]; first | assumption | exact va_up_self _ _ _ | (rw [va_up_ne _ _ (by omega)]; first | assumption | exact va_up_self _ _ _)))))) (by rfl) (by rfl) (by rfl) (by omega) (by omega) (show _ = some (mx_B G + (2 + 3 * iE)) by exact if_pos (by omega)) ?_
  refine mx_iload_n (k4 := 1) (mx_d D_C_curve 11 rfl) (by rfl) ?_
  refine mx_iload_n (k4 := 2) (mx_d D_C_curve 12 rfl) (by rfl) ?_
  refine mx_iload_n (k4 := 3) (mx_d D_C_curve 13 rfl) (by rfl) ?_
  refine mx_callV hG (Y' := Y_E_tellRow) (ci := 1) [_, _, _] (mx_d D_C_curve 14 rfl) in_E_tellRow w_236 w_237 s_E_tellRow (by rfl) np_E_tellRow (by exact Nat.le_of_ble_eq_true rfl) (by rfl) (by first | assumption | omega) (by first | assumption | exact va_up_self _ _ _ | (rw [va_up_ne _ _ (by omega)]; first | assumption | exact va_up_self _ _ _ | (rw [va_up_ne _ _ (by omega)]; first | assumption | exact va_up_self _ _ _ | (rw [va_up_ne _ _ (by omega)]; first | assumption | exact va_up_self _ _ _ | (rw [va_up_ne _ _ (by omega)]; first | assumption | exact va_up_self _ _ _ | (rw [va_up_ne _ _ (by omega)]; first | assumption | exact va_up_self _ _ _)))))) (by rfl) (by exact Nat.le_of_ble_eq_true rfl) (c_E_tellRow hG (by omega) (by omega) (by omega) (by omega) (by omega) (by omega) hE'.1 hE'.2.1 hE'.2.2 (by omega) (y := m) (by omega) hs9 ?_)
  refine mx_zret (by rfl) (mx_d D_C_curve 15 rfl) (bI_nar _) ?_
  refine q2 _ m rfl (by omega) h3 ⟨⟨hY, hU, hE, hD, hrA, hrS, up2_bd hEA h3.1, up2_bd hES ⟨by omega, by omega⟩, hDA, hDS, hDz, hDW, hrN, hrn, hpN, hps⟩, ?_, ?_, ?_, csE_tell cE (by omega) (by omega) (by omega), csD_fr cD (fun k _ _ => ?_), csL_fr cL (fun k _ _ => ?_), csR_fr cR (fun k _ _ => ?_), csP_fr cP (fun k _ _ => ?_), csT_fr cT (fun k _ _ => ?_)⟩ (fun k hk => ?_) <;> rw [va_up_ne _ _ (by omega), va_up_ne _ _ (by omega), va_up_ne _ _ (by omega)] <;> assumption
theorem c_C_edition (hG : mx_ok G) (hN : 50 ≤ N) (hC : CS G Y U nE iE nD rA rS eA eS dA dS dW lc rn rg rN ps pN ce)
    (q0 : ¬ nE < 4 → Q (.inr xS) N ce bc bs)
    (q2 : ∀ ce' (fA fS : Nat → Int), nE < 4 → (∀ j, j < Y → fA j = eA iE j ∧ fS j = eS iE j) → CS G Y U (nE + 1) (nE) nD rA rS (va_up eA nE fA) (va_up eS nE fS) dA dS dW lc rn rg rN ps pN ce' → (∀ k, 50 ≤ k → ce' k = ce k) → Q (.inl (some (.int (iI (nE : Nat))))) N ce' bc bs) : mx_M G Y_C_edition (d + 6) (bc + 1) (bs + 6) false N ce 0 [(0, .ref (mx_B G + 0))] [] Q := by
  obtain ⟨⟨hY, hU, hE, hD, hrA, hrS, hEA, hES, hDA, hDS, hDz, hDW, hrN, hrn, hpN, hps⟩, c0, c1, c14, cE, cD, cL, cR, cP, cT⟩ := hC
  refine mx_aload_n (k4 := 0) (mx_d D_C_edition 0 rfl) (by rfl) ?_
  refine mx_getf hG (idx := 70) (ci := 0) (kf := 8) (mx_d D_C_edition 1 rfl) (by rfl) cls_C (by decide) w_157 (by first | assumption | omega) (by first | assumption | exact va_up_self _ _ _ | (rw [va_up_ne _ _ (by omega)]; first | assumption | exact va_up_self _ _ _ | (rw [va_up_ne _ _ (by omega)]; first | assumption | exact va_up_self _ _ _ | (rw [va_up_ne _ _ (by omega)]; first | assumption | exact va_up_self _ _ _ | (rw [va_up_ne _ _ (by omega)]; first | assumption | exact va_up_self _ _ _ | (rw [va_up_ne _ _ (by omega)]; first | assumption | exact va_up_self _ _ _)))))) (by rfl) ?_
  refine mx_iconst (n := 4) (mx_d D_C_edition 2 rfl) ?_
  by_cases h4 : nE < 4
  · refine mx_icmp_ltY 18 (mx_d D_C_edition 3 rfl) (by decide) (by omega) (by omega) (by omega) (by omega) (by omega) ?_
    refine mx_bud (Nat.le_succ bc) (Nat.le_add_right bs 6) ?_
    have hE1 := cE nE (by omega)
    have hE2 := cE iE (by omega)
    have hEa := hE1.1
    have hEb := hE2.1
    refine mx_aload_n (k4 := 0) (mx_d D_C_edition 9 rfl) (by rfl) ?_
    refine mx_getf hG (idx := 28) (ci := 0) (kf := 2) (mx_d D_C_edition 10 rfl) (by rfl) cls_C (by decide) w_151 (by first | assumption | omega) (by first | assumption | exact va_up_self _ _ _ | (rw [va_up_ne _ _ (by omega)]; first | assumption | exact va_up_self _ _ _ | (rw [va_up_ne _ _ (by omega)]; first | assumption | exact va_up_self _ _ _ | (rw [va_up_ne _ _ (by omega)]; first | assumption | exact va_up_self _ _ _ | (rw [va_up_ne _ _ (by omega)]; first | assumption | exact va_up_self _ _ _ | (rw [va_up_ne _ _ (by omega)]; first | assumption | exact va_up_self _ _ _)))))) (by rfl) ?_
    refine mx_aload_n (k4 := 0) (mx_d D_C_edition 11 rfl) (by rfl) ?_
    refine mx_getf hG (idx := 70) (ci := 0) (kf := 8) (mx_d D_C_edition 12 rfl) (by rfl) cls_C (by decide) w_157 (by first | assumption | omega) (by first | assumption | exact va_up_self _ _ _ | (rw [va_up_ne _ _ (by omega)]; first | assumption | exact va_up_self _ _ _ | (rw [va_up_ne _ _ (by omega)]; first | assumption | exact va_up_self _ _ _ | (rw [va_up_ne _ _ (by omega)]; first | assumption | exact va_up_self _ _ _ | (rw [va_up_ne _ _ (by omega)]; first | assumption | exact va_up_self _ _ _ | (rw [va_up_ne _ _ (by omega)]; first | assumption | exact va_up_self _ _ _)))))) (by rfl) ?_
    refine mx_aald hG 3 (nE) (mx_d D_C_edition 13 rfl) (by first | assumption | omega) (by first | assumption | exact va_up_self _ _ _ | (rw [va_up_ne _ _ (by omega)]; first | assumption | exact va_up_self _ _ _ | (rw [va_up_ne _ _ (by omega)]; first | assumption | exact va_up_self _ _ _ | (rw [va_up_ne _ _ (by omega)]; first | assumption | exact va_up_self _ _ _ | (rw [va_up_ne _ _ (by omega)]; first | assumption | exact va_up_self _ _ _ | (rw [va_up_ne _ _ (by omega)]; first | assumption | exact va_up_self _ _ _)))))) (by rfl) (by rfl) (by rfl) (by omega) (by omega) (show _ = some (mx_B G + (2 + 3 * nE)) by exact if_pos (by omega)) ?_
    refine mx_aload_n (k4 := 0) (mx_d D_C_edition 14 rfl) (by rfl) ?_
    refine mx_getf hG (idx := 28) (ci := 0) (kf := 2) (mx_d D_C_edition 15 rfl) (by rfl) cls_C (by decide) w_151 (by first | assumption | omega) (by first | assumption | exact va_up_self _ _ _ | (rw [va_up_ne _ _ (by omega)]; first | assumption | exact va_up_self _ _ _ | (rw [va_up_ne _ _ (by omega)]; first | assumption | exact va_up_self _ _ _ | (rw [va_up_ne _ _ (by omega)]; first | assumption | exact va_up_self _ _ _ | (rw [va_up_ne _ _ (by omega)]; first | assumption | exact va_up_self _ _ _ | (rw [va_up_ne _ _ (by omega)]; first | assumption | exact va_up_self _ _ _)))))) (by rfl) ?_
    refine mx_aload_n (k4 := 0) (mx_d D_C_edition 16 rfl) (by rfl) ?_
    refine mx_getf hG (idx := 80) (ci := 0) (kf := 9) (mx_d D_C_edition 17 rfl) (by rfl) cls_C (by decide) w_158 (by first | assumption | omega) (by first | assumption | exact va_up_self _ _ _ | (rw [va_up_ne _ _ (by omega)]; first | assumption | exact va_up_self _ _ _ | (rw [va_up_ne _ _ (by omega)]; first | assumption | exact va_up_self _ _ _ | (rw [va_up_ne _ _ (by omega)]; first | assumption | exact va_up_self _ _ _ | (rw [va_up_ne _ _ (by omega)]; first | assumption | exact va_up_self _ _ _ | (rw [va_up_ne _ _ (by omega)]; first | assumption | exact va_up_self _ _ _)))))) (by rfl) ?_
    refine mx_aald hG 3 (iE) (mx_d D_C_edition 18 rfl) (by first | assumption | omega) (by first | assumption | exact va_up_self _ _ _ | (rw [va_up_ne _ _ (by omega)]; first | assumption | exact va_up_self _ _ _ | (rw [va_up_ne _ _ (by omega)]; first | assumption | exact va_up_self _ _ _ | (rw [va_up_ne _ _ (by omega)]; first | assumption | exact va_up_self _ _ _ | (rw [va_up_ne _ _ (by omega)]; first | assumption | exact va_up_self _ _ _ | (rw [va_up_ne _ _ (by omega)]; first | assumption | exact va_up_self _ _ _)))))) (by rfl) (by rfl) (by rfl) (by omega) (by omega) (show _ = some (mx_B G + (2 + 3 * iE)) by exact if_pos (by omega)) ?_
    refine mx_callV hG (Y' := Y_E_copyRowsOf) (ci := 1) [_] (mx_d D_C_edition 19 rfl) in_E_copyRowsOf w_372 w_373 s_E_copyRowsOf (by rfl) np_E_copyRowsOf (by exact Nat.le_of_ble_eq_true rfl) (by rfl) (by first | assumption | omega) (by first | assumption | exact va_up_self _ _ _ | (rw [va_up_ne _ _ (by omega)]; first | assumption | exact va_up_self _ _ _ | (rw [va_up_ne _ _ (by omega)]; first | assumption | exact va_up_self _ _ _ | (rw [va_up_ne _ _ (by omega)]; first | assumption | exact va_up_self _ _ _ | (rw [va_up_ne _ _ (by omega)]; first | assumption | exact va_up_self _ _ _ | (rw [va_up_ne _ _ (by omega)]; first | assumption | exact va_up_self _ _ _)))))) (by rfl) (by exact Nat.le_of_ble_eq_true rfl) (c_E_copy hG (by omega) (by omega) (by omega) (by omega) (by omega) (by omega) (by omega) (by omega) (by omega) (by omega) (by omega) (by omega) hE1.1 hE1.2.1 hE1.2.2 hE2.1 hE2.2.1 hE2.2.2 (by omega) ?_)
    refine mx_aload_n (k4 := 0) (mx_d D_C_edition 20 rfl) (by rfl) ?_
    refine mx_aload_n (k4 := 0) (mx_d D_C_edition 21 rfl) (by rfl) ?_
    refine mx_getf hG (idx := 70) (ci := 0) (kf := 8) (mx_d D_C_edition 22 rfl) (by rfl) cls_C (by decide) w_157 (by first | assumption | omega) (by first | assumption | exact va_up_self _ _ _ | (rw [va_up_ne _ _ (by omega)]; first | assumption | exact va_up_self _ _ _ | (rw [va_up_ne _ _ (by omega)]; first | assumption | exact va_up_self _ _ _ | (rw [va_up_ne _ _ (by omega)]; first | assumption | exact va_up_self _ _ _ | (rw [va_up_ne _ _ (by omega)]; first | assumption | exact va_up_self _ _ _ | (rw [va_up_ne _ _ (by omega)]; first | assumption | exact va_up_self _ _ _)))))) (by rfl) ?_
    refine mx_putf hG (idx := 80) (ci := 0) (kf := 9) (t := (.int)) (mx_d D_C_edition 23 rfl) (by rfl) cls_C (by decide) (Or.inl rfl) w_158 (by first | assumption | omega) (by first | assumption | exact va_up_self _ _ _ | (rw [va_up_ne _ _ (by omega)]; first | assumption | exact va_up_self _ _ _ | (rw [va_up_ne _ _ (by omega)]; first | assumption | exact va_up_self _ _ _ | (rw [va_up_ne _ _ (by omega)]; first | assumption | exact va_up_self _ _ _ | (rw [va_up_ne _ _ (by omega)]; first | assumption | exact va_up_self _ _ _ | (rw [va_up_ne _ _ (by omega)]; first | assumption | exact va_up_self _ _ _)))))) (by exact Nat.le_of_ble_eq_true rfl) (by decide +kernel) (by rfl) (by rfl) ?_
    refine mx_aload_n (k4 := 0) (mx_d D_C_edition 24 rfl) (by rfl) ?_
    refine mx_dup (mx_d D_C_edition 25 rfl) (by rfl) ?_
    refine mx_getf hG (idx := 70) (ci := 0) (kf := 8) (mx_d D_C_edition 26 rfl) (by rfl) cls_C (by decide) w_157 (by first | assumption | omega) (by first | assumption | exact va_up_self _ _ _ | (rw [va_up_ne _ _ (by omega)]; first | assumption | exact va_up_self _ _ _ | (rw [va_up_ne _ _ (by omega)]; first | assumption | exact va_up_self _ _ _ | (rw [va_up_ne _ _ (by omega)]; first | assumption | exact va_up_self _ _ _ | (rw [va_up_ne _ _ (by omega)]; first | assumption | exact va_up_self _ _ _ | (rw [va_up_ne _ _ (by omega)]; first | assumption | exact va_up_self _ _ _)))))) (by rfl) ?_
    refine mx_iconst (n := 1) (mx_d D_C_edition 27 rfl) ?_
    refine mx_iaddI (mx_d D_C_edition 28 rfl) ?_
    refine mx_putf hG (idx := 70) (ci := 0) (kf := 8) (t := (.int)) (mx_d D_C_edition 29 rfl) (by rfl) cls_C (by decide) (Or.inl rfl) w_157 (by first | assumption | omega) (by first | assumption | exact va_up_self _ _ _ | (rw [va_up_ne _ _ (by omega)]; first | assumption | exact va_up_self _ _ _ | (rw [va_up_ne _ _ (by omega)]; first | assumption | exact va_up_self _ _ _ | (rw [va_up_ne _ _ (by omega)]; first | assumption | exact va_up_self _ _ _ | (rw [va_up_ne _ _ (by omega)]; first | assumption | exact va_up_self _ _ _ | (rw [va_up_ne _ _ (by omega)]; first | assumption | exact va_up_self _ _ _)))))) (by exact Nat.le_of_ble_eq_true rfl) (by decide +kernel) (by rfl) (by rfl) ?_
    refine mx_aload_n (k4 := 0) (mx_d D_C_edition 30 rfl) (by rfl) ?_
    refine mx_getf hG (idx := 80) (ci := 0) (kf := 9) (mx_d D_C_edition 31 rfl) (by rfl) cls_C (by decide) w_158 (by first | assumption | omega) (by first | assumption | exact va_up_self _ _ _ | (rw [va_up_ne _ _ (by omega)]; first | assumption | exact va_up_self _ _ _ | (rw [va_up_ne _ _ (by omega)]; first | assumption | exact va_up_self _ _ _ | (rw [va_up_ne _ _ (by omega)]; first | assumption | exact va_up_self _ _ _ | (rw [va_up_ne _ _ (by omega)]; first | assumption | exact va_up_self _ _ _ | (rw [va_up_ne _ _ (by omega)]; first | assumption | exact va_up_self _ _ _)))))) (by rfl) ?_
    refine mx_iret (by rfl) (mx_d D_C_edition 32 rfl) ?_
    refine q2 _ (fun j => if j < Y then eA iE j else eA nE j) (fun j => if j < Y then eS iE j else eS nE j) h4 (fun j hj => ?_) ⟨⟨hY, hU, ⟨by omega, by omega⟩, hD, hrA, hrS, ?_, ?_, hDA, hDS, hDz, hDW, hrN, hrn, hpN, hps⟩, ?_, ?_, ?_, ?_, csD_fr cD (fun k _ _ => ?_), csL_fr cL (fun k _ _ => ?_), csR_fr cR (fun k _ _ => ?_), csP_fr cP (fun k _ _ => ?_), csT_fr cT (fun k _ _ => ?_)⟩ (fun k hk => ?_)
    · exact ⟨if_pos hj, if_pos hj⟩
    · intro e he y hy
      by_cases e1 : e = nE
      · subst e1; rw [va_up_self, if_pos hy]; exact hEA iE (by omega) y hy
      · rw [va_up_ne _ _ e1]; exact hEA e he y hy
    · intro e he y hy
      by_cases e1 : e = nE
      · subst e1; rw [va_up_self, if_pos hy]; exact hES iE (by omega) y hy
      · rw [va_up_ne _ _ e1]; exact hES e he y hy
    · rw [va_up_self]; rfl
    · rw [va_up_ne _ _ (by omega), va_up_ne _ _ (by omega), va_up_ne _ _ (by omega), va_up_ne _ _ (by omega), va_up_ne _ _ (by omega)]; exact c1
    · rw [va_up_ne _ _ (by omega), va_up_ne _ _ (by omega), va_up_ne _ _ (by omega), va_up_ne _ _ (by omega), va_up_ne _ _ (by omega)]; exact c14
    · intro e he
      rw [va_up_ne _ _ (by omega), va_up_ne _ _ (by omega), va_up_ne _ _ (by omega : 3 + 3 * e ≠ 0), va_up_ne _ _ (by omega : 3 + 3 * e ≠ 0), va_up_ne _ _ (by omega : 4 + 3 * e ≠ 0), va_up_ne _ _ (by omega : 4 + 3 * e ≠ 0)]
      by_cases e1 : e = nE
      · subst e1
        simp only [va_up_self]
        refine ⟨?_, ?_, ?_⟩
        · rw [rwN_congr (f := fun j => if j < Y then eS iE j else eS e j) (g := eS iE) (fun j hj => if_pos hj)]
        · rw [va_up_ne _ _ (by omega), va_up_ne _ _ (by omega), va_up_self]
        · rw [va_up_ne _ _ (by omega), va_up_self]
      · rw [va_up_ne eA _ e1, va_up_ne eS _ e1]
        refine ⟨?_, ?_, ?_⟩
        · rw [va_up_ne _ _ (by omega), va_up_ne _ _ (by omega), va_up_ne _ _ (by omega)]; exact (cE e he).1
        · rw [va_up_ne _ _ (by omega), va_up_ne _ _ (by omega), va_up_ne _ _ (by omega)]; exact (cE e he).2.1
        · rw [va_up_ne _ _ (by omega), va_up_ne _ _ (by omega), va_up_ne _ _ (by omega)]; exact (cE e he).2.2
    all_goals rw [va_up_ne _ _ (by omega), va_up_ne _ _ (by omega), va_up_ne _ _ (by omega), va_up_ne _ _ (by omega), va_up_ne _ _ (by omega)]
  · refine mx_icmp_ltN 18 (mx_d D_C_edition 3 rfl) (by decide) (by omega) (by omega) (by omega) (by omega) (by omega) ?_
    refine mx_throw hG ["java/lang/RuntimeException", "java/lang/Exception"] (E := "java/lang/IllegalStateException") (tx := "there are four editions") (mx_d D_C_edition 4 rfl) (mx_d D_C_edition 5 rfl) (mx_d D_C_edition 6 rfl) (mx_d D_C_edition 7 rfl) (mx_d D_C_edition 8 rfl) (by decide) (by decide) (by decide) w_356 w_15 w_357 (by decide) th_91 (by rfl) (by exact Nat.le_of_ble_eq_true rfl) ?_
    exact q0 h4
theorem c_C_use (hG : mx_ok G) (hN : 50 ≤ N) (hC : CS G Y U nE iE nD rA rS eA eS dA dS dW lc rn rg rN ps pN ce) {y : Int} (y1 : -2147483648 ≤ y) (y2 : y < 2147483648)
    (q0 : ¬ (0 ≤ y ∧ y < nE) → Q (.inr xI) N ce bc bs)
    (q2 : ∀ ce' (m : Nat), y = m → m < nE → CS G Y U nE (m) nD rA rS eA eS dA dS dW lc rn rg rN ps pN ce' → (∀ k, 50 ≤ k → ce' k = ce k) → Q (.inl (some (.int (iI (iE : Nat))))) N ce' bc bs) : mx_M G Y_C_use (d + 6) (bc + 1) (bs + 6) false N ce 0 [(0, .ref (mx_B G + 0)), (1, .int (iI y))] [] Q := by
  obtain ⟨⟨hY, hU, hE, hD, hrA, hrS, hEA, hES, hDA, hDS, hDz, hDW, hrN, hrn, hpN, hps⟩, c0, c1, c14, cE, cD, cL, cR, cP, cT⟩ := hC
  have thr : ¬ (0 ≤ y ∧ y < nE) → ∀ {l9 : List (Nat × Value)}, mx_M G Y_C_use (d + 6) (bc + 1) (bs + 6) false N ce 12 l9 [] Q := by
    intro h l9
    refine mx_throw hG ["java/lang/RuntimeException", "java/lang/Exception"] (E := "java/lang/IndexOutOfBoundsException") (tx := "no such edition") (mx_d D_C_use 6 rfl) (mx_d D_C_use 7 rfl) (mx_d D_C_use 8 rfl) (mx_d D_C_use 9 rfl) (mx_d D_C_use 10 rfl) (by decide) (by decide) (by decide) w_260 w_13 w_261 (by decide) th_102 (by rfl) (by exact Nat.le_of_ble_eq_true rfl) ?_
    exact q0 h
  refine mx_iload_n (k4 := 1) (mx_d D_C_use 0 rfl) (by rfl) ?_
  by_cases h1 : y < 0
  · refine mx_if_ltY 12 (mx_d D_C_use 1 rfl) (by decide) (by omega) (by omega) (by omega) ?_
    exact thr (by omega)
  · refine mx_if_ltN 12 (mx_d D_C_use 1 rfl) (by decide) (by omega) (by omega) (by omega) ?_
    refine mx_iload_n (k4 := 1) (mx_d D_C_use 2 rfl) (by rfl) ?_
    refine mx_aload_n (k4 := 0) (mx_d D_C_use 3 rfl) (by rfl) ?_
    refine mx_getf hG (idx := 70) (ci := 0) (kf := 8) (mx_d D_C_use 4 rfl) (by rfl) cls_C (by decide) w_157 (by first | assumption | omega) (by first | assumption | exact va_up_self _ _ _ | (rw [va_up_ne _ _ (by omega)]; first | assumption | exact va_up_self _ _ _ | (rw [va_up_ne _ _ (by omega)]; first | assumption | exact va_up_self _ _ _ | (rw [va_up_ne _ _ (by omega)]; first | assumption | exact va_up_self _ _ _ | (rw [va_up_ne _ _ (by omega)]; first | assumption | exact va_up_self _ _ _ | (rw [va_up_ne _ _ (by omega)]; first | assumption | exact va_up_self _ _ _)))))) (by rfl) ?_
    by_cases h2 : y < nE
    · refine mx_icmp_ltY 22 (mx_d D_C_use 5 rfl) (by decide) (by omega) (by omega) (by omega) (by omega) (by omega) ?_
      refine mx_bud (Nat.le_succ bc) (Nat.le_add_right bs 6) ?_
      obtain ⟨m, rfl⟩ : ∃ m : Nat, y = m := ⟨y.toNat, by omega⟩
      refine mx_aload_n (k4 := 0) (mx_d D_C_use 11 rfl) (by rfl) ?_
      refine mx_getf hG (idx := 80) (ci := 0) (kf := 9) (mx_d D_C_use 12 rfl) (by rfl) cls_C (by decide) w_158 (by first | assumption | omega) (by first | assumption | exact va_up_self _ _ _ | (rw [va_up_ne _ _ (by omega)]; first | assumption | exact va_up_self _ _ _ | (rw [va_up_ne _ _ (by omega)]; first | assumption | exact va_up_self _ _ _ | (rw [va_up_ne _ _ (by omega)]; first | assumption | exact va_up_self _ _ _ | (rw [va_up_ne _ _ (by omega)]; first | assumption | exact va_up_self _ _ _ | (rw [va_up_ne _ _ (by omega)]; first | assumption | exact va_up_self _ _ _)))))) (by rfl) ?_
      refine mx_istore_n (k4 := 2) (mx_d D_C_use 13 rfl) (by decide) ?_
      refine mx_aload_n (k4 := 0) (mx_d D_C_use 14 rfl) (by rfl) ?_
      refine mx_iload_n (k4 := 1) (mx_d D_C_use 15 rfl) (by rfl) ?_
      refine mx_putf hG (idx := 80) (ci := 0) (kf := 9) (t := (.int)) (mx_d D_C_use 16 rfl) (by rfl) cls_C (by decide) (Or.inl rfl) w_158 (by first | assumption | omega) (by first | assumption | exact va_up_self _ _ _ | (rw [va_up_ne _ _ (by omega)]; first | assumption | exact va_up_self _ _ _ | (rw [va_up_ne _ _ (by omega)]; first | assumption | exact va_up_self _ _ _ | (rw [va_up_ne _ _ (by omega)]; first | assumption | exact va_up_self _ _ _ | (rw [va_up_ne _ _ (by omega)]; first | assumption | exact va_up_self _ _ _ | (rw [va_up_ne _ _ (by omega)]; first | assumption | exact va_up_self _ _ _)))))) (by exact Nat.le_of_ble_eq_true rfl) (by decide +kernel) (by rfl) (by rfl) ?_
      refine mx_iload_n (k4 := 2) (mx_d D_C_use 17 rfl) (by rfl) ?_
      refine mx_iret (by rfl) (mx_d D_C_use 18 rfl) ?_
      refine q2 _ m rfl (by omega) ⟨⟨hY, hU, ⟨by omega, by omega⟩, hD, hrA, hrS, hEA, hES, hDA, hDS, hDz, hDW, hrN, hrn, hpN, hps⟩, va_up_self _ _ _, ?_, ?_, csE_fr cE (fun k _ _ => ?_), csD_fr cD (fun k _ _ => ?_), csL_fr cL (fun k _ _ => ?_), csR_fr cR (fun k _ _ => ?_), csP_fr cP (fun k _ _ => ?_), csT_fr cT (fun k _ _ => ?_)⟩ (fun k hk => ?_) <;> rw [va_up_ne _ _ (by omega)] <;> assumption
    · refine mx_icmp_ltN 22 (mx_d D_C_use 5 rfl) (by decide) (by omega) (by omega) (by omega) (by omega) (by omega) ?_
      exact thr (by omega)
theorem c_C_reservoir (hG : mx_ok G) (hN : 50 ≤ N) (hC : CS G Y U nE iE nD rA rS eA eS dA dS dW lc rn rg rN ps pN ce) {a s : Int} (a1 : -2147483648 ≤ a) (a2 : a < 2147483648) (s1 : -2147483648 ≤ s) (s2 : s < 2147483648)
    (q0 : ¬ ((-1000 ≤ a ∧ a ≤ 1000) ∧ 0 ≤ s ∧ s ≤ 100) → Q (.inr xA) N ce bc bs)
    (q2 : ∀ ce', ((-1000 ≤ a ∧ a ≤ 1000) ∧ 0 ≤ s ∧ s ≤ 100) → CS G Y U nE iE nD (a) (s) eA eS dA dS dW lc rn rg rN ps pN ce' → (∀ k, 50 ≤ k → ce' k = ce k) → Q (.inl none) N ce' bc bs) : mx_M G Y_C_reservoir (d + 6) (bc + 1) (bs + 6) false N ce 0 [(0, .ref (mx_B G + 0)), (1, .int (iI a)), (2, .int (iI s))] [] Q := by
  obtain ⟨⟨hY, hU, hE, hD, hrA, hrS, hEA, hES, hDA, hDS, hDz, hDW, hrN, hrn, hpN, hps⟩, c0, c1, c14, cE, cD, cL, cR, cP, cT⟩ := hC
  have thr : ¬ (-1000 ≤ a ∧ a ≤ 1000) → ∀ {l9 : List (Nat × Value)}, mx_M G Y_C_reservoir (d + 6) (bc + 1) (bs + 6) false N ce 14 l9 [] Q := by
    intro h l9
    refine mx_throw hG ["java/lang/RuntimeException", "java/lang/Exception"] (E := "java/lang/IllegalArgumentException") (tx := "a reservoir\'s age is -1000 .. 1000") (mx_d D_C_reservoir 6 rfl) (mx_d D_C_reservoir 7 rfl) (mx_d D_C_reservoir 8 rfl) (mx_d D_C_reservoir 9 rfl) (mx_d D_C_reservoir 10 rfl) (by decide) (by decide) (by decide) w_331 w_14 w_332 (by decide) th_107 (by rfl) (by exact Nat.le_of_ble_eq_true rfl) ?_
    exact q0 (fun z => h z.1)
  have thr2 : ¬ (0 ≤ s ∧ s ≤ 100) → ∀ {l9 : List (Nat × Value)}, mx_M G Y_C_reservoir (d + 6) (bc + 1) (bs + 6) false N ce 34 l9 [] Q := by
    intro h l9
    refine mx_throw hG ["java/lang/RuntimeException", "java/lang/Exception"] (E := "java/lang/IllegalArgumentException") (tx := "a reservoir\'s spread is 0 .. 100") (mx_d D_C_reservoir 16 rfl) (mx_d D_C_reservoir 17 rfl) (mx_d D_C_reservoir 18 rfl) (mx_d D_C_reservoir 19 rfl) (mx_d D_C_reservoir 20 rfl) (by decide) (by decide) (by decide) w_331 w_14 w_332 (by decide) th_107 (by rfl) (by exact Nat.le_of_ble_eq_true rfl) ?_
    exact q0 (fun z => h z.2)
  refine mx_iload_n (k4 := 1) (mx_d D_C_reservoir 0 rfl) (by rfl) ?_
  refine mx_sipush (n := -1000) (mx_d D_C_reservoir 1 rfl) (by decide) ?_
  by_cases h1 : a < -1000
  · refine mx_icmp_ltY 14 (mx_d D_C_reservoir 2 rfl) (by decide) (by omega) (by omega) (by omega) (by omega) (by omega) ?_
    exact thr (by omega)
  · refine mx_icmp_ltN 14 (mx_d D_C_reservoir 2 rfl) (by decide) (by omega) (by omega) (by omega) (by omega) (by omega) ?_
    refine mx_iload_n (k4 := 1) (mx_d D_C_reservoir 3 rfl) (by rfl) ?_
    refine mx_sipush (n := 1000) (mx_d D_C_reservoir 4 rfl) (by decide) ?_
    by_cases h2 : a ≤ 1000
    · refine mx_icmp_leY 24 (mx_d D_C_reservoir 5 rfl) (by decide) (by omega) (by omega) (by omega) (by omega) (by omega) ?_
      refine mx_iload_n (k4 := 2) (mx_d D_C_reservoir 11 rfl) (by rfl) ?_
      by_cases h3 : s < 0
      · refine mx_if_ltY 34 (mx_d D_C_reservoir 12 rfl) (by decide) (by omega) (by omega) (by omega) ?_
        exact thr2 (by omega)
      · refine mx_if_ltN 34 (mx_d D_C_reservoir 12 rfl) (by decide) (by omega) (by omega) (by omega) ?_
        refine mx_iload_n (k4 := 2) (mx_d D_C_reservoir 13 rfl) (by rfl) ?_
        refine mx_bipush (n := 100) (mx_d D_C_reservoir 14 rfl) (by decide) ?_
        by_cases h4 : s ≤ 100
        · refine mx_icmp_leY 44 (mx_d D_C_reservoir 15 rfl) (by decide) (by omega) (by omega) (by omega) (by omega) (by omega) ?_
          refine mx_bud (Nat.le_succ bc) (Nat.le_add_right bs 6) ?_
          refine mx_aload_n (k4 := 0) (mx_d D_C_reservoir 21 rfl) (by rfl) ?_
          refine mx_iload_n (k4 := 1) (mx_d D_C_reservoir 22 rfl) (by rfl) ?_
          refine mx_putf hG (idx := 110) (ci := 0) (kf := 11) (t := (.int)) (mx_d D_C_reservoir 23 rfl) (by rfl) cls_C (by decide) (Or.inl rfl) w_160 (by first | assumption | omega) (by first | assumption | exact va_up_self _ _ _ | (rw [va_up_ne _ _ (by omega)]; first | assumption | exact va_up_self _ _ _ | (rw [va_up_ne _ _ (by omega)]; first | assumption | exact va_up_self _ _ _ | (rw [va_up_ne _ _ (by omega)]; first | assumption | exact va_up_self _ _ _ | (rw [va_up_ne _ _ (by omega)]; first | assumption | exact va_up_self _ _ _ | (rw [va_up_ne _ _ (by omega)]; first | assumption | exact va_up_self _ _ _)))))) (by exact Nat.le_of_ble_eq_true rfl) (by decide +kernel) (by rfl) (by rfl) ?_
          refine mx_aload_n (k4 := 0) (mx_d D_C_reservoir 24 rfl) (by rfl) ?_
          refine mx_iload_n (k4 := 2) (mx_d D_C_reservoir 25 rfl) (by rfl) ?_
          refine mx_putf hG (idx := 113) (ci := 0) (kf := 12) (t := (.int)) (mx_d D_C_reservoir 26 rfl) (by rfl) cls_C (by decide) (Or.inl rfl) w_161 (by first | assumption | omega) (by first | assumption | exact va_up_self _ _ _ | (rw [va_up_ne _ _ (by omega)]; first | assumption | exact va_up_self _ _ _ | (rw [va_up_ne _ _ (by omega)]; first | assumption | exact va_up_self _ _ _ | (rw [va_up_ne _ _ (by omega)]; first | assumption | exact va_up_self _ _ _ | (rw [va_up_ne _ _ (by omega)]; first | assumption | exact va_up_self _ _ _ | (rw [va_up_ne _ _ (by omega)]; first | assumption | exact va_up_self _ _ _)))))) (by exact Nat.le_of_ble_eq_true rfl) (by decide +kernel) (by rfl) (by rfl) ?_
          refine mx_vret (by rfl) (mx_d D_C_reservoir 27 rfl) ?_
          rw [bx_uu]
          refine q2 _ (by omega) ⟨⟨hY, hU, hE, hD, ⟨by omega, by omega⟩, ⟨by omega, by omega⟩, hEA, hES, hDA, hDS, hDz, hDW, hrN, hrn, hpN, hps⟩, va_up_self _ _ _, ?_, ?_, csE_fr cE (fun k _ _ => ?_), csD_fr cD (fun k _ _ => ?_), csL_fr cL (fun k _ _ => ?_), csR_fr cR (fun k _ _ => ?_), csP_fr cP (fun k _ _ => ?_), csT_fr cT (fun k _ _ => ?_)⟩ (fun k hk => ?_) <;> rw [va_up_ne _ _ (by omega)] <;> assumption
        · refine mx_icmp_leN 44 (mx_d D_C_reservoir 15 rfl) (by decide) (by omega) (by omega) (by omega) (by omega) (by omega) ?_
          exact thr2 (by omega)
    · refine mx_icmp_leN 24 (mx_d D_C_reservoir 5 rfl) (by decide) (by omega) (by omega) (by omega) (by omega) (by omega) ?_
      exact thr (by omega)
theorem c_C_weight (hG : mx_ok G) (hN : 50 ≤ N) (hC : CS G Y U nE iE nD rA rS eA eS dA dS dW lc rn rg rN ps pN ce) {i y : Int} (i1 : -2147483648 ≤ i) (i2 : i < 2147483648) (y1 : -2147483648 ≤ y) (y2 : y < 2147483648)
    (q0 : ¬ ((0 ≤ i ∧ i < nD) ∧ 0 ≤ y ∧ y < Y) → Q (.inr xI) N ce bc bs)
    (q2 : ∀ j m : Nat, i = j → y = m → j < nD → m < Y → Q (.inl (some (.int (iI (dW j m))))) N ce bc bs) : mx_M G Y_C_weight (d + 6) (bc + 1) (bs + 6) false N ce 0 [(0, .ref (mx_B G + 0)), (1, .int (iI i)), (2, .int (iI y))] [] Q := by
  obtain ⟨⟨hY, hU, hE, hD, hrA, hrS, hEA, hES, hDA, hDS, hDz, hDW, hrN, hrn, hpN, hps⟩, c0, c1, c14, cE, cD, cL, cR, cP, cT⟩ := hC
  refine mx_aload_n (k4 := 0) (mx_d D_C_weight 0 rfl) (by rfl) ?_
  refine mx_iload_n (k4 := 1) (mx_d D_C_weight 1 rfl) (by rfl) ?_
  refine mx_callV hG (Y' := Y_C_needDate) (ci := 0) [_] (mx_d D_C_weight 2 rfl) in_C_needDate w_428 w_430 s_C_needDate (by rfl) np_C_needDate (by exact Nat.le_of_ble_eq_true rfl) (by rfl) (by first | assumption | omega) (by first | assumption | exact va_up_self _ _ _ | (rw [va_up_ne _ _ (by omega)]; first | assumption | exact va_up_self _ _ _ | (rw [va_up_ne _ _ (by omega)]; first | assumption | exact va_up_self _ _ _ | (rw [va_up_ne _ _ (by omega)]; first | assumption | exact va_up_self _ _ _ | (rw [va_up_ne _ _ (by omega)]; first | assumption | exact va_up_self _ _ _ | (rw [va_up_ne _ _ (by omega)]; first | assumption | exact va_up_self _ _ _)))))) (by rfl) (by exact Nat.le_of_ble_eq_true rfl) (c_needDate hG hN c0 hD i1 i2 (fun h => q0 (fun z => h z.1)) (fun h1 h2 => ?_))
  refine mx_aload_n (k4 := 0) (mx_d D_C_weight 3 rfl) (by rfl) ?_
  refine mx_iload_n (k4 := 2) (mx_d D_C_weight 4 rfl) (by rfl) ?_
  refine mx_callV hG (Y' := Y_C_needYear) (ci := 0) [_] (mx_d D_C_weight 5 rfl) in_C_needYear w_256 w_258 s_C_needYear (by rfl) np_C_needYear (by exact Nat.le_of_ble_eq_true rfl) (by rfl) (by first | assumption | omega) (by first | assumption | exact va_up_self _ _ _ | (rw [va_up_ne _ _ (by omega)]; first | assumption | exact va_up_self _ _ _ | (rw [va_up_ne _ _ (by omega)]; first | assumption | exact va_up_self _ _ _ | (rw [va_up_ne _ _ (by omega)]; first | assumption | exact va_up_self _ _ _ | (rw [va_up_ne _ _ (by omega)]; first | assumption | exact va_up_self _ _ _ | (rw [va_up_ne _ _ (by omega)]; first | assumption | exact va_up_self _ _ _)))))) (by rfl) (by exact Nat.le_of_ble_eq_true rfl) (c_needYear hG hN c0 hY.2 y1 y2 (fun h => q0 (fun z => h z.2)) (fun h3 h4 => ?_))
  refine mx_bud (Nat.le_succ bc) (Nat.le_add_right bs 6) ?_
  obtain ⟨m, rfl⟩ : ∃ m : Nat, y = m := ⟨y.toNat, by omega⟩
  obtain ⟨j, rfl⟩ : ∃ j : Nat, i = j := ⟨i.toNat, by omega⟩
  have hD' := cD j (by omega)
  have hDa := hD'.1
  have hDb := hD'.2
  refine mx_aload_n (k4 := 0) (mx_d D_C_weight 6 rfl) (by rfl) ?_
  refine mx_getf hG (idx := 37) (ci := 0) (kf := 3) (mx_d D_C_weight 7 rfl) (by rfl) cls_C (by decide) w_152 (by first | assumption | omega) (by first | assumption | exact va_up_self _ _ _ | (rw [va_up_ne _ _ (by omega)]; first | assumption | exact va_up_self _ _ _ | (rw [va_up_ne _ _ (by omega)]; first | assumption | exact va_up_self _ _ _ | (rw [va_up_ne _ _ (by omega)]; first | assumption | exact va_up_self _ _ _ | (rw [va_up_ne _ _ (by omega)]; first | assumption | exact va_up_self _ _ _ | (rw [va_up_ne _ _ (by omega)]; first | assumption | exact va_up_self _ _ _)))))) (by rfl) ?_
  refine mx_iload_n (k4 := 1) (mx_d D_C_weight 8 rfl) (by rfl) ?_
  refine mx_aald hG 4 (j) (mx_d D_C_weight 9 rfl) (by first | assumption | omega) (by first | assumption | exact va_up_self _ _ _ | (rw [va_up_ne _ _ (by omega)]; first | assumption | exact va_up_self _ _ _ | (rw [va_up_ne _ _ (by omega)]; first | assumption | exact va_up_self _ _ _ | (rw [va_up_ne _ _ (by omega)]; first | assumption | exact va_up_self _ _ _ | (rw [va_up_ne _ _ (by omega)]; first | assumption | exact va_up_self _ _ _ | (rw [va_up_ne _ _ (by omega)]; first | assumption | exact va_up_self _ _ _)))))) (by rfl) (by rfl) (by rfl) (by omega) (by omega) (show _ = some (mx_B G + (15 + 2 * j)) by exact if_pos (by omega)) ?_
  refine mx_getf hG (idx := 125) (ci := 2) (kf := 0) (mx_d D_C_weight 10 rfl) (by rfl) cls_D (by decide) w_63 (by first | assumption | omega) (by first | assumption | exact va_up_self _ _ _ | (rw [va_up_ne _ _ (by omega)]; first | assumption | exact va_up_self _ _ _ | (rw [va_up_ne _ _ (by omega)]; first | assumption | exact va_up_self _ _ _ | (rw [va_up_ne _ _ (by omega)]; first | assumption | exact va_up_self _ _ _ | (rw [va_up_ne _ _ (by omega)]; first | assumption | exact va_up_self _ _ _ | (rw [va_up_ne _ _ (by omega)]; first | assumption | exact va_up_self _ _ _)))))) (by rfl) ?_
  refine mx_iload_n (k4 := 2) (mx_d D_C_weight 11 rfl) (by rfl) ?_
  refine mx_ialdI hG _ (mx_d D_C_weight 12 rfl) (by first | assumption | omega) (by first | assumption | exact va_up_self _ _ _ | (rw [va_up_ne _ _ (by omega)]; first | assumption | exact va_up_self _ _ _ | (rw [va_up_ne _ _ (by omega)]; first | assumption | exact va_up_self _ _ _ | (rw [va_up_ne _ _ (by omega)]; first | assumption | exact va_up_self _ _ _ | (rw [va_up_ne _ _ (by omega)]; first | assumption | exact va_up_self _ _ _ | (rw [va_up_ne _ _ (by omega)]; first | assumption | exact va_up_self _ _ _)))))) (by rfl) (by omega) (by omega) ?_
  refine mx_iret (by rfl) (mx_d D_C_weight 13 rfl) ?_
  exact q2 j m rfl rfl (by omega) (by omega)
theorem c_C_total (hG : mx_ok G) (hN : 50 ≤ N) (hC : CS G Y U nE iE nD rA rS eA eS dA dS dW lc rn rg rN ps pN ce) {i : Int} (i1 : -2147483648 ≤ i) (i2 : i < 2147483648)
    (q0 : ¬ (0 ≤ i ∧ i < nD) → Q (.inr xI) N ce bc bs)
    (q2 : ∀ j : Nat, i = j → j < nD → Q (.inl (some (.int (iI (sumTo (dW j) Y))))) N ce bc bs) : mx_M G Y_C_total (d + 6) (bc + 1) (bs + 6) false N ce 0 [(0, .ref (mx_B G + 0)), (1, .int (iI i))] [] Q := by
  obtain ⟨⟨hY, hU, hE, hD, hrA, hrS, hEA, hES, hDA, hDS, hDz, hDW, hrN, hrn, hpN, hps⟩, c0, c1, c14, cE, cD, cL, cR, cP, cT⟩ := hC
  refine mx_aload_n (k4 := 0) (mx_d D_C_total 0 rfl) (by rfl) ?_
  refine mx_iload_n (k4 := 1) (mx_d D_C_total 1 rfl) (by rfl) ?_
  refine mx_callV hG (Y' := Y_C_needDate) (ci := 0) [_] (mx_d D_C_total 2 rfl) in_C_needDate w_428 w_430 s_C_needDate (by rfl) np_C_needDate (by exact Nat.le_of_ble_eq_true rfl) (by rfl) (by first | assumption | omega) (by first | assumption | exact va_up_self _ _ _ | (rw [va_up_ne _ _ (by omega)]; first | assumption | exact va_up_self _ _ _ | (rw [va_up_ne _ _ (by omega)]; first | assumption | exact va_up_self _ _ _ | (rw [va_up_ne _ _ (by omega)]; first | assumption | exact va_up_self _ _ _ | (rw [va_up_ne _ _ (by omega)]; first | assumption | exact va_up_self _ _ _ | (rw [va_up_ne _ _ (by omega)]; first | assumption | exact va_up_self _ _ _)))))) (by rfl) (by exact Nat.le_of_ble_eq_true rfl) (c_needDate hG hN c0 hD i1 i2 q0 (fun h1 h2 => ?_))
  refine mx_bud (Nat.le_succ bc) (Nat.le_add_right bs 6) ?_
  obtain ⟨j, rfl⟩ : ∃ j : Nat, i = j := ⟨i.toNat, by omega⟩
  have hD' := cD j (by omega)
  have hDa := hD'.1
  refine mx_aload_n (k4 := 0) (mx_d D_C_total 3 rfl) (by rfl) ?_
  refine mx_getf hG (idx := 37) (ci := 0) (kf := 3) (mx_d D_C_total 4 rfl) (by rfl) cls_C (by decide) w_152 (by first | assumption | omega) (by first | assumption | exact va_up_self _ _ _ | (rw [va_up_ne _ _ (by omega)]; first | assumption | exact va_up_self _ _ _ | (rw [va_up_ne _ _ (by omega)]; first | assumption | exact va_up_self _ _ _ | (rw [va_up_ne _ _ (by omega)]; first | assumption | exact va_up_self _ _ _ | (rw [va_up_ne _ _ (by omega)]; first | assumption | exact va_up_self _ _ _ | (rw [va_up_ne _ _ (by omega)]; first | assumption | exact va_up_self _ _ _)))))) (by rfl) ?_
  refine mx_iload_n (k4 := 1) (mx_d D_C_total 5 rfl) (by rfl) ?_
  refine mx_aald hG 4 (j) (mx_d D_C_total 6 rfl) (by first | assumption | omega) (by first | assumption | exact va_up_self _ _ _ | (rw [va_up_ne _ _ (by omega)]; first | assumption | exact va_up_self _ _ _ | (rw [va_up_ne _ _ (by omega)]; first | assumption | exact va_up_self _ _ _ | (rw [va_up_ne _ _ (by omega)]; first | assumption | exact va_up_self _ _ _ | (rw [va_up_ne _ _ (by omega)]; first | assumption | exact va_up_self _ _ _ | (rw [va_up_ne _ _ (by omega)]; first | assumption | exact va_up_self _ _ _)))))) (by rfl) (by rfl) (by rfl) (by omega) (by omega) (show _ = some (mx_B G + (15 + 2 * j)) by exact if_pos (by omega)) ?_
  refine mx_callV hG (Y' := Y_D_allWeights) (ci := 2) [] (mx_d D_C_total 7 rfl) in_D_allWeights w_440 w_441 s_D_allWeights (by rfl) np_D_allWeights (by exact Nat.le_of_ble_eq_true rfl) (by rfl) (by first | assumption | omega) (by first | assumption | exact va_up_self _ _ _ | (rw [va_up_ne _ _ (by omega)]; first | assumption | exact va_up_self _ _ _ | (rw [va_up_ne _ _ (by omega)]; first | assumption | exact va_up_self _ _ _ | (rw [va_up_ne _ _ (by omega)]; first | assumption | exact va_up_self _ _ _ | (rw [va_up_ne _ _ (by omega)]; first | assumption | exact va_up_self _ _ _ | (rw [va_up_ne _ _ (by omega)]; first | assumption | exact va_up_self _ _ _)))))) (by rfl) (by exact Nat.le_of_ble_eq_true rfl) (c_D_all hG (by omega) (by omega) hD'.1 hD'.2 (by omega) ?_)
  refine mx_iret (by rfl) (mx_d D_C_total 8 rfl) ?_
  exact q2 j rfl (by omega)
end CM
end
section
/-! the class's methods: date, sum, mix, joinRepeats -/
def wgt (U v a A S : Int) : Int := if 0 < S then U * (v + S * S) * (v + S * S) / ((v + S * S + (a - A) * (a - A)) * (v + S * S + (a - A) * (a - A))) else 0
theorem sq_nn (x : Int) : 0 ≤ x * x := by
  rcases Int.le_total 0 x with h | h
  · exact Int.mul_nonneg h h
  · have := Int.mul_nonneg (Int.neg_nonneg.mpr h) (Int.neg_nonneg.mpr h); rwa [Int.neg_mul_neg] at this
theorem sq_le {x m : Int} (h1 : -m ≤ x) (h2 : x ≤ m) : x * x ≤ m * m := by
  rcases Int.le_total 0 x with h | h
  · exact Int.mul_le_mul h2 h2 h (by omega)
  · have := Int.mul_le_mul (show -x ≤ m by omega) (show -x ≤ m by omega) (by omega) (by omega)
    rwa [Int.neg_mul_neg] at this
/-- the sizes in the weight's quotient -/
theorem wgt_sz {U v a A S : Int} (hU1 : 1 ≤ U) (hU2 : U ≤ 65536) (hv1 : 0 ≤ v) (hv2 : v ≤ 20000) (ha1 : -4000 ≤ a - A) (ha2 : a - A ≤ 4000) (hS1 : 0 < S) (hS2 : S ≤ 100) : (1 ≤ S * S ∧ S * S ≤ 10000) ∧ (0 ≤ (a - A) * (a - A) ∧ (a - A) * (a - A) ≤ 16000000) ∧ (0 ≤ U * (v + S * S) * (v + S * S) ∧ U * (v + S * S) * (v + S * S) ≤ 65536 * 30000 * 30000) ∧ (0 < (v + S * S + (a - A) * (a - A)) * (v + S * S + (a - A) * (a - A)) ∧ (v + S * S + (a - A) * (a - A)) * (v + S * S + (a - A) * (a - A)) ≤ 16030000 * 16030000) ∧ U * (v + S * S) * (v + S * S) ≤ U * ((v + S * S + (a - A) * (a - A)) * (v + S * S + (a - A) * (a - A))) := by
  have s1 : 1 * 1 ≤ S * S := Int.mul_le_mul (by omega) (by omega) (by omega) (by omega)
  have s2 : S * S ≤ 100 * 100 := sq_le (by omega) hS2
  have d1 := sq_nn (a - A)
  have d2 : (a - A) * (a - A) ≤ 4000 * 4000 := sq_le (by omega) ha2
  generalize (a - A) * (a - A) = D at *
  generalize hs : v + S * S = s at *
  have t1 : U * s ≤ 65536 * 30000 := Int.mul_le_mul hU2 (by omega) (by omega) (by omega)
  have t0 : 0 ≤ U * s := Int.mul_nonneg (by omega) (by omega)
  have t2 : U * s * s ≤ 65536 * 30000 * 30000 := Int.mul_le_mul t1 (by omega) (by omega) (by omega)
  have t3 : 0 ≤ U * s * s := Int.mul_nonneg t0 (by omega)
  have u1 : (s + D) * (s + D) ≤ 16030000 * 16030000 := Int.mul_le_mul (by omega) (by omega) (by omega) (by omega)
  have u2 : 0 < (s + D) * (s + D) := Int.mul_pos (by omega) (by omega)
  have u3 : s * s ≤ (s + D) * (s + D) := Int.mul_le_mul (by omega) (by omega) (by omega) (by omega)
  have u4 : U * s * s ≤ U * ((s + D) * (s + D)) := by rw [Int.mul_assoc]; exact Int.mul_le_mul_of_nonneg_left u3 (by omega)
  exact ⟨⟨by omega, by omega⟩, ⟨by omega, by omega⟩, ⟨t3, t2⟩, ⟨u2, u1⟩, u4⟩
theorem wgt_bd {U v a A S : Int} (hU1 : 1 ≤ U) (hU2 : U ≤ 65536) (hv1 : 0 ≤ v) (hv2 : v ≤ 20000) (ha1 : -4000 ≤ a - A) (ha2 : a - A ≤ 4000) (hS2 : S ≤ 100) : 0 ≤ wgt U v a A S ∧ wgt U v a A S ≤ 1000000 := by
  unfold wgt
  by_cases h : 0 < S
  · rw [if_pos h]
    obtain ⟨-, -, h3, h4, h5⟩ := wgt_sz hU1 hU2 hv1 hv2 ha1 ha2 h hS2
    have := Int.ediv_nonneg h3.1 (Int.le_of_lt h4.1)
    have h6 := Int.ediv_le_of_le_mul h4.1 h5
    exact ⟨this, by omega⟩
  · rw [if_neg h]; omega
def isRt (q r : Int) : Prop := 1 ≤ r ∧ r ≤ 100 ∧ (r = 1 ∨ r * r ≤ q) ∧ q < (r + 1) * (r + 1)
section CD
variable {G : mx_G} {d bc bs : Nat} {N : Nat} {ce : Nat → va_E} {Q : mx_P} {Y : Nat} {U : Int} {nE iE nD : Nat} {rA rS : Int} {eA eS : Nat → Nat → Int} {dA dS : Nat → Int} {dW : Nat → Nat → Int} {lc : Nat → Bool} {rn rg : Nat → Nat} {rN : Nat} {ps : Nat → Int} {pN : Nat}
theorem c_weightBy' (hG : mx_ok G) (hN : 50 ≤ N) (c0 : ce 0 = cs0 G Y U nE iE nD rA rS) (cE : csE G Y eA eS ce) (hY : 8 ≤ Y ∧ Y ≤ 60) (hU : 1 ≤ U ∧ U ≤ 65536) (hE1 : nE ≤ 4) (hE2 : iE < nE) (hEA : ∀ e, e < 4 → ∀ y, y < Y → 0 ≤ eA e y ∧ eA e y ≤ 3000) (hES : ∀ e, e < 4 → ∀ y, y < Y → 0 ≤ eS e y ∧ eS e y ≤ 100) {y : Nat} {a v : Int} (hy : y < Y) (hv1 : 0 ≤ v) (hv2 : v ≤ 20000) (ha1 : -1000 ≤ a) (ha2 : a ≤ 4000)
    (q : Q (.inl (some (.int (iI (wgt U v a (eA iE y) (eS iE y)))))) N ce bc bs) : mx_M G Y_C_weightBy (d + 1) bc bs false N ce 0 [(0, .ref (mx_B G + 0)), (1, .ref (mx_B G + (2 + 3 * iE))), (2, .int (iI y)), (3, .int (iI a)), (4, .int (iI v))] [] Q := by
  obtain ⟨hEa, hEb, hEc⟩ := cE iE (by omega)
  have b1 := hEA iE (by omega) y hy
  have b2 := hES iE (by omega) y hy
  refine mx_aload_n (k4 := 1) (mx_d D_C_weightBy 0 rfl) (by rfl) ?_
  refine mx_iload_n (k4 := 2) (mx_d D_C_weightBy 1 rfl) (by rfl) ?_
  refine mx_callV hG (Y' := Y_E_hasRow) (ci := 1) [_] (mx_d D_C_weightBy 2 rfl) in_E_hasRow w_416 w_241 s_E_hasRow (by rfl) np_E_hasRow (by exact Nat.le_of_ble_eq_true rfl) (by rfl) (by first | assumption | omega) (by first | assumption | exact va_up_self _ _ _ | (rw [va_up_ne _ _ (by omega)]; first | assumption | exact va_up_self _ _ _ | (rw [va_up_ne _ _ (by omega)]; first | assumption | exact va_up_self _ _ _ | (rw [va_up_ne _ _ (by omega)]; first | assumption | exact va_up_self _ _ _ | (rw [va_up_ne _ _ (by omega)]; first | assumption | exact va_up_self _ _ _ | (rw [va_up_ne _ _ (by omega)]; first | assumption | exact va_up_self _ _ _)))))) (by rfl) (by exact Nat.le_of_ble_eq_true rfl) (c_E_hasRow hG (by omega) (by omega) hEa hEc (by omega) hy b2 ?_)
  by_cases hs : 0 < eS iE y
  · rw [show decide (0 < eS iE y) = true from by simp [hs]]
    obtain ⟨z1, z2, z3, z4, z5⟩ := wgt_sz (a := a) (A := eA iE y) hU.1 hU.2 hv1 hv2 (by omega) (by omega) hs b2.2
    rw [wgt, if_pos hs] at q
    refine mx_if_neY 10 (mx_d D_C_weightBy 3 rfl) (by decide) (by decide) (by decide) (by decide) ?_
    refine mx_aload_n (k4 := 1) (mx_d D_C_weightBy 6 rfl) (by rfl) ?_
    refine mx_getf hG (idx := 254) (ci := 1) (kf := 1) (mx_d D_C_weightBy 7 rfl) (by rfl) cls_E (by decide) w_42 (by first | assumption | omega) (by first | assumption | exact va_up_self _ _ _ | (rw [va_up_ne _ _ (by omega)]; first | assumption | exact va_up_self _ _ _ | (rw [va_up_ne _ _ (by omega)]; first | assumption | exact va_up_self _ _ _ | (rw [va_up_ne _ _ (by omega)]; first | assumption | exact va_up_self _ _ _ | (rw [va_up_ne _ _ (by omega)]; first | assumption | exact va_up_self _ _ _ | (rw [va_up_ne _ _ (by omega)]; first | assumption | exact va_up_self _ _ _)))))) (by rfl) ?_
    refine mx_iload_n (k4 := 2) (mx_d D_C_weightBy 8 rfl) (by rfl) ?_
    refine mx_ialdI hG _ (mx_d D_C_weightBy 9 rfl) (by first | assumption | omega) (by first | assumption | exact va_up_self _ _ _ | (rw [va_up_ne _ _ (by omega)]; first | assumption | exact va_up_self _ _ _ | (rw [va_up_ne _ _ (by omega)]; first | assumption | exact va_up_self _ _ _ | (rw [va_up_ne _ _ (by omega)]; first | assumption | exact va_up_self _ _ _ | (rw [va_up_ne _ _ (by omega)]; first | assumption | exact va_up_self _ _ _ | (rw [va_up_ne _ _ (by omega)]; first | assumption | exact va_up_self _ _ _)))))) (by rfl) (by omega) (by omega) ?_
    refine mx_istore (i := 5) (mx_d D_C_weightBy 10 rfl) (by decide) ?_
    refine mx_iload_n (k4 := 3) (mx_d D_C_weightBy 11 rfl) (by rfl) ?_
    refine mx_aload_n (k4 := 1) (mx_d D_C_weightBy 12 rfl) (by rfl) ?_
    refine mx_getf hG (idx := 257) (ci := 1) (kf := 0) (mx_d D_C_weightBy 13 rfl) (by rfl) cls_E (by decide) w_40 (by first | assumption | omega) (by first | assumption | exact va_up_self _ _ _ | (rw [va_up_ne _ _ (by omega)]; first | assumption | exact va_up_self _ _ _ | (rw [va_up_ne _ _ (by omega)]; first | assumption | exact va_up_self _ _ _ | (rw [va_up_ne _ _ (by omega)]; first | assumption | exact va_up_self _ _ _ | (rw [va_up_ne _ _ (by omega)]; first | assumption | exact va_up_self _ _ _ | (rw [va_up_ne _ _ (by omega)]; first | assumption | exact va_up_self _ _ _)))))) (by rfl) ?_
    refine mx_iload_n (k4 := 2) (mx_d D_C_weightBy 14 rfl) (by rfl) ?_
    refine mx_ialdI hG _ (mx_d D_C_weightBy 15 rfl) (by first | assumption | omega) (by first | assumption | exact va_up_self _ _ _ | (rw [va_up_ne _ _ (by omega)]; first | assumption | exact va_up_self _ _ _ | (rw [va_up_ne _ _ (by omega)]; first | assumption | exact va_up_self _ _ _ | (rw [va_up_ne _ _ (by omega)]; first | assumption | exact va_up_self _ _ _ | (rw [va_up_ne _ _ (by omega)]; first | assumption | exact va_up_self _ _ _ | (rw [va_up_ne _ _ (by omega)]; first | assumption | exact va_up_self _ _ _)))))) (by rfl) (by omega) (by omega) ?_
    refine mx_isubI (mx_d D_C_weightBy 16 rfl) ?_
    refine mx_istore (i := 6) (mx_d D_C_weightBy 17 rfl) (by decide) ?_
    refine mx_iload (i := 4) (mx_d D_C_weightBy 18 rfl) (by rfl) ?_
    refine mx_iload (i := 5) (mx_d D_C_weightBy 19 rfl) (by rfl) ?_
    refine mx_iload (i := 5) (mx_d D_C_weightBy 20 rfl) (by rfl) ?_
    refine mx_imulI (mx_d D_C_weightBy 21 rfl) ?_
    refine mx_iaddI (mx_d D_C_weightBy 22 rfl) ?_
    refine mx_i2lI (mx_d D_C_weightBy 23 rfl) (by omega) (by omega) ?_
    refine mx_lstore (i := 7) (mx_d D_C_weightBy 24 rfl) (by decide) ?_
    refine mx_iload (i := 6) (mx_d D_C_weightBy 25 rfl) (by rfl) ?_
    refine mx_iload (i := 6) (mx_d D_C_weightBy 26 rfl) (by rfl) ?_
    refine mx_imulI (mx_d D_C_weightBy 27 rfl) ?_
    refine mx_i2lI (mx_d D_C_weightBy 28 rfl) (by omega) (by omega) ?_
    refine mx_lstore (i := 9) (mx_d D_C_weightBy 29 rfl) (by decide) ?_
    refine mx_aload_n (k4 := 0) (mx_d D_C_weightBy 30 rfl) (by rfl) ?_
    refine mx_getf hG (idx := 23) (ci := 0) (kf := 1) (mx_d D_C_weightBy 31 rfl) (by rfl) cls_C (by decide) w_150 (by first | assumption | omega) (by first | assumption | exact va_up_self _ _ _ | (rw [va_up_ne _ _ (by omega)]; first | assumption | exact va_up_self _ _ _ | (rw [va_up_ne _ _ (by omega)]; first | assumption | exact va_up_self _ _ _ | (rw [va_up_ne _ _ (by omega)]; first | assumption | exact va_up_self _ _ _ | (rw [va_up_ne _ _ (by omega)]; first | assumption | exact va_up_self _ _ _ | (rw [va_up_ne _ _ (by omega)]; first | assumption | exact va_up_self _ _ _)))))) (by rfl) ?_
    refine mx_i2lI (mx_d D_C_weightBy 32 rfl) (by omega) (by omega) ?_
    refine mx_lload (i := 7) (mx_d D_C_weightBy 33 rfl) (by rfl) ?_
    refine mx_lmulI (mx_d D_C_weightBy 34 rfl) ?_
    refine mx_lload (i := 7) (mx_d D_C_weightBy 35 rfl) (by rfl) ?_
    refine mx_lmulI (mx_d D_C_weightBy 36 rfl) ?_
    refine mx_lload (i := 7) (mx_d D_C_weightBy 37 rfl) (by rfl) ?_
    refine mx_lload (i := 9) (mx_d D_C_weightBy 38 rfl) (by rfl) ?_
    refine mx_laddI (mx_d D_C_weightBy 39 rfl) ?_
    refine mx_lload (i := 7) (mx_d D_C_weightBy 40 rfl) (by rfl) ?_
    refine mx_lload (i := 9) (mx_d D_C_weightBy 41 rfl) (by rfl) ?_
    refine mx_laddI (mx_d D_C_weightBy 42 rfl) ?_
    refine mx_lmulI (mx_d D_C_weightBy 43 rfl) ?_
    refine mx_ldivI (mx_d D_C_weightBy 44 rfl) (by omega) (by omega) (by omega) (by omega) ?_
    refine mx_l2iI (mx_d D_C_weightBy 45 rfl) ?_
    refine mx_iret (by rfl) (mx_d D_C_weightBy 46 rfl) ?_
    exact q
  · rw [show decide (0 < eS iE y) = false from by simp; omega]
    rw [wgt, if_neg hs] at q
    refine mx_if_neN 10 (mx_d D_C_weightBy 3 rfl) (by decide) (by decide) (by decide) (by decide) ?_
    refine mx_iconst (n := 0) (mx_d D_C_weightBy 4 rfl) ?_
    refine mx_iret (by rfl) (mx_d D_C_weightBy 5 rfl) ?_
    exact q
theorem c_countTold (hG : mx_ok G) (hN : 50 ≤ N) (c0 : ce 0 = cs0 G Y U nE iE nD rA rS) (q : Q (.inl (some (.int (iI (nD : Nat))))) N (va_up ce 0 (cs0 G Y U nE iE (nD + 1) rA rS)) bc bs) : mx_M G Y_C_countTold d bc bs false N ce 0 [(0, .ref (mx_B G + 0))] [] Q := by
  refine mx_aload_n (k4 := 0) (mx_d D_C_countTold 0 rfl) (by rfl) ?_
  refine mx_dup (mx_d D_C_countTold 1 rfl) (by rfl) ?_
  refine mx_getf hG (idx := 138) (ci := 0) (kf := 10) (mx_d D_C_countTold 2 rfl) (by rfl) cls_C (by decide) w_159 (by first | assumption | omega) (by first | assumption | exact va_up_self _ _ _ | (rw [va_up_ne _ _ (by omega)]; first | assumption | exact va_up_self _ _ _ | (rw [va_up_ne _ _ (by omega)]; first | assumption | exact va_up_self _ _ _ | (rw [va_up_ne _ _ (by omega)]; first | assumption | exact va_up_self _ _ _ | (rw [va_up_ne _ _ (by omega)]; first | assumption | exact va_up_self _ _ _ | (rw [va_up_ne _ _ (by omega)]; first | assumption | exact va_up_self _ _ _)))))) (by rfl) ?_
  refine mx_iconst (n := 1) (mx_d D_C_countTold 3 rfl) ?_
  refine mx_iaddI (mx_d D_C_countTold 4 rfl) ?_
  refine mx_putf hG (idx := 138) (ci := 0) (kf := 10) (t := (.int)) (mx_d D_C_countTold 5 rfl) (by rfl) cls_C (by decide) (Or.inl rfl) w_159 (by first | assumption | omega) (by first | assumption | exact va_up_self _ _ _ | (rw [va_up_ne _ _ (by omega)]; first | assumption | exact va_up_self _ _ _ | (rw [va_up_ne _ _ (by omega)]; first | assumption | exact va_up_self _ _ _ | (rw [va_up_ne _ _ (by omega)]; first | assumption | exact va_up_self _ _ _ | (rw [va_up_ne _ _ (by omega)]; first | assumption | exact va_up_self _ _ _ | (rw [va_up_ne _ _ (by omega)]; first | assumption | exact va_up_self _ _ _)))))) (by exact Nat.le_of_ble_eq_true rfl) (by decide +kernel) (by rfl) (by rfl) ?_
  refine mx_aload_n (k4 := 0) (mx_d D_C_countTold 6 rfl) (by rfl) ?_
  refine mx_getf hG (idx := 138) (ci := 0) (kf := 10) (mx_d D_C_countTold 7 rfl) (by rfl) cls_C (by decide) w_159 (by first | assumption | omega) (by first | assumption | exact va_up_self _ _ _ | (rw [va_up_ne _ _ (by omega)]; first | assumption | exact va_up_self _ _ _ | (rw [va_up_ne _ _ (by omega)]; first | assumption | exact va_up_self _ _ _ | (rw [va_up_ne _ _ (by omega)]; first | assumption | exact va_up_self _ _ _ | (rw [va_up_ne _ _ (by omega)]; first | assumption | exact va_up_self _ _ _ | (rw [va_up_ne _ _ (by omega)]; first | assumption | exact va_up_self _ _ _)))))) (by rfl) ?_
  refine mx_iconst (n := 1) (mx_d D_C_countTold 8 rfl) ?_
  refine mx_isubI (mx_d D_C_countTold 9 rfl) ?_
  refine mx_iret (by rfl) (mx_d D_C_countTold 10 rfl) ?_
  rw [show ((nD : Int) + 1 - 1) = (nD : Int) from by omega]
  exact q
/-- a date more, with these cells -/
theorem CS.more {ce' : Nat → va_E} (hC : CS G Y U nE iE nD rA rS eA eS dA dS dW lc rn rg rN ps pN ce) (hn : nD < 12) {a s : Int} {h : Nat → Int} (ha : 0 ≤ a ∧ a ≤ 3000) (hs : 0 ≤ s ∧ s ≤ 100) (hh : ∀ j, j < Y → 0 ≤ h j ∧ h j ≤ 1000000) (k1 : ∀ k, k ≠ 0 → k ≠ 15 + 2 * nD → k ≠ 16 + 2 * nD → ce' k = ce k) (k2 : ce' 0 = cs0 G Y U nE iE (nD + 1) rA rS) (k3 : ce' (15 + 2 * nD) = .inr (2, [.ref (mx_B G + (16 + 2 * nD)), .int (iI a), .int (iI s)])) (k4 : ce' (16 + 2 * nD) = aI G Y h) : CS G Y U nE iE (nD + 1) rA rS eA eS (va_up dA nD a) (va_up dS nD s) (va_up dW nD h) lc rn rg rN ps pN ce' := by
  obtain ⟨⟨hY, hU, hE, hD, hrA, hrS, hEA, hES, hDA, hDS, hDz, hDW, hrN, hrn, hpN, hps⟩, c0, c1, c14, cE, cD, cL, cR, cP, cT⟩ := hC
  refine ⟨⟨hY, hU, hE, by omega, hrA, hrS, hEA, hES, fun i hi => ?_, fun i hi => ?_, fun i hi hn' => ?_, fun i hi => ?_, hrN, fun i hi => ⟨by have := (hrn i hi).1; omega, (hrn i hi).2⟩, hpN, hps⟩, k2, ?_, ?_, csE_fr cE (fun k _ _ => k1 k (by omega) (by omega) (by omega)), fun i hi => ?_, csL_fr cL (fun k _ _ => k1 k (by omega) (by omega) (by omega)), csR_fr cR (fun k _ _ => k1 k (by omega) (by omega) (by omega)), csP_fr cP (fun k _ _ => k1 k (by omega) (by omega) (by omega)), csT_fr cT (fun k _ _ => k1 k (by omega) (by omega) (by omega))⟩
  · by_cases e : i = nD
    · subst e; rw [va_up_self]; exact ha
    · rw [va_up_ne _ _ e]; exact hDA i hi
  · by_cases e : i = nD
    · subst e; rw [va_up_self]; exact hs
    · rw [va_up_ne _ _ e]; exact hDS i hi
  · rw [va_up_ne _ _ (by omega), va_up_ne _ _ (by omega)]; exact hDz i hi (by omega)
  · by_cases e : i = nD
    · subst e; rw [va_up_self]; exact hh
    · rw [va_up_ne _ _ e]; exact hDW i hi
  · rw [k1 1 (by omega) (by omega) (by omega)]; exact c1
  · rw [k1 14 (by omega) (by omega) (by omega)]; exact c14
  · by_cases e : i = nD
    · subst e; rw [va_up_self, va_up_self, va_up_self]; exact ⟨k3, k4⟩
    · rw [va_up_ne _ _ e, va_up_ne _ _ e, va_up_ne _ _ e, k1 _ (by omega) (by omega) (by omega), k1 _ (by omega) (by omega) (by omega)]
      exact cD i hi
theorem c_tell (hG : mx_ok G) (hN : 50 ≤ N) (hC : CS G Y U nE iE nD rA rS eA eS dA dS dW lc rn rg rN ps pN ce) (hn : nD < 12) {a s : Int} (ha : 0 ≤ a ∧ a ≤ 3000) (hs : 1 ≤ s ∧ s ≤ 100)
    (q : ∀ ce' (h : Nat → Int), (∀ j, j < Y → h j = wgt U (s * s + rS * rS) (a - rA) (eA iE j) (eS iE j)) → CS G Y U nE iE (nD + 1) rA rS eA eS (va_up dA nD a) (va_up dS nD s) (va_up dW nD h) lc rn rg rN ps pN ce' → (∀ k, 50 ≤ k → ce' k = ce k) → Q (.inl (some (.int (iI (nD : Nat))))) N ce' bc bs) : mx_M G Y_C_tellMeasured (d + 2) bc bs false N ce 0 [(0, .ref (mx_B G + 0)), (1, .int (iI a)), (2, .int (iI s))] [] Q := by
  have hC0 := hC
  obtain ⟨⟨hY, hU, hE, hD, hrA, hrS, hEA, hES, hDA, hDS, hDz, hDW, hrN, hrn, hpN, hps⟩, c0, c1, c14, cE, cD, cL, cR, cP, cT⟩ := hC
  obtain ⟨hDa, hDb⟩ := cD nD hn
  have s1 : 0 ≤ s * s := sq_nn s
  have s2 : s * s ≤ 100 * 100 := sq_le (by omega) hs.2
  have r1 : 0 ≤ rS * rS := sq_nn rS
  have r2 : rS * rS ≤ 100 * 100 := sq_le (by omega) hrS.2
  have hwb : ∀ j, j < Y → 0 ≤ wgt U (s * s + rS * rS) (a - rA) (eA iE j) (eS iE j) ∧ wgt U (s * s + rS * rS) (a - rA) (eA iE j) (eS iE j) ≤ 1000000 := fun j hj => by
    have b1 := hEA iE (by omega) j hj
    have b2 := hES iE (by omega) j hj
    exact wgt_bd hU.1 hU.2 (by omega) (by omega) (by omega) (by omega) b2.2
  refine mx_aload_n (k4 := 0) (mx_d D_C_tellMeasured 0 rfl) (by rfl) ?_
  refine mx_getf hG (idx := 37) (ci := 0) (kf := 3) (mx_d D_C_tellMeasured 1 rfl) (by rfl) cls_C (by decide) w_152 (by first | assumption | omega) (by first | assumption | exact va_up_self _ _ _ | (rw [va_up_ne _ _ (by omega)]; first | assumption | exact va_up_self _ _ _ | (rw [va_up_ne _ _ (by omega)]; first | assumption | exact va_up_self _ _ _ | (rw [va_up_ne _ _ (by omega)]; first | assumption | exact va_up_self _ _ _ | (rw [va_up_ne _ _ (by omega)]; first | assumption | exact va_up_self _ _ _ | (rw [va_up_ne _ _ (by omega)]; first | assumption | exact va_up_self _ _ _)))))) (by rfl) ?_
  refine mx_aload_n (k4 := 0) (mx_d D_C_tellMeasured 2 rfl) (by rfl) ?_
  refine mx_getf hG (idx := 138) (ci := 0) (kf := 10) (mx_d D_C_tellMeasured 3 rfl) (by rfl) cls_C (by decide) w_159 (by first | assumption | omega) (by first | assumption | exact va_up_self _ _ _ | (rw [va_up_ne _ _ (by omega)]; first | assumption | exact va_up_self _ _ _ | (rw [va_up_ne _ _ (by omega)]; first | assumption | exact va_up_self _ _ _ | (rw [va_up_ne _ _ (by omega)]; first | assumption | exact va_up_self _ _ _ | (rw [va_up_ne _ _ (by omega)]; first | assumption | exact va_up_self _ _ _ | (rw [va_up_ne _ _ (by omega)]; first | assumption | exact va_up_self _ _ _)))))) (by rfl) ?_
  refine mx_aald hG 4 (nD) (mx_d D_C_tellMeasured 4 rfl) (by first | assumption | omega) (by first | assumption | exact va_up_self _ _ _ | (rw [va_up_ne _ _ (by omega)]; first | assumption | exact va_up_self _ _ _ | (rw [va_up_ne _ _ (by omega)]; first | assumption | exact va_up_self _ _ _ | (rw [va_up_ne _ _ (by omega)]; first | assumption | exact va_up_self _ _ _ | (rw [va_up_ne _ _ (by omega)]; first | assumption | exact va_up_self _ _ _ | (rw [va_up_ne _ _ (by omega)]; first | assumption | exact va_up_self _ _ _)))))) (by rfl) (by rfl) (by rfl) (by omega) (by omega) (show _ = some (mx_B G + (15 + 2 * nD)) by exact if_pos (by omega)) ?_
  refine mx_astore_n (k4 := 3) (mx_d D_C_tellMeasured 5 rfl) (by decide) ?_
  refine mx_aload_n (k4 := 3) (mx_d D_C_tellMeasured 6 rfl) (by rfl) ?_
  refine mx_iload_n (k4 := 1) (mx_d D_C_tellMeasured 7 rfl) (by rfl) ?_
  refine mx_putf hG (idx := 165) (ci := 2) (kf := 1) (t := (.int)) (mx_d D_C_tellMeasured 8 rfl) (by rfl) cls_D (by decide) (Or.inl rfl) w_64 (by first | assumption | omega) (by first | assumption | exact va_up_self _ _ _ | (rw [va_up_ne _ _ (by omega)]; first | assumption | exact va_up_self _ _ _ | (rw [va_up_ne _ _ (by omega)]; first | assumption | exact va_up_self _ _ _ | (rw [va_up_ne _ _ (by omega)]; first | assumption | exact va_up_self _ _ _ | (rw [va_up_ne _ _ (by omega)]; first | assumption | exact va_up_self _ _ _ | (rw [va_up_ne _ _ (by omega)]; first | assumption | exact va_up_self _ _ _)))))) (by exact Nat.le_of_ble_eq_true rfl) (by decide +kernel) (by rfl) (by rfl) ?_
  refine mx_aload_n (k4 := 3) (mx_d D_C_tellMeasured 9 rfl) (by rfl) ?_
  refine mx_iload_n (k4 := 2) (mx_d D_C_tellMeasured 10 rfl) (by rfl) ?_
  refine mx_putf hG (idx := 162) (ci := 2) (kf := 2) (t := (.int)) (mx_d D_C_tellMeasured 11 rfl) (by rfl) cls_D (by decide) (Or.inl rfl) w_66 (by first | assumption | omega) (by first | assumption | exact va_up_self _ _ _ | (rw [va_up_ne _ _ (by omega)]; first | assumption | exact va_up_self _ _ _ | (rw [va_up_ne _ _ (by omega)]; first | assumption | exact va_up_self _ _ _ | (rw [va_up_ne _ _ (by omega)]; first | assumption | exact va_up_self _ _ _ | (rw [va_up_ne _ _ (by omega)]; first | assumption | exact va_up_self _ _ _ | (rw [va_up_ne _ _ (by omega)]; first | assumption | exact va_up_self _ _ _)))))) (by exact Nat.le_of_ble_eq_true rfl) (by decide +kernel) (by rfl) (by rfl) ?_
  refine mx_iload_n (k4 := 2) (mx_d D_C_tellMeasured 12 rfl) (by rfl) ?_
  refine mx_iload_n (k4 := 2) (mx_d D_C_tellMeasured 13 rfl) (by rfl) ?_
  refine mx_imulI (mx_d D_C_tellMeasured 14 rfl) ?_
  refine mx_aload_n (k4 := 0) (mx_d D_C_tellMeasured 15 rfl) (by rfl) ?_
  refine mx_getf hG (idx := 113) (ci := 0) (kf := 12) (mx_d D_C_tellMeasured 16 rfl) (by rfl) cls_C (by decide) w_161 (by first | assumption | omega) (by first | assumption | exact va_up_self _ _ _ | (rw [va_up_ne _ _ (by omega)]; first | assumption | exact va_up_self _ _ _ | (rw [va_up_ne _ _ (by omega)]; first | assumption | exact va_up_self _ _ _ | (rw [va_up_ne _ _ (by omega)]; first | assumption | exact va_up_self _ _ _ | (rw [va_up_ne _ _ (by omega)]; first | assumption | exact va_up_self _ _ _ | (rw [va_up_ne _ _ (by omega)]; first | assumption | exact va_up_self _ _ _)))))) (by rfl) ?_
  refine mx_aload_n (k4 := 0) (mx_d D_C_tellMeasured 17 rfl) (by rfl) ?_
  refine mx_getf hG (idx := 113) (ci := 0) (kf := 12) (mx_d D_C_tellMeasured 18 rfl) (by rfl) cls_C (by decide) w_161 (by first | assumption | omega) (by first | assumption | exact va_up_self _ _ _ | (rw [va_up_ne _ _ (by omega)]; first | assumption | exact va_up_self _ _ _ | (rw [va_up_ne _ _ (by omega)]; first | assumption | exact va_up_self _ _ _ | (rw [va_up_ne _ _ (by omega)]; first | assumption | exact va_up_self _ _ _ | (rw [va_up_ne _ _ (by omega)]; first | assumption | exact va_up_self _ _ _ | (rw [va_up_ne _ _ (by omega)]; first | assumption | exact va_up_self _ _ _)))))) (by rfl) ?_
  refine mx_imulI (mx_d D_C_tellMeasured 19 rfl) ?_
  refine mx_iaddI (mx_d D_C_tellMeasured 20 rfl) ?_
  refine mx_istore (i := 4) (mx_d D_C_tellMeasured 21 rfl) (by decide) ?_
  refine mx_aload_n (k4 := 0) (mx_d D_C_tellMeasured 22 rfl) (by rfl) ?_
  refine mx_getf hG (idx := 28) (ci := 0) (kf := 2) (mx_d D_C_tellMeasured 23 rfl) (by rfl) cls_C (by decide) w_151 (by first | assumption | omega) (by first | assumption | exact va_up_self _ _ _ | (rw [va_up_ne _ _ (by omega)]; first | assumption | exact va_up_self _ _ _ | (rw [va_up_ne _ _ (by omega)]; first | assumption | exact va_up_self _ _ _ | (rw [va_up_ne _ _ (by omega)]; first | assumption | exact va_up_self _ _ _ | (rw [va_up_ne _ _ (by omega)]; first | assumption | exact va_up_self _ _ _ | (rw [va_up_ne _ _ (by omega)]; first | assumption | exact va_up_self _ _ _)))))) (by rfl) ?_
  refine mx_aload_n (k4 := 0) (mx_d D_C_tellMeasured 24 rfl) (by rfl) ?_
  refine mx_getf hG (idx := 80) (ci := 0) (kf := 9) (mx_d D_C_tellMeasured 25 rfl) (by rfl) cls_C (by decide) w_158 (by first | assumption | omega) (by first | assumption | exact va_up_self _ _ _ | (rw [va_up_ne _ _ (by omega)]; first | assumption | exact va_up_self _ _ _ | (rw [va_up_ne _ _ (by omega)]; first | assumption | exact va_up_self _ _ _ | (rw [va_up_ne _ _ (by omega)]; first | assumption | exact va_up_self _ _ _ | (rw [va_up_ne _ _ (by omega)]; first | assumption | exact va_up_self _ _ _ | (rw [va_up_ne _ _ (by omega)]; first | assumption | exact va_up_self _ _ _)))))) (by rfl) ?_
  refine mx_aald hG 3 (iE) (mx_d D_C_tellMeasured 26 rfl) (by first | assumption | omega) (by first | assumption | exact va_up_self _ _ _ | (rw [va_up_ne _ _ (by omega)]; first | assumption | exact va_up_self _ _ _ | (rw [va_up_ne _ _ (by omega)]; first | assumption | exact va_up_self _ _ _ | (rw [va_up_ne _ _ (by omega)]; first | assumption | exact va_up_self _ _ _ | (rw [va_up_ne _ _ (by omega)]; first | assumption | exact va_up_self _ _ _ | (rw [va_up_ne _ _ (by omega)]; first | assumption | exact va_up_self _ _ _)))))) (by rfl) (by rfl) (by rfl) (by omega) (by omega) (show _ = some (mx_B G + (2 + 3 * iE)) by exact if_pos (by omega)) ?_
  refine mx_astore (i := 5) (mx_d D_C_tellMeasured 27 rfl) (by decide) ?_
  refine mx_iconst (n := 0) (mx_d D_C_tellMeasured 28 rfl) ?_
  refine mx_istore (i := 6) (mx_d D_C_tellMeasured 29 rfl) (by decide) ?_
  rw [bx_uu]
  suffices H : ∀ (k i : Nat) (h : Nat → Int), i + k = Y → (∀ j, j < i → h j = wgt U (s * s + rS * rS) (a - rA) (eA iE j) (eS iE j)) → mx_M G Y_C_tellMeasured (d + 2) bc bs false N (va_up (va_up ce (15 + 2 * nD) (.inr (2, [.ref (mx_B G + (16 + 2 * nD)), .int (iI a), .int (iI s)]))) (16 + 2 * nD) (aI G Y h)) 49 [(0, .ref (mx_B G + 0)), (1, .int (iI a)), (3, .ref (mx_B G + (15 + 2 * nD))), (4, .int (iI (s * s + rS * rS))), (5, .ref (mx_B G + (2 + 3 * iE))), (6, .int (iI i))] [] Q by
    have H0 := H Y 0 (dW nD) (by omega) (fun j hj => absurd hj (by omega))
    rw [va_up_id (va_up ce (15 + 2 * nD) (.inr (2, [.ref (mx_B G + (16 + 2 * nD)), .int (iI a), .int (iI s)]))) (16 + 2 * nD) (by rw [va_up_ne _ _ (by omega)]; exact hDb)] at H0
    exact mx_loc (by rfl) H0
  intro k
  induction k with
  | zero =>
    intro i h hi hh
    obtain rfl : i = Y := by omega
    refine mx_iload (i := 6) (mx_d D_C_tellMeasured 30 rfl) (by rfl) ?_
    refine mx_aload_n (k4 := 0) (mx_d D_C_tellMeasured 31 rfl) (by rfl) ?_
    refine mx_getf hG (idx := 18) (ci := 0) (kf := 0) (mx_d D_C_tellMeasured 32 rfl) (by rfl) cls_C (by decide) w_149 (by first | assumption | omega) (by first | assumption | exact va_up_self _ _ _ | (rw [va_up_ne _ _ (by omega)]; first | assumption | exact va_up_self _ _ _ | (rw [va_up_ne _ _ (by omega)]; first | assumption | exact va_up_self _ _ _ | (rw [va_up_ne _ _ (by omega)]; first | assumption | exact va_up_self _ _ _ | (rw [va_up_ne _ _ (by omega)]; first | assumption | exact va_up_self _ _ _ | (rw [va_up_ne _ _ (by omega)]; first | assumption | exact va_up_self _ _ _)))))) (by rfl) ?_
    refine mx_icmp_geY 87 (mx_d D_C_tellMeasured 33 rfl) (by decide) (by omega) (by omega) (by omega) (by omega) (by omega) ?_
    refine mx_aload_n (k4 := 0) (mx_d D_C_tellMeasured 49 rfl) (by rfl) ?_
    refine mx_callV hG (Y' := Y_C_countTold) (ci := 0) [] (mx_d D_C_tellMeasured 50 rfl) in_C_countTold w_417 w_419 s_C_countTold (by rfl) np_C_countTold (by exact Nat.le_of_ble_eq_true rfl) (by rfl) (by first | assumption | omega) (by first | assumption | exact va_up_self _ _ _ | (rw [va_up_ne _ _ (by omega)]; first | assumption | exact va_up_self _ _ _ | (rw [va_up_ne _ _ (by omega)]; first | assumption | exact va_up_self _ _ _ | (rw [va_up_ne _ _ (by omega)]; first | assumption | exact va_up_self _ _ _ | (rw [va_up_ne _ _ (by omega)]; first | assumption | exact va_up_self _ _ _ | (rw [va_up_ne _ _ (by omega)]; first | assumption | exact va_up_self _ _ _)))))) (by rfl) (by exact Nat.le_of_ble_eq_true rfl) (c_countTold hG hN (by rw [va_up_ne _ _ (by omega), va_up_ne _ _ (by omega)]; exact c0) ?_)
    refine mx_iret (by rfl) (mx_d D_C_tellMeasured 51 rfl) ?_
    refine q _ h hh (hC0.more hn ha ⟨by omega, by omega⟩ (fun j hj => by rw [hh j hj]; exact hwb j hj) (fun k z1 z2 z3 => ?_) (va_up_self _ _ _) ?_ ?_) (fun k hk => ?_)
    · rw [va_up_ne _ _ z1, va_up_ne _ _ z3, va_up_ne _ _ z2]
    · rw [va_up_ne _ _ (by omega), va_up_ne _ _ (by omega), va_up_self]
    · rw [va_up_ne _ _ (by omega), va_up_self]
    · rw [va_up_ne _ _ (by omega), va_up_ne _ _ (by omega), va_up_ne _ _ (by omega)]
  | succ k ih =>
    intro i h hi hh
    refine mx_iload (i := 6) (mx_d D_C_tellMeasured 30 rfl) (by rfl) ?_
    refine mx_aload_n (k4 := 0) (mx_d D_C_tellMeasured 31 rfl) (by rfl) ?_
    refine mx_getf hG (idx := 18) (ci := 0) (kf := 0) (mx_d D_C_tellMeasured 32 rfl) (by rfl) cls_C (by decide) w_149 (by first | assumption | omega) (by first | assumption | exact va_up_self _ _ _ | (rw [va_up_ne _ _ (by omega)]; first | assumption | exact va_up_self _ _ _ | (rw [va_up_ne _ _ (by omega)]; first | assumption | exact va_up_self _ _ _ | (rw [va_up_ne _ _ (by omega)]; first | assumption | exact va_up_self _ _ _ | (rw [va_up_ne _ _ (by omega)]; first | assumption | exact va_up_self _ _ _ | (rw [va_up_ne _ _ (by omega)]; first | assumption | exact va_up_self _ _ _)))))) (by rfl) ?_
    refine mx_icmp_geN 87 (mx_d D_C_tellMeasured 33 rfl) (by decide) (by omega) (by omega) (by omega) (by omega) (by omega) ?_
    refine mx_aload_n (k4 := 3) (mx_d D_C_tellMeasured 34 rfl) (by rfl) ?_
    refine mx_getf hG (idx := 125) (ci := 2) (kf := 0) (mx_d D_C_tellMeasured 35 rfl) (by rfl) cls_D (by decide) w_63 (by first | assumption | omega) (by first | assumption | exact va_up_self _ _ _ | (rw [va_up_ne _ _ (by omega)]; first | assumption | exact va_up_self _ _ _ | (rw [va_up_ne _ _ (by omega)]; first | assumption | exact va_up_self _ _ _ | (rw [va_up_ne _ _ (by omega)]; first | assumption | exact va_up_self _ _ _ | (rw [va_up_ne _ _ (by omega)]; first | assumption | exact va_up_self _ _ _ | (rw [va_up_ne _ _ (by omega)]; first | assumption | exact va_up_self _ _ _)))))) (by rfl) ?_
    refine mx_iload (i := 6) (mx_d D_C_tellMeasured 36 rfl) (by rfl) ?_
    refine mx_aload_n (k4 := 0) (mx_d D_C_tellMeasured 37 rfl) (by rfl) ?_
    refine mx_aload (i := 5) (mx_d D_C_tellMeasured 38 rfl) (by rfl) ?_
    refine mx_iload (i := 6) (mx_d D_C_tellMeasured 39 rfl) (by rfl) ?_
    refine mx_iload_n (k4 := 1) (mx_d D_C_tellMeasured 40 rfl) (by rfl) ?_
    refine mx_aload_n (k4 := 0) (mx_d D_C_tellMeasured 41 rfl) (by rfl) ?_
    refine mx_getf hG (idx := 110) (ci := 0) (kf := 11) (mx_d D_C_tellMeasured 42 rfl) (by rfl) cls_C (by decide) w_160 (by first | assumption | omega) (by first | assumption | exact va_up_self _ _ _ | (rw [va_up_ne _ _ (by omega)]; first | assumption | exact va_up_self _ _ _ | (rw [va_up_ne _ _ (by omega)]; first | assumption | exact va_up_self _ _ _ | (rw [va_up_ne _ _ (by omega)]; first | assumption | exact va_up_self _ _ _ | (rw [va_up_ne _ _ (by omega)]; first | assumption | exact va_up_self _ _ _ | (rw [va_up_ne _ _ (by omega)]; first | assumption | exact va_up_self _ _ _)))))) (by rfl) ?_
    refine mx_isubI (mx_d D_C_tellMeasured 43 rfl) ?_
    refine mx_iload (i := 4) (mx_d D_C_tellMeasured 44 rfl) (by rfl) ?_
    refine mx_callV hG (Y' := Y_C_weightBy) (ci := 0) [_, _, _, _] (mx_d D_C_tellMeasured 45 rfl) in_C_weightBy w_412 w_414 s_C_weightBy (by rfl) np_C_weightBy (by exact Nat.le_of_ble_eq_true rfl) (by rfl) (by first | assumption | omega) (by first | assumption | exact va_up_self _ _ _ | (rw [va_up_ne _ _ (by omega)]; first | assumption | exact va_up_self _ _ _ | (rw [va_up_ne _ _ (by omega)]; first | assumption | exact va_up_self _ _ _ | (rw [va_up_ne _ _ (by omega)]; first | assumption | exact va_up_self _ _ _ | (rw [va_up_ne _ _ (by omega)]; first | assumption | exact va_up_self _ _ _ | (rw [va_up_ne _ _ (by omega)]; first | assumption | exact va_up_self _ _ _)))))) (by rfl) (by exact Nat.le_of_ble_eq_true rfl) (c_weightBy' hG hN (by rw [va_up_ne _ _ (by omega), va_up_ne _ _ (by omega)]; exact c0) (csE_fr cE (fun k _ _ => by rw [va_up_ne _ _ (by omega), va_up_ne _ _ (by omega)])) hY hU hE.1 hE.2 hEA hES (y := i) (by omega) (by omega) (by omega) (by omega) (by omega) ?_)
    refine mx_iastI hG _ _ (mx_d D_C_tellMeasured 46 rfl) (by first | assumption | omega) (by first | assumption | exact va_up_self _ _ _ | (rw [va_up_ne _ _ (by omega)]; first | assumption | exact va_up_self _ _ _ | (rw [va_up_ne _ _ (by omega)]; first | assumption | exact va_up_self _ _ _ | (rw [va_up_ne _ _ (by omega)]; first | assumption | exact va_up_self _ _ _ | (rw [va_up_ne _ _ (by omega)]; first | assumption | exact va_up_self _ _ _ | (rw [va_up_ne _ _ (by omega)]; first | assumption | exact va_up_self _ _ _)))))) (by rfl) (by rfl) (by omega) (by omega) ?_
    rw [bx_uu]
    refine mx_iincI (i := 6) (n := 1) (mx_d D_C_tellMeasured 47 rfl) (by rfl) (by decide) ?_
    refine mx_goto 49 (mx_d D_C_tellMeasured 48 rfl) (by decide) ?_
    refine mx_loc (by rfl) (ih (i + 1) _ (by omega) (fun j hj => ?_))
    by_cases hji : j = i
    · subst hji; rw [va_up_self]
    · rw [va_up_ne _ _ hji]; exact hh j (by omega)
end CD
end
section
/-! date, sum, mix, joinRepeats -/
theorem isRt_uniq {q r t : Int} (h1 : isRt q r) (h2 : isRt q t) : r = t := by
  obtain ⟨a1, a2, a3, a4⟩ := h1
  obtain ⟨b1, b2, b3, b4⟩ := h2
  rcases Int.lt_trichotomy r t with h | h | h
  · have : (r + 1) * (r + 1) ≤ t * t := Int.mul_le_mul (by omega) (by omega) (by omega) (by omega)
    omega
  · exact h
  · have : (t + 1) * (t + 1) ≤ r * r := Int.mul_le_mul (by omega) (by omega) (by omega) (by omega)
    omega
section CJ
variable {G : mx_G} {d bc bs : Nat} {N : Nat} {ce : Nat → va_E} {Q : mx_P} {Y : Nat} {U : Int} {nE iE nD : Nat} {rA rS : Int} {eA eS : Nat → Nat → Int} {dA dS : Nat → Int} {dW : Nat → Nat → Int} {lc : Nat → Bool} {rn rg : Nat → Nat} {rN : Nat} {ps : Nat → Int} {pN : Nat}
theorem c_C_date (hG : mx_ok G) (hN : 50 ≤ N) (hC : CS G Y U nE iE nD rA rS eA eS dA dS dW lc rn rg rN ps pN ce) {a s : Int} (a1 : -2147483648 ≤ a) (a2 : a < 2147483648) (s1 : -2147483648 ≤ s) (s2 : s < 2147483648)
    (q0 : ¬ ((0 ≤ a ∧ a ≤ 3000) ∧ 1 ≤ s ∧ s ≤ 100) → Q (.inr xA) N ce bc bs) (q1 : ((0 ≤ a ∧ a ≤ 3000) ∧ 1 ≤ s ∧ s ≤ 100) → ¬ nD < 12 → Q (.inr xS) N ce bc bs)
    (q2 : ∀ ce' (h : Nat → Int), ((0 ≤ a ∧ a ≤ 3000) ∧ 1 ≤ s ∧ s ≤ 100) → nD < 12 → (∀ j, j < Y → h j = wgt U (s * s + rS * rS) (a - rA) (eA iE j) (eS iE j)) → CS G Y U nE iE (nD + 1) rA rS eA eS (va_up dA nD a) (va_up dS nD s) (va_up dW nD h) lc rn rg rN ps pN ce' → (∀ k, 50 ≤ k → ce' k = ce k) → Q (.inl (some (.int (iI (nD : Nat))))) N ce' bc bs) : mx_M G Y_C_date (d + 6) (bc + 1) (bs + 6) false N ce 0 [(0, .ref (mx_B G + 0)), (1, .int (iI a)), (2, .int (iI s))] [] Q := by
  have c0 := hC.2.1
  have hD := hC.1.2.2.2.1
  refine mx_iload_n (k4 := 1) (mx_d D_C_date 0 rfl) (by rfl) ?_
  refine mx_iload_n (k4 := 2) (mx_d D_C_date 1 rfl) (by rfl) ?_
  refine mx_callS (Y' := Y_C_needAgeAndSpread) [_, _] (mx_d D_C_date 2 rfl) in_C_needAgeAndSpread w_328 w_329 np_C_needAgeAndSpread (by exact Nat.le_of_ble_eq_true rfl) (by rfl) (by rfl) (by exact Nat.le_of_ble_eq_true rfl) (c_needAge hG a1 a2 s1 s2 q0 (fun h3 => ?_))
  refine mx_aload_n (k4 := 0) (mx_d D_C_date 3 rfl) (by rfl) ?_
  refine mx_callV hG (Y' := Y_C_needRoomForDate) (ci := 0) [] (mx_d D_C_date 4 rfl) in_C_needRoomForDate w_403 w_405 s_C_needRoomForDate (by rfl) np_C_needRoomForDate (by exact Nat.le_of_ble_eq_true rfl) (by rfl) (by first | assumption | omega) (by first | assumption | exact va_up_self _ _ _ | (rw [va_up_ne _ _ (by omega)]; first | assumption | exact va_up_self _ _ _ | (rw [va_up_ne _ _ (by omega)]; first | assumption | exact va_up_self _ _ _ | (rw [va_up_ne _ _ (by omega)]; first | assumption | exact va_up_self _ _ _ | (rw [va_up_ne _ _ (by omega)]; first | assumption | exact va_up_self _ _ _ | (rw [va_up_ne _ _ (by omega)]; first | assumption | exact va_up_self _ _ _)))))) (by rfl) (by exact Nat.le_of_ble_eq_true rfl) (c_needRoom hG hN c0 hD (q1 h3) (fun h4 => ?_))
  refine mx_bud (Nat.le_succ bc) (Nat.le_add_right bs 6) ?_
  refine mx_aload_n (k4 := 0) (mx_d D_C_date 5 rfl) (by rfl) ?_
  refine mx_iload_n (k4 := 1) (mx_d D_C_date 6 rfl) (by rfl) ?_
  refine mx_iload_n (k4 := 2) (mx_d D_C_date 7 rfl) (by rfl) ?_
  refine mx_callV hG (Y' := Y_C_tellMeasured) (ci := 0) [_, _] (mx_d D_C_date 8 rfl) in_C_tellMeasured w_408 w_410 s_C_tellMeasured (by rfl) np_C_tellMeasured (by exact Nat.le_of_ble_eq_true rfl) (by rfl) (by first | assumption | omega) (by first | assumption | exact va_up_self _ _ _ | (rw [va_up_ne _ _ (by omega)]; first | assumption | exact va_up_self _ _ _ | (rw [va_up_ne _ _ (by omega)]; first | assumption | exact va_up_self _ _ _ | (rw [va_up_ne _ _ (by omega)]; first | assumption | exact va_up_self _ _ _ | (rw [va_up_ne _ _ (by omega)]; first | assumption | exact va_up_self _ _ _ | (rw [va_up_ne _ _ (by omega)]; first | assumption | exact va_up_self _ _ _)))))) (by rfl) (by exact Nat.le_of_ble_eq_true rfl) (c_tell hG hN hC h4 h3.1 h3.2 (fun ce' h k1 k2 k3 => ?_))
  refine mx_iret (by rfl) (mx_d D_C_date 9 rfl) ?_
  exact q2 ce' h h3 h4 k1 k2 k3
theorem c_C_sum (hG : mx_ok G) (hN : 50 ≤ N) (hC : CS G Y U nE iE nD rA rS eA eS dA dS dW lc rn rg rN ps pN ce) {a b : Int} (a1 : -2147483648 ≤ a) (a2 : a < 2147483648) (b1 : -2147483648 ≤ b) (b2 : b < 2147483648)
    (q0 : ¬ ((0 ≤ a ∧ a < nD) ∧ 0 ≤ b ∧ b < nD) → Q (.inr xI) N ce bc bs) (q1 : ((0 ≤ a ∧ a < nD) ∧ 0 ≤ b ∧ b < nD) → ¬ nD < 12 → Q (.inr xS) N ce bc bs)
    (q2 : ∀ i j : Nat, a = i → b = j → i < nD → j < nD → nD < 12 → ¬ (∀ y, y < Y → dW i y + dW j y ≤ 1000000) → Q (.inl (some (.int (iI (-1))))) N ce bc bs)
    (q3 : ∀ ce' (i j : Nat) (h : Nat → Int), a = i → b = j → i < nD → j < nD → nD < 12 → (∀ y, y < Y → dW i y + dW j y ≤ 1000000) → (∀ y, y < Y → h y = dW i y + dW j y) → CS G Y U nE iE (nD + 1) rA rS eA eS (va_up dA nD 0) (va_up dS nD 0) (va_up dW nD h) lc rn rg rN ps pN ce' → (∀ k, 50 ≤ k → ce' k = ce k) → Q (.inl (some (.int (iI (nD : Nat))))) N ce' bc bs) : mx_M G Y_C_sum (d + 6) (bc + 1) (bs + 6) false N ce 0 [(0, .ref (mx_B G + 0)), (1, .int (iI a)), (2, .int (iI b))] [] Q := by
  have hC0 := hC
  obtain ⟨⟨hY, hU, hE, hD, hrA, hrS, hEA, hES, hDA, hDS, hDz, hDW, hrN, hrn, hpN, hps⟩, c0, c1, c14, cE, cD, cL, cR, cP, cT⟩ := hC
  refine mx_aload_n (k4 := 0) (mx_d D_C_sum 0 rfl) (by rfl) ?_
  refine mx_iload_n (k4 := 1) (mx_d D_C_sum 1 rfl) (by rfl) ?_
  refine mx_callV hG (Y' := Y_C_needDate) (ci := 0) [_] (mx_d D_C_sum 2 rfl) in_C_needDate w_428 w_430 s_C_needDate (by rfl) np_C_needDate (by exact Nat.le_of_ble_eq_true rfl) (by rfl) (by first | assumption | omega) (by first | assumption | exact va_up_self _ _ _ | (rw [va_up_ne _ _ (by omega)]; first | assumption | exact va_up_self _ _ _ | (rw [va_up_ne _ _ (by omega)]; first | assumption | exact va_up_self _ _ _ | (rw [va_up_ne _ _ (by omega)]; first | assumption | exact va_up_self _ _ _ | (rw [va_up_ne _ _ (by omega)]; first | assumption | exact va_up_self _ _ _ | (rw [va_up_ne _ _ (by omega)]; first | assumption | exact va_up_self _ _ _)))))) (by rfl) (by exact Nat.le_of_ble_eq_true rfl) (c_needDate hG hN c0 hD a1 a2 (fun h => q0 (fun z => h z.1)) (fun h1 h2 => ?_))
  refine mx_aload_n (k4 := 0) (mx_d D_C_sum 3 rfl) (by rfl) ?_
  refine mx_iload_n (k4 := 2) (mx_d D_C_sum 4 rfl) (by rfl) ?_
  refine mx_callV hG (Y' := Y_C_needDate) (ci := 0) [_] (mx_d D_C_sum 5 rfl) in_C_needDate w_428 w_430 s_C_needDate (by rfl) np_C_needDate (by exact Nat.le_of_ble_eq_true rfl) (by rfl) (by first | assumption | omega) (by first | assumption | exact va_up_self _ _ _ | (rw [va_up_ne _ _ (by omega)]; first | assumption | exact va_up_self _ _ _ | (rw [va_up_ne _ _ (by omega)]; first | assumption | exact va_up_self _ _ _ | (rw [va_up_ne _ _ (by omega)]; first | assumption | exact va_up_self _ _ _ | (rw [va_up_ne _ _ (by omega)]; first | assumption | exact va_up_self _ _ _ | (rw [va_up_ne _ _ (by omega)]; first | assumption | exact va_up_self _ _ _)))))) (by rfl) (by exact Nat.le_of_ble_eq_true rfl) (c_needDate hG hN c0 hD b1 b2 (fun h => q0 (fun z => h z.2)) (fun h3 h4 => ?_))
  refine mx_aload_n (k4 := 0) (mx_d D_C_sum 6 rfl) (by rfl) ?_
  refine mx_callV hG (Y' := Y_C_needRoomForDate) (ci := 0) [] (mx_d D_C_sum 7 rfl) in_C_needRoomForDate w_403 w_405 s_C_needRoomForDate (by rfl) np_C_needRoomForDate (by exact Nat.le_of_ble_eq_true rfl) (by rfl) (by first | assumption | omega) (by first | assumption | exact va_up_self _ _ _ | (rw [va_up_ne _ _ (by omega)]; first | assumption | exact va_up_self _ _ _ | (rw [va_up_ne _ _ (by omega)]; first | assumption | exact va_up_self _ _ _ | (rw [va_up_ne _ _ (by omega)]; first | assumption | exact va_up_self _ _ _ | (rw [va_up_ne _ _ (by omega)]; first | assumption | exact va_up_self _ _ _ | (rw [va_up_ne _ _ (by omega)]; first | assumption | exact va_up_self _ _ _)))))) (by rfl) (by exact Nat.le_of_ble_eq_true rfl) (c_needRoom hG hN c0 hD (q1 ⟨⟨h1, h2⟩, h3, h4⟩) (fun h5 => ?_))
  refine mx_bud (Nat.le_succ bc) (Nat.le_add_right bs 6) ?_
  obtain ⟨i, rfl⟩ : ∃ i : Nat, a = i := ⟨a.toNat, by omega⟩
  obtain ⟨j, rfl⟩ : ∃ j : Nat, b = j := ⟨b.toNat, by omega⟩
  obtain ⟨g1, g2⟩ := cD i (by omega)
  obtain ⟨g3, g4⟩ := cD j (by omega)
  obtain ⟨g5, g6⟩ := cD nD (by omega)
  have w1 := hDW i (by omega)
  have w2 := hDW j (by omega)
  have hmx := mxTo_bd (f := fun y => dW i y + dW j y) (n := Y) (M := 2000000) (by omega) (fun y hy => by have := w1 y hy; have := w2 y hy; exact ⟨by omega, by omega⟩)
  have hle := mxTo_le (f := fun y => dW i y + dW j y) (n := Y) (M := 1000000) (by omega)
  refine mx_aload_n (k4 := 0) (mx_d D_C_sum 8 rfl) (by rfl) ?_
  refine mx_getf hG (idx := 37) (ci := 0) (kf := 3) (mx_d D_C_sum 9 rfl) (by rfl) cls_C (by decide) w_152 (by first | assumption | omega) (by first | assumption | exact va_up_self _ _ _ | (rw [va_up_ne _ _ (by omega)]; first | assumption | exact va_up_self _ _ _ | (rw [va_up_ne _ _ (by omega)]; first | assumption | exact va_up_self _ _ _ | (rw [va_up_ne _ _ (by omega)]; first | assumption | exact va_up_self _ _ _ | (rw [va_up_ne _ _ (by omega)]; first | assumption | exact va_up_self _ _ _ | (rw [va_up_ne _ _ (by omega)]; first | assumption | exact va_up_self _ _ _)))))) (by rfl) ?_
  refine mx_iload_n (k4 := 1) (mx_d D_C_sum 10 rfl) (by rfl) ?_
  refine mx_aald hG 4 (i) (mx_d D_C_sum 11 rfl) (by first | assumption | omega) (by first | assumption | exact va_up_self _ _ _ | (rw [va_up_ne _ _ (by omega)]; first | assumption | exact va_up_self _ _ _ | (rw [va_up_ne _ _ (by omega)]; first | assumption | exact va_up_self _ _ _ | (rw [va_up_ne _ _ (by omega)]; first | assumption | exact va_up_self _ _ _ | (rw [va_up_ne _ _ (by omega)]; first | assumption | exact va_up_self _ _ _ | (rw [va_up_ne _ _ (by omega)]; first | assumption | exact va_up_self _ _ _)))))) (by rfl) (by rfl) (by rfl) (by omega) (by omega) (show _ = some (mx_B G + (15 + 2 * i)) by exact if_pos (by omega)) ?_
  refine mx_aload_n (k4 := 0) (mx_d D_C_sum 12 rfl) (by rfl) ?_
  refine mx_getf hG (idx := 37) (ci := 0) (kf := 3) (mx_d D_C_sum 13 rfl) (by rfl) cls_C (by decide) w_152 (by first | assumption | omega) (by first | assumption | exact va_up_self _ _ _ | (rw [va_up_ne _ _ (by omega)]; first | assumption | exact va_up_self _ _ _ | (rw [va_up_ne _ _ (by omega)]; first | assumption | exact va_up_self _ _ _ | (rw [va_up_ne _ _ (by omega)]; first | assumption | exact va_up_self _ _ _ | (rw [va_up_ne _ _ (by omega)]; first | assumption | exact va_up_self _ _ _ | (rw [va_up_ne _ _ (by omega)]; first | assumption | exact va_up_self _ _ _)))))) (by rfl) ?_
  refine mx_iload_n (k4 := 2) (mx_d D_C_sum 14 rfl) (by rfl) ?_
  refine mx_aald hG 4 (j) (mx_d D_C_sum 15 rfl) (by first | assumption | omega) (by first | assumption | exact va_up_self _ _ _ | (rw [va_up_ne _ _ (by omega)]; first | assumption | exact va_up_self _ _ _ | (rw [va_up_ne _ _ (by omega)]; first | assumption | exact va_up_self _ _ _ | (rw [va_up_ne _ _ (by omega)]; first | assumption | exact va_up_self _ _ _ | (rw [va_up_ne _ _ (by omega)]; first | assumption | exact va_up_self _ _ _ | (rw [va_up_ne _ _ (by omega)]; first | assumption | exact va_up_self _ _ _)))))) (by rfl) (by rfl) (by rfl) (by omega) (by omega) (show _ = some (mx_B G + (15 + 2 * j)) by exact if_pos (by omega)) ?_
  refine mx_callV hG (Y' := Y_D_greatestSumWith) (ci := 2) [_] (mx_d D_C_sum 16 rfl) in_D_greatestSumWith w_451 w_452 s_D_greatestSumWith (by rfl) np_D_greatestSumWith (by exact Nat.le_of_ble_eq_true rfl) (by rfl) (by first | assumption | omega) (by first | assumption | exact va_up_self _ _ _ | (rw [va_up_ne _ _ (by omega)]; first | assumption | exact va_up_self _ _ _ | (rw [va_up_ne _ _ (by omega)]; first | assumption | exact va_up_self _ _ _ | (rw [va_up_ne _ _ (by omega)]; first | assumption | exact va_up_self _ _ _ | (rw [va_up_ne _ _ (by omega)]; first | assumption | exact va_up_self _ _ _ | (rw [va_up_ne _ _ (by omega)]; first | assumption | exact va_up_self _ _ _)))))) (by rfl) (by exact Nat.le_of_ble_eq_true rfl) (c_D_greatest hG (by omega) (by omega) (by omega) (by omega) g1 g2 g3 g4 (by omega) w1 w2 ?_)
  refine mx_ldcI (v := 1000000) (z := 1000000) (mx_d D_C_sum 17 rfl) w_456 (by decide) ?_
  by_cases hg : mxTo (fun y => dW i y + dW j y) Y ≤ 1000000
  · have hall := hle.mp hg
    have hz := hDz nD (by omega) (Nat.le_refl _)
    refine mx_icmp_leY 36 (mx_d D_C_sum 18 rfl) (by decide) (by omega) (by omega) (by omega) (by omega) (by omega) ?_
    refine mx_aload_n (k4 := 0) (mx_d D_C_sum 21 rfl) (by rfl) ?_
    refine mx_getf hG (idx := 37) (ci := 0) (kf := 3) (mx_d D_C_sum 22 rfl) (by rfl) cls_C (by decide) w_152 (by first | assumption | omega) (by first | assumption | exact va_up_self _ _ _ | (rw [va_up_ne _ _ (by omega)]; first | assumption | exact va_up_self _ _ _ | (rw [va_up_ne _ _ (by omega)]; first | assumption | exact va_up_self _ _ _ | (rw [va_up_ne _ _ (by omega)]; first | assumption | exact va_up_self _ _ _ | (rw [va_up_ne _ _ (by omega)]; first | assumption | exact va_up_self _ _ _ | (rw [va_up_ne _ _ (by omega)]; first | assumption | exact va_up_self _ _ _)))))) (by rfl) ?_
    refine mx_aload_n (k4 := 0) (mx_d D_C_sum 23 rfl) (by rfl) ?_
    refine mx_getf hG (idx := 138) (ci := 0) (kf := 10) (mx_d D_C_sum 24 rfl) (by rfl) cls_C (by decide) w_159 (by first | assumption | omega) (by first | assumption | exact va_up_self _ _ _ | (rw [va_up_ne _ _ (by omega)]; first | assumption | exact va_up_self _ _ _ | (rw [va_up_ne _ _ (by omega)]; first | assumption | exact va_up_self _ _ _ | (rw [va_up_ne _ _ (by omega)]; first | assumption | exact va_up_self _ _ _ | (rw [va_up_ne _ _ (by omega)]; first | assumption | exact va_up_self _ _ _ | (rw [va_up_ne _ _ (by omega)]; first | assumption | exact va_up_self _ _ _)))))) (by rfl) ?_
    refine mx_aald hG 4 (nD) (mx_d D_C_sum 25 rfl) (by first | assumption | omega) (by first | assumption | exact va_up_self _ _ _ | (rw [va_up_ne _ _ (by omega)]; first | assumption | exact va_up_self _ _ _ | (rw [va_up_ne _ _ (by omega)]; first | assumption | exact va_up_self _ _ _ | (rw [va_up_ne _ _ (by omega)]; first | assumption | exact va_up_self _ _ _ | (rw [va_up_ne _ _ (by omega)]; first | assumption | exact va_up_self _ _ _ | (rw [va_up_ne _ _ (by omega)]; first | assumption | exact va_up_self _ _ _)))))) (by rfl) (by rfl) (by rfl) (by omega) (by omega) (show _ = some (mx_B G + (15 + 2 * nD)) by exact if_pos (by omega)) ?_
    refine mx_aload_n (k4 := 0) (mx_d D_C_sum 26 rfl) (by rfl) ?_
    refine mx_getf hG (idx := 37) (ci := 0) (kf := 3) (mx_d D_C_sum 27 rfl) (by rfl) cls_C (by decide) w_152 (by first | assumption | omega) (by first | assumption | exact va_up_self _ _ _ | (rw [va_up_ne _ _ (by omega)]; first | assumption | exact va_up_self _ _ _ | (rw [va_up_ne _ _ (by omega)]; first | assumption | exact va_up_self _ _ _ | (rw [va_up_ne _ _ (by omega)]; first | assumption | exact va_up_self _ _ _ | (rw [va_up_ne _ _ (by omega)]; first | assumption | exact va_up_self _ _ _ | (rw [va_up_ne _ _ (by omega)]; first | assumption | exact va_up_self _ _ _)))))) (by rfl) ?_
    refine mx_iload_n (k4 := 1) (mx_d D_C_sum 28 rfl) (by rfl) ?_
    refine mx_aald hG 4 (i) (mx_d D_C_sum 29 rfl) (by first | assumption | omega) (by first | assumption | exact va_up_self _ _ _ | (rw [va_up_ne _ _ (by omega)]; first | assumption | exact va_up_self _ _ _ | (rw [va_up_ne _ _ (by omega)]; first | assumption | exact va_up_self _ _ _ | (rw [va_up_ne _ _ (by omega)]; first | assumption | exact va_up_self _ _ _ | (rw [va_up_ne _ _ (by omega)]; first | assumption | exact va_up_self _ _ _ | (rw [va_up_ne _ _ (by omega)]; first | assumption | exact va_up_self _ _ _)))))) (by rfl) (by rfl) (by rfl) (by omega) (by omega) (show _ = some (mx_B G + (15 + 2 * i)) by exact if_pos (by omega)) ?_
    refine mx_aload_n (k4 := 0) (mx_d D_C_sum 30 rfl) (by rfl) ?_
    refine mx_getf hG (idx := 37) (ci := 0) (kf := 3) (mx_d D_C_sum 31 rfl) (by rfl) cls_C (by decide) w_152 (by first | assumption | omega) (by first | assumption | exact va_up_self _ _ _ | (rw [va_up_ne _ _ (by omega)]; first | assumption | exact va_up_self _ _ _ | (rw [va_up_ne _ _ (by omega)]; first | assumption | exact va_up_self _ _ _ | (rw [va_up_ne _ _ (by omega)]; first | assumption | exact va_up_self _ _ _ | (rw [va_up_ne _ _ (by omega)]; first | assumption | exact va_up_self _ _ _ | (rw [va_up_ne _ _ (by omega)]; first | assumption | exact va_up_self _ _ _)))))) (by rfl) ?_
    refine mx_iload_n (k4 := 2) (mx_d D_C_sum 32 rfl) (by rfl) ?_
    refine mx_aald hG 4 (j) (mx_d D_C_sum 33 rfl) (by first | assumption | omega) (by first | assumption | exact va_up_self _ _ _ | (rw [va_up_ne _ _ (by omega)]; first | assumption | exact va_up_self _ _ _ | (rw [va_up_ne _ _ (by omega)]; first | assumption | exact va_up_self _ _ _ | (rw [va_up_ne _ _ (by omega)]; first | assumption | exact va_up_self _ _ _ | (rw [va_up_ne _ _ (by omega)]; first | assumption | exact va_up_self _ _ _ | (rw [va_up_ne _ _ (by omega)]; first | assumption | exact va_up_self _ _ _)))))) (by rfl) (by rfl) (by rfl) (by omega) (by omega) (show _ = some (mx_B G + (15 + 2 * j)) by exact if_pos (by omega)) ?_
    refine mx_callV hG (Y' := Y_D_becomeSum) (ci := 2) [_, _] (mx_d D_C_sum 34 rfl) in_D_becomeSum w_457 w_458 s_D_becomeSum (by rfl) np_D_becomeSum (by exact Nat.le_of_ble_eq_true rfl) (by rfl) (by first | assumption | omega) (by first | assumption | exact va_up_self _ _ _ | (rw [va_up_ne _ _ (by omega)]; first | assumption | exact va_up_self _ _ _ | (rw [va_up_ne _ _ (by omega)]; first | assumption | exact va_up_self _ _ _ | (rw [va_up_ne _ _ (by omega)]; first | assumption | exact va_up_self _ _ _ | (rw [va_up_ne _ _ (by omega)]; first | assumption | exact va_up_self _ _ _ | (rw [va_up_ne _ _ (by omega)]; first | assumption | exact va_up_self _ _ _)))))) (by rfl) (by exact Nat.le_of_ble_eq_true rfl) (c_D_sum hG (by omega) (by omega) (by omega) (by omega) (by omega) (by omega) g5 g1 g2 g3 g4 g6 (by omega) (by omega) (by omega) (by omega) (by omega) (by omega) (fun h hh => ?_))
    refine mx_aload_n (k4 := 0) (mx_d D_C_sum 35 rfl) (by rfl) ?_
    refine mx_callV hG (Y' := Y_C_countTold) (ci := 0) [] (mx_d D_C_sum 36 rfl) in_C_countTold w_417 w_419 s_C_countTold (by rfl) np_C_countTold (by exact Nat.le_of_ble_eq_true rfl) (by rfl) (by first | assumption | omega) (by first | assumption | exact va_up_self _ _ _ | (rw [va_up_ne _ _ (by omega)]; first | assumption | exact va_up_self _ _ _ | (rw [va_up_ne _ _ (by omega)]; first | assumption | exact va_up_self _ _ _ | (rw [va_up_ne _ _ (by omega)]; first | assumption | exact va_up_self _ _ _ | (rw [va_up_ne _ _ (by omega)]; first | assumption | exact va_up_self _ _ _ | (rw [va_up_ne _ _ (by omega)]; first | assumption | exact va_up_self _ _ _)))))) (by rfl) (by exact Nat.le_of_ble_eq_true rfl) (c_countTold hG hN (by rw [va_up_ne _ _ (by omega)]; exact c0) ?_)
    refine mx_iret (by rfl) (mx_d D_C_sum 37 rfl) ?_
    refine q3 _ i j h rfl rfl (by omega) (by omega) h5 hall hh (hC0.more h5 (by omega) (by omega) (fun y hy => ?_) (fun k z1 z2 z3 => ?_) (va_up_self _ _ _) ?_ ?_) (fun k hk => ?_)
    · rw [hh y hy]; have := hall y hy; have := w1 y hy; have := w2 y hy; exact ⟨by omega, by omega⟩
    · rw [va_up_ne _ _ z1, va_up_ne _ _ z3]
    · rw [va_up_ne _ _ (by omega), va_up_ne _ _ (by omega), g5, hz.1, hz.2]
    · rw [va_up_ne _ _ (by omega), va_up_self]
    · rw [va_up_ne _ _ (by omega), va_up_ne _ _ (by omega)]
  · refine mx_icmp_leN 36 (mx_d D_C_sum 18 rfl) (by decide) (by omega) (by omega) (by omega) (by omega) (by omega) ?_
    refine mx_iconst (n := -1) (mx_d D_C_sum 19 rfl) ?_
    refine mx_iret (by rfl) (mx_d D_C_sum 20 rfl) ?_
    exact q2 i j rfl rfl (by omega) (by omega) h5 (fun h => hg (hle.mpr h))
theorem c_C_mix (hG : mx_ok G) (hN : 50 ≤ N) (hC : CS G Y U nE iE nD rA rS eA eS dA dS dW lc rn rg rN ps pN ce) {a b u v : Int} (a1 : -2147483648 ≤ a) (a2 : a < 2147483648) (b1 : -2147483648 ≤ b) (b2 : b < 2147483648) (u1 : -2147483648 ≤ u) (u2 : u < 2147483648) (v1 : -2147483648 ≤ v) (v2 : v < 2147483648)
    (q0 : ¬ ((0 ≤ a ∧ a < nD) ∧ 0 ≤ b ∧ b < nD) → Q (.inr xI) N ce bc bs) (q1 : ((0 ≤ a ∧ a < nD) ∧ 0 ≤ b ∧ b < nD) → ¬ ((1 ≤ v ∧ v ≤ 1000) ∧ 0 ≤ u ∧ u ≤ v) → Q (.inr xA) N ce bc bs)
    (q2 : ((0 ≤ a ∧ a < nD) ∧ 0 ≤ b ∧ b < nD) → ((1 ≤ v ∧ v ≤ 1000) ∧ 0 ≤ u ∧ u ≤ v) → ¬ nD < 12 → Q (.inr xS) N ce bc bs)
    (q3 : ∀ ce' (i j : Nat) (h : Nat → Int), a = i → b = j → i < nD → j < nD → ((1 ≤ v ∧ v ≤ 1000) ∧ 0 ≤ u ∧ u ≤ v) → nD < 12 → (∀ y, y < Y → h y = (u * dW i y + (v - u) * dW j y) / v) → CS G Y U nE iE (nD + 1) rA rS eA eS (va_up dA nD 0) (va_up dS nD 0) (va_up dW nD h) lc rn rg rN ps pN ce' → (∀ k, 50 ≤ k → ce' k = ce k) → Q (.inl (some (.int (iI (nD : Nat))))) N ce' bc bs) : mx_M G Y_C_mix (d + 6) (bc + 1) (bs + 6) false N ce 0 [(0, .ref (mx_B G + 0)), (1, .int (iI a)), (2, .int (iI b)), (3, .int (iI u)), (4, .int (iI v))] [] Q := by
  have hC0 := hC
  obtain ⟨⟨hY, hU, hE, hD, hrA, hrS, hEA, hES, hDA, hDS, hDz, hDW, hrN, hrn, hpN, hps⟩, c0, c1, c14, cE, cD, cL, cR, cP, cT⟩ := hC
  refine mx_aload_n (k4 := 0) (mx_d D_C_mix 0 rfl) (by rfl) ?_
  refine mx_iload_n (k4 := 1) (mx_d D_C_mix 1 rfl) (by rfl) ?_
  refine mx_callV hG (Y' := Y_C_needDate) (ci := 0) [_] (mx_d D_C_mix 2 rfl) in_C_needDate w_428 w_430 s_C_needDate (by rfl) np_C_needDate (by exact Nat.le_of_ble_eq_true rfl) (by rfl) (by first | assumption | omega) (by first | assumption | exact va_up_self _ _ _ | (rw [va_up_ne _ _ (by omega)]; first | assumption | exact va_up_self _ _ _ | (rw [va_up_ne _ _ (by omega)]; first | assumption | exact va_up_self _ _ _ | (rw [va_up_ne _ _ (by omega)]; first | assumption | exact va_up_self _ _ _ | (rw [va_up_ne _ _ (by omega)]; first | assumption | exact va_up_self _ _ _ | (rw [va_up_ne _ _ (by omega)]; first | assumption | exact va_up_self _ _ _)))))) (by rfl) (by exact Nat.le_of_ble_eq_true rfl) (c_needDate hG hN c0 hD a1 a2 (fun h => q0 (fun z => h z.1)) (fun h1 h2 => ?_))
  refine mx_aload_n (k4 := 0) (mx_d D_C_mix 3 rfl) (by rfl) ?_
  refine mx_iload_n (k4 := 2) (mx_d D_C_mix 4 rfl) (by rfl) ?_
  refine mx_callV hG (Y' := Y_C_needDate) (ci := 0) [_] (mx_d D_C_mix 5 rfl) in_C_needDate w_428 w_430 s_C_needDate (by rfl) np_C_needDate (by exact Nat.le_of_ble_eq_true rfl) (by rfl) (by first | assumption | omega) (by first | assumption | exact va_up_self _ _ _ | (rw [va_up_ne _ _ (by omega)]; first | assumption | exact va_up_self _ _ _ | (rw [va_up_ne _ _ (by omega)]; first | assumption | exact va_up_self _ _ _ | (rw [va_up_ne _ _ (by omega)]; first | assumption | exact va_up_self _ _ _ | (rw [va_up_ne _ _ (by omega)]; first | assumption | exact va_up_self _ _ _ | (rw [va_up_ne _ _ (by omega)]; first | assumption | exact va_up_self _ _ _)))))) (by rfl) (by exact Nat.le_of_ble_eq_true rfl) (c_needDate hG hN c0 hD b1 b2 (fun h => q0 (fun z => h z.2)) (fun h3 h4 => ?_))
  refine mx_iload (i := 4) (mx_d D_C_mix 6 rfl) (by rfl) ?_
  refine mx_iconst (n := 1) (mx_d D_C_mix 7 rfl) ?_
  by_cases hv : 1 ≤ v
  · refine mx_icmp_geY 26 (mx_d D_C_mix 8 rfl) (by decide) (by omega) (by omega) (by omega) (by omega) (by omega) ?_
    refine mx_iconst (n := 0) (mx_d D_C_mix 14 rfl) ?_
    refine mx_iload_n (k4 := 3) (mx_d D_C_mix 15 rfl) (by rfl) ?_
    refine mx_iload (i := 4) (mx_d D_C_mix 16 rfl) (by rfl) ?_
    refine mx_callS (Y' := Y_C_needShare) [_, _, _] (mx_d D_C_mix 17 rfl) in_C_needShare w_469 w_470 np_C_needShare (by exact Nat.le_of_ble_eq_true rfl) (by rfl) (by rfl) (by exact Nat.le_of_ble_eq_true rfl) (c_needShare hG (by omega) (by omega) u1 u2 v1 v2 (fun h => q1 ⟨⟨h1, h2⟩, h3, h4⟩ (fun z => h (by omega))) (fun h6 => ?_))
    refine mx_aload_n (k4 := 0) (mx_d D_C_mix 18 rfl) (by rfl) ?_
    refine mx_callV hG (Y' := Y_C_needRoomForDate) (ci := 0) [] (mx_d D_C_mix 19 rfl) in_C_needRoomForDate w_403 w_405 s_C_needRoomForDate (by rfl) np_C_needRoomForDate (by exact Nat.le_of_ble_eq_true rfl) (by rfl) (by first | assumption | omega) (by first | assumption | exact va_up_self _ _ _ | (rw [va_up_ne _ _ (by omega)]; first | assumption | exact va_up_self _ _ _ | (rw [va_up_ne _ _ (by omega)]; first | assumption | exact va_up_self _ _ _ | (rw [va_up_ne _ _ (by omega)]; first | assumption | exact va_up_self _ _ _ | (rw [va_up_ne _ _ (by omega)]; first | assumption | exact va_up_self _ _ _ | (rw [va_up_ne _ _ (by omega)]; first | assumption | exact va_up_self _ _ _)))))) (by rfl) (by exact Nat.le_of_ble_eq_true rfl) (c_needRoom hG hN c0 hD (q2 ⟨⟨h1, h2⟩, h3, h4⟩ (by omega)) (fun h5 => ?_))
    refine mx_bud (Nat.le_succ bc) (Nat.le_add_right bs 6) ?_
    obtain ⟨i, rfl⟩ : ∃ i : Nat, a = i := ⟨a.toNat, by omega⟩
    obtain ⟨j, rfl⟩ : ∃ j : Nat, b = j := ⟨b.toNat, by omega⟩
    obtain ⟨g1, g2⟩ := cD i (by omega)
    obtain ⟨g3, g4⟩ := cD j (by omega)
    obtain ⟨g5, g6⟩ := cD nD (by omega)
    have w1 := hDW i (by omega)
    have w2 := hDW j (by omega)
    have hz := hDz nD (by omega) (Nat.le_refl _)
    refine mx_aload_n (k4 := 0) (mx_d D_C_mix 20 rfl) (by rfl) ?_
    refine mx_getf hG (idx := 37) (ci := 0) (kf := 3) (mx_d D_C_mix 21 rfl) (by rfl) cls_C (by decide) w_152 (by first | assumption | omega) (by first | assumption | exact va_up_self _ _ _ | (rw [va_up_ne _ _ (by omega)]; first | assumption | exact va_up_self _ _ _ | (rw [va_up_ne _ _ (by omega)]; first | assumption | exact va_up_self _ _ _ | (rw [va_up_ne _ _ (by omega)]; first | assumption | exact va_up_self _ _ _ | (rw [va_up_ne _ _ (by omega)]; first | assumption | exact va_up_self _ _ _ | (rw [va_up_ne _ _ (by omega)]; first | assumption | exact va_up_self _ _ _)))))) (by rfl) ?_
    refine mx_aload_n (k4 := 0) (mx_d D_C_mix 22 rfl) (by rfl) ?_
    refine mx_getf hG (idx := 138) (ci := 0) (kf := 10) (mx_d D_C_mix 23 rfl) (by rfl) cls_C (by decide) w_159 (by first | assumption | omega) (by first | assumption | exact va_up_self _ _ _ | (rw [va_up_ne _ _ (by omega)]; first | assumption | exact va_up_self _ _ _ | (rw [va_up_ne _ _ (by omega)]; first | assumption | exact va_up_self _ _ _ | (rw [va_up_ne _ _ (by omega)]; first | assumption | exact va_up_self _ _ _ | (rw [va_up_ne _ _ (by omega)]; first | assumption | exact va_up_self _ _ _ | (rw [va_up_ne _ _ (by omega)]; first | assumption | exact va_up_self _ _ _)))))) (by rfl) ?_
    refine mx_aald hG 4 (nD) (mx_d D_C_mix 24 rfl) (by first | assumption | omega) (by first | assumption | exact va_up_self _ _ _ | (rw [va_up_ne _ _ (by omega)]; first | assumption | exact va_up_self _ _ _ | (rw [va_up_ne _ _ (by omega)]; first | assumption | exact va_up_self _ _ _ | (rw [va_up_ne _ _ (by omega)]; first | assumption | exact va_up_self _ _ _ | (rw [va_up_ne _ _ (by omega)]; first | assumption | exact va_up_self _ _ _ | (rw [va_up_ne _ _ (by omega)]; first | assumption | exact va_up_self _ _ _)))))) (by rfl) (by rfl) (by rfl) (by omega) (by omega) (show _ = some (mx_B G + (15 + 2 * nD)) by exact if_pos (by omega)) ?_
    refine mx_aload_n (k4 := 0) (mx_d D_C_mix 25 rfl) (by rfl) ?_
    refine mx_getf hG (idx := 37) (ci := 0) (kf := 3) (mx_d D_C_mix 26 rfl) (by rfl) cls_C (by decide) w_152 (by first | assumption | omega) (by first | assumption | exact va_up_self _ _ _ | (rw [va_up_ne _ _ (by omega)]; first | assumption | exact va_up_self _ _ _ | (rw [va_up_ne _ _ (by omega)]; first | assumption | exact va_up_self _ _ _ | (rw [va_up_ne _ _ (by omega)]; first | assumption | exact va_up_self _ _ _ | (rw [va_up_ne _ _ (by omega)]; first | assumption | exact va_up_self _ _ _ | (rw [va_up_ne _ _ (by omega)]; first | assumption | exact va_up_self _ _ _)))))) (by rfl) ?_
    refine mx_iload_n (k4 := 1) (mx_d D_C_mix 27 rfl) (by rfl) ?_
    refine mx_aald hG 4 (i) (mx_d D_C_mix 28 rfl) (by first | assumption | omega) (by first | assumption | exact va_up_self _ _ _ | (rw [va_up_ne _ _ (by omega)]; first | assumption | exact va_up_self _ _ _ | (rw [va_up_ne _ _ (by omega)]; first | assumption | exact va_up_self _ _ _ | (rw [va_up_ne _ _ (by omega)]; first | assumption | exact va_up_self _ _ _ | (rw [va_up_ne _ _ (by omega)]; first | assumption | exact va_up_self _ _ _ | (rw [va_up_ne _ _ (by omega)]; first | assumption | exact va_up_self _ _ _)))))) (by rfl) (by rfl) (by rfl) (by omega) (by omega) (show _ = some (mx_B G + (15 + 2 * i)) by exact if_pos (by omega)) ?_
    refine mx_aload_n (k4 := 0) (mx_d D_C_mix 29 rfl) (by rfl) ?_
    refine mx_getf hG (idx := 37) (ci := 0) (kf := 3) (mx_d D_C_mix 30 rfl) (by rfl) cls_C (by decide) w_152 (by first | assumption | omega) (by first | assumption | exact va_up_self _ _ _ | (rw [va_up_ne _ _ (by omega)]; first | assumption | exact va_up_self _ _ _ | (rw [va_up_ne _ _ (by omega)]; first | assumption | exact va_up_self _ _ _ | (rw [va_up_ne _ _ (by omega)]; first | assumption | exact va_up_self _ _ _ | (rw [va_up_ne _ _ (by omega)]; first | assumption | exact va_up_self _ _ _ | (rw [va_up_ne _ _ (by omega)]; first | assumption | exact va_up_self _ _ _)))))) (by rfl) ?_
    refine mx_iload_n (k4 := 2) (mx_d D_C_mix 31 rfl) (by rfl) ?_
    refine mx_aald hG 4 (j) (mx_d D_C_mix 32 rfl) (by first | assumption | omega) (by first | assumption | exact va_up_self _ _ _ | (rw [va_up_ne _ _ (by omega)]; first | assumption | exact va_up_self _ _ _ | (rw [va_up_ne _ _ (by omega)]; first | assumption | exact va_up_self _ _ _ | (rw [va_up_ne _ _ (by omega)]; first | assumption | exact va_up_self _ _ _ | (rw [va_up_ne _ _ (by omega)]; first | assumption | exact va_up_self _ _ _ | (rw [va_up_ne _ _ (by omega)]; first | assumption | exact va_up_self _ _ _)))))) (by rfl) (by rfl) (by rfl) (by omega) (by omega) (show _ = some (mx_B G + (15 + 2 * j)) by exact if_pos (by omega)) ?_
    refine mx_iload_n (k4 := 3) (mx_d D_C_mix 33 rfl) (by rfl) ?_
    refine mx_iload (i := 4) (mx_d D_C_mix 34 rfl) (by rfl) ?_
    refine mx_callV hG (Y' := Y_D_becomeMixture) (ci := 2) [_, _, _, _] (mx_d D_C_mix 35 rfl) in_D_becomeMixture w_473 w_474 s_D_becomeMixture (by rfl) np_D_becomeMixture (by exact Nat.le_of_ble_eq_true rfl) (by rfl) (by first | assumption | omega) (by first | assumption | exact va_up_self _ _ _ | (rw [va_up_ne _ _ (by omega)]; first | assumption | exact va_up_self _ _ _ | (rw [va_up_ne _ _ (by omega)]; first | assumption | exact va_up_self _ _ _ | (rw [va_up_ne _ _ (by omega)]; first | assumption | exact va_up_self _ _ _ | (rw [va_up_ne _ _ (by omega)]; first | assumption | exact va_up_self _ _ _ | (rw [va_up_ne _ _ (by omega)]; first | assumption | exact va_up_self _ _ _)))))) (by rfl) (by exact Nat.le_of_ble_eq_true rfl) (c_D_mix hG (by omega) (by omega) (by omega) (by omega) (by omega) (by omega) g5 g1 g2 g3 g4 g6 (by omega) (by omega) (by omega) (by omega) (by omega) (by omega) h6.1 h6.2.1 hv h6.2.2 w1 w2 (fun h hh => ?_))
    refine mx_aload_n (k4 := 0) (mx_d D_C_mix 36 rfl) (by rfl) ?_
    refine mx_callV hG (Y' := Y_C_countTold) (ci := 0) [] (mx_d D_C_mix 37 rfl) in_C_countTold w_417 w_419 s_C_countTold (by rfl) np_C_countTold (by exact Nat.le_of_ble_eq_true rfl) (by rfl) (by first | assumption | omega) (by first | assumption | exact va_up_self _ _ _ | (rw [va_up_ne _ _ (by omega)]; first | assumption | exact va_up_self _ _ _ | (rw [va_up_ne _ _ (by omega)]; first | assumption | exact va_up_self _ _ _ | (rw [va_up_ne _ _ (by omega)]; first | assumption | exact va_up_self _ _ _ | (rw [va_up_ne _ _ (by omega)]; first | assumption | exact va_up_self _ _ _ | (rw [va_up_ne _ _ (by omega)]; first | assumption | exact va_up_self _ _ _)))))) (by rfl) (by exact Nat.le_of_ble_eq_true rfl) (c_countTold hG hN (by rw [va_up_ne _ _ (by omega)]; exact c0) ?_)
    refine mx_iret (by rfl) (mx_d D_C_mix 38 rfl) ?_
    refine q3 _ i j h rfl rfl (by omega) (by omega) (by omega) h5 hh (hC0.more h5 (by omega) (by omega) (fun y hy => ?_) (fun k z1 z2 z3 => ?_) (va_up_self _ _ _) ?_ ?_) (fun k hk => ?_)
    · have x1 := w1 y hy
      have x2 := w2 y hy
      have c1 : 0 ≤ u * dW i y := Int.mul_nonneg h6.1 x1.1
      have c2 : u * dW i y ≤ u * 1000000 := Int.mul_le_mul_of_nonneg_left x1.2 h6.1
      have c3 : 0 ≤ (v - u) * dW j y := Int.mul_nonneg (by omega) x2.1
      have c4 : (v - u) * dW j y ≤ (v - u) * 1000000 := Int.mul_le_mul_of_nonneg_left x2.2 (by omega)
      rw [hh y hy]
      exact ⟨Int.ediv_nonneg (by omega) (by omega), Int.ediv_le_of_le_mul (by omega) (by omega)⟩
    · rw [va_up_ne _ _ z1, va_up_ne _ _ z3]
    · rw [va_up_ne _ _ (by omega), va_up_ne _ _ (by omega), g5, hz.1, hz.2]
    · rw [va_up_ne _ _ (by omega), va_up_self]
    · rw [va_up_ne _ _ (by omega), va_up_ne _ _ (by omega)]
  · refine mx_icmp_geN 26 (mx_d D_C_mix 8 rfl) (by decide) (by omega) (by omega) (by omega) (by omega) (by omega) ?_
    refine mx_throw hG ["java/lang/RuntimeException", "java/lang/Exception"] (E := "java/lang/IllegalArgumentException") (tx := "below is 1 at least") (mx_d D_C_mix 9 rfl) (mx_d D_C_mix 10 rfl) (mx_d D_C_mix 11 rfl) (mx_d D_C_mix 12 rfl) (mx_d D_C_mix 13 rfl) (by decide) (by decide) (by decide) w_331 w_14 w_332 (by decide) th_107 (by rfl) (by exact Nat.le_of_ble_eq_true rfl) ?_
    exact q1 ⟨⟨h1, h2⟩, h3, h4⟩ (by omega)
theorem c_root {sq : Int} (hq1 : 0 ≤ sq) (hq2 : sq ≤ 10000) (q : ∀ r, isRt sq r → Q (.inl (some (.int (iI r)))) N ce bc bs) : mx_M G Y_C_rootAtLeastOne d bc bs false N ce 0 [(0, .int (iI sq))] [] Q := by
  refine mx_bipush (n := 100) (mx_d D_C_rootAtLeastOne 0 rfl) (by decide) ?_
  refine mx_istore_n (k4 := 1) (mx_d D_C_rootAtLeastOne 1 rfl) (by decide) ?_
  suffices H : ∀ (k : Nat) (r : Int), r = k + 1 → r ≤ 100 → sq < (r + 1) * (r + 1) → mx_M G Y_C_rootAtLeastOne d bc bs false N ce 3 [(0, .int (iI sq)), (1, .int (iI r))] [] Q from mx_loc (by rfl) (H 99 100 (by omega) (by omega) (by omega))
  intro k
  induction k with
  | zero =>
    intro r hr hr2 hlt
    refine mx_iload_n (k4 := 1) (mx_d D_C_rootAtLeastOne 2 rfl) (by rfl) ?_
    refine mx_iconst (n := 1) (mx_d D_C_rootAtLeastOne 3 rfl) ?_
    refine mx_icmp_leY 23 (mx_d D_C_rootAtLeastOne 4 rfl) (by decide) (by omega) (by omega) (by omega) (by omega) (by omega) ?_
    refine mx_iconst (n := 1) (mx_d D_C_rootAtLeastOne 14 rfl) ?_
    refine mx_iret (by rfl) (mx_d D_C_rootAtLeastOne 15 rfl) ?_
    exact q 1 ⟨by omega, by omega, Or.inl rfl, by rw [show r = 1 by omega] at hlt; exact hlt⟩
  | succ k ih =>
    intro r hr hr2 hlt
    have b1 := sq_nn r
    have b2 : r * r ≤ 100 * 100 := sq_le (by omega) hr2
    refine mx_iload_n (k4 := 1) (mx_d D_C_rootAtLeastOne 2 rfl) (by rfl) ?_
    refine mx_iconst (n := 1) (mx_d D_C_rootAtLeastOne 3 rfl) ?_
    refine mx_icmp_leN 23 (mx_d D_C_rootAtLeastOne 4 rfl) (by decide) (by omega) (by omega) (by omega) (by omega) (by omega) ?_
    refine mx_iload_n (k4 := 1) (mx_d D_C_rootAtLeastOne 5 rfl) (by rfl) ?_
    refine mx_iload_n (k4 := 1) (mx_d D_C_rootAtLeastOne 6 rfl) (by rfl) ?_
    refine mx_imulI (mx_d D_C_rootAtLeastOne 7 rfl) ?_
    refine mx_iload_n (k4 := 0) (mx_d D_C_rootAtLeastOne 8 rfl) (by rfl) ?_
    by_cases hc : r * r ≤ sq
    · refine mx_icmp_gtN 17 (mx_d D_C_rootAtLeastOne 9 rfl) (by decide) (by omega) (by omega) (by omega) (by omega) (by omega) ?_
      refine mx_iload_n (k4 := 1) (mx_d D_C_rootAtLeastOne 10 rfl) (by rfl) ?_
      refine mx_iret (by rfl) (mx_d D_C_rootAtLeastOne 11 rfl) ?_
      exact q r ⟨by omega, by omega, Or.inr hc, hlt⟩
    · refine mx_icmp_gtY 17 (mx_d D_C_rootAtLeastOne 9 rfl) (by decide) (by omega) (by omega) (by omega) (by omega) (by omega) ?_
      refine mx_iincI (i := 1) (n := -1) (mx_d D_C_rootAtLeastOne 12 rfl) (by rfl) (by decide) ?_
      refine mx_goto 3 (mx_d D_C_rootAtLeastOne 13 rfl) (by decide) ?_
      refine mx_loc (by rfl) (ih (r + -1) (by omega) (by omega) ?_)
      rw [show r + -1 + 1 = r by omega]
      omega
theorem c_C_join (hG : mx_ok G) (hN : 50 ≤ N) (hC : CS G Y U nE iE nD rA rS eA eS dA dS dW lc rn rg rN ps pN ce) {a b : Int} (a1 : -2147483648 ≤ a) (a2 : a < 2147483648) (b1 : -2147483648 ≤ b) (b2 : b < 2147483648)
    (q0 : ¬ ((0 ≤ a ∧ a < nD) ∧ 0 ≤ b ∧ b < nD) → Q (.inr xI) N ce bc bs) (q1 : ((0 ≤ a ∧ a < nD) ∧ 0 ≤ b ∧ b < nD) → ¬ nD < 12 → Q (.inr xS) N ce bc bs)
    (q2 : ∀ i j : Nat, a = i → b = j → i < nD → j < nD → nD < 12 → ¬ (0 < dS i ∧ 0 < dS j ∧ (dA i - dA j) * (dA i - dA j) ≤ 4 * (dS i * dS i + dS j * dS j)) → Q (.inl (some (.int (iI (-1))))) N ce bc bs)
    (q3 : ∀ ce' (i j : Nat) (h : Nat → Int) (A r : Int), a = i → b = j → i < nD → j < nD → nD < 12 → (0 < dS i ∧ 0 < dS j ∧ (dA i - dA j) * (dA i - dA j) ≤ 4 * (dS i * dS i + dS j * dS j)) → A = (dA i * (dS j * dS j) + dA j * (dS i * dS i)) / (dS i * dS i + dS j * dS j) → isRt (dS i * dS i * (dS j * dS j) / (dS i * dS i + dS j * dS j)) r → (0 ≤ A ∧ A ≤ 3000) → (∀ y, y < Y → h y = wgt U (r * r + rS * rS) (A - rA) (eA iE y) (eS iE y)) → CS G Y U nE iE (nD + 1) rA rS eA eS (va_up dA nD A) (va_up dS nD r) (va_up dW nD h) lc rn rg rN ps pN ce' → (∀ k, 50 ≤ k → ce' k = ce k) → Q (.inl (some (.int (iI (nD : Nat))))) N ce' bc bs) : mx_M G Y_C_joinRepeats (d + 6) (bc + 1) (bs + 6) false N ce 0 [(0, .ref (mx_B G + 0)), (1, .int (iI a)), (2, .int (iI b))] [] Q := by
  have hC0 := hC
  obtain ⟨⟨hY, hU, hE, hD, hrA, hrS, hEA, hES, hDA, hDS, hDz, hDW, hrN, hrn, hpN, hps⟩, c0, c1, c14, cE, cD, cL, cR, cP, cT⟩ := hC
  refine mx_aload_n (k4 := 0) (mx_d D_C_joinRepeats 0 rfl) (by rfl) ?_
  refine mx_iload_n (k4 := 1) (mx_d D_C_joinRepeats 1 rfl) (by rfl) ?_
  refine mx_callV hG (Y' := Y_C_needDate) (ci := 0) [_] (mx_d D_C_joinRepeats 2 rfl) in_C_needDate w_428 w_430 s_C_needDate (by rfl) np_C_needDate (by exact Nat.le_of_ble_eq_true rfl) (by rfl) (by first | assumption | omega) (by first | assumption | exact va_up_self _ _ _ | (rw [va_up_ne _ _ (by omega)]; first | assumption | exact va_up_self _ _ _ | (rw [va_up_ne _ _ (by omega)]; first | assumption | exact va_up_self _ _ _ | (rw [va_up_ne _ _ (by omega)]; first | assumption | exact va_up_self _ _ _ | (rw [va_up_ne _ _ (by omega)]; first | assumption | exact va_up_self _ _ _ | (rw [va_up_ne _ _ (by omega)]; first | assumption | exact va_up_self _ _ _)))))) (by rfl) (by exact Nat.le_of_ble_eq_true rfl) (c_needDate hG hN c0 hD a1 a2 (fun h => q0 (fun z => h z.1)) (fun h1 h2 => ?_))
  refine mx_aload_n (k4 := 0) (mx_d D_C_joinRepeats 3 rfl) (by rfl) ?_
  refine mx_iload_n (k4 := 2) (mx_d D_C_joinRepeats 4 rfl) (by rfl) ?_
  refine mx_callV hG (Y' := Y_C_needDate) (ci := 0) [_] (mx_d D_C_joinRepeats 5 rfl) in_C_needDate w_428 w_430 s_C_needDate (by rfl) np_C_needDate (by exact Nat.le_of_ble_eq_true rfl) (by rfl) (by first | assumption | omega) (by first | assumption | exact va_up_self _ _ _ | (rw [va_up_ne _ _ (by omega)]; first | assumption | exact va_up_self _ _ _ | (rw [va_up_ne _ _ (by omega)]; first | assumption | exact va_up_self _ _ _ | (rw [va_up_ne _ _ (by omega)]; first | assumption | exact va_up_self _ _ _ | (rw [va_up_ne _ _ (by omega)]; first | assumption | exact va_up_self _ _ _ | (rw [va_up_ne _ _ (by omega)]; first | assumption | exact va_up_self _ _ _)))))) (by rfl) (by exact Nat.le_of_ble_eq_true rfl) (c_needDate hG hN c0 hD b1 b2 (fun h => q0 (fun z => h z.2)) (fun h3 h4 => ?_))
  refine mx_aload_n (k4 := 0) (mx_d D_C_joinRepeats 6 rfl) (by rfl) ?_
  refine mx_callV hG (Y' := Y_C_needRoomForDate) (ci := 0) [] (mx_d D_C_joinRepeats 7 rfl) in_C_needRoomForDate w_403 w_405 s_C_needRoomForDate (by rfl) np_C_needRoomForDate (by exact Nat.le_of_ble_eq_true rfl) (by rfl) (by first | assumption | omega) (by first | assumption | exact va_up_self _ _ _ | (rw [va_up_ne _ _ (by omega)]; first | assumption | exact va_up_self _ _ _ | (rw [va_up_ne _ _ (by omega)]; first | assumption | exact va_up_self _ _ _ | (rw [va_up_ne _ _ (by omega)]; first | assumption | exact va_up_self _ _ _ | (rw [va_up_ne _ _ (by omega)]; first | assumption | exact va_up_self _ _ _ | (rw [va_up_ne _ _ (by omega)]; first | assumption | exact va_up_self _ _ _)))))) (by rfl) (by exact Nat.le_of_ble_eq_true rfl) (c_needRoom hG hN c0 hD (q1 ⟨⟨h1, h2⟩, h3, h4⟩) (fun h5 => ?_))
  refine mx_bud (Nat.le_succ bc) (Nat.le_add_right bs 6) ?_
  obtain ⟨i, rfl⟩ : ∃ i : Nat, a = i := ⟨a.toNat, by omega⟩
  obtain ⟨j, rfl⟩ : ∃ j : Nat, b = j := ⟨b.toNat, by omega⟩
  have none_ : ∀ {l9 : List (Nat × Value)}, ¬ (0 < dS i ∧ 0 < dS j ∧ (dA i - dA j) * (dA i - dA j) ≤ 4 * (dS i * dS i + dS j * dS j)) → mx_M G Y_C_joinRepeats (d + 6) bc bs false N ce 44 l9 [] Q := by
    intro l9 h
    refine mx_iconst (n := -1) (mx_d D_C_joinRepeats 24 rfl) ?_
    refine mx_iret (by rfl) (mx_d D_C_joinRepeats 25 rfl) ?_
    exact q2 i j rfl rfl (by omega) (by omega) h5 h
  obtain ⟨g1, g2⟩ := cD i (by omega)
  obtain ⟨g3, g4⟩ := cD j (by omega)
  have A1 := hDA i (by omega)
  have A2 := hDA j (by omega)
  have S1 := hDS i (by omega)
  have S2 := hDS j (by omega)
  refine mx_aload_n (k4 := 0) (mx_d D_C_joinRepeats 8 rfl) (by rfl) ?_
  refine mx_getf hG (idx := 37) (ci := 0) (kf := 3) (mx_d D_C_joinRepeats 9 rfl) (by rfl) cls_C (by decide) w_152 (by first | assumption | omega) (by first | assumption | exact va_up_self _ _ _ | (rw [va_up_ne _ _ (by omega)]; first | assumption | exact va_up_self _ _ _ | (rw [va_up_ne _ _ (by omega)]; first | assumption | exact va_up_self _ _ _ | (rw [va_up_ne _ _ (by omega)]; first | assumption | exact va_up_self _ _ _ | (rw [va_up_ne _ _ (by omega)]; first | assumption | exact va_up_self _ _ _ | (rw [va_up_ne _ _ (by omega)]; first | assumption | exact va_up_self _ _ _)))))) (by rfl) ?_
  refine mx_iload_n (k4 := 1) (mx_d D_C_joinRepeats 10 rfl) (by rfl) ?_
  refine mx_aald hG 4 (i) (mx_d D_C_joinRepeats 11 rfl) (by first | assumption | omega) (by first | assumption | exact va_up_self _ _ _ | (rw [va_up_ne _ _ (by omega)]; first | assumption | exact va_up_self _ _ _ | (rw [va_up_ne _ _ (by omega)]; first | assumption | exact va_up_self _ _ _ | (rw [va_up_ne _ _ (by omega)]; first | assumption | exact va_up_self _ _ _ | (rw [va_up_ne _ _ (by omega)]; first | assumption | exact va_up_self _ _ _ | (rw [va_up_ne _ _ (by omega)]; first | assumption | exact va_up_self _ _ _)))))) (by rfl) (by rfl) (by rfl) (by omega) (by omega) (show _ = some (mx_B G + (15 + 2 * i)) by exact if_pos (by omega)) ?_
  refine mx_astore_n (k4 := 3) (mx_d D_C_joinRepeats 12 rfl) (by decide) ?_
  refine mx_aload_n (k4 := 0) (mx_d D_C_joinRepeats 13 rfl) (by rfl) ?_
  refine mx_getf hG (idx := 37) (ci := 0) (kf := 3) (mx_d D_C_joinRepeats 14 rfl) (by rfl) cls_C (by decide) w_152 (by first | assumption | omega) (by first | assumption | exact va_up_self _ _ _ | (rw [va_up_ne _ _ (by omega)]; first | assumption | exact va_up_self _ _ _ | (rw [va_up_ne _ _ (by omega)]; first | assumption | exact va_up_self _ _ _ | (rw [va_up_ne _ _ (by omega)]; first | assumption | exact va_up_self _ _ _ | (rw [va_up_ne _ _ (by omega)]; first | assumption | exact va_up_self _ _ _ | (rw [va_up_ne _ _ (by omega)]; first | assumption | exact va_up_self _ _ _)))))) (by rfl) ?_
  refine mx_iload_n (k4 := 2) (mx_d D_C_joinRepeats 15 rfl) (by rfl) ?_
  refine mx_aald hG 4 (j) (mx_d D_C_joinRepeats 16 rfl) (by first | assumption | omega) (by first | assumption | exact va_up_self _ _ _ | (rw [va_up_ne _ _ (by omega)]; first | assumption | exact va_up_self _ _ _ | (rw [va_up_ne _ _ (by omega)]; first | assumption | exact va_up_self _ _ _ | (rw [va_up_ne _ _ (by omega)]; first | assumption | exact va_up_self _ _ _ | (rw [va_up_ne _ _ (by omega)]; first | assumption | exact va_up_self _ _ _ | (rw [va_up_ne _ _ (by omega)]; first | assumption | exact va_up_self _ _ _)))))) (by rfl) (by rfl) (by rfl) (by omega) (by omega) (show _ = some (mx_B G + (15 + 2 * j)) by exact if_pos (by omega)) ?_
  refine mx_astore (i := 4) (mx_d D_C_joinRepeats 17 rfl) (by decide) ?_
  refine mx_aload_n (k4 := 3) (mx_d D_C_joinRepeats 18 rfl) (by rfl) ?_
  refine mx_callV hG (Y' := Y_D_isMeasured) (ci := 2) [] (mx_d D_C_joinRepeats 19 rfl) in_D_isMeasured w_484 w_485 s_D_isMeasured (by rfl) np_D_isMeasured (by exact Nat.le_of_ble_eq_true rfl) (by rfl) (by first | assumption | omega) (by first | assumption | exact va_up_self _ _ _ | (rw [va_up_ne _ _ (by omega)]; first | assumption | exact va_up_self _ _ _ | (rw [va_up_ne _ _ (by omega)]; first | assumption | exact va_up_self _ _ _ | (rw [va_up_ne _ _ (by omega)]; first | assumption | exact va_up_self _ _ _ | (rw [va_up_ne _ _ (by omega)]; first | assumption | exact va_up_self _ _ _ | (rw [va_up_ne _ _ (by omega)]; first | assumption | exact va_up_self _ _ _)))))) (by rfl) (by exact Nat.le_of_ble_eq_true rfl) (c_D_isMeasured hG (by omega) g1 S1 ?_)
  by_cases m1 : 0 < dS i
  · rw [show decide (0 < dS i) = true from by simp [m1]]
    refine mx_if_eqN 44 (mx_d D_C_joinRepeats 20 rfl) (by decide) (by decide) (by decide) (by decide) ?_
    refine mx_aload (i := 4) (mx_d D_C_joinRepeats 21 rfl) (by rfl) ?_
    refine mx_callV hG (Y' := Y_D_isMeasured) (ci := 2) [] (mx_d D_C_joinRepeats 22 rfl) in_D_isMeasured w_484 w_485 s_D_isMeasured (by rfl) np_D_isMeasured (by exact Nat.le_of_ble_eq_true rfl) (by rfl) (by first | assumption | omega) (by first | assumption | exact va_up_self _ _ _ | (rw [va_up_ne _ _ (by omega)]; first | assumption | exact va_up_self _ _ _ | (rw [va_up_ne _ _ (by omega)]; first | assumption | exact va_up_self _ _ _ | (rw [va_up_ne _ _ (by omega)]; first | assumption | exact va_up_self _ _ _ | (rw [va_up_ne _ _ (by omega)]; first | assumption | exact va_up_self _ _ _ | (rw [va_up_ne _ _ (by omega)]; first | assumption | exact va_up_self _ _ _)))))) (by rfl) (by exact Nat.le_of_ble_eq_true rfl) (c_D_isMeasured hG (by omega) g3 S2 ?_)
    by_cases m2 : 0 < dS j
    · rw [show decide (0 < dS j) = true from by simp [m2]]
      have p1 : 1 * 1 ≤ dS i * dS i := Int.mul_le_mul (by omega) (by omega) (by omega) (by omega)
      have p2 : dS i * dS i ≤ 100 * 100 := sq_le (by omega) S1.2
      have r1 : 1 * 1 ≤ dS j * dS j := Int.mul_le_mul (by omega) (by omega) (by omega) (by omega)
      have r2 : dS j * dS j ≤ 100 * 100 := sq_le (by omega) S2.2
      have d1 := sq_nn (dA i - dA j)
      have d2 : (dA i - dA j) * (dA i - dA j) ≤ 3000 * 3000 := sq_le (by omega) (by omega)
      generalize hp : dS i * dS i = p at *
      generalize hr : dS j * dS j = r at *
      have x1 : 0 ≤ dA i * r := Int.mul_nonneg A1.1 (by omega)
      have x2 : dA i * r ≤ 3000 * r := Int.mul_le_mul_of_nonneg_right A1.2 (by omega)
      have x3 : 0 ≤ dA j * p := Int.mul_nonneg A2.1 (by omega)
      have x4 : dA j * p ≤ 3000 * p := Int.mul_le_mul_of_nonneg_right A2.2 (by omega)
      have x5 : 0 ≤ p * r := Int.mul_nonneg (by omega) (by omega)
      have x6 : p * r ≤ 10000 * r := Int.mul_le_mul_of_nonneg_right (by omega) (by omega)
      have hA : 0 ≤ (dA i * r + dA j * p) / (p + r) ∧ (dA i * r + dA j * p) / (p + r) ≤ 3000 := ⟨Int.ediv_nonneg (by omega) (by omega), Int.ediv_le_of_le_mul (by omega) (by omega)⟩
      have hQ : 0 ≤ p * r / (p + r) ∧ p * r / (p + r) ≤ 10000 := ⟨Int.ediv_nonneg (by omega) (by omega), Int.ediv_le_of_le_mul (by omega) (by omega)⟩
      refine mx_if_neY 46 (mx_d D_C_joinRepeats 23 rfl) (by decide) (by decide) (by decide) (by decide) ?_
      refine mx_aload_n (k4 := 3) (mx_d D_C_joinRepeats 26 rfl) (by rfl) ?_
      refine mx_getf hG (idx := 162) (ci := 2) (kf := 2) (mx_d D_C_joinRepeats 27 rfl) (by rfl) cls_D (by decide) w_66 (by first | assumption | omega) (by first | assumption | exact va_up_self _ _ _ | (rw [va_up_ne _ _ (by omega)]; first | assumption | exact va_up_self _ _ _ | (rw [va_up_ne _ _ (by omega)]; first | assumption | exact va_up_self _ _ _ | (rw [va_up_ne _ _ (by omega)]; first | assumption | exact va_up_self _ _ _ | (rw [va_up_ne _ _ (by omega)]; first | assumption | exact va_up_self _ _ _ | (rw [va_up_ne _ _ (by omega)]; first | assumption | exact va_up_self _ _ _)))))) (by rfl) ?_
      refine mx_aload_n (k4 := 3) (mx_d D_C_joinRepeats 28 rfl) (by rfl) ?_
      refine mx_getf hG (idx := 162) (ci := 2) (kf := 2) (mx_d D_C_joinRepeats 29 rfl) (by rfl) cls_D (by decide) w_66 (by first | assumption | omega) (by first | assumption | exact va_up_self _ _ _ | (rw [va_up_ne _ _ (by omega)]; first | assumption | exact va_up_self _ _ _ | (rw [va_up_ne _ _ (by omega)]; first | assumption | exact va_up_self _ _ _ | (rw [va_up_ne _ _ (by omega)]; first | assumption | exact va_up_self _ _ _ | (rw [va_up_ne _ _ (by omega)]; first | assumption | exact va_up_self _ _ _ | (rw [va_up_ne _ _ (by omega)]; first | assumption | exact va_up_self _ _ _)))))) (by rfl) ?_
      refine mx_imulI (mx_d D_C_joinRepeats 30 rfl) ?_
      rw [hp]
      refine mx_istore (i := 5) (mx_d D_C_joinRepeats 31 rfl) (by decide) ?_
      refine mx_aload (i := 4) (mx_d D_C_joinRepeats 32 rfl) (by rfl) ?_
      refine mx_getf hG (idx := 162) (ci := 2) (kf := 2) (mx_d D_C_joinRepeats 33 rfl) (by rfl) cls_D (by decide) w_66 (by first | assumption | omega) (by first | assumption | exact va_up_self _ _ _ | (rw [va_up_ne _ _ (by omega)]; first | assumption | exact va_up_self _ _ _ | (rw [va_up_ne _ _ (by omega)]; first | assumption | exact va_up_self _ _ _ | (rw [va_up_ne _ _ (by omega)]; first | assumption | exact va_up_self _ _ _ | (rw [va_up_ne _ _ (by omega)]; first | assumption | exact va_up_self _ _ _ | (rw [va_up_ne _ _ (by omega)]; first | assumption | exact va_up_self _ _ _)))))) (by rfl) ?_
      refine mx_aload (i := 4) (mx_d D_C_joinRepeats 34 rfl) (by rfl) ?_
      refine mx_getf hG (idx := 162) (ci := 2) (kf := 2) (mx_d D_C_joinRepeats 35 rfl) (by rfl) cls_D (by decide) w_66 (by first | assumption | omega) (by first | assumption | exact va_up_self _ _ _ | (rw [va_up_ne _ _ (by omega)]; first | assumption | exact va_up_self _ _ _ | (rw [va_up_ne _ _ (by omega)]; first | assumption | exact va_up_self _ _ _ | (rw [va_up_ne _ _ (by omega)]; first | assumption | exact va_up_self _ _ _ | (rw [va_up_ne _ _ (by omega)]; first | assumption | exact va_up_self _ _ _ | (rw [va_up_ne _ _ (by omega)]; first | assumption | exact va_up_self _ _ _)))))) (by rfl) ?_
      refine mx_imulI (mx_d D_C_joinRepeats 36 rfl) ?_
      rw [hr]
      refine mx_istore (i := 6) (mx_d D_C_joinRepeats 37 rfl) (by decide) ?_
      refine mx_aload_n (k4 := 3) (mx_d D_C_joinRepeats 38 rfl) (by rfl) ?_
      refine mx_getf hG (idx := 165) (ci := 2) (kf := 1) (mx_d D_C_joinRepeats 39 rfl) (by rfl) cls_D (by decide) w_64 (by first | assumption | omega) (by first | assumption | exact va_up_self _ _ _ | (rw [va_up_ne _ _ (by omega)]; first | assumption | exact va_up_self _ _ _ | (rw [va_up_ne _ _ (by omega)]; first | assumption | exact va_up_self _ _ _ | (rw [va_up_ne _ _ (by omega)]; first | assumption | exact va_up_self _ _ _ | (rw [va_up_ne _ _ (by omega)]; first | assumption | exact va_up_self _ _ _ | (rw [va_up_ne _ _ (by omega)]; first | assumption | exact va_up_self _ _ _)))))) (by rfl) ?_
      refine mx_aload (i := 4) (mx_d D_C_joinRepeats 40 rfl) (by rfl) ?_
      refine mx_getf hG (idx := 165) (ci := 2) (kf := 1) (mx_d D_C_joinRepeats 41 rfl) (by rfl) cls_D (by decide) w_64 (by first | assumption | omega) (by first | assumption | exact va_up_self _ _ _ | (rw [va_up_ne _ _ (by omega)]; first | assumption | exact va_up_self _ _ _ | (rw [va_up_ne _ _ (by omega)]; first | assumption | exact va_up_self _ _ _ | (rw [va_up_ne _ _ (by omega)]; first | assumption | exact va_up_self _ _ _ | (rw [va_up_ne _ _ (by omega)]; first | assumption | exact va_up_self _ _ _ | (rw [va_up_ne _ _ (by omega)]; first | assumption | exact va_up_self _ _ _)))))) (by rfl) ?_
      refine mx_isubI (mx_d D_C_joinRepeats 42 rfl) ?_
      refine mx_istore (i := 7) (mx_d D_C_joinRepeats 43 rfl) (by decide) ?_
      refine mx_iload (i := 7) (mx_d D_C_joinRepeats 44 rfl) (by rfl) ?_
      refine mx_iload (i := 7) (mx_d D_C_joinRepeats 45 rfl) (by rfl) ?_
      refine mx_imulI (mx_d D_C_joinRepeats 46 rfl) ?_
      refine mx_iconst (n := 4) (mx_d D_C_joinRepeats 47 rfl) ?_
      refine mx_iload (i := 5) (mx_d D_C_joinRepeats 48 rfl) (by rfl) ?_
      refine mx_iload (i := 6) (mx_d D_C_joinRepeats 49 rfl) (by rfl) ?_
      refine mx_iaddI (mx_d D_C_joinRepeats 50 rfl) ?_
      refine mx_imulI (mx_d D_C_joinRepeats 51 rfl) ?_
      by_cases hc : (dA i - dA j) * (dA i - dA j) ≤ 4 * (p + r)
      · refine mx_icmp_leY 99 (mx_d D_C_joinRepeats 52 rfl) (by decide) (by omega) (by omega) (by omega) (by omega) (by omega) ?_
        refine mx_aload_n (k4 := 3) (mx_d D_C_joinRepeats 55 rfl) (by rfl) ?_
        refine mx_getf hG (idx := 165) (ci := 2) (kf := 1) (mx_d D_C_joinRepeats 56 rfl) (by rfl) cls_D (by decide) w_64 (by first | assumption | omega) (by first | assumption | exact va_up_self _ _ _ | (rw [va_up_ne _ _ (by omega)]; first | assumption | exact va_up_self _ _ _ | (rw [va_up_ne _ _ (by omega)]; first | assumption | exact va_up_self _ _ _ | (rw [va_up_ne _ _ (by omega)]; first | assumption | exact va_up_self _ _ _ | (rw [va_up_ne _ _ (by omega)]; first | assumption | exact va_up_self _ _ _ | (rw [va_up_ne _ _ (by omega)]; first | assumption | exact va_up_self _ _ _)))))) (by rfl) ?_
        refine mx_iload (i := 6) (mx_d D_C_joinRepeats 57 rfl) (by rfl) ?_
        refine mx_imulI (mx_d D_C_joinRepeats 58 rfl) ?_
        refine mx_aload (i := 4) (mx_d D_C_joinRepeats 59 rfl) (by rfl) ?_
        refine mx_getf hG (idx := 165) (ci := 2) (kf := 1) (mx_d D_C_joinRepeats 60 rfl) (by rfl) cls_D (by decide) w_64 (by first | assumption | omega) (by first | assumption | exact va_up_self _ _ _ | (rw [va_up_ne _ _ (by omega)]; first | assumption | exact va_up_self _ _ _ | (rw [va_up_ne _ _ (by omega)]; first | assumption | exact va_up_self _ _ _ | (rw [va_up_ne _ _ (by omega)]; first | assumption | exact va_up_self _ _ _ | (rw [va_up_ne _ _ (by omega)]; first | assumption | exact va_up_self _ _ _ | (rw [va_up_ne _ _ (by omega)]; first | assumption | exact va_up_self _ _ _)))))) (by rfl) ?_
        refine mx_iload (i := 5) (mx_d D_C_joinRepeats 61 rfl) (by rfl) ?_
        refine mx_imulI (mx_d D_C_joinRepeats 62 rfl) ?_
        refine mx_iaddI (mx_d D_C_joinRepeats 63 rfl) ?_
        refine mx_iload (i := 5) (mx_d D_C_joinRepeats 64 rfl) (by rfl) ?_
        refine mx_iload (i := 6) (mx_d D_C_joinRepeats 65 rfl) (by rfl) ?_
        refine mx_iaddI (mx_d D_C_joinRepeats 66 rfl) ?_
        refine mx_divI (mx_d D_C_joinRepeats 67 rfl) (by omega) (by omega) (by omega) (by omega) ?_
        refine mx_istore (i := 8) (mx_d D_C_joinRepeats 68 rfl) (by decide) ?_
        refine mx_aload_n (k4 := 0) (mx_d D_C_joinRepeats 69 rfl) (by rfl) ?_
        refine mx_iload (i := 8) (mx_d D_C_joinRepeats 70 rfl) (by rfl) ?_
        refine mx_iload (i := 5) (mx_d D_C_joinRepeats 71 rfl) (by rfl) ?_
        refine mx_iload (i := 6) (mx_d D_C_joinRepeats 72 rfl) (by rfl) ?_
        refine mx_imulI (mx_d D_C_joinRepeats 73 rfl) ?_
        refine mx_iload (i := 5) (mx_d D_C_joinRepeats 74 rfl) (by rfl) ?_
        refine mx_iload (i := 6) (mx_d D_C_joinRepeats 75 rfl) (by rfl) ?_
        refine mx_iaddI (mx_d D_C_joinRepeats 76 rfl) ?_
        refine mx_divI (mx_d D_C_joinRepeats 77 rfl) (by omega) (by omega) (by omega) (by omega) ?_
        refine mx_callS (Y' := Y_C_rootAtLeastOne) [_] (mx_d D_C_joinRepeats 78 rfl) in_C_rootAtLeastOne w_488 w_489 np_C_rootAtLeastOne (by exact Nat.le_of_ble_eq_true rfl) (by rfl) (by rfl) (by exact Nat.le_of_ble_eq_true rfl) (c_root hQ.1 hQ.2 (fun t ht => ?_))
        refine mx_callV hG (Y' := Y_C_tellMeasured) (ci := 0) [_, _] (mx_d D_C_joinRepeats 79 rfl) in_C_tellMeasured w_408 w_410 s_C_tellMeasured (by rfl) np_C_tellMeasured (by exact Nat.le_of_ble_eq_true rfl) (by rfl) (by first | assumption | omega) (by first | assumption | exact va_up_self _ _ _ | (rw [va_up_ne _ _ (by omega)]; first | assumption | exact va_up_self _ _ _ | (rw [va_up_ne _ _ (by omega)]; first | assumption | exact va_up_self _ _ _ | (rw [va_up_ne _ _ (by omega)]; first | assumption | exact va_up_self _ _ _ | (rw [va_up_ne _ _ (by omega)]; first | assumption | exact va_up_self _ _ _ | (rw [va_up_ne _ _ (by omega)]; first | assumption | exact va_up_self _ _ _)))))) (by rfl) (by exact Nat.le_of_ble_eq_true rfl) (c_tell hG hN hC0 h5 hA ⟨ht.1, ht.2.1⟩ (fun ce' h k1 k2 k3 => ?_))
        refine mx_iret (by rfl) (mx_d D_C_joinRepeats 80 rfl) ?_
        subst hp; subst hr
        exact q3 ce' i j h _ t rfl rfl (by omega) (by omega) h5 ⟨m1, m2, hc⟩ rfl ht hA k1 k2 k3
      · refine mx_icmp_leN 99 (mx_d D_C_joinRepeats 52 rfl) (by decide) (by omega) (by omega) (by omega) (by omega) (by omega) ?_
        refine mx_iconst (n := -1) (mx_d D_C_joinRepeats 53 rfl) ?_
        refine mx_iret (by rfl) (mx_d D_C_joinRepeats 54 rfl) ?_
        subst hp; subst hr
        exact q2 i j rfl rfl (by omega) (by omega) h5 (fun z => hc z.2.2)
    · rw [show decide (0 < dS j) = false from by simp; omega]
      refine mx_if_neN 46 (mx_d D_C_joinRepeats 23 rfl) (by decide) (by decide) (by decide) (by decide) ?_
      exact none_ (fun z => m2 z.2.1)
  · rw [show decide (0 < dS i) = false from by simp; omega]
    refine mx_if_eqY 44 (mx_d D_C_joinRepeats 20 rfl) (by decide) (by decide) (by decide) (by decide) ?_
    exact none_ (fun z => m1 z.1)
end CJ
end
section
/-! least, span, gap, slid, wiggle, clear, unit, read, count -/
def bstTo (f : Nat → Int) : Nat → Nat
  | 0 => 0
  | n + 1 => if f (bstTo f n) < f n then n else bstTo f n
theorem bstTo_lt (f : Nat → Int) {n : Nat} : bstTo f n ≤ n := by
  induction n with
  | zero => exact Nat.le_refl _
  | succ n ih => simp only [bstTo]; split <;> omega
theorem bstTo_lt' (f : Nat → Int) {n : Nat} (h : 0 < n) : bstTo f n < n := by
  obtain ⟨m, rfl⟩ : ∃ m, n = m + 1 := ⟨n - 1, by omega⟩
  have := bstTo_lt f (n := m)
  simp only [bstTo]
  split <;> omega
theorem sgP_rg {x : Int32} {ps : Nat → Int} {m : Nat} (h : ∀ j, j < m → -2147483648 ≤ ps j ∧ ps j < 2147483648) (n : Nat) : ∀ j, j < m + sgN x n → -2147483648 ≤ sgP x ps m n j ∧ sgP x ps m n j < 2147483648 := by
  induction n with
  | zero => exact h
  | succ n ih =>
    intro j hj
    simp only [sgN, sgP] at hj ⊢
    by_cases hz : sg x n = 0
    · rw [if_pos hz] at hj ⊢
      exact ih j hj
    · rw [if_neg hz] at hj ⊢
      by_cases e : j = m + sgN x n
      · subst e; rw [va_up_self]; exact ⟨sg_lo x n, sg_hi x n⟩
      · rw [va_up_ne _ _ e]; exact ih j (by omega)
def tl2 (f : Nat → Nat → Int) (i : Nat) (t : Nat → Int) (o : Nat) : Nat → Nat → Nat → Int
  | 0 => f
  | n + 1 => up2 (tl2 f i t o n) i (t (3 * n)).toNat (t (3 * n + o))
def cntV (Y nE iE nD rN pN n m : Nat) : Nat := if m = 0 then Y else if m = 1 then nE else if m = 2 then iE else if m = 3 then nD else if m = 4 then rN else if m = 5 then pN else n
section CZ
variable {G : mx_G} {d bc bs : Nat} {N : Nat} {ce : Nat → va_E} {Q : mx_P} {Y : Nat} {U : Int} {nE iE nD : Nat} {rA rS : Int} {eA eS : Nat → Nat → Int} {dA dS : Nat → Int} {dW : Nat → Nat → Int} {lc : Nat → Bool} {rn rg : Nat → Nat} {rN : Nat} {ps : Nat → Int} {pN : Nat}
theorem c_C_least (hG : mx_ok G) (hN : 50 ≤ N) (hC : CS G Y U nE iE nD rA rS eA eS dA dS dW lc rn rg rN ps pN ce) {i u v : Int} (i1 : -2147483648 ≤ i) (i2 : i < 2147483648) (u1 : -2147483648 ≤ u) (u2 : u < 2147483648) (v1 : -2147483648 ≤ v) (v2 : v < 2147483648)
    (q0 : ¬ (0 ≤ i ∧ i < nD) → Q (.inr xI) N ce bc bs) (q1 : (0 ≤ i ∧ i < nD) → ¬ (1 ≤ u ∧ u ≤ v ∧ v ≤ 1000) → Q (.inr xA) N ce bc bs)
    (q2 : ∀ ce' (j : Nat) (lc' : Nat → Bool), i = j → j < nD → (1 ≤ u ∧ u ≤ v ∧ v ≤ 1000) → (∀ y, y < Y → lc' y = need (dW j) Y u v y) → CS G Y U nE iE nD rA rS eA eS dA dS dW (lc') rn rg rN ps pN ce' → (∀ k, 50 ≤ k → ce' k = ce k) → Q (.inl (some (.int (iI (bgN lc' Y : Nat))))) N ce' bc bs) : mx_M G Y_C_least (d + 6) (bc + 1) (bs + 6) false N ce 0 [(0, .ref (mx_B G + 0)), (1, .int (iI i)), (2, .int (iI u)), (3, .int (iI v))] [] Q := by
  have hC0 := hC
  obtain ⟨⟨hY, hU, hE, hD, hrA, hrS, hEA, hES, hDA, hDS, hDz, hDW, hrN, hrn, hpN, hps⟩, c0, c1, c14, cE, cD, cL, cR, cP, cT⟩ := hC
  refine mx_aload_n (k4 := 0) (mx_d D_C_least 0 rfl) (by rfl) ?_
  refine mx_iload_n (k4 := 1) (mx_d D_C_least 1 rfl) (by rfl) ?_
  refine mx_callV hG (Y' := Y_C_needDate) (ci := 0) [_] (mx_d D_C_least 2 rfl) in_C_needDate w_428 w_430 s_C_needDate (by rfl) np_C_needDate (by exact Nat.le_of_ble_eq_true rfl) (by rfl) (by first | assumption | omega) (by first | assumption | exact va_up_self _ _ _ | (rw [va_up_ne _ _ (by omega)]; first | assumption | exact va_up_self _ _ _ | (rw [va_up_ne _ _ (by omega)]; first | assumption | exact va_up_self _ _ _ | (rw [va_up_ne _ _ (by omega)]; first | assumption | exact va_up_self _ _ _ | (rw [va_up_ne _ _ (by omega)]; first | assumption | exact va_up_self _ _ _ | (rw [va_up_ne _ _ (by omega)]; first | assumption | exact va_up_self _ _ _)))))) (by rfl) (by exact Nat.le_of_ble_eq_true rfl) (c_needDate hG hN c0 hD i1 i2 q0 (fun h1 h2 => ?_))
  refine mx_iconst (n := 1) (mx_d D_C_least 3 rfl) ?_
  refine mx_iload_n (k4 := 2) (mx_d D_C_least 4 rfl) (by rfl) ?_
  refine mx_iload_n (k4 := 3) (mx_d D_C_least 5 rfl) (by rfl) ?_
  refine mx_callS (Y' := Y_C_needShare) [_, _, _] (mx_d D_C_least 6 rfl) in_C_needShare w_469 w_470 np_C_needShare (by exact Nat.le_of_ble_eq_true rfl) (by rfl) (by rfl) (by exact Nat.le_of_ble_eq_true rfl) (c_needShare hG (by omega) (by omega) u1 u2 v1 v2 (q1 ⟨h1, h2⟩) (fun h6 => ?_))
  refine mx_bud (Nat.le_succ bc) (Nat.le_add_right bs 6) ?_
  obtain ⟨j, rfl⟩ : ∃ j : Nat, i = j := ⟨i.toNat, by omega⟩
  obtain ⟨g1, g2⟩ := cD j (by omega)
  obtain ⟨l1, l2, lf, ll, l3, l4, l5⟩ := cL
  refine mx_aload_n (k4 := 0) (mx_d D_C_least 7 rfl) (by rfl) ?_
  refine mx_getf hG (idx := 45) (ci := 0) (kf := 4) (mx_d D_C_least 8 rfl) (by rfl) cls_C (by decide) w_153 (by first | assumption | omega) (by first | assumption | exact va_up_self _ _ _ | (rw [va_up_ne _ _ (by omega)]; first | assumption | exact va_up_self _ _ _ | (rw [va_up_ne _ _ (by omega)]; first | assumption | exact va_up_self _ _ _ | (rw [va_up_ne _ _ (by omega)]; first | assumption | exact va_up_self _ _ _ | (rw [va_up_ne _ _ (by omega)]; first | assumption | exact va_up_self _ _ _ | (rw [va_up_ne _ _ (by omega)]; first | assumption | exact va_up_self _ _ _)))))) (by rfl) ?_
  refine mx_aload_n (k4 := 0) (mx_d D_C_least 9 rfl) (by rfl) ?_
  refine mx_getf hG (idx := 37) (ci := 0) (kf := 3) (mx_d D_C_least 10 rfl) (by rfl) cls_C (by decide) w_152 (by first | assumption | omega) (by first | assumption | exact va_up_self _ _ _ | (rw [va_up_ne _ _ (by omega)]; first | assumption | exact va_up_self _ _ _ | (rw [va_up_ne _ _ (by omega)]; first | assumption | exact va_up_self _ _ _ | (rw [va_up_ne _ _ (by omega)]; first | assumption | exact va_up_self _ _ _ | (rw [va_up_ne _ _ (by omega)]; first | assumption | exact va_up_self _ _ _ | (rw [va_up_ne _ _ (by omega)]; first | assumption | exact va_up_self _ _ _)))))) (by rfl) ?_
  refine mx_iload_n (k4 := 1) (mx_d D_C_least 11 rfl) (by rfl) ?_
  refine mx_aald hG 4 (j) (mx_d D_C_least 12 rfl) (by first | assumption | omega) (by first | assumption | exact va_up_self _ _ _ | (rw [va_up_ne _ _ (by omega)]; first | assumption | exact va_up_self _ _ _ | (rw [va_up_ne _ _ (by omega)]; first | assumption | exact va_up_self _ _ _ | (rw [va_up_ne _ _ (by omega)]; first | assumption | exact va_up_self _ _ _ | (rw [va_up_ne _ _ (by omega)]; first | assumption | exact va_up_self _ _ _ | (rw [va_up_ne _ _ (by omega)]; first | assumption | exact va_up_self _ _ _)))))) (by rfl) (by rfl) (by rfl) (by omega) (by omega) (show _ = some (mx_B G + (15 + 2 * j)) by exact if_pos (by omega)) ?_
  refine mx_iload_n (k4 := 2) (mx_d D_C_least 13 rfl) (by rfl) ?_
  refine mx_iload_n (k4 := 3) (mx_d D_C_least 14 rfl) (by rfl) ?_
  refine mx_callV hG (Y' := Y_L_choose) (ci := 3) [_, _, _] (mx_d D_C_least 15 rfl) in_L_choose w_498 w_499 s_L_choose (by rfl) np_L_choose (by exact Nat.le_of_ble_eq_true rfl) (by rfl) (by first | assumption | omega) (by first | assumption | exact va_up_self _ _ _ | (rw [va_up_ne _ _ (by omega)]; first | assumption | exact va_up_self _ _ _ | (rw [va_up_ne _ _ (by omega)]; first | assumption | exact va_up_self _ _ _ | (rw [va_up_ne _ _ (by omega)]; first | assumption | exact va_up_self _ _ _ | (rw [va_up_ne _ _ (by omega)]; first | assumption | exact va_up_self _ _ _ | (rw [va_up_ne _ _ (by omega)]; first | assumption | exact va_up_self _ _ _)))))) (by rfl) (by exact Nat.le_of_ble_eq_true rfl) (c_L_choose hG (by omega) (by omega) (by omega) (by omega) (by omega) (by omega) (by omega) (by omega) (by omega) (by omega) l1 l2 l3 l4 (by omega) (by omega) (by omega) (by omega) (by omega) g1 g2 (hDW j (by omega)) (by omega) (by omega) (by omega) (by omega) (fun ce' lc' lf' ll' k1 k2 k3 k4 k5 k6 k7 => ?_))
  have c0' : ce' 0 = _ := (k1 0 (by omega) (by omega) (by omega) (by omega)).trans c0
  refine mx_aload_n (k4 := 0) (mx_d D_C_least 16 rfl) (by rfl) ?_
  refine mx_getf hG (idx := 45) (ci := 0) (kf := 4) (mx_d D_C_least 17 rfl) (by rfl) cls_C (by decide) w_153 (by first | assumption | omega) (by first | assumption | exact va_up_self _ _ _ | (rw [va_up_ne _ _ (by omega)]; first | assumption | exact va_up_self _ _ _ | (rw [va_up_ne _ _ (by omega)]; first | assumption | exact va_up_self _ _ _ | (rw [va_up_ne _ _ (by omega)]; first | assumption | exact va_up_self _ _ _ | (rw [va_up_ne _ _ (by omega)]; first | assumption | exact va_up_self _ _ _ | (rw [va_up_ne _ _ (by omega)]; first | assumption | exact va_up_self _ _ _)))))) (by rfl) ?_
  refine mx_getf hG (idx := 176) (ci := 3) (kf := 3) (mx_d D_C_least 18 rfl) (by rfl) cls_L (by decide) w_86 (by first | assumption | omega) (by first | assumption | exact va_up_self _ _ _ | (rw [va_up_ne _ _ (by omega)]; first | assumption | exact va_up_self _ _ _ | (rw [va_up_ne _ _ (by omega)]; first | assumption | exact va_up_self _ _ _ | (rw [va_up_ne _ _ (by omega)]; first | assumption | exact va_up_self _ _ _ | (rw [va_up_ne _ _ (by omega)]; first | assumption | exact va_up_self _ _ _ | (rw [va_up_ne _ _ (by omega)]; first | assumption | exact va_up_self _ _ _)))))) (by rfl) ?_
  refine mx_iret (by rfl) (mx_d D_C_least 19 rfl) ?_
  refine q2 ce' j lc' rfl (by omega) h6 k7 ⟨⟨hY, hU, hE, hD, hrA, hrS, hEA, hES, hDA, hDS, hDz, hDW, hrN, hrn, hpN, hps⟩, c0', (k1 1 (by omega) (by omega) (by omega) (by omega)).trans c1, (k1 14 (by omega) (by omega) (by omega) (by omega)).trans c14, csE_fr cE (fun k _ _ => k1 k (by omega) (by omega) (by omega) (by omega)), csD_fr cD (fun k _ _ => k1 k (by omega) (by omega) (by omega) (by omega)), ⟨k2, k3, lf', ll', k4, k5, k6⟩, csR_fr cR (fun k _ _ => k1 k (by omega) (by omega) (by omega) (by omega)), csP_fr cP (fun k _ _ => k1 k (by omega) (by omega) (by omega) (by omega)), csT_fr cT (fun k _ _ => k1 k (by omega) (by omega) (by omega) (by omega))⟩ (fun k hk => k1 k (by omega) (by omega) (by omega) (by omega))
theorem c_C_span (hG : mx_ok G) (hN : 50 ≤ N) (hC : CS G Y U nE iE nD rA rS eA eS dA dS dW lc rn rg rN ps pN ce) {k z : Int} (k1 : -2147483648 ≤ k) (k2 : k < 2147483648) (z1 : -2147483648 ≤ z) (z2 : z < 2147483648)
    (q0 : ¬ ((0 ≤ k ∧ k < (bgN lc Y : Nat)) ∧ 0 ≤ z ∧ z ≤ 1) → Q (.inr xI) N ce bc bs)
    (q2 : ∀ j F L : Nat, k = j → j < bgN lc Y → spOf lc Y j F L → (z = 0 ∨ z = 1) → Q (.inl (some (.int (iI (if z = 0 then (F : Int) else (L : Int)))))) N ce bc bs) : mx_M G Y_C_span (d + 6) (bc + 1) (bs + 6) false N ce 0 [(0, .ref (mx_B G + 0)), (1, .int (iI k)), (2, .int (iI z))] [] Q := by
  obtain ⟨⟨hY, hU, hE, hD, hrA, hrS, hEA, hES, hDA, hDS, hDz, hDW, hrN, hrn, hpN, hps⟩, c0, c1, c14, cE, cD, cL, cR, cP, cT⟩ := hC
  obtain ⟨l1, l2, lf, ll, l3, l4, l5⟩ := cL
  have hb := bgN_le lc Y
  have thr : ¬ (0 ≤ k ∧ k < (bgN lc Y : Nat)) → ∀ {l9 : List (Nat × Value)}, mx_M G Y_C_span (d + 6) (bc + 1) (bs + 6) false N ce 15 l9 [] Q := by
    intro h l9
    refine mx_throw hG ["java/lang/RuntimeException", "java/lang/Exception"] (E := "java/lang/IndexOutOfBoundsException") (tx := "no such span") (mx_d D_C_span 7 rfl) (mx_d D_C_span 8 rfl) (mx_d D_C_span 9 rfl) (mx_d D_C_span 10 rfl) (mx_d D_C_span 11 rfl) (by decide) (by decide) (by decide) w_260 w_13 w_261 (by decide) th_102 (by rfl) (by exact Nat.le_of_ble_eq_true rfl) ?_
    exact q0 (fun z => h z.1)
  have thr2 : ¬ (0 ≤ z ∧ z ≤ 1) → ∀ {l9 : List (Nat × Value)}, mx_M G Y_C_span (d + 6) (bc + 1) (bs + 6) false N ce 34 l9 [] Q := by
    intro h l9
    refine mx_throw hG ["java/lang/RuntimeException", "java/lang/Exception"] (E := "java/lang/IndexOutOfBoundsException") (tx := "no such end") (mx_d D_C_span 17 rfl) (mx_d D_C_span 18 rfl) (mx_d D_C_span 19 rfl) (mx_d D_C_span 20 rfl) (mx_d D_C_span 21 rfl) (by decide) (by decide) (by decide) w_260 w_13 w_261 (by decide) th_102 (by rfl) (by exact Nat.le_of_ble_eq_true rfl) ?_
    exact q0 (fun z => h z.2)
  refine mx_iload_n (k4 := 1) (mx_d D_C_span 0 rfl) (by rfl) ?_
  by_cases h1 : k < 0
  · refine mx_if_ltY 15 (mx_d D_C_span 1 rfl) (by decide) (by omega) (by omega) (by omega) ?_
    exact thr (by omega)
  · refine mx_if_ltN 15 (mx_d D_C_span 1 rfl) (by decide) (by omega) (by omega) (by omega) ?_
    refine mx_iload_n (k4 := 1) (mx_d D_C_span 2 rfl) (by rfl) ?_
    refine mx_aload_n (k4 := 0) (mx_d D_C_span 3 rfl) (by rfl) ?_
    refine mx_getf hG (idx := 45) (ci := 0) (kf := 4) (mx_d D_C_span 4 rfl) (by rfl) cls_C (by decide) w_153 (by first | assumption | omega) (by first | assumption | exact va_up_self _ _ _ | (rw [va_up_ne _ _ (by omega)]; first | assumption | exact va_up_self _ _ _ | (rw [va_up_ne _ _ (by omega)]; first | assumption | exact va_up_self _ _ _ | (rw [va_up_ne _ _ (by omega)]; first | assumption | exact va_up_self _ _ _ | (rw [va_up_ne _ _ (by omega)]; first | assumption | exact va_up_self _ _ _ | (rw [va_up_ne _ _ (by omega)]; first | assumption | exact va_up_self _ _ _)))))) (by rfl) ?_
    refine mx_getf hG (idx := 176) (ci := 3) (kf := 3) (mx_d D_C_span 5 rfl) (by rfl) cls_L (by decide) w_86 (by first | assumption | omega) (by first | assumption | exact va_up_self _ _ _ | (rw [va_up_ne _ _ (by omega)]; first | assumption | exact va_up_self _ _ _ | (rw [va_up_ne _ _ (by omega)]; first | assumption | exact va_up_self _ _ _ | (rw [va_up_ne _ _ (by omega)]; first | assumption | exact va_up_self _ _ _ | (rw [va_up_ne _ _ (by omega)]; first | assumption | exact va_up_self _ _ _ | (rw [va_up_ne _ _ (by omega)]; first | assumption | exact va_up_self _ _ _)))))) (by rfl) ?_
    by_cases h2 : k < (bgN lc Y : Nat)
    · refine mx_icmp_ltY 25 (mx_d D_C_span 6 rfl) (by decide) (by omega) (by omega) (by omega) (by omega) (by omega) ?_
      refine mx_iload_n (k4 := 2) (mx_d D_C_span 12 rfl) (by rfl) ?_
      by_cases h3 : z < 0
      · refine mx_if_ltY 34 (mx_d D_C_span 13 rfl) (by decide) (by omega) (by omega) (by omega) ?_
        exact thr2 (by omega)
      · refine mx_if_ltN 34 (mx_d D_C_span 13 rfl) (by decide) (by omega) (by omega) (by omega) ?_
        refine mx_iload_n (k4 := 2) (mx_d D_C_span 14 rfl) (by rfl) ?_
        refine mx_iconst (n := 1) (mx_d D_C_span 15 rfl) ?_
        by_cases h4 : z ≤ 1
        · refine mx_icmp_leY 44 (mx_d D_C_span 16 rfl) (by decide) (by omega) (by omega) (by omega) (by omega) (by omega) ?_
          refine mx_bud (Nat.le_succ bc) (Nat.le_add_right bs 6) ?_
          obtain ⟨j, rfl⟩ : ∃ j : Nat, k = j := ⟨k.toNat, by omega⟩
          obtain ⟨F, L, f1, f2, f3⟩ := l5 j (by omega)
          have q9 := q2 j F L rfl (by omega) f3 (by omega)
          refine mx_iload_n (k4 := 2) (mx_d D_C_span 22 rfl) (by rfl) ?_
          by_cases h5 : z = 0
          · refine mx_if_neN 60 (mx_d D_C_span 23 rfl) (by decide) (by omega) (by omega) (by omega) ?_
            refine mx_aload_n (k4 := 0) (mx_d D_C_span 24 rfl) (by rfl) ?_
            refine mx_getf hG (idx := 45) (ci := 0) (kf := 4) (mx_d D_C_span 25 rfl) (by rfl) cls_C (by decide) w_153 (by first | assumption | omega) (by first | assumption | exact va_up_self _ _ _ | (rw [va_up_ne _ _ (by omega)]; first | assumption | exact va_up_self _ _ _ | (rw [va_up_ne _ _ (by omega)]; first | assumption | exact va_up_self _ _ _ | (rw [va_up_ne _ _ (by omega)]; first | assumption | exact va_up_self _ _ _ | (rw [va_up_ne _ _ (by omega)]; first | assumption | exact va_up_self _ _ _ | (rw [va_up_ne _ _ (by omega)]; first | assumption | exact va_up_self _ _ _)))))) (by rfl) ?_
            refine mx_getf hG (idx := 183) (ci := 3) (kf := 1) (mx_d D_C_span 26 rfl) (by rfl) cls_L (by decide) w_82 (by first | assumption | omega) (by first | assumption | exact va_up_self _ _ _ | (rw [va_up_ne _ _ (by omega)]; first | assumption | exact va_up_self _ _ _ | (rw [va_up_ne _ _ (by omega)]; first | assumption | exact va_up_self _ _ _ | (rw [va_up_ne _ _ (by omega)]; first | assumption | exact va_up_self _ _ _ | (rw [va_up_ne _ _ (by omega)]; first | assumption | exact va_up_self _ _ _ | (rw [va_up_ne _ _ (by omega)]; first | assumption | exact va_up_self _ _ _)))))) (by rfl) ?_
            refine mx_iload_n (k4 := 1) (mx_d D_C_span 27 rfl) (by rfl) ?_
            refine mx_ialdI hG _ (mx_d D_C_span 28 rfl) (by first | assumption | omega) (by first | assumption | exact va_up_self _ _ _ | (rw [va_up_ne _ _ (by omega)]; first | assumption | exact va_up_self _ _ _ | (rw [va_up_ne _ _ (by omega)]; first | assumption | exact va_up_self _ _ _ | (rw [va_up_ne _ _ (by omega)]; first | assumption | exact va_up_self _ _ _ | (rw [va_up_ne _ _ (by omega)]; first | assumption | exact va_up_self _ _ _ | (rw [va_up_ne _ _ (by omega)]; first | assumption | exact va_up_self _ _ _)))))) (by rfl) (by omega) (by omega) ?_
            refine mx_goto 69 (mx_d D_C_span 29 rfl) (by decide) ?_
            refine mx_iret (by rfl) (mx_d D_C_span 35 rfl) ?_
            rw [if_pos h5] at q9
            rw [f1]
            exact q9
          · refine mx_if_neY 60 (mx_d D_C_span 23 rfl) (by decide) (by omega) (by omega) (by omega) ?_
            refine mx_aload_n (k4 := 0) (mx_d D_C_span 30 rfl) (by rfl) ?_
            refine mx_getf hG (idx := 45) (ci := 0) (kf := 4) (mx_d D_C_span 31 rfl) (by rfl) cls_C (by decide) w_153 (by first | assumption | omega) (by first | assumption | exact va_up_self _ _ _ | (rw [va_up_ne _ _ (by omega)]; first | assumption | exact va_up_self _ _ _ | (rw [va_up_ne _ _ (by omega)]; first | assumption | exact va_up_self _ _ _ | (rw [va_up_ne _ _ (by omega)]; first | assumption | exact va_up_self _ _ _ | (rw [va_up_ne _ _ (by omega)]; first | assumption | exact va_up_self _ _ _ | (rw [va_up_ne _ _ (by omega)]; first | assumption | exact va_up_self _ _ _)))))) (by rfl) ?_
            refine mx_getf hG (idx := 186) (ci := 3) (kf := 2) (mx_d D_C_span 32 rfl) (by rfl) cls_L (by decide) w_84 (by first | assumption | omega) (by first | assumption | exact va_up_self _ _ _ | (rw [va_up_ne _ _ (by omega)]; first | assumption | exact va_up_self _ _ _ | (rw [va_up_ne _ _ (by omega)]; first | assumption | exact va_up_self _ _ _ | (rw [va_up_ne _ _ (by omega)]; first | assumption | exact va_up_self _ _ _ | (rw [va_up_ne _ _ (by omega)]; first | assumption | exact va_up_self _ _ _ | (rw [va_up_ne _ _ (by omega)]; first | assumption | exact va_up_self _ _ _)))))) (by rfl) ?_
            refine mx_iload_n (k4 := 1) (mx_d D_C_span 33 rfl) (by rfl) ?_
            refine mx_ialdI hG _ (mx_d D_C_span 34 rfl) (by first | assumption | omega) (by first | assumption | exact va_up_self _ _ _ | (rw [va_up_ne _ _ (by omega)]; first | assumption | exact va_up_self _ _ _ | (rw [va_up_ne _ _ (by omega)]; first | assumption | exact va_up_self _ _ _ | (rw [va_up_ne _ _ (by omega)]; first | assumption | exact va_up_self _ _ _ | (rw [va_up_ne _ _ (by omega)]; first | assumption | exact va_up_self _ _ _ | (rw [va_up_ne _ _ (by omega)]; first | assumption | exact va_up_self _ _ _)))))) (by rfl) (by omega) (by omega) ?_
            refine mx_iret (by rfl) (mx_d D_C_span 35 rfl) ?_
            rw [if_neg h5] at q9
            rw [f2]
            exact q9
        · refine mx_icmp_leN 44 (mx_d D_C_span 16 rfl) (by decide) (by omega) (by omega) (by omega) (by omega) (by omega) ?_
          exact thr2 (by omega)
    · refine mx_icmp_ltN 25 (mx_d D_C_span 6 rfl) (by decide) (by omega) (by omega) (by omega) (by omega) (by omega) ?_
      exact thr (by omega)
theorem c_C_gap (hG : mx_ok G) (hN : 50 ≤ N) (hC : CS G Y U nE iE nD rA rS eA eS dA dS dW lc rn rg rN ps pN ce) {i z : Int} (i1 : -2147483648 ≤ i) (i2 : i < 2147483648) (z1 : -2147483648 ≤ z) (z2 : z < 2147483648)
    (q0 : ¬ (0 ≤ i ∧ i < nD) → Q (.inr xI) N ce bc bs) (q1 : (0 ≤ i ∧ i < nD) → ¬ (0 ≤ z ∧ z ≤ 59) → Q (.inr xA) N ce bc bs) (q2 : (0 ≤ i ∧ i < nD) → (0 ≤ z ∧ z ≤ 59) → ¬ rN < 8 → Q (.inr xS) N ce bc bs)
    (q3 : ∀ ce' (j g : Nat), i = j → z = g → j < nD → g ≤ 59 → rN < 8 → CS G Y U nE iE nD rA rS eA eS dA dS dW lc (va_up rn rN j) (va_up rg rN g) (rN + 1) ps pN ce' → (∀ k, 50 ≤ k → ce' k = ce k) → Q (.inl (some (.int (iI ((rN + 1 : Nat) : Int))))) N ce' bc bs) : mx_M G Y_C_gap (d + 6) (bc + 1) (bs + 6) false N ce 0 [(0, .ref (mx_B G + 0)), (1, .int (iI i)), (2, .int (iI z))] [] Q := by
  obtain ⟨⟨hY, hU, hE, hD, hrA, hrS, hEA, hES, hDA, hDS, hDz, hDW, hrN, hrn, hpN, hps⟩, c0, c1, c14, cE, cD, cL, cR, cP, cT⟩ := hC
  obtain ⟨r1, r2, r3⟩ := cR
  refine mx_aload_n (k4 := 0) (mx_d D_C_gap 0 rfl) (by rfl) ?_
  refine mx_iload_n (k4 := 1) (mx_d D_C_gap 1 rfl) (by rfl) ?_
  refine mx_callV hG (Y' := Y_C_needDate) (ci := 0) [_] (mx_d D_C_gap 2 rfl) in_C_needDate w_428 w_430 s_C_needDate (by rfl) np_C_needDate (by exact Nat.le_of_ble_eq_true rfl) (by rfl) (by first | assumption | omega) (by first | assumption | exact va_up_self _ _ _ | (rw [va_up_ne _ _ (by omega)]; first | assumption | exact va_up_self _ _ _ | (rw [va_up_ne _ _ (by omega)]; first | assumption | exact va_up_self _ _ _ | (rw [va_up_ne _ _ (by omega)]; first | assumption | exact va_up_self _ _ _ | (rw [va_up_ne _ _ (by omega)]; first | assumption | exact va_up_self _ _ _ | (rw [va_up_ne _ _ (by omega)]; first | assumption | exact va_up_self _ _ _)))))) (by rfl) (by exact Nat.le_of_ble_eq_true rfl) (c_needDate hG hN c0 hD i1 i2 q0 (fun h1 h2 => ?_))
  have thr : ¬ (0 ≤ z ∧ z ≤ 59) → ∀ {l9 : List (Nat × Value)}, mx_M G Y_C_gap (d + 6) (bc + 1) (bs + 6) false N ce 15 l9 [] Q := by
    intro h l9
    refine mx_throw hG ["java/lang/RuntimeException", "java/lang/Exception"] (E := "java/lang/IllegalArgumentException") (tx := "a gap is 0 .. 59") (mx_d D_C_gap 8 rfl) (mx_d D_C_gap 9 rfl) (mx_d D_C_gap 10 rfl) (mx_d D_C_gap 11 rfl) (mx_d D_C_gap 12 rfl) (by decide) (by decide) (by decide) w_331 w_14 w_332 (by decide) th_107 (by rfl) (by exact Nat.le_of_ble_eq_true rfl) ?_
    exact q1 ⟨h1, h2⟩ h
  refine mx_iload_n (k4 := 2) (mx_d D_C_gap 3 rfl) (by rfl) ?_
  by_cases h3 : z < 0
  · refine mx_if_ltY 15 (mx_d D_C_gap 4 rfl) (by decide) (by omega) (by omega) (by omega) ?_
    exact thr (by omega)
  · refine mx_if_ltN 15 (mx_d D_C_gap 4 rfl) (by decide) (by omega) (by omega) (by omega) ?_
    refine mx_iload_n (k4 := 2) (mx_d D_C_gap 5 rfl) (by rfl) ?_
    refine mx_bipush (n := 59) (mx_d D_C_gap 6 rfl) (by decide) ?_
    by_cases h4 : z ≤ 59
    · refine mx_icmp_leY 25 (mx_d D_C_gap 7 rfl) (by decide) (by omega) (by omega) (by omega) (by omega) (by omega) ?_
      refine mx_aload_n (k4 := 0) (mx_d D_C_gap 13 rfl) (by rfl) ?_
      refine mx_getf hG (idx := 52) (ci := 0) (kf := 5) (mx_d D_C_gap 14 rfl) (by rfl) cls_C (by decide) w_154 (by first | assumption | omega) (by first | assumption | exact va_up_self _ _ _ | (rw [va_up_ne _ _ (by omega)]; first | assumption | exact va_up_self _ _ _ | (rw [va_up_ne _ _ (by omega)]; first | assumption | exact va_up_self _ _ _ | (rw [va_up_ne _ _ (by omega)]; first | assumption | exact va_up_self _ _ _ | (rw [va_up_ne _ _ (by omega)]; first | assumption | exact va_up_self _ _ _ | (rw [va_up_ne _ _ (by omega)]; first | assumption | exact va_up_self _ _ _)))))) (by rfl) ?_
      refine mx_getf hG (idx := 191) (ci := 4) (kf := 2) (mx_d D_C_gap 15 rfl) (by rfl) cls_R (by decide) w_106 (by first | assumption | omega) (by first | assumption | exact va_up_self _ _ _ | (rw [va_up_ne _ _ (by omega)]; first | assumption | exact va_up_self _ _ _ | (rw [va_up_ne _ _ (by omega)]; first | assumption | exact va_up_self _ _ _ | (rw [va_up_ne _ _ (by omega)]; first | assumption | exact va_up_self _ _ _ | (rw [va_up_ne _ _ (by omega)]; first | assumption | exact va_up_self _ _ _ | (rw [va_up_ne _ _ (by omega)]; first | assumption | exact va_up_self _ _ _)))))) (by rfl) ?_
      refine mx_bipush (n := 8) (mx_d D_C_gap 16 rfl) (by decide) ?_
      by_cases h5 : rN < 8
      · refine mx_icmp_ltY 47 (mx_d D_C_gap 17 rfl) (by decide) (by omega) (by omega) (by omega) (by omega) (by omega) ?_
        refine mx_bud (Nat.le_succ bc) (Nat.le_add_right bs 6) ?_
        obtain ⟨j, rfl⟩ : ∃ j : Nat, i = j := ⟨i.toNat, by omega⟩
        obtain ⟨g, rfl⟩ : ∃ g : Nat, z = g := ⟨z.toNat, by omega⟩
        refine mx_aload_n (k4 := 0) (mx_d D_C_gap 23 rfl) (by rfl) ?_
        refine mx_getf hG (idx := 52) (ci := 0) (kf := 5) (mx_d D_C_gap 24 rfl) (by rfl) cls_C (by decide) w_154 (by first | assumption | omega) (by first | assumption | exact va_up_self _ _ _ | (rw [va_up_ne _ _ (by omega)]; first | assumption | exact va_up_self _ _ _ | (rw [va_up_ne _ _ (by omega)]; first | assumption | exact va_up_self _ _ _ | (rw [va_up_ne _ _ (by omega)]; first | assumption | exact va_up_self _ _ _ | (rw [va_up_ne _ _ (by omega)]; first | assumption | exact va_up_self _ _ _ | (rw [va_up_ne _ _ (by omega)]; first | assumption | exact va_up_self _ _ _)))))) (by rfl) ?_
        refine mx_iload_n (k4 := 1) (mx_d D_C_gap 25 rfl) (by rfl) ?_
        refine mx_iload_n (k4 := 2) (mx_d D_C_gap 26 rfl) (by rfl) ?_
        refine mx_callV hG (Y' := Y_R_append) (ci := 4) [_, _] (mx_d D_C_gap 27 rfl) in_R_append w_533 w_534 s_R_append (by rfl) np_R_append (by exact Nat.le_of_ble_eq_true rfl) (by rfl) (by first | assumption | omega) (by first | assumption | exact va_up_self _ _ _ | (rw [va_up_ne _ _ (by omega)]; first | assumption | exact va_up_self _ _ _ | (rw [va_up_ne _ _ (by omega)]; first | assumption | exact va_up_self _ _ _ | (rw [va_up_ne _ _ (by omega)]; first | assumption | exact va_up_self _ _ _ | (rw [va_up_ne _ _ (by omega)]; first | assumption | exact va_up_self _ _ _ | (rw [va_up_ne _ _ (by omega)]; first | assumption | exact va_up_self _ _ _)))))) (by rfl) (by exact Nat.le_of_ble_eq_true rfl) (c_R_append hG (by omega) (by omega) (by omega) (by omega) (by omega) (by omega) r1 r2 r3 h5 ?_)
        refine mx_aload_n (k4 := 0) (mx_d D_C_gap 28 rfl) (by rfl) ?_
        refine mx_getf hG (idx := 52) (ci := 0) (kf := 5) (mx_d D_C_gap 29 rfl) (by rfl) cls_C (by decide) w_154 (by first | assumption | omega) (by first | assumption | exact va_up_self _ _ _ | (rw [va_up_ne _ _ (by omega)]; first | assumption | exact va_up_self _ _ _ | (rw [va_up_ne _ _ (by omega)]; first | assumption | exact va_up_self _ _ _ | (rw [va_up_ne _ _ (by omega)]; first | assumption | exact va_up_self _ _ _ | (rw [va_up_ne _ _ (by omega)]; first | assumption | exact va_up_self _ _ _ | (rw [va_up_ne _ _ (by omega)]; first | assumption | exact va_up_self _ _ _)))))) (by rfl) ?_
        refine mx_getf hG (idx := 191) (ci := 4) (kf := 2) (mx_d D_C_gap 30 rfl) (by rfl) cls_R (by decide) w_106 (by first | assumption | omega) (by first | assumption | exact va_up_self _ _ _ | (rw [va_up_ne _ _ (by omega)]; first | assumption | exact va_up_self _ _ _ | (rw [va_up_ne _ _ (by omega)]; first | assumption | exact va_up_self _ _ _ | (rw [va_up_ne _ _ (by omega)]; first | assumption | exact va_up_self _ _ _ | (rw [va_up_ne _ _ (by omega)]; first | assumption | exact va_up_self _ _ _ | (rw [va_up_ne _ _ (by omega)]; first | assumption | exact va_up_self _ _ _)))))) (by rfl) ?_
        refine mx_iret (by rfl) (mx_d D_C_gap 31 rfl) ?_
        refine q3 _ j g rfl rfl (by omega) (by omega) h5 ⟨⟨hY, hU, hE, hD, hrA, hrS, hEA, hES, hDA, hDS, hDz, hDW, by omega, fun i hi => ?_, hpN, hps⟩, ?_, ?_, ?_, csE_fr cE (fun k _ _ => ?_), csD_fr cD (fun k _ _ => ?_), csL_fr cL (fun k _ _ => ?_), ⟨va_up_self _ _ _, ?_, ?_⟩, csP_fr cP (fun k _ _ => ?_), csT_fr cT (fun k _ _ => ?_)⟩ (fun k hk => ?_)
        · by_cases e : i = rN
          · subst e; rw [va_up_self, va_up_self]; exact ⟨by omega, by omega⟩
          · rw [va_up_ne _ _ e, va_up_ne _ _ e]; exact hrn i (by omega)
        · rw [va_up_ne _ _ (by omega), va_up_ne _ _ (by omega), va_up_ne _ _ (by omega)]; exact c0
        · rw [va_up_ne _ _ (by omega), va_up_ne _ _ (by omega), va_up_ne _ _ (by omega)]; exact c1
        · rw [va_up_ne _ _ (by omega), va_up_ne _ _ (by omega), va_up_ne _ _ (by omega)]; exact c14
        · rw [va_up_ne _ _ (by omega), va_up_ne _ _ (by omega), va_up_ne _ _ (by omega)]
        · rw [va_up_ne _ _ (by omega), va_up_ne _ _ (by omega), va_up_ne _ _ (by omega)]
        · rw [va_up_ne _ _ (by omega), va_up_ne _ _ (by omega), va_up_ne _ _ (by omega)]
        · rw [va_up_ne _ _ (by omega), va_up_ne _ _ (by omega), va_up_self]
        · rw [va_up_ne _ _ (by omega), va_up_self]
        all_goals rw [va_up_ne _ _ (by omega), va_up_ne _ _ (by omega), va_up_ne _ _ (by omega)]
      · refine mx_icmp_ltN 47 (mx_d D_C_gap 17 rfl) (by decide) (by omega) (by omega) (by omega) (by omega) (by omega) ?_
        refine mx_throw hG ["java/lang/RuntimeException", "java/lang/Exception"] (E := "java/lang/IllegalStateException") (tx := "the row has eight dates") (mx_d D_C_gap 18 rfl) (mx_d D_C_gap 19 rfl) (mx_d D_C_gap 20 rfl) (mx_d D_C_gap 21 rfl) (mx_d D_C_gap 22 rfl) (by decide) (by decide) (by decide) w_356 w_15 w_357 (by decide) th_91 (by rfl) (by exact Nat.le_of_ble_eq_true rfl) ?_
        exact q2 ⟨h1, h2⟩ (by omega) h5
    · refine mx_icmp_leN 25 (mx_d D_C_gap 7 rfl) (by decide) (by omega) (by omega) (by omega) (by omega) (by omega) ?_
      exact thr (by omega)
theorem c_C_slid (hG : mx_ok G) (hN : 50 ≤ N) (hC : CS G Y U nE iE nD rA rS eA eS dA dS dW lc rn rg rN ps pN ce) {y : Int} (y1 : -2147483648 ≤ y) (y2 : y < 2147483648)
    (q0 : ¬ (0 ≤ y ∧ y < Y) → Q (.inr xI) N ce bc bs)
    (q2 : ∀ m : Nat, y = m → m < Y → Q (.inl (some (.int (iI (slTo Y dW rn rg m rN))))) N ce bc bs) : mx_M G Y_C_slid (d + 6) (bc + 1) (bs + 6) false N ce 0 [(0, .ref (mx_B G + 0)), (1, .int (iI y))] [] Q := by
  obtain ⟨⟨hY, hU, hE, hD, hrA, hrS, hEA, hES, hDA, hDS, hDz, hDW, hrN, hrn, hpN, hps⟩, c0, c1, c14, cE, cD, cL, cR, cP, cT⟩ := hC
  obtain ⟨r1, r2, r3⟩ := cR
  refine mx_aload_n (k4 := 0) (mx_d D_C_slid 0 rfl) (by rfl) ?_
  refine mx_iload_n (k4 := 1) (mx_d D_C_slid 1 rfl) (by rfl) ?_
  refine mx_callV hG (Y' := Y_C_needYear) (ci := 0) [_] (mx_d D_C_slid 2 rfl) in_C_needYear w_256 w_258 s_C_needYear (by rfl) np_C_needYear (by exact Nat.le_of_ble_eq_true rfl) (by rfl) (by first | assumption | omega) (by first | assumption | exact va_up_self _ _ _ | (rw [va_up_ne _ _ (by omega)]; first | assumption | exact va_up_self _ _ _ | (rw [va_up_ne _ _ (by omega)]; first | assumption | exact va_up_self _ _ _ | (rw [va_up_ne _ _ (by omega)]; first | assumption | exact va_up_self _ _ _ | (rw [va_up_ne _ _ (by omega)]; first | assumption | exact va_up_self _ _ _ | (rw [va_up_ne _ _ (by omega)]; first | assumption | exact va_up_self _ _ _)))))) (by rfl) (by exact Nat.le_of_ble_eq_true rfl) (c_needYear hG hN c0 hY.2 y1 y2 q0 (fun h1 h2 => ?_))
  refine mx_bud (Nat.le_succ bc) (Nat.le_add_right bs 6) ?_
  obtain ⟨m, rfl⟩ : ∃ m : Nat, y = m := ⟨y.toNat, by omega⟩
  refine mx_aload_n (k4 := 0) (mx_d D_C_slid 3 rfl) (by rfl) ?_
  refine mx_getf hG (idx := 52) (ci := 0) (kf := 5) (mx_d D_C_slid 4 rfl) (by rfl) cls_C (by decide) w_154 (by first | assumption | omega) (by first | assumption | exact va_up_self _ _ _ | (rw [va_up_ne _ _ (by omega)]; first | assumption | exact va_up_self _ _ _ | (rw [va_up_ne _ _ (by omega)]; first | assumption | exact va_up_self _ _ _ | (rw [va_up_ne _ _ (by omega)]; first | assumption | exact va_up_self _ _ _ | (rw [va_up_ne _ _ (by omega)]; first | assumption | exact va_up_self _ _ _ | (rw [va_up_ne _ _ (by omega)]; first | assumption | exact va_up_self _ _ _)))))) (by rfl) ?_
  refine mx_iload_n (k4 := 1) (mx_d D_C_slid 5 rfl) (by rfl) ?_
  refine mx_aload_n (k4 := 0) (mx_d D_C_slid 6 rfl) (by rfl) ?_
  refine mx_getf hG (idx := 37) (ci := 0) (kf := 3) (mx_d D_C_slid 7 rfl) (by rfl) cls_C (by decide) w_152 (by first | assumption | omega) (by first | assumption | exact va_up_self _ _ _ | (rw [va_up_ne _ _ (by omega)]; first | assumption | exact va_up_self _ _ _ | (rw [va_up_ne _ _ (by omega)]; first | assumption | exact va_up_self _ _ _ | (rw [va_up_ne _ _ (by omega)]; first | assumption | exact va_up_self _ _ _ | (rw [va_up_ne _ _ (by omega)]; first | assumption | exact va_up_self _ _ _ | (rw [va_up_ne _ _ (by omega)]; first | assumption | exact va_up_self _ _ _)))))) (by rfl) ?_
  refine mx_callV hG (Y' := Y_R_sumAt) (ci := 4) [_, _] (mx_d D_C_slid 8 rfl) in_R_sumAt w_193 w_194 s_R_sumAt (by rfl) np_R_sumAt (by exact Nat.le_of_ble_eq_true rfl) (by rfl) (by first | assumption | omega) (by first | assumption | exact va_up_self _ _ _ | (rw [va_up_ne _ _ (by omega)]; first | assumption | exact va_up_self _ _ _ | (rw [va_up_ne _ _ (by omega)]; first | assumption | exact va_up_self _ _ _ | (rw [va_up_ne _ _ (by omega)]; first | assumption | exact va_up_self _ _ _ | (rw [va_up_ne _ _ (by omega)]; first | assumption | exact va_up_self _ _ _ | (rw [va_up_ne _ _ (by omega)]; first | assumption | exact va_up_self _ _ _)))))) (by rfl) (by exact Nat.le_of_ble_eq_true rfl) (c_R_sumAt hG (by omega) (by omega) (by omega) (by omega) r1 r2 r3 hrN c14 (by omega) (fun i hi => (cD i hi).1) (fun i hi => (cD i hi).2) hY.2 (by omega) (fun i hi => ⟨by have := (hrn i hi).1; omega, (hrn i hi).2⟩) ?_)
  refine mx_iret (by rfl) (mx_d D_C_slid 9 rfl) ?_
  exact q2 m rfl (by omega)
theorem c_C_wiggle (hG : mx_ok G) (hN : 50 ≤ N) (hC : CS G Y U nE iE nD rA rS eA eS dA dS dW lc rn rg rN ps pN ce)
    (q : Q (.inl (some (.int (iI (if rN = 0 then -1 else (bstTo (fun y => slTo Y dW rn rg y rN) Y : Nat)))))) N ce bc bs) : mx_M G Y_C_wiggle (d + 6) bc bs false N ce 0 [(0, .ref (mx_B G + 0))] [] Q := by
  obtain ⟨⟨hY, hU, hE, hD, hrA, hrS, hEA, hES, hDA, hDS, hDz, hDW, hrN, hrn, hpN, hps⟩, c0, c1, c14, cE, cD, cL, cR, cP, cT⟩ := hC
  obtain ⟨r1, r2, r3⟩ := cR
  have call : ∀ {m : Nat}, m < Y → ∀ {Q' : mx_P}, Q' (.inl (some (.int (iI (slTo Y dW rn rg m rN))))) N ce bc bs → mx_M G Y_R_sumAt (d + 5) bc bs false N ce 0 [(0, .ref (mx_B G + 43)), (1, .int (iI m)), (2, .ref (mx_B G + 14))] [] Q' := fun {m} hm {Q'} q' => c_R_sumAt hG (by omega) (by omega) (by omega) (by omega) r1 r2 r3 hrN c14 (by omega) (fun i hi => (cD i hi).1) (fun i hi => (cD i hi).2) hY.2 hm (fun i hi => ⟨by have := (hrn i hi).1; omega, (hrn i hi).2⟩) q'
  have bd : ∀ y, 0 ≤ slTo Y dW rn rg y rN ∧ slTo Y dW rn rg y rN ≤ rN * 1000000 := fun y => slTo_bd hDW (fun i hi => by have := (hrn i hi).1; omega)
  refine mx_aload_n (k4 := 0) (mx_d D_C_wiggle 0 rfl) (by rfl) ?_
  refine mx_getf hG (idx := 52) (ci := 0) (kf := 5) (mx_d D_C_wiggle 1 rfl) (by rfl) cls_C (by decide) w_154 (by first | assumption | omega) (by first | assumption | exact va_up_self _ _ _ | (rw [va_up_ne _ _ (by omega)]; first | assumption | exact va_up_self _ _ _ | (rw [va_up_ne _ _ (by omega)]; first | assumption | exact va_up_self _ _ _ | (rw [va_up_ne _ _ (by omega)]; first | assumption | exact va_up_self _ _ _ | (rw [va_up_ne _ _ (by omega)]; first | assumption | exact va_up_self _ _ _ | (rw [va_up_ne _ _ (by omega)]; first | assumption | exact va_up_self _ _ _)))))) (by rfl) ?_
  refine mx_getf hG (idx := 191) (ci := 4) (kf := 2) (mx_d D_C_wiggle 2 rfl) (by rfl) cls_R (by decide) w_106 (by first | assumption | omega) (by first | assumption | exact va_up_self _ _ _ | (rw [va_up_ne _ _ (by omega)]; first | assumption | exact va_up_self _ _ _ | (rw [va_up_ne _ _ (by omega)]; first | assumption | exact va_up_self _ _ _ | (rw [va_up_ne _ _ (by omega)]; first | assumption | exact va_up_self _ _ _ | (rw [va_up_ne _ _ (by omega)]; first | assumption | exact va_up_self _ _ _ | (rw [va_up_ne _ _ (by omega)]; first | assumption | exact va_up_self _ _ _)))))) (by rfl) ?_
  by_cases hr : rN = 0
  · refine mx_if_neN 12 (mx_d D_C_wiggle 3 rfl) (by decide) (by omega) (by omega) (by omega) ?_
    refine mx_iconst (n := -1) (mx_d D_C_wiggle 4 rfl) ?_
    refine mx_iret (by rfl) (mx_d D_C_wiggle 5 rfl) ?_
    rw [if_pos hr] at q
    exact q
  · refine mx_if_neY 12 (mx_d D_C_wiggle 3 rfl) (by decide) (by omega) (by omega) (by omega) ?_
    rw [if_neg hr] at q
    refine mx_iconst (n := 0) (mx_d D_C_wiggle 6 rfl) ?_
    refine mx_istore_n (k4 := 1) (mx_d D_C_wiggle 7 rfl) (by decide) ?_
    refine mx_aload_n (k4 := 0) (mx_d D_C_wiggle 8 rfl) (by rfl) ?_
    refine mx_getf hG (idx := 52) (ci := 0) (kf := 5) (mx_d D_C_wiggle 9 rfl) (by rfl) cls_C (by decide) w_154 (by first | assumption | omega) (by first | assumption | exact va_up_self _ _ _ | (rw [va_up_ne _ _ (by omega)]; first | assumption | exact va_up_self _ _ _ | (rw [va_up_ne _ _ (by omega)]; first | assumption | exact va_up_self _ _ _ | (rw [va_up_ne _ _ (by omega)]; first | assumption | exact va_up_self _ _ _ | (rw [va_up_ne _ _ (by omega)]; first | assumption | exact va_up_self _ _ _ | (rw [va_up_ne _ _ (by omega)]; first | assumption | exact va_up_self _ _ _)))))) (by rfl) ?_
    refine mx_iconst (n := 0) (mx_d D_C_wiggle 10 rfl) ?_
    refine mx_aload_n (k4 := 0) (mx_d D_C_wiggle 11 rfl) (by rfl) ?_
    refine mx_getf hG (idx := 37) (ci := 0) (kf := 3) (mx_d D_C_wiggle 12 rfl) (by rfl) cls_C (by decide) w_152 (by first | assumption | omega) (by first | assumption | exact va_up_self _ _ _ | (rw [va_up_ne _ _ (by omega)]; first | assumption | exact va_up_self _ _ _ | (rw [va_up_ne _ _ (by omega)]; first | assumption | exact va_up_self _ _ _ | (rw [va_up_ne _ _ (by omega)]; first | assumption | exact va_up_self _ _ _ | (rw [va_up_ne _ _ (by omega)]; first | assumption | exact va_up_self _ _ _ | (rw [va_up_ne _ _ (by omega)]; first | assumption | exact va_up_self _ _ _)))))) (by rfl) ?_
    refine mx_callV hG (Y' := Y_R_sumAt) (ci := 4) [_, _] (mx_d D_C_wiggle 13 rfl) in_R_sumAt w_193 w_194 s_R_sumAt (by rfl) np_R_sumAt (by exact Nat.le_of_ble_eq_true rfl) (by rfl) (by first | assumption | omega) (by first | assumption | exact va_up_self _ _ _ | (rw [va_up_ne _ _ (by omega)]; first | assumption | exact va_up_self _ _ _ | (rw [va_up_ne _ _ (by omega)]; first | assumption | exact va_up_self _ _ _ | (rw [va_up_ne _ _ (by omega)]; first | assumption | exact va_up_self _ _ _ | (rw [va_up_ne _ _ (by omega)]; first | assumption | exact va_up_self _ _ _ | (rw [va_up_ne _ _ (by omega)]; first | assumption | exact va_up_self _ _ _)))))) (by rfl) (by exact Nat.le_of_ble_eq_true rfl) (call (m := 0) (by omega) ?_)
    refine mx_istore_n (k4 := 2) (mx_d D_C_wiggle 14 rfl) (by decide) ?_
    refine mx_iconst (n := 1) (mx_d D_C_wiggle 15 rfl) ?_
    refine mx_istore_n (k4 := 3) (mx_d D_C_wiggle 16 rfl) (by decide) ?_
    suffices H : ∀ k i : Nat, i + k = Y → 0 < i → mx_M G Y_C_wiggle (d + 6) bc bs false N ce 29 [(0, .ref (mx_B G + 0)), (1, .int (iI (bstTo (fun y => slTo Y dW rn rg y rN) i : Nat))), (2, .int (iI (slTo Y dW rn rg (bstTo (fun y => slTo Y dW rn rg y rN) i) rN))), (3, .int (iI i))] [] Q from mx_loc (by rw [show bstTo (fun y => slTo Y dW rn rg y rN) 1 = 0 from by simp [bstTo]]; rfl) (H (Y - 1) 1 (by omega) (by omega))
    intro k
    induction k with
    | zero =>
      intro i hi h0
      obtain rfl : i = Y := by omega
      refine mx_iload_n (k4 := 3) (mx_d D_C_wiggle 17 rfl) (by rfl) ?_
      refine mx_aload_n (k4 := 0) (mx_d D_C_wiggle 18 rfl) (by rfl) ?_
      refine mx_getf hG (idx := 18) (ci := 0) (kf := 0) (mx_d D_C_wiggle 19 rfl) (by rfl) cls_C (by decide) w_149 (by first | assumption | omega) (by first | assumption | exact va_up_self _ _ _ | (rw [va_up_ne _ _ (by omega)]; first | assumption | exact va_up_self _ _ _ | (rw [va_up_ne _ _ (by omega)]; first | assumption | exact va_up_self _ _ _ | (rw [va_up_ne _ _ (by omega)]; first | assumption | exact va_up_self _ _ _ | (rw [va_up_ne _ _ (by omega)]; first | assumption | exact va_up_self _ _ _ | (rw [va_up_ne _ _ (by omega)]; first | assumption | exact va_up_self _ _ _)))))) (by rfl) ?_
      refine mx_icmp_geY 68 (mx_d D_C_wiggle 20 rfl) (by decide) (by omega) (by omega) (by omega) (by omega) (by omega) ?_
      refine mx_iload_n (k4 := 1) (mx_d D_C_wiggle 37 rfl) (by rfl) ?_
      refine mx_iret (by rfl) (mx_d D_C_wiggle 38 rfl) ?_
      exact q
    | succ k ih =>
      intro i hi h0
      have b1 := bd i
      have b2 := bd (bstTo (fun y => slTo Y dW rn rg y rN) i)
      refine mx_iload_n (k4 := 3) (mx_d D_C_wiggle 17 rfl) (by rfl) ?_
      refine mx_aload_n (k4 := 0) (mx_d D_C_wiggle 18 rfl) (by rfl) ?_
      refine mx_getf hG (idx := 18) (ci := 0) (kf := 0) (mx_d D_C_wiggle 19 rfl) (by rfl) cls_C (by decide) w_149 (by first | assumption | omega) (by first | assumption | exact va_up_self _ _ _ | (rw [va_up_ne _ _ (by omega)]; first | assumption | exact va_up_self _ _ _ | (rw [va_up_ne _ _ (by omega)]; first | assumption | exact va_up_self _ _ _ | (rw [va_up_ne _ _ (by omega)]; first | assumption | exact va_up_self _ _ _ | (rw [va_up_ne _ _ (by omega)]; first | assumption | exact va_up_self _ _ _ | (rw [va_up_ne _ _ (by omega)]; first | assumption | exact va_up_self _ _ _)))))) (by rfl) ?_
      refine mx_icmp_geN 68 (mx_d D_C_wiggle 20 rfl) (by decide) (by omega) (by omega) (by omega) (by omega) (by omega) ?_
      refine mx_aload_n (k4 := 0) (mx_d D_C_wiggle 21 rfl) (by rfl) ?_
      refine mx_getf hG (idx := 52) (ci := 0) (kf := 5) (mx_d D_C_wiggle 22 rfl) (by rfl) cls_C (by decide) w_154 (by first | assumption | omega) (by first | assumption | exact va_up_self _ _ _ | (rw [va_up_ne _ _ (by omega)]; first | assumption | exact va_up_self _ _ _ | (rw [va_up_ne _ _ (by omega)]; first | assumption | exact va_up_self _ _ _ | (rw [va_up_ne _ _ (by omega)]; first | assumption | exact va_up_self _ _ _ | (rw [va_up_ne _ _ (by omega)]; first | assumption | exact va_up_self _ _ _ | (rw [va_up_ne _ _ (by omega)]; first | assumption | exact va_up_self _ _ _)))))) (by rfl) ?_
      refine mx_iload_n (k4 := 3) (mx_d D_C_wiggle 23 rfl) (by rfl) ?_
      refine mx_aload_n (k4 := 0) (mx_d D_C_wiggle 24 rfl) (by rfl) ?_
      refine mx_getf hG (idx := 37) (ci := 0) (kf := 3) (mx_d D_C_wiggle 25 rfl) (by rfl) cls_C (by decide) w_152 (by first | assumption | omega) (by first | assumption | exact va_up_self _ _ _ | (rw [va_up_ne _ _ (by omega)]; first | assumption | exact va_up_self _ _ _ | (rw [va_up_ne _ _ (by omega)]; first | assumption | exact va_up_self _ _ _ | (rw [va_up_ne _ _ (by omega)]; first | assumption | exact va_up_self _ _ _ | (rw [va_up_ne _ _ (by omega)]; first | assumption | exact va_up_self _ _ _ | (rw [va_up_ne _ _ (by omega)]; first | assumption | exact va_up_self _ _ _)))))) (by rfl) ?_
      refine mx_callV hG (Y' := Y_R_sumAt) (ci := 4) [_, _] (mx_d D_C_wiggle 26 rfl) in_R_sumAt w_193 w_194 s_R_sumAt (by rfl) np_R_sumAt (by exact Nat.le_of_ble_eq_true rfl) (by rfl) (by first | assumption | omega) (by first | assumption | exact va_up_self _ _ _ | (rw [va_up_ne _ _ (by omega)]; first | assumption | exact va_up_self _ _ _ | (rw [va_up_ne _ _ (by omega)]; first | assumption | exact va_up_self _ _ _ | (rw [va_up_ne _ _ (by omega)]; first | assumption | exact va_up_self _ _ _ | (rw [va_up_ne _ _ (by omega)]; first | assumption | exact va_up_self _ _ _ | (rw [va_up_ne _ _ (by omega)]; first | assumption | exact va_up_self _ _ _)))))) (by rfl) (by exact Nat.le_of_ble_eq_true rfl) (call (m := i) (by omega) ?_)
      refine mx_istore (i := 4) (mx_d D_C_wiggle 27 rfl) (by decide) ?_
      refine mx_iload (i := 4) (mx_d D_C_wiggle 28 rfl) (by rfl) ?_
      refine mx_iload_n (k4 := 2) (mx_d D_C_wiggle 29 rfl) (by rfl) ?_
      by_cases hc : slTo Y dW rn rg (bstTo (fun y => slTo Y dW rn rg y rN) i) rN < slTo Y dW rn rg i rN
      · refine mx_icmp_leN 62 (mx_d D_C_wiggle 30 rfl) (by decide) (by omega) (by omega) (by omega) (by omega) (by omega) ?_
        refine mx_iload_n (k4 := 3) (mx_d D_C_wiggle 31 rfl) (by rfl) ?_
        refine mx_istore_n (k4 := 1) (mx_d D_C_wiggle 32 rfl) (by decide) ?_
        refine mx_iload (i := 4) (mx_d D_C_wiggle 33 rfl) (by rfl) ?_
        refine mx_istore_n (k4 := 2) (mx_d D_C_wiggle 34 rfl) (by decide) ?_
        refine mx_iincI (i := 3) (n := 1) (mx_d D_C_wiggle 35 rfl) (by rfl) (by decide) ?_
        refine mx_goto 29 (mx_d D_C_wiggle 36 rfl) (by decide) ?_
        refine mx_loc ?_ (ih (i + 1) (by omega) (by omega))
        simp only [bstTo, if_pos hc]
        rfl
      · refine mx_icmp_leY 62 (mx_d D_C_wiggle 30 rfl) (by decide) (by omega) (by omega) (by omega) (by omega) (by omega) ?_
        refine mx_iincI (i := 3) (n := 1) (mx_d D_C_wiggle 35 rfl) (by rfl) (by decide) ?_
        refine mx_goto 29 (mx_d D_C_wiggle 36 rfl) (by decide) ?_
        refine mx_loc ?_ (ih (i + 1) (by omega) (by omega))
        simp only [bstTo, if_neg hc]
        rfl
theorem c_C_clear (hG : mx_ok G) (hN : 50 ≤ N) (hC : CS G Y U nE iE nD rA rS eA eS dA dS dW lc rn rg rN ps pN ce)
    (q : ∀ ce', CS G Y U nE iE nD rA rS eA eS dA dS dW lc rn rg (0) ps pN ce' → (∀ k, 50 ≤ k → ce' k = ce k) → Q (.inl (some (.int (iI (rN : Nat))))) N ce' bc bs) : mx_M G Y_C_clear (d + 6) bc bs false N ce 0 [(0, .ref (mx_B G + 0))] [] Q := by
  obtain ⟨⟨hY, hU, hE, hD, hrA, hrS, hEA, hES, hDA, hDS, hDz, hDW, hrN, hrn, hpN, hps⟩, c0, c1, c14, cE, cD, cL, cR, cP, cT⟩ := hC
  obtain ⟨r1, r2, r3⟩ := cR
  refine mx_aload_n (k4 := 0) (mx_d D_C_clear 0 rfl) (by rfl) ?_
  refine mx_getf hG (idx := 52) (ci := 0) (kf := 5) (mx_d D_C_clear 1 rfl) (by rfl) cls_C (by decide) w_154 (by first | assumption | omega) (by first | assumption | exact va_up_self _ _ _ | (rw [va_up_ne _ _ (by omega)]; first | assumption | exact va_up_self _ _ _ | (rw [va_up_ne _ _ (by omega)]; first | assumption | exact va_up_self _ _ _ | (rw [va_up_ne _ _ (by omega)]; first | assumption | exact va_up_self _ _ _ | (rw [va_up_ne _ _ (by omega)]; first | assumption | exact va_up_self _ _ _ | (rw [va_up_ne _ _ (by omega)]; first | assumption | exact va_up_self _ _ _)))))) (by rfl) ?_
  refine mx_getf hG (idx := 191) (ci := 4) (kf := 2) (mx_d D_C_clear 2 rfl) (by rfl) cls_R (by decide) w_106 (by first | assumption | omega) (by first | assumption | exact va_up_self _ _ _ | (rw [va_up_ne _ _ (by omega)]; first | assumption | exact va_up_self _ _ _ | (rw [va_up_ne _ _ (by omega)]; first | assumption | exact va_up_self _ _ _ | (rw [va_up_ne _ _ (by omega)]; first | assumption | exact va_up_self _ _ _ | (rw [va_up_ne _ _ (by omega)]; first | assumption | exact va_up_self _ _ _ | (rw [va_up_ne _ _ (by omega)]; first | assumption | exact va_up_self _ _ _)))))) (by rfl) ?_
  refine mx_istore_n (k4 := 1) (mx_d D_C_clear 3 rfl) (by decide) ?_
  refine mx_aload_n (k4 := 0) (mx_d D_C_clear 4 rfl) (by rfl) ?_
  refine mx_getf hG (idx := 52) (ci := 0) (kf := 5) (mx_d D_C_clear 5 rfl) (by rfl) cls_C (by decide) w_154 (by first | assumption | omega) (by first | assumption | exact va_up_self _ _ _ | (rw [va_up_ne _ _ (by omega)]; first | assumption | exact va_up_self _ _ _ | (rw [va_up_ne _ _ (by omega)]; first | assumption | exact va_up_self _ _ _ | (rw [va_up_ne _ _ (by omega)]; first | assumption | exact va_up_self _ _ _ | (rw [va_up_ne _ _ (by omega)]; first | assumption | exact va_up_self _ _ _ | (rw [va_up_ne _ _ (by omega)]; first | assumption | exact va_up_self _ _ _)))))) (by rfl) ?_
  refine mx_iconst (n := 0) (mx_d D_C_clear 6 rfl) ?_
  refine mx_putf hG (idx := 191) (ci := 4) (kf := 2) (t := (.int)) (mx_d D_C_clear 7 rfl) (by rfl) cls_R (by decide) (Or.inl rfl) w_106 (by first | assumption | omega) (by first | assumption | exact va_up_self _ _ _ | (rw [va_up_ne _ _ (by omega)]; first | assumption | exact va_up_self _ _ _ | (rw [va_up_ne _ _ (by omega)]; first | assumption | exact va_up_self _ _ _ | (rw [va_up_ne _ _ (by omega)]; first | assumption | exact va_up_self _ _ _ | (rw [va_up_ne _ _ (by omega)]; first | assumption | exact va_up_self _ _ _ | (rw [va_up_ne _ _ (by omega)]; first | assumption | exact va_up_self _ _ _)))))) (by exact Nat.le_of_ble_eq_true rfl) (by decide +kernel) (by rfl) (by rfl) ?_
  refine mx_iload_n (k4 := 1) (mx_d D_C_clear 8 rfl) (by rfl) ?_
  refine mx_iret (by rfl) (mx_d D_C_clear 9 rfl) ?_
  refine q _ ⟨⟨hY, hU, hE, hD, hrA, hrS, hEA, hES, hDA, hDS, hDz, hDW, by omega, fun i hi => absurd hi (by omega), hpN, hps⟩, ?_, ?_, ?_, csE_fr cE (fun k _ _ => ?_), csD_fr cD (fun k _ _ => ?_), csL_fr cL (fun k _ _ => ?_), ⟨va_up_self _ _ _, ?_, ?_⟩, csP_fr cP (fun k _ _ => ?_), csT_fr cT (fun k _ _ => ?_)⟩ (fun k hk => ?_) <;> rw [va_up_ne _ _ (by omega)] <;> assumption
theorem c_C_unit (hG : mx_ok G) (hN : 50 ≤ N) (hC : CS G Y U nE iE nD rA rS eA eS dA dS dW lc rn rg rN ps pN ce) {x z : Int32}
    (q0 : ¬ (sgOk x 4 = true ∧ sgOk z 4 = true) → Q (.inr xA) N ce bc bs) (q1 : (sgOk x 4 = true ∧ sgOk z 4 = true) → ¬ pN + sgN x 4 + sgN z 4 ≤ 100 → Q (.inr xS) N ce bc bs)
    (q2 : ∀ ce', (sgOk x 4 = true ∧ sgOk z 4 = true) → pN + sgN x 4 + sgN z 4 ≤ 100 → CS G Y U nE iE nD rA rS eA eS dA dS dW lc rn rg rN (sgP z (sgP x ps pN 4) (pN + sgN x 4) 4) (pN + sgN x 4 + sgN z 4) ce' → (∀ k, 50 ≤ k → ce' k = ce k) → Q (.inl (some (.int (iI ((pN + sgN x 4 + sgN z 4 : Nat) : Int))))) N ce' bc bs) : mx_M G Y_C_unit (d + 6) (bc + 1) (bs + 6) false N ce 0 [(0, .ref (mx_B G + 0)), (1, .int x), (2, .int z)] [] Q := by
  obtain ⟨⟨hY, hU, hE, hD, hrA, hrS, hEA, hES, hDA, hDS, hDz, hDW, hrN, hrn, hpN, hps⟩, c0, c1, c14, cE, cD, cL, cR, cP, cT⟩ := hC
  obtain ⟨p1, p2⟩ := cP
  have n1 := sgN_le x 4
  have n2 := sgN_le z 4
  have thr : ¬ (sgOk x 4 = true ∧ sgOk z 4 = true) → ∀ {l9 : List (Nat × Value)}, mx_M G Y_C_unit (d + 6) (bc + 1) (bs + 6) false N ce 14 l9 [] Q := by
    intro h l9
    refine mx_throw hG ["java/lang/RuntimeException", "java/lang/Exception"] (E := "java/lang/IllegalArgumentException") (tx := "a sign is 32 .. 126") (mx_d D_C_unit 6 rfl) (mx_d D_C_unit 7 rfl) (mx_d D_C_unit 8 rfl) (mx_d D_C_unit 9 rfl) (mx_d D_C_unit 10 rfl) (by decide) (by decide) (by decide) w_331 w_14 w_332 (by decide) th_107 (by rfl) (by exact Nat.le_of_ble_eq_true rfl) ?_
    exact q0 h
  refine mx_iload_n (k4 := 1) (mx_d D_C_unit 0 rfl) (by rfl) ?_
  refine mx_callS (Y' := Y_P_holdsSignsAlone) [_] (mx_d D_C_unit 1 rfl) in_P_holdsSignsAlone w_551 w_552 np_P_holdsSignsAlone (by exact Nat.le_of_ble_eq_true rfl) (by rfl) (by rfl) (by exact Nat.le_of_ble_eq_true rfl) (c_P_holds ?_)
  cases h1 : sgOk x 4 with
  | false =>
    refine mx_if_eqY 14 (mx_d D_C_unit 2 rfl) (by decide) (by decide) (by decide) (by decide) ?_
    exact thr (by rw [h1]; simp)
  | true =>
    refine mx_if_eqN 14 (mx_d D_C_unit 2 rfl) (by decide) (by decide) (by decide) (by decide) ?_
    refine mx_iload_n (k4 := 2) (mx_d D_C_unit 3 rfl) (by rfl) ?_
    refine mx_callS (Y' := Y_P_holdsSignsAlone) [_] (mx_d D_C_unit 4 rfl) in_P_holdsSignsAlone w_551 w_552 np_P_holdsSignsAlone (by exact Nat.le_of_ble_eq_true rfl) (by rfl) (by rfl) (by exact Nat.le_of_ble_eq_true rfl) (c_P_holds ?_)
    cases h2 : sgOk z 4 with
    | false =>
      refine mx_if_neN 24 (mx_d D_C_unit 5 rfl) (by decide) (by decide) (by decide) (by decide) ?_
      exact thr (by rw [h2]; simp)
    | true =>
      refine mx_if_neY 24 (mx_d D_C_unit 5 rfl) (by decide) (by decide) (by decide) (by decide) ?_
      refine mx_aload_n (k4 := 0) (mx_d D_C_unit 11 rfl) (by rfl) ?_
      refine mx_getf hG (idx := 59) (ci := 0) (kf := 6) (mx_d D_C_unit 12 rfl) (by rfl) cls_C (by decide) w_155 (by first | assumption | omega) (by first | assumption | exact va_up_self _ _ _ | (rw [va_up_ne _ _ (by omega)]; first | assumption | exact va_up_self _ _ _ | (rw [va_up_ne _ _ (by omega)]; first | assumption | exact va_up_self _ _ _ | (rw [va_up_ne _ _ (by omega)]; first | assumption | exact va_up_self _ _ _ | (rw [va_up_ne _ _ (by omega)]; first | assumption | exact va_up_self _ _ _ | (rw [va_up_ne _ _ (by omega)]; first | assumption | exact va_up_self _ _ _)))))) (by rfl) ?_
      refine mx_getf hG (idx := 209) (ci := 5) (kf := 1) (mx_d D_C_unit 13 rfl) (by rfl) cls_P (by decide) w_124 (by first | assumption | omega) (by first | assumption | exact va_up_self _ _ _ | (rw [va_up_ne _ _ (by omega)]; first | assumption | exact va_up_self _ _ _ | (rw [va_up_ne _ _ (by omega)]; first | assumption | exact va_up_self _ _ _ | (rw [va_up_ne _ _ (by omega)]; first | assumption | exact va_up_self _ _ _ | (rw [va_up_ne _ _ (by omega)]; first | assumption | exact va_up_self _ _ _ | (rw [va_up_ne _ _ (by omega)]; first | assumption | exact va_up_self _ _ _)))))) (by rfl) ?_
      refine mx_iload_n (k4 := 1) (mx_d D_C_unit 14 rfl) (by rfl) ?_
      refine mx_callS (Y' := Y_P_signsIn) [_] (mx_d D_C_unit 15 rfl) in_P_signsIn w_558 w_559 np_P_signsIn (by exact Nat.le_of_ble_eq_true rfl) (by rfl) (by rfl) (by exact Nat.le_of_ble_eq_true rfl) (c_P_signsIn ?_)
      refine mx_iaddI (mx_d D_C_unit 16 rfl) ?_
      refine mx_iload_n (k4 := 2) (mx_d D_C_unit 17 rfl) (by rfl) ?_
      refine mx_callS (Y' := Y_P_signsIn) [_] (mx_d D_C_unit 18 rfl) in_P_signsIn w_558 w_559 np_P_signsIn (by exact Nat.le_of_ble_eq_true rfl) (by rfl) (by rfl) (by exact Nat.le_of_ble_eq_true rfl) (c_P_signsIn ?_)
      refine mx_iaddI (mx_d D_C_unit 19 rfl) ?_
      refine mx_bipush (n := 100) (mx_d D_C_unit 20 rfl) (by decide) ?_
      by_cases h3 : pN + sgN x 4 + sgN z 4 ≤ 100
      · refine mx_icmp_leY 56 (mx_d D_C_unit 21 rfl) (by decide) (by omega) (by omega) (by omega) (by omega) (by omega) ?_
        refine mx_bud (Nat.le_succ bc) (Nat.le_add_right bs 6) ?_
        refine mx_aload_n (k4 := 0) (mx_d D_C_unit 27 rfl) (by rfl) ?_
        refine mx_getf hG (idx := 59) (ci := 0) (kf := 6) (mx_d D_C_unit 28 rfl) (by rfl) cls_C (by decide) w_155 (by first | assumption | omega) (by first | assumption | exact va_up_self _ _ _ | (rw [va_up_ne _ _ (by omega)]; first | assumption | exact va_up_self _ _ _ | (rw [va_up_ne _ _ (by omega)]; first | assumption | exact va_up_self _ _ _ | (rw [va_up_ne _ _ (by omega)]; first | assumption | exact va_up_self _ _ _ | (rw [va_up_ne _ _ (by omega)]; first | assumption | exact va_up_self _ _ _ | (rw [va_up_ne _ _ (by omega)]; first | assumption | exact va_up_self _ _ _)))))) (by rfl) ?_
        refine mx_iload_n (k4 := 1) (mx_d D_C_unit 29 rfl) (by rfl) ?_
        refine mx_callV hG (Y' := Y_P_append) (ci := 5) [_] (mx_d D_C_unit 30 rfl) in_P_append w_562 w_563 s_P_append (by rfl) np_P_append (by exact Nat.le_of_ble_eq_true rfl) (by rfl) (by first | assumption | omega) (by first | assumption | exact va_up_self _ _ _ | (rw [va_up_ne _ _ (by omega)]; first | assumption | exact va_up_self _ _ _ | (rw [va_up_ne _ _ (by omega)]; first | assumption | exact va_up_self _ _ _ | (rw [va_up_ne _ _ (by omega)]; first | assumption | exact va_up_self _ _ _ | (rw [va_up_ne _ _ (by omega)]; first | assumption | exact va_up_self _ _ _ | (rw [va_up_ne _ _ (by omega)]; first | assumption | exact va_up_self _ _ _)))))) (by rfl) (by exact Nat.le_of_ble_eq_true rfl) (c_P_append hG (by omega) (by omega) (by omega) p1 p2 (by omega) ?_)
        refine mx_aload_n (k4 := 0) (mx_d D_C_unit 31 rfl) (by rfl) ?_
        refine mx_getf hG (idx := 59) (ci := 0) (kf := 6) (mx_d D_C_unit 32 rfl) (by rfl) cls_C (by decide) w_155 (by first | assumption | omega) (by first | assumption | exact va_up_self _ _ _ | (rw [va_up_ne _ _ (by omega)]; first | assumption | exact va_up_self _ _ _ | (rw [va_up_ne _ _ (by omega)]; first | assumption | exact va_up_self _ _ _ | (rw [va_up_ne _ _ (by omega)]; first | assumption | exact va_up_self _ _ _ | (rw [va_up_ne _ _ (by omega)]; first | assumption | exact va_up_self _ _ _ | (rw [va_up_ne _ _ (by omega)]; first | assumption | exact va_up_self _ _ _)))))) (by rfl) ?_
        refine mx_iload_n (k4 := 2) (mx_d D_C_unit 33 rfl) (by rfl) ?_
        refine mx_callV hG (Y' := Y_P_append) (ci := 5) [_] (mx_d D_C_unit 34 rfl) in_P_append w_562 w_563 s_P_append (by rfl) np_P_append (by exact Nat.le_of_ble_eq_true rfl) (by rfl) (by first | assumption | omega) (by first | assumption | exact va_up_self _ _ _ | (rw [va_up_ne _ _ (by omega)]; first | assumption | exact va_up_self _ _ _ | (rw [va_up_ne _ _ (by omega)]; first | assumption | exact va_up_self _ _ _ | (rw [va_up_ne _ _ (by omega)]; first | assumption | exact va_up_self _ _ _ | (rw [va_up_ne _ _ (by omega)]; first | assumption | exact va_up_self _ _ _ | (rw [va_up_ne _ _ (by omega)]; first | assumption | exact va_up_self _ _ _)))))) (by rfl) (by exact Nat.le_of_ble_eq_true rfl) (c_P_append (n := pN + sgN x 4) hG (by omega) (by omega) (by omega) (va_up_self _ _ _) ((va_up_ne _ _ (by omega)).trans (va_up_self _ _ _)) (by omega) ?_)
        refine mx_aload_n (k4 := 0) (mx_d D_C_unit 35 rfl) (by rfl) ?_
        refine mx_getf hG (idx := 59) (ci := 0) (kf := 6) (mx_d D_C_unit 36 rfl) (by rfl) cls_C (by decide) w_155 (by first | assumption | omega) (by first | assumption | exact va_up_self _ _ _ | (rw [va_up_ne _ _ (by omega)]; first | assumption | exact va_up_self _ _ _ | (rw [va_up_ne _ _ (by omega)]; first | assumption | exact va_up_self _ _ _ | (rw [va_up_ne _ _ (by omega)]; first | assumption | exact va_up_self _ _ _ | (rw [va_up_ne _ _ (by omega)]; first | assumption | exact va_up_self _ _ _ | (rw [va_up_ne _ _ (by omega)]; first | assumption | exact va_up_self _ _ _)))))) (by rfl) ?_
        refine mx_getf hG (idx := 209) (ci := 5) (kf := 1) (mx_d D_C_unit 37 rfl) (by rfl) cls_P (by decide) w_124 (by first | assumption | omega) (by first | assumption | exact va_up_self _ _ _ | (rw [va_up_ne _ _ (by omega)]; first | assumption | exact va_up_self _ _ _ | (rw [va_up_ne _ _ (by omega)]; first | assumption | exact va_up_self _ _ _ | (rw [va_up_ne _ _ (by omega)]; first | assumption | exact va_up_self _ _ _ | (rw [va_up_ne _ _ (by omega)]; first | assumption | exact va_up_self _ _ _ | (rw [va_up_ne _ _ (by omega)]; first | assumption | exact va_up_self _ _ _)))))) (by rfl) ?_
        refine mx_iret (by rfl) (mx_d D_C_unit 38 rfl) ?_
        refine q2 _ ⟨h1, h2⟩ h3 ⟨⟨hY, hU, hE, hD, hrA, hrS, hEA, hES, hDA, hDS, hDz, hDW, hrN, hrn, h3, sgP_rg (sgP_rg hps 4) 4⟩, ?_, ?_, ?_, csE_fr cE (fun k _ _ => ?_), csD_fr cD (fun k _ _ => ?_), csL_fr cL (fun k _ _ => ?_), csR_fr cR (fun k _ _ => ?_), ⟨va_up_self _ _ _, ?_⟩, csT_fr cT (fun k _ _ => ?_)⟩ (fun k hk => ?_)
        · rw [va_up_ne _ _ (by omega), va_up_ne _ _ (by omega), va_up_ne _ _ (by omega), va_up_ne _ _ (by omega)]; exact c0
        · rw [va_up_ne _ _ (by omega), va_up_ne _ _ (by omega), va_up_ne _ _ (by omega), va_up_ne _ _ (by omega)]; exact c1
        · rw [va_up_ne _ _ (by omega), va_up_ne _ _ (by omega), va_up_ne _ _ (by omega), va_up_ne _ _ (by omega)]; exact c14
        · rw [va_up_ne _ _ (by omega), va_up_ne _ _ (by omega), va_up_ne _ _ (by omega), va_up_ne _ _ (by omega)]
        · rw [va_up_ne _ _ (by omega), va_up_ne _ _ (by omega), va_up_ne _ _ (by omega), va_up_ne _ _ (by omega)]
        · rw [va_up_ne _ _ (by omega), va_up_ne _ _ (by omega), va_up_ne _ _ (by omega), va_up_ne _ _ (by omega)]
        · rw [va_up_ne _ _ (by omega), va_up_ne _ _ (by omega), va_up_ne _ _ (by omega), va_up_ne _ _ (by omega)]
        · rw [va_up_ne _ _ (by omega), va_up_self]
        all_goals rw [va_up_ne _ _ (by omega), va_up_ne _ _ (by omega), va_up_ne _ _ (by omega), va_up_ne _ _ (by omega)]
      · refine mx_icmp_leN 56 (mx_d D_C_unit 21 rfl) (by decide) (by omega) (by omega) (by omega) (by omega) (by omega) ?_
        refine mx_throw hG ["java/lang/RuntimeException", "java/lang/Exception"] (E := "java/lang/IllegalStateException") (tx := "the pad has at most 100 signs") (mx_d D_C_unit 22 rfl) (mx_d D_C_unit 23 rfl) (mx_d D_C_unit 24 rfl) (mx_d D_C_unit 25 rfl) (mx_d D_C_unit 26 rfl) (by decide) (by decide) (by decide) w_356 w_15 w_357 (by decide) th_91 (by rfl) (by exact Nat.le_of_ble_eq_true rfl) ?_
        exact q1 ⟨h1, h2⟩ h3
theorem c_C_count (hG : mx_ok G) (hN : 50 ≤ N) (hC : CS G Y U nE iE nD rA rS eA eS dA dS dW lc rn rg rN ps pN ce) {w : Int} (w1 : -2147483648 ≤ w) (w2 : w < 2147483648)
    (q0 : ¬ (0 ≤ w ∧ w ≤ 6) → Q (.inr xI) N ce bc bs)
    (q2 : ∀ m : Nat, w = m → m ≤ 6 → Q (.inl (some (.int (iI (cntV Y nE iE nD rN pN (rwN (eS iE) Y) m : Nat))))) N ce bc bs) : mx_M G Y_C_count (d + 6) (bc + 1) (bs + 6) false N ce 0 [(0, .ref (mx_B G + 0)), (1, .int (iI w))] [] Q := by
  obtain ⟨⟨hY, hU, hE, hD, hrA, hrS, hEA, hES, hDA, hDS, hDz, hDW, hrN, hrn, hpN, hps⟩, c0, c1, c14, cE, cD, cL, cR, cP, cT⟩ := hC
  obtain ⟨r1, r2, r3⟩ := cR
  obtain ⟨p1, p2⟩ := cP
  obtain ⟨e1, e2, e3⟩ := cE iE (by omega)
  refine mx_iload_n (k4 := 1) (mx_d D_C_count 0 rfl) (by rfl) ?_
  by_cases hw : 0 ≤ w ∧ w ≤ 6
  · refine mx_bud (Nat.le_succ bc) (Nat.le_add_right bs 6) ?_
    obtain ⟨m, rfl⟩ : ∃ m : Nat, w = m := ⟨w.toNat, by omega⟩
    have q9 := q2 m rfl (by omega)
    obtain rfl | rfl | rfl | rfl | rfl | rfl | rfl : m = 0 ∨ m = 1 ∨ m = 2 ∨ m = 3 ∨ m = 4 ∨ m = 5 ∨ m = 6 := by omega
    · refine mx_tableIn 44 (mx_d D_C_count 1 rfl) (by decide) (by decide) (by rfl) (by decide) ?_
      refine mx_aload_n (k4 := 0) (mx_d D_C_count 2 rfl) (by rfl) ?_
      refine mx_getf hG (idx := 18) (ci := 0) (kf := 0) (mx_d D_C_count 3 rfl) (by rfl) cls_C (by decide) w_149 (by first | assumption | omega) (by first | assumption | exact va_up_self _ _ _ | (rw [va_up_ne _ _ (by omega)]; first | assumption | exact va_up_self _ _ _ | (rw [va_up_ne _ _ (by omega)]; first | assumption | exact va_up_self _ _ _ | (rw [va_up_ne _ _ (by omega)]; first | assumption | exact va_up_self _ _ _ | (rw [va_up_ne _ _ (by omega)]; first | assumption | exact va_up_self _ _ _ | (rw [va_up_ne _ _ (by omega)]; first | assumption | exact va_up_self _ _ _)))))) (by rfl) ?_
      refine mx_iret (by rfl) (mx_d D_C_count 4 rfl) ?_
      exact q9
    · refine mx_tableIn 49 (mx_d D_C_count 1 rfl) (by decide) (by decide) (by rfl) (by decide) ?_
      refine mx_aload_n (k4 := 0) (mx_d D_C_count 5 rfl) (by rfl) ?_
      refine mx_getf hG (idx := 70) (ci := 0) (kf := 8) (mx_d D_C_count 6 rfl) (by rfl) cls_C (by decide) w_157 (by first | assumption | omega) (by first | assumption | exact va_up_self _ _ _ | (rw [va_up_ne _ _ (by omega)]; first | assumption | exact va_up_self _ _ _ | (rw [va_up_ne _ _ (by omega)]; first | assumption | exact va_up_self _ _ _ | (rw [va_up_ne _ _ (by omega)]; first | assumption | exact va_up_self _ _ _ | (rw [va_up_ne _ _ (by omega)]; first | assumption | exact va_up_self _ _ _ | (rw [va_up_ne _ _ (by omega)]; first | assumption | exact va_up_self _ _ _)))))) (by rfl) ?_
      refine mx_iret (by rfl) (mx_d D_C_count 7 rfl) ?_
      exact q9
    · refine mx_tableIn 54 (mx_d D_C_count 1 rfl) (by decide) (by decide) (by rfl) (by decide) ?_
      refine mx_aload_n (k4 := 0) (mx_d D_C_count 8 rfl) (by rfl) ?_
      refine mx_getf hG (idx := 80) (ci := 0) (kf := 9) (mx_d D_C_count 9 rfl) (by rfl) cls_C (by decide) w_158 (by first | assumption | omega) (by first | assumption | exact va_up_self _ _ _ | (rw [va_up_ne _ _ (by omega)]; first | assumption | exact va_up_self _ _ _ | (rw [va_up_ne _ _ (by omega)]; first | assumption | exact va_up_self _ _ _ | (rw [va_up_ne _ _ (by omega)]; first | assumption | exact va_up_self _ _ _ | (rw [va_up_ne _ _ (by omega)]; first | assumption | exact va_up_self _ _ _ | (rw [va_up_ne _ _ (by omega)]; first | assumption | exact va_up_self _ _ _)))))) (by rfl) ?_
      refine mx_iret (by rfl) (mx_d D_C_count 10 rfl) ?_
      exact q9
    · refine mx_tableIn 59 (mx_d D_C_count 1 rfl) (by decide) (by decide) (by rfl) (by decide) ?_
      refine mx_aload_n (k4 := 0) (mx_d D_C_count 11 rfl) (by rfl) ?_
      refine mx_getf hG (idx := 138) (ci := 0) (kf := 10) (mx_d D_C_count 12 rfl) (by rfl) cls_C (by decide) w_159 (by first | assumption | omega) (by first | assumption | exact va_up_self _ _ _ | (rw [va_up_ne _ _ (by omega)]; first | assumption | exact va_up_self _ _ _ | (rw [va_up_ne _ _ (by omega)]; first | assumption | exact va_up_self _ _ _ | (rw [va_up_ne _ _ (by omega)]; first | assumption | exact va_up_self _ _ _ | (rw [va_up_ne _ _ (by omega)]; first | assumption | exact va_up_self _ _ _ | (rw [va_up_ne _ _ (by omega)]; first | assumption | exact va_up_self _ _ _)))))) (by rfl) ?_
      refine mx_iret (by rfl) (mx_d D_C_count 13 rfl) ?_
      exact q9
    · refine mx_tableIn 64 (mx_d D_C_count 1 rfl) (by decide) (by decide) (by rfl) (by decide) ?_
      refine mx_aload_n (k4 := 0) (mx_d D_C_count 14 rfl) (by rfl) ?_
      refine mx_getf hG (idx := 52) (ci := 0) (kf := 5) (mx_d D_C_count 15 rfl) (by rfl) cls_C (by decide) w_154 (by first | assumption | omega) (by first | assumption | exact va_up_self _ _ _ | (rw [va_up_ne _ _ (by omega)]; first | assumption | exact va_up_self _ _ _ | (rw [va_up_ne _ _ (by omega)]; first | assumption | exact va_up_self _ _ _ | (rw [va_up_ne _ _ (by omega)]; first | assumption | exact va_up_self _ _ _ | (rw [va_up_ne _ _ (by omega)]; first | assumption | exact va_up_self _ _ _ | (rw [va_up_ne _ _ (by omega)]; first | assumption | exact va_up_self _ _ _)))))) (by rfl) ?_
      refine mx_getf hG (idx := 191) (ci := 4) (kf := 2) (mx_d D_C_count 16 rfl) (by rfl) cls_R (by decide) w_106 (by first | assumption | omega) (by first | assumption | exact va_up_self _ _ _ | (rw [va_up_ne _ _ (by omega)]; first | assumption | exact va_up_self _ _ _ | (rw [va_up_ne _ _ (by omega)]; first | assumption | exact va_up_self _ _ _ | (rw [va_up_ne _ _ (by omega)]; first | assumption | exact va_up_self _ _ _ | (rw [va_up_ne _ _ (by omega)]; first | assumption | exact va_up_self _ _ _ | (rw [va_up_ne _ _ (by omega)]; first | assumption | exact va_up_self _ _ _)))))) (by rfl) ?_
      refine mx_iret (by rfl) (mx_d D_C_count 17 rfl) ?_
      exact q9
    · refine mx_tableIn 72 (mx_d D_C_count 1 rfl) (by decide) (by decide) (by rfl) (by decide) ?_
      refine mx_aload_n (k4 := 0) (mx_d D_C_count 18 rfl) (by rfl) ?_
      refine mx_getf hG (idx := 59) (ci := 0) (kf := 6) (mx_d D_C_count 19 rfl) (by rfl) cls_C (by decide) w_155 (by first | assumption | omega) (by first | assumption | exact va_up_self _ _ _ | (rw [va_up_ne _ _ (by omega)]; first | assumption | exact va_up_self _ _ _ | (rw [va_up_ne _ _ (by omega)]; first | assumption | exact va_up_self _ _ _ | (rw [va_up_ne _ _ (by omega)]; first | assumption | exact va_up_self _ _ _ | (rw [va_up_ne _ _ (by omega)]; first | assumption | exact va_up_self _ _ _ | (rw [va_up_ne _ _ (by omega)]; first | assumption | exact va_up_self _ _ _)))))) (by rfl) ?_
      refine mx_getf hG (idx := 209) (ci := 5) (kf := 1) (mx_d D_C_count 20 rfl) (by rfl) cls_P (by decide) w_124 (by first | assumption | omega) (by first | assumption | exact va_up_self _ _ _ | (rw [va_up_ne _ _ (by omega)]; first | assumption | exact va_up_self _ _ _ | (rw [va_up_ne _ _ (by omega)]; first | assumption | exact va_up_self _ _ _ | (rw [va_up_ne _ _ (by omega)]; first | assumption | exact va_up_self _ _ _ | (rw [va_up_ne _ _ (by omega)]; first | assumption | exact va_up_self _ _ _ | (rw [va_up_ne _ _ (by omega)]; first | assumption | exact va_up_self _ _ _)))))) (by rfl) ?_
      refine mx_iret (by rfl) (mx_d D_C_count 21 rfl) ?_
      exact q9
    · refine mx_tableIn 80 (mx_d D_C_count 1 rfl) (by decide) (by decide) (by rfl) (by decide) ?_
      refine mx_aload_n (k4 := 0) (mx_d D_C_count 22 rfl) (by rfl) ?_
      refine mx_getf hG (idx := 28) (ci := 0) (kf := 2) (mx_d D_C_count 23 rfl) (by rfl) cls_C (by decide) w_151 (by first | assumption | omega) (by first | assumption | exact va_up_self _ _ _ | (rw [va_up_ne _ _ (by omega)]; first | assumption | exact va_up_self _ _ _ | (rw [va_up_ne _ _ (by omega)]; first | assumption | exact va_up_self _ _ _ | (rw [va_up_ne _ _ (by omega)]; first | assumption | exact va_up_self _ _ _ | (rw [va_up_ne _ _ (by omega)]; first | assumption | exact va_up_self _ _ _ | (rw [va_up_ne _ _ (by omega)]; first | assumption | exact va_up_self _ _ _)))))) (by rfl) ?_
      refine mx_aload_n (k4 := 0) (mx_d D_C_count 24 rfl) (by rfl) ?_
      refine mx_getf hG (idx := 80) (ci := 0) (kf := 9) (mx_d D_C_count 25 rfl) (by rfl) cls_C (by decide) w_158 (by first | assumption | omega) (by first | assumption | exact va_up_self _ _ _ | (rw [va_up_ne _ _ (by omega)]; first | assumption | exact va_up_self _ _ _ | (rw [va_up_ne _ _ (by omega)]; first | assumption | exact va_up_self _ _ _ | (rw [va_up_ne _ _ (by omega)]; first | assumption | exact va_up_self _ _ _ | (rw [va_up_ne _ _ (by omega)]; first | assumption | exact va_up_self _ _ _ | (rw [va_up_ne _ _ (by omega)]; first | assumption | exact va_up_self _ _ _)))))) (by rfl) ?_
      refine mx_aald hG 3 (iE) (mx_d D_C_count 26 rfl) (by first | assumption | omega) (by first | assumption | exact va_up_self _ _ _ | (rw [va_up_ne _ _ (by omega)]; first | assumption | exact va_up_self _ _ _ | (rw [va_up_ne _ _ (by omega)]; first | assumption | exact va_up_self _ _ _ | (rw [va_up_ne _ _ (by omega)]; first | assumption | exact va_up_self _ _ _ | (rw [va_up_ne _ _ (by omega)]; first | assumption | exact va_up_self _ _ _ | (rw [va_up_ne _ _ (by omega)]; first | assumption | exact va_up_self _ _ _)))))) (by rfl) (by rfl) (by rfl) (by omega) (by omega) (show _ = some (mx_B G + (2 + 3 * iE)) by exact if_pos (by omega)) ?_
      refine mx_getf hG (idx := 230) (ci := 1) (kf := 2) (mx_d D_C_count 27 rfl) (by rfl) cls_E (by decide) w_44 (by first | assumption | omega) (by first | assumption | exact va_up_self _ _ _ | (rw [va_up_ne _ _ (by omega)]; first | assumption | exact va_up_self _ _ _ | (rw [va_up_ne _ _ (by omega)]; first | assumption | exact va_up_self _ _ _ | (rw [va_up_ne _ _ (by omega)]; first | assumption | exact va_up_self _ _ _ | (rw [va_up_ne _ _ (by omega)]; first | assumption | exact va_up_self _ _ _ | (rw [va_up_ne _ _ (by omega)]; first | assumption | exact va_up_self _ _ _)))))) (by rfl) ?_
      refine mx_iret (by rfl) (mx_d D_C_count 28 rfl) ?_
      exact q9
  · refine mx_tableOut 93 (mx_d D_C_count 1 rfl) (by rw [iI_toInt w1 w2]; omega) (by decide) ?_
    refine mx_throw hG ["java/lang/RuntimeException", "java/lang/Exception"] (E := "java/lang/IndexOutOfBoundsException") (tx := "there is no such count") (mx_d D_C_count 29 rfl) (mx_d D_C_count 30 rfl) (mx_d D_C_count 31 rfl) (mx_d D_C_count 32 rfl) (mx_d D_C_count 33 rfl) (by decide) (by decide) (by decide) w_260 w_13 w_261 (by decide) th_102 (by rfl) (by exact Nat.le_of_ble_eq_true rfl) ?_
    exact q0 hw
theorem c_C_read (hG : mx_ok G) (hN : 50 ≤ N) (hC : CS G Y U nE iE nD rA rS eA eS dA dS dW lc rn rg rN ps pN ce)
    (q : ∀ ce' (t0 : Nat → Int), CS G Y U nE iE nD rA rS (tl2 eA iE (rdOut Y ps t0 pN).2.2 1 (rdOut Y ps t0 pN).2.1) (tl2 eS iE (rdOut Y ps t0 pN).2.2 2 (rdOut Y ps t0 pN).2.1) dA dS dW lc rn rg rN ps (0) ce' → (∀ k, 50 ≤ k → ce' k = ce k) → Q (.inl (some (.int (iI (rdOut Y ps t0 pN).1)))) N ce' bc bs) : mx_M G Y_C_read (d + 6) bc bs false N ce 0 [(0, .ref (mx_B G + 0))] [] Q := by
  obtain ⟨⟨hY, hU, hE, hD, hrA, hrS, hEA, hES, hDA, hDS, hDz, hDW, hrN, hrn, hpN, hps⟩, c0, c1, c14, cE, cD, cL, cR, cP, cT⟩ := hC
  obtain ⟨p1, p2⟩ := cP
  obtain ⟨tc, tb, t0, t1, t2⟩ := cT
  have q9 := q
  replace q9 := fun ce' => q9 ce' t0
  clear q
  have hrow := rdOut_rows (Y := Y) (ps := ps) (t0 := t0) hpN
  generalize hO : rdOut Y ps t0 pN = O at q9 hrow
  obtain ⟨ans, rows, t⟩ := O
  simp only at q9 hrow
  refine mx_aload_n (k4 := 0) (mx_d D_C_read 0 rfl) (by rfl) ?_
  refine mx_getf hG (idx := 66) (ci := 0) (kf := 7) (mx_d D_C_read 1 rfl) (by rfl) cls_C (by decide) w_156 (by first | assumption | omega) (by first | assumption | exact va_up_self _ _ _ | (rw [va_up_ne _ _ (by omega)]; first | assumption | exact va_up_self _ _ _ | (rw [va_up_ne _ _ (by omega)]; first | assumption | exact va_up_self _ _ _ | (rw [va_up_ne _ _ (by omega)]; first | assumption | exact va_up_self _ _ _ | (rw [va_up_ne _ _ (by omega)]; first | assumption | exact va_up_self _ _ _ | (rw [va_up_ne _ _ (by omega)]; first | assumption | exact va_up_self _ _ _)))))) (by rfl) ?_
  refine mx_aload_n (k4 := 0) (mx_d D_C_read 2 rfl) (by rfl) ?_
  refine mx_getf hG (idx := 59) (ci := 0) (kf := 6) (mx_d D_C_read 3 rfl) (by rfl) cls_C (by decide) w_155 (by first | assumption | omega) (by first | assumption | exact va_up_self _ _ _ | (rw [va_up_ne _ _ (by omega)]; first | assumption | exact va_up_self _ _ _ | (rw [va_up_ne _ _ (by omega)]; first | assumption | exact va_up_self _ _ _ | (rw [va_up_ne _ _ (by omega)]; first | assumption | exact va_up_self _ _ _ | (rw [va_up_ne _ _ (by omega)]; first | assumption | exact va_up_self _ _ _ | (rw [va_up_ne _ _ (by omega)]; first | assumption | exact va_up_self _ _ _)))))) (by rfl) ?_
  refine mx_callV hG (Y' := Y_T_scan) (ci := 6) [_] (mx_d D_C_read 4 rfl) in_T_scan w_205 w_206 s_T_scan (by rfl) np_T_scan (by exact Nat.le_of_ble_eq_true rfl) (by rfl) (by first | assumption | omega) (by first | assumption | exact va_up_self _ _ _ | (rw [va_up_ne _ _ (by omega)]; first | assumption | exact va_up_self _ _ _ | (rw [va_up_ne _ _ (by omega)]; first | assumption | exact va_up_self _ _ _ | (rw [va_up_ne _ _ (by omega)]; first | assumption | exact va_up_self _ _ _ | (rw [va_up_ne _ _ (by omega)]; first | assumption | exact va_up_self _ _ _ | (rw [va_up_ne _ _ (by omega)]; first | assumption | exact va_up_self _ _ _)))))) (by rfl) (by exact Nat.le_of_ble_eq_true rfl) (c_T_scan hG (by omega) (by omega) (by omega) (by omega) (by omega) (by omega) (by omega) (by omega) (by omega) t1 t2 p1 p2 hY.2 hpN hps (fun ce1 tc1 tb1 tt k1 k2 k3 k4 => ?_))
  rw [hO] at k4 ⊢
  simp only at k4 ⊢
  have d0 : ce1 0 = _ := (k1 0 (by omega) (by omega)).trans c0
  have d46 : ce1 46 = _ := (k1 46 (by omega) (by omega)).trans p1
  refine mx_istore_n (k4 := 1) (mx_d D_C_read 5 rfl) (by decide) ?_
  refine mx_aload_n (k4 := 0) (mx_d D_C_read 6 rfl) (by rfl) ?_
  refine mx_getf hG (idx := 59) (ci := 0) (kf := 6) (mx_d D_C_read 7 rfl) (by rfl) cls_C (by decide) w_155 (by first | assumption | omega) (by first | assumption | exact va_up_self _ _ _ | (rw [va_up_ne _ _ (by omega)]; first | assumption | exact va_up_self _ _ _ | (rw [va_up_ne _ _ (by omega)]; first | assumption | exact va_up_self _ _ _ | (rw [va_up_ne _ _ (by omega)]; first | assumption | exact va_up_self _ _ _ | (rw [va_up_ne _ _ (by omega)]; first | assumption | exact va_up_self _ _ _ | (rw [va_up_ne _ _ (by omega)]; first | assumption | exact va_up_self _ _ _)))))) (by rfl) ?_
  refine mx_iconst (n := 0) (mx_d D_C_read 8 rfl) ?_
  refine mx_putf hG (idx := 209) (ci := 5) (kf := 1) (t := (.int)) (mx_d D_C_read 9 rfl) (by rfl) cls_P (by decide) (Or.inl rfl) w_124 (by first | assumption | omega) (by first | assumption | exact va_up_self _ _ _ | (rw [va_up_ne _ _ (by omega)]; first | assumption | exact va_up_self _ _ _ | (rw [va_up_ne _ _ (by omega)]; first | assumption | exact va_up_self _ _ _ | (rw [va_up_ne _ _ (by omega)]; first | assumption | exact va_up_self _ _ _ | (rw [va_up_ne _ _ (by omega)]; first | assumption | exact va_up_self _ _ _ | (rw [va_up_ne _ _ (by omega)]; first | assumption | exact va_up_self _ _ _)))))) (by exact Nat.le_of_ble_eq_true rfl) (by decide +kernel) (by rfl) (by rfl) ?_
  refine mx_iconst (n := 0) (mx_d D_C_read 10 rfl) ?_
  refine mx_istore_n (k4 := 2) (mx_d D_C_read 11 rfl) (by decide) ?_
  have big : ∀ (k i : Nat) (ce2 : Nat → va_E), i + k = rows → CS G Y U nE iE nD rA rS (tl2 eA iE t 1 i) (tl2 eS iE t 2 i) dA dS dW lc rn rg rN ps (0) ce2 → (∀ k, 50 ≤ k → ce2 k = ce k) → ce2 48 = .inr (6, [.int (iI Y), .ref (mx_B G + 49), .int (iI (tc1 : Nat)), .int (iI (bI tb1))]) → ce2 49 = aI G 100 tt → mx_M G Y_C_read (d + 6) bc bs false N ce2 22 [(0, .ref (mx_B G + 0)), (1, .int (iI ans)), (2, .int (iI i))] [] Q := by
    intro k
    induction k with
    | zero =>
      intro i ce2 hi hC2 hf z1 z2
      obtain rfl : i = rows := by omega
      refine mx_iload_n (k4 := 2) (mx_d D_C_read 12 rfl) (by rfl) ?_
      refine mx_iload_n (k4 := 1) (mx_d D_C_read 13 rfl) (by rfl) ?_
      refine mx_icmp_geY 70 (mx_d D_C_read 14 rfl) (by decide) (by omega) (by omega) (by omega) (by omega) (by omega) ?_
      refine mx_iload_n (k4 := 1) (mx_d D_C_read 36 rfl) (by rfl) ?_
      refine mx_iret (by rfl) (mx_d D_C_read 37 rfl) ?_
      exact q9 ce2 hC2 hf
    | succ k ih =>
      intro i ce2 hi hC2 hf z1 z2
      obtain ⟨⟨-, -, -, -, -, -, hEA2, hES2, -, -, -, -, -, -, -, -⟩, d0, d1, d14, dE, dD, dL, dR, dP, dT⟩ := hC2
      rcases hrow with hrow | hrow
      · omega
      · obtain ⟨-, w2, w3, w4⟩ := hrow
        have w5 := w4 i (by omega)
        have ett : tt = t := k4 (by omega)
        subst ett
        obtain ⟨g1, g2, g3⟩ := dE iE (by omega)
        have eY : tt (3 * i) = ((tt (3 * i)).toNat : Nat) := by omega
        have hs9 := hES2 iE (by omega) (tt (3 * i)).toNat (by omega)
        refine mx_iload_n (k4 := 2) (mx_d D_C_read 12 rfl) (by rfl) ?_
        refine mx_iload_n (k4 := 1) (mx_d D_C_read 13 rfl) (by rfl) ?_
        refine mx_icmp_geN 70 (mx_d D_C_read 14 rfl) (by decide) (by omega) (by omega) (by omega) (by omega) (by omega) ?_
        refine mx_aload_n (k4 := 0) (mx_d D_C_read 15 rfl) (by rfl) ?_
        refine mx_getf hG (idx := 28) (ci := 0) (kf := 2) (mx_d D_C_read 16 rfl) (by rfl) cls_C (by decide) w_151 (by first | assumption | omega) (by first | assumption | exact va_up_self _ _ _ | (rw [va_up_ne _ _ (by omega)]; first | assumption | exact va_up_self _ _ _ | (rw [va_up_ne _ _ (by omega)]; first | assumption | exact va_up_self _ _ _ | (rw [va_up_ne _ _ (by omega)]; first | assumption | exact va_up_self _ _ _ | (rw [va_up_ne _ _ (by omega)]; first | assumption | exact va_up_self _ _ _ | (rw [va_up_ne _ _ (by omega)]; first | assumption | exact va_up_self _ _ _)))))) (by rfl) ?_
        refine mx_aload_n (k4 := 0) (mx_d D_C_read 17 rfl) (by rfl) ?_
        refine mx_getf hG (idx := 80) (ci := 0) (kf := 9) (mx_d D_C_read 18 rfl) (by rfl) cls_C (by decide) w_158 (by first | assumption | omega) (by first | assumption | exact va_up_self _ _ _ | (rw [va_up_ne _ _ (by omega)]; first | assumption | exact va_up_self _ _ _ | (rw [va_up_ne _ _ (by omega)]; first | assumption | exact va_up_self _ _ _ | (rw [va_up_ne _ _ (by omega)]; first | assumption | exact va_up_self _ _ _ | (rw [va_up_ne _ _ (by omega)]; first | assumption | exact va_up_self _ _ _ | (rw [va_up_ne _ _ (by omega)]; first | assumption | exact va_up_self _ _ _)))))) (by rfl) ?_
        refine mx_aald hG 3 (iE) (mx_d D_C_read 19 rfl) (by first | assumption | omega) (by first | assumption | exact va_up_self _ _ _ | (rw [va_up_ne _ _ (by omega)]; first | assumption | exact va_up_self _ _ _ | (rw [va_up_ne _ _ (by omega)]; first | assumption | exact va_up_self _ _ _ | (rw [va_up_ne _ _ (by omega)]; first | assumption | exact va_up_self _ _ _ | (rw [va_up_ne _ _ (by omega)]; first | assumption | exact va_up_self _ _ _ | (rw [va_up_ne _ _ (by omega)]; first | assumption | exact va_up_self _ _ _)))))) (by rfl) (by rfl) (by rfl) (by omega) (by omega) (show _ = some (mx_B G + (2 + 3 * iE)) by exact if_pos (by omega)) ?_
        refine mx_aload_n (k4 := 0) (mx_d D_C_read 20 rfl) (by rfl) ?_
        refine mx_getf hG (idx := 66) (ci := 0) (kf := 7) (mx_d D_C_read 21 rfl) (by rfl) cls_C (by decide) w_156 (by first | assumption | omega) (by first | assumption | exact va_up_self _ _ _ | (rw [va_up_ne _ _ (by omega)]; first | assumption | exact va_up_self _ _ _ | (rw [va_up_ne _ _ (by omega)]; first | assumption | exact va_up_self _ _ _ | (rw [va_up_ne _ _ (by omega)]; first | assumption | exact va_up_self _ _ _ | (rw [va_up_ne _ _ (by omega)]; first | assumption | exact va_up_self _ _ _ | (rw [va_up_ne _ _ (by omega)]; first | assumption | exact va_up_self _ _ _)))))) (by rfl) ?_
        refine mx_iload_n (k4 := 2) (mx_d D_C_read 22 rfl) (by rfl) ?_
        refine mx_callV hG (Y' := Y_T_yearOf) (ci := 6) [_] (mx_d D_C_read 23 rfl) in_T_yearOf w_224 w_225 s_T_yearOf (by rfl) np_T_yearOf (by exact Nat.le_of_ble_eq_true rfl) (by rfl) (by first | assumption | omega) (by first | assumption | exact va_up_self _ _ _ | (rw [va_up_ne _ _ (by omega)]; first | assumption | exact va_up_self _ _ _ | (rw [va_up_ne _ _ (by omega)]; first | assumption | exact va_up_self _ _ _ | (rw [va_up_ne _ _ (by omega)]; first | assumption | exact va_up_self _ _ _ | (rw [va_up_ne _ _ (by omega)]; first | assumption | exact va_up_self _ _ _ | (rw [va_up_ne _ _ (by omega)]; first | assumption | exact va_up_self _ _ _)))))) (by rfl) (by exact Nat.le_of_ble_eq_true rfl) (c_T_yearOf hG (by omega) (by omega) z1 z2 (r := i) (by omega) ?_)
        refine mx_aload_n (k4 := 0) (mx_d D_C_read 24 rfl) (by rfl) ?_
        refine mx_getf hG (idx := 66) (ci := 0) (kf := 7) (mx_d D_C_read 25 rfl) (by rfl) cls_C (by decide) w_156 (by first | assumption | omega) (by first | assumption | exact va_up_self _ _ _ | (rw [va_up_ne _ _ (by omega)]; first | assumption | exact va_up_self _ _ _ | (rw [va_up_ne _ _ (by omega)]; first | assumption | exact va_up_self _ _ _ | (rw [va_up_ne _ _ (by omega)]; first | assumption | exact va_up_self _ _ _ | (rw [va_up_ne _ _ (by omega)]; first | assumption | exact va_up_self _ _ _ | (rw [va_up_ne _ _ (by omega)]; first | assumption | exact va_up_self _ _ _)))))) (by rfl) ?_
        refine mx_iload_n (k4 := 2) (mx_d D_C_read 26 rfl) (by rfl) ?_
        refine mx_callV hG (Y' := Y_T_ageOf) (ci := 6) [_] (mx_d D_C_read 27 rfl) in_T_ageOf w_228 w_229 s_T_ageOf (by rfl) np_T_ageOf (by exact Nat.le_of_ble_eq_true rfl) (by rfl) (by first | assumption | omega) (by first | assumption | exact va_up_self _ _ _ | (rw [va_up_ne _ _ (by omega)]; first | assumption | exact va_up_self _ _ _ | (rw [va_up_ne _ _ (by omega)]; first | assumption | exact va_up_self _ _ _ | (rw [va_up_ne _ _ (by omega)]; first | assumption | exact va_up_self _ _ _ | (rw [va_up_ne _ _ (by omega)]; first | assumption | exact va_up_self _ _ _ | (rw [va_up_ne _ _ (by omega)]; first | assumption | exact va_up_self _ _ _)))))) (by rfl) (by exact Nat.le_of_ble_eq_true rfl) (c_T_ageOf hG (by omega) (by omega) z1 z2 (r := i) (by omega) ?_)
        refine mx_aload_n (k4 := 0) (mx_d D_C_read 28 rfl) (by rfl) ?_
        refine mx_getf hG (idx := 66) (ci := 0) (kf := 7) (mx_d D_C_read 29 rfl) (by rfl) cls_C (by decide) w_156 (by first | assumption | omega) (by first | assumption | exact va_up_self _ _ _ | (rw [va_up_ne _ _ (by omega)]; first | assumption | exact va_up_self _ _ _ | (rw [va_up_ne _ _ (by omega)]; first | assumption | exact va_up_self _ _ _ | (rw [va_up_ne _ _ (by omega)]; first | assumption | exact va_up_self _ _ _ | (rw [va_up_ne _ _ (by omega)]; first | assumption | exact va_up_self _ _ _ | (rw [va_up_ne _ _ (by omega)]; first | assumption | exact va_up_self _ _ _)))))) (by rfl) ?_
        refine mx_iload_n (k4 := 2) (mx_d D_C_read 30 rfl) (by rfl) ?_
        refine mx_callV hG (Y' := Y_T_spreadOf) (ci := 6) [_] (mx_d D_C_read 31 rfl) in_T_spreadOf w_232 w_233 s_T_spreadOf (by rfl) np_T_spreadOf (by exact Nat.le_of_ble_eq_true rfl) (by rfl) (by first | assumption | omega) (by first | assumption | exact va_up_self _ _ _ | (rw [va_up_ne _ _ (by omega)]; first | assumption | exact va_up_self _ _ _ | (rw [va_up_ne _ _ (by omega)]; first | assumption | exact va_up_self _ _ _ | (rw [va_up_ne _ _ (by omega)]; first | assumption | exact va_up_self _ _ _ | (rw [va_up_ne _ _ (by omega)]; first | assumption | exact va_up_self _ _ _ | (rw [va_up_ne _ _ (by omega)]; first | assumption | exact va_up_self _ _ _)))))) (by rfl) (by exact Nat.le_of_ble_eq_true rfl) (c_T_spreadOf hG (by omega) (by omega) z1 z2 (r := i) (by omega) ?_)
        rw [eY]
        refine mx_callV hG (Y' := Y_E_tellRow) (ci := 1) [_, _, _] (mx_d D_C_read 32 rfl) in_E_tellRow w_236 w_237 s_E_tellRow (by rfl) np_E_tellRow (by exact Nat.le_of_ble_eq_true rfl) (by rfl) (by first | assumption | omega) (by first | assumption | exact va_up_self _ _ _ | (rw [va_up_ne _ _ (by omega)]; first | assumption | exact va_up_self _ _ _ | (rw [va_up_ne _ _ (by omega)]; first | assumption | exact va_up_self _ _ _ | (rw [va_up_ne _ _ (by omega)]; first | assumption | exact va_up_self _ _ _ | (rw [va_up_ne _ _ (by omega)]; first | assumption | exact va_up_self _ _ _ | (rw [va_up_ne _ _ (by omega)]; first | assumption | exact va_up_self _ _ _)))))) (by rfl) (by exact Nat.le_of_ble_eq_true rfl) (c_E_tellRow hG (by omega) (by omega) (by omega) (by omega) (by omega) (by omega) g1 g2 g3 (by omega) (y := (tt (3 * i)).toNat) (by omega) hs9 ?_)
        refine mx_pop (mx_d D_C_read 33 rfl) (by rfl) ?_
        refine mx_iincI (i := 2) (n := 1) (mx_d D_C_read 34 rfl) (by rfl) (by decide) ?_
        refine mx_goto 22 (mx_d D_C_read 35 rfl) (by decide) ?_
        refine mx_loc (by rfl) (ih (i + 1) _ (by omega) ⟨⟨hY, hU, hE, hD, hrA, hrS, up2_bd hEA2 w5.2.1, up2_bd hES2 ⟨by omega, by omega⟩, hDA, hDS, hDz, hDW, hrN, hrn, by omega, fun j hj => absurd hj (by omega)⟩, ?_, ?_, ?_, csE_tell dE (by omega) (by omega) (by omega), csD_fr dD (fun k _ _ => ?_), csL_fr dL (fun k _ _ => ?_), csR_fr dR (fun k _ _ => ?_), csP_fr dP (fun k _ _ => ?_), csT_fr dT (fun k _ _ => ?_)⟩ (fun k hk => ?_) ?_ ?_)
        · rw [va_up_ne _ _ (by omega), va_up_ne _ _ (by omega), va_up_ne _ _ (by omega)]; exact d0
        · rw [va_up_ne _ _ (by omega), va_up_ne _ _ (by omega), va_up_ne _ _ (by omega)]; exact d1
        · rw [va_up_ne _ _ (by omega), va_up_ne _ _ (by omega), va_up_ne _ _ (by omega)]; exact d14
        · rw [va_up_ne _ _ (by omega), va_up_ne _ _ (by omega), va_up_ne _ _ (by omega)]
        · rw [va_up_ne _ _ (by omega), va_up_ne _ _ (by omega), va_up_ne _ _ (by omega)]
        · rw [va_up_ne _ _ (by omega), va_up_ne _ _ (by omega), va_up_ne _ _ (by omega)]
        · rw [va_up_ne _ _ (by omega), va_up_ne _ _ (by omega), va_up_ne _ _ (by omega)]
        · rw [va_up_ne _ _ (by omega), va_up_ne _ _ (by omega), va_up_ne _ _ (by omega)]
        · rw [va_up_ne _ _ (by omega), va_up_ne _ _ (by omega), va_up_ne _ _ (by omega)]; exact hf k hk
        · rw [va_up_ne _ _ (by omega), va_up_ne _ _ (by omega), va_up_ne _ _ (by omega)]; exact z1
        · rw [va_up_ne _ _ (by omega), va_up_ne _ _ (by omega), va_up_ne _ _ (by omega)]; exact z2
  have u1 : ∀ k, k ≠ 46 → k ≠ 48 → k ≠ 49 → va_up ce1 46 (.inr (5, [.ref (mx_B G + 47), .int (iI ((0 : Nat) : Int))])) k = ce k := fun k h1 h2 h3 => by rw [va_up_ne _ _ h1]; exact k1 k h2 h3
  refine mx_loc (by rfl) (big rows 0 _ (by omega) ⟨⟨hY, hU, hE, hD, hrA, hrS, hEA, hES, hDA, hDS, hDz, hDW, hrN, hrn, by omega, fun j hj => absurd hj (by omega)⟩, (u1 0 (by omega) (by omega) (by omega)).trans c0, (u1 1 (by omega) (by omega) (by omega)).trans c1, (u1 14 (by omega) (by omega) (by omega)).trans c14, csE_fr cE (fun k _ _ => u1 k (by omega) (by omega) (by omega)), csD_fr cD (fun k _ _ => u1 k (by omega) (by omega) (by omega)), csL_fr cL (fun k _ _ => u1 k (by omega) (by omega) (by omega)), csR_fr cR (fun k _ _ => u1 k (by omega) (by omega) (by omega)), ⟨va_up_self _ _ _, (u1 47 (by omega) (by omega) (by omega)).trans p2⟩, ⟨tc1, tb1, tt, ?_, ?_⟩⟩ (fun k hk => u1 k (by omega) (by omega) (by omega)) ?_ ?_)
  all_goals rw [va_up_ne _ _ (by omega)]
  all_goals assumption
end CZ
end
section
/-! the class's constructor -/
def clY (z : Int) : Int := if 8 < (if z < 60 then z else 60) then (if z < 60 then z else 60) else 8
def clU (z : Int) : Int := if 1 < (if z < 65536 then z else 65536) then (if z < 65536 then z else 65536) else 1
abbrev rfT (G : mx_G) (t n i : Nat) (f : Nat → Nat) : va_E := .inl (G.2.2.2 t, n, .inr (.inr (.inr (.inr (fun j => if j < i then some (mx_B G + f j) else none)))))
theorem rfT_up {G : mx_G} {i : Nat} {f : Nat → Nat} : va_up (fun j => if j < i then some (mx_B G + f j) else none) i (some (mx_B G + f i)) = fun j => if j < i + 1 then some (mx_B G + f j) else none := by
  funext j
  by_cases e : j = i
  · subst e; rw [va_up_self, if_pos (by omega)]
  · rw [va_up_ne _ _ e]
    by_cases h : j < i
    · rw [if_pos h, if_pos (by omega)]
    · rw [if_neg h, if_neg (by omega)]
theorem rfT_0 {G : mx_G} {f : Nat → Nat} : (fun _ => none : Nat → Option Nat) = fun j => if j < 0 then some (mx_B G + f j) else none := by
  funext j
  rw [if_neg (by omega)]
theorem rwN_0 (n : Nat) : rwN (fun _ => 0) n = 0 := by
  induction n with
  | zero => rfl
  | succ n ih => simp only [rwN, ih]; rfl
theorem bgN_0 (n : Nat) : bgN (fun _ => false) n = 0 := by
  induction n with
  | zero => rfl
  | succ n ih => simp only [bgN, ih, bgB]; rfl
theorem mx_Neq {G : mx_G} {Y : mx_Y} {d bc bs : Nat} {ex : Bool} {N N' : Nat} {ce : Nat → va_E} {pc : Nat} {l : List (Nat × Value)} {st : List Value} {Q : mx_P} (e : N = N') (k : mx_M G Y d bc bs ex N' ce pc l st Q) : mx_M G Y d bc bs ex N ce pc l st Q := e ▸ k
section CI
variable {G : mx_G} {d bc bs : Nat} {ce : Nat → va_E} {Q : mx_P}
theorem c_C_init (hG : mx_ok G) {z u : Int} (z1 : -2147483648 ≤ z) (z2 : z < 2147483648) (u1 : -2147483648 ≤ u) (u2 : u < 2147483648) (h0 : ce 0 = .inr (0, [.int 0, .int 0, .null, .null, .null, .null, .null, .null, .int 0, .int 0, .int 0, .int 0, .int 0]))
    (q : ∀ ce' (Y : Nat) (U : Int), (Y : Int) = clY z → U = clU u → CS G Y U 1 0 0 0 0 (fun _ _ => 0) (fun _ _ => 0) (fun _ => 0) (fun _ => 0) (fun _ _ => 0) (fun _ => false) (fun _ => 0) (fun _ => 0) 0 (fun _ => 0) 0 ce' → Q (.inl none) 50 ce' bc bs) : mx_M G Y_C_init (d + 2) (bc + 49) (bs + 2000) true 1 ce 0 [(0, .ref (mx_B G + 0)), (1, .int (iI z)), (2, .int (iI u))] [] Q := by
  obtain ⟨Y, hYe⟩ : ∃ Y : Nat, (Y : Int) = clY z := ⟨(clY z).toNat, by unfold clY; split <;> (try split) <;> omega⟩
  have hY : 8 ≤ Y ∧ Y ≤ 60 := by
    unfold clY at hYe
    split at hYe <;> (try split at hYe) <;> omega
  obtain ⟨U, hUe⟩ : ∃ U : Int, U = clU u := ⟨_, rfl⟩
  have hU : 1 ≤ U ∧ U ≤ 65536 := by
    unfold clU at hUe
    split at hUe <;> (try split at hUe) <;> omega
  have q := fun ce' => q ce' Y U hYe hUe
  have fin : ∀ (ce2 : Nat → va_E), ce2 0 = .inr (0, [.int (iI Y), .int (iI U), .ref (mx_B G + 1), .ref (mx_B G + 14), .null, .null, .null, .null, .int 0, .int 0, .int 0, .int 0, .int 0]) → ce2 1 = aQ G 3 4 (fun j => 2 + 3 * j) → ce2 14 = aQ G 4 12 (fun j => 15 + 2 * j) → csE G Y (fun _ _ => 0) (fun _ _ => 0) ce2 → csD G Y (fun _ => 0) (fun _ => 0) (fun _ _ => 0) ce2 → ∀ {l9 : List (Nat × Value)}, mx_get l9 0 = some (.ref (mx_B G + 0)) → mx_M G Y_C_init (d + 2) (bc + 11) (bs + 500) true 39 ce2 111 l9 [] Q := by
    intro ce2 g0 g1 g14 gE gD l9 hl
    refine mx_loc (l' := [(0, .ref (mx_B G + 0))]) (by simp only [List.map_cons, List.map_nil, hl]) ?_
    refine mx_bud (bc := bc + 1 + 1 + 1 + 1 + 2 + 1 + 3 + 1) (bs := bs + 100 + 4 + 100 + 2 + 8 + 8 + 3 + Y + Y + Y + 4) (by omega) (by omega) ?_
    refine mx_aload_n (k4 := 0) (mx_d D_C_init 56 rfl) (by rfl) ?_
    refine mx_new hG (ci := 3) (n := 4) [.null, .null, .null, .int 0] (mx_d D_C_init 57 rfl) (by rfl) cls_L w_74 w_75 w_5 (by decide) ?_
    refine mx_dup (mx_d D_C_init 58 rfl) (by rfl) ?_
    refine mx_aload_n (k4 := 0) (mx_d D_C_init 59 rfl) (by rfl) ?_
    refine mx_getf hG (idx := 18) (ci := 0) (kf := 0) (mx_d D_C_init 60 rfl) (by rfl) cls_C (by decide) w_149 (by first | assumption | omega) (by first | assumption | exact va_up_self _ _ _ | (rw [va_up_ne _ _ (by omega)]; first | assumption | exact va_up_self _ _ _ | (rw [va_up_ne _ _ (by omega)]; first | assumption | exact va_up_self _ _ _ | (rw [va_up_ne _ _ (by omega)]; first | assumption | exact va_up_self _ _ _ | (rw [va_up_ne _ _ (by omega)]; first | assumption | exact va_up_self _ _ _ | (rw [va_up_ne _ _ (by omega)]; first | assumption | exact va_up_self _ _ _)))))) (by rfl) ?_
    refine mx_callI (Y' := Y_L_init) [_] (mx_d D_C_init 61 rfl) in_L_init w_78 rfl w_76 w_77 np_L_init (by exact Nat.le_of_ble_eq_true rfl) (by rfl) (by rfl) (by exact Nat.le_of_ble_eq_true rfl) (c_L_init hG (by omega) (va_up_self _ _ _) (by omega) (fun ce3 k1 k2 k3 k4 k5 => ?_))
    have a0 : ce3 0 = _ := (k1 0 (by omega) (by omega)).trans ((va_up_ne _ _ (by omega)).trans g0)
    refine mx_putf hG (idx := 45) (ci := 0) (kf := 4) (t := (.object "CurveSums$LeastSet")) (mx_d D_C_init 62 rfl) (by rfl) cls_C (by decide) (Or.inr ⟨rfl, rfl, rfl⟩) w_153 (by first | assumption | omega) (by first | assumption | exact va_up_self _ _ _ | (rw [va_up_ne _ _ (by omega)]; first | assumption | exact va_up_self _ _ _ | (rw [va_up_ne _ _ (by omega)]; first | assumption | exact va_up_self _ _ _ | (rw [va_up_ne _ _ (by omega)]; first | assumption | exact va_up_self _ _ _ | (rw [va_up_ne _ _ (by omega)]; first | assumption | exact va_up_self _ _ _ | (rw [va_up_ne _ _ (by omega)]; first | assumption | exact va_up_self _ _ _)))))) (by exact Nat.le_of_ble_eq_true rfl) (by decide +kernel) (by rfl) (by rfl) ?_
    refine mx_aload_n (k4 := 0) (mx_d D_C_init 63 rfl) (by rfl) ?_
    refine mx_new hG (ci := 4) (n := 3) [.null, .null, .int 0] (mx_d D_C_init 64 rfl) (by rfl) cls_R w_97 w_98 w_6 (by decide) ?_
    refine mx_dup (mx_d D_C_init 65 rfl) (by rfl) ?_
    refine mx_callI (Y' := Y_R_init) [] (mx_d D_C_init 66 rfl) in_R_init w_101 rfl w_99 w_100 np_R_init (by exact Nat.le_of_ble_eq_true rfl) (by rfl) (by rfl) (by exact Nat.le_of_ble_eq_true rfl) (c_R_init hG (by omega) (va_up_self _ _ _) (fun ce4 m1 m2 m3 m4 => ?_))
    have b0 : ce4 0 = _ := (m1 0 (by omega) (by omega)).trans ((va_up_ne _ _ (by omega)).trans (va_up_self _ _ _))
    refine mx_putf hG (idx := 52) (ci := 0) (kf := 5) (t := (.object "CurveSums$DateRow")) (mx_d D_C_init 67 rfl) (by rfl) cls_C (by decide) (Or.inr ⟨rfl, rfl, rfl⟩) w_154 (by first | assumption | omega) (by first | assumption | exact va_up_self _ _ _ | (rw [va_up_ne _ _ (by omega)]; first | assumption | exact va_up_self _ _ _ | (rw [va_up_ne _ _ (by omega)]; first | assumption | exact va_up_self _ _ _ | (rw [va_up_ne _ _ (by omega)]; first | assumption | exact va_up_self _ _ _ | (rw [va_up_ne _ _ (by omega)]; first | assumption | exact va_up_self _ _ _ | (rw [va_up_ne _ _ (by omega)]; first | assumption | exact va_up_self _ _ _)))))) (by exact Nat.le_of_ble_eq_true rfl) (by decide +kernel) (by rfl) (by rfl) ?_
    refine mx_aload_n (k4 := 0) (mx_d D_C_init 68 rfl) (by rfl) ?_
    refine mx_new hG (ci := 5) (n := 2) [.null, .int 0] (mx_d D_C_init 69 rfl) (by rfl) cls_P w_114 w_115 w_7 (by decide) ?_
    refine mx_dup (mx_d D_C_init 70 rfl) (by rfl) ?_
    refine mx_callI (Y' := Y_P_init) [] (mx_d D_C_init 71 rfl) in_P_init w_118 rfl w_116 w_117 np_P_init (by exact Nat.le_of_ble_eq_true rfl) (by rfl) (by rfl) (by exact Nat.le_of_ble_eq_true rfl) (c_P_init hG (by omega) (va_up_self _ _ _) (fun ce5 n1 n2 n3 => ?_))
    have d0 : ce5 0 = _ := (n1 0 (by omega) (by omega)).trans ((va_up_ne _ _ (by omega)).trans (va_up_self _ _ _))
    refine mx_putf hG (idx := 59) (ci := 0) (kf := 6) (t := (.object "CurveSums$Pad")) (mx_d D_C_init 72 rfl) (by rfl) cls_C (by decide) (Or.inr ⟨rfl, rfl, rfl⟩) w_155 (by first | assumption | omega) (by first | assumption | exact va_up_self _ _ _ | (rw [va_up_ne _ _ (by omega)]; first | assumption | exact va_up_self _ _ _ | (rw [va_up_ne _ _ (by omega)]; first | assumption | exact va_up_self _ _ _ | (rw [va_up_ne _ _ (by omega)]; first | assumption | exact va_up_self _ _ _ | (rw [va_up_ne _ _ (by omega)]; first | assumption | exact va_up_self _ _ _ | (rw [va_up_ne _ _ (by omega)]; first | assumption | exact va_up_self _ _ _)))))) (by exact Nat.le_of_ble_eq_true rfl) (by decide +kernel) (by rfl) (by rfl) ?_
    refine mx_aload_n (k4 := 0) (mx_d D_C_init 73 rfl) (by rfl) ?_
    refine mx_new hG (ci := 6) (n := 4) [.int 0, .null, .int 0, .int 0] (mx_d D_C_init 74 rfl) (by rfl) cls_T w_130 w_131 w_8 (by decide) ?_
    refine mx_dup (mx_d D_C_init 75 rfl) (by rfl) ?_
    refine mx_aload_n (k4 := 0) (mx_d D_C_init 76 rfl) (by rfl) ?_
    refine mx_getf hG (idx := 18) (ci := 0) (kf := 0) (mx_d D_C_init 77 rfl) (by rfl) cls_C (by decide) w_149 (by first | assumption | omega) (by first | assumption | exact va_up_self _ _ _ | (rw [va_up_ne _ _ (by omega)]; first | assumption | exact va_up_self _ _ _ | (rw [va_up_ne _ _ (by omega)]; first | assumption | exact va_up_self _ _ _ | (rw [va_up_ne _ _ (by omega)]; first | assumption | exact va_up_self _ _ _ | (rw [va_up_ne _ _ (by omega)]; first | assumption | exact va_up_self _ _ _ | (rw [va_up_ne _ _ (by omega)]; first | assumption | exact va_up_self _ _ _)))))) (by rfl) ?_
    refine mx_callI (Y' := Y_T_init) [_] (mx_d D_C_init 78 rfl) in_T_init w_134 rfl w_132 w_133 np_T_init (by exact Nat.le_of_ble_eq_true rfl) (by rfl) (by rfl) (by exact Nat.le_of_ble_eq_true rfl) (c_T_init hG (by omega) (va_up_self _ _ _) (fun ce6 p1 p2 p3 => ?_))
    have e0 : ce6 0 = _ := (p1 0 (by omega) (by omega)).trans ((va_up_ne _ _ (by omega)).trans (va_up_self _ _ _))
    refine mx_putf hG (idx := 66) (ci := 0) (kf := 7) (t := (.object "CurveSums$TextReader")) (mx_d D_C_init 79 rfl) (by rfl) cls_C (by decide) (Or.inr ⟨rfl, rfl, rfl⟩) w_156 (by first | assumption | omega) (by first | assumption | exact va_up_self _ _ _ | (rw [va_up_ne _ _ (by omega)]; first | assumption | exact va_up_self _ _ _ | (rw [va_up_ne _ _ (by omega)]; first | assumption | exact va_up_self _ _ _ | (rw [va_up_ne _ _ (by omega)]; first | assumption | exact va_up_self _ _ _ | (rw [va_up_ne _ _ (by omega)]; first | assumption | exact va_up_self _ _ _ | (rw [va_up_ne _ _ (by omega)]; first | assumption | exact va_up_self _ _ _)))))) (by exact Nat.le_of_ble_eq_true rfl) (by decide +kernel) (by rfl) (by rfl) ?_
    refine mx_aload_n (k4 := 0) (mx_d D_C_init 80 rfl) (by rfl) ?_
    refine mx_iconst (n := 1) (mx_d D_C_init 81 rfl) ?_
    refine mx_putf hG (idx := 70) (ci := 0) (kf := 8) (t := (.int)) (mx_d D_C_init 82 rfl) (by rfl) cls_C (by decide) (Or.inl rfl) w_157 (by first | assumption | omega) (by first | assumption | exact va_up_self _ _ _ | (rw [va_up_ne _ _ (by omega)]; first | assumption | exact va_up_self _ _ _ | (rw [va_up_ne _ _ (by omega)]; first | assumption | exact va_up_self _ _ _ | (rw [va_up_ne _ _ (by omega)]; first | assumption | exact va_up_self _ _ _ | (rw [va_up_ne _ _ (by omega)]; first | assumption | exact va_up_self _ _ _ | (rw [va_up_ne _ _ (by omega)]; first | assumption | exact va_up_self _ _ _)))))) (by exact Nat.le_of_ble_eq_true rfl) (by decide +kernel) (by rfl) (by rfl) ?_
    refine mx_vret (by rfl) (mx_d D_C_init 83 rfl) ?_
    rw [bx_uu]
    have f5 : ∀ k, k ≠ 0 → k < 48 → k ≠ 46 → k ≠ 47 → ce6 k = ce4 k := fun k h1 h2 h3 h4 => by
      rw [p1 k (by omega) (by omega), va_up_ne _ _ (by omega), va_up_ne _ _ h1, n1 k h3 (by omega), va_up_ne _ _ (by omega), va_up_ne _ _ h1]
    have f4 : ∀ k, k ≠ 0 → k < 43 → ce6 k = ce3 k := fun k h1 h2 => by
      rw [f5 k h1 (by omega) (by omega) (by omega), m1 k (by omega) (by omega), va_up_ne _ _ (by omega), va_up_ne _ _ h1]
    have f3 : ∀ k, k ≠ 0 → k < 39 → ce6 k = ce2 k := fun k h1 h2 => by
      rw [f4 k h1 (by omega), k1 k (by omega) (by omega), va_up_ne _ _ (by omega)]
    have f6 : ∀ k, k < 48 → k ≠ 0 → 46 ≤ k → ce6 k = ce5 k := fun k h1 h2 h3 => by
      rw [p1 k (by omega) (by omega), va_up_ne _ _ (by omega), va_up_ne _ _ h2]
    refine q _ ⟨⟨hY, hU, ⟨by omega, by omega⟩, by omega, ⟨by omega, by omega⟩, ⟨by omega, by omega⟩, fun _ _ _ _ => ⟨Int.le_refl 0, show (0 : Int) ≤ 3000 by omega⟩, fun _ _ _ _ => ⟨Int.le_refl 0, show (0 : Int) ≤ 100 by omega⟩, fun _ _ => ⟨Int.le_refl 0, show (0 : Int) ≤ 3000 by omega⟩, fun _ _ => ⟨Int.le_refl 0, show (0 : Int) ≤ 100 by omega⟩, fun _ _ _ => ⟨rfl, rfl⟩, fun _ _ _ _ => ⟨Int.le_refl 0, show (0 : Int) ≤ 1000000 by omega⟩, by omega, fun _ h => absurd h (by omega), by omega, fun _ h => absurd h (by omega)⟩, va_up_self _ _ _, ?_, ?_, csE_fr gE (fun k _ _ => ?_), csD_fr gD (fun k _ _ => ?_), ⟨?_, ?_, fun _ => 0, fun _ => 0, ?_, ?_, ?_⟩, ⟨?_, ?_, ?_⟩, ⟨?_, ?_⟩, ⟨0, false, fun _ => 0, ?_, ?_⟩⟩
    · rw [va_up_ne _ _ (by omega), f3 1 (by omega) (by omega)]; exact g1
    · rw [va_up_ne _ _ (by omega), f3 14 (by omega) (by omega)]; exact g14
    · rw [va_up_ne _ _ (by omega), f3 k (by omega) (by omega)]
    · rw [va_up_ne _ _ (by omega), f3 k (by omega) (by omega)]
    · rw [va_up_ne _ _ (by omega), f4 39 (by omega) (by omega), k2, bgN_0]; rfl
    · rw [va_up_ne _ _ (by omega), f4 40 (by omega) (by omega)]; exact k3
    · rw [va_up_ne _ _ (by omega), f4 41 (by omega) (by omega)]; exact k4
    · rw [va_up_ne _ _ (by omega), f4 42 (by omega) (by omega)]; exact k5
    · rw [bgN_0]; exact fun k hk => absurd hk (by omega)
    · rw [va_up_ne _ _ (by omega), f5 43 (by omega) (by omega) (by omega) (by omega), m2]; rfl
    · rw [va_up_ne _ _ (by omega), f5 44 (by omega) (by omega) (by omega) (by omega), m3]; rfl
    · rw [va_up_ne _ _ (by omega), f5 45 (by omega) (by omega) (by omega) (by omega), m4]; rfl
    · rw [va_up_ne _ _ (by omega), f6 46 (by omega) (by omega) (by omega), n2]; rfl
    · rw [va_up_ne _ _ (by omega), f6 47 (by omega) (by omega) (by omega), n3]
    · rw [va_up_ne _ _ (by omega), p2]; rfl
    · rw [va_up_ne _ _ (by omega), p3]
  have lp2 : ∀ (k i : Nat) (ce2 : Nat → va_E), i + k = 12 → ce2 0 = .inr (0, [.int (iI Y), .int (iI U), .ref (mx_B G + 1), .ref (mx_B G + 14), .null, .null, .null, .null, .int 0, .int 0, .int 0, .int 0, .int 0]) → ce2 1 = aQ G 3 4 (fun j => 2 + 3 * j) → ce2 14 = rfT G 4 12 i (fun j => 15 + 2 * j) → csE G Y (fun _ _ => 0) (fun _ _ => 0) ce2 → (∀ j, j < i → ce2 (15 + 2 * j) = .inr (2, [.ref (mx_B G + (16 + 2 * j)), .int (iI 0), .int (iI 0)]) ∧ ce2 (16 + 2 * j) = aI G Y (fun _ => 0)) → mx_M G Y_C_init (d + 2) (bc + 11 + 2 * k) (bs + 500 + 63 * k) true (15 + 2 * i) ce2 82 [(0, .ref (mx_B G + 0)), (3, .int (iI i))] [] Q := by
    intro k
    induction k with
    | zero =>
      intro i ce2 hi g0 g1 g14 gE gD
      obtain rfl : i = 12 := by omega
      refine mx_iload_n (k4 := 3) (mx_d D_C_init 42 rfl) (by rfl) ?_
      refine mx_bipush (n := 12) (mx_d D_C_init 43 rfl) (by decide) ?_
      refine mx_icmp_geY 111 (mx_d D_C_init 44 rfl) (by decide) (by omega) (by omega) (by omega) (by omega) (by omega) ?_
      exact mx_bud (by omega) (by omega) (fin ce2 g0 g1 g14 gE gD rfl)
    | succ k ih =>
      intro i ce2 hi g0 g1 g14 gE gD
      refine mx_bud (bc := bc + 11 + 2 * k + 1 + 1) (bs := bs + 500 + 63 * k + Y + 3) (by omega) (by omega) ?_
      refine mx_iload_n (k4 := 3) (mx_d D_C_init 42 rfl) (by rfl) ?_
      refine mx_bipush (n := 12) (mx_d D_C_init 43 rfl) (by decide) ?_
      refine mx_icmp_geN 111 (mx_d D_C_init 44 rfl) (by decide) (by omega) (by omega) (by omega) (by omega) (by omega) ?_
      refine mx_aload_n (k4 := 0) (mx_d D_C_init 45 rfl) (by rfl) ?_
      refine mx_getf hG (idx := 37) (ci := 0) (kf := 3) (mx_d D_C_init 46 rfl) (by rfl) cls_C (by decide) w_152 (by first | assumption | omega) (by first | assumption | exact va_up_self _ _ _ | (rw [va_up_ne _ _ (by omega)]; first | assumption | exact va_up_self _ _ _ | (rw [va_up_ne _ _ (by omega)]; first | assumption | exact va_up_self _ _ _ | (rw [va_up_ne _ _ (by omega)]; first | assumption | exact va_up_self _ _ _ | (rw [va_up_ne _ _ (by omega)]; first | assumption | exact va_up_self _ _ _ | (rw [va_up_ne _ _ (by omega)]; first | assumption | exact va_up_self _ _ _)))))) (by rfl) ?_
      refine mx_iload_n (k4 := 3) (mx_d D_C_init 47 rfl) (by rfl) ?_
      refine mx_new hG (ci := 2) (n := 3) [.null, .int 0, .int 0] (mx_d D_C_init 48 rfl) (by rfl) cls_D w_53 w_55 w_4 (by decide) ?_
      refine mx_dup (mx_d D_C_init 49 rfl) (by rfl) ?_
      refine mx_aload_n (k4 := 0) (mx_d D_C_init 50 rfl) (by rfl) ?_
      refine mx_getf hG (idx := 18) (ci := 0) (kf := 0) (mx_d D_C_init 51 rfl) (by rfl) cls_C (by decide) w_149 (by first | assumption | omega) (by first | assumption | exact va_up_self _ _ _ | (rw [va_up_ne _ _ (by omega)]; first | assumption | exact va_up_self _ _ _ | (rw [va_up_ne _ _ (by omega)]; first | assumption | exact va_up_self _ _ _ | (rw [va_up_ne _ _ (by omega)]; first | assumption | exact va_up_self _ _ _ | (rw [va_up_ne _ _ (by omega)]; first | assumption | exact va_up_self _ _ _ | (rw [va_up_ne _ _ (by omega)]; first | assumption | exact va_up_self _ _ _)))))) (by rfl) ?_
      refine mx_callI (Y' := Y_D_init) [_] (mx_d D_C_init 52 rfl) in_D_init w_58 rfl w_56 w_57 np_D_init (by exact Nat.le_of_ble_eq_true rfl) (by rfl) (by rfl) (by exact Nat.le_of_ble_eq_true rfl) (c_D_init hG (by omega) (va_up_self _ _ _) (by omega) (fun ce3 k1 k2 k3 => ?_))
      have a0 : ce3 0 = _ := (k1 0 (by omega) (by omega)).trans ((va_up_ne _ _ (by omega)).trans g0)
      have a14 : ce3 14 = _ := (k1 14 (by omega) (by omega)).trans ((va_up_ne _ _ (by omega)).trans g14)
      refine mx_aast hG (r0 := ("CurveSums$Dating", _, _)) 4 _ (mx_d D_C_init 53 rfl) (by first | assumption | omega) (by first | assumption | exact va_up_self _ _ _ | (rw [va_up_ne _ _ (by omega)]; first | assumption | exact va_up_self _ _ _ | (rw [va_up_ne _ _ (by omega)]; first | assumption | exact va_up_self _ _ _ | (rw [va_up_ne _ _ (by omega)]; first | assumption | exact va_up_self _ _ _ | (rw [va_up_ne _ _ (by omega)]; first | assumption | exact va_up_self _ _ _ | (rw [va_up_ne _ _ (by omega)]; first | assumption | exact va_up_self _ _ _)))))) (by rfl) (by first | assumption | omega) (by first | assumption | exact va_up_self _ _ _ | (rw [va_up_ne _ _ (by omega)]; first | assumption | exact va_up_self _ _ _ | (rw [va_up_ne _ _ (by omega)]; first | assumption | exact va_up_self _ _ _ | (rw [va_up_ne _ _ (by omega)]; first | assumption | exact va_up_self _ _ _ | (rw [va_up_ne _ _ (by omega)]; first | assumption | exact va_up_self _ _ _ | (rw [va_up_ne _ _ (by omega)]; first | assumption | exact va_up_self _ _ _)))))) (by rfl) (by rfl) (by omega) (by omega) ?_
      rw [rfT_up (f := fun j => 15 + 2 * j)]
      refine mx_iincI (i := 3) (n := 1) (mx_d D_C_init 54 rfl) (by rfl) (by decide) ?_
      refine mx_goto 82 (mx_d D_C_init 55 rfl) (by decide) ?_
      rw [show 15 + 2 * i + 1 = 16 + 2 * i from by omega] at k2 k3
      refine mx_loc (by rfl) (mx_Neq (show 15 + 2 * i + 1 + 1 = 15 + 2 * (i + 1) by omega) (ih (i + 1) _ (by omega) ?_ ?_ (va_up_self _ _ _) (csE_fr gE (fun k _ _ => ?_)) (fun j hj => ?_)))
      · rw [va_up_ne _ _ (by omega)]; exact a0
      · rw [va_up_ne _ _ (by omega), k1 1 (by omega) (by omega), va_up_ne _ _ (by omega)]; exact g1
      · rw [va_up_ne _ _ (by omega), k1 k (by omega) (by omega), va_up_ne _ _ (by omega)]
      · rw [va_up_ne _ _ (by omega), va_up_ne _ _ (by omega)]
        by_cases e : j = i
        · subst e; exact ⟨k2, k3⟩
        · rw [k1 _ (by omega) (by omega), k1 _ (by omega) (by omega), va_up_ne _ _ (by omega), va_up_ne _ _ (by omega)]
          exact gD j (by omega)
  have lp1 : ∀ (k i : Nat) (ce2 : Nat → va_E), i + k = 4 → ce2 0 = .inr (0, [.int (iI Y), .int (iI U), .ref (mx_B G + 1), .null, .null, .null, .null, .null, .int 0, .int 0, .int 0, .int 0, .int 0]) → ce2 1 = rfT G 3 4 i (fun j => 2 + 3 * j) → (∀ j, j < i → ce2 (2 + 3 * j) = .inr (1, [.ref (mx_B G + (3 + 3 * j)), .ref (mx_B G + (4 + 3 * j)), .int (iI 0)]) ∧ ce2 (3 + 3 * j) = aI G Y (fun _ => 0) ∧ ce2 (4 + 3 * j) = aI G Y (fun _ => 0)) → mx_M G Y_C_init (d + 2) (bc + 36 + 3 * k) (bs + 1300 + 123 * k) true (2 + 3 * i) ce2 43 [(0, .ref (mx_B G + 0)), (3, .int (iI i))] [] Q := by
    intro k
    induction k with
    | zero =>
      intro i ce2 hi g0 g1 gE
      obtain rfl : i = 4 := by omega
      refine mx_bud (bc := bc + 11 + 2 * 12 + 1) (bs := bs + 500 + 63 * 12 + 12) (by omega) (by omega) ?_
      refine mx_iload_n (k4 := 3) (mx_d D_C_init 22 rfl) (by rfl) ?_
      refine mx_iconst (n := 4) (mx_d D_C_init 23 rfl) ?_
      refine mx_icmp_geY 71 (mx_d D_C_init 24 rfl) (by decide) (by omega) (by omega) (by omega) (by omega) (by omega) ?_
      refine mx_aload_n (k4 := 0) (mx_d D_C_init 36 rfl) (by rfl) ?_
      refine mx_bipush (n := 12) (mx_d D_C_init 37 rfl) (by decide) ?_
      refine mx_newq hG 4 (mx_d D_C_init 38 rfl) (by rfl) w_53 w_54 (by rfl) (by omega) ?_
      refine mx_putf hG (idx := 37) (ci := 0) (kf := 3) (t := (.array (.object "CurveSums$Dating"))) (mx_d D_C_init 39 rfl) (by rfl) cls_C (by decide) (Or.inr ⟨rfl, rfl, rfl⟩) w_152 (by first | assumption | omega) (by first | assumption | exact va_up_self _ _ _ | (rw [va_up_ne _ _ (by omega)]; first | assumption | exact va_up_self _ _ _ | (rw [va_up_ne _ _ (by omega)]; first | assumption | exact va_up_self _ _ _ | (rw [va_up_ne _ _ (by omega)]; first | assumption | exact va_up_self _ _ _ | (rw [va_up_ne _ _ (by omega)]; first | assumption | exact va_up_self _ _ _ | (rw [va_up_ne _ _ (by omega)]; first | assumption | exact va_up_self _ _ _)))))) (by exact Nat.le_of_ble_eq_true rfl) (by decide +kernel) (by rfl) (by rfl) ?_
      refine mx_iconst (n := 0) (mx_d D_C_init 40 rfl) ?_
      refine mx_istore_n (k4 := 3) (mx_d D_C_init 41 rfl) (by decide) ?_
      refine mx_loc (by rfl) (lp2 12 0 _ (by omega) (va_up_self _ _ _) ?_ ?_ (fun e he => ?_) (fun j hj => absurd hj (by omega)))
      · rw [va_up_ne _ _ (by omega), va_up_ne _ _ (by omega)]; exact g1
      · rw [va_up_ne _ _ (by omega), va_up_self, rfT_0 (G := G) (f := fun j => 15 + 2 * j)]
      · rw [va_up_ne _ _ (by omega), va_up_ne _ _ (by omega), va_up_ne _ _ (by omega), va_up_ne _ _ (by omega), va_up_ne _ _ (by omega), va_up_ne _ _ (by omega), rwN_0]
        exact gE e he
    | succ k ih =>
      intro i ce2 hi g0 g1 gE
      refine mx_bud (bc := bc + 36 + 3 * k + 2 + 1) (bs := bs + 1300 + 123 * k + Y + Y + 3) (by omega) (by omega) ?_
      refine mx_iload_n (k4 := 3) (mx_d D_C_init 22 rfl) (by rfl) ?_
      refine mx_iconst (n := 4) (mx_d D_C_init 23 rfl) ?_
      refine mx_icmp_geN 71 (mx_d D_C_init 24 rfl) (by decide) (by omega) (by omega) (by omega) (by omega) (by omega) ?_
      refine mx_aload_n (k4 := 0) (mx_d D_C_init 25 rfl) (by rfl) ?_
      refine mx_getf hG (idx := 28) (ci := 0) (kf := 2) (mx_d D_C_init 26 rfl) (by rfl) cls_C (by decide) w_151 (by first | assumption | omega) (by first | assumption | exact va_up_self _ _ _ | (rw [va_up_ne _ _ (by omega)]; first | assumption | exact va_up_self _ _ _ | (rw [va_up_ne _ _ (by omega)]; first | assumption | exact va_up_self _ _ _ | (rw [va_up_ne _ _ (by omega)]; first | assumption | exact va_up_self _ _ _ | (rw [va_up_ne _ _ (by omega)]; first | assumption | exact va_up_self _ _ _ | (rw [va_up_ne _ _ (by omega)]; first | assumption | exact va_up_self _ _ _)))))) (by rfl) ?_
      refine mx_iload_n (k4 := 3) (mx_d D_C_init 27 rfl) (by rfl) ?_
      refine mx_new hG (ci := 1) (n := 3) [.null, .null, .int 0] (mx_d D_C_init 28 rfl) (by rfl) cls_E w_32 w_34 w_3 (by decide) ?_
      refine mx_dup (mx_d D_C_init 29 rfl) (by rfl) ?_
      refine mx_aload_n (k4 := 0) (mx_d D_C_init 30 rfl) (by rfl) ?_
      refine mx_getf hG (idx := 18) (ci := 0) (kf := 0) (mx_d D_C_init 31 rfl) (by rfl) cls_C (by decide) w_149 (by first | assumption | omega) (by first | assumption | exact va_up_self _ _ _ | (rw [va_up_ne _ _ (by omega)]; first | assumption | exact va_up_self _ _ _ | (rw [va_up_ne _ _ (by omega)]; first | assumption | exact va_up_self _ _ _ | (rw [va_up_ne _ _ (by omega)]; first | assumption | exact va_up_self _ _ _ | (rw [va_up_ne _ _ (by omega)]; first | assumption | exact va_up_self _ _ _ | (rw [va_up_ne _ _ (by omega)]; first | assumption | exact va_up_self _ _ _)))))) (by rfl) ?_
      refine mx_callI (Y' := Y_E_init) [_] (mx_d D_C_init 32 rfl) in_E_init w_37 rfl w_35 w_36 np_E_init (by exact Nat.le_of_ble_eq_true rfl) (by rfl) (by rfl) (by exact Nat.le_of_ble_eq_true rfl) (c_E_init hG (by omega) (va_up_self _ _ _) (by omega) (fun ce3 k1 k2 k3 k4 => ?_))
      have a0 : ce3 0 = _ := (k1 0 (by omega) (by omega)).trans ((va_up_ne _ _ (by omega)).trans g0)
      have a1 : ce3 1 = _ := (k1 1 (by omega) (by omega)).trans ((va_up_ne _ _ (by omega)).trans g1)
      refine mx_aast hG (r0 := ("CurveSums$Edition", _, _)) 3 _ (mx_d D_C_init 33 rfl) (by first | assumption | omega) (by first | assumption | exact va_up_self _ _ _ | (rw [va_up_ne _ _ (by omega)]; first | assumption | exact va_up_self _ _ _ | (rw [va_up_ne _ _ (by omega)]; first | assumption | exact va_up_self _ _ _ | (rw [va_up_ne _ _ (by omega)]; first | assumption | exact va_up_self _ _ _ | (rw [va_up_ne _ _ (by omega)]; first | assumption | exact va_up_self _ _ _ | (rw [va_up_ne _ _ (by omega)]; first | assumption | exact va_up_self _ _ _)))))) (by rfl) (by first | assumption | omega) (by first | assumption | exact va_up_self _ _ _ | (rw [va_up_ne _ _ (by omega)]; first | assumption | exact va_up_self _ _ _ | (rw [va_up_ne _ _ (by omega)]; first | assumption | exact va_up_self _ _ _ | (rw [va_up_ne _ _ (by omega)]; first | assumption | exact va_up_self _ _ _ | (rw [va_up_ne _ _ (by omega)]; first | assumption | exact va_up_self _ _ _ | (rw [va_up_ne _ _ (by omega)]; first | assumption | exact va_up_self _ _ _)))))) (by rfl) (by rfl) (by omega) (by omega) ?_
      rw [rfT_up (f := fun j => 2 + 3 * j)]
      refine mx_iincI (i := 3) (n := 1) (mx_d D_C_init 34 rfl) (by rfl) (by decide) ?_
      refine mx_goto 43 (mx_d D_C_init 35 rfl) (by decide) ?_
      rw [show 2 + 3 * i + 1 = 3 + 3 * i from by omega, show 3 + 3 * i + 1 = 4 + 3 * i from by omega] at k2
      rw [show 2 + 3 * i + 1 = 3 + 3 * i from by omega] at k3
      rw [show 2 + 3 * i + 1 + 1 = 4 + 3 * i from by omega] at k4
      refine mx_loc (by rfl) (mx_Neq (show 2 + 3 * i + 1 + 2 = 2 + 3 * (i + 1) by omega) (ih (i + 1) _ (by omega) ?_ (va_up_self _ _ _) (fun j hj => ?_)))
      · rw [va_up_ne _ _ (by omega)]; exact a0
      · rw [va_up_ne _ _ (by omega), va_up_ne _ _ (by omega), va_up_ne _ _ (by omega)]
        by_cases e : j = i
        · subst e; exact ⟨k2, k3, k4⟩
        · rw [k1 _ (by omega) (by omega), k1 _ (by omega) (by omega), k1 _ (by omega) (by omega), va_up_ne _ _ (by omega), va_up_ne _ _ (by omega), va_up_ne _ _ (by omega)]
          exact gE j (by omega)
  refine mx_bud (bc := bc + 36 + 3 * 4 + 1) (bs := bs + 1300 + 123 * 4 + 4) (by omega) (by omega) ?_
  refine mx_aload_n (k4 := 0) (mx_d D_C_init 0 rfl) (by rfl) ?_
  refine mx_objInit (mx_d D_C_init 1 rfl) w_22 w_23 w_objcode (by exact Nat.le_of_ble_eq_true rfl) ?_
  refine mx_aload_n (k4 := 0) (mx_d D_C_init 2 rfl) (by rfl) ?_
  refine mx_bipush (n := 8) (mx_d D_C_init 3 rfl) (by decide) ?_
  refine mx_bipush (n := 60) (mx_d D_C_init 4 rfl) (by decide) ?_
  refine mx_iload_n (k4 := 1) (mx_d D_C_init 5 rfl) (by rfl) ?_
  refine mx_mminI (mx_d D_C_init 6 rfl) w_25 w_26 w_2 w_mmincode (by exact Nat.le_of_ble_eq_true rfl) (by omega) (by omega) (by omega) (by omega) ?_
  refine mx_mmaxI (mx_d D_C_init 7 rfl) w_28 w_29 w_2 w_mmaxcode (by exact Nat.le_of_ble_eq_true rfl) (by first | omega | (split <;> omega)) (by first | omega | (split <;> omega)) (by first | omega | (split <;> omega)) (by first | omega | (split <;> omega)) ?_
  rw [show (if (8 : Int) < (if z < 60 then z else 60) then (if z < 60 then z else 60) else 8) = (Y : Int) from hYe.symm]
  refine mx_putf hG (idx := 18) (ci := 0) (kf := 0) (t := (.int)) (mx_d D_C_init 8 rfl) (by rfl) cls_C (by decide) (Or.inr ⟨rfl, rfl, rfl⟩) w_149 (by first | assumption | omega) (by first | assumption | exact va_up_self _ _ _ | (rw [va_up_ne _ _ (by omega)]; first | assumption | exact va_up_self _ _ _ | (rw [va_up_ne _ _ (by omega)]; first | assumption | exact va_up_self _ _ _ | (rw [va_up_ne _ _ (by omega)]; first | assumption | exact va_up_self _ _ _ | (rw [va_up_ne _ _ (by omega)]; first | assumption | exact va_up_self _ _ _ | (rw [va_up_ne _ _ (by omega)]; first | assumption | exact va_up_self _ _ _)))))) (by exact Nat.le_of_ble_eq_true rfl) (by decide +kernel) (by rfl) (by rfl) ?_
  refine mx_aload_n (k4 := 0) (mx_d D_C_init 9 rfl) (by rfl) ?_
  refine mx_iconst (n := 1) (mx_d D_C_init 10 rfl) ?_
  refine mx_ldcI (v := 65536) (z := 65536) (mx_d D_C_init 11 rfl) w_31 (by decide) ?_
  refine mx_iload_n (k4 := 2) (mx_d D_C_init 12 rfl) (by rfl) ?_
  refine mx_mminI (mx_d D_C_init 13 rfl) w_25 w_26 w_2 w_mmincode (by exact Nat.le_of_ble_eq_true rfl) (by omega) (by omega) (by omega) (by omega) ?_
  refine mx_mmaxI (mx_d D_C_init 14 rfl) w_28 w_29 w_2 w_mmaxcode (by exact Nat.le_of_ble_eq_true rfl) (by first | omega | (split <;> omega)) (by first | omega | (split <;> omega)) (by first | omega | (split <;> omega)) (by first | omega | (split <;> omega)) ?_
  rw [show (if (1 : Int) < (if u < 65536 then u else 65536) then (if u < 65536 then u else 65536) else 1) = U from hUe.symm]
  refine mx_putf hG (idx := 23) (ci := 0) (kf := 1) (t := (.int)) (mx_d D_C_init 15 rfl) (by rfl) cls_C (by decide) (Or.inr ⟨rfl, rfl, rfl⟩) w_150 (by first | assumption | omega) (by first | assumption | exact va_up_self _ _ _ | (rw [va_up_ne _ _ (by omega)]; first | assumption | exact va_up_self _ _ _ | (rw [va_up_ne _ _ (by omega)]; first | assumption | exact va_up_self _ _ _ | (rw [va_up_ne _ _ (by omega)]; first | assumption | exact va_up_self _ _ _ | (rw [va_up_ne _ _ (by omega)]; first | assumption | exact va_up_self _ _ _ | (rw [va_up_ne _ _ (by omega)]; first | assumption | exact va_up_self _ _ _)))))) (by exact Nat.le_of_ble_eq_true rfl) (by decide +kernel) (by rfl) (by rfl) ?_
  refine mx_aload_n (k4 := 0) (mx_d D_C_init 16 rfl) (by rfl) ?_
  refine mx_iconst (n := 4) (mx_d D_C_init 17 rfl) ?_
  refine mx_newq hG 3 (mx_d D_C_init 18 rfl) (by rfl) w_32 w_33 (by rfl) (by omega) ?_
  refine mx_putf hG (idx := 28) (ci := 0) (kf := 2) (t := (.array (.object "CurveSums$Edition"))) (mx_d D_C_init 19 rfl) (by rfl) cls_C (by decide) (Or.inr ⟨rfl, rfl, rfl⟩) w_151 (by first | assumption | omega) (by first | assumption | exact va_up_self _ _ _ | (rw [va_up_ne _ _ (by omega)]; first | assumption | exact va_up_self _ _ _ | (rw [va_up_ne _ _ (by omega)]; first | assumption | exact va_up_self _ _ _ | (rw [va_up_ne _ _ (by omega)]; first | assumption | exact va_up_self _ _ _ | (rw [va_up_ne _ _ (by omega)]; first | assumption | exact va_up_self _ _ _ | (rw [va_up_ne _ _ (by omega)]; first | assumption | exact va_up_self _ _ _)))))) (by exact Nat.le_of_ble_eq_true rfl) (by decide +kernel) (by rfl) (by rfl) ?_
  refine mx_iconst (n := 0) (mx_d D_C_init 20 rfl) ?_
  refine mx_istore_n (k4 := 3) (mx_d D_C_init 21 rfl) (by decide) ?_
  refine mx_loc (by rfl) (lp1 4 0 _ (by omega) (va_up_self _ _ _) ?_ (fun j hj => absurd hj (by omega)))
  rw [va_up_ne _ _ (by omega), va_up_self, rfT_0 (G := G) (f := fun j => 2 + 3 * j)]
end CI
end
