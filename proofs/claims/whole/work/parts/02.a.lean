/-! the words of the tables that every method's walk carries -/
def iI (z : Int) : Int32 := Int32.ofInt z
def lI (z : Int) : Int64 := Int64.ofInt z
def mx_gd (w : Cond) : Bool := goodWord w || (match w with
  | .castable _ _ => true
  | .declares _ => true
  | .arrayOver (.object _) => true
  | _ => false)
def mx_Ws (args : Array Value) (s : State) : Prop := (∀ w ∈ lw_tbl, mx_gd w = true → w.before args s = true) ∧ ∀ q ∈ mx_strs, ∃ a, vk_R q.1 q.2.1 q.2.2 a s
theorem mx_tr {args a' : Array Value} {s U : State} {w : Cond} (ho : w.onTables = true) (h : w.before args (s.setVm U.vm) = true) : w.before a' U = true := by
  have e := Cond.onTables_vm (A := args) (A' := a') (U := s) (U' := U) U.vm w ho
  have hU : U.setVm U.vm = U := rfl
  rw [hU] at e
  rw [← e]
  exact h
theorem mx_wat {args a' : Array Value} {s U : State} (hW : s.WarmedH U.vm) {w : Cond} (hg : mx_gd w = true) (h : w.before args s = true) : w.before a' U = true := by
  by_cases hgw : goodWord w = true
  · exact word_at hW (good_of_word hgw) h
  · cases w with
    | castable a b => exact mx_tr (args := args) (s := s) rfl (by rw [Cond.castable_setVm hW.alike]; exact h)
    | declares a => exact mx_tr (args := args) (s := s) rfl (by rw [Cond.declares_setVm hW.alike]; exact h)
    | arrayOver ty =>
      cases ty with
      | object C => exact va_AO.use (va_AO.moved hW.alike (va_AO.of h))
      | _ => exact absurd hg (by simp [mx_gd, hgw])
    | _ => exact absurd hg (by simp [mx_gd, hgw])
theorem mx_Ws.at {args a' : Array Value} {s U : State} (h : mx_Ws args s) (hW : s.WarmedH U.vm) : mx_Ws a' U :=
  ⟨fun w hw hg => mx_wat hW hg (h.1 w hw hg), fun q hq => (h.2 q hq).imp fun _ ha => vk_R.warm hW ha⟩
theorem mx_lay_good {C : String} {T : u_T} {n : Nat} {w : Cond} (h : w ∈ u_ws C T n) : mx_gd w = true := by
  obtain ⟨k, -, rfl⟩ := List.mem_map.mp h
  unfold u_lay
  split <;> rfl
/-! whole numbers in the machine's ints and longs -/
theorem iI_nat (n : Nat) : iI n = Int32.ofNat n := Int32.ofInt_eq_ofNat
theorem iI_nI (n : Nat) : iI n = nI n := Int32.ofInt_eq_ofNat
theorem iI_toInt {z : Int} (h1 : -2147483648 ≤ z) (h2 : z < 2147483648) : (iI z).toInt = z := Int32.toInt_ofInt_of_le h1 h2
theorem lI_toInt {z : Int} (h1 : -9223372036854775808 ≤ z) (h2 : z < 9223372036854775808) : (lI z).toInt = z := Int64.toInt_ofInt_of_le h1 h2
theorem iI_of (x : Int32) : x = iI x.toInt := (Int32.ofInt_toInt x).symm
theorem lI_of (x : Int64) : x = lI x.toInt := (Int64.ofInt_toInt x).symm
theorem i32_lo (x : Int32) : -2147483648 ≤ x.toInt := Int32.le_toInt x
theorem i32_hi (x : Int32) : x.toInt < 2147483648 := Int32.toInt_lt x
theorem iI_add (a b : Int) : iI a + iI b = iI (a + b) := (Int32.ofInt_add a b).symm
theorem iI_sub (a b : Int) : iI a - iI b = iI (a - b) := (Int32.ofInt_sub a b).symm
theorem iI_mul (a b : Int) : iI a * iI b = iI (a * b) := (Int32.ofInt_mul a b).symm
theorem iI_neg (a : Int) : - iI a = iI (-a) := (Int32.ofInt_neg a).symm
theorem lI_add (a b : Int) : lI a + lI b = lI (a + b) := (Int64.ofInt_add a b).symm
theorem lI_sub (a b : Int) : lI a - lI b = lI (a - b) := (Int64.ofInt_sub a b).symm
theorem lI_mul (a b : Int) : lI a * lI b = lI (a * b) := (Int64.ofInt_mul a b).symm
theorem iI_l {z : Int} (h1 : -2147483648 ≤ z) (h2 : z < 2147483648) : (iI z).toInt64 = lI z := by
  apply Int64.toInt_inj.mp
  rw [Int32.toInt_toInt64, iI_toInt h1 h2, lI_toInt (by omega) (by omega)]
theorem lI_i (z : Int) : (lI z).toInt32 = iI z := Int64.toInt32_ofInt
theorem iI_lt {a b : Int} (h1 : -2147483648 ≤ a) (h2 : a < 2147483648) (h3 : -2147483648 ≤ b) (h4 : b < 2147483648) : iI a < iI b ↔ a < b := by
  rw [Int32.lt_iff_toInt_lt, iI_toInt h1 h2, iI_toInt h3 h4]
theorem iI_le {a b : Int} (h1 : -2147483648 ≤ a) (h2 : a < 2147483648) (h3 : -2147483648 ≤ b) (h4 : b < 2147483648) : iI a ≤ iI b ↔ a ≤ b := by
  rw [Int32.le_iff_toInt_le, iI_toInt h1 h2, iI_toInt h3 h4]
theorem iI_eq {a b : Int} (h1 : -2147483648 ≤ a) (h2 : a < 2147483648) (h3 : -2147483648 ≤ b) (h4 : b < 2147483648) : iI a = iI b ↔ a = b := by
  rw [← Int32.toInt_inj, iI_toInt h1 h2, iI_toInt h3 h4]
theorem lI_lt {a b : Int} (h1 : -9223372036854775808 ≤ a) (h2 : a < 9223372036854775808) (h3 : -9223372036854775808 ≤ b) (h4 : b < 9223372036854775808) : lI a < lI b ↔ a < b := by
  rw [Int64.lt_iff_toInt_lt, lI_toInt h1 h2, lI_toInt h3 h4]
theorem lI_eq {a b : Int} (h1 : -9223372036854775808 ≤ a) (h2 : a < 9223372036854775808) (h3 : -9223372036854775808 ≤ b) (h4 : b < 9223372036854775808) : lI a = lI b ↔ a = b := by
  rw [← Int64.toInt_inj, lI_toInt h1 h2, lI_toInt h3 h4]
theorem iI_0 : (0 : Int32) = iI 0 := rfl
theorem lI_0 : (0 : Int64) = lI 0 := rfl
theorem iI_lt0 {a : Int} (h1 : -2147483648 ≤ a) (h2 : a < 2147483648) : iI a < 0 ↔ a < 0 := by rw [iI_0]; exact iI_lt h1 h2 (by omega) (by omega)
theorem iI_le0 {a : Int} (h1 : -2147483648 ≤ a) (h2 : a < 2147483648) : iI a ≤ 0 ↔ a ≤ 0 := by rw [iI_0]; exact iI_le h1 h2 (by omega) (by omega)
theorem iI_0lt {a : Int} (h1 : -2147483648 ≤ a) (h2 : a < 2147483648) : 0 < iI a ↔ 0 < a := by rw [iI_0]; exact iI_lt (by omega) (by omega) h1 h2
theorem iI_0le {a : Int} (h1 : -2147483648 ≤ a) (h2 : a < 2147483648) : 0 ≤ iI a ↔ 0 ≤ a := by rw [iI_0]; exact iI_le (by omega) (by omega) h1 h2
theorem iI_eq0 {a : Int} (h1 : -2147483648 ≤ a) (h2 : a < 2147483648) : iI a = 0 ↔ a = 0 := by rw [iI_0]; exact iI_eq h1 h2 (by omega) (by omega)
theorem lI_eq0 {a : Int} (h1 : -9223372036854775808 ≤ a) (h2 : a < 9223372036854775808) : lI a = 0 ↔ a = 0 := by rw [lI_0]; exact lI_eq h1 h2 (by omega) (by omega)
theorem iI_clamp {n : Nat} (h : n < 2 ^ 31) : (iI n).toNatClampNeg = n := by rw [iI_nI]; exact nI_clamp h
theorem iI_nneg {n : Nat} (h : n < 2 ^ 31) : ¬ iI n < 0 := by rw [iI_nI]; exact nI_pos h
theorem iI_in {j n : Nat} (hj : j < n) (hn : n < 2 ^ 31) : vp_in (iI j) n := by rw [iI_nI]; exact vp_in_nI hj hn
/-- division of numbers that aren't negative -/
theorem iI_div {a b : Int} (h1 : 0 ≤ a) (h2 : a < 2147483648) (h3 : 0 < b) (h4 : b < 2147483648) : iI a / iI b = iI (a / b) := by
  apply Int32.toInt_inj.mp
  have hq : 0 ≤ a / b := Int.ediv_nonneg h1 (by omega)
  have hq2 : a / b ≤ a := Int.ediv_le_self _ h1
  rw [Int32.toInt_div_of_ne_right _ _ (by
    intro h
    have := congrArg Int32.toInt h
    rw [iI_toInt (by omega) h4] at this
    have e : (-1 : Int32).toInt = -1 := by decide
    omega), iI_toInt (by omega) h2, iI_toInt (by omega) h4, iI_toInt (by omega) (by omega), Int.tdiv_eq_ediv_of_nonneg h1]
theorem iI_rem {a b : Int} (h1 : 0 ≤ a) (h2 : a < 2147483648) (h3 : 0 < b) (h4 : b < 2147483648) : iI a - iI a / iI b * iI b = iI (a % b) := by
  rw [iI_div h1 h2 h3 h4, iI_mul, iI_sub]
  congr 1
  have := Int.emod_add_mul_ediv a b
  rw [Int.mul_comm] at this
  omega
theorem lI_div {a b : Int} (h1 : 0 ≤ a) (h2 : a < 9223372036854775808) (h3 : 0 < b) (h4 : b < 9223372036854775808) : lI a / lI b = lI (a / b) := by
  apply Int64.toInt_inj.mp
  have hq : 0 ≤ a / b := Int.ediv_nonneg h1 (by omega)
  have hq2 : a / b ≤ a := Int.ediv_le_self _ h1
  rw [Int64.toInt_div_of_ne_right _ _ (by
    intro h
    have := congrArg Int64.toInt h
    rw [lI_toInt (by omega) h4] at this
    have e : (-1 : Int64).toInt = -1 := by decide
    omega), lI_toInt (by omega) h2, lI_toInt (by omega) h4, lI_toInt (by omega) (by omega), Int.tdiv_eq_ediv_of_nonneg h1]
/-- long comparison, as the machine gives it -/
theorem lI_cmp {a b : Int} (h1 : -9223372036854775808 ≤ a) (h2 : a < 9223372036854775808) (h3 : -9223372036854775808 ≤ b) (h4 : b < 9223372036854775808) : lg_cmp (lI a) (lI b) = iI (if b < a then 1 else if a = b then 0 else -1) := by
  unfold lg_cmp
  by_cases q1 : b < a
  · rw [if_pos ((lI_lt h3 h4 h1 h2).mpr q1), if_pos q1]; rfl
  · rw [if_neg (fun q => q1 ((lI_lt h3 h4 h1 h2).mp q)), if_neg q1]
    by_cases q2 : a = b
    · subst q2; simp; rfl
    · rw [if_neg q2]
      have : ¬ lI a = lI b := fun q => q2 ((lI_eq h1 h2 h3 h4).mp q)
      simp [this]; rfl
