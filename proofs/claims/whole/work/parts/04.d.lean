/-! TextReader -/
def rdOk (Y : Nat) (k : Nat) (v : Int) : Bool := if k = 1 then decide (v ≤ 3000) else if k = 2 then (decide (1 ≤ v) && decide (v ≤ 100)) else decide (v < (Y : Int))
def rdSep (k : Nat) : Int := if k = 1 then 43 else if k = 2 then 59 else 58
def rdNum (b : Bool) (u z : Int) : Int := if b = true then 10 * u + z else z
def rdStep (Y : Nat) (x : Int) (c : Nat) (b : Bool) (t : Nat → Int) : Option (Nat × Bool × (Nat → Int)) :=
  if 48 ≤ x ∧ x ≤ 57 then (if b = true ∧ t c = 0 then none else if rdOk Y (c % 3) (rdNum b (t c) (x - 48)) = true then some (c, true, va_up t c (rdNum b (t c) (x - 48))) else none)
  else if b = true ∧ x = rdSep (c % 3) then some (c + 1, false, t) else none
section TR
variable {G : mx_G} {d bc bs : Nat} {ex : Bool} {N : Nat} {ce : Nat → va_E} {Q : mx_P} {o a c Y : Nat} {t : Nat → Int} {b : Bool}
theorem c_T_init (hG : mx_ok G) (ho : o < N) (h1 : ce o = .inr (6, [.int 0, .null, .int 0, .int 0]))
    (q : ∀ ce', (∀ k, k ≠ o → k < N → ce' k = ce k) → ce' o = .inr (6, [.int (iI Y), .ref (mx_B G + N), .int (iI 0), .int (iI (bI false))]) → ce' N = aI G 100 (fun _ => 0) → Q (.inl none) (N + 1) ce' bc bs) : mx_M G Y_T_init d (bc + 1) (bs + 100) true N ce 0 [(0, .ref (mx_B G + o)), (1, .int (iI Y))] [] Q := by
  refine mx_aload_n (k4 := 0) (mx_d D_T_init 0 rfl) (by rfl) ?_
  refine mx_objInit (mx_d D_T_init 1 rfl) w_135 w_23 w_objcode (by exact Nat.le_of_ble_eq_true rfl) ?_
  refine mx_aload_n (k4 := 0) (mx_d D_T_init 2 rfl) (by rfl) ?_
  refine mx_iload_n (k4 := 1) (mx_d D_T_init 3 rfl) (by rfl) ?_
  refine mx_putf hG (idx := 9) (ci := 6) (kf := 0) (t := (.int)) (mx_d D_T_init 4 rfl) (by rfl) cls_T (by decide) (Or.inr ⟨rfl, rfl, rfl⟩) w_136 (by first | assumption | omega) (by first | assumption | exact va_up_self _ _ _ | (rw [va_up_ne _ _ (by omega)]; first | assumption | exact va_up_self _ _ _ | (rw [va_up_ne _ _ (by omega)]; first | assumption | exact va_up_self _ _ _ | (rw [va_up_ne _ _ (by omega)]; first | assumption | exact va_up_self _ _ _ | (rw [va_up_ne _ _ (by omega)]; first | assumption | exact va_up_self _ _ _ | (rw [va_up_ne _ _ (by omega)]; first | assumption | exact va_up_self _ _ _)))))) (by exact Nat.le_of_ble_eq_true rfl) (by decide +kernel) (by rfl) (by rfl) ?_
  refine mx_aload_n (k4 := 0) (mx_d D_T_init 5 rfl) (by rfl) ?_
  refine mx_bipush (n := 100) (mx_d D_T_init 6 rfl) (by decide) ?_
  refine mx_newaI hG (mx_d D_T_init 7 rfl) (by rfl) (by omega) ?_
  refine mx_putf hG (idx := 15) (ci := 6) (kf := 1) (t := (.array .int)) (mx_d D_T_init 8 rfl) (by rfl) cls_T (by decide) (Or.inr ⟨rfl, rfl, rfl⟩) w_137 (by first | assumption | omega) (by first | assumption | exact va_up_self _ _ _ | (rw [va_up_ne _ _ (by omega)]; first | assumption | exact va_up_self _ _ _ | (rw [va_up_ne _ _ (by omega)]; first | assumption | exact va_up_self _ _ _ | (rw [va_up_ne _ _ (by omega)]; first | assumption | exact va_up_self _ _ _ | (rw [va_up_ne _ _ (by omega)]; first | assumption | exact va_up_self _ _ _ | (rw [va_up_ne _ _ (by omega)]; first | assumption | exact va_up_self _ _ _)))))) (by exact Nat.le_of_ble_eq_true rfl) (by decide +kernel) (by rfl) (by rfl) ?_
  refine mx_vret (by rfl) (mx_d D_T_init 9 rfl) ?_
  refine q _ (fun k h1 h2 => ?_) (va_up_self _ _ _) ?_
  · rw [va_up_ne _ _ h1, va_up_ne _ _ (by omega), va_up_ne _ _ h1]
  · rw [va_up_ne _ _ (by omega), va_up_self]
theorem c_T_yearOf (hG : mx_ok G) (ho : o < N) (ha : a < N) {x y z : Value} (h1 : ce o = .inr (6, [x, .ref (mx_B G + a), y, z])) (h2 : ce a = aI G 100 t) {r : Nat} (hr : 3 * r + 2 < 100)
    (q : Q (.inl (some (.int (iI (t (3 * r)))))) N ce bc bs) : mx_M G Y_T_yearOf d bc bs ex N ce 0 [(0, .ref (mx_B G + o)), (1, .int (iI r))] [] Q := by
  refine mx_aload_n (k4 := 0) (mx_d D_T_yearOf 0 rfl) (by rfl) ?_
  refine mx_getf hG (idx := 15) (ci := 6) (kf := 1) (mx_d D_T_yearOf 1 rfl) (by rfl) cls_T (by decide) w_137 (by first | assumption | omega) (by first | assumption | exact va_up_self _ _ _ | (rw [va_up_ne _ _ (by omega)]; first | assumption | exact va_up_self _ _ _ | (rw [va_up_ne _ _ (by omega)]; first | assumption | exact va_up_self _ _ _ | (rw [va_up_ne _ _ (by omega)]; first | assumption | exact va_up_self _ _ _ | (rw [va_up_ne _ _ (by omega)]; first | assumption | exact va_up_self _ _ _ | (rw [va_up_ne _ _ (by omega)]; first | assumption | exact va_up_self _ _ _)))))) (by rfl) ?_
  refine mx_iconst (n := 3) (mx_d D_T_yearOf 2 rfl) ?_
  refine mx_iload_n (k4 := 1) (mx_d D_T_yearOf 3 rfl) (by rfl) ?_
  refine mx_imulI (mx_d D_T_yearOf 4 rfl) ?_
  refine mx_ialdI hG (3 * r) (mx_d D_T_yearOf 5 rfl) (by first | assumption | omega) (by first | assumption | exact va_up_self _ _ _ | (rw [va_up_ne _ _ (by omega)]; first | assumption | exact va_up_self _ _ _ | (rw [va_up_ne _ _ (by omega)]; first | assumption | exact va_up_self _ _ _ | (rw [va_up_ne _ _ (by omega)]; first | assumption | exact va_up_self _ _ _ | (rw [va_up_ne _ _ (by omega)]; first | assumption | exact va_up_self _ _ _ | (rw [va_up_ne _ _ (by omega)]; first | assumption | exact va_up_self _ _ _)))))) (by rfl) (by omega) (by omega) ?_
  refine mx_iret (by rfl) (mx_d D_T_yearOf 6 rfl) ?_
  exact q
theorem c_T_ageOf (hG : mx_ok G) (ho : o < N) (ha : a < N) {x y z : Value} (h1 : ce o = .inr (6, [x, .ref (mx_B G + a), y, z])) (h2 : ce a = aI G 100 t) {r : Nat} (hr : 3 * r + 2 < 100)
    (q : Q (.inl (some (.int (iI (t (3 * r + 1)))))) N ce bc bs) : mx_M G Y_T_ageOf d bc bs ex N ce 0 [(0, .ref (mx_B G + o)), (1, .int (iI r))] [] Q := by
  refine mx_aload_n (k4 := 0) (mx_d D_T_ageOf 0 rfl) (by rfl) ?_
  refine mx_getf hG (idx := 15) (ci := 6) (kf := 1) (mx_d D_T_ageOf 1 rfl) (by rfl) cls_T (by decide) w_137 (by first | assumption | omega) (by first | assumption | exact va_up_self _ _ _ | (rw [va_up_ne _ _ (by omega)]; first | assumption | exact va_up_self _ _ _ | (rw [va_up_ne _ _ (by omega)]; first | assumption | exact va_up_self _ _ _ | (rw [va_up_ne _ _ (by omega)]; first | assumption | exact va_up_self _ _ _ | (rw [va_up_ne _ _ (by omega)]; first | assumption | exact va_up_self _ _ _ | (rw [va_up_ne _ _ (by omega)]; first | assumption | exact va_up_self _ _ _)))))) (by rfl) ?_
  refine mx_iconst (n := 3) (mx_d D_T_ageOf 2 rfl) ?_
  refine mx_iload_n (k4 := 1) (mx_d D_T_ageOf 3 rfl) (by rfl) ?_
  refine mx_imulI (mx_d D_T_ageOf 4 rfl) ?_
  refine mx_iconst (n := 1) (mx_d D_T_ageOf 5 rfl) ?_
  refine mx_iaddI (mx_d D_T_ageOf 6 rfl) ?_
  refine mx_ialdI hG (3 * r + 1) (mx_d D_T_ageOf 7 rfl) (by first | assumption | omega) (by first | assumption | exact va_up_self _ _ _ | (rw [va_up_ne _ _ (by omega)]; first | assumption | exact va_up_self _ _ _ | (rw [va_up_ne _ _ (by omega)]; first | assumption | exact va_up_self _ _ _ | (rw [va_up_ne _ _ (by omega)]; first | assumption | exact va_up_self _ _ _ | (rw [va_up_ne _ _ (by omega)]; first | assumption | exact va_up_self _ _ _ | (rw [va_up_ne _ _ (by omega)]; first | assumption | exact va_up_self _ _ _)))))) (by rfl) (by omega) (by omega) ?_
  refine mx_iret (by rfl) (mx_d D_T_ageOf 8 rfl) ?_
  exact q
theorem c_T_spreadOf (hG : mx_ok G) (ho : o < N) (ha : a < N) {x y z : Value} (h1 : ce o = .inr (6, [x, .ref (mx_B G + a), y, z])) (h2 : ce a = aI G 100 t) {r : Nat} (hr : 3 * r + 2 < 100)
    (q : Q (.inl (some (.int (iI (t (3 * r + 2)))))) N ce bc bs) : mx_M G Y_T_spreadOf d bc bs ex N ce 0 [(0, .ref (mx_B G + o)), (1, .int (iI r))] [] Q := by
  refine mx_aload_n (k4 := 0) (mx_d D_T_spreadOf 0 rfl) (by rfl) ?_
  refine mx_getf hG (idx := 15) (ci := 6) (kf := 1) (mx_d D_T_spreadOf 1 rfl) (by rfl) cls_T (by decide) w_137 (by first | assumption | omega) (by first | assumption | exact va_up_self _ _ _ | (rw [va_up_ne _ _ (by omega)]; first | assumption | exact va_up_self _ _ _ | (rw [va_up_ne _ _ (by omega)]; first | assumption | exact va_up_self _ _ _ | (rw [va_up_ne _ _ (by omega)]; first | assumption | exact va_up_self _ _ _ | (rw [va_up_ne _ _ (by omega)]; first | assumption | exact va_up_self _ _ _ | (rw [va_up_ne _ _ (by omega)]; first | assumption | exact va_up_self _ _ _)))))) (by rfl) ?_
  refine mx_iconst (n := 3) (mx_d D_T_spreadOf 2 rfl) ?_
  refine mx_iload_n (k4 := 1) (mx_d D_T_spreadOf 3 rfl) (by rfl) ?_
  refine mx_imulI (mx_d D_T_spreadOf 4 rfl) ?_
  refine mx_iconst (n := 2) (mx_d D_T_spreadOf 5 rfl) ?_
  refine mx_iaddI (mx_d D_T_spreadOf 6 rfl) ?_
  refine mx_ialdI hG (3 * r + 2) (mx_d D_T_spreadOf 7 rfl) (by first | assumption | omega) (by first | assumption | exact va_up_self _ _ _ | (rw [va_up_ne _ _ (by omega)]; first | assumption | exact va_up_self _ _ _ | (rw [va_up_ne _ _ (by omega)]; first | assumption | exact va_up_self _ _ _ | (rw [va_up_ne _ _ (by omega)]; first | assumption | exact va_up_self _ _ _ | (rw [va_up_ne _ _ (by omega)]; first | assumption | exact va_up_self _ _ _ | (rw [va_up_ne _ _ (by omega)]; first | assumption | exact va_up_self _ _ _)))))) (by rfl) (by omega) (by omega) ?_
  refine mx_iret (by rfl) (mx_d D_T_spreadOf 8 rfl) ?_
  exact q
theorem c_T_signBehind {k : Nat} (hk : k < 3) (q : Q (.inl (some (.int (iI (rdSep k))))) N ce bc bs) : mx_M G Y_T_signBehind d bc bs ex N ce 0 [(0, .int (iI k))] [] Q := by
  refine mx_iload_n (k4 := 0) (mx_d D_T_signBehind 0 rfl) (by rfl) ?_
  obtain rfl | rfl | rfl : k = 0 ∨ k = 1 ∨ k = 2 := by omega
  · refine mx_lookup 34 (mx_d D_T_signBehind 1 rfl) (by decide) (by rfl) (by decide) ?_
    refine mx_bipush (n := 58) (mx_d D_T_signBehind 6 rfl) (by decide) ?_
    refine mx_iret (by rfl) (mx_d D_T_signBehind 7 rfl) ?_
    exact q
  · refine mx_lookup 28 (mx_d D_T_signBehind 1 rfl) (by decide) (by rfl) (by decide) ?_
    refine mx_bipush (n := 43) (mx_d D_T_signBehind 2 rfl) (by decide) ?_
    refine mx_iret (by rfl) (mx_d D_T_signBehind 3 rfl) ?_
    exact q
  · refine mx_lookup 31 (mx_d D_T_signBehind 1 rfl) (by decide) (by rfl) (by decide) ?_
    refine mx_bipush (n := 59) (mx_d D_T_signBehind 4 rfl) (by decide) ?_
    refine mx_iret (by rfl) (mx_d D_T_signBehind 5 rfl) ?_
    exact q
theorem c_T_isWithin (hG : mx_ok G) (ho : o < N) {x y z : Value} (h1 : ce o = .inr (6, [.int (iI Y), x, y, z])) (hY : Y ≤ 60) {k : Nat} (hk : k < 3) {v : Int} (hv1 : 0 ≤ v) (hv2 : v ≤ 100000) (q : Q (.inl (some (.int (iI (bI (rdOk Y k v)))))) N ce bc bs) : mx_M G Y_T_isWithinBounds d bc bs ex N ce 0 [(0, .ref (mx_B G + o)), (1, .int (iI v)), (2, .int (iI k))] [] Q := by
  refine mx_iload_n (k4 := 2) (mx_d D_T_isWithinBounds 0 rfl) (by rfl) ?_
  obtain rfl | rfl | rfl : k = 0 ∨ k = 1 ∨ k = 2 := by omega
  · refine mx_lookup 58 (mx_d D_T_isWithinBounds 1 rfl) (by decide) (by rfl) (by decide) ?_
    refine mx_iload_n (k4 := 1) (mx_d D_T_isWithinBounds 19 rfl) (by rfl) ?_
    refine mx_aload_n (k4 := 0) (mx_d D_T_isWithinBounds 20 rfl) (by rfl) ?_
    refine mx_getf hG (idx := 9) (ci := 6) (kf := 0) (mx_d D_T_isWithinBounds 21 rfl) (by rfl) cls_T (by decide) w_136 (by first | assumption | omega) (by first | assumption | exact va_up_self _ _ _ | (rw [va_up_ne _ _ (by omega)]; first | assumption | exact va_up_self _ _ _ | (rw [va_up_ne _ _ (by omega)]; first | assumption | exact va_up_self _ _ _ | (rw [va_up_ne _ _ (by omega)]; first | assumption | exact va_up_self _ _ _ | (rw [va_up_ne _ _ (by omega)]; first | assumption | exact va_up_self _ _ _ | (rw [va_up_ne _ _ (by omega)]; first | assumption | exact va_up_self _ _ _)))))) (by rfl) ?_
    by_cases hc : v < (Y : Int)
    · refine mx_icmp_geN 70 (mx_d D_T_isWithinBounds 22 rfl) (by decide) (by omega) (by omega) (by omega) (by omega) (by omega) ?_
      refine mx_iconst (n := 1) (mx_d D_T_isWithinBounds 23 rfl) ?_
      refine mx_goto 71 (mx_d D_T_isWithinBounds 24 rfl) (by decide) ?_
      refine mx_zret (by rfl) (mx_d D_T_isWithinBounds 26 rfl) (by first | rfl | assumption) ?_
      rw [show rdOk Y 0 v = true from by simp [rdOk, hc]] at q
      exact q
    · refine mx_icmp_geY 70 (mx_d D_T_isWithinBounds 22 rfl) (by decide) (by omega) (by omega) (by omega) (by omega) (by omega) ?_
      refine mx_iconst (n := 0) (mx_d D_T_isWithinBounds 25 rfl) ?_
      refine mx_zret (by rfl) (mx_d D_T_isWithinBounds 26 rfl) (by first | rfl | assumption) ?_
      rw [show rdOk Y 0 v = false from by simp [rdOk]; omega] at q
      exact q
  · refine mx_lookup 28 (mx_d D_T_isWithinBounds 1 rfl) (by decide) (by rfl) (by decide) ?_
    refine mx_iload_n (k4 := 1) (mx_d D_T_isWithinBounds 2 rfl) (by rfl) ?_
    refine mx_sipush (n := 3000) (mx_d D_T_isWithinBounds 3 rfl) (by decide) ?_
    by_cases hc : v ≤ 3000
    · refine mx_icmp_gtN 39 (mx_d D_T_isWithinBounds 4 rfl) (by decide) (by omega) (by omega) (by omega) (by omega) (by omega) ?_
      refine mx_iconst (n := 1) (mx_d D_T_isWithinBounds 5 rfl) ?_
      refine mx_goto 40 (mx_d D_T_isWithinBounds 6 rfl) (by decide) ?_
      refine mx_zret (by rfl) (mx_d D_T_isWithinBounds 8 rfl) (by first | rfl | assumption) ?_
      rw [show rdOk Y 1 v = true from by simp [rdOk, hc]] at q
      exact q
    · refine mx_icmp_gtY 39 (mx_d D_T_isWithinBounds 4 rfl) (by decide) (by omega) (by omega) (by omega) (by omega) (by omega) ?_
      refine mx_iconst (n := 0) (mx_d D_T_isWithinBounds 7 rfl) ?_
      refine mx_zret (by rfl) (mx_d D_T_isWithinBounds 8 rfl) (by first | rfl | assumption) ?_
      rw [show rdOk Y 1 v = false from by simp [rdOk]; omega] at q
      exact q
  · refine mx_lookup 41 (mx_d D_T_isWithinBounds 1 rfl) (by decide) (by rfl) (by decide) ?_
    refine mx_iload_n (k4 := 1) (mx_d D_T_isWithinBounds 9 rfl) (by rfl) ?_
    refine mx_iconst (n := 1) (mx_d D_T_isWithinBounds 10 rfl) ?_
    by_cases hc : 1 ≤ v
    · refine mx_icmp_ltN 56 (mx_d D_T_isWithinBounds 11 rfl) (by decide) (by omega) (by omega) (by omega) (by omega) (by omega) ?_
      refine mx_iload_n (k4 := 1) (mx_d D_T_isWithinBounds 12 rfl) (by rfl) ?_
      refine mx_bipush (n := 100) (mx_d D_T_isWithinBounds 13 rfl) (by decide) ?_
      by_cases hc2 : v ≤ 100
      · refine mx_icmp_gtN 56 (mx_d D_T_isWithinBounds 14 rfl) (by decide) (by omega) (by omega) (by omega) (by omega) (by omega) ?_
        refine mx_iconst (n := 1) (mx_d D_T_isWithinBounds 15 rfl) ?_
        refine mx_goto 57 (mx_d D_T_isWithinBounds 16 rfl) (by decide) ?_
        refine mx_zret (by rfl) (mx_d D_T_isWithinBounds 18 rfl) (by first | rfl | assumption) ?_
        rw [show rdOk Y 2 v = true from by simp [rdOk, hc, hc2]] at q
        exact q
      · refine mx_icmp_gtY 56 (mx_d D_T_isWithinBounds 14 rfl) (by decide) (by omega) (by omega) (by omega) (by omega) (by omega) ?_
        refine mx_iconst (n := 0) (mx_d D_T_isWithinBounds 17 rfl) ?_
        refine mx_zret (by rfl) (mx_d D_T_isWithinBounds 18 rfl) (by first | rfl | assumption) ?_
        rw [show rdOk Y 2 v = false from by simp [rdOk]; omega] at q
        exact q
    · refine mx_icmp_ltY 56 (mx_d D_T_isWithinBounds 11 rfl) (by decide) (by omega) (by omega) (by omega) (by omega) (by omega) ?_
      refine mx_iconst (n := 0) (mx_d D_T_isWithinBounds 17 rfl) ?_
      refine mx_zret (by rfl) (mx_d D_T_isWithinBounds 18 rfl) (by first | rfl | assumption) ?_
      rw [show rdOk Y 2 v = false from by simp [rdOk]; omega] at q
      exact q
theorem c_T_takesDigit (hG : mx_ok G) (ho : o < N) (ha : a < N) (e1 : o ≠ a) (h1 : ce o = .inr (6, [.int (iI Y), .ref (mx_B G + a), .int (iI c), .int (iI (bI b))])) (h2 : ce a = aI G 100 t) (hY : Y ≤ 60) (hc : c < 100) (hb1 : b = true → 0 ≤ t c ∧ t c ≤ 3000) {z : Int} (hz1 : 0 ≤ z) (hz2 : z ≤ 9)
    (q0 : rdStep Y (z + 48) c b t = none → Q (.inl (some (.int (iI (bI false))))) N ce bc bs)
    (q1 : ∀ ce' t', rdStep Y (z + 48) c b t = some (c, true, t') → (∀ k, k ≠ o → k ≠ a → ce' k = ce k) → ce' o = .inr (6, [.int (iI Y), .ref (mx_B G + a), .int (iI c), .int (iI (bI true))]) → ce' a = aI G 100 t' → Q (.inl (some (.int (iI (bI true))))) N ce' bc bs) : mx_M G Y_T_takesDigit (d + 1) bc bs ex N ce 0 [(0, .ref (mx_B G + o)), (1, .int (iI z))] [] Q := by
  have hx : 48 ≤ z + 48 ∧ z + 48 ≤ 57 := by omega
  have hzz : z + 48 - 48 = z := by omega
  rw [rdStep, if_pos hx, hzz] at q0
  simp only [rdStep, if_pos hx, hzz] at q1
  have fin : ¬ (b = true ∧ t c = 0) → 0 ≤ rdNum b (t c) z → rdNum b (t c) z ≤ 100000 → mx_M G Y_T_takesDigit (d + 1) bc bs ex N ce 58 [(0, .ref (mx_B G + o)), (1, .int (iI z))] [.int (iI (rdNum b (t c) z))] Q := by
    intro hn hl1 hl2
    rw [if_neg hn] at q0
    simp only [if_neg hn] at q1
    refine mx_istore_n (k4 := 2) (mx_d D_T_takesDigit 31 rfl) (by decide) ?_
    refine mx_aload_n (k4 := 0) (mx_d D_T_takesDigit 32 rfl) (by rfl) ?_
    refine mx_iload_n (k4 := 2) (mx_d D_T_takesDigit 33 rfl) (by rfl) ?_
    refine mx_aload_n (k4 := 0) (mx_d D_T_takesDigit 34 rfl) (by rfl) ?_
    refine mx_getf hG (idx := 19) (ci := 6) (kf := 2) (mx_d D_T_takesDigit 35 rfl) (by rfl) cls_T (by decide) w_138 (by first | assumption | omega) (by first | assumption | exact va_up_self _ _ _ | (rw [va_up_ne _ _ (by omega)]; first | assumption | exact va_up_self _ _ _ | (rw [va_up_ne _ _ (by omega)]; first | assumption | exact va_up_self _ _ _ | (rw [va_up_ne _ _ (by omega)]; first | assumption | exact va_up_self _ _ _ | (rw [va_up_ne _ _ (by omega)]; first | assumption | exact va_up_self _ _ _ | (rw [va_up_ne _ _ (by omega)]; first | assumption | exact va_up_self _ _ _)))))) (by rfl) ?_
    refine mx_iconst (n := 3) (mx_d D_T_takesDigit 36 rfl) ?_
    refine mx_remI (mx_d D_T_takesDigit 37 rfl) (by omega) (by omega) (by omega) (by omega) ?_
    refine mx_callV hG (Y' := Y_T_isWithinBounds) (ci := 6) [_, _] (mx_d D_T_takesDigit 38 rfl) in_T_isWithinBounds w_217 w_219 s_T_isWithinBounds (by rfl) np_T_isWithinBounds (by exact Nat.le_of_ble_eq_true rfl) (by rfl) (by first | assumption | omega) (by first | assumption | exact va_up_self _ _ _ | (rw [va_up_ne _ _ (by omega)]; first | assumption | exact va_up_self _ _ _ | (rw [va_up_ne _ _ (by omega)]; first | assumption | exact va_up_self _ _ _ | (rw [va_up_ne _ _ (by omega)]; first | assumption | exact va_up_self _ _ _ | (rw [va_up_ne _ _ (by omega)]; first | assumption | exact va_up_self _ _ _ | (rw [va_up_ne _ _ (by omega)]; first | assumption | exact va_up_self _ _ _)))))) (by rfl) (by exact Nat.le_of_ble_eq_true rfl) (c_T_isWithin hG ho h1 hY (k := c % 3) (by omega) hl1 hl2 ?_)
    cases hok : rdOk Y (c % 3) (rdNum b (t c) z) with
    | true =>
      simp only [hok, if_true] at q1
      refine mx_if_neY 75 (mx_d D_T_takesDigit 39 rfl) (by decide) (by decide) (by decide) (by decide) ?_
      refine mx_aload_n (k4 := 0) (mx_d D_T_takesDigit 42 rfl) (by rfl) ?_
      refine mx_getf hG (idx := 15) (ci := 6) (kf := 1) (mx_d D_T_takesDigit 43 rfl) (by rfl) cls_T (by decide) w_137 (by first | assumption | omega) (by first | assumption | exact va_up_self _ _ _ | (rw [va_up_ne _ _ (by omega)]; first | assumption | exact va_up_self _ _ _ | (rw [va_up_ne _ _ (by omega)]; first | assumption | exact va_up_self _ _ _ | (rw [va_up_ne _ _ (by omega)]; first | assumption | exact va_up_self _ _ _ | (rw [va_up_ne _ _ (by omega)]; first | assumption | exact va_up_self _ _ _ | (rw [va_up_ne _ _ (by omega)]; first | assumption | exact va_up_self _ _ _)))))) (by rfl) ?_
      refine mx_aload_n (k4 := 0) (mx_d D_T_takesDigit 44 rfl) (by rfl) ?_
      refine mx_getf hG (idx := 19) (ci := 6) (kf := 2) (mx_d D_T_takesDigit 45 rfl) (by rfl) cls_T (by decide) w_138 (by first | assumption | omega) (by first | assumption | exact va_up_self _ _ _ | (rw [va_up_ne _ _ (by omega)]; first | assumption | exact va_up_self _ _ _ | (rw [va_up_ne _ _ (by omega)]; first | assumption | exact va_up_self _ _ _ | (rw [va_up_ne _ _ (by omega)]; first | assumption | exact va_up_self _ _ _ | (rw [va_up_ne _ _ (by omega)]; first | assumption | exact va_up_self _ _ _ | (rw [va_up_ne _ _ (by omega)]; first | assumption | exact va_up_self _ _ _)))))) (by rfl) ?_
      refine mx_iload_n (k4 := 2) (mx_d D_T_takesDigit 46 rfl) (by rfl) ?_
      refine mx_iastI hG _ _ (mx_d D_T_takesDigit 47 rfl) (by first | assumption | omega) (by first | assumption | exact va_up_self _ _ _ | (rw [va_up_ne _ _ (by omega)]; first | assumption | exact va_up_self _ _ _ | (rw [va_up_ne _ _ (by omega)]; first | assumption | exact va_up_self _ _ _ | (rw [va_up_ne _ _ (by omega)]; first | assumption | exact va_up_self _ _ _ | (rw [va_up_ne _ _ (by omega)]; first | assumption | exact va_up_self _ _ _ | (rw [va_up_ne _ _ (by omega)]; first | assumption | exact va_up_self _ _ _)))))) (by rfl) (by rfl) (by omega) (by omega) ?_
      refine mx_aload_n (k4 := 0) (mx_d D_T_takesDigit 48 rfl) (by rfl) ?_
      refine mx_iconst (n := 1) (mx_d D_T_takesDigit 49 rfl) ?_
      refine mx_putf hG (idx := 22) (ci := 6) (kf := 3) (t := (.boolean)) (mx_d D_T_takesDigit 50 rfl) (by rfl) cls_T (by decide) (Or.inl rfl) w_139 (by first | assumption | omega) (by first | assumption | exact va_up_self _ _ _ | (rw [va_up_ne _ _ (by omega)]; first | assumption | exact va_up_self _ _ _ | (rw [va_up_ne _ _ (by omega)]; first | assumption | exact va_up_self _ _ _ | (rw [va_up_ne _ _ (by omega)]; first | assumption | exact va_up_self _ _ _ | (rw [va_up_ne _ _ (by omega)]; first | assumption | exact va_up_self _ _ _ | (rw [va_up_ne _ _ (by omega)]; first | assumption | exact va_up_self _ _ _)))))) (by exact Nat.le_of_ble_eq_true rfl) (by decide +kernel) (by rfl) (by rfl) ?_
      refine mx_iconst (n := 1) (mx_d D_T_takesDigit 51 rfl) ?_
      refine mx_zret (by rfl) (mx_d D_T_takesDigit 52 rfl) (by first | rfl | assumption) ?_
      refine q1 _ _ rfl (fun k k1 k2 => ?_) (va_up_self _ _ _) ?_
      · rw [va_up_ne _ _ k1, va_up_ne _ _ k2]
      · rw [va_up_ne _ _ (Ne.symm e1), va_up_self]
    | false =>
      rw [hok, if_neg (by decide)] at q0
      refine mx_if_neN 75 (mx_d D_T_takesDigit 39 rfl) (by decide) (by decide) (by decide) (by decide) ?_
      refine mx_iconst (n := 0) (mx_d D_T_takesDigit 40 rfl) ?_
      refine mx_zret (by rfl) (mx_d D_T_takesDigit 41 rfl) (by first | rfl | assumption) ?_
      exact q0 rfl
  refine mx_aload_n (k4 := 0) (mx_d D_T_takesDigit 0 rfl) (by rfl) ?_
  refine mx_getf hG (idx := 19) (ci := 6) (kf := 2) (mx_d D_T_takesDigit 1 rfl) (by rfl) cls_T (by decide) w_138 (by first | assumption | omega) (by first | assumption | exact va_up_self _ _ _ | (rw [va_up_ne _ _ (by omega)]; first | assumption | exact va_up_self _ _ _ | (rw [va_up_ne _ _ (by omega)]; first | assumption | exact va_up_self _ _ _ | (rw [va_up_ne _ _ (by omega)]; first | assumption | exact va_up_self _ _ _ | (rw [va_up_ne _ _ (by omega)]; first | assumption | exact va_up_self _ _ _ | (rw [va_up_ne _ _ (by omega)]; first | assumption | exact va_up_self _ _ _)))))) (by rfl) ?_
  refine mx_aload_n (k4 := 0) (mx_d D_T_takesDigit 2 rfl) (by rfl) ?_
  refine mx_getf hG (idx := 15) (ci := 6) (kf := 1) (mx_d D_T_takesDigit 3 rfl) (by rfl) cls_T (by decide) w_137 (by first | assumption | omega) (by first | assumption | exact va_up_self _ _ _ | (rw [va_up_ne _ _ (by omega)]; first | assumption | exact va_up_self _ _ _ | (rw [va_up_ne _ _ (by omega)]; first | assumption | exact va_up_self _ _ _ | (rw [va_up_ne _ _ (by omega)]; first | assumption | exact va_up_self _ _ _ | (rw [va_up_ne _ _ (by omega)]; first | assumption | exact va_up_self _ _ _ | (rw [va_up_ne _ _ (by omega)]; first | assumption | exact va_up_self _ _ _)))))) (by rfl) ?_
  refine mx_alen hG 0 (mx_d D_T_takesDigit 4 rfl) (by first | assumption | omega) (by first | assumption | exact va_up_self _ _ _ | (rw [va_up_ne _ _ (by omega)]; first | assumption | exact va_up_self _ _ _ | (rw [va_up_ne _ _ (by omega)]; first | assumption | exact va_up_self _ _ _ | (rw [va_up_ne _ _ (by omega)]; first | assumption | exact va_up_self _ _ _ | (rw [va_up_ne _ _ (by omega)]; first | assumption | exact va_up_self _ _ _ | (rw [va_up_ne _ _ (by omega)]; first | assumption | exact va_up_self _ _ _)))))) (by rfl) ?_
  refine mx_icmp_geN 31 (mx_d D_T_takesDigit 5 rfl) (by decide) (by omega) (by omega) (by omega) (by omega) (by omega) ?_
  refine mx_aload_n (k4 := 0) (mx_d D_T_takesDigit 6 rfl) (by rfl) ?_
  refine mx_getf hG (idx := 22) (ci := 6) (kf := 3) (mx_d D_T_takesDigit 7 rfl) (by rfl) cls_T (by decide) w_139 (by first | assumption | omega) (by first | assumption | exact va_up_self _ _ _ | (rw [va_up_ne _ _ (by omega)]; first | assumption | exact va_up_self _ _ _ | (rw [va_up_ne _ _ (by omega)]; first | assumption | exact va_up_self _ _ _ | (rw [va_up_ne _ _ (by omega)]; first | assumption | exact va_up_self _ _ _ | (rw [va_up_ne _ _ (by omega)]; first | assumption | exact va_up_self _ _ _ | (rw [va_up_ne _ _ (by omega)]; first | assumption | exact va_up_self _ _ _)))))) (by rfl) ?_
  cases b with
  | false =>
    refine mx_if_eqY 33 (mx_d D_T_takesDigit 8 rfl) (by decide) (by decide) (by decide) (by decide) ?_
    refine mx_aload_n (k4 := 0) (mx_d D_T_takesDigit 17 rfl) (by rfl) ?_
    refine mx_getf hG (idx := 22) (ci := 6) (kf := 3) (mx_d D_T_takesDigit 18 rfl) (by rfl) cls_T (by decide) w_139 (by first | assumption | omega) (by first | assumption | exact va_up_self _ _ _ | (rw [va_up_ne _ _ (by omega)]; first | assumption | exact va_up_self _ _ _ | (rw [va_up_ne _ _ (by omega)]; first | assumption | exact va_up_self _ _ _ | (rw [va_up_ne _ _ (by omega)]; first | assumption | exact va_up_self _ _ _ | (rw [va_up_ne _ _ (by omega)]; first | assumption | exact va_up_self _ _ _ | (rw [va_up_ne _ _ (by omega)]; first | assumption | exact va_up_self _ _ _)))))) (by rfl) ?_
    refine mx_if_eqY 57 (mx_d D_T_takesDigit 19 rfl) (by decide) (by decide) (by decide) (by decide) ?_
    refine mx_iload_n (k4 := 1) (mx_d D_T_takesDigit 30 rfl) (by rfl) ?_
    exact fin (by simp) (by simpa [rdNum] using hz1) (by simp [rdNum]; omega)
  | true =>
    have hb2 := hb1 rfl
    refine mx_if_eqN 33 (mx_d D_T_takesDigit 8 rfl) (by decide) (by decide) (by decide) (by decide) ?_
    refine mx_aload_n (k4 := 0) (mx_d D_T_takesDigit 9 rfl) (by rfl) ?_
    refine mx_getf hG (idx := 15) (ci := 6) (kf := 1) (mx_d D_T_takesDigit 10 rfl) (by rfl) cls_T (by decide) w_137 (by first | assumption | omega) (by first | assumption | exact va_up_self _ _ _ | (rw [va_up_ne _ _ (by omega)]; first | assumption | exact va_up_self _ _ _ | (rw [va_up_ne _ _ (by omega)]; first | assumption | exact va_up_self _ _ _ | (rw [va_up_ne _ _ (by omega)]; first | assumption | exact va_up_self _ _ _ | (rw [va_up_ne _ _ (by omega)]; first | assumption | exact va_up_self _ _ _ | (rw [va_up_ne _ _ (by omega)]; first | assumption | exact va_up_self _ _ _)))))) (by rfl) ?_
    refine mx_aload_n (k4 := 0) (mx_d D_T_takesDigit 11 rfl) (by rfl) ?_
    refine mx_getf hG (idx := 19) (ci := 6) (kf := 2) (mx_d D_T_takesDigit 12 rfl) (by rfl) cls_T (by decide) w_138 (by first | assumption | omega) (by first | assumption | exact va_up_self _ _ _ | (rw [va_up_ne _ _ (by omega)]; first | assumption | exact va_up_self _ _ _ | (rw [va_up_ne _ _ (by omega)]; first | assumption | exact va_up_self _ _ _ | (rw [va_up_ne _ _ (by omega)]; first | assumption | exact va_up_self _ _ _ | (rw [va_up_ne _ _ (by omega)]; first | assumption | exact va_up_self _ _ _ | (rw [va_up_ne _ _ (by omega)]; first | assumption | exact va_up_self _ _ _)))))) (by rfl) ?_
    refine mx_ialdI hG _ (mx_d D_T_takesDigit 13 rfl) (by first | assumption | omega) (by first | assumption | exact va_up_self _ _ _ | (rw [va_up_ne _ _ (by omega)]; first | assumption | exact va_up_self _ _ _ | (rw [va_up_ne _ _ (by omega)]; first | assumption | exact va_up_self _ _ _ | (rw [va_up_ne _ _ (by omega)]; first | assumption | exact va_up_self _ _ _ | (rw [va_up_ne _ _ (by omega)]; first | assumption | exact va_up_self _ _ _ | (rw [va_up_ne _ _ (by omega)]; first | assumption | exact va_up_self _ _ _)))))) (by rfl) (by omega) (by omega) ?_
    by_cases h0 : t c = 0
    · refine mx_if_neN 33 (mx_d D_T_takesDigit 14 rfl) (by decide) (by omega) (by omega) (by omega) ?_
      refine mx_iconst (n := 0) (mx_d D_T_takesDigit 15 rfl) ?_
      refine mx_zret (by rfl) (mx_d D_T_takesDigit 16 rfl) (by first | rfl | assumption) ?_
      exact q0 (by rw [if_pos ⟨rfl, h0⟩])
    · refine mx_if_neY 33 (mx_d D_T_takesDigit 14 rfl) (by decide) (by omega) (by omega) (by omega) ?_
      refine mx_aload_n (k4 := 0) (mx_d D_T_takesDigit 17 rfl) (by rfl) ?_
      refine mx_getf hG (idx := 22) (ci := 6) (kf := 3) (mx_d D_T_takesDigit 18 rfl) (by rfl) cls_T (by decide) w_139 (by first | assumption | omega) (by first | assumption | exact va_up_self _ _ _ | (rw [va_up_ne _ _ (by omega)]; first | assumption | exact va_up_self _ _ _ | (rw [va_up_ne _ _ (by omega)]; first | assumption | exact va_up_self _ _ _ | (rw [va_up_ne _ _ (by omega)]; first | assumption | exact va_up_self _ _ _ | (rw [va_up_ne _ _ (by omega)]; first | assumption | exact va_up_self _ _ _ | (rw [va_up_ne _ _ (by omega)]; first | assumption | exact va_up_self _ _ _)))))) (by rfl) ?_
      refine mx_if_eqN 57 (mx_d D_T_takesDigit 19 rfl) (by decide) (by decide) (by decide) (by decide) ?_
      refine mx_bipush (n := 10) (mx_d D_T_takesDigit 20 rfl) (by decide) ?_
      refine mx_aload_n (k4 := 0) (mx_d D_T_takesDigit 21 rfl) (by rfl) ?_
      refine mx_getf hG (idx := 15) (ci := 6) (kf := 1) (mx_d D_T_takesDigit 22 rfl) (by rfl) cls_T (by decide) w_137 (by first | assumption | omega) (by first | assumption | exact va_up_self _ _ _ | (rw [va_up_ne _ _ (by omega)]; first | assumption | exact va_up_self _ _ _ | (rw [va_up_ne _ _ (by omega)]; first | assumption | exact va_up_self _ _ _ | (rw [va_up_ne _ _ (by omega)]; first | assumption | exact va_up_self _ _ _ | (rw [va_up_ne _ _ (by omega)]; first | assumption | exact va_up_self _ _ _ | (rw [va_up_ne _ _ (by omega)]; first | assumption | exact va_up_self _ _ _)))))) (by rfl) ?_
      refine mx_aload_n (k4 := 0) (mx_d D_T_takesDigit 23 rfl) (by rfl) ?_
      refine mx_getf hG (idx := 19) (ci := 6) (kf := 2) (mx_d D_T_takesDigit 24 rfl) (by rfl) cls_T (by decide) w_138 (by first | assumption | omega) (by first | assumption | exact va_up_self _ _ _ | (rw [va_up_ne _ _ (by omega)]; first | assumption | exact va_up_self _ _ _ | (rw [va_up_ne _ _ (by omega)]; first | assumption | exact va_up_self _ _ _ | (rw [va_up_ne _ _ (by omega)]; first | assumption | exact va_up_self _ _ _ | (rw [va_up_ne _ _ (by omega)]; first | assumption | exact va_up_self _ _ _ | (rw [va_up_ne _ _ (by omega)]; first | assumption | exact va_up_self _ _ _)))))) (by rfl) ?_
      refine mx_ialdI hG _ (mx_d D_T_takesDigit 25 rfl) (by first | assumption | omega) (by first | assumption | exact va_up_self _ _ _ | (rw [va_up_ne _ _ (by omega)]; first | assumption | exact va_up_self _ _ _ | (rw [va_up_ne _ _ (by omega)]; first | assumption | exact va_up_self _ _ _ | (rw [va_up_ne _ _ (by omega)]; first | assumption | exact va_up_self _ _ _ | (rw [va_up_ne _ _ (by omega)]; first | assumption | exact va_up_self _ _ _ | (rw [va_up_ne _ _ (by omega)]; first | assumption | exact va_up_self _ _ _)))))) (by rfl) (by omega) (by omega) ?_
      refine mx_imulI (mx_d D_T_takesDigit 26 rfl) ?_
      refine mx_iload_n (k4 := 1) (mx_d D_T_takesDigit 27 rfl) (by rfl) ?_
      refine mx_iaddI (mx_d D_T_takesDigit 28 rfl) ?_
      refine mx_goto 58 (mx_d D_T_takesDigit 29 rfl) (by decide) ?_
      exact fin (fun h => h0 h.2) (by simp [rdNum]; omega) (by simp [rdNum]; omega)
theorem c_T_takes (hG : mx_ok G) (ho : o < N) (ha : a < N) (e1 : o ≠ a) (h1 : ce o = .inr (6, [.int (iI Y), .ref (mx_B G + a), .int (iI c), .int (iI (bI b))])) (h2 : ce a = aI G 100 t) (hY : Y ≤ 60) (hc : c < 100) (hb1 : b = true → 0 ≤ t c ∧ t c ≤ 3000) {x : Int} (hx1 : -2147483648 ≤ x) (hx2 : x < 2147483648)
    (q0 : rdStep Y x c b t = none → Q (.inl (some (.int (iI (bI false))))) N ce bc bs)
    (q1 : ∀ ce' c' b' t', rdStep Y x c b t = some (c', b', t') → (∀ k, k ≠ o → k ≠ a → ce' k = ce k) → ce' o = .inr (6, [.int (iI Y), .ref (mx_B G + a), .int (iI c'), .int (iI (bI b'))]) → ce' a = aI G 100 t' → Q (.inl (some (.int (iI (bI true))))) N ce' bc bs) : mx_M G Y_T_takes (d + 2) bc bs ex N ce 0 [(0, .ref (mx_B G + o)), (1, .int (iI x))] [] Q := by
  have oth : ¬ (48 ≤ x ∧ x ≤ 57) → mx_M G Y_T_takes (d + 2) bc bs ex N ce 21 [(0, .ref (mx_B G + o)), (1, .int (iI x))] [] Q := by
    intro hx
    simp only [rdStep, if_neg hx] at q0 q1
    have b3 : -2147483648 ≤ rdSep (c % 3) ∧ rdSep (c % 3) < 2147483648 := by unfold rdSep; split <;> (try split) <;> omega
    refine mx_aload_n (k4 := 0) (mx_d D_T_takes 12 rfl) (by rfl) ?_
    refine mx_getf hG (idx := 22) (ci := 6) (kf := 3) (mx_d D_T_takes 13 rfl) (by rfl) cls_T (by decide) w_139 (by first | assumption | omega) (by first | assumption | exact va_up_self _ _ _ | (rw [va_up_ne _ _ (by omega)]; first | assumption | exact va_up_self _ _ _ | (rw [va_up_ne _ _ (by omega)]; first | assumption | exact va_up_self _ _ _ | (rw [va_up_ne _ _ (by omega)]; first | assumption | exact va_up_self _ _ _ | (rw [va_up_ne _ _ (by omega)]; first | assumption | exact va_up_self _ _ _ | (rw [va_up_ne _ _ (by omega)]; first | assumption | exact va_up_self _ _ _)))))) (by rfl) ?_
    cases b with
    | false =>
      refine mx_if_eqY 41 (mx_d D_T_takes 14 rfl) (by decide) (by decide) (by decide) (by decide) ?_
      refine mx_iconst (n := 0) (mx_d D_T_takes 22 rfl) ?_
      refine mx_zret (by rfl) (mx_d D_T_takes 23 rfl) (by first | rfl | assumption) ?_
      exact q0 (by simp)
    | true =>
      refine mx_if_eqN 41 (mx_d D_T_takes 14 rfl) (by decide) (by decide) (by decide) (by decide) ?_
      refine mx_iload_n (k4 := 1) (mx_d D_T_takes 15 rfl) (by rfl) ?_
      refine mx_aload_n (k4 := 0) (mx_d D_T_takes 16 rfl) (by rfl) ?_
      refine mx_getf hG (idx := 19) (ci := 6) (kf := 2) (mx_d D_T_takes 17 rfl) (by rfl) cls_T (by decide) w_138 (by first | assumption | omega) (by first | assumption | exact va_up_self _ _ _ | (rw [va_up_ne _ _ (by omega)]; first | assumption | exact va_up_self _ _ _ | (rw [va_up_ne _ _ (by omega)]; first | assumption | exact va_up_self _ _ _ | (rw [va_up_ne _ _ (by omega)]; first | assumption | exact va_up_self _ _ _ | (rw [va_up_ne _ _ (by omega)]; first | assumption | exact va_up_self _ _ _ | (rw [va_up_ne _ _ (by omega)]; first | assumption | exact va_up_self _ _ _)))))) (by rfl) ?_
      refine mx_iconst (n := 3) (mx_d D_T_takes 18 rfl) ?_
      refine mx_remI (mx_d D_T_takes 19 rfl) (by omega) (by omega) (by omega) (by omega) ?_
      refine mx_callS (Y' := Y_T_signBehind) [_] (mx_d D_T_takes 20 rfl) in_T_signBehind w_221 w_222 np_T_signBehind (by exact Nat.le_of_ble_eq_true rfl) (by rfl) (by rfl) (by exact Nat.le_of_ble_eq_true rfl) (c_T_signBehind (k := c % 3) (by omega) ?_)
      by_cases hs : x = rdSep (c % 3)
      · refine mx_icmp_eqY 43 (mx_d D_T_takes 21 rfl) (by decide) (by omega) (by omega) (by omega) (by omega) (by omega) ?_
        refine mx_aload_n (k4 := 0) (mx_d D_T_takes 24 rfl) (by rfl) ?_
        refine mx_dup (mx_d D_T_takes 25 rfl) (by rfl) ?_
        refine mx_getf hG (idx := 19) (ci := 6) (kf := 2) (mx_d D_T_takes 26 rfl) (by rfl) cls_T (by decide) w_138 (by first | assumption | omega) (by first | assumption | exact va_up_self _ _ _ | (rw [va_up_ne _ _ (by omega)]; first | assumption | exact va_up_self _ _ _ | (rw [va_up_ne _ _ (by omega)]; first | assumption | exact va_up_self _ _ _ | (rw [va_up_ne _ _ (by omega)]; first | assumption | exact va_up_self _ _ _ | (rw [va_up_ne _ _ (by omega)]; first | assumption | exact va_up_self _ _ _ | (rw [va_up_ne _ _ (by omega)]; first | assumption | exact va_up_self _ _ _)))))) (by rfl) ?_
        refine mx_iconst (n := 1) (mx_d D_T_takes 27 rfl) ?_
        refine mx_iaddI (mx_d D_T_takes 28 rfl) ?_
        refine mx_putf hG (idx := 19) (ci := 6) (kf := 2) (t := (.int)) (mx_d D_T_takes 29 rfl) (by rfl) cls_T (by decide) (Or.inl rfl) w_138 (by first | assumption | omega) (by first | assumption | exact va_up_self _ _ _ | (rw [va_up_ne _ _ (by omega)]; first | assumption | exact va_up_self _ _ _ | (rw [va_up_ne _ _ (by omega)]; first | assumption | exact va_up_self _ _ _ | (rw [va_up_ne _ _ (by omega)]; first | assumption | exact va_up_self _ _ _ | (rw [va_up_ne _ _ (by omega)]; first | assumption | exact va_up_self _ _ _ | (rw [va_up_ne _ _ (by omega)]; first | assumption | exact va_up_self _ _ _)))))) (by exact Nat.le_of_ble_eq_true rfl) (by decide +kernel) (by rfl) (by rfl) ?_
        refine mx_aload_n (k4 := 0) (mx_d D_T_takes 30 rfl) (by rfl) ?_
        refine mx_iconst (n := 0) (mx_d D_T_takes 31 rfl) ?_
        refine mx_putf hG (idx := 22) (ci := 6) (kf := 3) (t := (.boolean)) (mx_d D_T_takes 32 rfl) (by rfl) cls_T (by decide) (Or.inl rfl) w_139 (by first | assumption | omega) (by first | assumption | exact va_up_self _ _ _ | (rw [va_up_ne _ _ (by omega)]; first | assumption | exact va_up_self _ _ _ | (rw [va_up_ne _ _ (by omega)]; first | assumption | exact va_up_self _ _ _ | (rw [va_up_ne _ _ (by omega)]; first | assumption | exact va_up_self _ _ _ | (rw [va_up_ne _ _ (by omega)]; first | assumption | exact va_up_self _ _ _ | (rw [va_up_ne _ _ (by omega)]; first | assumption | exact va_up_self _ _ _)))))) (by exact Nat.le_of_ble_eq_true rfl) (by decide +kernel) (by rfl) (by rfl) ?_
        refine mx_iconst (n := 1) (mx_d D_T_takes 33 rfl) ?_
        refine mx_zret (by rfl) (mx_d D_T_takes 34 rfl) (by first | rfl | assumption) ?_
        refine q1 _ (c + 1) false t (by rw [if_pos ⟨rfl, hs⟩]) (fun k k1 k2 => ?_) (va_up_self _ _ _) ?_
        · rw [va_up_ne _ _ k1, va_up_ne _ _ k1]
        · rw [va_up_ne _ _ (Ne.symm e1), va_up_ne _ _ (Ne.symm e1), h2]
      · refine mx_icmp_eqN 43 (mx_d D_T_takes 21 rfl) (by decide) (by omega) (by omega) (by omega) (by omega) (by omega) ?_
        refine mx_iconst (n := 0) (mx_d D_T_takes 22 rfl) ?_
        refine mx_zret (by rfl) (mx_d D_T_takes 23 rfl) (by first | rfl | assumption) ?_
        exact q0 (by rw [if_neg (fun h => hs h.2)])
  refine mx_iload_n (k4 := 1) (mx_d D_T_takes 0 rfl) (by rfl) ?_
  refine mx_bipush (n := 48) (mx_d D_T_takes 1 rfl) (by decide) ?_
  by_cases g1 : 48 ≤ x
  · refine mx_icmp_ltN 21 (mx_d D_T_takes 2 rfl) (by decide) (by omega) (by omega) (by omega) (by omega) (by omega) ?_
    refine mx_iload_n (k4 := 1) (mx_d D_T_takes 3 rfl) (by rfl) ?_
    refine mx_bipush (n := 57) (mx_d D_T_takes 4 rfl) (by decide) ?_
    by_cases g2 : x ≤ 57
    · refine mx_icmp_gtN 21 (mx_d D_T_takes 5 rfl) (by decide) (by omega) (by omega) (by omega) (by omega) (by omega) ?_
      refine mx_aload_n (k4 := 0) (mx_d D_T_takes 6 rfl) (by rfl) ?_
      refine mx_iload_n (k4 := 1) (mx_d D_T_takes 7 rfl) (by rfl) ?_
      refine mx_bipush (n := 48) (mx_d D_T_takes 8 rfl) (by decide) ?_
      refine mx_isubI (mx_d D_T_takes 9 rfl) ?_
      have e9 : x - 48 + 48 = x := by omega
      refine mx_callV hG (Y' := Y_T_takesDigit) (ci := 6) [_] (mx_d D_T_takes 10 rfl) in_T_takesDigit w_213 w_215 s_T_takesDigit (by rfl) np_T_takesDigit (by exact Nat.le_of_ble_eq_true rfl) (by rfl) (by first | assumption | omega) (by first | assumption | exact va_up_self _ _ _ | (rw [va_up_ne _ _ (by omega)]; first | assumption | exact va_up_self _ _ _ | (rw [va_up_ne _ _ (by omega)]; first | assumption | exact va_up_self _ _ _ | (rw [va_up_ne _ _ (by omega)]; first | assumption | exact va_up_self _ _ _ | (rw [va_up_ne _ _ (by omega)]; first | assumption | exact va_up_self _ _ _ | (rw [va_up_ne _ _ (by omega)]; first | assumption | exact va_up_self _ _ _)))))) (by rfl) (by exact Nat.le_of_ble_eq_true rfl) (c_T_takesDigit hG ho ha e1 h1 h2 hY hc hb1 (z := x - 48) (by omega) (by omega) (fun hn => ?_) (fun ce' t' hn k1 k2 k3 => ?_))
      · refine mx_zret (by rfl) (mx_d D_T_takes 11 rfl) (bI_nar _) ?_
        exact q0 (by rw [← e9]; exact hn)
      · refine mx_zret (by rfl) (mx_d D_T_takes 11 rfl) (bI_nar _) ?_
        exact q1 _ _ _ _ (by rw [← e9]; exact hn) k1 k2 k3
    · refine mx_icmp_gtY 21 (mx_d D_T_takes 5 rfl) (by decide) (by omega) (by omega) (by omega) (by omega) (by omega) ?_
      exact mx_loc (by rfl) (oth (by omega))
  · refine mx_icmp_ltY 21 (mx_d D_T_takes 2 rfl) (by decide) (by omega) (by omega) (by omega) (by omega) (by omega) ?_
    exact mx_loc (by rfl) (oth (by omega))
end TR
