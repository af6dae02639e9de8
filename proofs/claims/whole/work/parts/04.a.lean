/-! Edition: rows of a curve -/
section ED
variable {G : mx_G} {d bc bs : Nat} {ex : Bool} {N : Nat} {ce : Nat → va_E} {Q : mx_P} {o a s n : Nat} {fa fs : Nat → Int} {rc : Int}
theorem c_E_hasRow (hG : mx_ok G) (ho : o < N) (hs : s < N) (h1 : ce o = .inr (1, [.ref (mx_B G + a), .ref (mx_B G + s), .int (iI rc)])) (h2 : ce s = aI G n fs) (hn : n < 2147483648) {y : Nat} (hy : y < n) (hr : 0 ≤ fs y ∧ fs y ≤ 100)
    (q : Q (.inl (some (.int (iI (bI (decide (0 < fs y))))))) N ce bc bs) : mx_M G Y_E_hasRow d bc bs ex N ce 0 [(0, .ref (mx_B G + o)), (1, .int (iI y))] [] Q := by
  refine mx_aload_n (k4 := 0) (mx_d D_E_hasRow 0 rfl) (by rfl) ?_
  refine mx_getf hG (idx := 13) (ci := 1) (kf := 1) (mx_d D_E_hasRow 1 rfl) (by rfl) cls_E (by decide) w_41 (by first | assumption | omega) (by first | assumption | exact va_up_self _ _ _ | (rw [va_up_ne _ _ (by omega)]; first | assumption | exact va_up_self _ _ _ | (rw [va_up_ne _ _ (by omega)]; first | assumption | exact va_up_self _ _ _ | (rw [va_up_ne _ _ (by omega)]; first | assumption | exact va_up_self _ _ _ | (rw [va_up_ne _ _ (by omega)]; first | assumption | exact va_up_self _ _ _ | (rw [va_up_ne _ _ (by omega)]; first | assumption | exact va_up_self _ _ _)))))) (by rfl) ?_
  refine mx_iload_n (k4 := 1) (mx_d D_E_hasRow 2 rfl) (by rfl) ?_
  refine mx_ialdI hG _ (mx_d D_E_hasRow 3 rfl) (by first | assumption | omega) (by first | assumption | exact va_up_self _ _ _ | (rw [va_up_ne _ _ (by omega)]; first | assumption | exact va_up_self _ _ _ | (rw [va_up_ne _ _ (by omega)]; first | assumption | exact va_up_self _ _ _ | (rw [va_up_ne _ _ (by omega)]; first | assumption | exact va_up_self _ _ _ | (rw [va_up_ne _ _ (by omega)]; first | assumption | exact va_up_self _ _ _ | (rw [va_up_ne _ _ (by omega)]; first | assumption | exact va_up_self _ _ _)))))) (by rfl) (by omega) (by omega) ?_
  refine mx_if_leI 13 (mx_d D_E_hasRow 4 rfl) (by decide) (by omega) (by omega) (fun hb => ?_) (fun hb => ?_)
  · refine mx_iconst (n := 0) (mx_d D_E_hasRow 7 rfl) ?_
    refine mx_zret (by rfl) (mx_d D_E_hasRow 8 rfl) (by first | rfl | assumption) ?_
    rw [show bI (decide (0 < fs y)) = 0 from by simp [bI]; omega] at q
    exact q
  · refine mx_iconst (n := 1) (mx_d D_E_hasRow 5 rfl) ?_
    refine mx_goto 14 (mx_d D_E_hasRow 6 rfl) (by decide) ?_
    refine mx_zret (by rfl) (mx_d D_E_hasRow 8 rfl) (by first | rfl | assumption) ?_
    rw [show bI (decide (0 < fs y)) = 1 from by simp [bI]; omega] at q
    exact q
theorem c_E_tellRow (hG : mx_ok G) (ho : o < N) (ha : a < N) (hs : s < N) (hoa : o ≠ a) (hos : o ≠ s) (has : a ≠ s) (h1 : ce o = .inr (1, [.ref (mx_B G + a), .ref (mx_B G + s), .int (iI rc)])) (h2 : ce a = aI G n fa) (h3 : ce s = aI G n fs) (hn : n < 2147483648) {y : Nat} (hy : y < n) (hr : 0 ≤ fs y ∧ fs y ≤ 100) {x z : Int}
    (q : Q (.inl (some (.int (iI (bI (decide (0 < fs y))))))) N (va_up (va_up (va_up ce a (aI G n (va_up fa y x))) s (aI G n (va_up fs y z))) o (.inr (1, [.ref (mx_B G + a), .ref (mx_B G + s), .int (iI (rc + if 0 < fs y then 0 else 1))]))) bc bs) : mx_M G Y_E_tellRow (d + 1) bc bs ex N ce 0 [(0, .ref (mx_B G + o)), (1, .int (iI y)), (2, .int (iI x)), (3, .int (iI z))] [] Q := by
  refine mx_aload_n (k4 := 0) (mx_d D_E_tellRow 0 rfl) (by rfl) ?_
  refine mx_iload_n (k4 := 1) (mx_d D_E_tellRow 1 rfl) (by rfl) ?_
  refine mx_callV hG (Y' := Y_E_hasRow) (ci := 1) [_] (mx_d D_E_tellRow 2 rfl) in_E_hasRow w_240 w_241 s_E_hasRow (by rfl) np_E_hasRow (by exact Nat.le_of_ble_eq_true rfl) (by rfl) (by first | assumption | omega) (by first | assumption | exact va_up_self _ _ _ | (rw [va_up_ne _ _ (by omega)]; first | assumption | exact va_up_self _ _ _ | (rw [va_up_ne _ _ (by omega)]; first | assumption | exact va_up_self _ _ _ | (rw [va_up_ne _ _ (by omega)]; first | assumption | exact va_up_self _ _ _ | (rw [va_up_ne _ _ (by omega)]; first | assumption | exact va_up_self _ _ _ | (rw [va_up_ne _ _ (by omega)]; first | assumption | exact va_up_self _ _ _)))))) (by rfl) (by exact Nat.le_of_ble_eq_true rfl) (c_E_hasRow hG ho hs h1 h3 hn hy hr ?_)
  refine mx_istore (i := 4) (mx_d D_E_tellRow 3 rfl) (by decide) ?_
  refine mx_aload_n (k4 := 0) (mx_d D_E_tellRow 4 rfl) (by rfl) ?_
  refine mx_getf hG (idx := 7) (ci := 1) (kf := 0) (mx_d D_E_tellRow 5 rfl) (by rfl) cls_E (by decide) w_39 (by first | assumption | omega) (by first | assumption | exact va_up_self _ _ _ | (rw [va_up_ne _ _ (by omega)]; first | assumption | exact va_up_self _ _ _ | (rw [va_up_ne _ _ (by omega)]; first | assumption | exact va_up_self _ _ _ | (rw [va_up_ne _ _ (by omega)]; first | assumption | exact va_up_self _ _ _ | (rw [va_up_ne _ _ (by omega)]; first | assumption | exact va_up_self _ _ _ | (rw [va_up_ne _ _ (by omega)]; first | assumption | exact va_up_self _ _ _)))))) (by rfl) ?_
  refine mx_iload_n (k4 := 1) (mx_d D_E_tellRow 6 rfl) (by rfl) ?_
  refine mx_iload_n (k4 := 2) (mx_d D_E_tellRow 7 rfl) (by rfl) ?_
  refine mx_iastI hG _ _ (mx_d D_E_tellRow 8 rfl) (by first | assumption | omega) (by first | assumption | exact va_up_self _ _ _ | (rw [va_up_ne _ _ (by omega)]; first | assumption | exact va_up_self _ _ _ | (rw [va_up_ne _ _ (by omega)]; first | assumption | exact va_up_self _ _ _ | (rw [va_up_ne _ _ (by omega)]; first | assumption | exact va_up_self _ _ _ | (rw [va_up_ne _ _ (by omega)]; first | assumption | exact va_up_self _ _ _ | (rw [va_up_ne _ _ (by omega)]; first | assumption | exact va_up_self _ _ _)))))) (by rfl) (by rfl) (by omega) (by omega) ?_
  refine mx_aload_n (k4 := 0) (mx_d D_E_tellRow 9 rfl) (by rfl) ?_
  refine mx_getf hG (idx := 13) (ci := 1) (kf := 1) (mx_d D_E_tellRow 10 rfl) (by rfl) cls_E (by decide) w_41 (by first | assumption | omega) (by first | assumption | exact va_up_self _ _ _ | (rw [va_up_ne _ _ (by omega)]; first | assumption | exact va_up_self _ _ _ | (rw [va_up_ne _ _ (by omega)]; first | assumption | exact va_up_self _ _ _ | (rw [va_up_ne _ _ (by omega)]; first | assumption | exact va_up_self _ _ _ | (rw [va_up_ne _ _ (by omega)]; first | assumption | exact va_up_self _ _ _ | (rw [va_up_ne _ _ (by omega)]; first | assumption | exact va_up_self _ _ _)))))) (by rfl) ?_
  refine mx_iload_n (k4 := 1) (mx_d D_E_tellRow 11 rfl) (by rfl) ?_
  refine mx_iload_n (k4 := 3) (mx_d D_E_tellRow 12 rfl) (by rfl) ?_
  refine mx_iastI hG _ _ (mx_d D_E_tellRow 13 rfl) (by first | assumption | omega) (by first | assumption | exact va_up_self _ _ _ | (rw [va_up_ne _ _ (by omega)]; first | assumption | exact va_up_self _ _ _ | (rw [va_up_ne _ _ (by omega)]; first | assumption | exact va_up_self _ _ _ | (rw [va_up_ne _ _ (by omega)]; first | assumption | exact va_up_self _ _ _ | (rw [va_up_ne _ _ (by omega)]; first | assumption | exact va_up_self _ _ _ | (rw [va_up_ne _ _ (by omega)]; first | assumption | exact va_up_self _ _ _)))))) (by rfl) (by rfl) (by omega) (by omega) ?_
  refine mx_iload (i := 4) (mx_d D_E_tellRow 14 rfl) (by rfl) ?_
  by_cases hc : 0 < fs y
  · rw [show bI (decide (0 < fs y)) = 1 from by simp [bI, hc]] at q ⊢
    rw [if_pos hc, Int.add_zero] at q
    refine mx_if_neY 36 (mx_d D_E_tellRow 15 rfl) (by decide) (by omega) (by omega) (by omega) ?_
    refine mx_iload (i := 4) (mx_d D_E_tellRow 22 rfl) (by rfl) ?_
    refine mx_zret (by rfl) (mx_d D_E_tellRow 23 rfl) (by first | rfl | assumption) ?_
    have e : va_up (va_up (va_up ce a (aI G n (va_up fa y x))) s (aI G n (va_up fs y z))) o (.inr (1, [.ref (mx_B G + a), .ref (mx_B G + s), .int (iI rc)])) = va_up (va_up ce a (aI G n (va_up fa y x))) s (aI G n (va_up fs y z)) := by
      funext k
      by_cases hk : k = o
      · subst hk; rw [va_up_self, va_up_ne _ _ hos, va_up_ne _ _ hoa, h1]
      · rw [va_up_ne _ _ hk]
    rw [e] at q
    exact q
  · rw [show bI (decide (0 < fs y)) = 0 from by simp [bI, hc]] at q ⊢
    rw [if_neg hc] at q
    refine mx_if_neN 36 (mx_d D_E_tellRow 15 rfl) (by decide) (by omega) (by omega) (by omega) ?_
    refine mx_aload_n (k4 := 0) (mx_d D_E_tellRow 16 rfl) (by rfl) ?_
    refine mx_dup (mx_d D_E_tellRow 17 rfl) (by rfl) ?_
    refine mx_getf hG (idx := 20) (ci := 1) (kf := 2) (mx_d D_E_tellRow 18 rfl) (by rfl) cls_E (by decide) w_43 (by first | assumption | omega) (by first | assumption | exact va_up_self _ _ _ | (rw [va_up_ne _ _ (by omega)]; first | assumption | exact va_up_self _ _ _ | (rw [va_up_ne _ _ (by omega)]; first | assumption | exact va_up_self _ _ _ | (rw [va_up_ne _ _ (by omega)]; first | assumption | exact va_up_self _ _ _ | (rw [va_up_ne _ _ (by omega)]; first | assumption | exact va_up_self _ _ _ | (rw [va_up_ne _ _ (by omega)]; first | assumption | exact va_up_self _ _ _)))))) (by rfl) ?_
    refine mx_iconst (n := 1) (mx_d D_E_tellRow 19 rfl) ?_
    refine mx_iaddI (mx_d D_E_tellRow 20 rfl) ?_
    refine mx_putf hG (idx := 20) (ci := 1) (kf := 2) (t := (.int)) (mx_d D_E_tellRow 21 rfl) (by rfl) cls_E (by decide) (Or.inl rfl) w_43 (by first | assumption | omega) (by first | assumption | exact va_up_self _ _ _ | (rw [va_up_ne _ _ (by omega)]; first | assumption | exact va_up_self _ _ _ | (rw [va_up_ne _ _ (by omega)]; first | assumption | exact va_up_self _ _ _ | (rw [va_up_ne _ _ (by omega)]; first | assumption | exact va_up_self _ _ _ | (rw [va_up_ne _ _ (by omega)]; first | assumption | exact va_up_self _ _ _ | (rw [va_up_ne _ _ (by omega)]; first | assumption | exact va_up_self _ _ _)))))) (by exact Nat.le_of_ble_eq_true rfl) (by decide +kernel) (by rfl) (by rfl) ?_
    refine mx_iload (i := 4) (mx_d D_E_tellRow 22 rfl) (by rfl) ?_
    refine mx_zret (by rfl) (mx_d D_E_tellRow 23 rfl) (by first | rfl | assumption) ?_
    exact q
end ED
