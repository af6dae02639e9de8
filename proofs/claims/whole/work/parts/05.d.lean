/-! date, sum, mix, joinRepeats -/
theorem isRt_uniq {q r t : Int} (h1 : isRt q r) (h2 : isRt q t) : r = t := by
  obtain ⟨a1, a2, a3, a4⟩ := h1
  obtain ⟨b1, b2, b3, b4⟩ := h2
  rcases Int.lt_trichotomy r t with h | h | h
  · have : (r + 1) * (r + 1) ≤ t * t := Int.mul_le_mul (by omega) (by omega) (by omega) (by omega)
    omega
  · exact h
  · have : (t + 1) * (t + 1) ≤ r * r := Int.mul_le_mul (by omega) (by omega) (by omega) (by omega)
    omega
section CJ
variable {G : mx_G} {d bc bs : Nat} {N : Nat} {ce : Nat → va_E} {Q : mx_P} {Y : Nat} {U : Int} {nE iE nD : Nat} {rA rS : Int} {eA eS : Nat → Nat → Int} {dA dS : Nat → Int} {dW : Nat → Nat → Int} {lc : Nat → Bool} {rn rg : Nat → Nat} {rN : Nat} {ps : Nat → Int} {pN : Nat}
theorem c_C_date (hG : mx_ok G) (hN : 50 ≤ N) (hC : CS G Y U nE iE nD rA rS eA eS dA dS dW lc rn rg rN ps pN ce) {a s : Int} (a1 : -2147483648 ≤ a) (a2 : a < 2147483648) (s1 : -2147483648 ≤ s) (s2 : s < 2147483648)
    (q0 : ¬ ((0 ≤ a ∧ a ≤ 3000) ∧ 1 ≤ s ∧ s ≤ 100) → Q (.inr xA) N ce bc bs) (q1 : ((0 ≤ a ∧ a ≤ 3000) ∧ 1 ≤ s ∧ s ≤ 100) → ¬ nD < 12 → Q (.inr xS) N ce bc bs)
    (q2 : ∀ ce' (h : Nat → Int), ((0 ≤ a ∧ a ≤ 3000) ∧ 1 ≤ s ∧ s ≤ 100) → nD < 12 → (∀ j, j < Y → h j = wgt U (s * s + rS * rS) (a - rA) (eA iE j) (eS iE j)) → CS G Y U nE iE (nD + 1) rA rS eA eS (va_up dA nD a) (va_up dS nD s) (va_up dW nD h) lc rn rg rN ps pN ce' → (∀ k, 50 ≤ k → ce' k = ce k) → Q (.inl (some (.int (iI (nD : Nat))))) N ce' bc bs) : mx_M G Y_C_date (d + 6) (bc + 1) (bs + 6) false N ce 0 [(0, .ref (mx_B G + 0)), (1, .int (iI a)), (2, .int (iI s))] [] Q := by
  have c0 := hC.2.1
  have hD := hC.1.2.2.2.1
  refine mx_iload_n (k4 := 1) (mx_d D_C_date 0 rfl) (by rfl) ?_
  refine mx_iload_n (k4 := 2) (mx_d D_C_date 1 rfl) (by rfl) ?_
  refine mx_callS (Y' := Y_C_needAgeAndSpread) [_, _] (mx_d D_C_date 2 rfl) in_C_needAgeAndSpread w_328 w_329 np_C_needAgeAndSpread (by exact Nat.le_of_ble_eq_true rfl) (by rfl) (by rfl) (by exact Nat.le_of_ble_eq_true rfl) (c_needAge hG a1 a2 s1 s2 q0 (fun h3 => ?_))
  refine mx_aload_n (k4 := 0) (mx_d D_C_date 3 rfl) (by rfl) ?_
  refine mx_callV hG (Y' := Y_C_needRoomForDate) (ci := 0) [] (mx_d D_C_date 4 rfl) in_C_needRoomForDate w_403 w_405 s_C_needRoomForDate (by rfl) np_C_needRoomForDate (by exact Nat.le_of_ble_eq_true rfl) (by rfl) (by first | assumption | omega) (by first | assumption | exact va_up_self _ _ _ | (rw [va_up_ne _ _ (by omega)]; first | assumption | exact va_up_self _ _ _ | (rw [va_up_ne _ _ (by omega)]; first | assumption | exact va_up_self _ _ _ | (rw [va_up_ne _ _ (by omega)]; first | assumption | exact va_up_self _ _ _ | (rw [va_up_ne _ _ (by omega)]; first | assumption | exact va_up_self _ _ _ | (rw [va_up_ne _ _ (by omega)]; first | assumption | exact va_up_self _ _ _)))))) (by rfl) (by exact Nat.le_of_ble_eq_true rfl) (c_needRoom hG hN c0 hD (q1 h3) (fun h4 => ?_))
  refine mx_bud (Nat.le_succ bc) (Nat.le_add_right bs 6) ?_
  refine mx_aload_n (k4 := 0) (mx_d D_C_date 5 rfl) (by rfl) ?_
  refine mx_iload_n (k4 := 1) (mx_d D_C_date 6 rfl) (by rfl) ?_
  refine mx_iload_n (k4 := 2) (mx_d D_C_date 7 rfl) (by rfl) ?_
  refine mx_callV hG (Y' := Y_C_tellMeasured) (ci := 0) [_, _] (mx_d D_C_date 8 rfl) in_C_tellMeasured w_408 w_410 s_C_tellMeasured (by rfl) np_C_tellMeasured (by exact Nat.le_of_ble_eq_true rfl) (by rfl) (by first | assumption | omega) (by first | assumption | exact va_up_self _ _ _ | (rw [va_up_ne _ _ (by omega)]; first | assumption | exact va_up_self _ _ _ | (rw [va_up_ne _ _ (by omega)]; first | assumption | exact va_up_self _ _ _ | (rw [va_up_ne _ _ (by omega)]; first | assumption | exact va_up_self _ _ _ | (rw [va_up_ne _ _ (by omega)]; first | assumption | exact va_up_self _ _ _ | (rw [va_up_ne _ _ (by omega)]; first | assumption | exact va_up_self _ _ _)))))) (by rfl) (by exact Nat.le_of_ble_eq_true rfl) (c_tell hG hN hC h4 h3.1 h3.2 (fun ce' h k1 k2 k3 => ?_))
  refine mx_iret (by rfl) (mx_d D_C_date 9 rfl) ?_
  exact q2 ce' h h3 h4 k1 k2 k3
theorem c_C_sum (hG : mx_ok G) (hN : 50 ≤ N) (hC : CS G Y U nE iE nD rA rS eA eS dA dS dW lc rn rg rN ps pN ce) {a b : Int} (a1 : -2147483648 ≤ a) (a2 : a < 2147483648) (b1 : -2147483648 ≤ b) (b2 : b < 2147483648)
    (q0 : ¬ ((0 ≤ a ∧ a < nD) ∧ 0 ≤ b ∧ b < nD) → Q (.inr xI) N ce bc bs) (q1 : ((0 ≤ a ∧ a < nD) ∧ 0 ≤ b ∧ b < nD) → ¬ nD < 12 → Q (.inr xS) N ce bc bs)
    (q2 : ∀ i j : Nat, a = i → b = j → i < nD → j < nD → nD < 12 → ¬ (∀ y, y < Y → dW i y + dW j y ≤ 1000000) → Q (.inl (some (.int (iI (-1))))) N ce bc bs)
    (q3 : ∀ ce' (i j : Nat) (h : Nat → Int), a = i → b = j → i < nD → j < nD → nD < 12 → (∀ y, y < Y → dW i y + dW j y ≤ 1000000) → (∀ y, y < Y → h y = dW i y + dW j y) → CS G Y U nE iE (nD + 1) rA rS eA eS (va_up dA nD 0) (va_up dS nD 0) (va_up dW nD h) lc rn rg rN ps pN ce' → (∀ k, 50 ≤ k → ce' k = ce k) → Q (.inl (some (.int (iI (nD : Nat))))) N ce' bc bs) : mx_M G Y_C_sum (d + 6) (bc + 1) (bs + 6) false N ce 0 [(0, .ref (mx_B G + 0)), (1, .int (iI a)), (2, .int (iI b))] [] Q := by
  have hC0 := hC
  obtain ⟨⟨hY, hU, hE, hD, hrA, hrS, hEA, hES, hDA, hDS, hDz, hDW, hrN, hrn, hpN, hps⟩, c0, c1, c14, cE, cD, cL, cR, cP, cT⟩ := hC
  refine mx_aload_n (k4 := 0) (mx_d D_C_sum 0 rfl) (by rfl) ?_
  refine mx_iload_n (k4 := 1) (mx_d D_C_sum 1 rfl) (by rfl) ?_
  refine mx_callV hG (Y' := Y_C_needDate) (ci := 0) [_] (mx_d D_C_sum 2 rfl) in_C_needDate w_428 w_430 s_C_needDate (by rfl) np_C_needDate (by exact Nat.le_of_ble_eq_true rfl) (by rfl) (by first | assumption | omega) (by first | assumption | exact va_up_self _ _ _ | (rw [va_up_ne _ _ (by omega)]; first | assumption | exact va_up_self _ _ _ | (rw [va_up_ne _ _ (by omega)]; first | assumption | exact va_up_self _ _ _ | (rw [va_up_ne _ _ (by omega)]; first | assumption | exact va_up_self _ _ _ | (rw [va_up_ne _ _ (by omega)]; first | assumption | exact va_up_self _ _ _ | (rw [va_up_ne _ _ (by omega)]; first | assumption | exact va_up_self _ _ _)))))) (by rfl) (by exact Nat.le_of_ble_eq_true rfl) (c_needDate hG hN c0 hD a1 a2 (fun h => q0 (fun z => h z.1)) (fun h1 h2 => ?_))
  refine mx_aload_n (k4 := 0) (mx_d D_C_sum 3 rfl) (by rfl) ?_
  refine mx_iload_n (k4 := 2) (mx_d D_C_sum 4 rfl) (by rfl) ?_
  refine mx_callV hG (Y' := Y_C_needDate) (ci := 0) [_] (mx_d D_C_sum 5 rfl) in_C_needDate w_428 w_430 s_C_needDate (by rfl) np_C_needDate (by exact Nat.le_of_ble_eq_true rfl) (by rfl) (by first | assumption | omega) (by first | assumption | exact va_up_self _ _ _ | (rw [va_up_ne _ _ (by omega)]; first | assumption | exact va_up_self _ _ _ | (rw [va_up_ne _ _ (by omega)]; first | assumption | exact va_up_self _ _ _ | (rw [va_up_ne _ _ (by omega)]; first | assumption | exact va_up_self _ _ _ | (rw [va_up_ne _ _ (by omega)]; first | assumption | exact va_up_self _ _ _ | (rw [va_up_ne _ _ (by omega)]; first | assumption | exact va_up_self _ _ _)))))) (by rfl) (by exact Nat.le_of_ble_eq_true rfl) (c_needDate hG hN c0 hD b1 b2 (fun h => q0 (fun z => h z.2)) (fun h3 h4 => ?_))
  refine mx_aload_n (k4 := 0) (mx_d D_C_sum 6 rfl) (by rfl) ?_
  refine mx_callV hG (Y' := Y_C_needRoomForDate) (ci := 0) [] (mx_d D_C_sum 7 rfl) in_C_needRoomForDate w_403 w_405 s_C_needRoomForDate (by rfl) np_C_needRoomForDate (by exact Nat.le_of_ble_eq_true rfl) (by rfl) (by first | assumption | omega) (by first | assumption | exact va_up_self _ _ _ | (rw [va_up_ne _ _ (by omega)]; first | assumption | exact va_up_self _ _ _ | (rw [va_up_ne _ _ (by omega)]; first | assumption | exact va_up_self _ _ _ | (rw [va_up_ne _ _ (by omega)]; first | assumption | exact va_up_self _ _ _ | (rw [va_up_ne _ _ (by omega)]; first | assumption | exact va_up_self _ _ _ | (rw [va_up_ne _ _ (by omega)]; first | assumption | exact va_up_self _ _ _)))))) (by rfl) (by exact Nat.le_of_ble_eq_true rfl) (c_needRoom hG hN c0 hD (q1 ⟨⟨h1, h2⟩, h3, h4⟩) (fun h5 => ?_))
  refine mx_bud (Nat.le_succ bc) (Nat.le_add_right bs 6) ?_
  obtain ⟨i, rfl⟩ : ∃ i : Nat, a = i := ⟨a.toNat, by omega⟩
  obtain ⟨j, rfl⟩ : ∃ j : Nat, b = j := ⟨b.toNat, by omega⟩
  obtain ⟨g1, g2⟩ := cD i (by omega)
  obtain ⟨g3, g4⟩ := cD j (by omega)
  obtain ⟨g5, g6⟩ := cD nD (by omega)
  have w1 := hDW i (by omega)
  have w2 := hDW j (by omega)
  have hmx := mxTo_bd (f := fun y => dW i y + dW j y) (n := Y) (M := 2000000) (by omega) (fun y hy => by have := w1 y hy; have := w2 y hy; exact ⟨by omega, by omega⟩)
  have hle := mxTo_le (f := fun y => dW i y + dW j y) (n := Y) (M := 1000000) (by omega)
  refine mx_aload_n (k4 := 0) (mx_d D_C_sum 8 rfl) (by rfl) ?_
  refine mx_getf hG (idx := 37) (ci := 0) (kf := 3) (mx_d D_C_sum 9 rfl) (by rfl) cls_C (by decide) w_152 (by first | assumption | omega) (by first | assumption | exact va_up_self _ _ _ | (rw [va_up_ne _ _ (by omega)]; first | assumption | exact va_up_self _ _ _ | (rw [va_up_ne _ _ (by omega)]; first | assumption | exact va_up_self _ _ _ | (rw [va_up_ne _ _ (by omega)]; first | assumption | exact va_up_self _ _ _ | (rw [va_up_ne _ _ (by omega)]; first | assumption | exact va_up_self _ _ _ | (rw [va_up_ne _ _ (by omega)]; first | assumption | exact va_up_self _ _ _)))))) (by rfl) ?_
  refine mx_iload_n (k4 := 1) (mx_d D_C_sum 10 rfl) (by rfl) ?_
  refine mx_aald hG 4 (i) (mx_d D_C_sum 11 rfl) (by first | assumption | omega) (by first | assumption | exact va_up_self _ _ _ | (rw [va_up_ne _ _ (by omega)]; first | assumption | exact va_up_self _ _ _ | (rw [va_up_ne _ _ (by omega)]; first | assumption | exact va_up_self _ _ _ | (rw [va_up_ne _ _ (by omega)]; first | assumption | exact va_up_self _ _ _ | (rw [va_up_ne _ _ (by omega)]; first | assumption | exact va_up_self _ _ _ | (rw [va_up_ne _ _ (by omega)]; first | assumption | exact va_up_self _ _ _)))))) (by rfl) (by rfl) (by rfl) (by omega) (by omega) (show _ = some (mx_B G + (15 + 2 * i)) by exact if_pos (by omega)) ?_
  refine mx_aload_n (k4 := 0) (mx_d D_C_sum 12 rfl) (by rfl) ?_
  refine mx_getf hG (idx := 37) (ci := 0) (kf := 3) (mx_d D_C_sum 13 rfl) (by rfl) cls_C (by decide) w_152 (by first | assumption | omega) (by first | assumption | exact va_up_self _ _ _ | (rw [va_up_ne _ _ (by omega)]; first | assumption | exact va_up_self _ _ _ | (rw [va_up_ne _ _ (by omega)]; first | assumption | exact va_up_self _ _ _ | (rw [va_up_ne _ _ (by omega)]; first | assumption | exact va_up_self _ _ _ | (rw [va_up_ne _ _ (by omega)]; first | assumption | exact va_up_self _ _ _ | (rw [va_up_ne _ _ (by omega)]; first | assumption | exact va_up_self _ _ _)))))) (by rfl) ?_
  refine mx_iload_n (k4 := 2) (mx_d D_C_sum 14 rfl) (by rfl) ?_
  refine mx_aald hG 4 (j) (mx_d D_C_sum 15 rfl) (by first | assumption | omega) (by first | assumption | exact va_up_self _ _ _ | (rw [va_up_ne _ _ (by omega)]; first | assumption | exact va_up_self _ _ _ | (rw [va_up_ne _ _ (by omega)]; first | assumption | exact va_up_self _ _ _ | (rw [va_up_ne _ _ (by omega)]; first | assumption | exact va_up_self _ _ _ | (rw [va_up_ne _ _ (by omega)]; first | assumption | exact va_up_self _ _ _ | (rw [va_up_ne _ _ (by omega)]; first | assumption | exact va_up_self _ _ _)))))) (by rfl) (by rfl) (by rfl) (by omega) (by omega) (show _ = some (mx_B G + (15 + 2 * j)) by exact if_pos (by omega)) ?_
  refine mx_callV hG (Y' := Y_D_greatestSumWith) (ci := 2) [_] (mx_d D_C_sum 16 rfl) in_D_greatestSumWith w_451 w_452 s_D_greatestSumWith (by rfl) np_D_greatestSumWith (by exact Nat.le_of_ble_eq_true rfl) (by rfl) (by first | assumption | omega) (by first | assumption | exact va_up_self _ _ _ | (rw [va_up_ne _ _ (by omega)]; first | assumption | exact va_up_self _ _ _ | (rw [va_up_ne _ _ (by omega)]; first | assumption | exact va_up_self _ _ _ | (rw [va_up_ne _ _ (by omega)]; first | assumption | exact va_up_self _ _ _ | (rw [va_up_ne _ _ (by omega)]; first | assumption | exact va_up_self _ _ _ | (rw [va_up_ne _ _ (by omega)]; first | assumption | exact va_up_self _ _ _)))))) (by rfl) (by exact Nat.le_of_ble_eq_true rfl) (c_D_greatest hG (by omega) (by omega) (by omega) (by omega) g1 g2 g3 g4 (by omega) w1 w2 ?_)
  refine mx_ldcI (v := 1000000) (z := 1000000) (mx_d D_C_sum 17 rfl) w_456 (by decide) ?_
  by_cases hg : mxTo (fun y => dW i y + dW j y) Y ≤ 1000000
  · have hall := hle.mp hg
    have hz := hDz nD (by omega) (Nat.le_refl _)
    refine mx_icmp_leY 36 (mx_d D_C_sum 18 rfl) (by decide) (by omega) (by omega) (by omega) (by omega) (by omega) ?_
    refine mx_aload_n (k4 := 0) (mx_d D_C_sum 21 rfl) (by rfl) ?_
    refine mx_getf hG (idx := 37) (ci := 0) (kf := 3) (mx_d D_C_sum 22 rfl) (by rfl) cls_C (by decide) w_152 (by first | assumption | omega) (by first | assumption | exact va_up_self _ _ _ | (rw [va_up_ne _ _ (by omega)]; first | assumption | exact va_up_self _ _ _ | (rw [va_up_ne _ _ (by omega)]; first | assumption | exact va_up_self _ _ _ | (rw [va_up_ne _ _ (by omega)]; first | assumption | exact va_up_self _ _ _ | (rw [va_up_ne _ _ (by omega)]; first | assumption | exact va_up_self _ _ _ | (rw [va_up_ne _ _ (by omega)]; first | assumption | exact va_up_self _ _ _)))))) (by rfl) ?_
    refine mx_aload_n (k4 := 0) (mx_d D_C_sum 23 rfl) (by rfl) ?_
    refine mx_getf hG (idx := 138) (ci := 0) (kf := 10) (mx_d D_C_sum 24 rfl) (by rfl) cls_C (by decide) w_159 (by first | assumption | omega) (by first | assumption | exact va_up_self _ _ _ | (rw [va_up_ne _ _ (by omega)]; first | assumption | exact va_up_self _ _ _ | (rw [va_up_ne _ _ (by omega)]; first | assumption | exact va_up_self _ _ _ | (rw [va_up_ne _ _ (by omega)]; first | assumption | exact va_up_self _ _ _ | (rw [va_up_ne _ _ (by omega)]; first | assumption | exact va_up_self _ _ _ | (rw [va_up_ne _ _ (by omega)]; first | assumption | exact va_up_self _ _ _)))))) (by rfl) ?_
    refine mx_aald hG 4 (nD) (mx_d D_C_sum 25 rfl) (by first | assumption | omega) (by first | assumption | exact va_up_self _ _ _ | (rw [va_up_ne _ _ (by omega)]; first | assumption | exact va_up_self _ _ _ | (rw [va_up_ne _ _ (by omega)]; first | assumption | exact va_up_self _ _ _ | (rw [va_up_ne _ _ (by omega)]; first | assumption | exact va_up_self _ _ _ | (rw [va_up_ne _ _ (by omega)]; first | assumption | exact va_up_self _ _ _ | (rw [va_up_ne _ _ (by omega)]; first | assumption | exact va_up_self _ _ _)))))) (by rfl) (by rfl) (by rfl) (by omega) (by omega) (show _ = some (mx_B G + (15 + 2 * nD)) by exact if_pos (by omega)) ?_
    refine mx_aload_n (k4 := 0) (mx_d D_C_sum 26 rfl) (by rfl) ?_
    refine mx_getf hG (idx := 37) (ci := 0) (kf := 3) (mx_d D_C_sum 27 rfl) (by rfl) cls_C (by decide) w_152 (by first | assumption | omega) (by first | assumption | exact va_up_self _ _ _ | (rw [va_up_ne _ _ (by omega)]; first | assumption | exact va_up_self _ _ _ | (rw [va_up_ne _ _ (by omega)]; first | assumption | exact va_up_self _ _ _ | (rw [va_up_ne _ _ (by omega)]; first | assumption | exact va_up_self _ _ _ | (rw [va_up_ne _ _ (by omega)]; first | assumption | exact va_up_self _ _ _ | (rw [va_up_ne _ _ (by omega)]; first | assumption | exact va_up_self _ _ _)))))) (by rfl) ?_
    refine mx_iload_n (k4 := 1) (mx_d D_C_sum 28 rfl) (by rfl) ?_
    refine mx_aald hG 4 (i) (mx_d D_C_sum 29 rfl) (by first | assumption | omega) (by first | assumption | exact va_up_self _ _ _ | (rw [va_up_ne _ _ (by omega)]; first | assumption | exact va_up_self _ _ _ | (rw [va_up_ne _ _ (by omega)]; first | assumption | exact va_up_self _ _ _ | (rw [va_up_ne _ _ (by omega)]; first | assumption | exact va_up_self _ _ _ | (rw [va_up_ne _ _ (by omega)]; first | assumption | exact va_up_self _ _ _ | (rw [va_up_ne _ _ (by omega)]; first | assumption | exact va_up_self _ _ _)))))) (by rfl) (by rfl) (by rfl) (by omega) (by omega) (show _ = some (mx_B G + (15 + 2 * i)) by exact if_pos (by omega)) ?_
    refine mx_aload_n (k4 := 0) (mx_d D_C_sum 30 rfl) (by rfl) ?_
    refine mx_getf hG (idx := 37) (ci := 0) (kf := 3) (mx_d D_C_sum 31 rfl) (by rfl) cls_C (by decide) w_152 (by first | assumption | omega) (by first | assumption | exact va_up_self _ _ _ | (rw [va_up_ne _ _ (by omega)]; first | assumption | exact va_up_self _ _ _ | (rw [va_up_ne _ _ (by omega)]; first | assumption | exact va_up_self _ _ _ | (rw [va_up_ne _ _ (by omega)]; first | assumption | exact va_up_self _ _ _ | (rw [va_up_ne _ _ (by omega)]; first | assumption | exact va_up_self _ _ _ | (rw [va_up_ne _ _ (by omega)]; first | assumption | exact va_up_self _ _ _)))))) (by rfl) ?_
    refine mx_iload_n (k4 := 2) (mx_d D_C_sum 32 rfl) (by rfl) ?_
    refine mx_aald hG 4 (j) (mx_d D_C_sum 33 rfl) (by first | assumption | omega) (by first | assumption | exact va_up_self _ _ _ | (rw [va_up_ne _ _ (by omega)]; first | assumption | exact va_up_self _ _ _ | (rw [va_up_ne _ _ (by omega)]; first | assumption | exact va_up_self _ _ _ | (rw [va_up_ne _ _ (by omega)]; first | assumption | exact va_up_self _ _ _ | (rw [va_up_ne _ _ (by omega)]; first | assumption | exact va_up_self _ _ _ | (rw [va_up_ne _ _ (by omega)]; first | assumption | exact va_up_self _ _ _)))))) (by rfl) (by rfl) (by rfl) (by omega) (by omega) (show _ = some (mx_B G + (15 + 2 * j)) by exact if_pos (by omega)) ?_
    refine mx_callV hG (Y' := Y_D_becomeSum) (ci := 2) [_, _] (mx_d D_C_sum 34 rfl) in_D_becomeSum w_457 w_458 s_D_becomeSum (by rfl) np_D_becomeSum (by exact Nat.le_of_ble_eq_true rfl) (by rfl) (by first | assumption | omega) (by first | assumption | exact va_up_self _ _ _ | (rw [va_up_ne _ _ (by omega)]; first | assumption | exact va_up_self _ _ _ | (rw [va_up_ne _ _ (by omega)]; first | assumption | exact va_up_self _ _ _ | (rw [va_up_ne _ _ (by omega)]; first | assumption | exact va_up_self _ _ _ | (rw [va_up_ne _ _ (by omega)]; first | assumption | exact va_up_self _ _ _ | (rw [va_up_ne _ _ (by omega)]; first | assumption | exact va_up_self _ _ _)))))) (by rfl) (by exact Nat.le_of_ble_eq_true rfl) (c_D_sum hG (by omega) (by omega) (by omega) (by omega) (by omega) (by omega) g5 g1 g2 g3 g4 g6 (by omega) (by omega) (by omega) (by omega) (by omega) (by omega) (fun h hh => ?_))
    refine mx_aload_n (k4 := 0) (mx_d D_C_sum 35 rfl) (by rfl) ?_
    refine mx_callV hG (Y' := Y_C_countTold) (ci := 0) [] (mx_d D_C_sum 36 rfl) in_C_countTold w_417 w_419 s_C_countTold (by rfl) np_C_countTold (by exact Nat.le_of_ble_eq_true rfl) (by rfl) (by first | assumption | omega) (by first | assumption | exact va_up_self _ _ _ | (rw [va_up_ne _ _ (by omega)]; first | assumption | exact va_up_self _ _ _ | (rw [va_up_ne _ _ (by omega)]; first | assumption | exact va_up_self _ _ _ | (rw [va_up_ne _ _ (by omega)]; first | assumption | exact va_up_self _ _ _ | (rw [va_up_ne _ _ (by omega)]; first | assumption | exact va_up_self _ _ _ | (rw [va_up_ne _ _ (by omega)]; first | assumption | exact va_up_self _ _ _)))))) (by rfl) (by exact Nat.le_of_ble_eq_true rfl) (c_countTold hG hN (by rw [va_up_ne _ _ (by omega)]; exact c0) ?_)
    refine mx_iret (by rfl) (mx_d D_C_sum 37 rfl) ?_
    refine q3 _ i j h rfl rfl (by omega) (by omega) h5 hall hh (hC0.more h5 (by omega) (by omega) (fun y hy => ?_) (fun k z1 z2 z3 => ?_) (va_up_self _ _ _) ?_ ?_) (fun k hk => ?_)
    · rw [hh y hy]; have := hall y hy; have := w1 y hy; have := w2 y hy; exact ⟨by omega, by omega⟩
    · rw [va_up_ne _ _ z1, va_up_ne _ _ z3]
    · rw [va_up_ne _ _ (by omega), va_up_ne _ _ (by omega), g5, hz.1, hz.2]
    · rw [va_up_ne _ _ (by omega), va_up_self]
    · rw [va_up_ne _ _ (by omega), va_up_ne _ _ (by omega)]
  · refine mx_icmp_leN 36 (mx_d D_C_sum 18 rfl) (by decide) (by omega) (by omega) (by omega) (by omega) (by omega) ?_
    refine mx_iconst (n := -1) (mx_d D_C_sum 19 rfl) ?_
    refine mx_iret (by rfl) (mx_d D_C_sum 20 rfl) ?_
    exact q2 i j rfl rfl (by omega) (by omega) h5 (fun h => hg (hle.mpr h))
theorem c_C_mix (hG : mx_ok G) (hN : 50 ≤ N) (hC : CS G Y U nE iE nD rA rS eA eS dA dS dW lc rn rg rN ps pN ce) {a b u v : Int} (a1 : -2147483648 ≤ a) (a2 : a < 2147483648) (b1 : -2147483648 ≤ b) (b2 : b < 2147483648) (u1 : -2147483648 ≤ u) (u2 : u < 2147483648) (v1 : -2147483648 ≤ v) (v2 : v < 2147483648)
    (q0 : ¬ ((0 ≤ a ∧ a < nD) ∧ 0 ≤ b ∧ b < nD) → Q (.inr xI) N ce bc bs) (q1 : ((0 ≤ a ∧ a < nD) ∧ 0 ≤ b ∧ b < nD) → ¬ ((1 ≤ v ∧ v ≤ 1000) ∧ 0 ≤ u ∧ u ≤ v) → Q (.inr xA) N ce bc bs)
    (q2 : ((0 ≤ a ∧ a < nD) ∧ 0 ≤ b ∧ b < nD) → ((1 ≤ v ∧ v ≤ 1000) ∧ 0 ≤ u ∧ u ≤ v) → ¬ nD < 12 → Q (.inr xS) N ce bc bs)
    (q3 : ∀ ce' (i j : Nat) (h : Nat → Int), a = i → b = j → i < nD → j < nD → ((1 ≤ v ∧ v ≤ 1000) ∧ 0 ≤ u ∧ u ≤ v) → nD < 12 → (∀ y, y < Y → h y = (u * dW i y + (v - u) * dW j y) / v) → CS G Y U nE iE (nD + 1) rA rS eA eS (va_up dA nD 0) (va_up dS nD 0) (va_up dW nD h) lc rn rg rN ps pN ce' → (∀ k, 50 ≤ k → ce' k = ce k) → Q (.inl (some (.int (iI (nD : Nat))))) N ce' bc bs) : mx_M G Y_C_mix (d + 6) (bc + 1) (bs + 6) false N ce 0 [(0, .ref (mx_B G + 0)), (1, .int (iI a)), (2, .int (iI b)), (3, .int (iI u)), (4, .int (iI v))] [] Q := by
  have hC0 := hC
  obtain ⟨⟨hY, hU, hE, hD, hrA, hrS, hEA, hES, hDA, hDS, hDz, hDW, hrN, hrn, hpN, hps⟩, c0, c1, c14, cE, cD, cL, cR, cP, cT⟩ := hC
  refine mx_aload_n (k4 := 0) (mx_d D_C_mix 0 rfl) (by rfl) ?_
  refine mx_iload_n (k4 := 1) (mx_d D_C_mix 1 rfl) (by rfl) ?_
  refine mx_callV hG (Y' := Y_C_needDate) (ci := 0) [_] (mx_d D_C_mix 2 rfl) in_C_needDate w_428 w_430 s_C_needDate (by rfl) np_C_needDate (by exact Nat.le_of_ble_eq_true rfl) (by rfl) (by first | assumption | omega) (by first | assumption | exact va_up_self _ _ _ | (rw [va_up_ne _ _ (by omega)]; first | assumption | exact va_up_self _ _ _ | (rw [va_up_ne _ _ (by omega)]; first | assumption | exact va_up_self _ _ _ | (rw [va_up_ne _ _ (by omega)]; first | assumption | exact va_up_self _ _ _ | (rw [va_up_ne _ _ (by omega)]; first | assumption | exact va_up_self _ _ _ | (rw [va_up_ne _ _ (by omega)]; first | assumption | exact va_up_self _ _ _)))))) (by rfl) (by exact Nat.le_of_ble_eq_true rfl) (c_needDate hG hN c0 hD a1 a2 (fun h => q0 (fun z => h z.1)) (fun h1 h2 => ?_))
  refine mx_aload_n (k4 := 0) (mx_d D_C_mix 3 rfl) (by rfl) ?_
  refine mx_iload_n (k4 := 2) (mx_d D_C_mix 4 rfl) (by rfl) ?_
  refine mx_callV hG (Y' := Y_C_needDate) (ci := 0) [_] (mx_d D_C_mix 5 rfl) in_C_needDate w_428 w_430 s_C_needDate (by rfl) np_C_needDate (by exact Nat.le_of_ble_eq_true rfl) (by rfl) (by first | assumption | omega) (by first | assumption | exact va_up_self _ _ _ | (rw [va_up_ne _ _ (by omega)]; first | assumption | exact va_up_self _ _ _ | (rw [va_up_ne _ _ (by omega)]; first | assumption | exact va_up_self _ _ _ | (rw [va_up_ne _ _ (by omega)]; first | assumption | exact va_up_self _ _ _ | (rw [va_up_ne _ _ (by omega)]; first | assumption | exact va_up_self _ _ _ | (rw [va_up_ne _ _ (by omega)]; first | assumption | exact va_up_self _ _ _)))))) (by rfl) (by exact Nat.le_of_ble_eq_true rfl) (c_needDate hG hN c0 hD b1 b2 (fun h => q0 (fun z => h z.2)) (fun h3 h4 => ?_))
  refine mx_iload (i := 4) (mx_d D_C_mix 6 rfl) (by rfl) ?_
  refine mx_iconst (n := 1) (mx_d D_C_mix 7 rfl) ?_
  by_cases hv : 1 ≤ v
  · refine mx_icmp_geY 26 (mx_d D_C_mix 8 rfl) (by decide) (by omega) (by omega) (by omega) (by omega) (by omega) ?_
    refine mx_iconst (n := 0) (mx_d D_C_mix 14 rfl) ?_
    refine mx_iload_n (k4 := 3) (mx_d D_C_mix 15 rfl) (by rfl) ?_
    refine mx_iload (i := 4) (mx_d D_C_mix 16 rfl) (by rfl) ?_
    refine mx_callS (Y' := Y_C_needShare) [_, _, _] (mx_d D_C_mix 17 rfl) in_C_needShare w_469 w_470 np_C_needShare (by exact Nat.le_of_ble_eq_true rfl) (by rfl) (by rfl) (by exact Nat.le_of_ble_eq_true rfl) (c_needShare hG (by omega) (by omega) u1 u2 v1 v2 (fun h => q1 ⟨⟨h1, h2⟩, h3, h4⟩ (fun z => h (by omega))) (fun h6 => ?_))
    refine mx_aload_n (k4 := 0) (mx_d D_C_mix 18 rfl) (by rfl) ?_
    refine mx_callV hG (Y' := Y_C_needRoomForDate) (ci := 0) [] (mx_d D_C_mix 19 rfl) in_C_needRoomForDate w_403 w_405 s_C_needRoomForDate (by rfl) np_C_needRoomForDate (by exact Nat.le_of_ble_eq_true rfl) (by rfl) (by first | assumption | omega) (by first | assumption | exact va_up_self _ _ _ | (rw [va_up_ne _ _ (by omega)]; first | assumption | exact va_up_self _ _ _ | (rw [va_up_ne _ _ (by omega)]; first | assumption | exact va_up_self _ _ _ | (rw [va_up_ne _ _ (by omega)]; first | assumption | exact va_up_self _ _ _ | (rw [va_up_ne _ _ (by omega)]; first | assumption | exact va_up_self _ _ _ | (rw [va_up_ne _ _ (by omega)]; first | assumption | exact va_up_self _ _ _)))))) (by rfl) (by exact Nat.le_of_ble_eq_true rfl) (c_needRoom hG hN c0 hD (q2 ⟨⟨h1, h2⟩, h3, h4⟩ (by omega)) (fun h5 => ?_))
    refine mx_bud (Nat.le_succ bc) (Nat.le_add_right bs 6) ?_
    obtain ⟨i, rfl⟩ : ∃ i : Nat, a = i := ⟨a.toNat, by omega⟩
    obtain ⟨j, rfl⟩ : ∃ j : Nat, b = j := ⟨b.toNat, by omega⟩
    obtain ⟨g1, g2⟩ := cD i (by omega)
    obtain ⟨g3, g4⟩ := cD j (by omega)
    obtain ⟨g5, g6⟩ := cD nD (by omega)
    have w1 := hDW i (by omega)
    have w2 := hDW j (by omega)
    have hz := hDz nD (by omega) (Nat.le_refl _)
    refine mx_aload_n (k4 := 0) (mx_d D_C_mix 20 rfl) (by rfl) ?_
    refine mx_getf hG (idx := 37) (ci := 0) (kf := 3) (mx_d D_C_mix 21 rfl) (by rfl) cls_C (by decide) w_152 (by first | assumption | omega) (by first | assumption | exact va_up_self _ _ _ | (rw [va_up_ne _ _ (by omega)]; first | assumption | exact va_up_self _ _ _ | (rw [va_up_ne _ _ (by omega)]; first | assumption | exact va_up_self _ _ _ | (rw [va_up_ne _ _ (by omega)]; first | assumption | exact va_up_self _ _ _ | (rw [va_up_ne _ _ (by omega)]; first | assumption | exact va_up_self _ _ _ | (rw [va_up_ne _ _ (by omega)]; first | assumption | exact va_up_self _ _ _)))))) (by rfl) ?_
    refine mx_aload_n (k4 := 0) (mx_d D_C_mix 22 rfl) (by rfl) ?_
    refine mx_getf hG (idx := 138) (ci := 0) (kf := 10) (mx_d D_C_mix 23 rfl) (by rfl) cls_C (by decide) w_159 (by first | assumption | omega) (by first | assumption | exact va_up_self _ _ _ | (rw [va_up_ne _ _ (by omega)]; first | assumption | exact va_up_self _ _ _ | (rw [va_up_ne _ _ (by omega)]; first | assumption | exact va_up_self _ _ _ | (rw [va_up_ne _ _ (by omega)]; first | assumption | exact va_up_self _ _ _ | (rw [va_up_ne _ _ (by omega)]; first | assumption | exact va_up_self _ _ _ | (rw [va_up_ne _ _ (by omega)]; first | assumption | exact va_up_self _ _ _)))))) (by rfl) ?_
    refine mx_aald hG 4 (nD) (mx_d D_C_mix 24 rfl) (by first | assumption | omega) (by first | assumption | exact va_up_self _ _ _ | (rw [va_up_ne _ _ (by omega)]; first | assumption | exact va_up_self _ _ _ | (rw [va_up_ne _ _ (by omega)]; first | assumption | exact va_up_self _ _ _ | (rw [va_up_ne _ _ (by omega)]; first | assumption | exact va_up_self _ _ _ | (rw [va_up_ne _ _ (by omega)]; first | assumption | exact va_up_self _ _ _ | (rw [va_up_ne _ _ (by omega)]; first | assumption | exact va_up_self _ _ _)))))) (by rfl) (by rfl) (by rfl) (by omega) (by omega) (show _ = some (mx_B G + (15 + 2 * nD)) by exact if_pos (by omega)) ?_
    refine mx_aload_n (k4 := 0) (mx_d D_C_mix 25 rfl) (by rfl) ?_
    refine mx_getf hG (idx := 37) (ci := 0) (kf := 3) (mx_d D_C_mix 26 rfl) (by rfl) cls_C (by decide) w_152 (by first | assumption | omega) (by first | assumption | exact va_up_self _ _ _ | (rw [va_up_ne _ _ (by omega)]; first | assumption | exact va_up_self _ _ _ | (rw [va_up_ne _ _ (by omega)]; first | assumption | exact va_up_self _ _ _ | (rw [va_up_ne _ _ (by omega)]; first | assumption | exact va_up_self _ _ _ | (rw [va_up_ne _ _ (by omega)]; first | assumption | exact va_up_self _ _ _ | (rw [va_up_ne _ _ (by omega)]; first | assumption | exact va_up_self _ _ _)))))) (by rfl) ?_
    refine mx_iload_n (k4 := 1) (mx_d D_C_mix 27 rfl) (by rfl) ?_
    refine mx_aald hG 4 (i) (mx_d D_C_mix 28 rfl) (by first | assumption | omega) (by first | assumption | exact va_up_self _ _ _ | (rw [va_up_ne _ _ (by omega)]; first | assumption | exact va_up_self _ _ _ | (rw [va_up_ne _ _ (by omega)]; first | assumption | exact va_up_self _ _ _ | (rw [va_up_ne _ _ (by omega)]; first | assumption | exact va_up_self _ _ _ | (rw [va_up_ne _ _ (by omega)]; first | assumption | exact va_up_self _ _ _ | (rw [va_up_ne _ _ (by omega)]; first | assumption | exact va_up_self _ _ _)))))) (by rfl) (by rfl) (by rfl) (by omega) (by omega) (show _ = some (mx_B G + (15 + 2 * i)) by exact if_pos (by omega)) ?_
    refine mx_aload_n (k4 := 0) (mx_d D_C_mix 29 rfl) (by rfl) ?_
    refine mx_getf hG (idx := 37) (ci := 0) (kf := 3) (mx_d D_C_mix 30 rfl) (by rfl) cls_C (by decide) w_152 (by first | assumption | omega) (by first | assumption | exact va_up_self _ _ _ | (rw [va_up_ne _ _ (by omega)]; first | assumption | exact va_up_self _ _ _ | (rw [va_up_ne _ _ (by omega)]; first | assumption | exact va_up_self _ _ _ | (rw [va_up_ne _ _ (by omega)]; first | assumption | exact va_up_self _ _ _ | (rw [va_up_ne _ _ (by omega)]; first | assumption | exact va_up_self _ _ _ | (rw [va_up_ne _ _ (by omega)]; first | assumption | exact va_up_self _ _ _)))))) (by rfl) ?_
    refine mx_iload_n (k4 := 2) (mx_d D_C_mix 31 rfl) (by rfl) ?_
    refine mx_aald hG 4 (j) (mx_d D_C_mix 32 rfl) (by first | assumption | omega) (by first | assumption | exact va_up_self _ _ _ | (rw [va_up_ne _ _ (by omega)]; first | assumption | exact va_up_self _ _ _ | (rw [va_up_ne _ _ (by omega)]; first | assumption | exact va_up_self _ _ _ | (rw [va_up_ne _ _ (by omega)]; first | assumption | exact va_up_self _ _ _ | (rw [va_up_ne _ _ (by omega)]; first | assumption | exact va_up_self _ _ _ | (rw [va_up_ne _ _ (by omega)]; first | assumption | exact va_up_self _ _ _)))))) (by rfl) (by rfl) (by rfl) (by omega) (by omega) (show _ = some (mx_B G + (15 + 2 * j)) by exact if_pos (by omega)) ?_
    refine mx_iload_n (k4 := 3) (mx_d D_C_mix 33 rfl) (by rfl) ?_
    refine mx_iload (i := 4) (mx_d D_C_mix 34 rfl) (by rfl) ?_
    refine mx_callV hG (Y' := Y_D_becomeMixture) (ci := 2) [_, _, _, _] (mx_d D_C_mix 35 rfl) in_D_becomeMixture w_473 w_474 s_D_becomeMixture (by rfl) np_D_becomeMixture (by exact Nat.le_of_ble_eq_true rfl) (by rfl) (by first | assumption | omega) (by first | assumption | exact va_up_self _ _ _ | (rw [va_up_ne _ _ (by omega)]; first | assumption | exact va_up_self _ _ _ | (rw [va_up_ne _ _ (by omega)]; first | assumption | exact va_up_self _ _ _ | (rw [va_up_ne _ _ (by omega)]; first | assumption | exact va_up_self _ _ _ | (rw [va_up_ne _ _ (by omega)]; first | assumption | exact va_up_self _ _ _ | (rw [va_up_ne _ _ (by omega)]; first | assumption | exact va_up_self _ _ _)))))) (by rfl) (by exact Nat.le_of_ble_eq_true rfl) (c_D_mix hG (by omega) (by omega) (by omega) (by omega) (by omega) (by omega) g5 g1 g2 g3 g4 g6 (by omega) (by omega) (by omega) (by omega) (by omega) (by omega) h6.1 h6.2.1 hv h6.2.2 w1 w2 (fun h hh => ?_))
    refine mx_aload_n (k4 := 0) (mx_d D_C_mix 36 rfl) (by rfl) ?_
    refine mx_callV hG (Y' := Y_C_countTold) (ci := 0) [] (mx_d D_C_mix 37 rfl) in_C_countTold w_417 w_419 s_C_countTold (by rfl) np_C_countTold (by exact Nat.le_of_ble_eq_true rfl) (by rfl) (by first | assumption | omega) (by first | assumption | exact va_up_self _ _ _ | (rw [va_up_ne _ _ (by omega)]; first | assumption | exact va_up_self _ _ _ | (rw [va_up_ne _ _ (by omega)]; first | assumption | exact va_up_self _ _ _ | (rw [va_up_ne _ _ (by omega)]; first | assumption | exact va_up_self _ _ _ | (rw [va_up_ne _ _ (by omega)]; first | assumption | exact va_up_self _ _ _ | (rw [va_up_ne _ _ (by omega)]; first | assumption | exact va_up_self _ _ _)))))) (by rfl) (by exact Nat.le_of_ble_eq_true rfl) (c_countTold hG hN (by rw [va_up_ne _ _ (by omega)]; exact c0) ?_)
    refine mx_iret (by rfl) (mx_d D_C_mix 38 rfl) ?_
    refine q3 _ i j h rfl rfl (by omega) (by omega) (by omega) h5 hh (hC0.more h5 (by omega) (by omega) (fun y hy => ?_) (fun k z1 z2 z3 => ?_) (va_up_self _ _ _) ?_ ?_) (fun k hk => ?_)
    · have x1 := w1 y hy
      have x2 := w2 y hy
      have c1 : 0 ≤ u * dW i y := Int.mul_nonneg h6.1 x1.1
      have c2 : u * dW i y ≤ u * 1000000 := Int.mul_le_mul_of_nonneg_left x1.2 h6.1
      have c3 : 0 ≤ (v - u) * dW j y := Int.mul_nonneg (by omega) x2.1
      have c4 : (v - u) * dW j y ≤ (v - u) * 1000000 := Int.mul_le_mul_of_nonneg_left x2.2 (by omega)
      rw [hh y hy]
      exact ⟨Int.ediv_nonneg (by omega) (by omega), Int.ediv_le_of_le_mul (by omega) (by omega)⟩
    · rw [va_up_ne _ _ z1, va_up_ne _ _ z3]
    · rw [va_up_ne _ _ (by omega), va_up_ne _ _ (by omega), g5, hz.1, hz.2]
    · rw [va_up_ne _ _ (by omega), va_up_self]
    · rw [va_up_ne _ _ (by omega), va_up_ne _ _ (by omega)]
  · refine mx_icmp_geN 26 (mx_d D_C_mix 8 rfl) (by decide) (by omega) (by omega) (by omega) (by omega) (by omega) ?_
    refine mx_throw hG ["java/lang/RuntimeException", "java/lang/Exception"] (E := "java/lang/IllegalArgumentException") (tx := "below is 1 at least") (mx_d D_C_mix 9 rfl) (mx_d D_C_mix 10 rfl) (mx_d D_C_mix 11 rfl) (mx_d D_C_mix 12 rfl) (mx_d D_C_mix 13 rfl) (by decide) (by decide) (by decide) w_331 w_14 w_332 (by decide) th_107 (by rfl) (by exact Nat.le_of_ble_eq_true rfl) ?_
    exact q1 ⟨⟨h1, h2⟩, h3, h4⟩ (by omega)
theorem c_root {sq : Int} (hq1 : 0 ≤ sq) (hq2 : sq ≤ 10000) (q : ∀ r, isRt sq r → Q (.inl (some (.int (iI r)))) N ce bc bs) : mx_M G Y_C_rootAtLeastOne d bc bs false N ce 0 [(0, .int (iI sq))] [] Q := by
  refine mx_bipush (n := 100) (mx_d D_C_rootAtLeastOne 0 rfl) (by decide) ?_
  refine mx_istore_n (k4 := 1) (mx_d D_C_rootAtLeastOne 1 rfl) (by decide) ?_
  suffices H : ∀ (k : Nat) (r : Int), r = k + 1 → r ≤ 100 → sq < (r + 1) * (r + 1) → mx_M G Y_C_rootAtLeastOne d bc bs false N ce 3 [(0, .int (iI sq)), (1, .int (iI r))] [] Q from mx_loc (by rfl) (H 99 100 (by omega) (by omega) (by omega))
  intro k
  induction k with
  | zero =>
    intro r hr hr2 hlt
    refine mx_iload_n (k4 := 1) (mx_d D_C_rootAtLeastOne 2 rfl) (by rfl) ?_
    refine mx_iconst (n := 1) (mx_d D_C_rootAtLeastOne 3 rfl) ?_
    refine mx_icmp_leY 23 (mx_d D_C_rootAtLeastOne 4 rfl) (by decide) (by omega) (by omega) (by omega) (by omega) (by omega) ?_
    refine mx_iconst (n := 1) (mx_d D_C_rootAtLeastOne 14 rfl) ?_
    refine mx_iret (by rfl) (mx_d D_C_rootAtLeastOne 15 rfl) ?_
    exact q 1 ⟨by omega, by omega, Or.inl rfl, by rw [show r = 1 by omega] at hlt; exact hlt⟩
  | succ k ih =>
    intro r hr hr2 hlt
    have b1 := sq_nn r
    have b2 : r * r ≤ 100 * 100 := sq_le (by omega) hr2
    refine mx_iload_n (k4 := 1) (mx_d D_C_rootAtLeastOne 2 rfl) (by rfl) ?_
    refine mx_iconst (n := 1) (mx_d D_C_rootAtLeastOne 3 rfl) ?_
    refine mx_icmp_leN 23 (mx_d D_C_rootAtLeastOne 4 rfl) (by decide) (by omega) (by omega) (by omega) (by omega) (by omega) ?_
    refine mx_iload_n (k4 := 1) (mx_d D_C_rootAtLeastOne 5 rfl) (by rfl) ?_
    refine mx_iload_n (k4 := 1) (mx_d D_C_rootAtLeastOne 6 rfl) (by rfl) ?_
    refine mx_imulI (mx_d D_C_rootAtLeastOne 7 rfl) ?_
    refine mx_iload_n (k4 := 0) (mx_d D_C_rootAtLeastOne 8 rfl) (by rfl) ?_
    by_cases hc : r * r ≤ sq
    · refine mx_icmp_gtN 17 (mx_d D_C_rootAtLeastOne 9 rfl) (by decide) (by omega) (by omega) (by omega) (by omega) (by omega) ?_
      refine mx_iload_n (k4 := 1) (mx_d D_C_rootAtLeastOne 10 rfl) (by rfl) ?_
      refine mx_iret (by rfl) (mx_d D_C_rootAtLeastOne 11 rfl) ?_
      exact q r ⟨by omega, by omega, Or.inr hc, hlt⟩
    · refine mx_icmp_gtY 17 (mx_d D_C_rootAtLeastOne 9 rfl) (by decide) (by omega) (by omega) (by omega) (by omega) (by omega) ?_
      refine mx_iincI (i := 1) (n := -1) (mx_d D_C_rootAtLeastOne 12 rfl) (by rfl) (by decide) ?_
      refine mx_goto 3 (mx_d D_C_rootAtLeastOne 13 rfl) (by decide) ?_
      refine mx_loc (by rfl) (ih (r + -1) (by omega) (by omega) ?_)
      rw [show r + -1 + 1 = r by omega]
      omega
theorem c_C_join (hG : mx_ok G) (hN : 50 ≤ N) (hC : CS G Y U nE iE nD rA rS eA eS dA dS dW lc rn rg rN ps pN ce) {a b : Int} (a1 : -2147483648 ≤ a) (a2 : a < 2147483648) (b1 : -2147483648 ≤ b) (b2 : b < 2147483648)
    (q0 : ¬ ((0 ≤ a ∧ a < nD) ∧ 0 ≤ b ∧ b < nD) → Q (.inr xI) N ce bc bs) (q1 : ((0 ≤ a ∧ a < nD) ∧ 0 ≤ b ∧ b < nD) → ¬ nD < 12 → Q (.inr xS) N ce bc bs)
    (q2 : ∀ i j : Nat, a = i → b = j → i < nD → j < nD → nD < 12 → ¬ (0 < dS i ∧ 0 < dS j ∧ (dA i - dA j) * (dA i - dA j) ≤ 4 * (dS i * dS i + dS j * dS j)) → Q (.inl (some (.int (iI (-1))))) N ce bc bs)
    (q3 : ∀ ce' (i j : Nat) (h : Nat → Int) (A r : Int), a = i → b = j → i < nD → j < nD → nD < 12 → (0 < dS i ∧ 0 < dS j ∧ (dA i - dA j) * (dA i - dA j) ≤ 4 * (dS i * dS i + dS j * dS j)) → A = (dA i * (dS j * dS j) + dA j * (dS i * dS i)) / (dS i * dS i + dS j * dS j) → isRt (dS i * dS i * (dS j * dS j) / (dS i * dS i + dS j * dS j)) r → (0 ≤ A ∧ A ≤ 3000) → (∀ y, y < Y → h y = wgt U (r * r + rS * rS) (A - rA) (eA iE y) (eS iE y)) → CS G Y U nE iE (nD + 1) rA rS eA eS (va_up dA nD A) (va_up dS nD r) (va_up dW nD h) lc rn rg rN ps pN ce' → (∀ k, 50 ≤ k → ce' k = ce k) → Q (.inl (some (.int (iI (nD : Nat))))) N ce' bc bs) : mx_M G Y_C_joinRepeats (d + 6) (bc + 1) (bs + 6) false N ce 0 [(0, .ref (mx_B G + 0)), (1, .int (iI a)), (2, .int (iI b))] [] Q := by
  have hC0 := hC
  obtain ⟨⟨hY, hU, hE, hD, hrA, hrS, hEA, hES, hDA, hDS, hDz, hDW, hrN, hrn, hpN, hps⟩, c0, c1, c14, cE, cD, cL, cR, cP, cT⟩ := hC
  refine mx_aload_n (k4 := 0) (mx_d D_C_joinRepeats 0 rfl) (by rfl) ?_
  refine mx_iload_n (k4 := 1) (mx_d D_C_joinRepeats 1 rfl) (by rfl) ?_
  refine mx_callV hG (Y' := Y_C_needDate) (ci := 0) [_] (mx_d D_C_joinRepeats 2 rfl) in_C_needDate w_428 w_430 s_C_needDate (by rfl) np_C_needDate (by exact Nat.le_of_ble_eq_true rfl) (by rfl) (by first | assumption | omega) (by first | assumption | exact va_up_self _ _ _ | (rw [va_up_ne _ _ (by omega)]; first | assumption | exact va_up_self _ _ _ | (rw [va_up_ne _ _ (by omega)]; first | assumption | exact va_up_self _ _ _ | (rw [va_up_ne _ _ (by omega)]; first | assumption | exact va_up_self _ _ _ | (rw [va_up_ne _ _ (by omega)]; first | assumption | exact va_up_self _ _ _ | (rw [va_up_ne _ _ (by omega)]; first | assumption | exact va_up_self _ _ _)))))) (by rfl) (by exact Nat.le_of_ble_eq_true rfl) (c_needDate hG hN c0 hD a1 a2 (fun h => q0 (fun z => h z.1)) (fun h1 h2 => ?_))
  refine mx_aload_n (k4 := 0) (mx_d D_C_joinRepeats 3 rfl) (by rfl) ?_
  refine mx_iload_n (k4 := 2) (mx_d D_C_joinRepeats 4 rfl) (by rfl) ?_
  refine mx_callV hG (Y' := Y_C_needDate) (ci := 0) [_] (mx_d D_C_joinRepeats 5 rfl) in_C_needDate w_428 w_430 s_C_needDate (by rfl) np_C_needDate (by exact Nat.le_of_ble_eq_true rfl) (by rfl) (by first | assumption | omega) (by first | assumption | exact va_up_self _ _ _ | (rw [va_up_ne _ _ (by omega)]; first | assumption | exact va_up_self _ _ _ | (rw [va_up_ne _ _ (by omega)]; first | assumption | exact va_up_self _ _ _ | (rw [va_up_ne _ _ (by omega)]; first | assumption | exact va_up_self _ _ _ | (rw [va_up_ne _ _ (by omega)]; first | assumption | exact va_up_self _ _ _ | (rw [va_up_ne _ _ (by omega)]; first | assumption | exact va_up_self _ _ _)))))) (by rfl) (by exact Nat.le_of_ble_eq_true rfl) (c_needDate hG hN c0 hD b1 b2 (fun h => q0 (fun z => h z.2)) (fun h3 h4 => ?_))
  refine mx_aload_n (k4 := 0) (mx_d D_C_joinRepeats 6 rfl) (by rfl) ?_
  refine mx_callV hG (Y' := Y_C_needRoomForDate) (ci := 0) [] (mx_d D_C_joinRepeats 7 rfl) in_C_needRoomForDate w_403 w_405 s_C_needRoomForDate (by rfl) np_C_needRoomForDate (by exact Nat.le_of_ble_eq_true rfl) (by rfl) (by first | assumption | omega) (by first | assumption | exact va_up_self _ _ _ | (rw [va_up_ne _ _ (by omega)]; first | assumption | exact va_up_self _ _ _ | (rw [va_up_ne _ _ (by omega)]; first | assumption | exact va_up_self _ _ _ | (rw [va_up_ne _ _ (by omega)]; first | assumption | exact va_up_self _ _ _ | (rw [va_up_ne _ _ (by omega)]; first | assumption | exact va_up_self _ _ _ | (rw [va_up_ne _ _ (by omega)]; first | assumption | exact va_up_self _ _ _)))))) (by rfl) (by exact Nat.le_of_ble_eq_true rfl) (c_needRoom hG hN c0 hD (q1 ⟨⟨h1, h2⟩, h3, h4⟩) (fun h5 => ?_))
  refine mx_bud (Nat.le_succ bc) (Nat.le_add_right bs 6) ?_
  obtain ⟨i, rfl⟩ : ∃ i : Nat, a = i := ⟨a.toNat, by omega⟩
  obtain ⟨j, rfl⟩ : ∃ j : Nat, b = j := ⟨b.toNat, by omega⟩
  have none_ : ∀ {l9 : List (Nat × Value)}, ¬ (0 < dS i ∧ 0 < dS j ∧ (dA i - dA j) * (dA i - dA j) ≤ 4 * (dS i * dS i + dS j * dS j)) → mx_M G Y_C_joinRepeats (d + 6) bc bs false N ce 44 l9 [] Q := by
    intro l9 h
    refine mx_iconst (n := -1) (mx_d D_C_joinRepeats 24 rfl) ?_
    refine mx_iret (by rfl) (mx_d D_C_joinRepeats 25 rfl) ?_
    exact q2 i j rfl rfl (by omega) (by omega) h5 h
  obtain ⟨g1, g2⟩ := cD i (by omega)
  obtain ⟨g3, g4⟩ := cD j (by omega)
  have A1 := hDA i (by omega)
  have A2 := hDA j (by omega)
  have S1 := hDS i (by omega)
  have S2 := hDS j (by omega)
  refine mx_aload_n (k4 := 0) (mx_d D_C_joinRepeats 8 rfl) (by rfl) ?_
  refine mx_getf hG (idx := 37) (ci := 0) (kf := 3) (mx_d D_C_joinRepeats 9 rfl) (by rfl) cls_C (by decide) w_152 (by first | assumption | omega) (by first | assumption | exact va_up_self _ _ _ | (rw [va_up_ne _ _ (by omega)]; first | assumption | exact va_up_self _ _ _ | (rw [va_up_ne _ _ (by omega)]; first | assumption | exact va_up_self _ _ _ | (rw [va_up_ne _ _ (by omega)]; first | assumption | exact va_up_self _ _ _ | (rw [va_up_ne _ _ (by omega)]; first | assumption | exact va_up_self _ _ _ | (rw [va_up_ne _ _ (by omega)]; first | assumption | exact va_up_self _ _ _)))))) (by rfl) ?_
  refine mx_iload_n (k4 := 1) (mx_d D_C_joinRepeats 10 rfl) (by rfl) ?_
  refine mx_aald hG 4 (i) (mx_d D_C_joinRepeats 11 rfl) (by first | assumption | omega) (by first | assumption | exact va_up_self _ _ _ | (rw [va_up_ne _ _ (by omega)]; first | assumption | exact va_up_self _ _ _ | (rw [va_up_ne _ _ (by omega)]; first | assumption | exact va_up_self _ _ _ | (rw [va_up_ne _ _ (by omega)]; first | assumption | exact va_up_self _ _ _ | (rw [va_up_ne _ _ (by omega)]; first | assumption | exact va_up_self _ _ _ | (rw [va_up_ne _ _ (by omega)]; first | assumption | exact va_up_self _ _ _)))))) (by rfl) (by rfl) (by rfl) (by omega) (by omega) (show _ = some (mx_B G + (15 + 2 * i)) by exact if_pos (by omega)) ?_
  refine mx_astore_n (k4 := 3) (mx_d D_C_joinRepeats 12 rfl) (by decide) ?_
  refine mx_aload_n (k4 := 0) (mx_d D_C_joinRepeats 13 rfl) (by rfl) ?_
  refine mx_getf hG (idx := 37) (ci := 0) (kf := 3) (mx_d D_C_joinRepeats 14 rfl) (by rfl) cls_C (by decide) w_152 (by first | assumption | omega) (by first | assumption | exact va_up_self _ _ _ | (rw [va_up_ne _ _ (by omega)]; first | assumption | exact va_up_self _ _ _ | (rw [va_up_ne _ _ (by omega)]; first | assumption | exact va_up_self _ _ _ | (rw [va_up_ne _ _ (by omega)]; first | assumption | exact va_up_self _ _ _ | (rw [va_up_ne _ _ (by omega)]; first | assumption | exact va_up_self _ _ _ | (rw [va_up_ne _ _ (by omega)]; first | assumption | exact va_up_self _ _ _)))))) (by rfl) ?_
  refine mx_iload_n (k4 := 2) (mx_d D_C_joinRepeats 15 rfl) (by rfl) ?_
  refine mx_aald hG 4 (j) (mx_d D_C_joinRepeats 16 rfl) (by first | assumption | omega) (by first | assumption | exact va_up_self _ _ _ | (rw [va_up_ne _ _ (by omega)]; first | assumption | exact va_up_self _ _ _ | (rw [va_up_ne _ _ (by omega)]; first | assumption | exact va_up_self _ _ _ | (rw [va_up_ne _ _ (by omega)]; first | assumption | exact va_up_self _ _ _ | (rw [va_up_ne _ _ (by omega)]; first | assumption | exact va_up_self _ _ _ | (rw [va_up_ne _ _ (by omega)]; first | assumption | exact va_up_self _ _ _)))))) (by rfl) (by rfl) (by rfl) (by omega) (by omega) (show _ = some (mx_B G + (15 + 2 * j)) by exact if_pos (by omega)) ?_
  refine mx_astore (i := 4) (mx_d D_C_joinRepeats 17 rfl) (by decide) ?_
  refine mx_aload_n (k4 := 3) (mx_d D_C_joinRepeats 18 rfl) (by rfl) ?_
  refine mx_callV hG (Y' := Y_D_isMeasured) (ci := 2) [] (mx_d D_C_joinRepeats 19 rfl) in_D_isMeasured w_484 w_485 s_D_isMeasured (by rfl) np_D_isMeasured (by exact Nat.le_of_ble_eq_true rfl) (by rfl) (by first | assumption | omega) (by first | assumption | exact va_up_self _ _ _ | (rw [va_up_ne _ _ (by omega)]; first | assumption | exact va_up_self _ _ _ | (rw [va_up_ne _ _ (by omega)]; first | assumption | exact va_up_self _ _ _ | (rw [va_up_ne _ _ (by omega)]; first | assumption | exact va_up_self _ _ _ | (rw [va_up_ne _ _ (by omega)]; first | assumption | exact va_up_self _ _ _ | (rw [va_up_ne _ _ (by omega)]; first | assumption | exact va_up_self _ _ _)))))) (by rfl) (by exact Nat.le_of_ble_eq_true rfl) (c_D_isMeasured hG (by omega) g1 S1 ?_)
  by_cases m1 : 0 < dS i
  · rw [show decide (0 < dS i) = true from by simp [m1]]
    refine mx_if_eqN 44 (mx_d D_C_joinRepeats 20 rfl) (by decide) (by decide) (by decide) (by decide) ?_
    refine mx_aload (i := 4) (mx_d D_C_joinRepeats 21 rfl) (by rfl) ?_
    refine mx_callV hG (Y' := Y_D_isMeasured) (ci := 2) [] (mx_d D_C_joinRepeats 22 rfl) in_D_isMeasured w_484 w_485 s_D_isMeasured (by rfl) np_D_isMeasured (by exact Nat.le_of_ble_eq_true rfl) (by rfl) (by first | assumption | omega) (by first | assumption | exact va_up_self _ _ _ | (rw [va_up_ne _ _ (by omega)]; first | assumption | exact va_up_self _ _ _ | (rw [va_up_ne _ _ (by omega)]; first | assumption | exact va_up_self _ _ _ | (rw [va_up_ne _ _ (by omega)]; first | assumption | exact va_up_self _ _ _ | (rw [va_up_ne _ _ (by omega)]; first | assumption | exact va_up_self _ _ _ | (rw [va_up_ne _ _ (by omega)]; first | assumption | exact va_up_self _ _ _)))))) (by rfl) (by exact Nat.le_of_ble_eq_true rfl) (c_D_isMeasured hG (by omega) g3 S2 ?_)
    by_cases m2 : 0 < dS j
    · rw [show decide (0 < dS j) = true from by simp [m2]]
      have p1 : 1 * 1 ≤ dS i * dS i := Int.mul_le_mul (by omega) (by omega) (by omega) (by omega)
      have p2 : dS i * dS i ≤ 100 * 100 := sq_le (by omega) S1.2
      have r1 : 1 * 1 ≤ dS j * dS j := Int.mul_le_mul (by omega) (by omega) (by omega) (by omega)
      have r2 : dS j * dS j ≤ 100 * 100 := sq_le (by omega) S2.2
      have d1 := sq_nn (dA i - dA j)
      have d2 : (dA i - dA j) * (dA i - dA j) ≤ 3000 * 3000 := sq_le (by omega) (by omega)
      generalize hp : dS i * dS i = p at *
      generalize hr : dS j * dS j = r at *
      have x1 : 0 ≤ dA i * r := Int.mul_nonneg A1.1 (by omega)
      have x2 : dA i * r ≤ 3000 * r := Int.mul_le_mul_of_nonneg_right A1.2 (by omega)
      have x3 : 0 ≤ dA j * p := Int.mul_nonneg A2.1 (by omega)
      have x4 : dA j * p ≤ 3000 * p := Int.mul_le_mul_of_nonneg_right A2.2 (by omega)
      have x5 : 0 ≤ p * r := Int.mul_nonneg (by omega) (by omega)
      have x6 : p * r ≤ 10000 * r := Int.mul_le_mul_of_nonneg_right (by omega) (by omega)
      have hA : 0 ≤ (dA i * r + dA j * p) / (p + r) ∧ (dA i * r + dA j * p) / (p + r) ≤ 3000 := ⟨Int.ediv_nonneg (by omega) (by omega), Int.ediv_le_of_le_mul (by omega) (by omega)⟩
      have hQ : 0 ≤ p * r / (p + r) ∧ p * r / (p + r) ≤ 10000 := ⟨Int.ediv_nonneg (by omega) (by omega), Int.ediv_le_of_le_mul (by omega) (by omega)⟩
      refine mx_if_neY 46 (mx_d D_C_joinRepeats 23 rfl) (by decide) (by decide) (by decide) (by decide) ?_
      refine mx_aload_n (k4 := 3) (mx_d D_C_joinRepeats 26 rfl) (by rfl) ?_
      refine mx_getf hG (idx := 162) (ci := 2) (kf := 2) (mx_d D_C_joinRepeats 27 rfl) (by rfl) cls_D (by decide) w_66 (by first | assumption | omega) (by first | assumption | exact va_up_self _ _ _ | (rw [va_up_ne _ _ (by omega)]; first | assumption | exact va_up_self _ _ _ | (rw [va_up_ne _ _ (by omega)]; first | assumption | exact va_up_self _ _ _ | (rw [va_up_ne _ _ (by omega)]; first | assumption | exact va_up_self _ _ _ | (rw [va_up_ne _ _ (by omega)]; first | assumption | exact va_up_self _ _ _ | (rw [va_up_ne _ _ (by omega)]; first | assumption | exact va_up_self _ _ _)))))) (by rfl) ?_
      refine mx_aload_n (k4 := 3) (mx_d D_C_joinRepeats 28 rfl) (by rfl) ?_
      refine mx_getf hG (idx := 162) (ci := 2) (kf := 2) (mx_d D_C_joinRepeats 29 rfl) (by rfl) cls_D (by decide) w_66 (by first | assumption | omega) (by first | assumption | exact va_up_self _ _ _ | (rw [va_up_ne _ _ (by omega)]; first | assumption | exact va_up_self _ _ _ | (rw [va_up_ne _ _ (by omega)]; first | assumption | exact va_up_self _ _ _ | (rw [va_up_ne _ _ (by omega)]; first | assumption | exact va_up_self _ _ _ | (rw [va_up_ne _ _ (by omega)]; first | assumption | exact va_up_self _ _ _ | (rw [va_up_ne _ _ (by omega)]; first | assumption | exact va_up_self _ _ _)))))) (by rfl) ?_
      refine mx_imulI (mx_d D_C_joinRepeats 30 rfl) ?_
      rw [hp]
      refine mx_istore (i := 5) (mx_d D_C_joinRepeats 31 rfl) (by decide) ?_
      refine mx_aload (i := 4) (mx_d D_C_joinRepeats 32 rfl) (by rfl) ?_
      refine mx_getf hG (idx := 162) (ci := 2) (kf := 2) (mx_d D_C_joinRepeats 33 rfl) (by rfl) cls_D (by decide) w_66 (by first | assumption | omega) (by first | assumption | exact va_up_self _ _ _ | (rw [va_up_ne _ _ (by omega)]; first | assumption | exact va_up_self _ _ _ | (rw [va_up_ne _ _ (by omega)]; first | assumption | exact va_up_self _ _ _ | (rw [va_up_ne _ _ (by omega)]; first | assumption | exact va_up_self _ _ _ | (rw [va_up_ne _ _ (by omega)]; first | assumption | exact va_up_self _ _ _ | (rw [va_up_ne _ _ (by omega)]; first | assumption | exact va_up_self _ _ _)))))) (by rfl) ?_
      refine mx_aload (i := 4) (mx_d D_C_joinRepeats 34 rfl) (by rfl) ?_
      refine mx_getf hG (idx := 162) (ci := 2) (kf := 2) (mx_d D_C_joinRepeats 35 rfl) (by rfl) cls_D (by decide) w_66 (by first | assumption | omega) (by first | assumption | exact va_up_self _ _ _ | (rw [va_up_ne _ _ (by omega)]; first | assumption | exact va_up_self _ _ _ | (rw [va_up_ne _ _ (by omega)]; first | assumption | exact va_up_self _ _ _ | (rw [va_up_ne _ _ (by omega)]; first | assumption | exact va_up_self _ _ _ | (rw [va_up_ne _ _ (by omega)]; first | assumption | exact va_up_self _ _ _ | (rw [va_up_ne _ _ (by omega)]; first | assumption | exact va_up_self _ _ _)))))) (by rfl) ?_
      refine mx_imulI (mx_d D_C_joinRepeats 36 rfl) ?_
      rw [hr]
      refine mx_istore (i := 6) (mx_d D_C_joinRepeats 37 rfl) (by decide) ?_
      refine mx_aload_n (k4 := 3) (mx_d D_C_joinRepeats 38 rfl) (by rfl) ?_
      refine mx_getf hG (idx := 165) (ci := 2) (kf := 1) (mx_d D_C_joinRepeats 39 rfl) (by rfl) cls_D (by decide) w_64 (by first | assumption | omega) (by first | assumption | exact va_up_self _ _ _ | (rw [va_up_ne _ _ (by omega)]; first | assumption | exact va_up_self _ _ _ | (rw [va_up_ne _ _ (by omega)]; first | assumption | exact va_up_self _ _ _ | (rw [va_up_ne _ _ (by omega)]; first | assumption | exact va_up_self _ _ _ | (rw [va_up_ne _ _ (by omega)]; first | assumption | exact va_up_self _ _ _ | (rw [va_up_ne _ _ (by omega)]; first | assumption | exact va_up_self _ _ _)))))) (by rfl) ?_
      refine mx_aload (i := 4) (mx_d D_C_joinRepeats 40 rfl) (by rfl) ?_
      refine mx_getf hG (idx := 165) (ci := 2) (kf := 1) (mx_d D_C_joinRepeats 41 rfl) (by rfl) cls_D (by decide) w_64 (by first | assumption | omega) (by first | assumption | exact va_up_self _ _ _ | (rw [va_up_ne _ _ (by omega)]; first | assumption | exact va_up_self _ _ _ | (rw [va_up_ne _ _ (by omega)]; first | assumption | exact va_up_self _ _ _ | (rw [va_up_ne _ _ (by omega)]; first | assumption | exact va_up_self _ _ _ | (rw [va_up_ne _ _ (by omega)]; first | assumption | exact va_up_self _ _ _ | (rw [va_up_ne _ _ (by omega)]; first | assumption | exact va_up_self _ _ _)))))) (by rfl) ?_
      refine mx_isubI (mx_d D_C_joinRepeats 42 rfl) ?_
      refine mx_istore (i := 7) (mx_d D_C_joinRepeats 43 rfl) (by decide) ?_
      refine mx_iload (i := 7) (mx_d D_C_joinRepeats 44 rfl) (by rfl) ?_
      refine mx_iload (i := 7) (mx_d D_C_joinRepeats 45 rfl) (by rfl) ?_
      refine mx_imulI (mx_d D_C_joinRepeats 46 rfl) ?_
      refine mx_iconst (n := 4) (mx_d D_C_joinRepeats 47 rfl) ?_
      refine mx_iload (i := 5) (mx_d D_C_joinRepeats 48 rfl) (by rfl) ?_
      refine mx_iload (i := 6) (mx_d D_C_joinRepeats 49 rfl) (by rfl) ?_
      refine mx_iaddI (mx_d D_C_joinRepeats 50 rfl) ?_
      refine mx_imulI (mx_d D_C_joinRepeats 51 rfl) ?_
      by_cases hc : (dA i - dA j) * (dA i - dA j) ≤ 4 * (p + r)
      · refine mx_icmp_leY 99 (mx_d D_C_joinRepeats 52 rfl) (by decide) (by omega) (by omega) (by omega) (by omega) (by omega) ?_
        refine mx_aload_n (k4 := 3) (mx_d D_C_joinRepeats 55 rfl) (by rfl) ?_
        refine mx_getf hG (idx := 165) (ci := 2) (kf := 1) (mx_d D_C_joinRepeats 56 rfl) (by rfl) cls_D (by decide) w_64 (by first | assumption | omega) (by first | assumption | exact va_up_self _ _ _ | (rw [va_up_ne _ _ (by omega)]; first | assumption | exact va_up_self _ _ _ | (rw [va_up_ne _ _ (by omega)]; first | assumption | exact va_up_self _ _ _ | (rw [va_up_ne _ _ (by omega)]; first | assumption | exact va_up_self _ _ _ | (rw [va_up_ne _ _ (by omega)]; first | assumption | exact va_up_self _ _ _ | (rw [va_up_ne _ _ (by omega)]; first | assumption | exact va_up_self _ _ _)))))) (by rfl) ?_
        refine mx_iload (i := 6) (mx_d D_C_joinRepeats 57 rfl) (by rfl) ?_
        refine mx_imulI (mx_d D_C_joinRepeats 58 rfl) ?_
        refine mx_aload (i := 4) (mx_d D_C_joinRepeats 59 rfl) (by rfl) ?_
        refine mx_getf hG (idx := 165) (ci := 2) (kf := 1) (mx_d D_C_joinRepeats 60 rfl) (by rfl) cls_D (by decide) w_64 (by first | assumption | omega) (by first | assumption | exact va_up_self _ _ _ | (rw [va_up_ne _ _ (by omega)]; first | assumption | exact va_up_self _ _ _ | (rw [va_up_ne _ _ (by omega)]; first | assumption | exact va_up_self _ _ _ | (rw [va_up_ne _ _ (by omega)]; first | assumption | exact va_up_self _ _ _ | (rw [va_up_ne _ _ (by omega)]; first | assumption | exact va_up_self _ _ _ | (rw [va_up_ne _ _ (by omega)]; first | assumption | exact va_up_self _ _ _)))))) (by rfl) ?_
        refine mx_iload (i := 5) (mx_d D_C_joinRepeats 61 rfl) (by rfl) ?_
        refine mx_imulI (mx_d D_C_joinRepeats 62 rfl) ?_
        refine mx_iaddI (mx_d D_C_joinRepeats 63 rfl) ?_
        refine mx_iload (i := 5) (mx_d D_C_joinRepeats 64 rfl) (by rfl) ?_
        refine mx_iload (i := 6) (mx_d D_C_joinRepeats 65 rfl) (by rfl) ?_
        refine mx_iaddI (mx_d D_C_joinRepeats 66 rfl) ?_
        refine mx_divI (mx_d D_C_joinRepeats 67 rfl) (by omega) (by omega) (by omega) (by omega) ?_
        refine mx_istore (i := 8) (mx_d D_C_joinRepeats 68 rfl) (by decide) ?_
        refine mx_aload_n (k4 := 0) (mx_d D_C_joinRepeats 69 rfl) (by rfl) ?_
        refine mx_iload (i := 8) (mx_d D_C_joinRepeats 70 rfl) (by rfl) ?_
        refine mx_iload (i := 5) (mx_d D_C_joinRepeats 71 rfl) (by rfl) ?_
        refine mx_iload (i := 6) (mx_d D_C_joinRepeats 72 rfl) (by rfl) ?_
        refine mx_imulI (mx_d D_C_joinRepeats 73 rfl) ?_
        refine mx_iload (i := 5) (mx_d D_C_joinRepeats 74 rfl) (by rfl) ?_
        refine mx_iload (i := 6) (mx_d D_C_joinRepeats 75 rfl) (by rfl) ?_
        refine mx_iaddI (mx_d D_C_joinRepeats 76 rfl) ?_
        refine mx_divI (mx_d D_C_joinRepeats 77 rfl) (by omega) (by omega) (by omega) (by omega) ?_
        refine mx_callS (Y' := Y_C_rootAtLeastOne) [_] (mx_d D_C_joinRepeats 78 rfl) in_C_rootAtLeastOne w_488 w_489 np_C_rootAtLeastOne (by exact Nat.le_of_ble_eq_true rfl) (by rfl) (by rfl) (by exact Nat.le_of_ble_eq_true rfl) (c_root hQ.1 hQ.2 (fun t ht => ?_))
        refine mx_callV hG (Y' := Y_C_tellMeasured) (ci := 0) [_, _] (mx_d D_C_joinRepeats 79 rfl) in_C_tellMeasured w_408 w_410 s_C_tellMeasured (by rfl) np_C_tellMeasured (by exact Nat.le_of_ble_eq_true rfl) (by rfl) (by first | assumption | omega) (by first | assumption | exact va_up_self _ _ _ | (rw [va_up_ne _ _ (by omega)]; first | assumption | exact va_up_self _ _ _ | (rw [va_up_ne _ _ (by omega)]; first | assumption | exact va_up_self _ _ _ | (rw [va_up_ne _ _ (by omega)]; first | assumption | exact va_up_self _ _ _ | (rw [va_up_ne _ _ (by omega)]; first | assumption | exact va_up_self _ _ _ | (rw [va_up_ne _ _ (by omega)]; first | assumption | exact va_up_self _ _ _)))))) (by rfl) (by exact Nat.le_of_ble_eq_true rfl) (c_tell hG hN hC0 h5 hA ⟨ht.1, ht.2.1⟩ (fun ce' h k1 k2 k3 => ?_))
        refine mx_iret (by rfl) (mx_d D_C_joinRepeats 80 rfl) ?_
        subst hp; subst hr
        exact q3 ce' i j h _ t rfl rfl (by omega) (by omega) h5 ⟨m1, m2, hc⟩ rfl ht hA k1 k2 k3
      · refine mx_icmp_leN 99 (mx_d D_C_joinRepeats 52 rfl) (by decide) (by omega) (by omega) (by omega) (by omega) (by omega) ?_
        refine mx_iconst (n := -1) (mx_d D_C_joinRepeats 53 rfl) ?_
        refine mx_iret (by rfl) (mx_d D_C_joinRepeats 54 rfl) ?_
        subst hp; subst hr
        exact q2 i j rfl rfl (by omega) (by omega) h5 (fun z => hc z.2.2)
    · rw [show decide (0 < dS j) = false from by simp; omega]
      refine mx_if_neN 46 (mx_d D_C_joinRepeats 23 rfl) (by decide) (by decide) (by decide) (by decide) ?_
      exact none_ (fun z => m2 z.2.1)
  · rw [show decide (0 < dS i) = false from by simp; omega]
    refine mx_if_eqY 44 (mx_d D_C_joinRepeats 20 rfl) (by decide) (by decide) (by decide) (by decide) ?_
    exact none_ (fun z => m1 z.1)
end CJ
