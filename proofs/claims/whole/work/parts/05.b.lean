/-! the class's methods: curve, edition, use, reservoir, weight, total -/
theorem csE_tell {G : mx_G} {Y : Nat} {eA eS : Nat → Nat → Int} {ce : Nat → va_E} (h : csE G Y eA eS ce) {e0 y : Nat} (he : e0 < 4) (hy : y < Y) {a s : Int} (hs : 0 < s) : csE G Y (up2 eA e0 y a) (up2 eS e0 y s) (va_up (va_up (va_up ce (3 + 3 * e0) (aI G Y (va_up (eA e0) y a))) (4 + 3 * e0) (aI G Y (va_up (eS e0) y s))) (2 + 3 * e0) (.inr (1, [.ref (mx_B G + (3 + 3 * e0)), .ref (mx_B G + (4 + 3 * e0)), .int (iI ((rwN (eS e0) Y : Int) + if 0 < eS e0 y then 0 else 1))]))) := by
  intro e he'
  unfold up2
  by_cases e1 : e = e0
  · subst e1
    rw [va_up_self, va_up_self, va_up_self, va_up_ne _ _ (by omega), va_up_ne _ _ (by omega), va_up_self, va_up_ne _ _ (by omega), va_up_self]
    refine ⟨?_, rfl, rfl⟩
    rw [rwN_up hs]
    by_cases hf : 0 < eS e y
    · rw [if_pos hf, if_neg (fun z => z.2 hf)]; rfl
    · rw [if_neg hf, if_pos ⟨hy, hf⟩]; rfl
  · rw [va_up_ne _ _ e1, va_up_ne _ _ e1, va_up_ne _ _ (by omega), va_up_ne _ _ (by omega), va_up_ne _ _ (by omega), va_up_ne _ _ (by omega), va_up_ne _ _ (by omega), va_up_ne _ _ (by omega), va_up_ne _ _ (by omega), va_up_ne _ _ (by omega), va_up_ne _ _ (by omega)]
    exact h e he'
section CM
variable {G : mx_G} {d bc bs : Nat} {N : Nat} {ce : Nat → va_E} {Q : mx_P} {Y : Nat} {U : Int} {nE iE nD : Nat} {rA rS : Int} {eA eS : Nat → Nat → Int} {dA dS : Nat → Int} {dW : Nat → Nat → Int} {lc : Nat → Bool} {rn rg : Nat → Nat} {rN : Nat} {ps : Nat → Int} {pN : Nat}
theorem c_C_curve (hG : mx_ok G) (hN : 50 ≤ N) (hC : CS G Y U nE iE nD rA rS eA eS dA dS dW lc rn rg rN ps pN ce) {y a s : Int} (y1 : -2147483648 ≤ y) (y2 : y < 2147483648) (a1 : -2147483648 ≤ a) (a2 : a < 2147483648) (s1 : -2147483648 ≤ s) (s2 : s < 2147483648)
    (q0 : ¬ (0 ≤ y ∧ y < Y) → Q (.inr xI) N ce bc bs) (q1 : (0 ≤ y ∧ y < Y) → ¬ ((0 ≤ a ∧ a ≤ 3000) ∧ 1 ≤ s ∧ s ≤ 100) → Q (.inr xA) N ce bc bs)
    (q2 : ∀ ce' (m : Nat), y = m → m < Y → ((0 ≤ a ∧ a ≤ 3000) ∧ 1 ≤ s ∧ s ≤ 100) → CS G Y U nE iE nD rA rS (up2 eA iE m a) (up2 eS iE m s) dA dS dW lc rn rg rN ps pN ce' → (∀ k, 50 ≤ k → ce' k = ce k) → Q (.inl (some (.int (iI (bI (decide (0 < eS iE m))))))) N ce' bc bs) : mx_M G Y_C_curve (d + 6) (bc + 1) (bs + 6) false N ce 0 [(0, .ref (mx_B G + 0)), (1, .int (iI y)), (2, .int (iI a)), (3, .int (iI s))] [] Q := by
  obtain ⟨⟨hY, hU, hE, hD, hrA, hrS, hEA, hES, hDA, hDS, hDz, hDW, hrN, hrn, hpN, hps⟩, c0, c1, c14, cE, cD, cL, cR, cP, cT⟩ := hC
  refine mx_aload_n (k4 := 0) (mx_d D_C_curve 0 rfl) (by rfl) ?_
  refine mx_iload_n (k4 := 1) (mx_d D_C_curve 1 rfl) (by rfl) ?_
  refine mx_callV hG (Y' := Y_C_needYear) (ci := 0) [_] (mx_d D_C_curve 2 rfl) in_C_needYear w_256 w_258 s_C_needYear (by rfl) np_C_needYear (by exact Nat.le_of_ble_eq_true rfl) (by rfl) (by first | assumption | omega) (by first | assumption | exact va_up_self _ _ _ | (rw [va_up_ne _ _ (by omega)]; first | assumption | exact va_up_self _ _ _ | (rw [va_up_ne _ _ (by omega)]; first | assumption | exact va_up_self _ _ _ | (rw [va_up_ne _ _ (by omega)]; first | assumption | exact va_up_self _ _ _ | (rw [va_up_ne _ _ (by omega)]; first | assumption | exact va_up_self _ _ _ | (rw [va_up_ne _ _ (by omega)]; first | assumption | exact va_up_self _ _ _)))))) (by rfl) (by exact Nat.le_of_ble_eq_true rfl) (c_needYear hG hN c0 hY.2 y1 y2 q0 (fun h1 h2 => ?_))
  refine mx_iload_n (k4 := 2) (mx_d D_C_curve 3 rfl) (by rfl) ?_
  refine mx_iload_n (k4 := 3) (mx_d D_C_curve 4 rfl) (by rfl) ?_
  refine mx_callS (Y' := Y_C_needAgeAndSpread) [_, _] (mx_d D_C_curve 5 rfl) in_C_needAgeAndSpread w_328 w_329 np_C_needAgeAndSpread (by exact Nat.le_of_ble_eq_true rfl) (by rfl) (by rfl) (by exact Nat.le_of_ble_eq_true rfl) (c_needAge hG a1 a2 s1 s2 (q1 ⟨h1, h2⟩) (fun h3 => ?_))
  refine mx_bud (Nat.le_succ bc) (Nat.le_add_right bs 6) ?_
  obtain ⟨m, rfl⟩ : ∃ m : Nat, y = m := ⟨y.toNat, by omega⟩
  have hE' := cE iE (by omega)
  have hEa := hE'.1
  have hs9 := hES iE (by omega) m (by omega)
  refine mx_aload_n (k4 := 0) (mx_d D_C_curve 6 rfl) (by rfl) ?_
  refine mx_getf hG (idx := 28) (ci := 0) (kf := 2) (mx_d D_C_curve 7 rfl) (by rfl) cls_C (by decide) w_151 (by first | assumption | omega) (by first | assumption | exact va_up_self _ _ _ | (rw [va_up_ne _ _ (by omega)]; first | assumption | exact va_up_self _ _ _ | (rw [va_up_ne _ _ (by omega)]; first | assumption | exact va_up_self _ _ _ | (rw [va_up_ne _ _ (by omega)]; first | assumption | exact va_up_self _ _ _ | (rw [va_up_ne _ _ (by omega)]; first | assumption | exact va_up_self _ _ _ | (rw [va_up_ne _ _ (by omega)]; first | assumption | exact va_up_self _ _ _)))))) (by rfl) ?_
  refine mx_aload_n (k4 := 0) (mx_d D_C_curve 8 rfl) (by rfl) ?_
  refine mx_getf hG (idx := 80) (ci := 0) (kf := 9) (mx_d D_C_curve 9 rfl) (by rfl) cls_C (by decide) w_158 (by first | assumption | omega) (by first | assumption | exact va_up_self _ _ _ | (rw [va_up_ne _ _ (by omega)]; first | assumption | exact va_up_self _ _ _ | (rw [va_up_ne _ _ (by omega)]; first | assumption | exact va_up_self _ _ _ | (rw [va_up_ne _ _ (by omega)]; first | assumption | exact va_up_self _ _ _ | (rw [va_up_ne _ _ (by omega)]; first | assumption | exact va_up_self _ _ _ | (rw [va_up_ne _ _ (by omega)]; first | assumption | exact va_up_self _ _ _)))))) (by rfl) ?_
  refine mx_aald hG 3 (iE) (mx_d D_C_curve 10 rfl) (by first | assumption | omega) (by first | assumption | exact va_up_self _ _ _ | (rw [va_up_ne _ _ (by omega)]; first | assumption | exact va_up_self _ _ _ | (rw [va_up_ne _ _ (by omega)]; first | assumption | exact va_up_self _ _ _ | (rw [va_up_ne _ _ (by omega)]; first | assumption | exact va_up_self _ _ _ | (rw [va_up_ne _ _ (by omega)]; first | assumption | exact va_up_self _ _ _ | (rw [va_up_ne _ _ (by omega)]; first | assumption | exact va_up_self _ _ _)))))) (by rfl) (by rfl) (by rfl) (by omega) (by omega) (show _ = some (mx_B G + (2 + 3 * iE)) by exact if_pos (by omega)) ?_
  refine mx_iload_n (k4 := 1) (mx_d D_C_curve 11 rfl) (by rfl) ?_
  refine mx_iload_n (k4 := 2) (mx_d D_C_curve 12 rfl) (by rfl) ?_
  refine mx_iload_n (k4 := 3) (mx_d D_C_curve 13 rfl) (by rfl) ?_
  refine mx_callV hG (Y' := Y_E_tellRow) (ci := 1) [_, _, _] (mx_d D_C_curve 14 rfl) in_E_tellRow w_236 w_237 s_E_tellRow (by rfl) np_E_tellRow (by exact Nat.le_of_ble_eq_true rfl) (by rfl) (by first | assumption | omega) (by first | assumption | exact va_up_self _ _ _ | (rw [va_up_ne _ _ (by omega)]; first | assumption | exact va_up_self _ _ _ | (rw [va_up_ne _ _ (by omega)]; first | assumption | exact va_up_self _ _ _ | (rw [va_up_ne _ _ (by omega)]; first | assumption | exact va_up_self _ _ _ | (rw [va_up_ne _ _ (by omega)]; first | assumption | exact va_up_self _ _ _ | (rw [va_up_ne _ _ (by omega)]; first | assumption | exact va_up_self _ _ _)))))) (by rfl) (by exact Nat.le_of_ble_eq_true rfl) (c_E_tellRow hG (by omega) (by omega) (by omega) (by omega) (by omega) (by omega) hE'.1 hE'.2.1 hE'.2.2 (by omega) (y := m) (by omega) hs9 ?_)
  refine mx_zret (by rfl) (mx_d D_C_curve 15 rfl) (bI_nar _) ?_
  refine q2 _ m rfl (by omega) h3 ⟨⟨hY, hU, hE, hD, hrA, hrS, up2_bd hEA h3.1, up2_bd hES ⟨by omega, by omega⟩, hDA, hDS, hDz, hDW, hrN, hrn, hpN, hps⟩, ?_, ?_, ?_, csE_tell cE (by omega) (by omega) (by omega), csD_fr cD (fun k _ _ => ?_), csL_fr cL (fun k _ _ => ?_), csR_fr cR (fun k _ _ => ?_), csP_fr cP (fun k _ _ => ?_), csT_fr cT (fun k _ _ => ?_)⟩ (fun k hk => ?_) <;> rw [va_up_ne _ _ (by omega), va_up_ne _ _ (by omega), va_up_ne _ _ (by omega)] <;> assumption
theorem c_C_edition (hG : mx_ok G) (hN : 50 ≤ N) (hC : CS G Y U nE iE nD rA rS eA eS dA dS dW lc rn rg rN ps pN ce)
    (q0 : ¬ nE < 4 → Q (.inr xS) N ce bc bs)
    (q2 : ∀ ce' (fA fS : Nat → Int), nE < 4 → (∀ j, j < Y → fA j = eA iE j ∧ fS j = eS iE j) → CS G Y U (nE + 1) (nE) nD rA rS (va_up eA nE fA) (va_up eS nE fS) dA dS dW lc rn rg rN ps pN ce' → (∀ k, 50 ≤ k → ce' k = ce k) → Q (.inl (some (.int (iI (nE : Nat))))) N ce' bc bs) : mx_M G Y_C_edition (d + 6) (bc + 1) (bs + 6) false N ce 0 [(0, .ref (mx_B G + 0))] [] Q := by
  obtain ⟨⟨hY, hU, hE, hD, hrA, hrS, hEA, hES, hDA, hDS, hDz, hDW, hrN, hrn, hpN, hps⟩, c0, c1, c14, cE, cD, cL, cR, cP, cT⟩ := hC
  refine mx_aload_n (k4 := 0) (mx_d D_C_edition 0 rfl) (by rfl) ?_
  refine mx_getf hG (idx := 70) (ci := 0) (kf := 8) (mx_d D_C_edition 1 rfl) (by rfl) cls_C (by decide) w_157 (by first | assumption | omega) (by first | assumption | exact va_up_self _ _ _ | (rw [va_up_ne _ _ (by omega)]; first | assumption | exact va_up_self _ _ _ | (rw [va_up_ne _ _ (by omega)]; first | assumption | exact va_up_self _ _ _ | (rw [va_up_ne _ _ (by omega)]; first | assumption | exact va_up_self _ _ _ | (rw [va_up_ne _ _ (by omega)]; first | assumption | exact va_up_self _ _ _ | (rw [va_up_ne _ _ (by omega)]; first | assumption | exact va_up_self _ _ _)))))) (by rfl) ?_
  refine mx_iconst (n := 4) (mx_d D_C_edition 2 rfl) ?_
  by_cases h4 : nE < 4
  · refine mx_icmp_ltY 18 (mx_d D_C_edition 3 rfl) (by decide) (by omega) (by omega) (by omega) (by omega) (by omega) ?_
    refine mx_bud (Nat.le_succ bc) (Nat.le_add_right bs 6) ?_
    have hE1 := cE nE (by omega)
    have hE2 := cE iE (by omega)
    have hEa := hE1.1
    have hEb := hE2.1
    refine mx_aload_n (k4 := 0) (mx_d D_C_edition 9 rfl) (by rfl) ?_
    refine mx_getf hG (idx := 28) (ci := 0) (kf := 2) (mx_d D_C_edition 10 rfl) (by rfl) cls_C (by decide) w_151 (by first | assumption | omega) (by first | assumption | exact va_up_self _ _ _ | (rw [va_up_ne _ _ (by omega)]; first | assumption | exact va_up_self _ _ _ | (rw [va_up_ne _ _ (by omega)]; first | assumption | exact va_up_self _ _ _ | (rw [va_up_ne _ _ (by omega)]; first | assumption | exact va_up_self _ _ _ | (rw [va_up_ne _ _ (by omega)]; first | assumption | exact va_up_self _ _ _ | (rw [va_up_ne _ _ (by omega)]; first | assumption | exact va_up_self _ _ _)))))) (by rfl) ?_
    refine mx_aload_n (k4 := 0) (mx_d D_C_edition 11 rfl) (by rfl) ?_
    refine mx_getf hG (idx := 70) (ci := 0) (kf := 8) (mx_d D_C_edition 12 rfl) (by rfl) cls_C (by decide) w_157 (by first | assumption | omega) (by first | assumption | exact va_up_self _ _ _ | (rw [va_up_ne _ _ (by omega)]; first | assumption | exact va_up_self _ _ _ | (rw [va_up_ne _ _ (by omega)]; first | assumption | exact va_up_self _ _ _ | (rw [va_up_ne _ _ (by omega)]; first | assumption | exact va_up_self _ _ _ | (rw [va_up_ne _ _ (by omega)]; first | assumption | exact va_up_self _ _ _ | (rw [va_up_ne _ _ (by omega)]; first | assumption | exact va_up_self _ _ _)))))) (by rfl) ?_
    refine mx_aald hG 3 (nE) (mx_d D_C_edition 13 rfl) (by first | assumption | omega) (by first | assumption | exact va_up_self _ _ _ | (rw [va_up_ne _ _ (by omega)]; first | assumption | exact va_up_self _ _ _ | (rw [va_up_ne _ _ (by omega)]; first | assumption | exact va_up_self _ _ _ | (rw [va_up_ne _ _ (by omega)]; first | assumption | exact va_up_self _ _ _ | (rw [va_up_ne _ _ (by omega)]; first | assumption | exact va_up_self _ _ _ | (rw [va_up_ne _ _ (by omega)]; first | assumption | exact va_up_self _ _ _)))))) (by rfl) (by rfl) (by rfl) (by omega) (by omega) (show _ = some (mx_B G + (2 + 3 * nE)) by exact if_pos (by omega)) ?_
    refine mx_aload_n (k4 := 0) (mx_d D_C_edition 14 rfl) (by rfl) ?_
    refine mx_getf hG (idx := 28) (ci := 0) (kf := 2) (mx_d D_C_edition 15 rfl) (by rfl) cls_C (by decide) w_151 (by first | assumption | omega) (by first | assumption | exact va_up_self _ _ _ | (rw [va_up_ne _ _ (by omega)]; first | assumption | exact va_up_self _ _ _ | (rw [va_up_ne _ _ (by omega)]; first | assumption | exact va_up_self _ _ _ | (rw [va_up_ne _ _ (by omega)]; first | assumption | exact va_up_self _ _ _ | (rw [va_up_ne _ _ (by omega)]; first | assumption | exact va_up_self _ _ _ | (rw [va_up_ne _ _ (by omega)]; first | assumption | exact va_up_self _ _ _)))))) (by rfl) ?_
    refine mx_aload_n (k4 := 0) (mx_d D_C_edition 16 rfl) (by rfl) ?_
    refine mx_getf hG (idx := 80) (ci := 0) (kf := 9) (mx_d D_C_edition 17 rfl) (by rfl) cls_C (by decide) w_158 (by first | assumption | omega) (by first | assumption | exact va_up_self _ _ _ | (rw [va_up_ne _ _ (by omega)]; first | assumption | exact va_up_self _ _ _ | (rw [va_up_ne _ _ (by omega)]; first | assumption | exact va_up_self _ _ _ | (rw [va_up_ne _ _ (by omega)]; first | assumption | exact va_up_self _ _ _ | (rw [va_up_ne _ _ (by omega)]; first | assumption | exact va_up_self _ _ _ | (rw [va_up_ne _ _ (by omega)]; first | assumption | exact va_up_self _ _ _)))))) (by rfl) ?_
    refine mx_aald hG 3 (iE) (mx_d D_C_edition 18 rfl) (by first | assumption | omega) (by first | assumption | exact va_up_self _ _ _ | (rw [va_up_ne _ _ (by omega)]; first | assumption | exact va_up_self _ _ _ | (rw [va_up_ne _ _ (by omega)]; first | assumption | exact va_up_self _ _ _ | (rw [va_up_ne _ _ (by omega)]; first | assumption | exact va_up_self _ _ _ | (rw [va_up_ne _ _ (by omega)]; first | assumption | exact va_up_self _ _ _ | (rw [va_up_ne _ _ (by omega)]; first | assumption | exact va_up_self _ _ _)))))) (by rfl) (by rfl) (by rfl) (by omega) (by omega) (show _ = some (mx_B G + (2 + 3 * iE)) by exact if_pos (by omega)) ?_
    refine mx_callV hG (Y' := Y_E_copyRowsOf) (ci := 1) [_] (mx_d D_C_edition 19 rfl) in_E_copyRowsOf w_372 w_373 s_E_copyRowsOf (by rfl) np_E_copyRowsOf (by exact Nat.le_of_ble_eq_true rfl) (by rfl) (by first | assumption | omega) (by first | assumption | exact va_up_self _ _ _ | (rw [va_up_ne _ _ (by omega)]; first | assumption | exact va_up_self _ _ _ | (rw [va_up_ne _ _ (by omega)]; first | assumption | exact va_up_self _ _ _ | (rw [va_up_ne _ _ (by omega)]; first | assumption | exact va_up_self _ _ _ | (rw [va_up_ne _ _ (by omega)]; first | assumption | exact va_up_self _ _ _ | (rw [va_up_ne _ _ (by omega)]; first | assumption | exact va_up_self _ _ _)))))) (by rfl) (by exact Nat.le_of_ble_eq_true rfl) (c_E_copy hG (by omega) (by omega) (by omega) (by omega) (by omega) (by omega) (by omega) (by omega) (by omega) (by omega) (by omega) (by omega) hE1.1 hE1.2.1 hE1.2.2 hE2.1 hE2.2.1 hE2.2.2 (by omega) ?_)
    refine mx_aload_n (k4 := 0) (mx_d D_C_edition 20 rfl) (by rfl) ?_
    refine mx_aload_n (k4 := 0) (mx_d D_C_edition 21 rfl) (by rfl) ?_
    refine mx_getf hG (idx := 70) (ci := 0) (kf := 8) (mx_d D_C_edition 22 rfl) (by rfl) cls_C (by decide) w_157 (by first | assumption | omega) (by first | assumption | exact va_up_self _ _ _ | (rw [va_up_ne _ _ (by omega)]; first | assumption | exact va_up_self _ _ _ | (rw [va_up_ne _ _ (by omega)]; first | assumption | exact va_up_self _ _ _ | (rw [va_up_ne _ _ (by omega)]; first | assumption | exact va_up_self _ _ _ | (rw [va_up_ne _ _ (by omega)]; first | assumption | exact va_up_self _ _ _ | (rw [va_up_ne _ _ (by omega)]; first | assumption | exact va_up_self _ _ _)))))) (by rfl) ?_
    refine mx_putf hG (idx := 80) (ci := 0) (kf := 9) (t := (.int)) (mx_d D_C_edition 23 rfl) (by rfl) cls_C (by decide) (Or.inl rfl) w_158 (by first | assumption | omega) (by first | assumption | exact va_up_self _ _ _ | (rw [va_up_ne _ _ (by omega)]; first | assumption | exact va_up_self _ _ _ | (rw [va_up_ne _ _ (by omega)]; first | assumption | exact va_up_self _ _ _ | (rw [va_up_ne _ _ (by omega)]; first | assumption | exact va_up_self _ _ _ | (rw [va_up_ne _ _ (by omega)]; first | assumption | exact va_up_self _ _ _ | (rw [va_up_ne _ _ (by omega)]; first | assumption | exact va_up_self _ _ _)))))) (by exact Nat.le_of_ble_eq_true rfl) (by decide +kernel) (by rfl) (by rfl) ?_
    refine mx_aload_n (k4 := 0) (mx_d D_C_edition 24 rfl) (by rfl) ?_
    refine mx_dup (mx_d D_C_edition 25 rfl) (by rfl) ?_
    refine mx_getf hG (idx := 70) (ci := 0) (kf := 8) (mx_d D_C_edition 26 rfl) (by rfl) cls_C (by decide) w_157 (by first | assumption | omega) (by first | assumption | exact va_up_self _ _ _ | (rw [va_up_ne _ _ (by omega)]; first | assumption | exact va_up_self _ _ _ | (rw [va_up_ne _ _ (by omega)]; first | assumption | exact va_up_self _ _ _ | (rw [va_up_ne _ _ (by omega)]; first | assumption | exact va_up_self _ _ _ | (rw [va_up_ne _ _ (by omega)]; first | assumption | exact va_up_self _ _ _ | (rw [va_up_ne _ _ (by omega)]; first | assumption | exact va_up_self _ _ _)))))) (by rfl) ?_
    refine mx_iconst (n := 1) (mx_d D_C_edition 27 rfl) ?_
    refine mx_iaddI (mx_d D_C_edition 28 rfl) ?_
    refine mx_putf hG (idx := 70) (ci := 0) (kf := 8) (t := (.int)) (mx_d D_C_edition 29 rfl) (by rfl) cls_C (by decide) (Or.inl rfl) w_157 (by first | assumption | omega) (by first | assumption | exact va_up_self _ _ _ | (rw [va_up_ne _ _ (by omega)]; first | assumption | exact va_up_self _ _ _ | (rw [va_up_ne _ _ (by omega)]; first | assumption | exact va_up_self _ _ _ | (rw [va_up_ne _ _ (by omega)]; first | assumption | exact va_up_self _ _ _ | (rw [va_up_ne _ _ (by omega)]; first | assumption | exact va_up_self _ _ _ | (rw [va_up_ne _ _ (by omega)]; first | assumption | exact va_up_self _ _ _)))))) (by exact Nat.le_of_ble_eq_true rfl) (by decide +kernel) (by rfl) (by rfl) ?_
    refine mx_aload_n (k4 := 0) (mx_d D_C_edition 30 rfl) (by rfl) ?_
    refine mx_getf hG (idx := 80) (ci := 0) (kf := 9) (mx_d D_C_edition 31 rfl) (by rfl) cls_C (by decide) w_158 (by first | assumption | omega) (by first | assumption | exact va_up_self _ _ _ | (rw [va_up_ne _ _ (by omega)]; first | assumption | exact va_up_self _ _ _ | (rw [va_up_ne _ _ (by omega)]; first | assumption | exact va_up_self _ _ _ | (rw [va_up_ne _ _ (by omega)]; first | assumption | exact va_up_self _ _ _ | (rw [va_up_ne _ _ (by omega)]; first | assumption | exact va_up_self _ _ _ | (rw [va_up_ne _ _ (by omega)]; first | assumption | exact va_up_self _ _ _)))))) (by rfl) ?_
    refine mx_iret (by rfl) (mx_d D_C_edition 32 rfl) ?_
    refine q2 _ (fun j => if j < Y then eA iE j else eA nE j) (fun j => if j < Y then eS iE j else eS nE j) h4 (fun j hj => ?_) ⟨⟨hY, hU, ⟨by omega, by omega⟩, hD, hrA, hrS, ?_, ?_, hDA, hDS, hDz, hDW, hrN, hrn, hpN, hps⟩, ?_, ?_, ?_, ?_, csD_fr cD (fun k _ _ => ?_), csL_fr cL (fun k _ _ => ?_), csR_fr cR (fun k _ _ => ?_), csP_fr cP (fun k _ _ => ?_), csT_fr cT (fun k _ _ => ?_)⟩ (fun k hk => ?_)
    · exact ⟨if_pos hj, if_pos hj⟩
    · intro e he y hy
      by_cases e1 : e = nE
      · subst e1; rw [va_up_self, if_pos hy]; exact hEA iE (by omega) y hy
      · rw [va_up_ne _ _ e1]; exact hEA e he y hy
    · intro e he y hy
      by_cases e1 : e = nE
      · subst e1; rw [va_up_self, if_pos hy]; exact hES iE (by omega) y hy
      · rw [va_up_ne _ _ e1]; exact hES e he y hy
    · rw [va_up_self]; rfl
    · rw [va_up_ne _ _ (by omega), va_up_ne _ _ (by omega), va_up_ne _ _ (by omega), va_up_ne _ _ (by omega), va_up_ne _ _ (by omega)]; exact c1
    · rw [va_up_ne _ _ (by omega), va_up_ne _ _ (by omega), va_up_ne _ _ (by omega), va_up_ne _ _ (by omega), va_up_ne _ _ (by omega)]; exact c14
    · intro e he
      rw [va_up_ne _ _ (by omega), va_up_ne _ _ (by omega), va_up_ne _ _ (by omega : 3 + 3 * e ≠ 0), va_up_ne _ _ (by omega : 3 + 3 * e ≠ 0), va_up_ne _ _ (by omega : 4 + 3 * e ≠ 0), va_up_ne _ _ (by omega : 4 + 3 * e ≠ 0)]
      by_cases e1 : e = nE
      · subst e1
        simp only [va_up_self]
        refine ⟨?_, ?_, ?_⟩
        · rw [rwN_congr (f := fun j => if j < Y then eS iE j else eS e j) (g := eS iE) (fun j hj => if_pos hj)]
        · rw [va_up_ne _ _ (by omega), va_up_ne _ _ (by omega), va_up_self]
        · rw [va_up_ne _ _ (by omega), va_up_self]
      · rw [va_up_ne eA _ e1, va_up_ne eS _ e1]
        refine ⟨?_, ?_, ?_⟩
        · rw [va_up_ne _ _ (by omega), va_up_ne _ _ (by omega), va_up_ne _ _ (by omega)]; exact (cE e he).1
        · rw [va_up_ne _ _ (by omega), va_up_ne _ _ (by omega), va_up_ne _ _ (by omega)]; exact (cE e he).2.1
        · rw [va_up_ne _ _ (by omega), va_up_ne _ _ (by omega), va_up_ne _ _ (by omega)]; exact (cE e he).2.2
    all_goals rw [va_up_ne _ _ (by omega), va_up_ne _ _ (by omega), va_up_ne _ _ (by omega), va_up_ne _ _ (by omega), va_up_ne _ _ (by omega)]
  · refine mx_icmp_ltN 18 (mx_d D_C_edition 3 rfl) (by decide) (by omega) (by omega) (by omega) (by omega) (by omega) ?_
    refine mx_throw hG ["java/lang/RuntimeException", "java/lang/Exception"] (E := "java/lang/IllegalStateException") (tx := "there are four editions") (mx_d D_C_edition 4 rfl) (mx_d D_C_edition 5 rfl) (mx_d D_C_edition 6 rfl) (mx_d D_C_edition 7 rfl) (mx_d D_C_edition 8 rfl) (by decide) (by decide) (by decide) w_356 w_15 w_357 (by decide) th_91 (by rfl) (by exact Nat.le_of_ble_eq_true rfl) ?_
    exact q0 h4
theorem c_C_use (hG : mx_ok G) (hN : 50 ≤ N) (hC : CS G Y U nE iE nD rA rS eA eS dA dS dW lc rn rg rN ps pN ce) {y : Int} (y1 : -2147483648 ≤ y) (y2 : y < 2147483648)
    (q0 : ¬ (0 ≤ y ∧ y < nE) → Q (.inr xI) N ce bc bs)
    (q2 : ∀ ce' (m : Nat), y = m → m < nE → CS G Y U nE (m) nD rA rS eA eS dA dS dW lc rn rg rN ps pN ce' → (∀ k, 50 ≤ k → ce' k = ce k) → Q (.inl (some (.int (iI (iE : Nat))))) N ce' bc bs) : mx_M G Y_C_use (d + 6) (bc + 1) (bs + 6) false N ce 0 [(0, .ref (mx_B G + 0)), (1, .int (iI y))] [] Q := by
  obtain ⟨⟨hY, hU, hE, hD, hrA, hrS, hEA, hES, hDA, hDS, hDz, hDW, hrN, hrn, hpN, hps⟩, c0, c1, c14, cE, cD, cL, cR, cP, cT⟩ := hC
  have thr : ¬ (0 ≤ y ∧ y < nE) → ∀ {l9 : List (Nat × Value)}, mx_M G Y_C_use (d + 6) (bc + 1) (bs + 6) false N ce 12 l9 [] Q := by
    intro h l9
    refine mx_throw hG ["java/lang/RuntimeException", "java/lang/Exception"] (E := "java/lang/IndexOutOfBoundsException") (tx := "no such edition") (mx_d D_C_use 6 rfl) (mx_d D_C_use 7 rfl) (mx_d D_C_use 8 rfl) (mx_d D_C_use 9 rfl) (mx_d D_C_use 10 rfl) (by decide) (by decide) (by decide) w_260 w_13 w_261 (by decide) th_102 (by rfl) (by exact Nat.le_of_ble_eq_true rfl) ?_
    exact q0 h
  refine mx_iload_n (k4 := 1) (mx_d D_C_use 0 rfl) (by rfl) ?_
  by_cases h1 : y < 0
  · refine mx_if_ltY 12 (mx_d D_C_use 1 rfl) (by decide) (by omega) (by omega) (by omega) ?_
    exact thr (by omega)
  · refine mx_if_ltN 12 (mx_d D_C_use 1 rfl) (by decide) (by omega) (by omega) (by omega) ?_
    refine mx_iload_n (k4 := 1) (mx_d D_C_use 2 rfl) (by rfl) ?_
    refine mx_aload_n (k4 := 0) (mx_d D_C_use 3 rfl) (by rfl) ?_
    refine mx_getf hG (idx := 70) (ci := 0) (kf := 8) (mx_d D_C_use 4 rfl) (by rfl) cls_C (by decide) w_157 (by first | assumption | omega) (by first | assumption | exact va_up_self _ _ _ | (rw [va_up_ne _ _ (by omega)]; first | assumption | exact va_up_self _ _ _ | (rw [va_up_ne _ _ (by omega)]; first | assumption | exact va_up_self _ _ _ | (rw [va_up_ne _ _ (by omega)]; first | assumption | exact va_up_self _ _ _ | (rw [va_up_ne _ _ (by omega)]; first | assumption | exact va_up_self _ _ _ | (rw [va_up_ne _ _ (by omega)]; first | assumption | exact va_up_self _ _ _)))))) (by rfl) ?_
    by_cases h2 : y < nE
    · refine mx_icmp_ltY 22 (mx_d D_C_use 5 rfl) (by decide) (by omega) (by omega) (by omega) (by omega) (by omega) ?_
      refine mx_bud (Nat.le_succ bc) (Nat.le_add_right bs 6) ?_
      obtain ⟨m, rfl⟩ : ∃ m : Nat, y = m := ⟨y.toNat, by omega⟩
      refine mx_aload_n (k4 := 0) (mx_d D_C_use 11 rfl) (by rfl) ?_
      refine mx_getf hG (idx := 80) (ci := 0) (kf := 9) (mx_d D_C_use 12 rfl) (by rfl) cls_C (by decide) w_158 (by first | assumption | omega) (by first | assumption | exact va_up_self _ _ _ | (rw [va_up_ne _ _ (by omega)]; first | assumption | exact va_up_self _ _ _ | (rw [va_up_ne _ _ (by omega)]; first | assumption | exact va_up_self _ _ _ | (rw [va_up_ne _ _ (by omega)]; first | assumption | exact va_up_self _ _ _ | (rw [va_up_ne _ _ (by omega)]; first | assumption | exact va_up_self _ _ _ | (rw [va_up_ne _ _ (by omega)]; first | assumption | exact va_up_self _ _ _)))))) (by rfl) ?_
      refine mx_istore_n (k4 := 2) (mx_d D_C_use 13 rfl) (by decide) ?_
      refine mx_aload_n (k4 := 0) (mx_d D_C_use 14 rfl) (by rfl) ?_
      refine mx_iload_n (k4 := 1) (mx_d D_C_use 15 rfl) (by rfl) ?_
      refine mx_putf hG (idx := 80) (ci := 0) (kf := 9) (t := (.int)) (mx_d D_C_use 16 rfl) (by rfl) cls_C (by decide) (Or.inl rfl) w_158 (by first | assumption | omega) (by first | assumption | exact va_up_self _ _ _ | (rw [va_up_ne _ _ (by omega)]; first | assumption | exact va_up_self _ _ _ | (rw [va_up_ne _ _ (by omega)]; first | assumption | exact va_up_self _ _ _ | (rw [va_up_ne _ _ (by omega)]; first | assumption | exact va_up_self _ _ _ | (rw [va_up_ne _ _ (by omega)]; first | assumption | exact va_up_self _ _ _ | (rw [va_up_ne _ _ (by omega)]; first | assumption | exact va_up_self _ _ _)))))) (by exact Nat.le_of_ble_eq_true rfl) (by decide +kernel) (by rfl) (by rfl) ?_
      refine mx_iload_n (k4 := 2) (mx_d D_C_use 17 rfl) (by rfl) ?_
      refine mx_iret (by rfl) (mx_d D_C_use 18 rfl) ?_
      refine q2 _ m rfl (by omega) ⟨⟨hY, hU, ⟨by omega, by omega⟩, hD, hrA, hrS, hEA, hES, hDA, hDS, hDz, hDW, hrN, hrn, hpN, hps⟩, va_up_self _ _ _, ?_, ?_, csE_fr cE (fun k _ _ => ?_), csD_fr cD (fun k _ _ => ?_), csL_fr cL (fun k _ _ => ?_), csR_fr cR (fun k _ _ => ?_), csP_fr cP (fun k _ _ => ?_), csT_fr cT (fun k _ _ => ?_)⟩ (fun k hk => ?_) <;> rw [va_up_ne _ _ (by omega)] <;> assumption
    · refine mx_icmp_ltN 22 (mx_d D_C_use 5 rfl) (by decide) (by omega) (by omega) (by omega) (by omega) (by omega) ?_
      exact thr (by omega)
theorem c_C_reservoir (hG : mx_ok G) (hN : 50 ≤ N) (hC : CS G Y U nE iE nD rA rS eA eS dA dS dW lc rn rg rN ps pN ce) {a s : Int} (a1 : -2147483648 ≤ a) (a2 : a < 2147483648) (s1 : -2147483648 ≤ s) (s2 : s < 2147483648)
    (q0 : ¬ ((-1000 ≤ a ∧ a ≤ 1000) ∧ 0 ≤ s ∧ s ≤ 100) → Q (.inr xA) N ce bc bs)
    (q2 : ∀ ce', ((-1000 ≤ a ∧ a ≤ 1000) ∧ 0 ≤ s ∧ s ≤ 100) → CS G Y U nE iE nD (a) (s) eA eS dA dS dW lc rn rg rN ps pN ce' → (∀ k, 50 ≤ k → ce' k = ce k) → Q (.inl none) N ce' bc bs) : mx_M G Y_C_reservoir (d + 6) (bc + 1) (bs + 6) false N ce 0 [(0, .ref (mx_B G + 0)), (1, .int (iI a)), (2, .int (iI s))] [] Q := by
  obtain ⟨⟨hY, hU, hE, hD, hrA, hrS, hEA, hES, hDA, hDS, hDz, hDW, hrN, hrn, hpN, hps⟩, c0, c1, c14, cE, cD, cL, cR, cP, cT⟩ := hC
  have thr : ¬ (-1000 ≤ a ∧ a ≤ 1000) → ∀ {l9 : List (Nat × Value)}, mx_M G Y_C_reservoir (d + 6) (bc + 1) (bs + 6) false N ce 14 l9 [] Q := by
    intro h l9
    refine mx_throw hG ["java/lang/RuntimeException", "java/lang/Exception"] (E := "java/lang/IllegalArgumentException") (tx := "a reservoir\'s age is -1000 .. 1000") (mx_d D_C_reservoir 6 rfl) (mx_d D_C_reservoir 7 rfl) (mx_d D_C_reservoir 8 rfl) (mx_d D_C_reservoir 9 rfl) (mx_d D_C_reservoir 10 rfl) (by decide) (by decide) (by decide) w_331 w_14 w_332 (by decide) th_107 (by rfl) (by exact Nat.le_of_ble_eq_true rfl) ?_
    exact q0 (fun z => h z.1)
  have thr2 : ¬ (0 ≤ s ∧ s ≤ 100) → ∀ {l9 : List (Nat × Value)}, mx_M G Y_C_reservoir (d + 6) (bc + 1) (bs + 6) false N ce 34 l9 [] Q := by
    intro h l9
    refine mx_throw hG ["java/lang/RuntimeException", "java/lang/Exception"] (E := "java/lang/IllegalArgumentException") (tx := "a reservoir\'s spread is 0 .. 100") (mx_d D_C_reservoir 16 rfl) (mx_d D_C_reservoir 17 rfl) (mx_d D_C_reservoir 18 rfl) (mx_d D_C_reservoir 19 rfl) (mx_d D_C_reservoir 20 rfl) (by decide) (by decide) (by decide) w_331 w_14 w_332 (by decide) th_107 (by rfl) (by exact Nat.le_of_ble_eq_true rfl) ?_
    exact q0 (fun z => h z.2)
  refine mx_iload_n (k4 := 1) (mx_d D_C_reservoir 0 rfl) (by rfl) ?_
  refine mx_sipush (n := -1000) (mx_d D_C_reservoir 1 rfl) (by decide) ?_
  by_cases h1 : a < -1000
  · refine mx_icmp_ltY 14 (mx_d D_C_reservoir 2 rfl) (by decide) (by omega) (by omega) (by omega) (by omega) (by omega) ?_
    exact thr (by omega)
  · refine mx_icmp_ltN 14 (mx_d D_C_reservoir 2 rfl) (by decide) (by omega) (by omega) (by omega) (by omega) (by omega) ?_
    refine mx_iload_n (k4 := 1) (mx_d D_C_reservoir 3 rfl) (by rfl) ?_
    refine mx_sipush (n := 1000) (mx_d D_C_reservoir 4 rfl) (by decide) ?_
    by_cases h2 : a ≤ 1000
    · refine mx_icmp_leY 24 (mx_d D_C_reservoir 5 rfl) (by decide) (by omega) (by omega) (by omega) (by omega) (by omega) ?_
      refine mx_iload_n (k4 := 2) (mx_d D_C_reservoir 11 rfl) (by rfl) ?_
      by_cases h3 : s < 0
      · refine mx_if_ltY 34 (mx_d D_C_reservoir 12 rfl) (by decide) (by omega) (by omega) (by omega) ?_
        exact thr2 (by omega)
      · refine mx_if_ltN 34 (mx_d D_C_reservoir 12 rfl) (by decide) (by omega) (by omega) (by omega) ?_
        refine mx_iload_n (k4 := 2) (mx_d D_C_reservoir 13 rfl) (by rfl) ?_
        refine mx_bipush (n := 100) (mx_d D_C_reservoir 14 rfl) (by decide) ?_
        by_cases h4 : s ≤ 100
        · refine mx_icmp_leY 44 (mx_d D_C_reservoir 15 rfl) (by decide) (by omega) (by omega) (by omega) (by omega) (by omega) ?_
          refine mx_bud (Nat.le_succ bc) (Nat.le_add_right bs 6) ?_
          refine mx_aload_n (k4 := 0) (mx_d D_C_reservoir 21 rfl) (by rfl) ?_
          refine mx_iload_n (k4 := 1) (mx_d D_C_reservoir 22 rfl) (by rfl) ?_
          refine mx_putf hG (idx := 110) (ci := 0) (kf := 11) (t := (.int)) (mx_d D_C_reservoir 23 rfl) (by rfl) cls_C (by decide) (Or.inl rfl) w_160 (by first | assumption | omega) (by first | assumption | exact va_up_self _ _ _ | (rw [va_up_ne _ _ (by omega)]; first | assumption | exact va_up_self _ _ _ | (rw [va_up_ne _ _ (by omega)]; first | assumption | exact va_up_self _ _ _ | (rw [va_up_ne _ _ (by omega)]; first | assumption | exact va_up_self _ _ _ | (rw [va_up_ne _ _ (by omega)]; first | assumption | exact va_up_self _ _ _ | (rw [va_up_ne _ _ (by omega)]; first | assumption | exact va_up_self _ _ _)))))) (by exact Nat.le_of_ble_eq_true rfl) (by decide +kernel) (by rfl) (by rfl) ?_
          refine mx_aload_n (k4 := 0) (mx_d D_C_reservoir 24 rfl) (by rfl) ?_
          refine mx_iload_n (k4 := 2) (mx_d D_C_reservoir 25 rfl) (by rfl) ?_
          refine mx_putf hG (idx := 113) (ci := 0) (kf := 12) (t := (.int)) (mx_d D_C_reservoir 26 rfl) (by rfl) cls_C (by decide) (Or.inl rfl) w_161 (by first | assumption | omega) (by first | assumption | exact va_up_self _ _ _ | (rw [va_up_ne _ _ (by omega)]; first | assumption | exact va_up_self _ _ _ | (rw [va_up_ne _ _ (by omega)]; first | assumption | exact va_up_self _ _ _ | (rw [va_up_ne _ _ (by omega)]; first | assumption | exact va_up_self _ _ _ | (rw [va_up_ne _ _ (by omega)]; first | assumption | exact va_up_self _ _ _ | (rw [va_up_ne _ _ (by omega)]; first | assumption | exact va_up_self _ _ _)))))) (by exact Nat.le_of_ble_eq_true rfl) (by decide +kernel) (by rfl) (by rfl) ?_
          refine mx_vret (by rfl) (mx_d D_C_reservoir 27 rfl) ?_
          rw [bx_uu]
          refine q2 _ (by omega) ⟨⟨hY, hU, hE, hD, ⟨by omega, by omega⟩, ⟨by omega, by omega⟩, hEA, hES, hDA, hDS, hDz, hDW, hrN, hrn, hpN, hps⟩, va_up_self _ _ _, ?_, ?_, csE_fr cE (fun k _ _ => ?_), csD_fr cD (fun k _ _ => ?_), csL_fr cL (fun k _ _ => ?_), csR_fr cR (fun k _ _ => ?_), csP_fr cP (fun k _ _ => ?_), csT_fr cT (fun k _ _ => ?_)⟩ (fun k hk => ?_) <;> rw [va_up_ne _ _ (by omega)] <;> assumption
        · refine mx_icmp_leN 44 (mx_d D_C_reservoir 15 rfl) (by decide) (by omega) (by omega) (by omega) (by omega) (by omega) ?_
          exact thr2 (by omega)
    · refine mx_icmp_leN 24 (mx_d D_C_reservoir 5 rfl) (by decide) (by omega) (by omega) (by omega) (by omega) (by omega) ?_
      exact thr (by omega)
theorem c_C_weight (hG : mx_ok G) (hN : 50 ≤ N) (hC : CS G Y U nE iE nD rA rS eA eS dA dS dW lc rn rg rN ps pN ce) {i y : Int} (i1 : -2147483648 ≤ i) (i2 : i < 2147483648) (y1 : -2147483648 ≤ y) (y2 : y < 2147483648)
    (q0 : ¬ ((0 ≤ i ∧ i < nD) ∧ 0 ≤ y ∧ y < Y) → Q (.inr xI) N ce bc bs)
    (q2 : ∀ j m : Nat, i = j → y = m → j < nD → m < Y → Q (.inl (some (.int (iI (dW j m))))) N ce bc bs) : mx_M G Y_C_weight (d + 6) (bc + 1) (bs + 6) false N ce 0 [(0, .ref (mx_B G + 0)), (1, .int (iI i)), (2, .int (iI y))] [] Q := by
  obtain ⟨⟨hY, hU, hE, hD, hrA, hrS, hEA, hES, hDA, hDS, hDz, hDW, hrN, hrn, hpN, hps⟩, c0, c1, c14, cE, cD, cL, cR, cP, cT⟩ := hC
  refine mx_aload_n (k4 := 0) (mx_d D_C_weight 0 rfl) (by rfl) ?_
  refine mx_iload_n (k4 := 1) (mx_d D_C_weight 1 rfl) (by rfl) ?_
  refine mx_callV hG (Y' := Y_C_needDate) (ci := 0) [_] (mx_d D_C_weight 2 rfl) in_C_needDate w_428 w_430 s_C_needDate (by rfl) np_C_needDate (by exact Nat.le_of_ble_eq_true rfl) (by rfl) (by first | assumption | omega) (by first | assumption | exact va_up_self _ _ _ | (rw [va_up_ne _ _ (by omega)]; first | assumption | exact va_up_self _ _ _ | (rw [va_up_ne _ _ (by omega)]; first | assumption | exact va_up_self _ _ _ | (rw [va_up_ne _ _ (by omega)]; first | assumption | exact va_up_self _ _ _ | (rw [va_up_ne _ _ (by omega)]; first | assumption | exact va_up_self _ _ _ | (rw [va_up_ne _ _ (by omega)]; first | assumption | exact va_up_self _ _ _)))))) (by rfl) (by exact Nat.le_of_ble_eq_true rfl) (c_needDate hG hN c0 hD i1 i2 (fun h => q0 (fun z => h z.1)) (fun h1 h2 => ?_))
  refine mx_aload_n (k4 := 0) (mx_d D_C_weight 3 rfl) (by rfl) ?_
  refine mx_iload_n (k4 := 2) (mx_d D_C_weight 4 rfl) (by rfl) ?_
  refine mx_callV hG (Y' := Y_C_needYear) (ci := 0) [_] (mx_d D_C_weight 5 rfl) in_C_needYear w_256 w_258 s_C_needYear (by rfl) np_C_needYear (by exact Nat.le_of_ble_eq_true rfl) (by rfl) (by first | assumption | omega) (by first | assumption | exact va_up_self _ _ _ | (rw [va_up_ne _ _ (by omega)]; first | assumption | exact va_up_self _ _ _ | (rw [va_up_ne _ _ (by omega)]; first | assumption | exact va_up_self _ _ _ | (rw [va_up_ne _ _ (by omega)]; first | assumption | exact va_up_self _ _ _ | (rw [va_up_ne _ _ (by omega)]; first | assumption | exact va_up_self _ _ _ | (rw [va_up_ne _ _ (by omega)]; first | assumption | exact va_up_self _ _ _)))))) (by rfl) (by exact Nat.le_of_ble_eq_true rfl) (c_needYear hG hN c0 hY.2 y1 y2 (fun h => q0 (fun z => h z.2)) (fun h3 h4 => ?_))
  refine mx_bud (Nat.le_succ bc) (Nat.le_add_right bs 6) ?_
  obtain ⟨m, rfl⟩ : ∃ m : Nat, y = m := ⟨y.toNat, by omega⟩
  obtain ⟨j, rfl⟩ : ∃ j : Nat, i = j := ⟨i.toNat, by omega⟩
  have hD' := cD j (by omega)
  have hDa := hD'.1
  have hDb := hD'.2
  refine mx_aload_n (k4 := 0) (mx_d D_C_weight 6 rfl) (by rfl) ?_
  refine mx_getf hG (idx := 37) (ci := 0) (kf := 3) (mx_d D_C_weight 7 rfl) (by rfl) cls_C (by decide) w_152 (by first | assumption | omega) (by first | assumption | exact va_up_self _ _ _ | (rw [va_up_ne _ _ (by omega)]; first | assumption | exact va_up_self _ _ _ | (rw [va_up_ne _ _ (by omega)]; first | assumption | exact va_up_self _ _ _ | (rw [va_up_ne _ _ (by omega)]; first | assumption | exact va_up_self _ _ _ | (rw [va_up_ne _ _ (by omega)]; first | assumption | exact va_up_self _ _ _ | (rw [va_up_ne _ _ (by omega)]; first | assumption | exact va_up_self _ _ _)))))) (by rfl) ?_
  refine mx_iload_n (k4 := 1) (mx_d D_C_weight 8 rfl) (by rfl) ?_
  refine mx_aald hG 4 (j) (mx_d D_C_weight 9 rfl) (by first | assumption | omega) (by first | assumption | exact va_up_self _ _ _ | (rw [va_up_ne _ _ (by omega)]; first | assumption | exact va_up_self _ _ _ | (rw [va_up_ne _ _ (by omega)]; first | assumption | exact va_up_self _ _ _ | (rw [va_up_ne _ _ (by omega)]; first | assumption | exact va_up_self _ _ _ | (rw [va_up_ne _ _ (by omega)]; first | assumption | exact va_up_self _ _ _ | (rw [va_up_ne _ _ (by omega)]; first | assumption | exact va_up_self _ _ _)))))) (by rfl) (by rfl) (by rfl) (by omega) (by omega) (show _ = some (mx_B G + (15 + 2 * j)) by exact if_pos (by omega)) ?_
  refine mx_getf hG (idx := 125) (ci := 2) (kf := 0) (mx_d D_C_weight 10 rfl) (by rfl) cls_D (by decide) w_63 (by first | assumption | omega) (by first | assumption | exact va_up_self _ _ _ | (rw [va_up_ne _ _ (by omega)]; first | assumption | exact va_up_self _ _ _ | (rw [va_up_ne _ _ (by omega)]; first | assumption | exact va_up_self _ _ _ | (rw [va_up_ne _ _ (by omega)]; first | assumption | exact va_up_self _ _ _ | (rw [va_up_ne _ _ (by omega)]; first | assumption | exact va_up_self _ _ _ | (rw [va_up_ne _ _ (by omega)]; first | assumption | exact va_up_self _ _ _)))))) (by rfl) ?_
  refine mx_iload_n (k4 := 2) (mx_d D_C_weight 11 rfl) (by rfl) ?_
  refine mx_ialdI hG _ (mx_d D_C_weight 12 rfl) (by first | assumption | omega) (by first | assumption | exact va_up_self _ _ _ | (rw [va_up_ne _ _ (by omega)]; first | assumption | exact va_up_self _ _ _ | (rw [va_up_ne _ _ (by omega)]; first | assumption | exact va_up_self _ _ _ | (rw [va_up_ne _ _ (by omega)]; first | assumption | exact va_up_self _ _ _ | (rw [va_up_ne _ _ (by omega)]; first | assumption | exact va_up_self _ _ _ | (rw [va_up_ne _ _ (by omega)]; first | assumption | exact va_up_self _ _ _)))))) (by rfl) (by omega) (by omega) ?_
  refine mx_iret (by rfl) (mx_d D_C_weight 13 rfl) ?_
  exact q2 j m rfl rfl (by omega) (by omega)
theorem c_C_total (hG : mx_ok G) (hN : 50 ≤ N) (hC : CS G Y U nE iE nD rA rS eA eS dA dS dW lc rn rg rN ps pN ce) {i : Int} (i1 : -2147483648 ≤ i) (i2 : i < 2147483648)
    (q0 : ¬ (0 ≤ i ∧ i < nD) → Q (.inr xI) N ce bc bs)
    (q2 : ∀ j : Nat, i = j → j < nD → Q (.inl (some (.int (iI (sumTo (dW j) Y))))) N ce bc bs) : mx_M G Y_C_total (d + 6) (bc + 1) (bs + 6) false N ce 0 [(0, .ref (mx_B G + 0)), (1, .int (iI i))] [] Q := by
  obtain ⟨⟨hY, hU, hE, hD, hrA, hrS, hEA, hES, hDA, hDS, hDz, hDW, hrN, hrn, hpN, hps⟩, c0, c1, c14, cE, cD, cL, cR, cP, cT⟩ := hC
  refine mx_aload_n (k4 := 0) (mx_d D_C_total 0 rfl) (by rfl) ?_
  refine mx_iload_n (k4 := 1) (mx_d D_C_total 1 rfl) (by rfl) ?_
  refine mx_callV hG (Y' := Y_C_needDate) (ci := 0) [_] (mx_d D_C_total 2 rfl) in_C_needDate w_428 w_430 s_C_needDate (by rfl) np_C_needDate (by exact Nat.le_of_ble_eq_true rfl) (by rfl) (by first | assumption | omega) (by first | assumption | exact va_up_self _ _ _ | (rw [va_up_ne _ _ (by omega)]; first | assumption | exact va_up_self _ _ _ | (rw [va_up_ne _ _ (by omega)]; first | assumption | exact va_up_self _ _ _ | (rw [va_up_ne _ _ (by omega)]; first | assumption | exact va_up_self _ _ _ | (rw [va_up_ne _ _ (by omega)]; first | assumption | exact va_up_self _ _ _ | (rw [va_up_ne _ _ (by omega)]; first | assumption | exact va_up_self _ _ _)))))) (by rfl) (by exact Nat.le_of_ble_eq_true rfl) (c_needDate hG hN c0 hD i1 i2 q0 (fun h1 h2 => ?_))
  refine mx_bud (Nat.le_succ bc) (Nat.le_add_right bs 6) ?_
  obtain ⟨j, rfl⟩ : ∃ j : Nat, i = j := ⟨i.toNat, by omega⟩
  have hD' := cD j (by omega)
  have hDa := hD'.1
  refine mx_aload_n (k4 := 0) (mx_d D_C_total 3 rfl) (by rfl) ?_
  refine mx_getf hG (idx := 37) (ci := 0) (kf := 3) (mx_d D_C_total 4 rfl) (by rfl) cls_C (by decide) w_152 (by first | assumption | omega) (by first | assumption | exact va_up_self _ _ _ | (rw [va_up_ne _ _ (by omega)]; first | assumption | exact va_up_self _ _ _ | (rw [va_up_ne _ _ (by omega)]; first | assumption | exact va_up_self _ _ _ | (rw [va_up_ne _ _ (by omega)]; first | assumption | exact va_up_self _ _ _ | (rw [va_up_ne _ _ (by omega)]; first | assumption | exact va_up_self _ _ _ | (rw [va_up_ne _ _ (by omega)]; first | assumption | exact va_up_self _ _ _)))))) (by rfl) ?_
  refine mx_iload_n (k4 := 1) (mx_d D_C_total 5 rfl) (by rfl) ?_
  refine mx_aald hG 4 (j) (mx_d D_C_total 6 rfl) (by first | assumption | omega) (by first | assumption | exact va_up_self _ _ _ | (rw [va_up_ne _ _ (by omega)]; first | assumption | exact va_up_self _ _ _ | (rw [va_up_ne _ _ (by omega)]; first | assumption | exact va_up_self _ _ _ | (rw [va_up_ne _ _ (by omega)]; first | assumption | exact va_up_self _ _ _ | (rw [va_up_ne _ _ (by omega)]; first | assumption | exact va_up_self _ _ _ | (rw [va_up_ne _ _ (by omega)]; first | assumption | exact va_up_self _ _ _)))))) (by rfl) (by rfl) (by rfl) (by omega) (by omega) (show _ = some (mx_B G + (15 + 2 * j)) by exact if_pos (by omega)) ?_
  refine mx_callV hG (Y' := Y_D_allWeights) (ci := 2) [] (mx_d D_C_total 7 rfl) in_D_allWeights w_440 w_441 s_D_allWeights (by rfl) np_D_allWeights (by exact Nat.le_of_ble_eq_true rfl) (by rfl) (by first | assumption | omega) (by first | assumption | exact va_up_self _ _ _ | (rw [va_up_ne _ _ (by omega)]; first | assumption | exact va_up_self _ _ _ | (rw [va_up_ne _ _ (by omega)]; first | assumption | exact va_up_self _ _ _ | (rw [va_up_ne _ _ (by omega)]; first | assumption | exact va_up_self _ _ _ | (rw [va_up_ne _ _ (by omega)]; first | assumption | exact va_up_self _ _ _ | (rw [va_up_ne _ _ (by omega)]; first | assumption | exact va_up_self _ _ _)))))) (by rfl) (by exact Nat.le_of_ble_eq_true rfl) (c_D_all hG (by omega) (by omega) hD'.1 hD'.2 (by omega) ?_)
  refine mx_iret (by rfl) (mx_d D_C_total 8 rfl) ?_
  exact q2 j rfl (by omega)
end CM
