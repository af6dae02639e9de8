/-! the law's wrappers: the class's call, and what it throws, caught -/
section WR
variable {G : mx_G} {d bc bs : Nat} {N : Nat} {ce : Nat → va_E} {Q : mx_P} {Y : Nat} {U : Int} {nE iE nD : Nat} {rA rS : Int} {eA eS : Nat → Nat → Int} {dA dS : Nat → Int} {dW : Nat → Nat → Int} {lc : Nat → Bool} {rn rg : Nat → Nat} {rN : Nat} {ps : Nat → Int} {pN : Nat}
theorem cat_curve_xI : mx_cat Y_W_curve 7 xI 22 := ⟨[], (0, 19, 22, 13), [(0, 19, 26, 15)], xI, rfl, fun z hz => absurd hz List.not_mem_nil, ⟨by decide, by decide⟩, by decide, w_250, w_262, rfl⟩
theorem cat_curve_xA : mx_cat Y_W_curve 7 xA 26 := ⟨[(0, 19, 22, 13)], (0, 19, 26, 15), [], xA, rfl, List.forall_mem_cons.mpr ⟨⟨by decide, xI, w_250, by decide +kernel⟩, fun z hz => absurd hz List.not_mem_nil⟩, ⟨by decide, by decide⟩, by decide, w_251, w_333, rfl⟩
theorem w_curve (hG : mx_ok G) (hK : mx_Nok G) (hN : 64 ≤ N) (hC : CS G Y U nE iE nD rA rS eA eS dA dS dW lc rn rg rN ps pN ce) {v0 : Int64} (hL : oL G v0 ce) {y a s : Int} (y1 : -2147483648 ≤ y) (y2 : y < 2147483648) (a1 : -2147483648 ≤ a) (a2 : a < 2147483648) (s1 : -2147483648 ≤ s) (s2 : s < 2147483648)
    (q0 : ¬ (0 ≤ y ∧ y < Y) → Q (.inl (some (.int (iI 1)))) N ce bc bs)
    (q1 : (0 ≤ y ∧ y < Y) → ¬ ((0 ≤ a ∧ a ≤ 3000) ∧ 1 ≤ s ∧ s ≤ 100) → Q (.inl (some (.int (iI 2)))) N ce bc bs)
    (r0 : ∀ ce' (m : Nat), y = m → m < Y → ((0 ≤ a ∧ a ≤ 3000) ∧ 1 ≤ s ∧ s ≤ 100) → CS G Y U nE iE nD rA rS (up2 eA iE m a) (up2 eS iE m s) dA dS dW lc rn rg rN ps pN ce' → oL G (lI (bI (decide (0 < eS iE m)))) ce' → (∀ k, 50 ≤ k → k ≠ 63 → ce' k = ce k) → Q (.inl (some (.int (iI 0)))) N ce' bc bs) : mx_M G Y_W_curve (d + 7) (bc + 1) (bs + 6) false N ce 0 [(0, .ref (mx_B G + 0)), (1, .int (iI y)), (2, .int (iI a)), (3, .int (iI s)), (4, .ref (mx_B G + 63))] [] Q := by
  have hC0 := hC.2.1
  obtain ⟨f0, l1, l2⟩ := hL
  refine mx_aload (i := 4) (mx_d D_W_curve 0 rfl) (by rfl) ?_
  refine mx_iconst (n := 0) (mx_d D_W_curve 1 rfl) ?_
  refine mx_aload_n (k4 := 0) (mx_d D_W_curve 2 rfl) (by rfl) ?_
  refine mx_iload_n (k4 := 1) (mx_d D_W_curve 3 rfl) (by rfl) ?_
  refine mx_iload_n (k4 := 2) (mx_d D_W_curve 4 rfl) (by rfl) ?_
  refine mx_iload_n (k4 := 3) (mx_d D_W_curve 5 rfl) (by rfl) ?_
  refine mx_callVH hG hK (Y' := Y_C_curve) (ci := 0) [_, _, _] (mx_d D_W_curve 6 rfl) in_C_curve w_252 w_253 s_C_curve (by rfl) np_C_curve (by exact Nat.le_of_ble_eq_true rfl) (by first | assumption | omega) (by first | assumption | exact va_up_self _ _ _ | (rw [va_up_ne _ _ (by omega)]; first | assumption | exact va_up_self _ _ _ | (rw [va_up_ne _ _ (by omega)]; first | assumption | exact va_up_self _ _ _ | (rw [va_up_ne _ _ (by omega)]; first | assumption | exact va_up_self _ _ _ | (rw [va_up_ne _ _ (by omega)]; first | assumption | exact va_up_self _ _ _ | (rw [va_up_ne _ _ (by omega)]; first | assumption | exact va_up_self _ _ _)))))) (by rfl) (by exact Nat.le_of_ble_eq_true rfl) (c_C_curve hG (by omega) hC y1 y2 a1 a2 s1 s2 (fun h0 => ⟨22, cat_curve_xI, fun q9 => ?_⟩) (fun h0 h1 => ⟨26, cat_curve_xA, fun q9 => ?_⟩) (fun ce1 m h0 h1 h2 k1 k2 => ?_))
  · refine mx_astore (i := 5) (mx_d D_W_curve 13 rfl) (by decide) ?_
    refine mx_iconst (n := 1) (mx_d D_W_curve 14 rfl) ?_
    refine mx_iret (by rfl) (mx_d D_W_curve 15 rfl) ?_
    exact q0 h0
  · refine mx_astore (i := 5) (mx_d D_W_curve 16 rfl) (by decide) ?_
    refine mx_iconst (n := 2) (mx_d D_W_curve 17 rfl) ?_
    refine mx_iret (by rfl) (mx_d D_W_curve 18 rfl) ?_
    exact q1 h0 h1
  · replace r0 := fun ce' => r0 ce' m h0 h1 h2
    cases hv : decide (0 < eS iE m) with
    | false =>
      rw [hv] at r0
      refine mx_if_eqY 17 (mx_d D_W_curve 7 rfl) (by decide) (by decide) (by decide) (by decide) ?_
      refine mx_lconst (n := 0) (v := lI 0) (mx_d D_W_curve 10 rfl) (by rfl) ?_
      refine mx_last hG 2 (0) (mx_d D_W_curve 11 rfl) (by first | assumption | omega) ((k2 63 (by omega)).trans l1) (by rfl) (by rfl) (by omega) (by omega) ?_
      refine mx_goto 30 (mx_d D_W_curve 12 rfl) (by decide) ?_
      refine mx_iconst (n := 0) (mx_d D_W_curve 19 rfl) ?_
      refine mx_iret (by rfl) (mx_d D_W_curve 20 rfl) ?_
      exact r0 _ (k1.fr (fun k hk => va_up_ne _ _ (by omega))) ⟨_, va_up_self _ _ _, va_up_self _ _ _⟩ (fun k hk hk2 => (va_up_ne _ _ hk2).trans (k2 k hk))
    | true =>
      rw [hv] at r0
      refine mx_if_eqN 17 (mx_d D_W_curve 7 rfl) (by decide) (by decide) (by decide) (by decide) ?_
      refine mx_lconst (n := 1) (v := lI 1) (mx_d D_W_curve 8 rfl) (by rfl) ?_
      refine mx_goto 18 (mx_d D_W_curve 9 rfl) (by decide) ?_
      refine mx_last hG 2 (0) (mx_d D_W_curve 11 rfl) (by first | assumption | omega) ((k2 63 (by omega)).trans l1) (by rfl) (by rfl) (by omega) (by omega) ?_
      refine mx_goto 30 (mx_d D_W_curve 12 rfl) (by decide) ?_
      refine mx_iconst (n := 0) (mx_d D_W_curve 19 rfl) ?_
      refine mx_iret (by rfl) (mx_d D_W_curve 20 rfl) ?_
      exact r0 _ (k1.fr (fun k hk => va_up_ne _ _ (by omega))) ⟨_, va_up_self _ _ _, va_up_self _ _ _⟩ (fun k hk hk2 => (va_up_ne _ _ hk2).trans (k2 k hk))
theorem cat_edition_xS : mx_cat Y_W_edition 3 xS 11 := ⟨[], (0, 8, 11, 21), [], xS, rfl, fun z hz => absurd hz List.not_mem_nil, ⟨by decide, by decide⟩, by decide, w_351, w_358, rfl⟩
theorem w_edition (hG : mx_ok G) (hK : mx_Nok G) (hN : 64 ≤ N) (hC : CS G Y U nE iE nD rA rS eA eS dA dS dW lc rn rg rN ps pN ce) {v0 : Int64} (hL : oL G v0 ce) 
    (q0 : ¬ nE < 4 → Q (.inl (some (.int (iI 1)))) N ce bc bs)
    (r0 : ∀ ce' (fA : Nat → Int) (fS : Nat → Int), nE < 4 → (∀ j, j < Y → fA j = eA iE j ∧ fS j = eS iE j) → CS G Y U (nE + 1) (nE) nD rA rS (va_up eA nE fA) (va_up eS nE fS) dA dS dW lc rn rg rN ps pN ce' → oL G (iI ((nE : Nat))).toInt64 ce' → (∀ k, 50 ≤ k → k ≠ 63 → ce' k = ce k) → Q (.inl (some (.int (iI 0)))) N ce' bc bs) : mx_M G Y_W_edition (d + 7) (bc + 1) (bs + 6) false N ce 0 [(0, .ref (mx_B G + 0)), (1, .ref (mx_B G + 63))] [] Q := by
  have hC0 := hC.2.1
  obtain ⟨f0, l1, l2⟩ := hL
  refine mx_aload_n (k4 := 1) (mx_d D_W_edition 0 rfl) (by rfl) ?_
  refine mx_iconst (n := 0) (mx_d D_W_edition 1 rfl) ?_
  refine mx_aload_n (k4 := 0) (mx_d D_W_edition 2 rfl) (by rfl) ?_
  refine mx_callVH hG hK (Y' := Y_C_edition) (ci := 0) [] (mx_d D_W_edition 3 rfl) in_C_edition w_352 w_353 s_C_edition (by rfl) np_C_edition (by exact Nat.le_of_ble_eq_true rfl) (by first | assumption | omega) (by first | assumption | exact va_up_self _ _ _ | (rw [va_up_ne _ _ (by omega)]; first | assumption | exact va_up_self _ _ _ | (rw [va_up_ne _ _ (by omega)]; first | assumption | exact va_up_self _ _ _ | (rw [va_up_ne _ _ (by omega)]; first | assumption | exact va_up_self _ _ _ | (rw [va_up_ne _ _ (by omega)]; first | assumption | exact va_up_self _ _ _ | (rw [va_up_ne _ _ (by omega)]; first | assumption | exact va_up_self _ _ _)))))) (by rfl) (by exact Nat.le_of_ble_eq_true rfl) (c_C_edition hG (by omega) hC  (fun h0 => ⟨11, cat_edition_xS, fun q9 => ?_⟩) (fun ce1 fA fS h0 h1 k1 k2 => ?_))
  · refine mx_astore_n (k4 := 2) (mx_d D_W_edition 7 rfl) (by decide) ?_
    refine mx_iconst (n := 1) (mx_d D_W_edition 8 rfl) ?_
    refine mx_iret (by rfl) (mx_d D_W_edition 9 rfl) ?_
    exact q0 h0
  · refine mx_i2l (mx_d D_W_edition 4 rfl) ?_
    refine mx_last hG 2 (0) (mx_d D_W_edition 5 rfl) (by first | assumption | omega) ((k2 63 (by omega)).trans l1) (by rfl) (by rfl) (by omega) (by omega) ?_
    refine mx_goto 14 (mx_d D_W_edition 6 rfl) (by decide) ?_
    refine mx_iconst (n := 0) (mx_d D_W_edition 10 rfl) ?_
    refine mx_iret (by rfl) (mx_d D_W_edition 11 rfl) ?_
    exact r0 _ fA fS h0 h1 (k1.fr (fun k hk => va_up_ne _ _ (by omega))) ⟨_, va_up_self _ _ _, va_up_self _ _ _⟩ (fun k hk hk2 => (va_up_ne _ _ hk2).trans (k2 k hk))
theorem cat_use_xI : mx_cat Y_W_use 4 xI 12 := ⟨[], (0, 9, 12, 13), [], xI, rfl, fun z hz => absurd hz List.not_mem_nil, ⟨by decide, by decide⟩, by decide, w_250, w_262, rfl⟩
theorem w_use (hG : mx_ok G) (hK : mx_Nok G) (hN : 64 ≤ N) (hC : CS G Y U nE iE nD rA rS eA eS dA dS dW lc rn rg rN ps pN ce) {v0 : Int64} (hL : oL G v0 ce) {y : Int} (y1 : -2147483648 ≤ y) (y2 : y < 2147483648)
    (q0 : ¬ (0 ≤ y ∧ y < nE) → Q (.inl (some (.int (iI 1)))) N ce bc bs)
    (r0 : ∀ ce' (m : Nat), y = m → m < nE → CS G Y U nE (m) nD rA rS eA eS dA dS dW lc rn rg rN ps pN ce' → oL G (iI ((iE : Nat))).toInt64 ce' → (∀ k, 50 ≤ k → k ≠ 63 → ce' k = ce k) → Q (.inl (some (.int (iI 0)))) N ce' bc bs) : mx_M G Y_W_use (d + 7) (bc + 1) (bs + 6) false N ce 0 [(0, .ref (mx_B G + 0)), (1, .int (iI y)), (2, .ref (mx_B G + 63))] [] Q := by
  have hC0 := hC.2.1
  obtain ⟨f0, l1, l2⟩ := hL
  refine mx_aload_n (k4 := 2) (mx_d D_W_use 0 rfl) (by rfl) ?_
  refine mx_iconst (n := 0) (mx_d D_W_use 1 rfl) ?_
  refine mx_aload_n (k4 := 0) (mx_d D_W_use 2 rfl) (by rfl) ?_
  refine mx_iload_n (k4 := 1) (mx_d D_W_use 3 rfl) (by rfl) ?_
  refine mx_callVH hG hK (Y' := Y_C_use) (ci := 0) [_] (mx_d D_W_use 4 rfl) in_C_use w_382 w_383 s_C_use (by rfl) np_C_use (by exact Nat.le_of_ble_eq_true rfl) (by first | assumption | omega) (by first | assumption | exact va_up_self _ _ _ | (rw [va_up_ne _ _ (by omega)]; first | assumption | exact va_up_self _ _ _ | (rw [va_up_ne _ _ (by omega)]; first | assumption | exact va_up_self _ _ _ | (rw [va_up_ne _ _ (by omega)]; first | assumption | exact va_up_self _ _ _ | (rw [va_up_ne _ _ (by omega)]; first | assumption | exact va_up_self _ _ _ | (rw [va_up_ne _ _ (by omega)]; first | assumption | exact va_up_self _ _ _)))))) (by rfl) (by exact Nat.le_of_ble_eq_true rfl) (c_C_use hG (by omega) hC y1 y2 (fun h0 => ⟨12, cat_use_xI, fun q9 => ?_⟩) (fun ce1 m h0 h1 k1 k2 => ?_))
  · refine mx_astore_n (k4 := 3) (mx_d D_W_use 8 rfl) (by decide) ?_
    refine mx_iconst (n := 1) (mx_d D_W_use 9 rfl) ?_
    refine mx_iret (by rfl) (mx_d D_W_use 10 rfl) ?_
    exact q0 h0
  · refine mx_i2l (mx_d D_W_use 5 rfl) ?_
    refine mx_last hG 2 (0) (mx_d D_W_use 6 rfl) (by first | assumption | omega) ((k2 63 (by omega)).trans l1) (by rfl) (by rfl) (by omega) (by omega) ?_
    refine mx_goto 15 (mx_d D_W_use 7 rfl) (by decide) ?_
    refine mx_iconst (n := 0) (mx_d D_W_use 11 rfl) ?_
    refine mx_iret (by rfl) (mx_d D_W_use 12 rfl) ?_
    exact r0 _ m h0 h1 (k1.fr (fun k hk => va_up_ne _ _ (by omega))) ⟨_, va_up_self _ _ _, va_up_self _ _ _⟩ (fun k hk hk2 => (va_up_ne _ _ hk2).trans (k2 k hk))
theorem cat_reservoir_xA : mx_cat Y_W_reservoir 3 xA 9 := ⟨[], (0, 6, 9, 15), [], xA, rfl, fun z hz => absurd hz List.not_mem_nil, ⟨by decide, by decide⟩, by decide, w_251, w_333, rfl⟩
theorem w_reservoir (hG : mx_ok G) (hK : mx_Nok G) (hN : 64 ≤ N) (hC : CS G Y U nE iE nD rA rS eA eS dA dS dW lc rn rg rN ps pN ce) {a s : Int} (a1 : -2147483648 ≤ a) (a2 : a < 2147483648) (s1 : -2147483648 ≤ s) (s2 : s < 2147483648)
    (q0 : ¬ ((-1000 ≤ a ∧ a ≤ 1000) ∧ 0 ≤ s ∧ s ≤ 100) → Q (.inl (some (.int (iI 1)))) N ce bc bs)
    (r0 : ∀ ce' , ((-1000 ≤ a ∧ a ≤ 1000) ∧ 0 ≤ s ∧ s ≤ 100) → CS G Y U nE iE nD (a) (s) eA eS dA dS dW lc rn rg rN ps pN ce' → (∀ k, 50 ≤ k → True → ce' k = ce k) → Q (.inl (some (.int (iI 0)))) N ce' bc bs) : mx_M G Y_W_reservoir (d + 7) (bc + 1) (bs + 6) false N ce 0 [(0, .ref (mx_B G + 0)), (1, .int (iI a)), (2, .int (iI s))] [] Q := by
  have hC0 := hC.2.1
  refine mx_aload_n (k4 := 0) (mx_d D_W_reservoir 0 rfl) (by rfl) ?_
  refine mx_iload_n (k4 := 1) (mx_d D_W_reservoir 1 rfl) (by rfl) ?_
  refine mx_iload_n (k4 := 2) (mx_d D_W_reservoir 2 rfl) (by rfl) ?_
  refine mx_callVH hG hK (Y' := Y_C_reservoir) (ci := 0) [_, _] (mx_d D_W_reservoir 3 rfl) in_C_reservoir w_390 w_391 s_C_reservoir (by rfl) np_C_reservoir (by exact Nat.le_of_ble_eq_true rfl) (by first | assumption | omega) (by first | assumption | exact va_up_self _ _ _ | (rw [va_up_ne _ _ (by omega)]; first | assumption | exact va_up_self _ _ _ | (rw [va_up_ne _ _ (by omega)]; first | assumption | exact va_up_self _ _ _ | (rw [va_up_ne _ _ (by omega)]; first | assumption | exact va_up_self _ _ _ | (rw [va_up_ne _ _ (by omega)]; first | assumption | exact va_up_self _ _ _ | (rw [va_up_ne _ _ (by omega)]; first | assumption | exact va_up_self _ _ _)))))) (by rfl) (by exact Nat.le_of_ble_eq_true rfl) (c_C_reservoir hG (by omega) hC a1 a2 s1 s2 (fun h0 => ⟨9, cat_reservoir_xA, fun q9 => ?_⟩) (fun ce1  h0 k1 k2 => ?_))
  · refine mx_astore_n (k4 := 3) (mx_d D_W_reservoir 5 rfl) (by decide) ?_
    refine mx_iconst (n := 1) (mx_d D_W_reservoir 6 rfl) ?_
    refine mx_iret (by rfl) (mx_d D_W_reservoir 7 rfl) ?_
    exact q0 h0
  · refine mx_goto 12 (mx_d D_W_reservoir 4 rfl) (by decide) ?_
    refine mx_iconst (n := 0) (mx_d D_W_reservoir 8 rfl) ?_
    refine mx_iret (by rfl) (mx_d D_W_reservoir 9 rfl) ?_
    exact r0 _ h0 k1 (fun k hk _ => k2 k hk)
theorem cat_date_xA : mx_cat Y_W_date 5 xA 13 := ⟨[], (0, 10, 13, 15), [(0, 10, 17, 21)], xA, rfl, fun z hz => absurd hz List.not_mem_nil, ⟨by decide, by decide⟩, by decide, w_251, w_333, rfl⟩
theorem cat_date_xS : mx_cat Y_W_date 5 xS 17 := ⟨[(0, 10, 13, 15)], (0, 10, 17, 21), [], xS, rfl, List.forall_mem_cons.mpr ⟨⟨by decide, xA, w_251, by decide +kernel⟩, fun z hz => absurd hz List.not_mem_nil⟩, ⟨by decide, by decide⟩, by decide, w_351, w_358, rfl⟩
theorem w_date (hG : mx_ok G) (hK : mx_Nok G) (hN : 64 ≤ N) (hC : CS G Y U nE iE nD rA rS eA eS dA dS dW lc rn rg rN ps pN ce) {v0 : Int64} (hL : oL G v0 ce) {a s : Int} (a1 : -2147483648 ≤ a) (a2 : a < 2147483648) (s1 : -2147483648 ≤ s) (s2 : s < 2147483648)
    (q0 : ¬ ((0 ≤ a ∧ a ≤ 3000) ∧ 1 ≤ s ∧ s ≤ 100) → Q (.inl (some (.int (iI 1)))) N ce bc bs)
    (q1 : ((0 ≤ a ∧ a ≤ 3000) ∧ 1 ≤ s ∧ s ≤ 100) → ¬ nD < 12 → Q (.inl (some (.int (iI 2)))) N ce bc bs)
    (r0 : ∀ ce' (h : Nat → Int), ((0 ≤ a ∧ a ≤ 3000) ∧ 1 ≤ s ∧ s ≤ 100) → nD < 12 → (∀ j, j < Y → h j = wgt U (s * s + rS * rS) (a - rA) (eA iE j) (eS iE j)) → CS G Y U nE iE (nD + 1) rA rS eA eS (va_up dA nD a) (va_up dS nD s) (va_up dW nD h) lc rn rg rN ps pN ce' → oL G (iI ((nD : Nat))).toInt64 ce' → (∀ k, 50 ≤ k → k ≠ 63 → ce' k = ce k) → Q (.inl (some (.int (iI 0)))) N ce' bc bs) : mx_M G Y_W_date (d + 7) (bc + 1) (bs + 6) false N ce 0 [(0, .ref (mx_B G + 0)), (1, .int (iI a)), (2, .int (iI s)), (3, .ref (mx_B G + 63))] [] Q := by
  have hC0 := hC.2.1
  obtain ⟨f0, l1, l2⟩ := hL
  refine mx_aload_n (k4 := 3) (mx_d D_W_date 0 rfl) (by rfl) ?_
  refine mx_iconst (n := 0) (mx_d D_W_date 1 rfl) ?_
  refine mx_aload_n (k4 := 0) (mx_d D_W_date 2 rfl) (by rfl) ?_
  refine mx_iload_n (k4 := 1) (mx_d D_W_date 3 rfl) (by rfl) ?_
  refine mx_iload_n (k4 := 2) (mx_d D_W_date 4 rfl) (by rfl) ?_
  refine mx_callVH hG hK (Y' := Y_C_date) (ci := 0) [_, _] (mx_d D_W_date 5 rfl) in_C_date w_399 w_400 s_C_date (by rfl) np_C_date (by exact Nat.le_of_ble_eq_true rfl) (by first | assumption | omega) (by first | assumption | exact va_up_self _ _ _ | (rw [va_up_ne _ _ (by omega)]; first | assumption | exact va_up_self _ _ _ | (rw [va_up_ne _ _ (by omega)]; first | assumption | exact va_up_self _ _ _ | (rw [va_up_ne _ _ (by omega)]; first | assumption | exact va_up_self _ _ _ | (rw [va_up_ne _ _ (by omega)]; first | assumption | exact va_up_self _ _ _ | (rw [va_up_ne _ _ (by omega)]; first | assumption | exact va_up_self _ _ _)))))) (by rfl) (by exact Nat.le_of_ble_eq_true rfl) (c_C_date hG (by omega) hC a1 a2 s1 s2 (fun h0 => ⟨13, cat_date_xA, fun q9 => ?_⟩) (fun h0 h1 => ⟨17, cat_date_xS, fun q9 => ?_⟩) (fun ce1 h h0 h1 h2 k1 k2 => ?_))
  · refine mx_astore (i := 4) (mx_d D_W_date 9 rfl) (by decide) ?_
    refine mx_iconst (n := 1) (mx_d D_W_date 10 rfl) ?_
    refine mx_iret (by rfl) (mx_d D_W_date 11 rfl) ?_
    exact q0 h0
  · refine mx_astore (i := 4) (mx_d D_W_date 12 rfl) (by decide) ?_
    refine mx_iconst (n := 2) (mx_d D_W_date 13 rfl) ?_
    refine mx_iret (by rfl) (mx_d D_W_date 14 rfl) ?_
    exact q1 h0 h1
  · refine mx_i2l (mx_d D_W_date 6 rfl) ?_
    refine mx_last hG 2 (0) (mx_d D_W_date 7 rfl) (by first | assumption | omega) ((k2 63 (by omega)).trans l1) (by rfl) (by rfl) (by omega) (by omega) ?_
    refine mx_goto 21 (mx_d D_W_date 8 rfl) (by decide) ?_
    refine mx_iconst (n := 0) (mx_d D_W_date 15 rfl) ?_
    refine mx_iret (by rfl) (mx_d D_W_date 16 rfl) ?_
    exact r0 _ h h0 h1 h2 (k1.fr (fun k hk => va_up_ne _ _ (by omega))) ⟨_, va_up_self _ _ _, va_up_self _ _ _⟩ (fun k hk hk2 => (va_up_ne _ _ hk2).trans (k2 k hk))
theorem cat_weight_xI : mx_cat Y_W_weight 5 xI 13 := ⟨[], (0, 10, 13, 13), [], xI, rfl, fun z hz => absurd hz List.not_mem_nil, ⟨by decide, by decide⟩, by decide, w_250, w_262, rfl⟩
theorem w_weight (hG : mx_ok G) (hK : mx_Nok G) (hN : 64 ≤ N) (hC : CS G Y U nE iE nD rA rS eA eS dA dS dW lc rn rg rN ps pN ce) {v0 : Int64} (hL : oL G v0 ce) {i y : Int} (i1 : -2147483648 ≤ i) (i2 : i < 2147483648) (y1 : -2147483648 ≤ y) (y2 : y < 2147483648)
    (q0 : ¬ ((0 ≤ i ∧ i < nD) ∧ 0 ≤ y ∧ y < Y) → Q (.inl (some (.int (iI 1)))) N ce bc bs)
    (r0 : ∀ ce' (j : Nat) (m : Nat), i = j → y = m → j < nD → m < Y → CS G Y U nE iE nD rA rS eA eS dA dS dW lc rn rg rN ps pN ce' → oL G (iI (dW j m)).toInt64 ce' → (∀ k, 50 ≤ k → k ≠ 63 → ce' k = ce k) → Q (.inl (some (.int (iI 0)))) N ce' bc bs) : mx_M G Y_W_weight (d + 7) (bc + 1) (bs + 6) false N ce 0 [(0, .ref (mx_B G + 0)), (1, .int (iI i)), (2, .int (iI y)), (3, .ref (mx_B G + 63))] [] Q := by
  have hC0 := hC.2.1
  obtain ⟨f0, l1, l2⟩ := hL
  refine mx_aload_n (k4 := 3) (mx_d D_W_weight 0 rfl) (by rfl) ?_
  refine mx_iconst (n := 0) (mx_d D_W_weight 1 rfl) ?_
  refine mx_aload_n (k4 := 0) (mx_d D_W_weight 2 rfl) (by rfl) ?_
  refine mx_iload_n (k4 := 1) (mx_d D_W_weight 3 rfl) (by rfl) ?_
  refine mx_iload_n (k4 := 2) (mx_d D_W_weight 4 rfl) (by rfl) ?_
  refine mx_callVH hG hK (Y' := Y_C_weight) (ci := 0) [_, _] (mx_d D_W_weight 5 rfl) in_C_weight w_424 w_425 s_C_weight (by rfl) np_C_weight (by exact Nat.le_of_ble_eq_true rfl) (by first | assumption | omega) (by first | assumption | exact va_up_self _ _ _ | (rw [va_up_ne _ _ (by omega)]; first | assumption | exact va_up_self _ _ _ | (rw [va_up_ne _ _ (by omega)]; first | assumption | exact va_up_self _ _ _ | (rw [va_up_ne _ _ (by omega)]; first | assumption | exact va_up_self _ _ _ | (rw [va_up_ne _ _ (by omega)]; first | assumption | exact va_up_self _ _ _ | (rw [va_up_ne _ _ (by omega)]; first | assumption | exact va_up_self _ _ _)))))) (by rfl) (by exact Nat.le_of_ble_eq_true rfl) (c_C_weight hG (by omega) hC i1 i2 y1 y2 (fun h0 => ⟨13, cat_weight_xI, fun q9 => ?_⟩) (fun j m h0 h1 h2 h3 => ?_))
  · refine mx_astore (i := 4) (mx_d D_W_weight 9 rfl) (by decide) ?_
    refine mx_iconst (n := 1) (mx_d D_W_weight 10 rfl) ?_
    refine mx_iret (by rfl) (mx_d D_W_weight 11 rfl) ?_
    exact q0 h0
  · refine mx_i2l (mx_d D_W_weight 6 rfl) ?_
    refine mx_last hG 2 (0) (mx_d D_W_weight 7 rfl) (by first | assumption | omega) l1 (by rfl) (by rfl) (by omega) (by omega) ?_
    refine mx_goto 17 (mx_d D_W_weight 8 rfl) (by decide) ?_
    refine mx_iconst (n := 0) (mx_d D_W_weight 12 rfl) ?_
    refine mx_iret (by rfl) (mx_d D_W_weight 13 rfl) ?_
    exact r0 _ j m h0 h1 h2 h3 (hC.fr (fun k hk => va_up_ne _ _ (by omega))) ⟨_, va_up_self _ _ _, va_up_self _ _ _⟩ (fun k hk hk2 => va_up_ne _ _ hk2)
theorem cat_total_xI : mx_cat Y_W_total 4 xI 12 := ⟨[], (0, 9, 12, 13), [], xI, rfl, fun z hz => absurd hz List.not_mem_nil, ⟨by decide, by decide⟩, by decide, w_250, w_262, rfl⟩
theorem w_total (hG : mx_ok G) (hK : mx_Nok G) (hN : 64 ≤ N) (hC : CS G Y U nE iE nD rA rS eA eS dA dS dW lc rn rg rN ps pN ce) {v0 : Int64} (hL : oL G v0 ce) {i : Int} (i1 : -2147483648 ≤ i) (i2 : i < 2147483648)
    (q0 : ¬ (0 ≤ i ∧ i < nD) → Q (.inl (some (.int (iI 1)))) N ce bc bs)
    (r0 : ∀ ce' (j : Nat), i = j → j < nD → CS G Y U nE iE nD rA rS eA eS dA dS dW lc rn rg rN ps pN ce' → oL G (iI (sumTo (dW j) Y)).toInt64 ce' → (∀ k, 50 ≤ k → k ≠ 63 → ce' k = ce k) → Q (.inl (some (.int (iI 0)))) N ce' bc bs) : mx_M G Y_W_total (d + 7) (bc + 1) (bs + 6) false N ce 0 [(0, .ref (mx_B G + 0)), (1, .int (iI i)), (2, .ref (mx_B G + 63))] [] Q := by
  have hC0 := hC.2.1
  obtain ⟨f0, l1, l2⟩ := hL
  refine mx_aload_n (k4 := 2) (mx_d D_W_total 0 rfl) (by rfl) ?_
  refine mx_iconst (n := 0) (mx_d D_W_total 1 rfl) ?_
  refine mx_aload_n (k4 := 0) (mx_d D_W_total 2 rfl) (by rfl) ?_
  refine mx_iload_n (k4 := 1) (mx_d D_W_total 3 rfl) (by rfl) ?_
  refine mx_callVH hG hK (Y' := Y_C_total) (ci := 0) [_] (mx_d D_W_total 4 rfl) in_C_total w_436 w_437 s_C_total (by rfl) np_C_total (by exact Nat.le_of_ble_eq_true rfl) (by first | assumption | omega) (by first | assumption | exact va_up_self _ _ _ | (rw [va_up_ne _ _ (by omega)]; first | assumption | exact va_up_self _ _ _ | (rw [va_up_ne _ _ (by omega)]; first | assumption | exact va_up_self _ _ _ | (rw [va_up_ne _ _ (by omega)]; first | assumption | exact va_up_self _ _ _ | (rw [va_up_ne _ _ (by omega)]; first | assumption | exact va_up_self _ _ _ | (rw [va_up_ne _ _ (by omega)]; first | assumption | exact va_up_self _ _ _)))))) (by rfl) (by exact Nat.le_of_ble_eq_true rfl) (c_C_total hG (by omega) hC i1 i2 (fun h0 => ⟨12, cat_total_xI, fun q9 => ?_⟩) (fun j h0 h1 => ?_))
  · refine mx_astore_n (k4 := 3) (mx_d D_W_total 8 rfl) (by decide) ?_
    refine mx_iconst (n := 1) (mx_d D_W_total 9 rfl) ?_
    refine mx_iret (by rfl) (mx_d D_W_total 10 rfl) ?_
    exact q0 h0
  · refine mx_i2l (mx_d D_W_total 5 rfl) ?_
    refine mx_last hG 2 (0) (mx_d D_W_total 6 rfl) (by first | assumption | omega) l1 (by rfl) (by rfl) (by omega) (by omega) ?_
    refine mx_goto 15 (mx_d D_W_total 7 rfl) (by decide) ?_
    refine mx_iconst (n := 0) (mx_d D_W_total 11 rfl) ?_
    refine mx_iret (by rfl) (mx_d D_W_total 12 rfl) ?_
    exact r0 _ j h0 h1 (hC.fr (fun k hk => va_up_ne _ _ (by omega))) ⟨_, va_up_self _ _ _, va_up_self _ _ _⟩ (fun k hk hk2 => va_up_ne _ _ hk2)
theorem cat_sum_xI : mx_cat Y_W_sum 5 xI 13 := ⟨[], (0, 10, 13, 13), [(0, 10, 17, 21)], xI, rfl, fun z hz => absurd hz List.not_mem_nil, ⟨by decide, by decide⟩, by decide, w_250, w_262, rfl⟩
theorem cat_sum_xS : mx_cat Y_W_sum 5 xS 17 := ⟨[(0, 10, 13, 13)], (0, 10, 17, 21), [], xS, rfl, List.forall_mem_cons.mpr ⟨⟨by decide, xI, w_250, by decide +kernel⟩, fun z hz => absurd hz List.not_mem_nil⟩, ⟨by decide, by decide⟩, by decide, w_351, w_358, rfl⟩
theorem w_sum (hG : mx_ok G) (hK : mx_Nok G) (hN : 64 ≤ N) (hC : CS G Y U nE iE nD rA rS eA eS dA dS dW lc rn rg rN ps pN ce) {v0 : Int64} (hL : oL G v0 ce) {a b : Int} (a1 : -2147483648 ≤ a) (a2 : a < 2147483648) (b1 : -2147483648 ≤ b) (b2 : b < 2147483648)
    (q0 : ¬ ((0 ≤ a ∧ a < nD) ∧ 0 ≤ b ∧ b < nD) → Q (.inl (some (.int (iI 1)))) N ce bc bs)
    (q1 : ((0 ≤ a ∧ a < nD) ∧ 0 ≤ b ∧ b < nD) → ¬ nD < 12 → Q (.inl (some (.int (iI 2)))) N ce bc bs)
    (r0 : ∀ ce' (i : Nat) (j : Nat), a = i → b = j → i < nD → j < nD → nD < 12 → ¬ (∀ y, y < Y → dW i y + dW j y ≤ 1000000) → CS G Y U nE iE nD rA rS eA eS dA dS dW lc rn rg rN ps pN ce' → oL G (iI (-1)).toInt64 ce' → (∀ k, 50 ≤ k → k ≠ 63 → ce' k = ce k) → Q (.inl (some (.int (iI 0)))) N ce' bc bs)
    (r1 : ∀ ce' (i : Nat) (j : Nat) (h : Nat → Int), a = i → b = j → i < nD → j < nD → nD < 12 → (∀ y, y < Y → dW i y + dW j y ≤ 1000000) → (∀ y, y < Y → h y = dW i y + dW j y) → CS G Y U nE iE (nD + 1) rA rS eA eS (va_up dA nD 0) (va_up dS nD 0) (va_up dW nD h) lc rn rg rN ps pN ce' → oL G (iI ((nD : Nat))).toInt64 ce' → (∀ k, 50 ≤ k → k ≠ 63 → ce' k = ce k) → Q (.inl (some (.int (iI 0)))) N ce' bc bs) : mx_M G Y_W_sum (d + 7) (bc + 1) (bs + 6) false N ce 0 [(0, .ref (mx_B G + 0)), (1, .int (iI a)), (2, .int (iI b)), (3, .ref (mx_B G + 63))] [] Q := by
  have hC0 := hC.2.1
  obtain ⟨f0, l1, l2⟩ := hL
  refine mx_aload_n (k4 := 3) (mx_d D_W_sum 0 rfl) (by rfl) ?_
  refine mx_iconst (n := 0) (mx_d D_W_sum 1 rfl) ?_
  refine mx_aload_n (k4 := 0) (mx_d D_W_sum 2 rfl) (by rfl) ?_
  refine mx_iload_n (k4 := 1) (mx_d D_W_sum 3 rfl) (by rfl) ?_
  refine mx_iload_n (k4 := 2) (mx_d D_W_sum 4 rfl) (by rfl) ?_
  refine mx_callVH hG hK (Y' := Y_C_sum) (ci := 0) [_, _] (mx_d D_W_sum 5 rfl) in_C_sum w_447 w_448 s_C_sum (by rfl) np_C_sum (by exact Nat.le_of_ble_eq_true rfl) (by first | assumption | omega) (by first | assumption | exact va_up_self _ _ _ | (rw [va_up_ne _ _ (by omega)]; first | assumption | exact va_up_self _ _ _ | (rw [va_up_ne _ _ (by omega)]; first | assumption | exact va_up_self _ _ _ | (rw [va_up_ne _ _ (by omega)]; first | assumption | exact va_up_self _ _ _ | (rw [va_up_ne _ _ (by omega)]; first | assumption | exact va_up_self _ _ _ | (rw [va_up_ne _ _ (by omega)]; first | assumption | exact va_up_self _ _ _)))))) (by rfl) (by exact Nat.le_of_ble_eq_true rfl) (c_C_sum hG (by omega) hC a1 a2 b1 b2 (fun h0 => ⟨13, cat_sum_xI, fun q9 => ?_⟩) (fun h0 h1 => ⟨17, cat_sum_xS, fun q9 => ?_⟩) (fun i j h0 h1 h2 h3 h4 h5 => ?_) (fun ce1 i j h h0 h1 h2 h3 h4 h5 h6 k1 k2 => ?_))
  · refine mx_astore (i := 4) (mx_d D_W_sum 9 rfl) (by decide) ?_
    refine mx_iconst (n := 1) (mx_d D_W_sum 10 rfl) ?_
    refine mx_iret (by rfl) (mx_d D_W_sum 11 rfl) ?_
    exact q0 h0
  · refine mx_astore (i := 4) (mx_d D_W_sum 12 rfl) (by decide) ?_
    refine mx_iconst (n := 2) (mx_d D_W_sum 13 rfl) ?_
    refine mx_iret (by rfl) (mx_d D_W_sum 14 rfl) ?_
    exact q1 h0 h1
  · refine mx_i2l (mx_d D_W_sum 6 rfl) ?_
    refine mx_last hG 2 (0) (mx_d D_W_sum 7 rfl) (by first | assumption | omega) l1 (by rfl) (by rfl) (by omega) (by omega) ?_
    refine mx_goto 21 (mx_d D_W_sum 8 rfl) (by decide) ?_
    refine mx_iconst (n := 0) (mx_d D_W_sum 15 rfl) ?_
    refine mx_iret (by rfl) (mx_d D_W_sum 16 rfl) ?_
    exact r0 _ i j h0 h1 h2 h3 h4 h5 (hC.fr (fun k hk => va_up_ne _ _ (by omega))) ⟨_, va_up_self _ _ _, va_up_self _ _ _⟩ (fun k hk hk2 => va_up_ne _ _ hk2)
  · refine mx_i2l (mx_d D_W_sum 6 rfl) ?_
    refine mx_last hG 2 (0) (mx_d D_W_sum 7 rfl) (by first | assumption | omega) ((k2 63 (by omega)).trans l1) (by rfl) (by rfl) (by omega) (by omega) ?_
    refine mx_goto 21 (mx_d D_W_sum 8 rfl) (by decide) ?_
    refine mx_iconst (n := 0) (mx_d D_W_sum 15 rfl) ?_
    refine mx_iret (by rfl) (mx_d D_W_sum 16 rfl) ?_
    exact r1 _ i j h h0 h1 h2 h3 h4 h5 h6 (k1.fr (fun k hk => va_up_ne _ _ (by omega))) ⟨_, va_up_self _ _ _, va_up_self _ _ _⟩ (fun k hk hk2 => (va_up_ne _ _ hk2).trans (k2 k hk))
theorem cat_mix_xI : mx_cat Y_W_mix 9 xI 17 := ⟨[], (0, 14, 17, 13), [(0, 14, 21, 15), (0, 14, 25, 21)], xI, rfl, fun z hz => absurd hz List.not_mem_nil, ⟨by decide, by decide⟩, by decide, w_250, w_262, rfl⟩
theorem cat_mix_xA : mx_cat Y_W_mix 9 xA 21 := ⟨[(0, 14, 17, 13)], (0, 14, 21, 15), [(0, 14, 25, 21)], xA, rfl, List.forall_mem_cons.mpr ⟨⟨by decide, xI, w_250, by decide +kernel⟩, fun z hz => absurd hz List.not_mem_nil⟩, ⟨by decide, by decide⟩, by decide, w_251, w_333, rfl⟩
theorem cat_mix_xS : mx_cat Y_W_mix 9 xS 25 := ⟨[(0, 14, 17, 13), (0, 14, 21, 15)], (0, 14, 25, 21), [], xS, rfl, List.forall_mem_cons.mpr ⟨⟨by decide, xI, w_250, by decide +kernel⟩, List.forall_mem_cons.mpr ⟨⟨by decide, xA, w_251, by decide +kernel⟩, fun z hz => absurd hz List.not_mem_nil⟩⟩, ⟨by decide, by decide⟩, by decide, w_351, w_358, rfl⟩
theorem w_mix (hG : mx_ok G) (hK : mx_Nok G) (hN : 64 ≤ N) (hC : CS G Y U nE iE nD rA rS eA eS dA dS dW lc rn rg rN ps pN ce) {v0 : Int64} (hL : oL G v0 ce) {a b u v : Int} (a1 : -2147483648 ≤ a) (a2 : a < 2147483648) (b1 : -2147483648 ≤ b) (b2 : b < 2147483648) (u1 : -2147483648 ≤ u) (u2 : u < 2147483648) (v1 : -2147483648 ≤ v) (v2 : v < 2147483648)
    (q0 : ¬ ((0 ≤ a ∧ a < nD) ∧ 0 ≤ b ∧ b < nD) → Q (.inl (some (.int (iI 1)))) N ce bc bs)
    (q1 : ((0 ≤ a ∧ a < nD) ∧ 0 ≤ b ∧ b < nD) → ¬ ((1 ≤ v ∧ v ≤ 1000) ∧ 0 ≤ u ∧ u ≤ v) → Q (.inl (some (.int (iI 2)))) N ce bc bs)
    (q2 : ((0 ≤ a ∧ a < nD) ∧ 0 ≤ b ∧ b < nD) → ((1 ≤ v ∧ v ≤ 1000) ∧ 0 ≤ u ∧ u ≤ v) → ¬ nD < 12 → Q (.inl (some (.int (iI 3)))) N ce bc bs)
    (r0 : ∀ ce' (i : Nat) (j : Nat) (h : Nat → Int), a = i → b = j → i < nD → j < nD → ((1 ≤ v ∧ v ≤ 1000) ∧ 0 ≤ u ∧ u ≤ v) → nD < 12 → (∀ y, y < Y → h y = (u * dW i y + (v - u) * dW j y) / v) → CS G Y U nE iE (nD + 1) rA rS eA eS (va_up dA nD 0) (va_up dS nD 0) (va_up dW nD h) lc rn rg rN ps pN ce' → oL G (iI ((nD : Nat))).toInt64 ce' → (∀ k, 50 ≤ k → k ≠ 63 → ce' k = ce k) → Q (.inl (some (.int (iI 0)))) N ce' bc bs) : mx_M G Y_W_mix (d + 7) (bc + 1) (bs + 6) false N ce 0 [(0, .ref (mx_B G + 0)), (1, .int (iI a)), (2, .int (iI b)), (3, .int (iI u)), (4, .int (iI v)), (5, .ref (mx_B G + 63))] [] Q := by
  have hC0 := hC.2.1
  obtain ⟨f0, l1, l2⟩ := hL
  refine mx_aload (i := 5) (mx_d D_W_mix 0 rfl) (by rfl) ?_
  refine mx_iconst (n := 0) (mx_d D_W_mix 1 rfl) ?_
  refine mx_aload_n (k4 := 0) (mx_d D_W_mix 2 rfl) (by rfl) ?_
  refine mx_iload_n (k4 := 1) (mx_d D_W_mix 3 rfl) (by rfl) ?_
  refine mx_iload_n (k4 := 2) (mx_d D_W_mix 4 rfl) (by rfl) ?_
  refine mx_iload_n (k4 := 3) (mx_d D_W_mix 5 rfl) (by rfl) ?_
  refine mx_iload (i := 4) (mx_d D_W_mix 6 rfl) (by rfl) ?_
  refine mx_callVH hG hK (Y' := Y_C_mix) (ci := 0) [_, _, _, _] (mx_d D_W_mix 7 rfl) in_C_mix w_464 w_465 s_C_mix (by rfl) np_C_mix (by exact Nat.le_of_ble_eq_true rfl) (by first | assumption | omega) (by first | assumption | exact va_up_self _ _ _ | (rw [va_up_ne _ _ (by omega)]; first | assumption | exact va_up_self _ _ _ | (rw [va_up_ne _ _ (by omega)]; first | assumption | exact va_up_self _ _ _ | (rw [va_up_ne _ _ (by omega)]; first | assumption | exact va_up_self _ _ _ | (rw [va_up_ne _ _ (by omega)]; first | assumption | exact va_up_self _ _ _ | (rw [va_up_ne _ _ (by omega)]; first | assumption | exact va_up_self _ _ _)))))) (by rfl) (by exact Nat.le_of_ble_eq_true rfl) (c_C_mix hG (by omega) hC a1 a2 b1 b2 u1 u2 v1 v2 (fun h0 => ⟨17, cat_mix_xI, fun q9 => ?_⟩) (fun h0 h1 => ⟨21, cat_mix_xA, fun q9 => ?_⟩) (fun h0 h1 h2 => ⟨25, cat_mix_xS, fun q9 => ?_⟩) (fun ce1 i j h h0 h1 h2 h3 h4 h5 h6 k1 k2 => ?_))
  · refine mx_astore (i := 6) (mx_d D_W_mix 11 rfl) (by decide) ?_
    refine mx_iconst (n := 1) (mx_d D_W_mix 12 rfl) ?_
    refine mx_iret (by rfl) (mx_d D_W_mix 13 rfl) ?_
    exact q0 h0
  · refine mx_astore (i := 6) (mx_d D_W_mix 14 rfl) (by decide) ?_
    refine mx_iconst (n := 2) (mx_d D_W_mix 15 rfl) ?_
    refine mx_iret (by rfl) (mx_d D_W_mix 16 rfl) ?_
    exact q1 h0 h1
  · refine mx_astore (i := 6) (mx_d D_W_mix 17 rfl) (by decide) ?_
    refine mx_iconst (n := 3) (mx_d D_W_mix 18 rfl) ?_
    refine mx_iret (by rfl) (mx_d D_W_mix 19 rfl) ?_
    exact q2 h0 h1 h2
  · refine mx_i2l (mx_d D_W_mix 8 rfl) ?_
    refine mx_last hG 2 (0) (mx_d D_W_mix 9 rfl) (by first | assumption | omega) ((k2 63 (by omega)).trans l1) (by rfl) (by rfl) (by omega) (by omega) ?_
    refine mx_goto 29 (mx_d D_W_mix 10 rfl) (by decide) ?_
    refine mx_iconst (n := 0) (mx_d D_W_mix 20 rfl) ?_
    refine mx_iret (by rfl) (mx_d D_W_mix 21 rfl) ?_
    exact r0 _ i j h h0 h1 h2 h3 h4 h5 h6 (k1.fr (fun k hk => va_up_ne _ _ (by omega))) ⟨_, va_up_self _ _ _, va_up_self _ _ _⟩ (fun k hk hk2 => (va_up_ne _ _ hk2).trans (k2 k hk))
theorem cat_joinRepeats_xI : mx_cat Y_W_joinRepeats 5 xI 13 := ⟨[], (0, 10, 13, 13), [(0, 10, 17, 21)], xI, rfl, fun z hz => absurd hz List.not_mem_nil, ⟨by decide, by decide⟩, by decide, w_250, w_262, rfl⟩
theorem cat_joinRepeats_xS : mx_cat Y_W_joinRepeats 5 xS 17 := ⟨[(0, 10, 13, 13)], (0, 10, 17, 21), [], xS, rfl, List.forall_mem_cons.mpr ⟨⟨by decide, xI, w_250, by decide +kernel⟩, fun z hz => absurd hz List.not_mem_nil⟩, ⟨by decide, by decide⟩, by decide, w_351, w_358, rfl⟩
theorem w_joinRepeats (hG : mx_ok G) (hK : mx_Nok G) (hN : 64 ≤ N) (hC : CS G Y U nE iE nD rA rS eA eS dA dS dW lc rn rg rN ps pN ce) {v0 : Int64} (hL : oL G v0 ce) {a b : Int} (a1 : -2147483648 ≤ a) (a2 : a < 2147483648) (b1 : -2147483648 ≤ b) (b2 : b < 2147483648)
    (q0 : ¬ ((0 ≤ a ∧ a < nD) ∧ 0 ≤ b ∧ b < nD) → Q (.inl (some (.int (iI 1)))) N ce bc bs)
    (q1 : ((0 ≤ a ∧ a < nD) ∧ 0 ≤ b ∧ b < nD) → ¬ nD < 12 → Q (.inl (some (.int (iI 2)))) N ce bc bs)
    (r0 : ∀ ce' (i : Nat) (j : Nat), a = i → b = j → i < nD → j < nD → nD < 12 → ¬ (0 < dS i ∧ 0 < dS j ∧ (dA i - dA j) * (dA i - dA j) ≤ 4 * (dS i * dS i + dS j * dS j)) → CS G Y U nE iE nD rA rS eA eS dA dS dW lc rn rg rN ps pN ce' → oL G (iI (-1)).toInt64 ce' → (∀ k, 50 ≤ k → k ≠ 63 → ce' k = ce k) → Q (.inl (some (.int (iI 0)))) N ce' bc bs)
    (r1 : ∀ ce' (i : Nat) (j : Nat) (h : Nat → Int) (A : Int) (r : Int), a = i → b = j → i < nD → j < nD → nD < 12 → (0 < dS i ∧ 0 < dS j ∧ (dA i - dA j) * (dA i - dA j) ≤ 4 * (dS i * dS i + dS j * dS j)) → A = (dA i * (dS j * dS j) + dA j * (dS i * dS i)) / (dS i * dS i + dS j * dS j) → isRt (dS i * dS i * (dS j * dS j) / (dS i * dS i + dS j * dS j)) r → (0 ≤ A ∧ A ≤ 3000) → (∀ y, y < Y → h y = wgt U (r * r + rS * rS) (A - rA) (eA iE y) (eS iE y)) → CS G Y U nE iE (nD + 1) rA rS eA eS (va_up dA nD A) (va_up dS nD r) (va_up dW nD h) lc rn rg rN ps pN ce' → oL G (iI ((nD : Nat))).toInt64 ce' → (∀ k, 50 ≤ k → k ≠ 63 → ce' k = ce k) → Q (.inl (some (.int (iI 0)))) N ce' bc bs) : mx_M G Y_W_joinRepeats (d + 7) (bc + 1) (bs + 6) false N ce 0 [(0, .ref (mx_B G + 0)), (1, .int (iI a)), (2, .int (iI b)), (3, .ref (mx_B G + 63))] [] Q := by
  have hC0 := hC.2.1
  obtain ⟨f0, l1, l2⟩ := hL
  refine mx_aload_n (k4 := 3) (mx_d D_W_joinRepeats 0 rfl) (by rfl) ?_
  refine mx_iconst (n := 0) (mx_d D_W_joinRepeats 1 rfl) ?_
  refine mx_aload_n (k4 := 0) (mx_d D_W_joinRepeats 2 rfl) (by rfl) ?_
  refine mx_iload_n (k4 := 1) (mx_d D_W_joinRepeats 3 rfl) (by rfl) ?_
  refine mx_iload_n (k4 := 2) (mx_d D_W_joinRepeats 4 rfl) (by rfl) ?_
  refine mx_callVH hG hK (Y' := Y_C_joinRepeats) (ci := 0) [_, _] (mx_d D_W_joinRepeats 5 rfl) in_C_joinRepeats w_480 w_481 s_C_joinRepeats (by rfl) np_C_joinRepeats (by exact Nat.le_of_ble_eq_true rfl) (by first | assumption | omega) (by first | assumption | exact va_up_self _ _ _ | (rw [va_up_ne _ _ (by omega)]; first | assumption | exact va_up_self _ _ _ | (rw [va_up_ne _ _ (by omega)]; first | assumption | exact va_up_self _ _ _ | (rw [va_up_ne _ _ (by omega)]; first | assumption | exact va_up_self _ _ _ | (rw [va_up_ne _ _ (by omega)]; first | assumption | exact va_up_self _ _ _ | (rw [va_up_ne _ _ (by omega)]; first | assumption | exact va_up_self _ _ _)))))) (by rfl) (by exact Nat.le_of_ble_eq_true rfl) (c_C_join hG (by omega) hC a1 a2 b1 b2 (fun h0 => ⟨13, cat_joinRepeats_xI, fun q9 => ?_⟩) (fun h0 h1 => ⟨17, cat_joinRepeats_xS, fun q9 => ?_⟩) (fun i j h0 h1 h2 h3 h4 h5 => ?_) (fun ce1 i j h A r h0 h1 h2 h3 h4 h5 h6 h7 h8 h9 k1 k2 => ?_))
  · refine mx_astore (i := 4) (mx_d D_W_joinRepeats 9 rfl) (by decide) ?_
    refine mx_iconst (n := 1) (mx_d D_W_joinRepeats 10 rfl) ?_
    refine mx_iret (by rfl) (mx_d D_W_joinRepeats 11 rfl) ?_
    exact q0 h0
  · refine mx_astore (i := 4) (mx_d D_W_joinRepeats 12 rfl) (by decide) ?_
    refine mx_iconst (n := 2) (mx_d D_W_joinRepeats 13 rfl) ?_
    refine mx_iret (by rfl) (mx_d D_W_joinRepeats 14 rfl) ?_
    exact q1 h0 h1
  · refine mx_i2l (mx_d D_W_joinRepeats 6 rfl) ?_
    refine mx_last hG 2 (0) (mx_d D_W_joinRepeats 7 rfl) (by first | assumption | omega) l1 (by rfl) (by rfl) (by omega) (by omega) ?_
    refine mx_goto 21 (mx_d D_W_joinRepeats 8 rfl) (by decide) ?_
    refine mx_iconst (n := 0) (mx_d D_W_joinRepeats 15 rfl) ?_
    refine mx_iret (by rfl) (mx_d D_W_joinRepeats 16 rfl) ?_
    exact r0 _ i j h0 h1 h2 h3 h4 h5 (hC.fr (fun k hk => va_up_ne _ _ (by omega))) ⟨_, va_up_self _ _ _, va_up_self _ _ _⟩ (fun k hk hk2 => va_up_ne _ _ hk2)
  · refine mx_i2l (mx_d D_W_joinRepeats 6 rfl) ?_
    refine mx_last hG 2 (0) (mx_d D_W_joinRepeats 7 rfl) (by first | assumption | omega) ((k2 63 (by omega)).trans l1) (by rfl) (by rfl) (by omega) (by omega) ?_
    refine mx_goto 21 (mx_d D_W_joinRepeats 8 rfl) (by decide) ?_
    refine mx_iconst (n := 0) (mx_d D_W_joinRepeats 15 rfl) ?_
    refine mx_iret (by rfl) (mx_d D_W_joinRepeats 16 rfl) ?_
    exact r1 _ i j h A r h0 h1 h2 h3 h4 h5 h6 h7 h8 h9 (k1.fr (fun k hk => va_up_ne _ _ (by omega))) ⟨_, va_up_self _ _ _, va_up_self _ _ _⟩ (fun k hk hk2 => (va_up_ne _ _ hk2).trans (k2 k hk))
theorem cat_least_xI : mx_cat Y_W_least 7 xI 15 := ⟨[], (0, 12, 15, 13), [(0, 12, 19, 15)], xI, rfl, fun z hz => absurd hz List.not_mem_nil, ⟨by decide, by decide⟩, by decide, w_250, w_262, rfl⟩
theorem cat_least_xA : mx_cat Y_W_least 7 xA 19 := ⟨[(0, 12, 15, 13)], (0, 12, 19, 15), [], xA, rfl, List.forall_mem_cons.mpr ⟨⟨by decide, xI, w_250, by decide +kernel⟩, fun z hz => absurd hz List.not_mem_nil⟩, ⟨by decide, by decide⟩, by decide, w_251, w_333, rfl⟩
theorem w_least (hG : mx_ok G) (hK : mx_Nok G) (hN : 64 ≤ N) (hC : CS G Y U nE iE nD rA rS eA eS dA dS dW lc rn rg rN ps pN ce) {v0 : Int64} (hL : oL G v0 ce) {i u v : Int} (i1 : -2147483648 ≤ i) (i2 : i < 2147483648) (u1 : -2147483648 ≤ u) (u2 : u < 2147483648) (v1 : -2147483648 ≤ v) (v2 : v < 2147483648)
    (q0 : ¬ (0 ≤ i ∧ i < nD) → Q (.inl (some (.int (iI 1)))) N ce bc bs)
    (q1 : (0 ≤ i ∧ i < nD) → ¬ (1 ≤ u ∧ u ≤ v ∧ v ≤ 1000) → Q (.inl (some (.int (iI 2)))) N ce bc bs)
    (r0 : ∀ ce' (j : Nat) (lc' : Nat → Bool), i = j → j < nD → (1 ≤ u ∧ u ≤ v ∧ v ≤ 1000) → (∀ y, y < Y → lc' y = need (dW j) Y u v y) → CS G Y U nE iE nD rA rS eA eS dA dS dW (lc') rn rg rN ps pN ce' → oL G (iI ((bgN lc' Y : Nat))).toInt64 ce' → (∀ k, 50 ≤ k → k ≠ 63 → ce' k = ce k) → Q (.inl (some (.int (iI 0)))) N ce' bc bs) : mx_M G Y_W_least (d + 7) (bc + 1) (bs + 6) false N ce 0 [(0, .ref (mx_B G + 0)), (1, .int (iI i)), (2, .int (iI u)), (3, .int (iI v)), (4, .ref (mx_B G + 63))] [] Q := by
  have hC0 := hC.2.1
  obtain ⟨f0, l1, l2⟩ := hL
  refine mx_aload (i := 4) (mx_d D_W_least 0 rfl) (by rfl) ?_
  refine mx_iconst (n := 0) (mx_d D_W_least 1 rfl) ?_
  refine mx_aload_n (k4 := 0) (mx_d D_W_least 2 rfl) (by rfl) ?_
  refine mx_iload_n (k4 := 1) (mx_d D_W_least 3 rfl) (by rfl) ?_
  refine mx_iload_n (k4 := 2) (mx_d D_W_least 4 rfl) (by rfl) ?_
  refine mx_iload_n (k4 := 3) (mx_d D_W_least 5 rfl) (by rfl) ?_
  refine mx_callVH hG hK (Y' := Y_C_least) (ci := 0) [_, _, _] (mx_d D_W_least 6 rfl) in_C_least w_494 w_495 s_C_least (by rfl) np_C_least (by exact Nat.le_of_ble_eq_true rfl) (by first | assumption | omega) (by first | assumption | exact va_up_self _ _ _ | (rw [va_up_ne _ _ (by omega)]; first | assumption | exact va_up_self _ _ _ | (rw [va_up_ne _ _ (by omega)]; first | assumption | exact va_up_self _ _ _ | (rw [va_up_ne _ _ (by omega)]; first | assumption | exact va_up_self _ _ _ | (rw [va_up_ne _ _ (by omega)]; first | assumption | exact va_up_self _ _ _ | (rw [va_up_ne _ _ (by omega)]; first | assumption | exact va_up_self _ _ _)))))) (by rfl) (by exact Nat.le_of_ble_eq_true rfl) (c_C_least hG (by omega) hC i1 i2 u1 u2 v1 v2 (fun h0 => ⟨15, cat_least_xI, fun q9 => ?_⟩) (fun h0 h1 => ⟨19, cat_least_xA, fun q9 => ?_⟩) (fun ce1 j lc' h0 h1 h2 h3 k1 k2 => ?_))
  · refine mx_astore (i := 5) (mx_d D_W_least 10 rfl) (by decide) ?_
    refine mx_iconst (n := 1) (mx_d D_W_least 11 rfl) ?_
    refine mx_iret (by rfl) (mx_d D_W_least 12 rfl) ?_
    exact q0 h0
  · refine mx_astore (i := 5) (mx_d D_W_least 13 rfl) (by decide) ?_
    refine mx_iconst (n := 2) (mx_d D_W_least 14 rfl) ?_
    refine mx_iret (by rfl) (mx_d D_W_least 15 rfl) ?_
    exact q1 h0 h1
  · refine mx_i2l (mx_d D_W_least 7 rfl) ?_
    refine mx_last hG 2 (0) (mx_d D_W_least 8 rfl) (by first | assumption | omega) ((k2 63 (by omega)).trans l1) (by rfl) (by rfl) (by omega) (by omega) ?_
    refine mx_goto 23 (mx_d D_W_least 9 rfl) (by decide) ?_
    refine mx_iconst (n := 0) (mx_d D_W_least 16 rfl) ?_
    refine mx_iret (by rfl) (mx_d D_W_least 17 rfl) ?_
    exact r0 _ j lc' h0 h1 h2 h3 (k1.fr (fun k hk => va_up_ne _ _ (by omega))) ⟨_, va_up_self _ _ _, va_up_self _ _ _⟩ (fun k hk hk2 => (va_up_ne _ _ hk2).trans (k2 k hk))
theorem cat_span_xI : mx_cat Y_W_span 5 xI 13 := ⟨[], (0, 10, 13, 13), [], xI, rfl, fun z hz => absurd hz List.not_mem_nil, ⟨by decide, by decide⟩, by decide, w_250, w_262, rfl⟩
theorem w_span (hG : mx_ok G) (hK : mx_Nok G) (hN : 64 ≤ N) (hC : CS G Y U nE iE nD rA rS eA eS dA dS dW lc rn rg rN ps pN ce) {v0 : Int64} (hL : oL G v0 ce) {k z : Int} (k1 : -2147483648 ≤ k) (k2 : k < 2147483648) (z1 : -2147483648 ≤ z) (z2 : z < 2147483648)
    (q0 : ¬ ((0 ≤ k ∧ k < (bgN lc Y : Nat)) ∧ 0 ≤ z ∧ z ≤ 1) → Q (.inl (some (.int (iI 1)))) N ce bc bs)
    (r0 : ∀ ce' (j : Nat) (F : Nat) (L : Nat), k = j → j < bgN lc Y → spOf lc Y j F L → (z = 0 ∨ z = 1) → CS G Y U nE iE nD rA rS eA eS dA dS dW lc rn rg rN ps pN ce' → oL G (iI (if z = 0 then (F : Int) else (L : Int))).toInt64 ce' → (∀ k, 50 ≤ k → k ≠ 63 → ce' k = ce k) → Q (.inl (some (.int (iI 0)))) N ce' bc bs) : mx_M G Y_W_span (d + 7) (bc + 1) (bs + 6) false N ce 0 [(0, .ref (mx_B G + 0)), (1, .int (iI k)), (2, .int (iI z)), (3, .ref (mx_B G + 63))] [] Q := by
  have hC0 := hC.2.1
  obtain ⟨f0, l1, l2⟩ := hL
  refine mx_aload_n (k4 := 3) (mx_d D_W_span 0 rfl) (by rfl) ?_
  refine mx_iconst (n := 0) (mx_d D_W_span 1 rfl) ?_
  refine mx_aload_n (k4 := 0) (mx_d D_W_span 2 rfl) (by rfl) ?_
  refine mx_iload_n (k4 := 1) (mx_d D_W_span 3 rfl) (by rfl) ?_
  refine mx_iload_n (k4 := 2) (mx_d D_W_span 4 rfl) (by rfl) ?_
  refine mx_callVH hG hK (Y' := Y_C_span) (ci := 0) [_, _] (mx_d D_W_span 5 rfl) in_C_span w_518 w_519 s_C_span (by rfl) np_C_span (by exact Nat.le_of_ble_eq_true rfl) (by first | assumption | omega) (by first | assumption | exact va_up_self _ _ _ | (rw [va_up_ne _ _ (by omega)]; first | assumption | exact va_up_self _ _ _ | (rw [va_up_ne _ _ (by omega)]; first | assumption | exact va_up_self _ _ _ | (rw [va_up_ne _ _ (by omega)]; first | assumption | exact va_up_self _ _ _ | (rw [va_up_ne _ _ (by omega)]; first | assumption | exact va_up_self _ _ _ | (rw [va_up_ne _ _ (by omega)]; first | assumption | exact va_up_self _ _ _)))))) (by rfl) (by exact Nat.le_of_ble_eq_true rfl) (c_C_span hG (by omega) hC k1 k2 z1 z2 (fun h0 => ⟨13, cat_span_xI, fun q9 => ?_⟩) (fun j F L h0 h1 h2 h3 => ?_))
  · refine mx_astore (i := 4) (mx_d D_W_span 9 rfl) (by decide) ?_
    refine mx_iconst (n := 1) (mx_d D_W_span 10 rfl) ?_
    refine mx_iret (by rfl) (mx_d D_W_span 11 rfl) ?_
    exact q0 h0
  · refine mx_i2l (mx_d D_W_span 6 rfl) ?_
    refine mx_last hG 2 (0) (mx_d D_W_span 7 rfl) (by first | assumption | omega) l1 (by rfl) (by rfl) (by omega) (by omega) ?_
    refine mx_goto 17 (mx_d D_W_span 8 rfl) (by decide) ?_
    refine mx_iconst (n := 0) (mx_d D_W_span 12 rfl) ?_
    refine mx_iret (by rfl) (mx_d D_W_span 13 rfl) ?_
    exact r0 _ j F L h0 h1 h2 h3 (hC.fr (fun k hk => va_up_ne _ _ (by omega))) ⟨_, va_up_self _ _ _, va_up_self _ _ _⟩ (fun k hk hk2 => va_up_ne _ _ hk2)
theorem cat_gap_xI : mx_cat Y_W_gap 5 xI 13 := ⟨[], (0, 10, 13, 13), [(0, 10, 17, 15), (0, 10, 21, 21)], xI, rfl, fun z hz => absurd hz List.not_mem_nil, ⟨by decide, by decide⟩, by decide, w_250, w_262, rfl⟩
theorem cat_gap_xA : mx_cat Y_W_gap 5 xA 17 := ⟨[(0, 10, 13, 13)], (0, 10, 17, 15), [(0, 10, 21, 21)], xA, rfl, List.forall_mem_cons.mpr ⟨⟨by decide, xI, w_250, by decide +kernel⟩, fun z hz => absurd hz List.not_mem_nil⟩, ⟨by decide, by decide⟩, by decide, w_251, w_333, rfl⟩
theorem cat_gap_xS : mx_cat Y_W_gap 5 xS 21 := ⟨[(0, 10, 13, 13), (0, 10, 17, 15)], (0, 10, 21, 21), [], xS, rfl, List.forall_mem_cons.mpr ⟨⟨by decide, xI, w_250, by decide +kernel⟩, List.forall_mem_cons.mpr ⟨⟨by decide, xA, w_251, by decide +kernel⟩, fun z hz => absurd hz List.not_mem_nil⟩⟩, ⟨by decide, by decide⟩, by decide, w_351, w_358, rfl⟩
theorem w_gap (hG : mx_ok G) (hK : mx_Nok G) (hN : 64 ≤ N) (hC : CS G Y U nE iE nD rA rS eA eS dA dS dW lc rn rg rN ps pN ce) {v0 : Int64} (hL : oL G v0 ce) {i z : Int} (i1 : -2147483648 ≤ i) (i2 : i < 2147483648) (z1 : -2147483648 ≤ z) (z2 : z < 2147483648)
    (q0 : ¬ (0 ≤ i ∧ i < nD) → Q (.inl (some (.int (iI 1)))) N ce bc bs)
    (q1 : (0 ≤ i ∧ i < nD) → ¬ (0 ≤ z ∧ z ≤ 59) → Q (.inl (some (.int (iI 2)))) N ce bc bs)
    (q2 : (0 ≤ i ∧ i < nD) → (0 ≤ z ∧ z ≤ 59) → ¬ rN < 8 → Q (.inl (some (.int (iI 3)))) N ce bc bs)
    (r0 : ∀ ce' (j : Nat) (g : Nat), i = j → z = g → j < nD → g ≤ 59 → rN < 8 → CS G Y U nE iE nD rA rS eA eS dA dS dW lc (va_up rn rN j) (va_up rg rN g) (rN + 1) ps pN ce' → oL G (iI (((rN + 1 : Nat) : Int))).toInt64 ce' → (∀ k, 50 ≤ k → k ≠ 63 → ce' k = ce k) → Q (.inl (some (.int (iI 0)))) N ce' bc bs) : mx_M G Y_W_gap (d + 7) (bc + 1) (bs + 6) false N ce 0 [(0, .ref (mx_B G + 0)), (1, .int (iI i)), (2, .int (iI z)), (3, .ref (mx_B G + 63))] [] Q := by
  have hC0 := hC.2.1
  obtain ⟨f0, l1, l2⟩ := hL
  refine mx_aload_n (k4 := 3) (mx_d D_W_gap 0 rfl) (by rfl) ?_
  refine mx_iconst (n := 0) (mx_d D_W_gap 1 rfl) ?_
  refine mx_aload_n (k4 := 0) (mx_d D_W_gap 2 rfl) (by rfl) ?_
  refine mx_iload_n (k4 := 1) (mx_d D_W_gap 3 rfl) (by rfl) ?_
  refine mx_iload_n (k4 := 2) (mx_d D_W_gap 4 rfl) (by rfl) ?_
  refine mx_callVH hG hK (Y' := Y_C_gap) (ci := 0) [_, _] (mx_d D_W_gap 5 rfl) in_C_gap w_527 w_528 s_C_gap (by rfl) np_C_gap (by exact Nat.le_of_ble_eq_true rfl) (by first | assumption | omega) (by first | assumption | exact va_up_self _ _ _ | (rw [va_up_ne _ _ (by omega)]; first | assumption | exact va_up_self _ _ _ | (rw [va_up_ne _ _ (by omega)]; first | assumption | exact va_up_self _ _ _ | (rw [va_up_ne _ _ (by omega)]; first | assumption | exact va_up_self _ _ _ | (rw [va_up_ne _ _ (by omega)]; first | assumption | exact va_up_self _ _ _ | (rw [va_up_ne _ _ (by omega)]; first | assumption | exact va_up_self _ _ _)))))) (by rfl) (by exact Nat.le_of_ble_eq_true rfl) (c_C_gap hG (by omega) hC i1 i2 z1 z2 (fun h0 => ⟨13, cat_gap_xI, fun q9 => ?_⟩) (fun h0 h1 => ⟨17, cat_gap_xA, fun q9 => ?_⟩) (fun h0 h1 h2 => ⟨21, cat_gap_xS, fun q9 => ?_⟩) (fun ce1 j g h0 h1 h2 h3 h4 k1 k2 => ?_))
  · refine mx_astore (i := 4) (mx_d D_W_gap 9 rfl) (by decide) ?_
    refine mx_iconst (n := 1) (mx_d D_W_gap 10 rfl) ?_
    refine mx_iret (by rfl) (mx_d D_W_gap 11 rfl) ?_
    exact q0 h0
  · refine mx_astore (i := 4) (mx_d D_W_gap 12 rfl) (by decide) ?_
    refine mx_iconst (n := 2) (mx_d D_W_gap 13 rfl) ?_
    refine mx_iret (by rfl) (mx_d D_W_gap 14 rfl) ?_
    exact q1 h0 h1
  · refine mx_astore (i := 4) (mx_d D_W_gap 15 rfl) (by decide) ?_
    refine mx_iconst (n := 3) (mx_d D_W_gap 16 rfl) ?_
    refine mx_iret (by rfl) (mx_d D_W_gap 17 rfl) ?_
    exact q2 h0 h1 h2
  · refine mx_i2l (mx_d D_W_gap 6 rfl) ?_
    refine mx_last hG 2 (0) (mx_d D_W_gap 7 rfl) (by first | assumption | omega) ((k2 63 (by omega)).trans l1) (by rfl) (by rfl) (by omega) (by omega) ?_
    refine mx_goto 25 (mx_d D_W_gap 8 rfl) (by decide) ?_
    refine mx_iconst (n := 0) (mx_d D_W_gap 18 rfl) ?_
    refine mx_iret (by rfl) (mx_d D_W_gap 19 rfl) ?_
    exact r0 _ j g h0 h1 h2 h3 h4 (k1.fr (fun k hk => va_up_ne _ _ (by omega))) ⟨_, va_up_self _ _ _, va_up_self _ _ _⟩ (fun k hk hk2 => (va_up_ne _ _ hk2).trans (k2 k hk))
theorem cat_slid_xI : mx_cat Y_W_slid 4 xI 12 := ⟨[], (0, 9, 12, 13), [], xI, rfl, fun z hz => absurd hz List.not_mem_nil, ⟨by decide, by decide⟩, by decide, w_250, w_262, rfl⟩
theorem w_slid (hG : mx_ok G) (hK : mx_Nok G) (hN : 64 ≤ N) (hC : CS G Y U nE iE nD rA rS eA eS dA dS dW lc rn rg rN ps pN ce) {v0 : Int64} (hL : oL G v0 ce) {y : Int} (y1 : -2147483648 ≤ y) (y2 : y < 2147483648)
    (q0 : ¬ (0 ≤ y ∧ y < Y) → Q (.inl (some (.int (iI 1)))) N ce bc bs)
    (r0 : ∀ ce' (m : Nat), y = m → m < Y → CS G Y U nE iE nD rA rS eA eS dA dS dW lc rn rg rN ps pN ce' → oL G (iI (slTo Y dW rn rg m rN)).toInt64 ce' → (∀ k, 50 ≤ k → k ≠ 63 → ce' k = ce k) → Q (.inl (some (.int (iI 0)))) N ce' bc bs) : mx_M G Y_W_slid (d + 7) (bc + 1) (bs + 6) false N ce 0 [(0, .ref (mx_B G + 0)), (1, .int (iI y)), (2, .ref (mx_B G + 63))] [] Q := by
  have hC0 := hC.2.1
  obtain ⟨f0, l1, l2⟩ := hL
  refine mx_aload_n (k4 := 2) (mx_d D_W_slid 0 rfl) (by rfl) ?_
  refine mx_iconst (n := 0) (mx_d D_W_slid 1 rfl) ?_
  refine mx_aload_n (k4 := 0) (mx_d D_W_slid 2 rfl) (by rfl) ?_
  refine mx_iload_n (k4 := 1) (mx_d D_W_slid 3 rfl) (by rfl) ?_
  refine mx_callVH hG hK (Y' := Y_C_slid) (ci := 0) [_] (mx_d D_W_slid 4 rfl) in_C_slid w_540 w_541 s_C_slid (by rfl) np_C_slid (by exact Nat.le_of_ble_eq_true rfl) (by first | assumption | omega) (by first | assumption | exact va_up_self _ _ _ | (rw [va_up_ne _ _ (by omega)]; first | assumption | exact va_up_self _ _ _ | (rw [va_up_ne _ _ (by omega)]; first | assumption | exact va_up_self _ _ _ | (rw [va_up_ne _ _ (by omega)]; first | assumption | exact va_up_self _ _ _ | (rw [va_up_ne _ _ (by omega)]; first | assumption | exact va_up_self _ _ _ | (rw [va_up_ne _ _ (by omega)]; first | assumption | exact va_up_self _ _ _)))))) (by rfl) (by exact Nat.le_of_ble_eq_true rfl) (c_C_slid hG (by omega) hC y1 y2 (fun h0 => ⟨12, cat_slid_xI, fun q9 => ?_⟩) (fun m h0 h1 => ?_))
  · refine mx_astore_n (k4 := 3) (mx_d D_W_slid 8 rfl) (by decide) ?_
    refine mx_iconst (n := 1) (mx_d D_W_slid 9 rfl) ?_
    refine mx_iret (by rfl) (mx_d D_W_slid 10 rfl) ?_
    exact q0 h0
  · refine mx_i2l (mx_d D_W_slid 5 rfl) ?_
    refine mx_last hG 2 (0) (mx_d D_W_slid 6 rfl) (by first | assumption | omega) l1 (by rfl) (by rfl) (by omega) (by omega) ?_
    refine mx_goto 15 (mx_d D_W_slid 7 rfl) (by decide) ?_
    refine mx_iconst (n := 0) (mx_d D_W_slid 11 rfl) ?_
    refine mx_iret (by rfl) (mx_d D_W_slid 12 rfl) ?_
    exact r0 _ m h0 h1 (hC.fr (fun k hk => va_up_ne _ _ (by omega))) ⟨_, va_up_self _ _ _, va_up_self _ _ _⟩ (fun k hk hk2 => va_up_ne _ _ hk2)
theorem cat_unit_xA : mx_cat Y_W_unit 5 xA 13 := ⟨[], (0, 10, 13, 15), [(0, 10, 17, 21)], xA, rfl, fun z hz => absurd hz List.not_mem_nil, ⟨by decide, by decide⟩, by decide, w_251, w_333, rfl⟩
theorem cat_unit_xS : mx_cat Y_W_unit 5 xS 17 := ⟨[(0, 10, 13, 15)], (0, 10, 17, 21), [], xS, rfl, List.forall_mem_cons.mpr ⟨⟨by decide, xA, w_251, by decide +kernel⟩, fun z hz => absurd hz List.not_mem_nil⟩, ⟨by decide, by decide⟩, by decide, w_351, w_358, rfl⟩
theorem w_unit (hG : mx_ok G) (hK : mx_Nok G) (hN : 64 ≤ N) (hC : CS G Y U nE iE nD rA rS eA eS dA dS dW lc rn rg rN ps pN ce) {v0 : Int64} (hL : oL G v0 ce) {x z : Int32}
    (q0 : ¬ (sgOk x 4 = true ∧ sgOk z 4 = true) → Q (.inl (some (.int (iI 1)))) N ce bc bs)
    (q1 : (sgOk x 4 = true ∧ sgOk z 4 = true) → ¬ pN + sgN x 4 + sgN z 4 ≤ 100 → Q (.inl (some (.int (iI 2)))) N ce bc bs)
    (r0 : ∀ ce' , (sgOk x 4 = true ∧ sgOk z 4 = true) → pN + sgN x 4 + sgN z 4 ≤ 100 → CS G Y U nE iE nD rA rS eA eS dA dS dW lc rn rg rN (sgP z (sgP x ps pN 4) (pN + sgN x 4) 4) (pN + sgN x 4 + sgN z 4) ce' → oL G (iI (((pN + sgN x 4 + sgN z 4 : Nat) : Int))).toInt64 ce' → (∀ k, 50 ≤ k → k ≠ 63 → ce' k = ce k) → Q (.inl (some (.int (iI 0)))) N ce' bc bs) : mx_M G Y_W_unit (d + 7) (bc + 1) (bs + 6) false N ce 0 [(0, .ref (mx_B G + 0)), (1, .int x), (2, .int z), (3, .ref (mx_B G + 63))] [] Q := by
  have hC0 := hC.2.1
  obtain ⟨f0, l1, l2⟩ := hL
  refine mx_aload_n (k4 := 3) (mx_d D_W_unit 0 rfl) (by rfl) ?_
  refine mx_iconst (n := 0) (mx_d D_W_unit 1 rfl) ?_
  refine mx_aload_n (k4 := 0) (mx_d D_W_unit 2 rfl) (by rfl) ?_
  refine mx_iload_n (k4 := 1) (mx_d D_W_unit 3 rfl) (by rfl) ?_
  refine mx_iload_n (k4 := 2) (mx_d D_W_unit 4 rfl) (by rfl) ?_
  refine mx_callVH hG hK (Y' := Y_C_unit) (ci := 0) [_, _] (mx_d D_W_unit 5 rfl) in_C_unit w_547 w_548 s_C_unit (by rfl) np_C_unit (by exact Nat.le_of_ble_eq_true rfl) (by first | assumption | omega) (by first | assumption | exact va_up_self _ _ _ | (rw [va_up_ne _ _ (by omega)]; first | assumption | exact va_up_self _ _ _ | (rw [va_up_ne _ _ (by omega)]; first | assumption | exact va_up_self _ _ _ | (rw [va_up_ne _ _ (by omega)]; first | assumption | exact va_up_self _ _ _ | (rw [va_up_ne _ _ (by omega)]; first | assumption | exact va_up_self _ _ _ | (rw [va_up_ne _ _ (by omega)]; first | assumption | exact va_up_self _ _ _)))))) (by rfl) (by exact Nat.le_of_ble_eq_true rfl) (c_C_unit hG (by omega) hC  (fun h0 => ⟨13, cat_unit_xA, fun q9 => ?_⟩) (fun h0 h1 => ⟨17, cat_unit_xS, fun q9 => ?_⟩) (fun ce1  h0 h1 k1 k2 => ?_))
  · refine mx_astore (i := 4) (mx_d D_W_unit 9 rfl) (by decide) ?_
    refine mx_iconst (n := 1) (mx_d D_W_unit 10 rfl) ?_
    refine mx_iret (by rfl) (mx_d D_W_unit 11 rfl) ?_
    exact q0 h0
  · refine mx_astore (i := 4) (mx_d D_W_unit 12 rfl) (by decide) ?_
    refine mx_iconst (n := 2) (mx_d D_W_unit 13 rfl) ?_
    refine mx_iret (by rfl) (mx_d D_W_unit 14 rfl) ?_
    exact q1 h0 h1
  · refine mx_i2l (mx_d D_W_unit 6 rfl) ?_
    refine mx_last hG 2 (0) (mx_d D_W_unit 7 rfl) (by first | assumption | omega) ((k2 63 (by omega)).trans l1) (by rfl) (by rfl) (by omega) (by omega) ?_
    refine mx_goto 21 (mx_d D_W_unit 8 rfl) (by decide) ?_
    refine mx_iconst (n := 0) (mx_d D_W_unit 15 rfl) ?_
    refine mx_iret (by rfl) (mx_d D_W_unit 16 rfl) ?_
    exact r0 _  h0 h1 (k1.fr (fun k hk => va_up_ne _ _ (by omega))) ⟨_, va_up_self _ _ _, va_up_self _ _ _⟩ (fun k hk hk2 => (va_up_ne _ _ hk2).trans (k2 k hk))
theorem cat_count_xI : mx_cat Y_W_count 4 xI 12 := ⟨[], (0, 9, 12, 13), [], xI, rfl, fun z hz => absurd hz List.not_mem_nil, ⟨by decide, by decide⟩, by decide, w_250, w_262, rfl⟩
theorem w_count (hG : mx_ok G) (hK : mx_Nok G) (hN : 64 ≤ N) (hC : CS G Y U nE iE nD rA rS eA eS dA dS dW lc rn rg rN ps pN ce) {v0 : Int64} (hL : oL G v0 ce) {w : Int} (w1 : -2147483648 ≤ w) (w2 : w < 2147483648)
    (q0 : ¬ (0 ≤ w ∧ w ≤ 6) → Q (.inl (some (.int (iI 1)))) N ce bc bs)
    (r0 : ∀ ce' (m : Nat), w = m → m ≤ 6 → CS G Y U nE iE nD rA rS eA eS dA dS dW lc rn rg rN ps pN ce' → oL G (iI ((cntV Y nE iE nD rN pN (rwN (eS iE) Y) m : Nat))).toInt64 ce' → (∀ k, 50 ≤ k → k ≠ 63 → ce' k = ce k) → Q (.inl (some (.int (iI 0)))) N ce' bc bs) : mx_M G Y_W_count (d + 7) (bc + 1) (bs + 6) false N ce 0 [(0, .ref (mx_B G + 0)), (1, .int (iI w)), (2, .ref (mx_B G + 63))] [] Q := by
  have hC0 := hC.2.1
  obtain ⟨f0, l1, l2⟩ := hL
  refine mx_aload_n (k4 := 2) (mx_d D_W_count 0 rfl) (by rfl) ?_
  refine mx_iconst (n := 0) (mx_d D_W_count 1 rfl) ?_
  refine mx_aload_n (k4 := 0) (mx_d D_W_count 2 rfl) (by rfl) ?_
  refine mx_iload_n (k4 := 1) (mx_d D_W_count 3 rfl) (by rfl) ?_
  refine mx_callVH hG hK (Y' := Y_C_count) (ci := 0) [_] (mx_d D_W_count 4 rfl) in_C_count w_569 w_570 s_C_count (by rfl) np_C_count (by exact Nat.le_of_ble_eq_true rfl) (by first | assumption | omega) (by first | assumption | exact va_up_self _ _ _ | (rw [va_up_ne _ _ (by omega)]; first | assumption | exact va_up_self _ _ _ | (rw [va_up_ne _ _ (by omega)]; first | assumption | exact va_up_self _ _ _ | (rw [va_up_ne _ _ (by omega)]; first | assumption | exact va_up_self _ _ _ | (rw [va_up_ne _ _ (by omega)]; first | assumption | exact va_up_self _ _ _ | (rw [va_up_ne _ _ (by omega)]; first | assumption | exact va_up_self _ _ _)))))) (by rfl) (by exact Nat.le_of_ble_eq_true rfl) (c_C_count hG (by omega) hC w1 w2 (fun h0 => ⟨12, cat_count_xI, fun q9 => ?_⟩) (fun m h0 h1 => ?_))
  · refine mx_astore_n (k4 := 3) (mx_d D_W_count 8 rfl) (by decide) ?_
    refine mx_iconst (n := 1) (mx_d D_W_count 9 rfl) ?_
    refine mx_iret (by rfl) (mx_d D_W_count 10 rfl) ?_
    exact q0 h0
  · refine mx_i2l (mx_d D_W_count 5 rfl) ?_
    refine mx_last hG 2 (0) (mx_d D_W_count 6 rfl) (by first | assumption | omega) l1 (by rfl) (by rfl) (by omega) (by omega) ?_
    refine mx_goto 15 (mx_d D_W_count 7 rfl) (by decide) ?_
    refine mx_iconst (n := 0) (mx_d D_W_count 11 rfl) ?_
    refine mx_iret (by rfl) (mx_d D_W_count 12 rfl) ?_
    exact r0 _ m h0 h1 (hC.fr (fun k hk => va_up_ne _ _ (by omega))) ⟨_, va_up_self _ _ _, va_up_self _ _ _⟩ (fun k hk hk2 => va_up_ne _ _ hk2)
end WR
