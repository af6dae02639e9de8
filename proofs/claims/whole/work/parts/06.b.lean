/-! the reference: measure, isNeeded, begins, spans, signs, plain, push -/
theorem fW_more {Y nD : Nat} {fW f' : Nat → Int} {dW : Nat → Nat → Int} {h : Nat → Int} (hY : Y ≤ 60) (hf : ∀ i, i < nD → ∀ y, y < Y → fW (60 * i + y) = dW i y) (h1 : ∀ k, k < 60 * nD → f' k = fW k) (h2 : ∀ j, j < Y → f' (60 * nD + j) = h j) : ∀ i, i < nD + 1 → ∀ y, y < Y → f' (60 * i + y) = va_up dW nD h i y := by
  intro i hi y hy
  by_cases e : i = nD
  · subst e; rw [va_up_self]; exact h2 y hy
  · rw [va_up_ne _ _ e, h1 _ (by omega)]; exact hf i (by omega) y hy
section MB
variable {G : mx_G} {d bc bs : Nat} {N : Nat} {ce : Nat → va_E} {Q : mx_P} {Y : Nat} {U : Int} {nE iE nD : Nat} {rA rS : Int} {eA eS : Nat → Nat → Int} {dA dS : Nat → Int} {dW : Nat → Nat → Int} {lc : Nat → Bool} {rn rg : Nat → Nat} {rN : Nat} {ps : Nat → Int} {pN : Nat} {th : Int} {rw : Nat}
theorem m_measureA (hG : mx_ok G) (hN : 63 ≤ N) (hV : IV Y U nE iE nD rA rS eA eS dA dS dW lc rn rg rN ps pN) (hR : RS G Y U nE iE nD rA rS eA eS dA dS dW lc rn rg rN ps pN th ce) (hn : nD < 12) {a s : Int} (ha : 0 ≤ a ∧ a ≤ 3000) (hs : 1 ≤ s ∧ s ≤ 100) 
    (q : ∀ ce', (∀ h : Nat → Int, (∀ j, j < Y → h j = wgt U (s * s + rS * rS) (a - rA) (eA iE j) (eS iE j)) → RS G Y U nE iE (nD + 1) rA rS eA eS (va_up dA nD a) (va_up dS nD s) (va_up dW nD h) lc rn rg rN ps pN th ce') → (∀ k, k < 50 ∨ 63 ≤ k → ce' k = ce k) → Q (.inl (some (.int (iI (nD : Nat))))) N ce' bc bs) : mx_M G Y_M_measure (d + 1) bc bs false N ce 0 [(0, .ref (mx_B G + 50)), (1, .int (iI a)), (2, .int (iI s))] [] Q := by
  have hV0 := hV
  obtain ⟨hY, hU, hE, hD, hrA, hrS, hEA, hES, hDA, hDS, hDz, hDW, hrN, hrn, hpN, hps⟩ := hV
  obtain ⟨rw, h50, fA, fS, fW, ch, tY, tA, tS, ⟨h51, h52, h53, h54, h55, h56, h57, h58, h59, h60, h61, h62⟩, hfe, hfw, hch⟩ := hR
  refine mx_iconst (n := 0) (mx_d D_M_measure 0 rfl) ?_
  refine mx_istore_n (k4 := 3) (mx_d D_M_measure 1 rfl) (by decide) ?_
  suffices H : ∀ (k i : Nat) (f' : Nat → Int), i + k = Y → (∀ k, k < 60 * nD → f' k = fW k) → (∀ j, j < i → f' (60 * nD + j) = wgt U (s * s + rS * rS) (a - rA) (eA iE j) (eS iE j)) → mx_M G Y_M_measure (d + 1) bc bs false N (va_up ce 53 (aI G 720 f')) 2 [(0, .ref (mx_B G + 50)), (1, .int (iI a)), (2, .int (iI s)), (3, .int (iI i))] [] Q by
    have H0 := H Y 0 fW (by omega) (fun _ _ => rfl) (fun j hj => absurd hj (by omega))
    rw [va_up_id ce 53 h53] at H0
    exact mx_loc (by rfl) H0
  intro k
  induction k with
  | zero =>
    intro i f' hi g1 g2
    obtain rfl : i = Y := by omega
    refine mx_iload_n (k4 := 3) (mx_d D_M_measure 2 rfl) (by rfl) ?_
    refine mx_aload_n (k4 := 0) (mx_d D_M_measure 3 rfl) (by rfl) ?_
    refine mx_getf hG (idx := 51) (ci := 7) (kf := 1) (mx_d D_M_measure 4 rfl) (by rfl) cls_M (by decide) w_582 (by first | assumption | omega) (by first | assumption | exact va_up_self _ _ _ | (rw [va_up_ne _ _ (by omega)]; first | assumption | exact va_up_self _ _ _ | (rw [va_up_ne _ _ (by omega)]; first | assumption | exact va_up_self _ _ _ | (rw [va_up_ne _ _ (by omega)]; first | assumption | exact va_up_self _ _ _ | (rw [va_up_ne _ _ (by omega)]; first | assumption | exact va_up_self _ _ _ | (rw [va_up_ne _ _ (by omega)]; first | assumption | exact va_up_self _ _ _)))))) (by rfl) ?_
    refine mx_icmp_geY 37 (mx_d D_M_measure 5 rfl) (by decide) (by omega) (by omega) (by omega) (by omega) (by omega) ?_
    refine mx_aload_n (k4 := 0) (mx_d D_M_measure 22 rfl) (by rfl) ?_
    refine mx_getf hG (idx := 23) (ci := 7) (kf := 11) (mx_d D_M_measure 23 rfl) (by rfl) cls_M (by decide) w_592 (by first | assumption | omega) (by first | assumption | exact va_up_self _ _ _ | (rw [va_up_ne _ _ (by omega)]; first | assumption | exact va_up_self _ _ _ | (rw [va_up_ne _ _ (by omega)]; first | assumption | exact va_up_self _ _ _ | (rw [va_up_ne _ _ (by omega)]; first | assumption | exact va_up_self _ _ _ | (rw [va_up_ne _ _ (by omega)]; first | assumption | exact va_up_self _ _ _ | (rw [va_up_ne _ _ (by omega)]; first | assumption | exact va_up_self _ _ _)))))) (by rfl) ?_
    refine mx_aload_n (k4 := 0) (mx_d D_M_measure 24 rfl) (by rfl) ?_
    refine mx_getf hG (idx := 65) (ci := 7) (kf := 9) (mx_d D_M_measure 25 rfl) (by rfl) cls_M (by decide) w_590 (by first | assumption | omega) (by first | assumption | exact va_up_self _ _ _ | (rw [va_up_ne _ _ (by omega)]; first | assumption | exact va_up_self _ _ _ | (rw [va_up_ne _ _ (by omega)]; first | assumption | exact va_up_self _ _ _ | (rw [va_up_ne _ _ (by omega)]; first | assumption | exact va_up_self _ _ _ | (rw [va_up_ne _ _ (by omega)]; first | assumption | exact va_up_self _ _ _ | (rw [va_up_ne _ _ (by omega)]; first | assumption | exact va_up_self _ _ _)))))) (by rfl) ?_
    refine mx_iload_n (k4 := 1) (mx_d D_M_measure 26 rfl) (by rfl) ?_
    refine mx_iastI hG _ _ (mx_d D_M_measure 27 rfl) (by first | assumption | omega) (by first | assumption | exact va_up_self _ _ _ | (rw [va_up_ne _ _ (by omega)]; first | assumption | exact va_up_self _ _ _ | (rw [va_up_ne _ _ (by omega)]; first | assumption | exact va_up_self _ _ _ | (rw [va_up_ne _ _ (by omega)]; first | assumption | exact va_up_self _ _ _ | (rw [va_up_ne _ _ (by omega)]; first | assumption | exact va_up_self _ _ _ | (rw [va_up_ne _ _ (by omega)]; first | assumption | exact va_up_self _ _ _)))))) (by rfl) (by rfl) (by omega) (by omega) ?_
    refine mx_aload_n (k4 := 0) (mx_d D_M_measure 28 rfl) (by rfl) ?_
    refine mx_getf hG (idx := 26) (ci := 7) (kf := 12) (mx_d D_M_measure 29 rfl) (by rfl) cls_M (by decide) w_593 (by first | assumption | omega) (by first | assumption | exact va_up_self _ _ _ | (rw [va_up_ne _ _ (by omega)]; first | assumption | exact va_up_self _ _ _ | (rw [va_up_ne _ _ (by omega)]; first | assumption | exact va_up_self _ _ _ | (rw [va_up_ne _ _ (by omega)]; first | assumption | exact va_up_self _ _ _ | (rw [va_up_ne _ _ (by omega)]; first | assumption | exact va_up_self _ _ _ | (rw [va_up_ne _ _ (by omega)]; first | assumption | exact va_up_self _ _ _)))))) (by rfl) ?_
    refine mx_aload_n (k4 := 0) (mx_d D_M_measure 30 rfl) (by rfl) ?_
    refine mx_getf hG (idx := 65) (ci := 7) (kf := 9) (mx_d D_M_measure 31 rfl) (by rfl) cls_M (by decide) w_590 (by first | assumption | omega) (by first | assumption | exact va_up_self _ _ _ | (rw [va_up_ne _ _ (by omega)]; first | assumption | exact va_up_self _ _ _ | (rw [va_up_ne _ _ (by omega)]; first | assumption | exact va_up_self _ _ _ | (rw [va_up_ne _ _ (by omega)]; first | assumption | exact va_up_self _ _ _ | (rw [va_up_ne _ _ (by omega)]; first | assumption | exact va_up_self _ _ _ | (rw [va_up_ne _ _ (by omega)]; first | assumption | exact va_up_self _ _ _)))))) (by rfl) ?_
    refine mx_iload_n (k4 := 2) (mx_d D_M_measure 32 rfl) (by rfl) ?_
    refine mx_iastI hG _ _ (mx_d D_M_measure 33 rfl) (by first | assumption | omega) (by first | assumption | exact va_up_self _ _ _ | (rw [va_up_ne _ _ (by omega)]; first | assumption | exact va_up_self _ _ _ | (rw [va_up_ne _ _ (by omega)]; first | assumption | exact va_up_self _ _ _ | (rw [va_up_ne _ _ (by omega)]; first | assumption | exact va_up_self _ _ _ | (rw [va_up_ne _ _ (by omega)]; first | assumption | exact va_up_self _ _ _ | (rw [va_up_ne _ _ (by omega)]; first | assumption | exact va_up_self _ _ _)))))) (by rfl) (by rfl) (by omega) (by omega) ?_
    refine mx_aload_n (k4 := 0) (mx_d D_M_measure 34 rfl) (by rfl) ?_
    refine mx_dup (mx_d D_M_measure 35 rfl) (by rfl) ?_
    refine mx_getf hG (idx := 65) (ci := 7) (kf := 9) (mx_d D_M_measure 36 rfl) (by rfl) cls_M (by decide) w_590 (by first | assumption | omega) (by first | assumption | exact va_up_self _ _ _ | (rw [va_up_ne _ _ (by omega)]; first | assumption | exact va_up_self _ _ _ | (rw [va_up_ne _ _ (by omega)]; first | assumption | exact va_up_self _ _ _ | (rw [va_up_ne _ _ (by omega)]; first | assumption | exact va_up_self _ _ _ | (rw [va_up_ne _ _ (by omega)]; first | assumption | exact va_up_self _ _ _ | (rw [va_up_ne _ _ (by omega)]; first | assumption | exact va_up_self _ _ _)))))) (by rfl) ?_
    refine mx_iconst (n := 1) (mx_d D_M_measure 37 rfl) ?_
    refine mx_iaddI (mx_d D_M_measure 38 rfl) ?_
    refine mx_putf hG (idx := 65) (ci := 7) (kf := 9) (t := (.int)) (mx_d D_M_measure 39 rfl) (by rfl) cls_M (by decide) (Or.inl rfl) w_590 (by first | assumption | omega) (by first | assumption | exact va_up_self _ _ _ | (rw [va_up_ne _ _ (by omega)]; first | assumption | exact va_up_self _ _ _ | (rw [va_up_ne _ _ (by omega)]; first | assumption | exact va_up_self _ _ _ | (rw [va_up_ne _ _ (by omega)]; first | assumption | exact va_up_self _ _ _ | (rw [va_up_ne _ _ (by omega)]; first | assumption | exact va_up_self _ _ _ | (rw [va_up_ne _ _ (by omega)]; first | assumption | exact va_up_self _ _ _)))))) (by exact Nat.le_of_ble_eq_true rfl) (by decide +kernel) (by rfl) (by rfl) ?_
    refine mx_aload_n (k4 := 0) (mx_d D_M_measure 40 rfl) (by rfl) ?_
    refine mx_getf hG (idx := 65) (ci := 7) (kf := 9) (mx_d D_M_measure 41 rfl) (by rfl) cls_M (by decide) w_590 (by first | assumption | omega) (by first | assumption | exact va_up_self _ _ _ | (rw [va_up_ne _ _ (by omega)]; first | assumption | exact va_up_self _ _ _ | (rw [va_up_ne _ _ (by omega)]; first | assumption | exact va_up_self _ _ _ | (rw [va_up_ne _ _ (by omega)]; first | assumption | exact va_up_self _ _ _ | (rw [va_up_ne _ _ (by omega)]; first | assumption | exact va_up_self _ _ _ | (rw [va_up_ne _ _ (by omega)]; first | assumption | exact va_up_self _ _ _)))))) (by rfl) ?_
    refine mx_iconst (n := 1) (mx_d D_M_measure 42 rfl) ?_
    refine mx_isubI (mx_d D_M_measure 43 rfl) ?_
    refine mx_iret (by rfl) (mx_d D_M_measure 44 rfl) ?_
    rw [show ((nD : Int) + 1 - 1) = (nD : Int) from by omega]
    refine q _ (fun h hh => ⟨rw, va_up_self _ _ _, fA, fS, f', ch, tY, tA, tS, ⟨?_, ?_, ?_, ?_, ?_, ?_, ?_, ?_, ?_, ?_, ?_, ?_⟩, hfe, fW_more hY.2 hfw g1 (fun j hj => (g2 j hj).trans (hh j hj).symm), hch⟩) (fun k hk => ?_)
    · rw [va_up_ne _ _ (by omega), va_up_ne _ _ (by omega), va_up_ne _ _ (by omega), va_up_ne _ _ (by omega)]; exact h51
    · rw [va_up_ne _ _ (by omega), va_up_ne _ _ (by omega), va_up_ne _ _ (by omega), va_up_ne _ _ (by omega)]; exact h52
    · rw [va_up_ne _ _ (by omega), va_up_ne _ _ (by omega), va_up_ne _ _ (by omega), va_up_self]
    · rw [va_up_ne _ _ (by omega), va_up_ne _ _ (by omega), va_up_self]
    · rw [va_up_ne _ _ (by omega), va_up_self]
    · rw [va_up_ne _ _ (by omega), va_up_ne _ _ (by omega), va_up_ne _ _ (by omega), va_up_ne _ _ (by omega)]; exact h56
    · rw [va_up_ne _ _ (by omega), va_up_ne _ _ (by omega), va_up_ne _ _ (by omega), va_up_ne _ _ (by omega)]; exact h57
    · rw [va_up_ne _ _ (by omega), va_up_ne _ _ (by omega), va_up_ne _ _ (by omega), va_up_ne _ _ (by omega)]; exact h58
    · rw [va_up_ne _ _ (by omega), va_up_ne _ _ (by omega), va_up_ne _ _ (by omega), va_up_ne _ _ (by omega)]; exact h59
    · rw [va_up_ne _ _ (by omega), va_up_ne _ _ (by omega), va_up_ne _ _ (by omega), va_up_ne _ _ (by omega)]; exact h60
    · rw [va_up_ne _ _ (by omega), va_up_ne _ _ (by omega), va_up_ne _ _ (by omega), va_up_ne _ _ (by omega)]; exact h61
    · rw [va_up_ne _ _ (by omega), va_up_ne _ _ (by omega), va_up_ne _ _ (by omega), va_up_ne _ _ (by omega)]; exact h62
    · rw [va_up_ne _ _ (by omega), va_up_ne _ _ (by omega), va_up_ne _ _ (by omega), va_up_ne _ _ (by omega)]
  | succ k ih =>
    intro i f' hi g1 g2
    refine mx_iload_n (k4 := 3) (mx_d D_M_measure 2 rfl) (by rfl) ?_
    refine mx_aload_n (k4 := 0) (mx_d D_M_measure 3 rfl) (by rfl) ?_
    refine mx_getf hG (idx := 51) (ci := 7) (kf := 1) (mx_d D_M_measure 4 rfl) (by rfl) cls_M (by decide) w_582 (by first | assumption | omega) (by first | assumption | exact va_up_self _ _ _ | (rw [va_up_ne _ _ (by omega)]; first | assumption | exact va_up_self _ _ _ | (rw [va_up_ne _ _ (by omega)]; first | assumption | exact va_up_self _ _ _ | (rw [va_up_ne _ _ (by omega)]; first | assumption | exact va_up_self _ _ _ | (rw [va_up_ne _ _ (by omega)]; first | assumption | exact va_up_self _ _ _ | (rw [va_up_ne _ _ (by omega)]; first | assumption | exact va_up_self _ _ _)))))) (by rfl) ?_
    refine mx_icmp_geN 37 (mx_d D_M_measure 5 rfl) (by decide) (by omega) (by omega) (by omega) (by omega) (by omega) ?_
    refine mx_aload_n (k4 := 0) (mx_d D_M_measure 6 rfl) (by rfl) ?_
    refine mx_getf hG (idx := 20) (ci := 7) (kf := 10) (mx_d D_M_measure 7 rfl) (by rfl) cls_M (by decide) w_591 (by first | assumption | omega) (by first | assumption | exact va_up_self _ _ _ | (rw [va_up_ne _ _ (by omega)]; first | assumption | exact va_up_self _ _ _ | (rw [va_up_ne _ _ (by omega)]; first | assumption | exact va_up_self _ _ _ | (rw [va_up_ne _ _ (by omega)]; first | assumption | exact va_up_self _ _ _ | (rw [va_up_ne _ _ (by omega)]; first | assumption | exact va_up_self _ _ _ | (rw [va_up_ne _ _ (by omega)]; first | assumption | exact va_up_self _ _ _)))))) (by rfl) ?_
    refine mx_bipush (n := 60) (mx_d D_M_measure 8 rfl) (by decide) ?_
    refine mx_aload_n (k4 := 0) (mx_d D_M_measure 9 rfl) (by rfl) ?_
    refine mx_getf hG (idx := 65) (ci := 7) (kf := 9) (mx_d D_M_measure 10 rfl) (by rfl) cls_M (by decide) w_590 (by first | assumption | omega) (by first | assumption | exact va_up_self _ _ _ | (rw [va_up_ne _ _ (by omega)]; first | assumption | exact va_up_self _ _ _ | (rw [va_up_ne _ _ (by omega)]; first | assumption | exact va_up_self _ _ _ | (rw [va_up_ne _ _ (by omega)]; first | assumption | exact va_up_self _ _ _ | (rw [va_up_ne _ _ (by omega)]; first | assumption | exact va_up_self _ _ _ | (rw [va_up_ne _ _ (by omega)]; first | assumption | exact va_up_self _ _ _)))))) (by rfl) ?_
    refine mx_imulI (mx_d D_M_measure 11 rfl) ?_
    refine mx_iload_n (k4 := 3) (mx_d D_M_measure 12 rfl) (by rfl) ?_
    refine mx_iaddI (mx_d D_M_measure 13 rfl) ?_
    refine mx_aload_n (k4 := 0) (mx_d D_M_measure 14 rfl) (by rfl) ?_
    refine mx_iload_n (k4 := 1) (mx_d D_M_measure 15 rfl) (by rfl) ?_
    refine mx_iload_n (k4 := 2) (mx_d D_M_measure 16 rfl) (by rfl) ?_
    refine mx_iload_n (k4 := 3) (mx_d D_M_measure 17 rfl) (by rfl) ?_
    refine mx_callV hG (Y' := Y_M_weigh) (ci := 7) [_, _, _] (mx_d D_M_measure 18 rfl) in_M_weigh w_694 w_696 s_M_weigh (by rfl) np_M_weigh (by exact Nat.le_of_ble_eq_true rfl) (by rfl) (by first | assumption | omega) (by first | assumption | exact va_up_self _ _ _ | (rw [va_up_ne _ _ (by omega)]; first | assumption | exact va_up_self _ _ _ | (rw [va_up_ne _ _ (by omega)]; first | assumption | exact va_up_self _ _ _ | (rw [va_up_ne _ _ (by omega)]; first | assumption | exact va_up_self _ _ _ | (rw [va_up_ne _ _ (by omega)]; first | assumption | exact va_up_self _ _ _ | (rw [va_up_ne _ _ (by omega)]; first | assumption | exact va_up_self _ _ _)))))) (by rfl) (by exact Nat.le_of_ble_eq_true rfl) (m_weigh hG hN ((va_up_ne _ _ (by omega)).trans h50) ((va_up_ne _ _ (by omega)).trans h51) ((va_up_ne _ _ (by omega)).trans h52) hV0 hfe (y := i) (by omega) ha hs ?_)
    refine mx_iastI hG (60 * nD + i) _ (mx_d D_M_measure 19 rfl) (by first | assumption | omega) (by first | assumption | exact va_up_self _ _ _ | (rw [va_up_ne _ _ (by omega)]; first | assumption | exact va_up_self _ _ _ | (rw [va_up_ne _ _ (by omega)]; first | assumption | exact va_up_self _ _ _ | (rw [va_up_ne _ _ (by omega)]; first | assumption | exact va_up_self _ _ _ | (rw [va_up_ne _ _ (by omega)]; first | assumption | exact va_up_self _ _ _ | (rw [va_up_ne _ _ (by omega)]; first | assumption | exact va_up_self _ _ _)))))) (by rfl) (by rfl) (by omega) (by omega) ?_
    rw [bx_uu]
    refine mx_iincI (i := 3) (n := 1) (mx_d D_M_measure 20 rfl) (by rfl) (by decide) ?_
    refine mx_goto 2 (mx_d D_M_measure 21 rfl) (by decide) ?_
    refine mx_loc (by rfl) (ih (i + 1) _ (by omega) (fun k hk => ?_) (fun j hj => ?_))
    · rw [va_up_ne _ _ (by omega)]; exact g1 k hk
    · by_cases e : j = i
      · subst e; rw [va_up_self]
      · rw [va_up_ne _ _ (by omega)]; exact g2 j (by omega)
theorem m_isNeeded (hG : mx_ok G) (hN : 63 ≤ N) (h50 : ce 50 = rs0 G th Y U nE iE nD rA rS rN pN rw) {fW : Nat → Int} (h53 : ce 53 = aI G 720 fW) (hY : Y ≤ 60) {i : Nat} (hi : i < 12) {w : Nat → Int} (hw : ∀ y, y < Y → fW (60 * i + y) = w y) (hb : ∀ y, y < Y → 0 ≤ w y ∧ w y ≤ 1000000) {y : Nat} (hy : y < Y) {u v : Int} (hu1 : 0 ≤ u) (hu2 : u ≤ 1000) (hv1 : 0 ≤ v) (hv2 : v ≤ 1000)
    (q : Q (.inl (some (.int (iI (bI (need w Y u v y)))))) N ce bc bs) : mx_M G Y_M_isNeeded (d + 1) bc bs false N ce 0 [(0, .ref (mx_B G + 50)), (1, .int (iI i)), (2, .int (iI y)), (3, .int (iI u)), (4, .int (iI v))] [] Q := by
  have wy := hb y hy
  have hsum := sumTo_bd (f := w) (n := Y) (M := 1000000) hb
  have hdue0 : 0 ≤ u * sumTo w Y := Int.mul_nonneg hu1 hsum.1
  have hdue1 : u * sumTo w Y ≤ 1000 * (60 * 1000000) := Int.mul_le_mul hu2 (by omega) hsum.1 (by omega)
  have ahb : ∀ n, n ≤ Y → 0 ≤ ahTo w y n ∧ ahTo w y n ≤ n * 1000000 := fun n hn => by
    unfold ahTo
    exact sumTo_bd (fun j hj => by have := hb j (by omega); split <;> omega)
  refine mx_lconst (n := 0) (v := lI 0) (mx_d D_M_isNeeded 0 rfl) (by rfl) ?_
  refine mx_lstore (i := 5) (mx_d D_M_isNeeded 1 rfl) (by decide) ?_
  refine mx_aload_n (k4 := 0) (mx_d D_M_isNeeded 2 rfl) (by rfl) ?_
  refine mx_getf hG (idx := 20) (ci := 7) (kf := 10) (mx_d D_M_isNeeded 3 rfl) (by rfl) cls_M (by decide) w_591 (by first | assumption | omega) (by first | assumption | exact va_up_self _ _ _ | (rw [va_up_ne _ _ (by omega)]; first | assumption | exact va_up_self _ _ _ | (rw [va_up_ne _ _ (by omega)]; first | assumption | exact va_up_self _ _ _ | (rw [va_up_ne _ _ (by omega)]; first | assumption | exact va_up_self _ _ _ | (rw [va_up_ne _ _ (by omega)]; first | assumption | exact va_up_self _ _ _ | (rw [va_up_ne _ _ (by omega)]; first | assumption | exact va_up_self _ _ _)))))) (by rfl) ?_
  refine mx_bipush (n := 60) (mx_d D_M_isNeeded 4 rfl) (by decide) ?_
  refine mx_iload_n (k4 := 1) (mx_d D_M_isNeeded 5 rfl) (by rfl) ?_
  refine mx_imulI (mx_d D_M_isNeeded 6 rfl) ?_
  refine mx_iload_n (k4 := 2) (mx_d D_M_isNeeded 7 rfl) (by rfl) ?_
  refine mx_iaddI (mx_d D_M_isNeeded 8 rfl) ?_
  refine mx_ialdI hG (60 * i + y) (mx_d D_M_isNeeded 9 rfl) (by first | assumption | omega) (by first | assumption | exact va_up_self _ _ _ | (rw [va_up_ne _ _ (by omega)]; first | assumption | exact va_up_self _ _ _ | (rw [va_up_ne _ _ (by omega)]; first | assumption | exact va_up_self _ _ _ | (rw [va_up_ne _ _ (by omega)]; first | assumption | exact va_up_self _ _ _ | (rw [va_up_ne _ _ (by omega)]; first | assumption | exact va_up_self _ _ _ | (rw [va_up_ne _ _ (by omega)]; first | assumption | exact va_up_self _ _ _)))))) (by rfl) (by omega) (by omega) ?_
  rw [hw y hy]
  refine mx_istore (i := 7) (mx_d D_M_isNeeded 10 rfl) (by decide) ?_
  refine mx_iconst (n := 0) (mx_d D_M_isNeeded 11 rfl) ?_
  refine mx_istore (i := 8) (mx_d D_M_isNeeded 12 rfl) (by decide) ?_
  suffices H : ∀ k j : Nat, j + k = Y → mx_M G Y_M_isNeeded (d + 1) bc bs false N ce 19 [(0, .ref (mx_B G + 50)), (1, .int (iI i)), (2, .int (iI y)), (3, .int (iI u)), (4, .int (iI v)), (5, .long (lI (ahTo w y j))), (7, .int (iI (w y))), (8, .int (iI j))] [] Q from mx_loc (by rfl) (H Y 0 (by omega))
  intro k
  induction k with
  | zero =>
    intro j hj
    obtain rfl : j = Y := by omega
    have a1 := ahb j (Nat.le_refl _)
    have hh0 : 0 ≤ ahTo w y j * v := Int.mul_nonneg a1.1 hv1
    have hh1 : ahTo w y j * v ≤ (60 * 1000000) * 1000 := Int.mul_le_mul (by omega) hv2 hv1 (by omega)
    have no : need w j u v y = false → ∀ {l9 : List (Nat × Value)}, mx_M G Y_M_isNeeded (d + 1) bc bs false N ce 109 l9 [] Q := by
      intro h l9
      refine mx_iconst (n := 0) (mx_d D_M_isNeeded 61 rfl) ?_
      refine mx_zret (by rfl) (mx_d D_M_isNeeded 62 rfl) (by first | rfl | assumption) ?_
      rw [h] at q
      exact q
    refine mx_iload (i := 8) (mx_d D_M_isNeeded 13 rfl) (by rfl) ?_
    refine mx_aload_n (k4 := 0) (mx_d D_M_isNeeded 14 rfl) (by rfl) ?_
    refine mx_getf hG (idx := 51) (ci := 7) (kf := 1) (mx_d D_M_isNeeded 15 rfl) (by rfl) cls_M (by decide) w_582 (by first | assumption | omega) (by first | assumption | exact va_up_self _ _ _ | (rw [va_up_ne _ _ (by omega)]; first | assumption | exact va_up_self _ _ _ | (rw [va_up_ne _ _ (by omega)]; first | assumption | exact va_up_self _ _ _ | (rw [va_up_ne _ _ (by omega)]; first | assumption | exact va_up_self _ _ _ | (rw [va_up_ne _ _ (by omega)]; first | assumption | exact va_up_self _ _ _ | (rw [va_up_ne _ _ (by omega)]; first | assumption | exact va_up_self _ _ _)))))) (by rfl) ?_
    refine mx_icmp_geY 81 (mx_d D_M_isNeeded 16 rfl) (by decide) (by omega) (by omega) (by omega) (by omega) (by omega) ?_
    refine mx_iload (i := 7) (mx_d D_M_isNeeded 44 rfl) (by rfl) ?_
    by_cases c1 : 0 < w y
    · refine mx_if_leN 109 (mx_d D_M_isNeeded 45 rfl) (by decide) (by omega) (by omega) (by omega) ?_
      refine mx_lload (i := 5) (mx_d D_M_isNeeded 46 rfl) (by rfl) ?_
      refine mx_iload (i := 4) (mx_d D_M_isNeeded 47 rfl) (by rfl) ?_
      refine mx_i2lI (mx_d D_M_isNeeded 48 rfl) (by omega) (by omega) ?_
      refine mx_lmulI (mx_d D_M_isNeeded 49 rfl) ?_
      refine mx_iload_n (k4 := 3) (mx_d D_M_isNeeded 50 rfl) (by rfl) ?_
      refine mx_i2lI (mx_d D_M_isNeeded 51 rfl) (by omega) (by omega) ?_
      refine mx_aload_n (k4 := 0) (mx_d D_M_isNeeded 52 rfl) (by rfl) ?_
      refine mx_iload_n (k4 := 1) (mx_d D_M_isNeeded 53 rfl) (by rfl) ?_
      refine mx_callV hG (Y' := Y_M_totalOf) (ci := 7) [_] (mx_d D_M_isNeeded 54 rfl) in_M_totalOf w_710 w_712 s_M_totalOf (by rfl) np_M_totalOf (by exact Nat.le_of_ble_eq_true rfl) (by rfl) (by first | assumption | omega) (by first | assumption | exact va_up_self _ _ _ | (rw [va_up_ne _ _ (by omega)]; first | assumption | exact va_up_self _ _ _ | (rw [va_up_ne _ _ (by omega)]; first | assumption | exact va_up_self _ _ _ | (rw [va_up_ne _ _ (by omega)]; first | assumption | exact va_up_self _ _ _ | (rw [va_up_ne _ _ (by omega)]; first | assumption | exact va_up_self _ _ _ | (rw [va_up_ne _ _ (by omega)]; first | assumption | exact va_up_self _ _ _)))))) (by rfl) (by exact Nat.le_of_ble_eq_true rfl) (m_totalOf hG hN h50 h53 hY hi hw ?_)
      refine mx_i2lI (mx_d D_M_isNeeded 55 rfl) (by omega) (by omega) ?_
      refine mx_lmulI (mx_d D_M_isNeeded 56 rfl) ?_
      refine mx_lcmpI (mx_d D_M_isNeeded 57 rfl) (by omega) (by omega) (by omega) (by omega) ?_
      by_cases c2 : ahTo w y j * v < u * sumTo w j
      · refine mx_if_geN 109 (mx_d D_M_isNeeded 58 rfl) (by decide) (by first | omega | (split <;> (try split) <;> omega)) (by first | omega | (split <;> (try split) <;> omega)) (by first | omega | (split <;> (try split) <;> omega)) ?_
        refine mx_iconst (n := 1) (mx_d D_M_isNeeded 59 rfl) ?_
        refine mx_goto 110 (mx_d D_M_isNeeded 60 rfl) (by decide) ?_
        refine mx_zret (by rfl) (mx_d D_M_isNeeded 62 rfl) (by first | rfl | assumption) ?_
        rw [show need w j u v y = true from by simp [need, c1, c2]] at q
        exact q
      · refine mx_if_geY 109 (mx_d D_M_isNeeded 58 rfl) (by decide) (by first | omega | (split <;> (try split) <;> omega)) (by first | omega | (split <;> (try split) <;> omega)) (by first | omega | (split <;> (try split) <;> omega)) ?_
        exact no (by simp [need]; omega)
    · refine mx_if_leY 109 (mx_d D_M_isNeeded 45 rfl) (by decide) (by omega) (by omega) (by omega) ?_
      exact no (by simp [need]; omega)
  | succ k ih =>
    intro j hj
    have wj := hb j (by omega)
    have yes : ahB w y j = true → ∀ {l9 : List (Nat × Value)}, l9.map (fun q => q.1) = l9.map (fun q => q.1) → (∀ q ∈ ([(0, .ref (mx_B G + 50)), (1, .int (iI i)), (2, .int (iI y)), (3, .int (iI u)), (4, .int (iI v)), (5, .long (lI (ahTo w y j))), (7, .int (iI (w y))), (8, .int (iI j)), (9, .int (iI (w j)))] : List (Nat × Value)), mx_get l9 q.1 = some q.2) → mx_M G Y_M_isNeeded (d + 1) bc bs false N ce 62 l9 [] Q := by
      intro h l9 _ hl
      refine mx_loc (l' := [(0, .ref (mx_B G + 50)), (1, .int (iI i)), (2, .int (iI y)), (3, .int (iI u)), (4, .int (iI v)), (5, .long (lI (ahTo w y j))), (7, .int (iI (w y))), (8, .int (iI j)), (9, .int (iI (w j)))]) (List.map_congr_left hl) ?_
      refine mx_lload (i := 5) (mx_d D_M_isNeeded 35 rfl) (by rfl) ?_
      refine mx_iload (i := 9) (mx_d D_M_isNeeded 36 rfl) (by rfl) ?_
      refine mx_i2lI (mx_d D_M_isNeeded 37 rfl) (by omega) (by omega) ?_
      refine mx_laddI (mx_d D_M_isNeeded 38 rfl) ?_
      refine mx_goto 73 (mx_d D_M_isNeeded 39 rfl) (by decide) ?_
      refine mx_lstore (i := 5) (mx_d D_M_isNeeded 41 rfl) (by decide) ?_
      refine mx_iincI (i := 8) (n := 1) (mx_d D_M_isNeeded 42 rfl) (by rfl) (by decide) ?_
      refine mx_goto 19 (mx_d D_M_isNeeded 43 rfl) (by decide) ?_
      refine mx_loc ?_ (ih (j + 1) (by omega))
      simp only [ahTo, sumTo, h, if_true]
      rfl
    have no : ahB w y j = false → ∀ {l9 : List (Nat × Value)}, (∀ q ∈ ([(0, .ref (mx_B G + 50)), (1, .int (iI i)), (2, .int (iI y)), (3, .int (iI u)), (4, .int (iI v)), (5, .long (lI (ahTo w y j))), (7, .int (iI (w y))), (8, .int (iI j)), (9, .int (iI (w j)))] : List (Nat × Value)), mx_get l9 q.1 = some q.2) → mx_M G Y_M_isNeeded (d + 1) bc bs false N ce 71 l9 [] Q := by
      intro h l9 hl
      refine mx_loc (l' := [(0, .ref (mx_B G + 50)), (1, .int (iI i)), (2, .int (iI y)), (3, .int (iI u)), (4, .int (iI v)), (5, .long (lI (ahTo w y j))), (7, .int (iI (w y))), (8, .int (iI j)), (9, .int (iI (w j)))]) (List.map_congr_left hl) ?_
      refine mx_lload (i := 5) (mx_d D_M_isNeeded 40 rfl) (by rfl) ?_
      refine mx_lstore (i := 5) (mx_d D_M_isNeeded 41 rfl) (by decide) ?_
      refine mx_iincI (i := 8) (n := 1) (mx_d D_M_isNeeded 42 rfl) (by rfl) (by decide) ?_
      refine mx_goto 19 (mx_d D_M_isNeeded 43 rfl) (by decide) ?_
      refine mx_loc ?_ (ih (j + 1) (by omega))
      simp only [ahTo, sumTo, h]
      rw [show (if false = true then w j else (0 : Int)) = 0 from rfl, Int.add_zero]
      rfl
    refine mx_iload (i := 8) (mx_d D_M_isNeeded 13 rfl) (by rfl) ?_
    refine mx_aload_n (k4 := 0) (mx_d D_M_isNeeded 14 rfl) (by rfl) ?_
    refine mx_getf hG (idx := 51) (ci := 7) (kf := 1) (mx_d D_M_isNeeded 15 rfl) (by rfl) cls_M (by decide) w_582 (by first | assumption | omega) (by first | assumption | exact va_up_self _ _ _ | (rw [va_up_ne _ _ (by omega)]; first | assumption | exact va_up_self _ _ _ | (rw [va_up_ne _ _ (by omega)]; first | assumption | exact va_up_self _ _ _ | (rw [va_up_ne _ _ (by omega)]; first | assumption | exact va_up_self _ _ _ | (rw [va_up_ne _ _ (by omega)]; first | assumption | exact va_up_self _ _ _ | (rw [va_up_ne _ _ (by omega)]; first | assumption | exact va_up_self _ _ _)))))) (by rfl) ?_
    refine mx_icmp_geN 81 (mx_d D_M_isNeeded 16 rfl) (by decide) (by omega) (by omega) (by omega) (by omega) (by omega) ?_
    refine mx_aload_n (k4 := 0) (mx_d D_M_isNeeded 17 rfl) (by rfl) ?_
    refine mx_getf hG (idx := 20) (ci := 7) (kf := 10) (mx_d D_M_isNeeded 18 rfl) (by rfl) cls_M (by decide) w_591 (by first | assumption | omega) (by first | assumption | exact va_up_self _ _ _ | (rw [va_up_ne _ _ (by omega)]; first | assumption | exact va_up_self _ _ _ | (rw [va_up_ne _ _ (by omega)]; first | assumption | exact va_up_self _ _ _ | (rw [va_up_ne _ _ (by omega)]; first | assumption | exact va_up_self _ _ _ | (rw [va_up_ne _ _ (by omega)]; first | assumption | exact va_up_self _ _ _ | (rw [va_up_ne _ _ (by omega)]; first | assumption | exact va_up_self _ _ _)))))) (by rfl) ?_
    refine mx_bipush (n := 60) (mx_d D_M_isNeeded 19 rfl) (by decide) ?_
    refine mx_iload_n (k4 := 1) (mx_d D_M_isNeeded 20 rfl) (by rfl) ?_
    refine mx_imulI (mx_d D_M_isNeeded 21 rfl) ?_
    refine mx_iload (i := 8) (mx_d D_M_isNeeded 22 rfl) (by rfl) ?_
    refine mx_iaddI (mx_d D_M_isNeeded 23 rfl) ?_
    refine mx_ialdI hG (60 * i + j) (mx_d D_M_isNeeded 24 rfl) (by first | assumption | omega) (by first | assumption | exact va_up_self _ _ _ | (rw [va_up_ne _ _ (by omega)]; first | assumption | exact va_up_self _ _ _ | (rw [va_up_ne _ _ (by omega)]; first | assumption | exact va_up_self _ _ _ | (rw [va_up_ne _ _ (by omega)]; first | assumption | exact va_up_self _ _ _ | (rw [va_up_ne _ _ (by omega)]; first | assumption | exact va_up_self _ _ _ | (rw [va_up_ne _ _ (by omega)]; first | assumption | exact va_up_self _ _ _)))))) (by rfl) (by omega) (by omega) ?_
    rw [hw j (by omega)]
    refine mx_istore (i := 9) (mx_d D_M_isNeeded 25 rfl) (by decide) ?_
    refine mx_iload (i := 9) (mx_d D_M_isNeeded 26 rfl) (by rfl) ?_
    refine mx_iload (i := 7) (mx_d D_M_isNeeded 27 rfl) (by rfl) ?_
    by_cases c1 : w y < w j
    · refine mx_icmp_gtY 62 (mx_d D_M_isNeeded 28 rfl) (by decide) (by omega) (by omega) (by omega) (by omega) (by omega) ?_
      refine yes (by simp [ahB, c1]) rfl ?_
      simp only [List.forall_mem_cons]
      exact ⟨rfl, rfl, rfl, rfl, rfl, rfl, rfl, rfl, rfl, fun _ h => absurd h List.not_mem_nil⟩
    · refine mx_icmp_gtN 62 (mx_d D_M_isNeeded 28 rfl) (by decide) (by omega) (by omega) (by omega) (by omega) (by omega) ?_
      refine mx_iload (i := 9) (mx_d D_M_isNeeded 29 rfl) (by rfl) ?_
      refine mx_iload (i := 7) (mx_d D_M_isNeeded 30 rfl) (by rfl) ?_
      by_cases c2 : w j = w y
      · refine mx_icmp_neN 71 (mx_d D_M_isNeeded 31 rfl) (by decide) (by omega) (by omega) (by omega) (by omega) (by omega) ?_
        refine mx_iload (i := 8) (mx_d D_M_isNeeded 32 rfl) (by rfl) ?_
        refine mx_iload_n (k4 := 2) (mx_d D_M_isNeeded 33 rfl) (by rfl) ?_
        by_cases c3 : j < y
        · refine mx_icmp_geN 71 (mx_d D_M_isNeeded 34 rfl) (by decide) (by omega) (by omega) (by omega) (by omega) (by omega) ?_
          refine yes (by simp [ahB, c2, c3]) rfl ?_
          simp only [List.forall_mem_cons]
          exact ⟨rfl, rfl, rfl, rfl, rfl, rfl, rfl, rfl, rfl, fun _ h => absurd h List.not_mem_nil⟩
        · refine mx_icmp_geY 71 (mx_d D_M_isNeeded 34 rfl) (by decide) (by omega) (by omega) (by omega) (by omega) (by omega) ?_
          refine no (by simp [ahB]; omega) ?_
          simp only [List.forall_mem_cons]
          exact ⟨rfl, rfl, rfl, rfl, rfl, rfl, rfl, rfl, rfl, fun _ h => absurd h List.not_mem_nil⟩
      · refine mx_icmp_neY 71 (mx_d D_M_isNeeded 31 rfl) (by decide) (by omega) (by omega) (by omega) (by omega) (by omega) ?_
        refine no (by simp [ahB]; omega) ?_
        simp only [List.forall_mem_cons]
        exact ⟨rfl, rfl, rfl, rfl, rfl, rfl, rfl, rfl, rfl, fun _ h => absurd h List.not_mem_nil⟩
theorem m_begins (hG : mx_ok G) (hN : 63 ≤ N) (h50 : ce 50 = rs0 G th Y U nE iE nD rA rS rN pN rw) {ch : Nat → Bool} (h56 : ce 56 = aB G 60 ch) (hY : Y ≤ 60) (hch : ∀ y, y < Y → ch y = lc y) {y : Nat} (hy : y < Y)
    (q : Q (.inl (some (.int (iI (bI (bgB lc y)))))) N ce bc bs) : mx_M G Y_M_begins d bc bs false N ce 0 [(0, .ref (mx_B G + 50)), (1, .int (iI y))] [] Q := by
  have no : bgB lc y = false → ∀ {l9 : List (Nat × Value)}, mx_M G Y_M_begins d bc bs false N ce 28 l9 [] Q := by
    intro h l9
    refine mx_iconst (n := 0) (mx_d D_M_begins 16 rfl) ?_
    refine mx_zret (by rfl) (mx_d D_M_begins 17 rfl) (by first | rfl | assumption) ?_
    rw [h] at q
    exact q
  have yes : bgB lc y = true → ∀ {l9 : List (Nat × Value)}, mx_M G Y_M_begins d bc bs false N ce 24 l9 [] Q := by
    intro h l9
    refine mx_iconst (n := 1) (mx_d D_M_begins 14 rfl) ?_
    refine mx_goto 29 (mx_d D_M_begins 15 rfl) (by decide) ?_
    refine mx_zret (by rfl) (mx_d D_M_begins 17 rfl) (by first | rfl | assumption) ?_
    rw [h] at q
    exact q
  refine mx_aload_n (k4 := 0) (mx_d D_M_begins 0 rfl) (by rfl) ?_
  refine mx_getf hG (idx := 29) (ci := 7) (kf := 13) (mx_d D_M_begins 1 rfl) (by rfl) cls_M (by decide) w_594 (by first | assumption | omega) (by first | assumption | exact va_up_self _ _ _ | (rw [va_up_ne _ _ (by omega)]; first | assumption | exact va_up_self _ _ _ | (rw [va_up_ne _ _ (by omega)]; first | assumption | exact va_up_self _ _ _ | (rw [va_up_ne _ _ (by omega)]; first | assumption | exact va_up_self _ _ _ | (rw [va_up_ne _ _ (by omega)]; first | assumption | exact va_up_self _ _ _ | (rw [va_up_ne _ _ (by omega)]; first | assumption | exact va_up_self _ _ _)))))) (by rfl) ?_
  refine mx_iload_n (k4 := 1) (mx_d D_M_begins 2 rfl) (by rfl) ?_
  refine mx_zaldB hG _ (mx_d D_M_begins 3 rfl) (by first | assumption | omega) (by first | assumption | exact va_up_self _ _ _ | (rw [va_up_ne _ _ (by omega)]; first | assumption | exact va_up_self _ _ _ | (rw [va_up_ne _ _ (by omega)]; first | assumption | exact va_up_self _ _ _ | (rw [va_up_ne _ _ (by omega)]; first | assumption | exact va_up_self _ _ _ | (rw [va_up_ne _ _ (by omega)]; first | assumption | exact va_up_self _ _ _ | (rw [va_up_ne _ _ (by omega)]; first | assumption | exact va_up_self _ _ _)))))) (by rfl) (by omega) (by omega) ?_
  rw [hch y hy]
  cases c1 : lc y with
  | false =>
    refine mx_if_eqY 28 (mx_d D_M_begins 4 rfl) (by decide) (by decide) (by decide) (by decide) ?_
    exact no (by simp [bgB, c1])
  | true =>
    refine mx_if_eqN 28 (mx_d D_M_begins 4 rfl) (by decide) (by decide) (by decide) (by decide) ?_
    refine mx_iload_n (k4 := 1) (mx_d D_M_begins 5 rfl) (by rfl) ?_
    by_cases c2 : y = 0
    · refine mx_if_eqY 24 (mx_d D_M_begins 6 rfl) (by decide) (by omega) (by omega) (by omega) ?_
      exact yes (by unfold bgB; rw [c1, show decide (y = 0) = true from by simp [c2]]; rfl)
    · refine mx_if_eqN 24 (mx_d D_M_begins 6 rfl) (by decide) (by omega) (by omega) (by omega) ?_
      refine mx_aload_n (k4 := 0) (mx_d D_M_begins 7 rfl) (by rfl) ?_
      refine mx_getf hG (idx := 29) (ci := 7) (kf := 13) (mx_d D_M_begins 8 rfl) (by rfl) cls_M (by decide) w_594 (by first | assumption | omega) (by first | assumption | exact va_up_self _ _ _ | (rw [va_up_ne _ _ (by omega)]; first | assumption | exact va_up_self _ _ _ | (rw [va_up_ne _ _ (by omega)]; first | assumption | exact va_up_self _ _ _ | (rw [va_up_ne _ _ (by omega)]; first | assumption | exact va_up_self _ _ _ | (rw [va_up_ne _ _ (by omega)]; first | assumption | exact va_up_self _ _ _ | (rw [va_up_ne _ _ (by omega)]; first | assumption | exact va_up_self _ _ _)))))) (by rfl) ?_
      refine mx_iload_n (k4 := 1) (mx_d D_M_begins 9 rfl) (by rfl) ?_
      refine mx_iconst (n := 1) (mx_d D_M_begins 10 rfl) ?_
      refine mx_isubI (mx_d D_M_begins 11 rfl) ?_
      refine mx_zaldB hG (y - 1) (mx_d D_M_begins 12 rfl) (by first | assumption | omega) (by first | assumption | exact va_up_self _ _ _ | (rw [va_up_ne _ _ (by omega)]; first | assumption | exact va_up_self _ _ _ | (rw [va_up_ne _ _ (by omega)]; first | assumption | exact va_up_self _ _ _ | (rw [va_up_ne _ _ (by omega)]; first | assumption | exact va_up_self _ _ _ | (rw [va_up_ne _ _ (by omega)]; first | assumption | exact va_up_self _ _ _ | (rw [va_up_ne _ _ (by omega)]; first | assumption | exact va_up_self _ _ _)))))) (by congr 1; omega) (by omega) (by omega) ?_
      rw [hch (y - 1) (by omega)]
      cases c3 : lc (y - 1) with
      | false =>
        refine mx_if_neN 28 (mx_d D_M_begins 13 rfl) (by decide) (by decide) (by decide) (by decide) ?_
        exact yes (by simp [bgB, c1, c3])
      | true =>
        refine mx_if_neY 28 (mx_d D_M_begins 13 rfl) (by decide) (by decide) (by decide) (by decide) ?_
        exact no (by simp [bgB, c1, c2, c3])
theorem m_spans (hG : mx_ok G) (hN : 63 ≤ N) (h50 : ce 50 = rs0 G th Y U nE iE nD rA rS rN pN rw) {ch : Nat → Bool} (h56 : ce 56 = aB G 60 ch) (hY : Y ≤ 60) (hch : ∀ y, y < Y → ch y = lc y)
    (q : Q (.inl (some (.int (iI (bgN lc Y : Nat))))) N ce bc bs) : mx_M G Y_M_spans (d + 1) bc bs false N ce 0 [(0, .ref (mx_B G + 50))] [] Q := by
  refine mx_iconst (n := 0) (mx_d D_M_spans 0 rfl) ?_
  refine mx_istore_n (k4 := 1) (mx_d D_M_spans 1 rfl) (by decide) ?_
  refine mx_iconst (n := 0) (mx_d D_M_spans 2 rfl) ?_
  refine mx_istore_n (k4 := 2) (mx_d D_M_spans 3 rfl) (by decide) ?_
  suffices H : ∀ k j : Nat, j + k = Y → mx_M G Y_M_spans (d + 1) bc bs false N ce 4 [(0, .ref (mx_B G + 50)), (1, .int (iI (bgN lc j : Nat))), (2, .int (iI j))] [] Q from mx_loc (by rfl) (H Y 0 (by omega))
  intro k
  induction k with
  | zero =>
    intro j hj
    obtain rfl : j = Y := by omega
    refine mx_iload_n (k4 := 2) (mx_d D_M_spans 4 rfl) (by rfl) ?_
    refine mx_aload_n (k4 := 0) (mx_d D_M_spans 5 rfl) (by rfl) ?_
    refine mx_getf hG (idx := 51) (ci := 7) (kf := 1) (mx_d D_M_spans 6 rfl) (by rfl) cls_M (by decide) w_582 (by first | assumption | omega) (by first | assumption | exact va_up_self _ _ _ | (rw [va_up_ne _ _ (by omega)]; first | assumption | exact va_up_self _ _ _ | (rw [va_up_ne _ _ (by omega)]; first | assumption | exact va_up_self _ _ _ | (rw [va_up_ne _ _ (by omega)]; first | assumption | exact va_up_self _ _ _ | (rw [va_up_ne _ _ (by omega)]; first | assumption | exact va_up_self _ _ _ | (rw [va_up_ne _ _ (by omega)]; first | assumption | exact va_up_self _ _ _)))))) (by rfl) ?_
    refine mx_icmp_geY 34 (mx_d D_M_spans 7 rfl) (by decide) (by omega) (by omega) (by omega) (by omega) (by omega) ?_
    refine mx_iload_n (k4 := 1) (mx_d D_M_spans 20 rfl) (by rfl) ?_
    refine mx_iret (by rfl) (mx_d D_M_spans 21 rfl) ?_
    exact q
  | succ k ih =>
    intro j hj
    refine mx_iload_n (k4 := 2) (mx_d D_M_spans 4 rfl) (by rfl) ?_
    refine mx_aload_n (k4 := 0) (mx_d D_M_spans 5 rfl) (by rfl) ?_
    refine mx_getf hG (idx := 51) (ci := 7) (kf := 1) (mx_d D_M_spans 6 rfl) (by rfl) cls_M (by decide) w_582 (by first | assumption | omega) (by first | assumption | exact va_up_self _ _ _ | (rw [va_up_ne _ _ (by omega)]; first | assumption | exact va_up_self _ _ _ | (rw [va_up_ne _ _ (by omega)]; first | assumption | exact va_up_self _ _ _ | (rw [va_up_ne _ _ (by omega)]; first | assumption | exact va_up_self _ _ _ | (rw [va_up_ne _ _ (by omega)]; first | assumption | exact va_up_self _ _ _ | (rw [va_up_ne _ _ (by omega)]; first | assumption | exact va_up_self _ _ _)))))) (by rfl) ?_
    refine mx_icmp_geN 34 (mx_d D_M_spans 7 rfl) (by decide) (by omega) (by omega) (by omega) (by omega) (by omega) ?_
    refine mx_aload_n (k4 := 0) (mx_d D_M_spans 8 rfl) (by rfl) ?_
    refine mx_iload_n (k4 := 2) (mx_d D_M_spans 9 rfl) (by rfl) ?_
    refine mx_callV hG (Y' := Y_M_begins) (ci := 7) [_] (mx_d D_M_spans 10 rfl) in_M_begins w_739 w_741 s_M_begins (by rfl) np_M_begins (by exact Nat.le_of_ble_eq_true rfl) (by rfl) (by first | assumption | omega) (by first | assumption | exact va_up_self _ _ _ | (rw [va_up_ne _ _ (by omega)]; first | assumption | exact va_up_self _ _ _ | (rw [va_up_ne _ _ (by omega)]; first | assumption | exact va_up_self _ _ _ | (rw [va_up_ne _ _ (by omega)]; first | assumption | exact va_up_self _ _ _ | (rw [va_up_ne _ _ (by omega)]; first | assumption | exact va_up_self _ _ _ | (rw [va_up_ne _ _ (by omega)]; first | assumption | exact va_up_self _ _ _)))))) (by rfl) (by exact Nat.le_of_ble_eq_true rfl) (m_begins hG hN h50 h56 hY hch (y := j) (by omega) ?_)
    cases c1 : bgB lc j with
    | false =>
      refine mx_if_eqY 26 (mx_d D_M_spans 11 rfl) (by decide) (by decide) (by decide) (by decide) ?_
      refine mx_iload_n (k4 := 1) (mx_d D_M_spans 16 rfl) (by rfl) ?_
      refine mx_istore_n (k4 := 1) (mx_d D_M_spans 17 rfl) (by decide) ?_
      refine mx_iincI (i := 2) (n := 1) (mx_d D_M_spans 18 rfl) (by rfl) (by decide) ?_
      refine mx_goto 4 (mx_d D_M_spans 19 rfl) (by decide) ?_
      refine mx_loc ?_ (ih (j + 1) (by omega))
      simp only [bgN, c1]
      rfl
    | true =>
      refine mx_if_eqN 26 (mx_d D_M_spans 11 rfl) (by decide) (by decide) (by decide) (by decide) ?_
      refine mx_iload_n (k4 := 1) (mx_d D_M_spans 12 rfl) (by rfl) ?_
      refine mx_iconst (n := 1) (mx_d D_M_spans 13 rfl) ?_
      refine mx_iaddI (mx_d D_M_spans 14 rfl) ?_
      refine mx_goto 27 (mx_d D_M_spans 15 rfl) (by decide) ?_
      refine mx_istore_n (k4 := 1) (mx_d D_M_spans 17 rfl) (by decide) ?_
      refine mx_iincI (i := 2) (n := 1) (mx_d D_M_spans 18 rfl) (by rfl) (by decide) ?_
      refine mx_goto 4 (mx_d D_M_spans 19 rfl) (by decide) ?_
      refine mx_loc ?_ (ih (j + 1) (by omega))
      simp only [bgN, c1]
      rfl
end MB
