/-! the reference: joinRepeats, mix -/
section MF
variable {G : mx_G} {d bc bs : Nat} {N : Nat} {ce : Nat → va_E} {Q : mx_P} {Y : Nat} {U : Int} {nE iE nD : Nat} {rA rS : Int} {eA eS : Nat → Nat → Int} {dA dS : Nat → Int} {dW : Nat → Nat → Int} {lc : Nat → Bool} {rn rg : Nat → Nat} {rN : Nat} {ps : Nat → Int} {pN : Nat} {th : Int}
theorem m_join (hG : mx_ok G) (hN : 63 ≤ N) (hV : IV Y U nE iE nD rA rS eA eS dA dS dW lc rn rg rN ps pN) (hR : RS G Y U nE iE nD rA rS eA eS dA dS dW lc rn rg rN ps pN th ce) {a b : Int} (a1 : -2147483648 ≤ a) (a2 : a < 2147483648) (b1 : -2147483648 ≤ b) (b2 : b < 2147483648)
    (q0 : ∀ ce', ¬ ((0 ≤ a ∧ a < nD) ∧ 0 ≤ b ∧ b < nD) → RS G Y U nE iE nD rA rS eA eS dA dS dW lc rn rg rN ps pN 1 ce' → (∀ k, k < 50 ∨ 63 ≤ k → ce' k = ce k) → Q (.inl (some (.int (iI 0)))) N ce' bc bs)
    (q1 : ∀ ce', ((0 ≤ a ∧ a < nD) ∧ 0 ≤ b ∧ b < nD) → ¬ nD < 12 → RS G Y U nE iE nD rA rS eA eS dA dS dW lc rn rg rN ps pN 2 ce' → (∀ k, k < 50 ∨ 63 ≤ k → ce' k = ce k) → Q (.inl (some (.int (iI 0)))) N ce' bc bs)
    (q2 : ∀ ce' (i j : Nat), a = i → b = j → i < nD → j < nD → nD < 12 → ¬ (0 < dS i ∧ 0 < dS j ∧ (dA i - dA j) * (dA i - dA j) ≤ 4 * (dS i * dS i + dS j * dS j)) → RS G Y U nE iE nD rA rS eA eS dA dS dW lc rn rg rN ps pN 0 ce' → (∀ k, k < 50 ∨ 63 ≤ k → ce' k = ce k) → Q (.inl (some (.int (iI (-1))))) N ce' bc bs)
    (q3 : ∀ ce' (i j : Nat) (A r : Int), a = i → b = j → i < nD → j < nD → nD < 12 → (0 < dS i ∧ 0 < dS j ∧ (dA i - dA j) * (dA i - dA j) ≤ 4 * (dS i * dS i + dS j * dS j)) → A = (dA i * (dS j * dS j) + dA j * (dS i * dS i)) / (dS i * dS i + dS j * dS j) → isRt (dS i * dS i * (dS j * dS j) / (dS i * dS i + dS j * dS j)) r → (∀ h : Nat → Int, (∀ y, y < Y → h y = wgt U (r * r + rS * rS) (A - rA) (eA iE y) (eS iE y)) → RS G Y U nE iE (nD + 1) rA rS eA eS (va_up dA nD A) (va_up dS nD r) (va_up dW nD h) lc rn rg rN ps pN 0 ce') → (∀ k, k < 50 ∨ 63 ≤ k → ce' k = ce k) → Q (.inl (some (.int (iI (nD : Nat))))) N ce' bc bs) : mx_M G Y_M_joinRepeats (d + 3) bc bs false N ce 0 [(0, .ref (mx_B G + 50)), (1, .int (iI a)), (2, .int (iI b))] [] Q := by
  have hV0 := hV
  obtain ⟨hY, hU, hE, hD, hrA, hrS, hEA, hES, hDA, hDS, hDz, hDW, hrN, hrn, hpN, hps⟩ := hV
  obtain ⟨rw, h50, hA⟩ := hR
  have body : ∀ (i j : Nat), a = i → b = j → i < nD → j < nD → nD < 12 → mx_M G Y_M_joinRepeats (d + 3) bc bs false N (va_up ce 50 (rs0 G 0 Y U nE iE nD rA rS rN pN rw)) 45 [(0, .ref (mx_B G + 50)), (1, .int (iI a)), (2, .int (iI b))] [] Q := by
    intro i j ha hb hi hj hn
    subst ha; subst hb
    have hA0 := hA
    obtain ⟨fA, fS, fW, ch, tY, tA, tS, ⟨h51, h52, h53, h54, h55, h56, h57, h58, h59, h60, h61, h62⟩, hfe, hfw, hch⟩ := hA
    have A1 := hDA i (by omega)
    have A2 := hDA j (by omega)
    have S1 := hDS i (by omega)
    have S2 := hDS j (by omega)
    have p0 := sq_nn (dS i)
    have r0 := sq_nn (dS j)
    have p2 : dS i * dS i ≤ 100 * 100 := sq_le (by omega) S1.2
    have r2 : dS j * dS j ≤ 100 * 100 := sq_le (by omega) S2.2
    have d1 := sq_nn (dA i - dA j)
    have d2 : (dA i - dA j) * (dA i - dA j) ≤ 3000 * 3000 := sq_le (by omega) (by omega)
    have pz : dS i * dS i = 0 ↔ ¬ 0 < dS i := ⟨fun h z => by have := Int.mul_pos z z; omega, fun h => by rw [show dS i = 0 by omega]; rfl⟩
    have rz : dS j * dS j = 0 ↔ ¬ 0 < dS j := ⟨fun h z => by have := Int.mul_pos z z; omega, fun h => by rw [show dS j = 0 by omega]; rfl⟩
    have none_ : ∀ {l9 : List (Nat × Value)}, ¬ (0 < dS i ∧ 0 < dS j ∧ (dA i - dA j) * (dA i - dA j) ≤ 4 * (dS i * dS i + dS j * dS j)) → mx_M G Y_M_joinRepeats (d + 3) bc bs false N (va_up ce 50 (rs0 G 0 Y U nE iE nD rA rS rN pN rw)) 112 l9 [] Q := by
      intro l9 h
      refine mx_iconst (n := -1) (mx_d D_M_joinRepeats 67 rfl) ?_
      refine mx_iret (by rfl) (mx_d D_M_joinRepeats 68 rfl) ?_
      exact q2 _ i j rfl rfl hi hj hn h (RS.thr hA0) fr50
    refine mx_aload_n (k4 := 0) (mx_d D_M_joinRepeats 24 rfl) (by rfl) ?_
    refine mx_getf hG (idx := 26) (ci := 7) (kf := 12) (mx_d D_M_joinRepeats 25 rfl) (by rfl) cls_M (by decide) w_593 (by first | assumption | omega) (by first | assumption | exact va_up_self _ _ _ | (rw [va_up_ne _ _ (by omega)]; first | assumption | exact va_up_self _ _ _ | (rw [va_up_ne _ _ (by omega)]; first | assumption | exact va_up_self _ _ _ | (rw [va_up_ne _ _ (by omega)]; first | assumption | exact va_up_self _ _ _ | (rw [va_up_ne _ _ (by omega)]; first | assumption | exact va_up_self _ _ _ | (rw [va_up_ne _ _ (by omega)]; first | assumption | exact va_up_self _ _ _)))))) (by rfl) ?_
    refine mx_iload_n (k4 := 1) (mx_d D_M_joinRepeats 26 rfl) (by rfl) ?_
    refine mx_ialdI hG _ (mx_d D_M_joinRepeats 27 rfl) (by first | assumption | omega) (by first | assumption | exact va_up_self _ _ _ | (rw [va_up_ne _ _ (by omega)]; first | assumption | exact va_up_self _ _ _ | (rw [va_up_ne _ _ (by omega)]; first | assumption | exact va_up_self _ _ _ | (rw [va_up_ne _ _ (by omega)]; first | assumption | exact va_up_self _ _ _ | (rw [va_up_ne _ _ (by omega)]; first | assumption | exact va_up_self _ _ _ | (rw [va_up_ne _ _ (by omega)]; first | assumption | exact va_up_self _ _ _)))))) (by rfl) (by omega) (by omega) ?_
    refine mx_aload_n (k4 := 0) (mx_d D_M_joinRepeats 28 rfl) (by rfl) ?_
    refine mx_getf hG (idx := 26) (ci := 7) (kf := 12) (mx_d D_M_joinRepeats 29 rfl) (by rfl) cls_M (by decide) w_593 (by first | assumption | omega) (by first | assumption | exact va_up_self _ _ _ | (rw [va_up_ne _ _ (by omega)]; first | assumption | exact va_up_self _ _ _ | (rw [va_up_ne _ _ (by omega)]; first | assumption | exact va_up_self _ _ _ | (rw [va_up_ne _ _ (by omega)]; first | assumption | exact va_up_self _ _ _ | (rw [va_up_ne _ _ (by omega)]; first | assumption | exact va_up_self _ _ _ | (rw [va_up_ne _ _ (by omega)]; first | assumption | exact va_up_self _ _ _)))))) (by rfl) ?_
    refine mx_iload_n (k4 := 1) (mx_d D_M_joinRepeats 30 rfl) (by rfl) ?_
    refine mx_ialdI hG _ (mx_d D_M_joinRepeats 31 rfl) (by first | assumption | omega) (by first | assumption | exact va_up_self _ _ _ | (rw [va_up_ne _ _ (by omega)]; first | assumption | exact va_up_self _ _ _ | (rw [va_up_ne _ _ (by omega)]; first | assumption | exact va_up_self _ _ _ | (rw [va_up_ne _ _ (by omega)]; first | assumption | exact va_up_self _ _ _ | (rw [va_up_ne _ _ (by omega)]; first | assumption | exact va_up_self _ _ _ | (rw [va_up_ne _ _ (by omega)]; first | assumption | exact va_up_self _ _ _)))))) (by rfl) (by omega) (by omega) ?_
    refine mx_imulI (mx_d D_M_joinRepeats 32 rfl) ?_
    refine mx_istore_n (k4 := 3) (mx_d D_M_joinRepeats 33 rfl) (by decide) ?_
    refine mx_aload_n (k4 := 0) (mx_d D_M_joinRepeats 34 rfl) (by rfl) ?_
    refine mx_getf hG (idx := 26) (ci := 7) (kf := 12) (mx_d D_M_joinRepeats 35 rfl) (by rfl) cls_M (by decide) w_593 (by first | assumption | omega) (by first | assumption | exact va_up_self _ _ _ | (rw [va_up_ne _ _ (by omega)]; first | assumption | exact va_up_self _ _ _ | (rw [va_up_ne _ _ (by omega)]; first | assumption | exact va_up_self _ _ _ | (rw [va_up_ne _ _ (by omega)]; first | assumption | exact va_up_self _ _ _ | (rw [va_up_ne _ _ (by omega)]; first | assumption | exact va_up_self _ _ _ | (rw [va_up_ne _ _ (by omega)]; first | assumption | exact va_up_self _ _ _)))))) (by rfl) ?_
    refine mx_iload_n (k4 := 2) (mx_d D_M_joinRepeats 36 rfl) (by rfl) ?_
    refine mx_ialdI hG _ (mx_d D_M_joinRepeats 37 rfl) (by first | assumption | omega) (by first | assumption | exact va_up_self _ _ _ | (rw [va_up_ne _ _ (by omega)]; first | assumption | exact va_up_self _ _ _ | (rw [va_up_ne _ _ (by omega)]; first | assumption | exact va_up_self _ _ _ | (rw [va_up_ne _ _ (by omega)]; first | assumption | exact va_up_self _ _ _ | (rw [va_up_ne _ _ (by omega)]; first | assumption | exact va_up_self _ _ _ | (rw [va_up_ne _ _ (by omega)]; first | assumption | exact va_up_self _ _ _)))))) (by rfl) (by omega) (by omega) ?_
    refine mx_aload_n (k4 := 0) (mx_d D_M_joinRepeats 38 rfl) (by rfl) ?_
    refine mx_getf hG (idx := 26) (ci := 7) (kf := 12) (mx_d D_M_joinRepeats 39 rfl) (by rfl) cls_M (by decide) w_593 (by first | assumption | omega) (by first | assumption | exact va_up_self _ _ _ | (rw [va_up_ne _ _ (by omega)]; first | assumption | exact va_up_self _ _ _ | (rw [va_up_ne _ _ (by omega)]; first | assumption | exact va_up_self _ _ _ | (rw [va_up_ne _ _ (by omega)]; first | assumption | exact va_up_self _ _ _ | (rw [va_up_ne _ _ (by omega)]; first | assumption | exact va_up_self _ _ _ | (rw [va_up_ne _ _ (by omega)]; first | assumption | exact va_up_self _ _ _)))))) (by rfl) ?_
    refine mx_iload_n (k4 := 2) (mx_d D_M_joinRepeats 40 rfl) (by rfl) ?_
    refine mx_ialdI hG _ (mx_d D_M_joinRepeats 41 rfl) (by first | assumption | omega) (by first | assumption | exact va_up_self _ _ _ | (rw [va_up_ne _ _ (by omega)]; first | assumption | exact va_up_self _ _ _ | (rw [va_up_ne _ _ (by omega)]; first | assumption | exact va_up_self _ _ _ | (rw [va_up_ne _ _ (by omega)]; first | assumption | exact va_up_self _ _ _ | (rw [va_up_ne _ _ (by omega)]; first | assumption | exact va_up_self _ _ _ | (rw [va_up_ne _ _ (by omega)]; first | assumption | exact va_up_self _ _ _)))))) (by rfl) (by omega) (by omega) ?_
    refine mx_imulI (mx_d D_M_joinRepeats 42 rfl) ?_
    refine mx_istore (i := 4) (mx_d D_M_joinRepeats 43 rfl) (by decide) ?_
    refine mx_aload_n (k4 := 0) (mx_d D_M_joinRepeats 44 rfl) (by rfl) ?_
    refine mx_getf hG (idx := 23) (ci := 7) (kf := 11) (mx_d D_M_joinRepeats 45 rfl) (by rfl) cls_M (by decide) w_592 (by first | assumption | omega) (by first | assumption | exact va_up_self _ _ _ | (rw [va_up_ne _ _ (by omega)]; first | assumption | exact va_up_self _ _ _ | (rw [va_up_ne _ _ (by omega)]; first | assumption | exact va_up_self _ _ _ | (rw [va_up_ne _ _ (by omega)]; first | assumption | exact va_up_self _ _ _ | (rw [va_up_ne _ _ (by omega)]; first | assumption | exact va_up_self _ _ _ | (rw [va_up_ne _ _ (by omega)]; first | assumption | exact va_up_self _ _ _)))))) (by rfl) ?_
    refine mx_iload_n (k4 := 1) (mx_d D_M_joinRepeats 46 rfl) (by rfl) ?_
    refine mx_ialdI hG _ (mx_d D_M_joinRepeats 47 rfl) (by first | assumption | omega) (by first | assumption | exact va_up_self _ _ _ | (rw [va_up_ne _ _ (by omega)]; first | assumption | exact va_up_self _ _ _ | (rw [va_up_ne _ _ (by omega)]; first | assumption | exact va_up_self _ _ _ | (rw [va_up_ne _ _ (by omega)]; first | assumption | exact va_up_self _ _ _ | (rw [va_up_ne _ _ (by omega)]; first | assumption | exact va_up_self _ _ _ | (rw [va_up_ne _ _ (by omega)]; first | assumption | exact va_up_self _ _ _)))))) (by rfl) (by omega) (by omega) ?_
    refine mx_aload_n (k4 := 0) (mx_d D_M_joinRepeats 48 rfl) (by rfl) ?_
    refine mx_getf hG (idx := 23) (ci := 7) (kf := 11) (mx_d D_M_joinRepeats 49 rfl) (by rfl) cls_M (by decide) w_592 (by first | assumption | omega) (by first | assumption | exact va_up_self _ _ _ | (rw [va_up_ne _ _ (by omega)]; first | assumption | exact va_up_self _ _ _ | (rw [va_up_ne _ _ (by omega)]; first | assumption | exact va_up_self _ _ _ | (rw [va_up_ne _ _ (by omega)]; first | assumption | exact va_up_self _ _ _ | (rw [va_up_ne _ _ (by omega)]; first | assumption | exact va_up_self _ _ _ | (rw [va_up_ne _ _ (by omega)]; first | assumption | exact va_up_self _ _ _)))))) (by rfl) ?_
    refine mx_iload_n (k4 := 2) (mx_d D_M_joinRepeats 50 rfl) (by rfl) ?_
    refine mx_ialdI hG _ (mx_d D_M_joinRepeats 51 rfl) (by first | assumption | omega) (by first | assumption | exact va_up_self _ _ _ | (rw [va_up_ne _ _ (by omega)]; first | assumption | exact va_up_self _ _ _ | (rw [va_up_ne _ _ (by omega)]; first | assumption | exact va_up_self _ _ _ | (rw [va_up_ne _ _ (by omega)]; first | assumption | exact va_up_self _ _ _ | (rw [va_up_ne _ _ (by omega)]; first | assumption | exact va_up_self _ _ _ | (rw [va_up_ne _ _ (by omega)]; first | assumption | exact va_up_self _ _ _)))))) (by rfl) (by omega) (by omega) ?_
    refine mx_isubI (mx_d D_M_joinRepeats 52 rfl) ?_
    refine mx_istore (i := 5) (mx_d D_M_joinRepeats 53 rfl) (by decide) ?_
    refine mx_iload_n (k4 := 3) (mx_d D_M_joinRepeats 54 rfl) (by rfl) ?_
    by_cases m1 : 0 < dS i
    · have m1' : ¬ dS i * dS i = 0 := fun z => pz.mp z m1
      refine mx_if_eqN 112 (mx_d D_M_joinRepeats 55 rfl) (by decide) (by omega) (by omega) (by omega) ?_
      refine mx_iload (i := 4) (mx_d D_M_joinRepeats 56 rfl) (by rfl) ?_
      by_cases m2 : 0 < dS j
      · have m2' : ¬ dS j * dS j = 0 := fun z => rz.mp z m2
        have q3' := fun ce' A t => q3 ce' i j A t rfl rfl hi hj hn
        clear q3
        refine mx_if_eqN 112 (mx_d D_M_joinRepeats 57 rfl) (by decide) (by omega) (by omega) (by omega) ?_
        refine mx_iload (i := 5) (mx_d D_M_joinRepeats 58 rfl) (by rfl) ?_
        refine mx_iload (i := 5) (mx_d D_M_joinRepeats 59 rfl) (by rfl) ?_
        refine mx_imulI (mx_d D_M_joinRepeats 60 rfl) ?_
        refine mx_iconst (n := 4) (mx_d D_M_joinRepeats 61 rfl) ?_
        refine mx_iload_n (k4 := 3) (mx_d D_M_joinRepeats 62 rfl) (by rfl) ?_
        refine mx_iload (i := 4) (mx_d D_M_joinRepeats 63 rfl) (by rfl) ?_
        refine mx_iaddI (mx_d D_M_joinRepeats 64 rfl) ?_
        refine mx_imulI (mx_d D_M_joinRepeats 65 rfl) ?_
        by_cases hc : (dA i - dA j) * (dA i - dA j) ≤ 4 * (dS i * dS i + dS j * dS j)
        · generalize hp : dS i * dS i = p at *
          generalize hr : dS j * dS j = r at *
          have x1 : 0 ≤ dA i * r := Int.mul_nonneg A1.1 (by omega)
          have x2 : dA i * r ≤ 3000 * r := Int.mul_le_mul_of_nonneg_right A1.2 (by omega)
          have x3 : 0 ≤ dA j * p := Int.mul_nonneg A2.1 (by omega)
          have x4 : dA j * p ≤ 3000 * p := Int.mul_le_mul_of_nonneg_right A2.2 (by omega)
          have x5 : 0 ≤ p * r := Int.mul_nonneg (by omega) (by omega)
          have x6 : p * r ≤ 10000 * r := Int.mul_le_mul_of_nonneg_right (by omega) (by omega)
          have hA' : 0 ≤ (dA i * r + dA j * p) / (p + r) ∧ (dA i * r + dA j * p) / (p + r) ≤ 3000 := ⟨Int.ediv_nonneg (by omega) (by omega), Int.ediv_le_of_le_mul (by omega) (by omega)⟩
          have hQ : 0 ≤ p * r / (p + r) ∧ p * r / (p + r) ≤ 10000 := ⟨Int.ediv_nonneg (by omega) (by omega), Int.ediv_le_of_le_mul (by omega) (by omega)⟩
          have hlast : ∀ t : Int, isRt (p * r / (p + r)) t → ∀ {l9 : List (Nat × Value)}, l9 = l9 → mx_get l9 0 = some (.ref (mx_B G + 50)) → mx_get l9 6 = some (.int (iI ((dA i * r + dA j * p) / (p + r)))) → mx_get l9 8 = some (.int (iI t)) → mx_M G Y_M_joinRepeats (d + 3) bc bs false N (va_up ce 50 (rs0 G 0 Y U nE iE nD rA rS rN pN rw)) 173 l9 [] Q := by
            intro t ht l9 _ g0 g6 g8
            refine mx_loc (l' := [(0, .ref (mx_B G + 50)), (6, .int (iI ((dA i * r + dA j * p) / (p + r)))), (8, .int (iI t))]) (by simp only [List.map_cons, List.map_nil, g0, g6, g8]) ?_
            refine mx_aload_n (k4 := 0) (mx_d D_M_joinRepeats 108 rfl) (by rfl) ?_
            refine mx_iload (i := 6) (mx_d D_M_joinRepeats 109 rfl) (by rfl) ?_
            refine mx_iload (i := 8) (mx_d D_M_joinRepeats 110 rfl) (by rfl) ?_
            refine mx_callV hG (Y' := Y_M_measure) (ci := 7) [_, _] (mx_d D_M_joinRepeats 111 rfl) in_M_measure w_690 w_692 s_M_measure (by rfl) np_M_measure (by exact Nat.le_of_ble_eq_true rfl) (by rfl) (by first | assumption | omega) (by first | assumption | exact va_up_self _ _ _ | (rw [va_up_ne _ _ (by omega)]; first | assumption | exact va_up_self _ _ _ | (rw [va_up_ne _ _ (by omega)]; first | assumption | exact va_up_self _ _ _ | (rw [va_up_ne _ _ (by omega)]; first | assumption | exact va_up_self _ _ _ | (rw [va_up_ne _ _ (by omega)]; first | assumption | exact va_up_self _ _ _ | (rw [va_up_ne _ _ (by omega)]; first | assumption | exact va_up_self _ _ _)))))) (by rfl) (by exact Nat.le_of_ble_eq_true rfl) (m_measureA hG hN hV0 (th := 0) (RS.thr hA0) hn hA' ⟨ht.1, ht.2.1⟩ (fun ce' k1 k2 => ?_))
            refine mx_iret (by rfl) (mx_d D_M_joinRepeats 112 rfl) ?_
            exact q3' ce' _ t ⟨m1, m2, hc⟩ rfl ht k1 (fun k hk => (k2 k hk).trans (fr50 k hk))
          refine mx_icmp_leY 114 (mx_d D_M_joinRepeats 66 rfl) (by decide) (by omega) (by omega) (by omega) (by omega) (by omega) ?_
          refine mx_aload_n (k4 := 0) (mx_d D_M_joinRepeats 69 rfl) (by rfl) ?_
          refine mx_getf hG (idx := 23) (ci := 7) (kf := 11) (mx_d D_M_joinRepeats 70 rfl) (by rfl) cls_M (by decide) w_592 (by first | assumption | omega) (by first | assumption | exact va_up_self _ _ _ | (rw [va_up_ne _ _ (by omega)]; first | assumption | exact va_up_self _ _ _ | (rw [va_up_ne _ _ (by omega)]; first | assumption | exact va_up_self _ _ _ | (rw [va_up_ne _ _ (by omega)]; first | assumption | exact va_up_self _ _ _ | (rw [va_up_ne _ _ (by omega)]; first | assumption | exact va_up_self _ _ _ | (rw [va_up_ne _ _ (by omega)]; first | assumption | exact va_up_self _ _ _)))))) (by rfl) ?_
          refine mx_iload_n (k4 := 1) (mx_d D_M_joinRepeats 71 rfl) (by rfl) ?_
          refine mx_ialdI hG _ (mx_d D_M_joinRepeats 72 rfl) (by first | assumption | omega) (by first | assumption | exact va_up_self _ _ _ | (rw [va_up_ne _ _ (by omega)]; first | assumption | exact va_up_self _ _ _ | (rw [va_up_ne _ _ (by omega)]; first | assumption | exact va_up_self _ _ _ | (rw [va_up_ne _ _ (by omega)]; first | assumption | exact va_up_self _ _ _ | (rw [va_up_ne _ _ (by omega)]; first | assumption | exact va_up_self _ _ _ | (rw [va_up_ne _ _ (by omega)]; first | assumption | exact va_up_self _ _ _)))))) (by rfl) (by omega) (by omega) ?_
          refine mx_iload (i := 4) (mx_d D_M_joinRepeats 73 rfl) (by rfl) ?_
          refine mx_imulI (mx_d D_M_joinRepeats 74 rfl) ?_
          refine mx_aload_n (k4 := 0) (mx_d D_M_joinRepeats 75 rfl) (by rfl) ?_
          refine mx_getf hG (idx := 23) (ci := 7) (kf := 11) (mx_d D_M_joinRepeats 76 rfl) (by rfl) cls_M (by decide) w_592 (by first | assumption | omega) (by first | assumption | exact va_up_self _ _ _ | (rw [va_up_ne _ _ (by omega)]; first | assumption | exact va_up_self _ _ _ | (rw [va_up_ne _ _ (by omega)]; first | assumption | exact va_up_self _ _ _ | (rw [va_up_ne _ _ (by omega)]; first | assumption | exact va_up_self _ _ _ | (rw [va_up_ne _ _ (by omega)]; first | assumption | exact va_up_self _ _ _ | (rw [va_up_ne _ _ (by omega)]; first | assumption | exact va_up_self _ _ _)))))) (by rfl) ?_
          refine mx_iload_n (k4 := 2) (mx_d D_M_joinRepeats 77 rfl) (by rfl) ?_
          refine mx_ialdI hG _ (mx_d D_M_joinRepeats 78 rfl) (by first | assumption | omega) (by first | assumption | exact va_up_self _ _ _ | (rw [va_up_ne _ _ (by omega)]; first | assumption | exact va_up_self _ _ _ | (rw [va_up_ne _ _ (by omega)]; first | assumption | exact va_up_self _ _ _ | (rw [va_up_ne _ _ (by omega)]; first | assumption | exact va_up_self _ _ _ | (rw [va_up_ne _ _ (by omega)]; first | assumption | exact va_up_self _ _ _ | (rw [va_up_ne _ _ (by omega)]; first | assumption | exact va_up_self _ _ _)))))) (by rfl) (by omega) (by omega) ?_
          refine mx_iload_n (k4 := 3) (mx_d D_M_joinRepeats 79 rfl) (by rfl) ?_
          refine mx_imulI (mx_d D_M_joinRepeats 80 rfl) ?_
          refine mx_iaddI (mx_d D_M_joinRepeats 81 rfl) ?_
          refine mx_iload_n (k4 := 3) (mx_d D_M_joinRepeats 82 rfl) (by rfl) ?_
          refine mx_iload (i := 4) (mx_d D_M_joinRepeats 83 rfl) (by rfl) ?_
          refine mx_iaddI (mx_d D_M_joinRepeats 84 rfl) ?_
          refine mx_divI (mx_d D_M_joinRepeats 85 rfl) (by omega) (by omega) (by omega) (by omega) ?_
          refine mx_istore (i := 6) (mx_d D_M_joinRepeats 86 rfl) (by decide) ?_
          refine mx_iload_n (k4 := 3) (mx_d D_M_joinRepeats 87 rfl) (by rfl) ?_
          refine mx_iload (i := 4) (mx_d D_M_joinRepeats 88 rfl) (by rfl) ?_
          refine mx_imulI (mx_d D_M_joinRepeats 89 rfl) ?_
          refine mx_iload_n (k4 := 3) (mx_d D_M_joinRepeats 90 rfl) (by rfl) ?_
          refine mx_iload (i := 4) (mx_d D_M_joinRepeats 91 rfl) (by rfl) ?_
          refine mx_iaddI (mx_d D_M_joinRepeats 92 rfl) ?_
          refine mx_divI (mx_d D_M_joinRepeats 93 rfl) (by omega) (by omega) (by omega) (by omega) ?_
          refine mx_istore (i := 7) (mx_d D_M_joinRepeats 94 rfl) (by decide) ?_
          refine mx_iconst (n := 1) (mx_d D_M_joinRepeats 95 rfl) ?_
          refine mx_istore (i := 8) (mx_d D_M_joinRepeats 96 rfl) (by decide) ?_
          generalize hsq : p * r / (p + r) = sq at *
          suffices H : ∀ (k : Nat) (t : Int), t + k = 100 → 1 ≤ t → (t = 1 ∨ t * t ≤ sq) → ∀ {l9 : List (Nat × Value)}, l9 = l9 → mx_get l9 0 = some (.ref (mx_B G + 50)) → mx_get l9 6 = some (.int (iI ((dA i * r + dA j * p) / (p + r)))) → mx_get l9 7 = some (.int (iI sq)) → mx_get l9 8 = some (.int (iI t)) → mx_M G Y_M_joinRepeats (d + 3) bc bs false N (va_up ce 50 (rs0 G 0 Y U nE iE nD rA rS rN pN rw)) 153 l9 [] Q from H 99 1 (by omega) (by omega) (Or.inl rfl) rfl rfl rfl rfl rfl
          intro k
          induction k with
          | zero =>
            intro t ht1 ht2 ht3 l9 _ g0 g6 g7 g8
            refine mx_loc (l' := [(0, .ref (mx_B G + 50)), (6, .int (iI ((dA i * r + dA j * p) / (p + r)))), (7, .int (iI sq)), (8, .int (iI t))]) (by simp only [List.map_cons, List.map_nil, g0, g6, g7, g8]) ?_
            obtain rfl : t = 100 := by omega
            refine mx_iload (i := 8) (mx_d D_M_joinRepeats 97 rfl) (by rfl) ?_
            refine mx_iconst (n := 1) (mx_d D_M_joinRepeats 98 rfl) ?_
            refine mx_iaddI (mx_d D_M_joinRepeats 99 rfl) ?_
            refine mx_iload (i := 8) (mx_d D_M_joinRepeats 100 rfl) (by rfl) ?_
            refine mx_iconst (n := 1) (mx_d D_M_joinRepeats 101 rfl) ?_
            refine mx_iaddI (mx_d D_M_joinRepeats 102 rfl) ?_
            refine mx_imulI (mx_d D_M_joinRepeats 103 rfl) ?_
            refine mx_iload (i := 7) (mx_d D_M_joinRepeats 104 rfl) (by rfl) ?_
            refine mx_icmp_gtY 173 (mx_d D_M_joinRepeats 105 rfl) (by decide) (by omega) (by omega) (by omega) (by omega) (by omega) ?_
            exact hlast 100 ⟨by omega, by omega, ht3, by omega⟩ rfl rfl rfl rfl
          | succ k ih =>
            intro t ht1 ht2 ht3 l9 _ g0 g6 g7 g8
            refine mx_loc (l' := [(0, .ref (mx_B G + 50)), (6, .int (iI ((dA i * r + dA j * p) / (p + r)))), (7, .int (iI sq)), (8, .int (iI t))]) (by simp only [List.map_cons, List.map_nil, g0, g6, g7, g8]) ?_
            have t1 := sq_nn (t + 1)
            have t2 : (t + 1) * (t + 1) ≤ 100 * 100 := sq_le (by omega) (by omega)
            refine mx_iload (i := 8) (mx_d D_M_joinRepeats 97 rfl) (by rfl) ?_
            refine mx_iconst (n := 1) (mx_d D_M_joinRepeats 98 rfl) ?_
            refine mx_iaddI (mx_d D_M_joinRepeats 99 rfl) ?_
            refine mx_iload (i := 8) (mx_d D_M_joinRepeats 100 rfl) (by rfl) ?_
            refine mx_iconst (n := 1) (mx_d D_M_joinRepeats 101 rfl) ?_
            refine mx_iaddI (mx_d D_M_joinRepeats 102 rfl) ?_
            refine mx_imulI (mx_d D_M_joinRepeats 103 rfl) ?_
            refine mx_iload (i := 7) (mx_d D_M_joinRepeats 104 rfl) (by rfl) ?_
            by_cases hcc : (t + 1) * (t + 1) ≤ sq
            · refine mx_icmp_gtN 173 (mx_d D_M_joinRepeats 105 rfl) (by decide) (by omega) (by omega) (by omega) (by omega) (by omega) ?_
              refine mx_iincI (i := 8) (n := 1) (mx_d D_M_joinRepeats 106 rfl) (by rfl) (by decide) ?_
              refine mx_goto 153 (mx_d D_M_joinRepeats 107 rfl) (by decide) ?_
              exact ih (t + 1) (by omega) (by omega) (Or.inr hcc) rfl rfl rfl rfl rfl
            · refine mx_icmp_gtY 173 (mx_d D_M_joinRepeats 105 rfl) (by decide) (by omega) (by omega) (by omega) (by omega) (by omega) ?_
              exact hlast t ⟨by omega, by omega, ht3, by omega⟩ rfl rfl rfl rfl
        · refine mx_icmp_leN 114 (mx_d D_M_joinRepeats 66 rfl) (by decide) (by omega) (by omega) (by omega) (by omega) (by omega) ?_
          exact none_ (fun z => hc z.2.2)
      · refine mx_if_eqY 112 (mx_d D_M_joinRepeats 57 rfl) (by decide) (by omega) (by omega) (rz.mpr m2) ?_
        exact none_ (fun z => m2 z.2.1)
    · refine mx_if_eqY 112 (mx_d D_M_joinRepeats 55 rfl) (by decide) (by omega) (by omega) (pz.mpr m1) ?_
      exact none_ (fun z => m1 z.1)
  have both : ∀ b9 : Bool, (b9 = true ↔ ((0 ≤ a ∧ a < nD) ∧ 0 ≤ b ∧ b < nD)) → mx_M G Y_M_joinRepeats (d + 3) bc bs false N ce 22 [(0, .ref (mx_B G + 50)), (1, .int (iI a)), (2, .int (iI b))] [.int (iI (bI b9)), .ref (mx_B G + 50)] Q := by
    intro b9 hb9
    have join2 : ∀ b2 : Bool, (b2 = true ↔ nD < 12) → mx_M G Y_M_joinRepeats (d + 3) bc bs false N ce 36 [(0, .ref (mx_B G + 50)), (1, .int (iI a)), (2, .int (iI b))] [.int (iI (bI b2)), .int (iI (bI b9)), .ref (mx_B G + 50)] Q := by
      intro b2 hb2
      refine mx_iconst (n := 1) (mx_d D_M_joinRepeats 19 rfl) ?_
      refine mx_callV hG (Y' := Y_M_goes) (ci := 7) [_, _, _] (mx_d D_M_joinRepeats 20 rfl) in_M_goes w_666 w_668 s_M_goes (by rfl) np_M_goes (by exact Nat.le_of_ble_eq_true rfl) (by rfl) (by first | assumption | omega) (by first | assumption | exact va_up_self _ _ _ | (rw [va_up_ne _ _ (by omega)]; first | assumption | exact va_up_self _ _ _ | (rw [va_up_ne _ _ (by omega)]; first | assumption | exact va_up_self _ _ _ | (rw [va_up_ne _ _ (by omega)]; first | assumption | exact va_up_self _ _ _ | (rw [va_up_ne _ _ (by omega)]; first | assumption | exact va_up_self _ _ _ | (rw [va_up_ne _ _ (by omega)]; first | assumption | exact va_up_self _ _ _)))))) (by rfl) (by exact Nat.le_of_ble_eq_true rfl) (m_goes hG hN h50 (c := true) ?_)
      cases b9 with
      | false =>
        refine mx_if_neN 45 (mx_d D_M_joinRepeats 21 rfl) (by decide) (by cases b2 <;> decide) (by cases b2 <;> decide) (by cases b2 <;> decide) ?_
        refine mx_iconst (n := 0) (mx_d D_M_joinRepeats 22 rfl) ?_
        refine mx_iret (by rfl) (mx_d D_M_joinRepeats 23 rfl) ?_
        exact q0 _ (fun z => absurd (hb9.mpr z) (by decide)) (RS.thr hA) fr50
      | true =>
        have hb' := hb9.mp rfl
        cases b2 with
        | false =>
          refine mx_if_neN 45 (mx_d D_M_joinRepeats 21 rfl) (by decide) (by decide) (by decide) (by decide) ?_
          refine mx_iconst (n := 0) (mx_d D_M_joinRepeats 22 rfl) ?_
          refine mx_iret (by rfl) (mx_d D_M_joinRepeats 23 rfl) ?_
          exact q1 _ hb' (fun z => absurd (hb2.mpr z) (by decide)) (RS.thr hA) fr50
        | true =>
          refine mx_if_neY 45 (mx_d D_M_joinRepeats 21 rfl) (by decide) (by decide) (by decide) (by decide) ?_
          exact body a.toNat b.toNat (by omega) (by omega) (by omega) (by omega) (hb2.mp rfl)
    refine mx_aload_n (k4 := 0) (mx_d D_M_joinRepeats 12 rfl) (by rfl) ?_
    refine mx_getf hG (idx := 65) (ci := 7) (kf := 9) (mx_d D_M_joinRepeats 13 rfl) (by rfl) cls_M (by decide) w_590 (by first | assumption | omega) (by first | assumption | exact va_up_self _ _ _ | (rw [va_up_ne _ _ (by omega)]; first | assumption | exact va_up_self _ _ _ | (rw [va_up_ne _ _ (by omega)]; first | assumption | exact va_up_self _ _ _ | (rw [va_up_ne _ _ (by omega)]; first | assumption | exact va_up_self _ _ _ | (rw [va_up_ne _ _ (by omega)]; first | assumption | exact va_up_self _ _ _ | (rw [va_up_ne _ _ (by omega)]; first | assumption | exact va_up_self _ _ _)))))) (by rfl) ?_
    refine mx_bipush (n := 12) (mx_d D_M_joinRepeats 14 rfl) (by decide) ?_
    by_cases hc : nD < 12
    · refine mx_icmp_geN 35 (mx_d D_M_joinRepeats 15 rfl) (by decide) (by omega) (by omega) (by omega) (by omega) (by omega) ?_
      refine mx_iconst (n := 1) (mx_d D_M_joinRepeats 16 rfl) ?_
      refine mx_goto 36 (mx_d D_M_joinRepeats 17 rfl) (by decide) ?_
      exact join2 true ⟨fun _ => hc, fun _ => rfl⟩
    · refine mx_icmp_geY 35 (mx_d D_M_joinRepeats 15 rfl) (by decide) (by omega) (by omega) (by omega) (by omega) (by omega) ?_
      refine mx_iconst (n := 0) (mx_d D_M_joinRepeats 18 rfl) ?_
      exact join2 false ⟨fun z => absurd z (by decide), fun z => absurd z hc⟩
  refine mx_aload_n (k4 := 0) (mx_d D_M_joinRepeats 0 rfl) (by rfl) ?_
  refine mx_aload_n (k4 := 0) (mx_d D_M_joinRepeats 1 rfl) (by rfl) ?_
  refine mx_iload_n (k4 := 1) (mx_d D_M_joinRepeats 2 rfl) (by rfl) ?_
  refine mx_callV hG (Y' := Y_M_isDate) (ci := 7) [_] (mx_d D_M_joinRepeats 3 rfl) in_M_isDate w_702 w_704 s_M_isDate (by rfl) np_M_isDate (by exact Nat.le_of_ble_eq_true rfl) (by rfl) (by first | assumption | omega) (by first | assumption | exact va_up_self _ _ _ | (rw [va_up_ne _ _ (by omega)]; first | assumption | exact va_up_self _ _ _ | (rw [va_up_ne _ _ (by omega)]; first | assumption | exact va_up_self _ _ _ | (rw [va_up_ne _ _ (by omega)]; first | assumption | exact va_up_self _ _ _ | (rw [va_up_ne _ _ (by omega)]; first | assumption | exact va_up_self _ _ _ | (rw [va_up_ne _ _ (by omega)]; first | assumption | exact va_up_self _ _ _)))))) (by rfl) (by exact Nat.le_of_ble_eq_true rfl) (m_isDate hG hN h50 hD a1 a2 ?_)
  cases ha : wiB a 0 ((nD : Int) - 1) with
  | false =>
    have ha' := wiB_f ha
    refine mx_if_eqY 21 (mx_d D_M_joinRepeats 4 rfl) (by decide) (by decide) (by decide) (by decide) ?_
    refine mx_iconst (n := 0) (mx_d D_M_joinRepeats 11 rfl) ?_
    exact both false ⟨fun z => absurd z (by decide), fun z => by omega⟩
  | true =>
    have ha' := wiB_t ha
    refine mx_if_eqN 21 (mx_d D_M_joinRepeats 4 rfl) (by decide) (by decide) (by decide) (by decide) ?_
    refine mx_aload_n (k4 := 0) (mx_d D_M_joinRepeats 5 rfl) (by rfl) ?_
    refine mx_iload_n (k4 := 2) (mx_d D_M_joinRepeats 6 rfl) (by rfl) ?_
    refine mx_callV hG (Y' := Y_M_isDate) (ci := 7) [_] (mx_d D_M_joinRepeats 7 rfl) in_M_isDate w_702 w_704 s_M_isDate (by rfl) np_M_isDate (by exact Nat.le_of_ble_eq_true rfl) (by rfl) (by first | assumption | omega) (by first | assumption | exact va_up_self _ _ _ | (rw [va_up_ne _ _ (by omega)]; first | assumption | exact va_up_self _ _ _ | (rw [va_up_ne _ _ (by omega)]; first | assumption | exact va_up_self _ _ _ | (rw [va_up_ne _ _ (by omega)]; first | assumption | exact va_up_self _ _ _ | (rw [va_up_ne _ _ (by omega)]; first | assumption | exact va_up_self _ _ _ | (rw [va_up_ne _ _ (by omega)]; first | assumption | exact va_up_self _ _ _)))))) (by rfl) (by exact Nat.le_of_ble_eq_true rfl) (m_isDate hG hN h50 hD b1 b2 ?_)
    cases hs : wiB b 0 ((nD : Int) - 1) with
    | false =>
      have hs' := wiB_f hs
      refine mx_if_eqY 21 (mx_d D_M_joinRepeats 8 rfl) (by decide) (by decide) (by decide) (by decide) ?_
      refine mx_iconst (n := 0) (mx_d D_M_joinRepeats 11 rfl) ?_
      exact both false ⟨fun z => absurd z (by decide), fun z => by omega⟩
    | true =>
      have hs' := wiB_t hs
      refine mx_if_eqN 21 (mx_d D_M_joinRepeats 8 rfl) (by decide) (by decide) (by decide) (by decide) ?_
      refine mx_iconst (n := 1) (mx_d D_M_joinRepeats 9 rfl) ?_
      refine mx_goto 22 (mx_d D_M_joinRepeats 10 rfl) (by decide) ?_
      exact both true ⟨fun _ => ⟨by omega, by omega⟩, fun _ => rfl⟩
theorem m_mix (hG : mx_ok G) (hN : 63 ≤ N) (hV : IV Y U nE iE nD rA rS eA eS dA dS dW lc rn rg rN ps pN) (hR : RS G Y U nE iE nD rA rS eA eS dA dS dW lc rn rg rN ps pN th ce) {a b u v : Int} (a1 : -2147483648 ≤ a) (a2 : a < 2147483648) (b1 : -2147483648 ≤ b) (b2 : b < 2147483648) (u1 : -2147483648 ≤ u) (u2 : u < 2147483648) (v1 : -2147483648 ≤ v) (v2 : v < 2147483648)
    (q0 : ∀ ce', ¬ ((0 ≤ a ∧ a < nD) ∧ 0 ≤ b ∧ b < nD) → RS G Y U nE iE nD rA rS eA eS dA dS dW lc rn rg rN ps pN 1 ce' → (∀ k, k < 50 ∨ 63 ≤ k → ce' k = ce k) → Q (.inl (some (.int (iI 0)))) N ce' bc bs)
    (q1 : ∀ ce', ((0 ≤ a ∧ a < nD) ∧ 0 ≤ b ∧ b < nD) → ¬ ((1 ≤ v ∧ v ≤ 1000) ∧ 0 ≤ u ∧ u ≤ v) → RS G Y U nE iE nD rA rS eA eS dA dS dW lc rn rg rN ps pN 2 ce' → (∀ k, k < 50 ∨ 63 ≤ k → ce' k = ce k) → Q (.inl (some (.int (iI 0)))) N ce' bc bs)
    (q2 : ∀ ce', ((0 ≤ a ∧ a < nD) ∧ 0 ≤ b ∧ b < nD) → ((1 ≤ v ∧ v ≤ 1000) ∧ 0 ≤ u ∧ u ≤ v) → ¬ nD < 12 → RS G Y U nE iE nD rA rS eA eS dA dS dW lc rn rg rN ps pN 3 ce' → (∀ k, k < 50 ∨ 63 ≤ k → ce' k = ce k) → Q (.inl (some (.int (iI 0)))) N ce' bc bs)
    (q3 : ∀ ce' (i j : Nat), a = i → b = j → i < nD → j < nD → ((1 ≤ v ∧ v ≤ 1000) ∧ 0 ≤ u ∧ u ≤ v) → nD < 12 → (∀ h : Nat → Int, (∀ y, y < Y → h y = (u * dW i y + (v - u) * dW j y) / v) → RS G Y U nE iE (nD + 1) rA rS eA eS (va_up dA nD 0) (va_up dS nD 0) (va_up dW nD h) lc rn rg rN ps pN 0 ce') → (∀ k, k < 50 ∨ 63 ≤ k → ce' k = ce k) → Q (.inl (some (.int (iI (nD : Nat))))) N ce' bc bs) : mx_M G Y_M_mix (d + 3) bc bs false N ce 0 [(0, .ref (mx_B G + 50)), (1, .int (iI a)), (2, .int (iI b)), (3, .int (iI u)), (4, .int (iI v))] [] Q := by
  have hV0 := hV
  obtain ⟨hY, hU, hE, hD, hrA, hrS, hEA, hES, hDA, hDS, hDz, hDW, hrN, hrn, hpN, hps⟩ := hV
  obtain ⟨rw, h50, hA⟩ := hR
  have body : ∀ (i j : Nat), a = i → b = j → i < nD → j < nD → nD < 12 → ((1 ≤ v ∧ v ≤ 1000) ∧ 0 ≤ u ∧ u ≤ v) → mx_M G Y_M_mix (d + 3) bc bs false N (va_up ce 50 (rs0 G 0 Y U nE iE nD rA rS rN pN rw)) 71 [(0, .ref (mx_B G + 50)), (1, .int (iI a)), (2, .int (iI b)), (3, .int (iI u)), (4, .int (iI v))] [] Q := by
    intro i j ha hb hi hj hn huv
    subst ha; subst hb
    obtain ⟨fW, hB⟩ := hA.b
    have hB0 := hB
    obtain ⟨fA, fS, ch, tY, tA, tS, ⟨h51, h52, h53, h54, h55, h56, h57, h58, h59, h60, h61, h62⟩, hfe, hfw, hch⟩ := hB
    refine mx_iconst (n := 0) (mx_d D_M_mix 36 rfl) ?_
    refine mx_istore (i := 5) (mx_d D_M_mix 37 rfl) (by decide) ?_
    suffices H : ∀ (k y : Nat) (f' : Nat → Int), y + k = Y → (∀ k, k < 60 * nD → f' k = fW k) → (∀ z, z < y → f' (60 * nD + z) = (u * dW i z + (v - u) * dW j z) / v) → mx_M G Y_M_mix (d + 3) bc bs false N (va_up (va_up ce 50 (rs0 G 0 Y U nE iE nD rA rS rN pN rw)) 53 (aI G 720 f')) 74 [(0, .ref (mx_B G + 50)), (1, .int (iI i)), (2, .int (iI j)), (3, .int (iI u)), (4, .int (iI v)), (5, .int (iI y))] [] Q by
      have H0 := H Y 0 fW (by omega) (fun _ _ => rfl) (fun z hz => absurd hz (by omega))
      rw [va_up_id (va_up ce 50 (rs0 G 0 Y U nE iE nD rA rS rN pN rw)) 53 ((va_up_ne _ _ (by omega)).trans h53)] at H0
      exact mx_loc (by rfl) H0
    intro k
    induction k with
    | zero =>
      intro y f' hy g1 g2
      obtain rfl : y = Y := by omega
      refine mx_iload (i := 5) (mx_d D_M_mix 38 rfl) (by rfl) ?_
      refine mx_aload_n (k4 := 0) (mx_d D_M_mix 39 rfl) (by rfl) ?_
      refine mx_getf hG (idx := 51) (ci := 7) (kf := 1) (mx_d D_M_mix 40 rfl) (by rfl) cls_M (by decide) w_582 (by first | assumption | omega) (by first | assumption | exact va_up_self _ _ _ | (rw [va_up_ne _ _ (by omega)]; first | assumption | exact va_up_self _ _ _ | (rw [va_up_ne _ _ (by omega)]; first | assumption | exact va_up_self _ _ _ | (rw [va_up_ne _ _ (by omega)]; first | assumption | exact va_up_self _ _ _ | (rw [va_up_ne _ _ (by omega)]; first | assumption | exact va_up_self _ _ _ | (rw [va_up_ne _ _ (by omega)]; first | assumption | exact va_up_self _ _ _)))))) (by rfl) ?_
      refine mx_icmp_geY 149 (mx_d D_M_mix 41 rfl) (by decide) (by omega) (by omega) (by omega) (by omega) (by omega) ?_
      refine mx_aload_n (k4 := 0) (mx_d D_M_mix 86 rfl) (by rfl) ?_
      refine mx_getf hG (idx := 26) (ci := 7) (kf := 12) (mx_d D_M_mix 87 rfl) (by rfl) cls_M (by decide) w_593 (by first | assumption | omega) (by first | assumption | exact va_up_self _ _ _ | (rw [va_up_ne _ _ (by omega)]; first | assumption | exact va_up_self _ _ _ | (rw [va_up_ne _ _ (by omega)]; first | assumption | exact va_up_self _ _ _ | (rw [va_up_ne _ _ (by omega)]; first | assumption | exact va_up_self _ _ _ | (rw [va_up_ne _ _ (by omega)]; first | assumption | exact va_up_self _ _ _ | (rw [va_up_ne _ _ (by omega)]; first | assumption | exact va_up_self _ _ _)))))) (by rfl) ?_
      refine mx_aload_n (k4 := 0) (mx_d D_M_mix 88 rfl) (by rfl) ?_
      refine mx_getf hG (idx := 65) (ci := 7) (kf := 9) (mx_d D_M_mix 89 rfl) (by rfl) cls_M (by decide) w_590 (by first | assumption | omega) (by first | assumption | exact va_up_self _ _ _ | (rw [va_up_ne _ _ (by omega)]; first | assumption | exact va_up_self _ _ _ | (rw [va_up_ne _ _ (by omega)]; first | assumption | exact va_up_self _ _ _ | (rw [va_up_ne _ _ (by omega)]; first | assumption | exact va_up_self _ _ _ | (rw [va_up_ne _ _ (by omega)]; first | assumption | exact va_up_self _ _ _ | (rw [va_up_ne _ _ (by omega)]; first | assumption | exact va_up_self _ _ _)))))) (by rfl) ?_
      refine mx_iconst (n := 0) (mx_d D_M_mix 90 rfl) ?_
      refine mx_iastI hG _ _ (mx_d D_M_mix 91 rfl) (by first | assumption | omega) (by first | assumption | exact va_up_self _ _ _ | (rw [va_up_ne _ _ (by omega)]; first | assumption | exact va_up_self _ _ _ | (rw [va_up_ne _ _ (by omega)]; first | assumption | exact va_up_self _ _ _ | (rw [va_up_ne _ _ (by omega)]; first | assumption | exact va_up_self _ _ _ | (rw [va_up_ne _ _ (by omega)]; first | assumption | exact va_up_self _ _ _ | (rw [va_up_ne _ _ (by omega)]; first | assumption | exact va_up_self _ _ _)))))) (by rfl) (by rfl) (by omega) (by omega) ?_
      refine mx_aload_n (k4 := 0) (mx_d D_M_mix 92 rfl) (by rfl) ?_
      refine mx_dup (mx_d D_M_mix 93 rfl) (by rfl) ?_
      refine mx_getf hG (idx := 65) (ci := 7) (kf := 9) (mx_d D_M_mix 94 rfl) (by rfl) cls_M (by decide) w_590 (by first | assumption | omega) (by first | assumption | exact va_up_self _ _ _ | (rw [va_up_ne _ _ (by omega)]; first | assumption | exact va_up_self _ _ _ | (rw [va_up_ne _ _ (by omega)]; first | assumption | exact va_up_self _ _ _ | (rw [va_up_ne _ _ (by omega)]; first | assumption | exact va_up_self _ _ _ | (rw [va_up_ne _ _ (by omega)]; first | assumption | exact va_up_self _ _ _ | (rw [va_up_ne _ _ (by omega)]; first | assumption | exact va_up_self _ _ _)))))) (by rfl) ?_
      refine mx_iconst (n := 1) (mx_d D_M_mix 95 rfl) ?_
      refine mx_iaddI (mx_d D_M_mix 96 rfl) ?_
      refine mx_putf hG (idx := 65) (ci := 7) (kf := 9) (t := (.int)) (mx_d D_M_mix 97 rfl) (by rfl) cls_M (by decide) (Or.inl rfl) w_590 (by first | assumption | omega) (by first | assumption | exact va_up_self _ _ _ | (rw [va_up_ne _ _ (by omega)]; first | assumption | exact va_up_self _ _ _ | (rw [va_up_ne _ _ (by omega)]; first | assumption | exact va_up_self _ _ _ | (rw [va_up_ne _ _ (by omega)]; first | assumption | exact va_up_self _ _ _ | (rw [va_up_ne _ _ (by omega)]; first | assumption | exact va_up_self _ _ _ | (rw [va_up_ne _ _ (by omega)]; first | assumption | exact va_up_self _ _ _)))))) (by exact Nat.le_of_ble_eq_true rfl) (by decide +kernel) (by rfl) (by rfl) ?_
      refine mx_aload_n (k4 := 0) (mx_d D_M_mix 98 rfl) (by rfl) ?_
      refine mx_getf hG (idx := 65) (ci := 7) (kf := 9) (mx_d D_M_mix 99 rfl) (by rfl) cls_M (by decide) w_590 (by first | assumption | omega) (by first | assumption | exact va_up_self _ _ _ | (rw [va_up_ne _ _ (by omega)]; first | assumption | exact va_up_self _ _ _ | (rw [va_up_ne _ _ (by omega)]; first | assumption | exact va_up_self _ _ _ | (rw [va_up_ne _ _ (by omega)]; first | assumption | exact va_up_self _ _ _ | (rw [va_up_ne _ _ (by omega)]; first | assumption | exact va_up_self _ _ _ | (rw [va_up_ne _ _ (by omega)]; first | assumption | exact va_up_self _ _ _)))))) (by rfl) ?_
      refine mx_iconst (n := 1) (mx_d D_M_mix 100 rfl) ?_
      refine mx_isubI (mx_d D_M_mix 101 rfl) ?_
      refine mx_iret (by rfl) (mx_d D_M_mix 102 rfl) ?_
      rw [show ((nD : Int) + 1 - 1) = (nD : Int) from by omega]
      exact q3 _ i j rfl rfl hi hj huv hn (fun h hh => ⟨rw, va_up_self _ _ _, hB0.more hV0 hn ((va_up_ne _ _ (by omega)).trans ((va_up_ne _ _ (by omega)).trans (va_up_self _ _ _))) ((va_up_ne _ _ (by omega)).trans (va_up_self _ _ _)) (fun k _ _ z1 z2 => by rw [va_up_ne _ _ (by omega), va_up_ne _ _ z2, va_up_ne _ _ z1, va_up_ne _ _ (by omega)]) g1 (fun z hz => (g2 z hz).trans (hh z hz).symm)⟩) (fun k hk => by rw [va_up_ne _ _ (by omega), va_up_ne _ _ (by omega), va_up_ne _ _ (by omega), va_up_ne _ _ (by omega)])
    | succ k ih =>
      intro y f' hy g1 g2
      have x1 := hDW i (by omega) y (by omega)
      have x2 := hDW j (by omega) y (by omega)
      have v1 : f' (60 * i + y) = dW i y := (g1 _ (by omega)).trans (hfw i hi y (by omega))
      have v2 : f' (60 * j + y) = dW j y := (g1 _ (by omega)).trans (hfw j hj y (by omega))
      have c1 : 0 ≤ u * dW i y := Int.mul_nonneg huv.2.1 x1.1
      have c2 : u * dW i y ≤ 1000 * 1000000 := Int.mul_le_mul (by omega) x1.2 x1.1 (by omega)
      have c3 : 0 ≤ (v - u) * dW j y := Int.mul_nonneg (by omega) x2.1
      have c4 : (v - u) * dW j y ≤ 1000 * 1000000 := Int.mul_le_mul (by omega) x2.2 x2.1 (by omega)
      refine mx_iload (i := 5) (mx_d D_M_mix 38 rfl) (by rfl) ?_
      refine mx_aload_n (k4 := 0) (mx_d D_M_mix 39 rfl) (by rfl) ?_
      refine mx_getf hG (idx := 51) (ci := 7) (kf := 1) (mx_d D_M_mix 40 rfl) (by rfl) cls_M (by decide) w_582 (by first | assumption | omega) (by first | assumption | exact va_up_self _ _ _ | (rw [va_up_ne _ _ (by omega)]; first | assumption | exact va_up_self _ _ _ | (rw [va_up_ne _ _ (by omega)]; first | assumption | exact va_up_self _ _ _ | (rw [va_up_ne _ _ (by omega)]; first | assumption | exact va_up_self _ _ _ | (rw [va_up_ne _ _ (by omega)]; first | assumption | exact va_up_self _ _ _ | (rw [va_up_ne _ _ (by omega)]; first | assumption | exact va_up_self _ _ _)))))) (by rfl) ?_
      refine mx_icmp_geN 149 (mx_d D_M_mix 41 rfl) (by decide) (by omega) (by omega) (by omega) (by omega) (by omega) ?_
      refine mx_iload_n (k4 := 3) (mx_d D_M_mix 42 rfl) (by rfl) ?_
      refine mx_i2lI (mx_d D_M_mix 43 rfl) (by omega) (by omega) ?_
      refine mx_aload_n (k4 := 0) (mx_d D_M_mix 44 rfl) (by rfl) ?_
      refine mx_getf hG (idx := 20) (ci := 7) (kf := 10) (mx_d D_M_mix 45 rfl) (by rfl) cls_M (by decide) w_591 (by first | assumption | omega) (by first | assumption | exact va_up_self _ _ _ | (rw [va_up_ne _ _ (by omega)]; first | assumption | exact va_up_self _ _ _ | (rw [va_up_ne _ _ (by omega)]; first | assumption | exact va_up_self _ _ _ | (rw [va_up_ne _ _ (by omega)]; first | assumption | exact va_up_self _ _ _ | (rw [va_up_ne _ _ (by omega)]; first | assumption | exact va_up_self _ _ _ | (rw [va_up_ne _ _ (by omega)]; first | assumption | exact va_up_self _ _ _)))))) (by rfl) ?_
      refine mx_bipush (n := 60) (mx_d D_M_mix 46 rfl) (by decide) ?_
      refine mx_iload_n (k4 := 1) (mx_d D_M_mix 47 rfl) (by rfl) ?_
      refine mx_imulI (mx_d D_M_mix 48 rfl) ?_
      refine mx_iload (i := 5) (mx_d D_M_mix 49 rfl) (by rfl) ?_
      refine mx_iaddI (mx_d D_M_mix 50 rfl) ?_
      refine mx_ialdI hG (60 * i + y) (mx_d D_M_mix 51 rfl) (by first | assumption | omega) (by first | assumption | exact va_up_self _ _ _ | (rw [va_up_ne _ _ (by omega)]; first | assumption | exact va_up_self _ _ _ | (rw [va_up_ne _ _ (by omega)]; first | assumption | exact va_up_self _ _ _ | (rw [va_up_ne _ _ (by omega)]; first | assumption | exact va_up_self _ _ _ | (rw [va_up_ne _ _ (by omega)]; first | assumption | exact va_up_self _ _ _ | (rw [va_up_ne _ _ (by omega)]; first | assumption | exact va_up_self _ _ _)))))) (by rfl) (by omega) (by omega) ?_
      rw [v1]
      refine mx_i2lI (mx_d D_M_mix 52 rfl) (by omega) (by omega) ?_
      refine mx_lmulI (mx_d D_M_mix 53 rfl) ?_
      refine mx_iload (i := 4) (mx_d D_M_mix 54 rfl) (by rfl) ?_
      refine mx_iload_n (k4 := 3) (mx_d D_M_mix 55 rfl) (by rfl) ?_
      refine mx_isubI (mx_d D_M_mix 56 rfl) ?_
      refine mx_i2lI (mx_d D_M_mix 57 rfl) (by omega) (by omega) ?_
      refine mx_aload_n (k4 := 0) (mx_d D_M_mix 58 rfl) (by rfl) ?_
      refine mx_getf hG (idx := 20) (ci := 7) (kf := 10) (mx_d D_M_mix 59 rfl) (by rfl) cls_M (by decide) w_591 (by first | assumption | omega) (by first | assumption | exact va_up_self _ _ _ | (rw [va_up_ne _ _ (by omega)]; first | assumption | exact va_up_self _ _ _ | (rw [va_up_ne _ _ (by omega)]; first | assumption | exact va_up_self _ _ _ | (rw [va_up_ne _ _ (by omega)]; first | assumption | exact va_up_self _ _ _ | (rw [va_up_ne _ _ (by omega)]; first | assumption | exact va_up_self _ _ _ | (rw [va_up_ne _ _ (by omega)]; first | assumption | exact va_up_self _ _ _)))))) (by rfl) ?_
      refine mx_bipush (n := 60) (mx_d D_M_mix 60 rfl) (by decide) ?_
      refine mx_iload_n (k4 := 2) (mx_d D_M_mix 61 rfl) (by rfl) ?_
      refine mx_imulI (mx_d D_M_mix 62 rfl) ?_
      refine mx_iload (i := 5) (mx_d D_M_mix 63 rfl) (by rfl) ?_
      refine mx_iaddI (mx_d D_M_mix 64 rfl) ?_
      refine mx_ialdI hG (60 * j + y) (mx_d D_M_mix 65 rfl) (by first | assumption | omega) (by first | assumption | exact va_up_self _ _ _ | (rw [va_up_ne _ _ (by omega)]; first | assumption | exact va_up_self _ _ _ | (rw [va_up_ne _ _ (by omega)]; first | assumption | exact va_up_self _ _ _ | (rw [va_up_ne _ _ (by omega)]; first | assumption | exact va_up_self _ _ _ | (rw [va_up_ne _ _ (by omega)]; first | assumption | exact va_up_self _ _ _ | (rw [va_up_ne _ _ (by omega)]; first | assumption | exact va_up_self _ _ _)))))) (by rfl) (by omega) (by omega) ?_
      rw [v2]
      refine mx_i2lI (mx_d D_M_mix 66 rfl) (by omega) (by omega) ?_
      refine mx_lmulI (mx_d D_M_mix 67 rfl) ?_
      refine mx_laddI (mx_d D_M_mix 68 rfl) ?_
      refine mx_lstore (i := 6) (mx_d D_M_mix 69 rfl) (by decide) ?_
      refine mx_aload_n (k4 := 0) (mx_d D_M_mix 70 rfl) (by rfl) ?_
      refine mx_getf hG (idx := 20) (ci := 7) (kf := 10) (mx_d D_M_mix 71 rfl) (by rfl) cls_M (by decide) w_591 (by first | assumption | omega) (by first | assumption | exact va_up_self _ _ _ | (rw [va_up_ne _ _ (by omega)]; first | assumption | exact va_up_self _ _ _ | (rw [va_up_ne _ _ (by omega)]; first | assumption | exact va_up_self _ _ _ | (rw [va_up_ne _ _ (by omega)]; first | assumption | exact va_up_self _ _ _ | (rw [va_up_ne _ _ (by omega)]; first | assumption | exact va_up_self _ _ _ | (rw [va_up_ne _ _ (by omega)]; first | assumption | exact va_up_self _ _ _)))))) (by rfl) ?_
      refine mx_bipush (n := 60) (mx_d D_M_mix 72 rfl) (by decide) ?_
      refine mx_aload_n (k4 := 0) (mx_d D_M_mix 73 rfl) (by rfl) ?_
      refine mx_getf hG (idx := 65) (ci := 7) (kf := 9) (mx_d D_M_mix 74 rfl) (by rfl) cls_M (by decide) w_590 (by first | assumption | omega) (by first | assumption | exact va_up_self _ _ _ | (rw [va_up_ne _ _ (by omega)]; first | assumption | exact va_up_self _ _ _ | (rw [va_up_ne _ _ (by omega)]; first | assumption | exact va_up_self _ _ _ | (rw [va_up_ne _ _ (by omega)]; first | assumption | exact va_up_self _ _ _ | (rw [va_up_ne _ _ (by omega)]; first | assumption | exact va_up_self _ _ _ | (rw [va_up_ne _ _ (by omega)]; first | assumption | exact va_up_self _ _ _)))))) (by rfl) ?_
      refine mx_imulI (mx_d D_M_mix 75 rfl) ?_
      refine mx_iload (i := 5) (mx_d D_M_mix 76 rfl) (by rfl) ?_
      refine mx_iaddI (mx_d D_M_mix 77 rfl) ?_
      refine mx_lload (i := 6) (mx_d D_M_mix 78 rfl) (by rfl) ?_
      refine mx_iload (i := 4) (mx_d D_M_mix 79 rfl) (by rfl) ?_
      refine mx_i2lI (mx_d D_M_mix 80 rfl) (by omega) (by omega) ?_
      refine mx_ldivI (mx_d D_M_mix 81 rfl) (by omega) (by omega) (by omega) (by omega) ?_
      refine mx_l2iI (mx_d D_M_mix 82 rfl) ?_
      refine mx_iastI hG (60 * nD + y) _ (mx_d D_M_mix 83 rfl) (by first | assumption | omega) (by first | assumption | exact va_up_self _ _ _ | (rw [va_up_ne _ _ (by omega)]; first | assumption | exact va_up_self _ _ _ | (rw [va_up_ne _ _ (by omega)]; first | assumption | exact va_up_self _ _ _ | (rw [va_up_ne _ _ (by omega)]; first | assumption | exact va_up_self _ _ _ | (rw [va_up_ne _ _ (by omega)]; first | assumption | exact va_up_self _ _ _ | (rw [va_up_ne _ _ (by omega)]; first | assumption | exact va_up_self _ _ _)))))) (by rfl) (by rfl) (by omega) (by omega) ?_
      rw [bx_uu]
      refine mx_iincI (i := 5) (n := 1) (mx_d D_M_mix 84 rfl) (by rfl) (by decide) ?_
      refine mx_goto 74 (mx_d D_M_mix 85 rfl) (by decide) ?_
      refine mx_loc (by rfl) (ih (y + 1) _ (by omega) (fun k hk => ?_) (fun z hz => ?_))
      · rw [va_up_ne _ _ (by omega)]; exact g1 k hk
      · by_cases e : z = y
        · subst e; rw [va_up_self]
        · rw [va_up_ne _ _ (by omega)]; exact g2 z (by omega)
  have both : ∀ b9 : Bool, (b9 = true ↔ ((0 ≤ a ∧ a < nD) ∧ 0 ≤ b ∧ b < nD)) → mx_M G Y_M_mix (d + 3) bc bs false N ce 22 [(0, .ref (mx_B G + 50)), (1, .int (iI a)), (2, .int (iI b)), (3, .int (iI u)), (4, .int (iI v))] [.int (iI (bI b9)), .ref (mx_B G + 50)] Q := by
    intro b9 hb9
    have join3 : ∀ b3 : Bool, (b3 = true ↔ ((1 ≤ v ∧ v ≤ 1000) ∧ 0 ≤ u ∧ u ≤ v)) → mx_M G Y_M_mix (d + 3) bc bs false N ce 49 [(0, .ref (mx_B G + 50)), (1, .int (iI a)), (2, .int (iI b)), (3, .int (iI u)), (4, .int (iI v))] [.int (iI (bI b3)), .int (iI (bI b9)), .ref (mx_B G + 50)] Q := by
      intro b3 hb3
      have join2 : ∀ b2 : Bool, (b2 = true ↔ nD < 12) → mx_M G Y_M_mix (d + 3) bc bs false N ce 63 [(0, .ref (mx_B G + 50)), (1, .int (iI a)), (2, .int (iI b)), (3, .int (iI u)), (4, .int (iI v))] [.int (iI (bI b2)), .int (iI (bI b3)), .int (iI (bI b9)), .ref (mx_B G + 50)] Q := by
        intro b2 hb2
        refine mx_callV hG (Y' := Y_M_goes) (ci := 7) [_, _, _] (mx_d D_M_mix 32 rfl) in_M_goes w_666 w_668 s_M_goes (by rfl) np_M_goes (by exact Nat.le_of_ble_eq_true rfl) (by rfl) (by first | assumption | omega) (by first | assumption | exact va_up_self _ _ _ | (rw [va_up_ne _ _ (by omega)]; first | assumption | exact va_up_self _ _ _ | (rw [va_up_ne _ _ (by omega)]; first | assumption | exact va_up_self _ _ _ | (rw [va_up_ne _ _ (by omega)]; first | assumption | exact va_up_self _ _ _ | (rw [va_up_ne _ _ (by omega)]; first | assumption | exact va_up_self _ _ _ | (rw [va_up_ne _ _ (by omega)]; first | assumption | exact va_up_self _ _ _)))))) (by rfl) (by exact Nat.le_of_ble_eq_true rfl) (m_goes hG hN h50 ?_)
        cases b9 with
        | false =>
          refine mx_if_neN 71 (mx_d D_M_mix 33 rfl) (by decide) (by cases b2 <;> cases b3 <;> decide) (by cases b2 <;> cases b3 <;> decide) (by cases b2 <;> cases b3 <;> decide) ?_
          refine mx_iconst (n := 0) (mx_d D_M_mix 34 rfl) ?_
          refine mx_iret (by rfl) (mx_d D_M_mix 35 rfl) ?_
          exact q0 _ (fun z => absurd (hb9.mpr z) (by decide)) (RS.thr hA) fr50
        | true =>
          have hb' := hb9.mp rfl
          cases b3 with
          | false =>
            refine mx_if_neN 71 (mx_d D_M_mix 33 rfl) (by decide) (by cases b2 <;> decide) (by cases b2 <;> decide) (by cases b2 <;> decide) ?_
            refine mx_iconst (n := 0) (mx_d D_M_mix 34 rfl) ?_
            refine mx_iret (by rfl) (mx_d D_M_mix 35 rfl) ?_
            exact q1 _ hb' (fun z => absurd (hb3.mpr z) (by decide)) (RS.thr hA) fr50
          | true =>
            have hb'' := hb3.mp rfl
            cases b2 with
            | false =>
              refine mx_if_neN 71 (mx_d D_M_mix 33 rfl) (by decide) (by decide) (by decide) (by decide) ?_
              refine mx_iconst (n := 0) (mx_d D_M_mix 34 rfl) ?_
              refine mx_iret (by rfl) (mx_d D_M_mix 35 rfl) ?_
              exact q2 _ hb' hb'' (fun z => absurd (hb2.mpr z) (by decide)) (RS.thr hA) fr50
            | true =>
              refine mx_if_neY 71 (mx_d D_M_mix 33 rfl) (by decide) (by decide) (by decide) (by decide) ?_
              exact body a.toNat b.toNat (by omega) (by omega) (by omega) (by omega) (hb2.mp rfl) hb''
      refine mx_aload_n (k4 := 0) (mx_d D_M_mix 25 rfl) (by rfl) ?_
      refine mx_getf hG (idx := 65) (ci := 7) (kf := 9) (mx_d D_M_mix 26 rfl) (by rfl) cls_M (by decide) w_590 (by first | assumption | omega) (by first | assumption | exact va_up_self _ _ _ | (rw [va_up_ne _ _ (by omega)]; first | assumption | exact va_up_self _ _ _ | (rw [va_up_ne _ _ (by omega)]; first | assumption | exact va_up_self _ _ _ | (rw [va_up_ne _ _ (by omega)]; first | assumption | exact va_up_self _ _ _ | (rw [va_up_ne _ _ (by omega)]; first | assumption | exact va_up_self _ _ _ | (rw [va_up_ne _ _ (by omega)]; first | assumption | exact va_up_self _ _ _)))))) (by rfl) ?_
      refine mx_bipush (n := 12) (mx_d D_M_mix 27 rfl) (by decide) ?_
      by_cases hc : nD < 12
      · refine mx_icmp_geN 62 (mx_d D_M_mix 28 rfl) (by decide) (by omega) (by omega) (by omega) (by omega) (by omega) ?_
        refine mx_iconst (n := 1) (mx_d D_M_mix 29 rfl) ?_
        refine mx_goto 63 (mx_d D_M_mix 30 rfl) (by decide) ?_
        exact join2 true ⟨fun _ => hc, fun _ => rfl⟩
      · refine mx_icmp_geY 62 (mx_d D_M_mix 28 rfl) (by decide) (by omega) (by omega) (by omega) (by omega) (by omega) ?_
        refine mx_iconst (n := 0) (mx_d D_M_mix 31 rfl) ?_
        exact join2 false ⟨fun z => absurd z (by decide), fun z => absurd z hc⟩
    refine mx_iload (i := 4) (mx_d D_M_mix 12 rfl) (by rfl) ?_
    refine mx_iconst (n := 1) (mx_d D_M_mix 13 rfl) ?_
    refine mx_sipush (n := 1000) (mx_d D_M_mix 14 rfl) (by decide) ?_
    refine mx_callS (Y' := Y_M_within) [_, _, _] (mx_d D_M_mix 15 rfl) in_M_within w_663 w_664 np_M_within (by exact Nat.le_of_ble_eq_true rfl) (by rfl) (by rfl) (by exact Nat.le_of_ble_eq_true rfl) (m_within v1 v2 (by omega) (by omega) (by omega) (by omega) ?_)
    cases ha : wiB v 1 1000 with
    | false =>
      have ha' := wiB_f ha
      refine mx_if_eqY 48 (mx_d D_M_mix 16 rfl) (by decide) (by decide) (by decide) (by decide) ?_
      refine mx_iconst (n := 0) (mx_d D_M_mix 24 rfl) ?_
      exact join3 false ⟨fun z => absurd z (by decide), fun z => by omega⟩
    | true =>
      have ha' := wiB_t ha
      refine mx_if_eqN 48 (mx_d D_M_mix 16 rfl) (by decide) (by decide) (by decide) (by decide) ?_
      refine mx_iload_n (k4 := 3) (mx_d D_M_mix 17 rfl) (by rfl) ?_
      refine mx_iconst (n := 0) (mx_d D_M_mix 18 rfl) ?_
      refine mx_iload (i := 4) (mx_d D_M_mix 19 rfl) (by rfl) ?_
      refine mx_callS (Y' := Y_M_within) [_, _, _] (mx_d D_M_mix 20 rfl) in_M_within w_663 w_664 np_M_within (by exact Nat.le_of_ble_eq_true rfl) (by rfl) (by rfl) (by exact Nat.le_of_ble_eq_true rfl) (m_within u1 u2 (by omega) (by omega) v1 v2 ?_)
      cases hs : wiB u 0 v with
      | false =>
        have hs' := wiB_f hs
        refine mx_if_eqY 48 (mx_d D_M_mix 21 rfl) (by decide) (by decide) (by decide) (by decide) ?_
        refine mx_iconst (n := 0) (mx_d D_M_mix 24 rfl) ?_
        exact join3 false ⟨fun z => absurd z (by decide), fun z => by omega⟩
      | true =>
        have hs' := wiB_t hs
        refine mx_if_eqN 48 (mx_d D_M_mix 21 rfl) (by decide) (by decide) (by decide) (by decide) ?_
        refine mx_iconst (n := 1) (mx_d D_M_mix 22 rfl) ?_
        refine mx_goto 49 (mx_d D_M_mix 23 rfl) (by decide) ?_
        exact join3 true ⟨fun _ => ⟨ha', hs'⟩, fun _ => rfl⟩
  refine mx_aload_n (k4 := 0) (mx_d D_M_mix 0 rfl) (by rfl) ?_
  refine mx_aload_n (k4 := 0) (mx_d D_M_mix 1 rfl) (by rfl) ?_
  refine mx_iload_n (k4 := 1) (mx_d D_M_mix 2 rfl) (by rfl) ?_
  refine mx_callV hG (Y' := Y_M_isDate) (ci := 7) [_] (mx_d D_M_mix 3 rfl) in_M_isDate w_702 w_704 s_M_isDate (by rfl) np_M_isDate (by exact Nat.le_of_ble_eq_true rfl) (by rfl) (by first | assumption | omega) (by first | assumption | exact va_up_self _ _ _ | (rw [va_up_ne _ _ (by omega)]; first | assumption | exact va_up_self _ _ _ | (rw [va_up_ne _ _ (by omega)]; first | assumption | exact va_up_self _ _ _ | (rw [va_up_ne _ _ (by omega)]; first | assumption | exact va_up_self _ _ _ | (rw [va_up_ne _ _ (by omega)]; first | assumption | exact va_up_self _ _ _ | (rw [va_up_ne _ _ (by omega)]; first | assumption | exact va_up_self _ _ _)))))) (by rfl) (by exact Nat.le_of_ble_eq_true rfl) (m_isDate hG hN h50 hD a1 a2 ?_)
  cases ha : wiB a 0 ((nD : Int) - 1) with
  | false =>
    have ha' := wiB_f ha
    refine mx_if_eqY 21 (mx_d D_M_mix 4 rfl) (by decide) (by decide) (by decide) (by decide) ?_
    refine mx_iconst (n := 0) (mx_d D_M_mix 11 rfl) ?_
    exact both false ⟨fun z => absurd z (by decide), fun z => by omega⟩
  | true =>
    have ha' := wiB_t ha
    refine mx_if_eqN 21 (mx_d D_M_mix 4 rfl) (by decide) (by decide) (by decide) (by decide) ?_
    refine mx_aload_n (k4 := 0) (mx_d D_M_mix 5 rfl) (by rfl) ?_
    refine mx_iload_n (k4 := 2) (mx_d D_M_mix 6 rfl) (by rfl) ?_
    refine mx_callV hG (Y' := Y_M_isDate) (ci := 7) [_] (mx_d D_M_mix 7 rfl) in_M_isDate w_702 w_704 s_M_isDate (by rfl) np_M_isDate (by exact Nat.le_of_ble_eq_true rfl) (by rfl) (by first | assumption | omega) (by first | assumption | exact va_up_self _ _ _ | (rw [va_up_ne _ _ (by omega)]; first | assumption | exact va_up_self _ _ _ | (rw [va_up_ne _ _ (by omega)]; first | assumption | exact va_up_self _ _ _ | (rw [va_up_ne _ _ (by omega)]; first | assumption | exact va_up_self _ _ _ | (rw [va_up_ne _ _ (by omega)]; first | assumption | exact va_up_self _ _ _ | (rw [va_up_ne _ _ (by omega)]; first | assumption | exact va_up_self _ _ _)))))) (by rfl) (by exact Nat.le_of_ble_eq_true rfl) (m_isDate hG hN h50 hD b1 b2 ?_)
    cases hs : wiB b 0 ((nD : Int) - 1) with
    | false =>
      have hs' := wiB_f hs
      refine mx_if_eqY 21 (mx_d D_M_mix 8 rfl) (by decide) (by decide) (by decide) (by decide) ?_
      refine mx_iconst (n := 0) (mx_d D_M_mix 11 rfl) ?_
      exact both false ⟨fun z => absurd z (by decide), fun z => by omega⟩
    | true =>
      have hs' := wiB_t hs
      refine mx_if_eqN 21 (mx_d D_M_mix 8 rfl) (by decide) (by decide) (by decide) (by decide) ?_
      refine mx_iconst (n := 1) (mx_d D_M_mix 9 rfl) ?_
      refine mx_goto 22 (mx_d D_M_mix 10 rfl) (by decide) ?_
      exact both true ⟨fun _ => ⟨by omega, by omega⟩, fun _ => rfl⟩
end MF
