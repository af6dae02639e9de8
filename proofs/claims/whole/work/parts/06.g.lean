/-! the reference: gap, slid, wiggle, clear, least, span, unit, count -/
section MG
variable {G : mx_G} {d bc bs : Nat} {N : Nat} {ce : Nat → va_E} {Q : mx_P} {Y : Nat} {U : Int} {nE iE nD : Nat} {rA rS : Int} {eA eS : Nat → Nat → Int} {dA dS : Nat → Int} {dW : Nat → Nat → Int} {lc : Nat → Bool} {rn rg : Nat → Nat} {rN : Nat} {ps : Nat → Int} {pN : Nat} {th : Int}
theorem m_gap (hG : mx_ok G) (hN : 63 ≤ N) (hV : IV Y U nE iE nD rA rS eA eS dA dS dW lc rn rg rN ps pN) (hR : RS G Y U nE iE nD rA rS eA eS dA dS dW lc rn rg rN ps pN th ce) {i z : Int} (i1 : -2147483648 ≤ i) (i2 : i < 2147483648) (z1 : -2147483648 ≤ z) (z2 : z < 2147483648)
    (q0 : ∀ ce', ¬ (0 ≤ i ∧ i < nD) → RS G Y U nE iE nD rA rS eA eS dA dS dW lc rn rg rN ps pN 1 ce' → (∀ k, k < 50 ∨ 63 ≤ k → ce' k = ce k) → Q (.inl (some (.int (iI 0)))) N ce' bc bs)
    (q1 : ∀ ce', (0 ≤ i ∧ i < nD) → ¬ (0 ≤ z ∧ z ≤ 59) → RS G Y U nE iE nD rA rS eA eS dA dS dW lc rn rg rN ps pN 2 ce' → (∀ k, k < 50 ∨ 63 ≤ k → ce' k = ce k) → Q (.inl (some (.int (iI 0)))) N ce' bc bs)
    (q2 : ∀ ce', (0 ≤ i ∧ i < nD) → (0 ≤ z ∧ z ≤ 59) → ¬ rN < 8 → RS G Y U nE iE nD rA rS eA eS dA dS dW lc rn rg rN ps pN 3 ce' → (∀ k, k < 50 ∨ 63 ≤ k → ce' k = ce k) → Q (.inl (some (.int (iI 0)))) N ce' bc bs)
    (q3 : ∀ ce' (j g : Nat), i = j → z = g → j < nD → g ≤ 59 → rN < 8 → RS G Y U nE iE nD rA rS eA eS dA dS dW lc (va_up rn rN j) (va_up rg rN g) (rN + 1) ps pN 0 ce' → (∀ k, k < 50 ∨ 63 ≤ k → ce' k = ce k) → Q (.inl (some (.int (iI ((rN + 1 : Nat) : Int))))) N ce' bc bs) : mx_M G Y_M_gap (d + 3) bc bs false N ce 0 [(0, .ref (mx_B G + 50)), (1, .int (iI i)), (2, .int (iI z))] [] Q := by
  obtain ⟨hY, hU, hE, hD, hrA, hrS, hEA, hES, hDA, hDS, hDz, hDW, hrN, hrn, hpN, hps⟩ := hV
  obtain ⟨rw, h50, hA⟩ := hR
  have e9 : ∀ (f : Nat → Nat) (v : Nat), va_up (fun j => ((f j : Nat) : Int)) rN (v : Int) = fun j => ((va_up f rN v j : Nat) : Int) := by
    intro f v
    funext j
    by_cases hj : j = rN
    · subst hj; rw [va_up_self, va_up_self]
    · rw [va_up_ne _ _ hj, va_up_ne _ _ hj]
  have join : ∀ b2 : Bool, (b2 = true ↔ rN < 8) → mx_M G Y_M_gap (d + 3) bc bs false N ce 27 [(0, .ref (mx_B G + 50)), (1, .int (iI i)), (2, .int (iI z))] [.int (iI (bI b2)), .int (iI (bI (wiB z 0 59))), .int (iI (bI (wiB i 0 ((nD : Int) - 1)))), .ref (mx_B G + 50)] Q := by
    intro b2 hb2
    refine mx_callV hG (Y' := Y_M_goes) (ci := 7) [_, _, _] (mx_d D_M_gap 15 rfl) in_M_goes w_666 w_668 s_M_goes (by rfl) np_M_goes (by exact Nat.le_of_ble_eq_true rfl) (by rfl) (by first | assumption | omega) (by first | assumption | exact va_up_self _ _ _ | (rw [va_up_ne _ _ (by omega)]; first | assumption | exact va_up_self _ _ _ | (rw [va_up_ne _ _ (by omega)]; first | assumption | exact va_up_self _ _ _ | (rw [va_up_ne _ _ (by omega)]; first | assumption | exact va_up_self _ _ _ | (rw [va_up_ne _ _ (by omega)]; first | assumption | exact va_up_self _ _ _ | (rw [va_up_ne _ _ (by omega)]; first | assumption | exact va_up_self _ _ _)))))) (by rfl) (by exact Nat.le_of_ble_eq_true rfl) (m_goes hG hN h50 ?_)
    cases ha : wiB i 0 ((nD : Int) - 1) with
    | false =>
      have ha' := wiB_f ha
      refine mx_if_neN 35 (mx_d D_M_gap 16 rfl) (by decide) (by cases b2 <;> cases wiB z 0 59 <;> decide) (by cases b2 <;> cases wiB z 0 59 <;> decide) (by cases b2 <;> cases wiB z 0 59 <;> decide) ?_
      refine mx_iconst (n := 0) (mx_d D_M_gap 17 rfl) ?_
      refine mx_iret (by rfl) (mx_d D_M_gap 18 rfl) ?_
      exact q0 _ (by omega) (RS.thr hA) fr50
    | true =>
      have ha' := wiB_t ha
      cases hz : wiB z 0 59 with
      | false =>
        have hz' := wiB_f hz
        refine mx_if_neN 35 (mx_d D_M_gap 16 rfl) (by decide) (by cases b2 <;> decide) (by cases b2 <;> decide) (by cases b2 <;> decide) ?_
        refine mx_iconst (n := 0) (mx_d D_M_gap 17 rfl) ?_
        refine mx_iret (by rfl) (mx_d D_M_gap 18 rfl) ?_
        exact q1 _ (by omega) (by omega) (RS.thr hA) fr50
      | true =>
        have hz' := wiB_t hz
        cases b2 with
        | false =>
          refine mx_if_neN 35 (mx_d D_M_gap 16 rfl) (by decide) (by decide) (by decide) (by decide) ?_
          refine mx_iconst (n := 0) (mx_d D_M_gap 17 rfl) ?_
          refine mx_iret (by rfl) (mx_d D_M_gap 18 rfl) ?_
          exact q2 _ (by omega) (by omega) (fun z => absurd (hb2.mpr z) (by decide)) (RS.thr hA) fr50
        | true =>
          have h8 := hb2.mp rfl
          obtain ⟨j, rfl⟩ : ∃ j : Nat, i = j := ⟨i.toNat, by omega⟩
          obtain ⟨g, rfl⟩ : ∃ g : Nat, z = g := ⟨z.toNat, by omega⟩
          obtain ⟨fA, fS, fW, ch, tY, tA, tS, ⟨h51, h52, h53, h54, h55, h56, h57, h58, h59, h60, h61, h62⟩, hfe, hfw, hch⟩ := hA
          refine mx_if_neY 35 (mx_d D_M_gap 16 rfl) (by decide) (by decide) (by decide) (by decide) ?_
          refine mx_aload_n (k4 := 0) (mx_d D_M_gap 19 rfl) (by rfl) ?_
          refine mx_getf hG (idx := 33) (ci := 7) (kf := 15) (mx_d D_M_gap 20 rfl) (by rfl) cls_M (by decide) w_596 (by first | assumption | omega) (by first | assumption | exact va_up_self _ _ _ | (rw [va_up_ne _ _ (by omega)]; first | assumption | exact va_up_self _ _ _ | (rw [va_up_ne _ _ (by omega)]; first | assumption | exact va_up_self _ _ _ | (rw [va_up_ne _ _ (by omega)]; first | assumption | exact va_up_self _ _ _ | (rw [va_up_ne _ _ (by omega)]; first | assumption | exact va_up_self _ _ _ | (rw [va_up_ne _ _ (by omega)]; first | assumption | exact va_up_self _ _ _)))))) (by rfl) ?_
          refine mx_aload_n (k4 := 0) (mx_d D_M_gap 21 rfl) (by rfl) ?_
          refine mx_getf hG (idx := 115) (ci := 7) (kf := 14) (mx_d D_M_gap 22 rfl) (by rfl) cls_M (by decide) w_595 (by first | assumption | omega) (by first | assumption | exact va_up_self _ _ _ | (rw [va_up_ne _ _ (by omega)]; first | assumption | exact va_up_self _ _ _ | (rw [va_up_ne _ _ (by omega)]; first | assumption | exact va_up_self _ _ _ | (rw [va_up_ne _ _ (by omega)]; first | assumption | exact va_up_self _ _ _ | (rw [va_up_ne _ _ (by omega)]; first | assumption | exact va_up_self _ _ _ | (rw [va_up_ne _ _ (by omega)]; first | assumption | exact va_up_self _ _ _)))))) (by rfl) ?_
          refine mx_iload_n (k4 := 1) (mx_d D_M_gap 23 rfl) (by rfl) ?_
          refine mx_iastI hG _ _ (mx_d D_M_gap 24 rfl) (by first | assumption | omega) (by first | assumption | exact va_up_self _ _ _ | (rw [va_up_ne _ _ (by omega)]; first | assumption | exact va_up_self _ _ _ | (rw [va_up_ne _ _ (by omega)]; first | assumption | exact va_up_self _ _ _ | (rw [va_up_ne _ _ (by omega)]; first | assumption | exact va_up_self _ _ _ | (rw [va_up_ne _ _ (by omega)]; first | assumption | exact va_up_self _ _ _ | (rw [va_up_ne _ _ (by omega)]; first | assumption | exact va_up_self _ _ _)))))) (by rfl) (by rfl) (by omega) (by omega) ?_
          refine mx_aload_n (k4 := 0) (mx_d D_M_gap 25 rfl) (by rfl) ?_
          refine mx_getf hG (idx := 36) (ci := 7) (kf := 16) (mx_d D_M_gap 26 rfl) (by rfl) cls_M (by decide) w_597 (by first | assumption | omega) (by first | assumption | exact va_up_self _ _ _ | (rw [va_up_ne _ _ (by omega)]; first | assumption | exact va_up_self _ _ _ | (rw [va_up_ne _ _ (by omega)]; first | assumption | exact va_up_self _ _ _ | (rw [va_up_ne _ _ (by omega)]; first | assumption | exact va_up_self _ _ _ | (rw [va_up_ne _ _ (by omega)]; first | assumption | exact va_up_self _ _ _ | (rw [va_up_ne _ _ (by omega)]; first | assumption | exact va_up_self _ _ _)))))) (by rfl) ?_
          refine mx_aload_n (k4 := 0) (mx_d D_M_gap 27 rfl) (by rfl) ?_
          refine mx_getf hG (idx := 115) (ci := 7) (kf := 14) (mx_d D_M_gap 28 rfl) (by rfl) cls_M (by decide) w_595 (by first | assumption | omega) (by first | assumption | exact va_up_self _ _ _ | (rw [va_up_ne _ _ (by omega)]; first | assumption | exact va_up_self _ _ _ | (rw [va_up_ne _ _ (by omega)]; first | assumption | exact va_up_self _ _ _ | (rw [va_up_ne _ _ (by omega)]; first | assumption | exact va_up_self _ _ _ | (rw [va_up_ne _ _ (by omega)]; first | assumption | exact va_up_self _ _ _ | (rw [va_up_ne _ _ (by omega)]; first | assumption | exact va_up_self _ _ _)))))) (by rfl) ?_
          refine mx_iload_n (k4 := 2) (mx_d D_M_gap 29 rfl) (by rfl) ?_
          refine mx_iastI hG _ _ (mx_d D_M_gap 30 rfl) (by first | assumption | omega) (by first | assumption | exact va_up_self _ _ _ | (rw [va_up_ne _ _ (by omega)]; first | assumption | exact va_up_self _ _ _ | (rw [va_up_ne _ _ (by omega)]; first | assumption | exact va_up_self _ _ _ | (rw [va_up_ne _ _ (by omega)]; first | assumption | exact va_up_self _ _ _ | (rw [va_up_ne _ _ (by omega)]; first | assumption | exact va_up_self _ _ _ | (rw [va_up_ne _ _ (by omega)]; first | assumption | exact va_up_self _ _ _)))))) (by rfl) (by rfl) (by omega) (by omega) ?_
          refine mx_aload_n (k4 := 0) (mx_d D_M_gap 31 rfl) (by rfl) ?_
          refine mx_dup (mx_d D_M_gap 32 rfl) (by rfl) ?_
          refine mx_getf hG (idx := 115) (ci := 7) (kf := 14) (mx_d D_M_gap 33 rfl) (by rfl) cls_M (by decide) w_595 (by first | assumption | omega) (by first | assumption | exact va_up_self _ _ _ | (rw [va_up_ne _ _ (by omega)]; first | assumption | exact va_up_self _ _ _ | (rw [va_up_ne _ _ (by omega)]; first | assumption | exact va_up_self _ _ _ | (rw [va_up_ne _ _ (by omega)]; first | assumption | exact va_up_self _ _ _ | (rw [va_up_ne _ _ (by omega)]; first | assumption | exact va_up_self _ _ _ | (rw [va_up_ne _ _ (by omega)]; first | assumption | exact va_up_self _ _ _)))))) (by rfl) ?_
          refine mx_iconst (n := 1) (mx_d D_M_gap 34 rfl) ?_
          refine mx_iaddI (mx_d D_M_gap 35 rfl) ?_
          refine mx_putf hG (idx := 115) (ci := 7) (kf := 14) (t := (.int)) (mx_d D_M_gap 36 rfl) (by rfl) cls_M (by decide) (Or.inl rfl) w_595 (by first | assumption | omega) (by first | assumption | exact va_up_self _ _ _ | (rw [va_up_ne _ _ (by omega)]; first | assumption | exact va_up_self _ _ _ | (rw [va_up_ne _ _ (by omega)]; first | assumption | exact va_up_self _ _ _ | (rw [va_up_ne _ _ (by omega)]; first | assumption | exact va_up_self _ _ _ | (rw [va_up_ne _ _ (by omega)]; first | assumption | exact va_up_self _ _ _ | (rw [va_up_ne _ _ (by omega)]; first | assumption | exact va_up_self _ _ _)))))) (by exact Nat.le_of_ble_eq_true rfl) (by decide +kernel) (by rfl) (by rfl) ?_
          refine mx_aload_n (k4 := 0) (mx_d D_M_gap 37 rfl) (by rfl) ?_
          refine mx_getf hG (idx := 115) (ci := 7) (kf := 14) (mx_d D_M_gap 38 rfl) (by rfl) cls_M (by decide) w_595 (by first | assumption | omega) (by first | assumption | exact va_up_self _ _ _ | (rw [va_up_ne _ _ (by omega)]; first | assumption | exact va_up_self _ _ _ | (rw [va_up_ne _ _ (by omega)]; first | assumption | exact va_up_self _ _ _ | (rw [va_up_ne _ _ (by omega)]; first | assumption | exact va_up_self _ _ _ | (rw [va_up_ne _ _ (by omega)]; first | assumption | exact va_up_self _ _ _ | (rw [va_up_ne _ _ (by omega)]; first | assumption | exact va_up_self _ _ _)))))) (by rfl) ?_
          refine mx_iret (by rfl) (mx_d D_M_gap 39 rfl) ?_
          rw [e9, e9]
          refine q3 _ j g rfl rfl (by omega) (by omega) h8 ⟨rw, va_up_self _ _ _, fA, fS, fW, ch, tY, tA, tS, ⟨?_, ?_, ?_, ?_, ?_, ?_, ?_, ?_, ?_, ?_, ?_, ?_⟩, hfe, hfw, hch⟩ (fun k hk => ?_)
          · rw [va_up_ne _ _ (by omega), va_up_ne _ _ (by omega), va_up_ne _ _ (by omega), va_up_ne _ _ (by omega)]; exact h51
          · rw [va_up_ne _ _ (by omega), va_up_ne _ _ (by omega), va_up_ne _ _ (by omega), va_up_ne _ _ (by omega)]; exact h52
          · rw [va_up_ne _ _ (by omega), va_up_ne _ _ (by omega), va_up_ne _ _ (by omega), va_up_ne _ _ (by omega)]; exact h53
          · rw [va_up_ne _ _ (by omega), va_up_ne _ _ (by omega), va_up_ne _ _ (by omega), va_up_ne _ _ (by omega)]; exact h54
          · rw [va_up_ne _ _ (by omega), va_up_ne _ _ (by omega), va_up_ne _ _ (by omega), va_up_ne _ _ (by omega)]; exact h55
          · rw [va_up_ne _ _ (by omega), va_up_ne _ _ (by omega), va_up_ne _ _ (by omega), va_up_ne _ _ (by omega)]; exact h56
          · rw [va_up_ne _ _ (by omega), va_up_ne _ _ (by omega), va_up_self]
          · rw [va_up_ne _ _ (by omega), va_up_self]
          · rw [va_up_ne _ _ (by omega), va_up_ne _ _ (by omega), va_up_ne _ _ (by omega), va_up_ne _ _ (by omega)]; exact h59
          · rw [va_up_ne _ _ (by omega), va_up_ne _ _ (by omega), va_up_ne _ _ (by omega), va_up_ne _ _ (by omega)]; exact h60
          · rw [va_up_ne _ _ (by omega), va_up_ne _ _ (by omega), va_up_ne _ _ (by omega), va_up_ne _ _ (by omega)]; exact h61
          · rw [va_up_ne _ _ (by omega), va_up_ne _ _ (by omega), va_up_ne _ _ (by omega), va_up_ne _ _ (by omega)]; exact h62
          · rw [va_up_ne _ _ (by omega), va_up_ne _ _ (by omega), va_up_ne _ _ (by omega), va_up_ne _ _ (by omega)]
  refine mx_aload_n (k4 := 0) (mx_d D_M_gap 0 rfl) (by rfl) ?_
  refine mx_aload_n (k4 := 0) (mx_d D_M_gap 1 rfl) (by rfl) ?_
  refine mx_iload_n (k4 := 1) (mx_d D_M_gap 2 rfl) (by rfl) ?_
  refine mx_callV hG (Y' := Y_M_isDate) (ci := 7) [_] (mx_d D_M_gap 3 rfl) in_M_isDate w_702 w_704 s_M_isDate (by rfl) np_M_isDate (by exact Nat.le_of_ble_eq_true rfl) (by rfl) (by first | assumption | omega) (by first | assumption | exact va_up_self _ _ _ | (rw [va_up_ne _ _ (by omega)]; first | assumption | exact va_up_self _ _ _ | (rw [va_up_ne _ _ (by omega)]; first | assumption | exact va_up_self _ _ _ | (rw [va_up_ne _ _ (by omega)]; first | assumption | exact va_up_self _ _ _ | (rw [va_up_ne _ _ (by omega)]; first | assumption | exact va_up_self _ _ _ | (rw [va_up_ne _ _ (by omega)]; first | assumption | exact va_up_self _ _ _)))))) (by rfl) (by exact Nat.le_of_ble_eq_true rfl) (m_isDate hG hN h50 hD i1 i2 ?_)
  refine mx_iload_n (k4 := 2) (mx_d D_M_gap 4 rfl) (by rfl) ?_
  refine mx_iconst (n := 0) (mx_d D_M_gap 5 rfl) ?_
  refine mx_bipush (n := 59) (mx_d D_M_gap 6 rfl) (by decide) ?_
  refine mx_callS (Y' := Y_M_within) [_, _, _] (mx_d D_M_gap 7 rfl) in_M_within w_663 w_664 np_M_within (by exact Nat.le_of_ble_eq_true rfl) (by rfl) (by rfl) (by exact Nat.le_of_ble_eq_true rfl) (m_within z1 z2 (by omega) (by omega) (by omega) (by omega) ?_)
  refine mx_aload_n (k4 := 0) (mx_d D_M_gap 8 rfl) (by rfl) ?_
  refine mx_getf hG (idx := 115) (ci := 7) (kf := 14) (mx_d D_M_gap 9 rfl) (by rfl) cls_M (by decide) w_595 (by first | assumption | omega) (by first | assumption | exact va_up_self _ _ _ | (rw [va_up_ne _ _ (by omega)]; first | assumption | exact va_up_self _ _ _ | (rw [va_up_ne _ _ (by omega)]; first | assumption | exact va_up_self _ _ _ | (rw [va_up_ne _ _ (by omega)]; first | assumption | exact va_up_self _ _ _ | (rw [va_up_ne _ _ (by omega)]; first | assumption | exact va_up_self _ _ _ | (rw [va_up_ne _ _ (by omega)]; first | assumption | exact va_up_self _ _ _)))))) (by rfl) ?_
  refine mx_bipush (n := 8) (mx_d D_M_gap 10 rfl) (by decide) ?_
  by_cases hc : rN < 8
  · refine mx_icmp_geN 26 (mx_d D_M_gap 11 rfl) (by decide) (by omega) (by omega) (by omega) (by omega) (by omega) ?_
    refine mx_iconst (n := 1) (mx_d D_M_gap 12 rfl) ?_
    refine mx_goto 27 (mx_d D_M_gap 13 rfl) (by decide) ?_
    exact join true ⟨fun _ => hc, fun _ => rfl⟩
  · refine mx_icmp_geY 26 (mx_d D_M_gap 11 rfl) (by decide) (by omega) (by omega) (by omega) (by omega) (by omega) ?_
    refine mx_iconst (n := 0) (mx_d D_M_gap 14 rfl) ?_
    exact join false ⟨fun z => absurd z (by decide), fun z => absurd z hc⟩
theorem m_slid (hG : mx_ok G) (hN : 63 ≤ N) (hV : IV Y U nE iE nD rA rS eA eS dA dS dW lc rn rg rN ps pN) (hR : RS G Y U nE iE nD rA rS eA eS dA dS dW lc rn rg rN ps pN th ce) {y : Int} (y1 : -2147483648 ≤ y) (y2 : y < 2147483648)
    (q0 : ∀ ce', ¬ (0 ≤ y ∧ y < Y) → RS G Y U nE iE nD rA rS eA eS dA dS dW lc rn rg rN ps pN 1 ce' → (∀ k, k < 50 ∨ 63 ≤ k → ce' k = ce k) → Q (.inl (some (.int (iI 0)))) N ce' bc bs)
    (q2 : ∀ ce' (m : Nat), y = m → m < Y → RS G Y U nE iE nD rA rS eA eS dA dS dW lc rn rg rN ps pN 0 ce' → (∀ k, k < 50 ∨ 63 ≤ k → ce' k = ce k) → Q (.inl (some (.int (iI (slTo Y dW rn rg m rN))))) N ce' bc bs) : mx_M G Y_M_slid (d + 3) bc bs false N ce 0 [(0, .ref (mx_B G + 50)), (1, .int (iI y))] [] Q := by
  have hV0 := hV
  obtain ⟨hY, hU, hE, hD, hrA, hrS, hEA, hES, hDA, hDS, hDz, hDW, hrN, hrn, hpN, hps⟩ := hV
  obtain ⟨rw, h50, hA⟩ := hR
  refine mx_aload_n (k4 := 0) (mx_d D_M_slid 0 rfl) (by rfl) ?_
  refine mx_aload_n (k4 := 0) (mx_d D_M_slid 1 rfl) (by rfl) ?_
  refine mx_iload_n (k4 := 1) (mx_d D_M_slid 2 rfl) (by rfl) ?_
  refine mx_callV hG (Y' := Y_M_isYear) (ci := 7) [_] (mx_d D_M_slid 3 rfl) in_M_isYear w_659 w_661 s_M_isYear (by rfl) np_M_isYear (by exact Nat.le_of_ble_eq_true rfl) (by rfl) (by first | assumption | omega) (by first | assumption | exact va_up_self _ _ _ | (rw [va_up_ne _ _ (by omega)]; first | assumption | exact va_up_self _ _ _ | (rw [va_up_ne _ _ (by omega)]; first | assumption | exact va_up_self _ _ _ | (rw [va_up_ne _ _ (by omega)]; first | assumption | exact va_up_self _ _ _ | (rw [va_up_ne _ _ (by omega)]; first | assumption | exact va_up_self _ _ _ | (rw [va_up_ne _ _ (by omega)]; first | assumption | exact va_up_self _ _ _)))))) (by rfl) (by exact Nat.le_of_ble_eq_true rfl) (m_isYear hG hN h50 hY.2 y1 y2 ?_)
  refine mx_iconst (n := 1) (mx_d D_M_slid 4 rfl) ?_
  refine mx_iconst (n := 1) (mx_d D_M_slid 5 rfl) ?_
  refine mx_callV hG (Y' := Y_M_goes) (ci := 7) [_, _, _] (mx_d D_M_slid 6 rfl) in_M_goes w_666 w_668 s_M_goes (by rfl) np_M_goes (by exact Nat.le_of_ble_eq_true rfl) (by rfl) (by first | assumption | omega) (by first | assumption | exact va_up_self _ _ _ | (rw [va_up_ne _ _ (by omega)]; first | assumption | exact va_up_self _ _ _ | (rw [va_up_ne _ _ (by omega)]; first | assumption | exact va_up_self _ _ _ | (rw [va_up_ne _ _ (by omega)]; first | assumption | exact va_up_self _ _ _ | (rw [va_up_ne _ _ (by omega)]; first | assumption | exact va_up_self _ _ _ | (rw [va_up_ne _ _ (by omega)]; first | assumption | exact va_up_self _ _ _)))))) (by rfl) (by exact Nat.le_of_ble_eq_true rfl) (m_goes hG hN h50 (b := true) (c := true) ?_)
  cases ha : wiB y 0 ((Y : Int) - 1) with
  | false =>
    have ha' := wiB_f ha
    refine mx_if_eqY 22 (mx_d D_M_slid 7 rfl) (by decide) (by decide) (by decide) (by decide) ?_
    refine mx_iconst (n := 0) (mx_d D_M_slid 12 rfl) ?_
    refine mx_iret (by rfl) (mx_d D_M_slid 13 rfl) ?_
    exact q0 _ (by omega) (RS.thr hA) fr50
  | true =>
    have ha' := wiB_t ha
    obtain ⟨m, rfl⟩ : ∃ m : Nat, y = m := ⟨y.toNat, by omega⟩
    have hA0 := hA
    obtain ⟨fA, fS, fW, ch, tY, tA, tS, ⟨h51, h52, h53, h54, h55, h56, h57, h58, h59, h60, h61, h62⟩, hfe, hfw, hch⟩ := hA
    refine mx_if_eqN 22 (mx_d D_M_slid 7 rfl) (by decide) (by decide) (by decide) (by decide) ?_
    refine mx_aload_n (k4 := 0) (mx_d D_M_slid 8 rfl) (by rfl) ?_
    refine mx_iload_n (k4 := 1) (mx_d D_M_slid 9 rfl) (by rfl) ?_
    refine mx_callV hG (Y' := Y_M_slidTo) (ci := 7) [_] (mx_d D_M_slid 10 rfl) in_M_slidTo w_755 w_757 s_M_slidTo (by rfl) np_M_slidTo (by exact Nat.le_of_ble_eq_true rfl) (by rfl) (by first | assumption | omega) (by first | assumption | exact va_up_self _ _ _ | (rw [va_up_ne _ _ (by omega)]; first | assumption | exact va_up_self _ _ _ | (rw [va_up_ne _ _ (by omega)]; first | assumption | exact va_up_self _ _ _ | (rw [va_up_ne _ _ (by omega)]; first | assumption | exact va_up_self _ _ _ | (rw [va_up_ne _ _ (by omega)]; first | assumption | exact va_up_self _ _ _ | (rw [va_up_ne _ _ (by omega)]; first | assumption | exact va_up_self _ _ _)))))) (by rfl) (by exact Nat.le_of_ble_eq_true rfl) (m_slidTo hG hN (va_up_self _ _ _) ((va_up_ne _ _ (by omega)).trans h53) ((va_up_ne _ _ (by omega)).trans h57) ((va_up_ne _ _ (by omega)).trans h58) hV0 hfw (y := m) (by omega) ?_)
    refine mx_goto 23 (mx_d D_M_slid 11 rfl) (by decide) ?_
    refine mx_iret (by rfl) (mx_d D_M_slid 13 rfl) ?_
    exact q2 _ m rfl (by omega) (RS.thr hA0) fr50
theorem m_wiggle (hG : mx_ok G) (hN : 63 ≤ N) (hV : IV Y U nE iE nD rA rS eA eS dA dS dW lc rn rg rN ps pN) (hR : RS G Y U nE iE nD rA rS eA eS dA dS dW lc rn rg rN ps pN th ce)
    (q : ∀ ce', RS G Y U nE iE nD rA rS eA eS dA dS dW lc rn rg rN ps pN 0 ce' → (∀ k, k < 50 ∨ 63 ≤ k → ce' k = ce k) → Q (.inl (some (.int (iI (if rN = 0 then -1 else (bstTo (fun y => slTo Y dW rn rg y rN) Y : Nat)))))) N ce' bc bs) : mx_M G Y_M_wiggle (d + 3) bc bs false N ce 0 [(0, .ref (mx_B G + 50))] [] Q := by
  have hV0 := hV
  obtain ⟨hY, hU, hE, hD, hrA, hrS, hEA, hES, hDA, hDS, hDz, hDW, hrN, hrn, hpN, hps⟩ := hV
  obtain ⟨rw, h50, hA⟩ := hR
  have hA0 := hA
  obtain ⟨fA, fS, fW, ch, tY, tA, tS, ⟨h51, h52, h53, h54, h55, h56, h57, h58, h59, h60, h61, h62⟩, hfe, hfw, hch⟩ := hA
  have q9 := q _ (RS.thr hA0 (rw := rw)) fr50
  have bd : ∀ y, 0 ≤ slTo Y dW rn rg y rN ∧ slTo Y dW rn rg y rN ≤ rN * 1000000 := fun y => slTo_bd hDW (fun i hi => by have := (hrn i hi).1; omega)
  refine mx_aload_n (k4 := 0) (mx_d D_M_wiggle 0 rfl) (by rfl) ?_
  refine mx_iconst (n := 0) (mx_d D_M_wiggle 1 rfl) ?_
  refine mx_putf hG (idx := 58) (ci := 7) (kf := 0) (t := (.int)) (mx_d D_M_wiggle 2 rfl) (by rfl) cls_M (by decide) (Or.inl rfl) w_581 (by first | assumption | omega) (by first | assumption | exact va_up_self _ _ _ | (rw [va_up_ne _ _ (by omega)]; first | assumption | exact va_up_self _ _ _ | (rw [va_up_ne _ _ (by omega)]; first | assumption | exact va_up_self _ _ _ | (rw [va_up_ne _ _ (by omega)]; first | assumption | exact va_up_self _ _ _ | (rw [va_up_ne _ _ (by omega)]; first | assumption | exact va_up_self _ _ _ | (rw [va_up_ne _ _ (by omega)]; first | assumption | exact va_up_self _ _ _)))))) (by exact Nat.le_of_ble_eq_true rfl) (by decide +kernel) (by rfl) (by rfl) ?_
  refine mx_aload_n (k4 := 0) (mx_d D_M_wiggle 3 rfl) (by rfl) ?_
  refine mx_getf hG (idx := 115) (ci := 7) (kf := 14) (mx_d D_M_wiggle 4 rfl) (by rfl) cls_M (by decide) w_595 (by first | assumption | omega) (by first | assumption | exact va_up_self _ _ _ | (rw [va_up_ne _ _ (by omega)]; first | assumption | exact va_up_self _ _ _ | (rw [va_up_ne _ _ (by omega)]; first | assumption | exact va_up_self _ _ _ | (rw [va_up_ne _ _ (by omega)]; first | assumption | exact va_up_self _ _ _ | (rw [va_up_ne _ _ (by omega)]; first | assumption | exact va_up_self _ _ _ | (rw [va_up_ne _ _ (by omega)]; first | assumption | exact va_up_self _ _ _)))))) (by rfl) ?_
  by_cases hr : rN = 0
  · refine mx_if_neN 16 (mx_d D_M_wiggle 5 rfl) (by decide) (by omega) (by omega) (by omega) ?_
    refine mx_iconst (n := -1) (mx_d D_M_wiggle 6 rfl) ?_
    refine mx_goto 17 (mx_d D_M_wiggle 7 rfl) (by decide) ?_
    refine mx_istore_n (k4 := 1) (mx_d D_M_wiggle 9 rfl) (by decide) ?_
    refine mx_iconst (n := 1) (mx_d D_M_wiggle 10 rfl) ?_
    refine mx_istore_n (k4 := 2) (mx_d D_M_wiggle 11 rfl) (by decide) ?_
    refine mx_iload_n (k4 := 2) (mx_d D_M_wiggle 12 rfl) (by rfl) ?_
    refine mx_aload_n (k4 := 0) (mx_d D_M_wiggle 13 rfl) (by rfl) ?_
    refine mx_getf hG (idx := 51) (ci := 7) (kf := 1) (mx_d D_M_wiggle 14 rfl) (by rfl) cls_M (by decide) w_582 (by first | assumption | omega) (by first | assumption | exact va_up_self _ _ _ | (rw [va_up_ne _ _ (by omega)]; first | assumption | exact va_up_self _ _ _ | (rw [va_up_ne _ _ (by omega)]; first | assumption | exact va_up_self _ _ _ | (rw [va_up_ne _ _ (by omega)]; first | assumption | exact va_up_self _ _ _ | (rw [va_up_ne _ _ (by omega)]; first | assumption | exact va_up_self _ _ _ | (rw [va_up_ne _ _ (by omega)]; first | assumption | exact va_up_self _ _ _)))))) (by rfl) ?_
    refine mx_icmp_geN 60 (mx_d D_M_wiggle 15 rfl) (by decide) (by omega) (by omega) (by omega) (by omega) (by omega) ?_
    refine mx_aload_n (k4 := 0) (mx_d D_M_wiggle 16 rfl) (by rfl) ?_
    refine mx_getf hG (idx := 115) (ci := 7) (kf := 14) (mx_d D_M_wiggle 17 rfl) (by rfl) cls_M (by decide) w_595 (by first | assumption | omega) (by first | assumption | exact va_up_self _ _ _ | (rw [va_up_ne _ _ (by omega)]; first | assumption | exact va_up_self _ _ _ | (rw [va_up_ne _ _ (by omega)]; first | assumption | exact va_up_self _ _ _ | (rw [va_up_ne _ _ (by omega)]; first | assumption | exact va_up_self _ _ _ | (rw [va_up_ne _ _ (by omega)]; first | assumption | exact va_up_self _ _ _ | (rw [va_up_ne _ _ (by omega)]; first | assumption | exact va_up_self _ _ _)))))) (by rfl) ?_
    refine mx_if_leY 60 (mx_d D_M_wiggle 18 rfl) (by decide) (by omega) (by omega) (by omega) ?_
    refine mx_iload_n (k4 := 1) (mx_d D_M_wiggle 32 rfl) (by rfl) ?_
    refine mx_iret (by rfl) (mx_d D_M_wiggle 33 rfl) ?_
    rw [if_pos hr] at q9
    exact q9
  · refine mx_if_neY 16 (mx_d D_M_wiggle 5 rfl) (by decide) (by omega) (by omega) (by omega) ?_
    refine mx_iconst (n := 0) (mx_d D_M_wiggle 8 rfl) ?_
    refine mx_istore_n (k4 := 1) (mx_d D_M_wiggle 9 rfl) (by decide) ?_
    refine mx_iconst (n := 1) (mx_d D_M_wiggle 10 rfl) ?_
    refine mx_istore_n (k4 := 2) (mx_d D_M_wiggle 11 rfl) (by decide) ?_
    rw [if_neg hr] at q9
    suffices H : ∀ k i : Nat, i + k = Y → 0 < i → mx_M G Y_M_wiggle (d + 3) bc bs false N (va_up ce 50 (rs0 G 0 Y U nE iE nD rA rS rN pN rw)) 20 [(0, .ref (mx_B G + 50)), (1, .int (iI (bstTo (fun y => slTo Y dW rn rg y rN) i : Nat))), (2, .int (iI i))] [] Q from mx_loc (by rw [show bstTo (fun y => slTo Y dW rn rg y rN) 1 = 0 from by simp [bstTo]]; rfl) (H (Y - 1) 1 (by omega) (by omega))
    intro k
    induction k with
    | zero =>
      intro i hi h0
      obtain rfl : i = Y := by omega
      refine mx_iload_n (k4 := 2) (mx_d D_M_wiggle 12 rfl) (by rfl) ?_
      refine mx_aload_n (k4 := 0) (mx_d D_M_wiggle 13 rfl) (by rfl) ?_
      refine mx_getf hG (idx := 51) (ci := 7) (kf := 1) (mx_d D_M_wiggle 14 rfl) (by rfl) cls_M (by decide) w_582 (by first | assumption | omega) (by first | assumption | exact va_up_self _ _ _ | (rw [va_up_ne _ _ (by omega)]; first | assumption | exact va_up_self _ _ _ | (rw [va_up_ne _ _ (by omega)]; first | assumption | exact va_up_self _ _ _ | (rw [va_up_ne _ _ (by omega)]; first | assumption | exact va_up_self _ _ _ | (rw [va_up_ne _ _ (by omega)]; first | assumption | exact va_up_self _ _ _ | (rw [va_up_ne _ _ (by omega)]; first | assumption | exact va_up_self _ _ _)))))) (by rfl) ?_
      refine mx_icmp_geY 60 (mx_d D_M_wiggle 15 rfl) (by decide) (by omega) (by omega) (by omega) (by omega) (by omega) ?_
      refine mx_iload_n (k4 := 1) (mx_d D_M_wiggle 32 rfl) (by rfl) ?_
      refine mx_iret (by rfl) (mx_d D_M_wiggle 33 rfl) ?_
      exact q9
    | succ k ih =>
      intro i hi h0
      have b1 := bd i
      have b2 := bd (bstTo (fun y => slTo Y dW rn rg y rN) i)
      have b3 := bstTo_lt' (fun y => slTo Y dW rn rg y rN) h0
      refine mx_iload_n (k4 := 2) (mx_d D_M_wiggle 12 rfl) (by rfl) ?_
      refine mx_aload_n (k4 := 0) (mx_d D_M_wiggle 13 rfl) (by rfl) ?_
      refine mx_getf hG (idx := 51) (ci := 7) (kf := 1) (mx_d D_M_wiggle 14 rfl) (by rfl) cls_M (by decide) w_582 (by first | assumption | omega) (by first | assumption | exact va_up_self _ _ _ | (rw [va_up_ne _ _ (by omega)]; first | assumption | exact va_up_self _ _ _ | (rw [va_up_ne _ _ (by omega)]; first | assumption | exact va_up_self _ _ _ | (rw [va_up_ne _ _ (by omega)]; first | assumption | exact va_up_self _ _ _ | (rw [va_up_ne _ _ (by omega)]; first | assumption | exact va_up_self _ _ _ | (rw [va_up_ne _ _ (by omega)]; first | assumption | exact va_up_self _ _ _)))))) (by rfl) ?_
      refine mx_icmp_geN 60 (mx_d D_M_wiggle 15 rfl) (by decide) (by omega) (by omega) (by omega) (by omega) (by omega) ?_
      refine mx_aload_n (k4 := 0) (mx_d D_M_wiggle 16 rfl) (by rfl) ?_
      refine mx_getf hG (idx := 115) (ci := 7) (kf := 14) (mx_d D_M_wiggle 17 rfl) (by rfl) cls_M (by decide) w_595 (by first | assumption | omega) (by first | assumption | exact va_up_self _ _ _ | (rw [va_up_ne _ _ (by omega)]; first | assumption | exact va_up_self _ _ _ | (rw [va_up_ne _ _ (by omega)]; first | assumption | exact va_up_self _ _ _ | (rw [va_up_ne _ _ (by omega)]; first | assumption | exact va_up_self _ _ _ | (rw [va_up_ne _ _ (by omega)]; first | assumption | exact va_up_self _ _ _ | (rw [va_up_ne _ _ (by omega)]; first | assumption | exact va_up_self _ _ _)))))) (by rfl) ?_
      refine mx_if_leN 60 (mx_d D_M_wiggle 18 rfl) (by decide) (by omega) (by omega) (by omega) ?_
      refine mx_aload_n (k4 := 0) (mx_d D_M_wiggle 19 rfl) (by rfl) ?_
      refine mx_iload_n (k4 := 2) (mx_d D_M_wiggle 20 rfl) (by rfl) ?_
      refine mx_callV hG (Y' := Y_M_slidTo) (ci := 7) [_] (mx_d D_M_wiggle 21 rfl) in_M_slidTo w_755 w_757 s_M_slidTo (by rfl) np_M_slidTo (by exact Nat.le_of_ble_eq_true rfl) (by rfl) (by first | assumption | omega) (by first | assumption | exact va_up_self _ _ _ | (rw [va_up_ne _ _ (by omega)]; first | assumption | exact va_up_self _ _ _ | (rw [va_up_ne _ _ (by omega)]; first | assumption | exact va_up_self _ _ _ | (rw [va_up_ne _ _ (by omega)]; first | assumption | exact va_up_self _ _ _ | (rw [va_up_ne _ _ (by omega)]; first | assumption | exact va_up_self _ _ _ | (rw [va_up_ne _ _ (by omega)]; first | assumption | exact va_up_self _ _ _)))))) (by rfl) (by exact Nat.le_of_ble_eq_true rfl) (m_slidTo hG hN (va_up_self _ _ _) ((va_up_ne _ _ (by omega)).trans h53) ((va_up_ne _ _ (by omega)).trans h57) ((va_up_ne _ _ (by omega)).trans h58) hV0 hfw (y := i) (by omega) ?_)
      refine mx_aload_n (k4 := 0) (mx_d D_M_wiggle 22 rfl) (by rfl) ?_
      refine mx_iload_n (k4 := 1) (mx_d D_M_wiggle 23 rfl) (by rfl) ?_
      refine mx_callV hG (Y' := Y_M_slidTo) (ci := 7) [_] (mx_d D_M_wiggle 24 rfl) in_M_slidTo w_755 w_757 s_M_slidTo (by rfl) np_M_slidTo (by exact Nat.le_of_ble_eq_true rfl) (by rfl) (by first | assumption | omega) (by first | assumption | exact va_up_self _ _ _ | (rw [va_up_ne _ _ (by omega)]; first | assumption | exact va_up_self _ _ _ | (rw [va_up_ne _ _ (by omega)]; first | assumption | exact va_up_self _ _ _ | (rw [va_up_ne _ _ (by omega)]; first | assumption | exact va_up_self _ _ _ | (rw [va_up_ne _ _ (by omega)]; first | assumption | exact va_up_self _ _ _ | (rw [va_up_ne _ _ (by omega)]; first | assumption | exact va_up_self _ _ _)))))) (by rfl) (by exact Nat.le_of_ble_eq_true rfl) (m_slidTo hG hN (va_up_self _ _ _) ((va_up_ne _ _ (by omega)).trans h53) ((va_up_ne _ _ (by omega)).trans h57) ((va_up_ne _ _ (by omega)).trans h58) hV0 hfw (y := bstTo (fun y => slTo Y dW rn rg y rN) i) (by omega) ?_)
      by_cases hc : slTo Y dW rn rg (bstTo (fun y => slTo Y dW rn rg y rN) i) rN < slTo Y dW rn rg i rN
      · refine mx_icmp_leN 52 (mx_d D_M_wiggle 25 rfl) (by decide) (by omega) (by omega) (by omega) (by omega) (by omega) ?_
        refine mx_iload_n (k4 := 2) (mx_d D_M_wiggle 26 rfl) (by rfl) ?_
        refine mx_goto 53 (mx_d D_M_wiggle 27 rfl) (by decide) ?_
        refine mx_istore_n (k4 := 1) (mx_d D_M_wiggle 29 rfl) (by decide) ?_
        refine mx_iincI (i := 2) (n := 1) (mx_d D_M_wiggle 30 rfl) (by rfl) (by decide) ?_
        refine mx_goto 20 (mx_d D_M_wiggle 31 rfl) (by decide) ?_
        refine mx_loc ?_ (ih (i + 1) (by omega) (by omega))
        simp only [bstTo, if_pos hc]
        rfl
      · refine mx_icmp_leY 52 (mx_d D_M_wiggle 25 rfl) (by decide) (by omega) (by omega) (by omega) (by omega) (by omega) ?_
        refine mx_iload_n (k4 := 1) (mx_d D_M_wiggle 28 rfl) (by rfl) ?_
        refine mx_istore_n (k4 := 1) (mx_d D_M_wiggle 29 rfl) (by decide) ?_
        refine mx_iincI (i := 2) (n := 1) (mx_d D_M_wiggle 30 rfl) (by rfl) (by decide) ?_
        refine mx_goto 20 (mx_d D_M_wiggle 31 rfl) (by decide) ?_
        refine mx_loc ?_ (ih (i + 1) (by omega) (by omega))
        simp only [bstTo, if_neg hc]
        rfl
theorem m_clear (hG : mx_ok G) (hN : 63 ≤ N) (hR : RS G Y U nE iE nD rA rS eA eS dA dS dW lc rn rg rN ps pN th ce)
    (q : ∀ ce', RS G Y U nE iE nD rA rS eA eS dA dS dW lc rn rg (0) ps pN 0 ce' → (∀ k, k < 50 ∨ 63 ≤ k → ce' k = ce k) → Q (.inl (some (.int (iI (rN : Nat))))) N ce' bc bs) : mx_M G Y_M_clear (d + 3) bc bs false N ce 0 [(0, .ref (mx_B G + 50))] [] Q := by
  obtain ⟨rw, h50, hA⟩ := hR
  refine mx_aload_n (k4 := 0) (mx_d D_M_clear 0 rfl) (by rfl) ?_
  refine mx_iconst (n := 0) (mx_d D_M_clear 1 rfl) ?_
  refine mx_putf hG (idx := 58) (ci := 7) (kf := 0) (t := (.int)) (mx_d D_M_clear 2 rfl) (by rfl) cls_M (by decide) (Or.inl rfl) w_581 (by first | assumption | omega) (by first | assumption | exact va_up_self _ _ _ | (rw [va_up_ne _ _ (by omega)]; first | assumption | exact va_up_self _ _ _ | (rw [va_up_ne _ _ (by omega)]; first | assumption | exact va_up_self _ _ _ | (rw [va_up_ne _ _ (by omega)]; first | assumption | exact va_up_self _ _ _ | (rw [va_up_ne _ _ (by omega)]; first | assumption | exact va_up_self _ _ _ | (rw [va_up_ne _ _ (by omega)]; first | assumption | exact va_up_self _ _ _)))))) (by exact Nat.le_of_ble_eq_true rfl) (by decide +kernel) (by rfl) (by rfl) ?_
  refine mx_aload_n (k4 := 0) (mx_d D_M_clear 3 rfl) (by rfl) ?_
  refine mx_getf hG (idx := 115) (ci := 7) (kf := 14) (mx_d D_M_clear 4 rfl) (by rfl) cls_M (by decide) w_595 (by first | assumption | omega) (by first | assumption | exact va_up_self _ _ _ | (rw [va_up_ne _ _ (by omega)]; first | assumption | exact va_up_self _ _ _ | (rw [va_up_ne _ _ (by omega)]; first | assumption | exact va_up_self _ _ _ | (rw [va_up_ne _ _ (by omega)]; first | assumption | exact va_up_self _ _ _ | (rw [va_up_ne _ _ (by omega)]; first | assumption | exact va_up_self _ _ _ | (rw [va_up_ne _ _ (by omega)]; first | assumption | exact va_up_self _ _ _)))))) (by rfl) ?_
  refine mx_istore_n (k4 := 1) (mx_d D_M_clear 5 rfl) (by decide) ?_
  refine mx_aload_n (k4 := 0) (mx_d D_M_clear 6 rfl) (by rfl) ?_
  refine mx_iconst (n := 0) (mx_d D_M_clear 7 rfl) ?_
  refine mx_putf hG (idx := 115) (ci := 7) (kf := 14) (t := (.int)) (mx_d D_M_clear 8 rfl) (by rfl) cls_M (by decide) (Or.inl rfl) w_595 (by first | assumption | omega) (by first | assumption | exact va_up_self _ _ _ | (rw [va_up_ne _ _ (by omega)]; first | assumption | exact va_up_self _ _ _ | (rw [va_up_ne _ _ (by omega)]; first | assumption | exact va_up_self _ _ _ | (rw [va_up_ne _ _ (by omega)]; first | assumption | exact va_up_self _ _ _ | (rw [va_up_ne _ _ (by omega)]; first | assumption | exact va_up_self _ _ _ | (rw [va_up_ne _ _ (by omega)]; first | assumption | exact va_up_self _ _ _)))))) (by exact Nat.le_of_ble_eq_true rfl) (by decide +kernel) (by rfl) (by rfl) ?_
  refine mx_iload_n (k4 := 1) (mx_d D_M_clear 9 rfl) (by rfl) ?_
  refine mx_iret (by rfl) (mx_d D_M_clear 10 rfl) ?_
  rw [bx_uu]
  exact q _ (RS.thr hA) fr50
theorem m_least (hG : mx_ok G) (hN : 63 ≤ N) (hV : IV Y U nE iE nD rA rS eA eS dA dS dW lc rn rg rN ps pN) (hR : RS G Y U nE iE nD rA rS eA eS dA dS dW lc rn rg rN ps pN th ce) {i u v : Int} (i1 : -2147483648 ≤ i) (i2 : i < 2147483648) (u1 : -2147483648 ≤ u) (u2 : u < 2147483648) (v1 : -2147483648 ≤ v) (v2 : v < 2147483648)
    (q0 : ∀ ce', ¬ (0 ≤ i ∧ i < nD) → RS G Y U nE iE nD rA rS eA eS dA dS dW lc rn rg rN ps pN 1 ce' → (∀ k, k < 50 ∨ 63 ≤ k → ce' k = ce k) → Q (.inl (some (.int (iI 0)))) N ce' bc bs)
    (q1 : ∀ ce', (0 ≤ i ∧ i < nD) → ¬ (1 ≤ u ∧ u ≤ v ∧ v ≤ 1000) → RS G Y U nE iE nD rA rS eA eS dA dS dW lc rn rg rN ps pN 2 ce' → (∀ k, k < 50 ∨ 63 ≤ k → ce' k = ce k) → Q (.inl (some (.int (iI 0)))) N ce' bc bs)
    {lc' : Nat → Bool} (hlc : ∀ j : Nat, i = j → j < nD → (1 ≤ u ∧ u ≤ v ∧ v ≤ 1000) → ∀ y, y < Y → lc' y = need (dW j) Y u v y)
    (q2 : ∀ ce' (j : Nat), i = j → j < nD → (1 ≤ u ∧ u ≤ v ∧ v ≤ 1000) → RS G Y U nE iE nD rA rS eA eS dA dS dW (lc') rn rg rN ps pN 0 ce' → (∀ k, k < 50 ∨ 63 ≤ k → ce' k = ce k) → Q (.inl (some (.int (iI (bgN lc' Y : Nat))))) N ce' bc bs) : mx_M G Y_M_least (d + 3) bc bs false N ce 0 [(0, .ref (mx_B G + 50)), (1, .int (iI i)), (2, .int (iI u)), (3, .int (iI v))] [] Q := by
  have hV0 := hV
  obtain ⟨hY, hU, hE, hD, hrA, hrS, hEA, hES, hDA, hDS, hDz, hDW, hrN, hrn, hpN, hps⟩ := hV
  obtain ⟨rw, h50, hA⟩ := hR
  have join : ∀ b : Bool, (b = true ↔ (1 ≤ u ∧ u ≤ v ∧ v ≤ 1000)) → mx_M G Y_M_least (d + 3) bc bs false N ce 28 [(0, .ref (mx_B G + 50)), (1, .int (iI i)), (2, .int (iI u)), (3, .int (iI v))] [.int (iI (bI b)), .int (iI (bI (wiB i 0 ((nD : Int) - 1)))), .ref (mx_B G + 50)] Q := by
    intro b hb
    refine mx_iconst (n := 1) (mx_d D_M_least 16 rfl) ?_
    refine mx_callV hG (Y' := Y_M_goes) (ci := 7) [_, _, _] (mx_d D_M_least 17 rfl) in_M_goes w_666 w_668 s_M_goes (by rfl) np_M_goes (by exact Nat.le_of_ble_eq_true rfl) (by rfl) (by first | assumption | omega) (by first | assumption | exact va_up_self _ _ _ | (rw [va_up_ne _ _ (by omega)]; first | assumption | exact va_up_self _ _ _ | (rw [va_up_ne _ _ (by omega)]; first | assumption | exact va_up_self _ _ _ | (rw [va_up_ne _ _ (by omega)]; first | assumption | exact va_up_self _ _ _ | (rw [va_up_ne _ _ (by omega)]; first | assumption | exact va_up_self _ _ _ | (rw [va_up_ne _ _ (by omega)]; first | assumption | exact va_up_self _ _ _)))))) (by rfl) (by exact Nat.le_of_ble_eq_true rfl) (m_goes hG hN h50 (c := true) ?_)
    cases ha : wiB i 0 ((nD : Int) - 1) with
    | false =>
      have ha' := wiB_f ha
      refine mx_if_neN 37 (mx_d D_M_least 18 rfl) (by decide) (by cases b <;> decide) (by cases b <;> decide) (by cases b <;> decide) ?_
      refine mx_iconst (n := 0) (mx_d D_M_least 19 rfl) ?_
      refine mx_iret (by rfl) (mx_d D_M_least 20 rfl) ?_
      exact q0 _ (by omega) (RS.thr hA) fr50
    | true =>
      have ha' := wiB_t ha
      cases b with
      | false =>
        refine mx_if_neN 37 (mx_d D_M_least 18 rfl) (by decide) (by decide) (by decide) (by decide) ?_
        refine mx_iconst (n := 0) (mx_d D_M_least 19 rfl) ?_
        refine mx_iret (by rfl) (mx_d D_M_least 20 rfl) ?_
        exact q1 _ (by omega) (fun z => absurd (hb.mpr z) (by decide)) (RS.thr hA) fr50
      | true =>
        have hb' := hb.mp rfl
        obtain ⟨j, rfl⟩ : ∃ j : Nat, i = j := ⟨i.toNat, by omega⟩
        have hlc' := hlc j rfl (by omega) hb'
        obtain ⟨fA, fS, fW, ch, tY, tA, tS, ⟨h51, h52, h53, h54, h55, h56, h57, h58, h59, h60, h61, h62⟩, hfe, hfw, hch⟩ := hA
        refine mx_if_neY 37 (mx_d D_M_least 18 rfl) (by decide) (by decide) (by decide) (by decide) ?_
        refine mx_iconst (n := 0) (mx_d D_M_least 21 rfl) ?_
        refine mx_istore (i := 4) (mx_d D_M_least 22 rfl) (by decide) ?_
        suffices H : ∀ (k y : Nat) (c' : Nat → Bool), y + k = Y → (∀ z, z < y → c' z = lc' z) → mx_M G Y_M_least (d + 3) bc bs false N (va_up (va_up ce 50 (rs0 G 0 Y U nE iE nD rA rS rN pN rw)) 56 (aB G 60 c')) 40 [(0, .ref (mx_B G + 50)), (1, .int (iI j)), (2, .int (iI u)), (3, .int (iI v)), (4, .int (iI y))] [] Q by
          have H0 := H Y 0 ch (by omega) (fun z hz => absurd hz (by omega))
          rw [va_up_id (va_up ce 50 (rs0 G 0 Y U nE iE nD rA rS rN pN rw)) 56 ((va_up_ne _ _ (by omega)).trans h56)] at H0
          exact mx_loc (by rfl) H0
        intro k
        induction k with
        | zero =>
          intro y c' hy g1
          obtain rfl : y = Y := by omega
          refine mx_iload (i := 4) (mx_d D_M_least 23 rfl) (by rfl) ?_
          refine mx_aload_n (k4 := 0) (mx_d D_M_least 24 rfl) (by rfl) ?_
          refine mx_getf hG (idx := 51) (ci := 7) (kf := 1) (mx_d D_M_least 25 rfl) (by rfl) cls_M (by decide) w_582 (by first | assumption | omega) (by first | assumption | exact va_up_self _ _ _ | (rw [va_up_ne _ _ (by omega)]; first | assumption | exact va_up_self _ _ _ | (rw [va_up_ne _ _ (by omega)]; first | assumption | exact va_up_self _ _ _ | (rw [va_up_ne _ _ (by omega)]; first | assumption | exact va_up_self _ _ _ | (rw [va_up_ne _ _ (by omega)]; first | assumption | exact va_up_self _ _ _ | (rw [va_up_ne _ _ (by omega)]; first | assumption | exact va_up_self _ _ _)))))) (by rfl) ?_
          refine mx_icmp_geY 71 (mx_d D_M_least 26 rfl) (by decide) (by omega) (by omega) (by omega) (by omega) (by omega) ?_
          refine mx_aload_n (k4 := 0) (mx_d D_M_least 39 rfl) (by rfl) ?_
          refine mx_callV hG (Y' := Y_M_spans) (ci := 7) [] (mx_d D_M_least 40 rfl) in_M_spans w_735 w_737 s_M_spans (by rfl) np_M_spans (by exact Nat.le_of_ble_eq_true rfl) (by rfl) (by first | assumption | omega) (by first | assumption | exact va_up_self _ _ _ | (rw [va_up_ne _ _ (by omega)]; first | assumption | exact va_up_self _ _ _ | (rw [va_up_ne _ _ (by omega)]; first | assumption | exact va_up_self _ _ _ | (rw [va_up_ne _ _ (by omega)]; first | assumption | exact va_up_self _ _ _ | (rw [va_up_ne _ _ (by omega)]; first | assumption | exact va_up_self _ _ _ | (rw [va_up_ne _ _ (by omega)]; first | assumption | exact va_up_self _ _ _)))))) (by rfl) (by exact Nat.le_of_ble_eq_true rfl) (m_spans hG hN ((va_up_ne _ _ (by omega)).trans (va_up_self _ _ _)) (va_up_self _ _ _) hY.2 g1 ?_)
          refine mx_iret (by rfl) (mx_d D_M_least 41 rfl) ?_
          refine q2 _ j rfl (by omega) hb' ⟨rw, (va_up_ne _ _ (by omega)).trans (va_up_self _ _ _), fA, fS, fW, c', tY, tA, tS, ⟨?_, ?_, ?_, ?_, ?_, va_up_self _ _ _, ?_, ?_, ?_, ?_, ?_, ?_⟩, hfe, hfw, g1⟩ (fun k hk => ?_)
          all_goals rw [va_up_ne _ _ (by omega), va_up_ne _ _ (by omega)]
          all_goals assumption
        | succ k ih =>
          intro y c' hy g1
          refine mx_iload (i := 4) (mx_d D_M_least 23 rfl) (by rfl) ?_
          refine mx_aload_n (k4 := 0) (mx_d D_M_least 24 rfl) (by rfl) ?_
          refine mx_getf hG (idx := 51) (ci := 7) (kf := 1) (mx_d D_M_least 25 rfl) (by rfl) cls_M (by decide) w_582 (by first | assumption | omega) (by first | assumption | exact va_up_self _ _ _ | (rw [va_up_ne _ _ (by omega)]; first | assumption | exact va_up_self _ _ _ | (rw [va_up_ne _ _ (by omega)]; first | assumption | exact va_up_self _ _ _ | (rw [va_up_ne _ _ (by omega)]; first | assumption | exact va_up_self _ _ _ | (rw [va_up_ne _ _ (by omega)]; first | assumption | exact va_up_self _ _ _ | (rw [va_up_ne _ _ (by omega)]; first | assumption | exact va_up_self _ _ _)))))) (by rfl) ?_
          refine mx_icmp_geN 71 (mx_d D_M_least 26 rfl) (by decide) (by omega) (by omega) (by omega) (by omega) (by omega) ?_
          refine mx_aload_n (k4 := 0) (mx_d D_M_least 27 rfl) (by rfl) ?_
          refine mx_getf hG (idx := 29) (ci := 7) (kf := 13) (mx_d D_M_least 28 rfl) (by rfl) cls_M (by decide) w_594 (by first | assumption | omega) (by first | assumption | exact va_up_self _ _ _ | (rw [va_up_ne _ _ (by omega)]; first | assumption | exact va_up_self _ _ _ | (rw [va_up_ne _ _ (by omega)]; first | assumption | exact va_up_self _ _ _ | (rw [va_up_ne _ _ (by omega)]; first | assumption | exact va_up_self _ _ _ | (rw [va_up_ne _ _ (by omega)]; first | assumption | exact va_up_self _ _ _ | (rw [va_up_ne _ _ (by omega)]; first | assumption | exact va_up_self _ _ _)))))) (by rfl) ?_
          refine mx_iload (i := 4) (mx_d D_M_least 29 rfl) (by rfl) ?_
          refine mx_aload_n (k4 := 0) (mx_d D_M_least 30 rfl) (by rfl) ?_
          refine mx_iload_n (k4 := 1) (mx_d D_M_least 31 rfl) (by rfl) ?_
          refine mx_iload (i := 4) (mx_d D_M_least 32 rfl) (by rfl) ?_
          refine mx_iload_n (k4 := 2) (mx_d D_M_least 33 rfl) (by rfl) ?_
          refine mx_iload_n (k4 := 3) (mx_d D_M_least 34 rfl) (by rfl) ?_
          refine mx_callV hG (Y' := Y_M_isNeeded) (ci := 7) [_, _, _, _] (mx_d D_M_least 35 rfl) in_M_isNeeded w_731 w_733 s_M_isNeeded (by rfl) np_M_isNeeded (by exact Nat.le_of_ble_eq_true rfl) (by rfl) (by first | assumption | omega) (by first | assumption | exact va_up_self _ _ _ | (rw [va_up_ne _ _ (by omega)]; first | assumption | exact va_up_self _ _ _ | (rw [va_up_ne _ _ (by omega)]; first | assumption | exact va_up_self _ _ _ | (rw [va_up_ne _ _ (by omega)]; first | assumption | exact va_up_self _ _ _ | (rw [va_up_ne _ _ (by omega)]; first | assumption | exact va_up_self _ _ _ | (rw [va_up_ne _ _ (by omega)]; first | assumption | exact va_up_self _ _ _)))))) (by rfl) (by exact Nat.le_of_ble_eq_true rfl) (m_isNeeded hG hN ((va_up_ne _ _ (by omega)).trans (va_up_self _ _ _)) ((va_up_ne _ _ (by omega)).trans ((va_up_ne _ _ (by omega)).trans h53)) hY.2 (i := j) (by omega) (hfw j (by omega)) (hDW j (by omega)) (y := y) (by omega) (by omega) (by omega) (by omega) (by omega) ?_)
          refine mx_zastB hG _ (need (dW j) Y u v y) (mx_d D_M_least 36 rfl) (by first | assumption | omega) (by first | assumption | exact va_up_self _ _ _ | (rw [va_up_ne _ _ (by omega)]; first | assumption | exact va_up_self _ _ _ | (rw [va_up_ne _ _ (by omega)]; first | assumption | exact va_up_self _ _ _ | (rw [va_up_ne _ _ (by omega)]; first | assumption | exact va_up_self _ _ _ | (rw [va_up_ne _ _ (by omega)]; first | assumption | exact va_up_self _ _ _ | (rw [va_up_ne _ _ (by omega)]; first | assumption | exact va_up_self _ _ _)))))) (by rfl) (by rfl) (by omega) (by omega) ?_
          rw [bx_uu]
          refine mx_iincI (i := 4) (n := 1) (mx_d D_M_least 37 rfl) (by rfl) (by decide) ?_
          refine mx_goto 40 (mx_d D_M_least 38 rfl) (by decide) ?_
          refine mx_loc (by rfl) (ih (y + 1) _ (by omega) (fun z hz => ?_))
          by_cases e : z = y
          · subst e; rw [va_up_self]; exact (hlc' z (by omega)).symm
          · rw [va_up_ne _ _ e]; exact g1 z (by omega)
  have no : ¬ (1 ≤ u ∧ u ≤ v ∧ v ≤ 1000) → mx_M G Y_M_least (d + 3) bc bs false N ce 27 [(0, .ref (mx_B G + 50)), (1, .int (iI i)), (2, .int (iI u)), (3, .int (iI v))] [.int (iI (bI (wiB i 0 ((nD : Int) - 1)))), .ref (mx_B G + 50)] Q := by
    intro h
    refine mx_iconst (n := 0) (mx_d D_M_least 15 rfl) ?_
    exact join false ⟨fun z => absurd z (by decide), fun z => absurd z h⟩
  refine mx_aload_n (k4 := 0) (mx_d D_M_least 0 rfl) (by rfl) ?_
  refine mx_aload_n (k4 := 0) (mx_d D_M_least 1 rfl) (by rfl) ?_
  refine mx_iload_n (k4 := 1) (mx_d D_M_least 2 rfl) (by rfl) ?_
  refine mx_callV hG (Y' := Y_M_isDate) (ci := 7) [_] (mx_d D_M_least 3 rfl) in_M_isDate w_702 w_704 s_M_isDate (by rfl) np_M_isDate (by exact Nat.le_of_ble_eq_true rfl) (by rfl) (by first | assumption | omega) (by first | assumption | exact va_up_self _ _ _ | (rw [va_up_ne _ _ (by omega)]; first | assumption | exact va_up_self _ _ _ | (rw [va_up_ne _ _ (by omega)]; first | assumption | exact va_up_self _ _ _ | (rw [va_up_ne _ _ (by omega)]; first | assumption | exact va_up_self _ _ _ | (rw [va_up_ne _ _ (by omega)]; first | assumption | exact va_up_self _ _ _ | (rw [va_up_ne _ _ (by omega)]; first | assumption | exact va_up_self _ _ _)))))) (by rfl) (by exact Nat.le_of_ble_eq_true rfl) (m_isDate hG hN h50 hD i1 i2 ?_)
  refine mx_iload_n (k4 := 2) (mx_d D_M_least 4 rfl) (by rfl) ?_
  refine mx_iconst (n := 1) (mx_d D_M_least 5 rfl) ?_
  by_cases c1 : u < 1
  · refine mx_icmp_ltY 27 (mx_d D_M_least 6 rfl) (by decide) (by omega) (by omega) (by omega) (by omega) (by omega) ?_
    exact no (by omega)
  · refine mx_icmp_ltN 27 (mx_d D_M_least 6 rfl) (by decide) (by omega) (by omega) (by omega) (by omega) (by omega) ?_
    refine mx_iload_n (k4 := 2) (mx_d D_M_least 7 rfl) (by rfl) ?_
    refine mx_iload_n (k4 := 3) (mx_d D_M_least 8 rfl) (by rfl) ?_
    by_cases c2 : v < u
    · refine mx_icmp_gtY 27 (mx_d D_M_least 9 rfl) (by decide) (by omega) (by omega) (by omega) (by omega) (by omega) ?_
      exact no (by omega)
    · refine mx_icmp_gtN 27 (mx_d D_M_least 9 rfl) (by decide) (by omega) (by omega) (by omega) (by omega) (by omega) ?_
      refine mx_iload_n (k4 := 3) (mx_d D_M_least 10 rfl) (by rfl) ?_
      refine mx_sipush (n := 1000) (mx_d D_M_least 11 rfl) (by decide) ?_
      by_cases c3 : 1000 < v
      · refine mx_icmp_gtY 27 (mx_d D_M_least 12 rfl) (by decide) (by omega) (by omega) (by omega) (by omega) (by omega) ?_
        exact no (by omega)
      · refine mx_icmp_gtN 27 (mx_d D_M_least 12 rfl) (by decide) (by omega) (by omega) (by omega) (by omega) (by omega) ?_
        refine mx_iconst (n := 1) (mx_d D_M_least 13 rfl) ?_
        refine mx_goto 28 (mx_d D_M_least 14 rfl) (by decide) ?_
        exact join true ⟨fun _ => by omega, fun _ => rfl⟩
theorem m_span (hG : mx_ok G) (hN : 63 ≤ N) (hV : IV Y U nE iE nD rA rS eA eS dA dS dW lc rn rg rN ps pN) (hR : RS G Y U nE iE nD rA rS eA eS dA dS dW lc rn rg rN ps pN th ce) {k z : Int} (k1 : -2147483648 ≤ k) (k2 : k < 2147483648) (z1 : -2147483648 ≤ z) (z2 : z < 2147483648)
    (q0 : ∀ ce', ¬ ((0 ≤ k ∧ k < (bgN lc Y : Nat)) ∧ 0 ≤ z ∧ z ≤ 1) → RS G Y U nE iE nD rA rS eA eS dA dS dW lc rn rg rN ps pN 1 ce' → (∀ k, k < 50 ∨ 63 ≤ k → ce' k = ce k) → Q (.inl (some (.int (iI 0)))) N ce' bc bs)
    {F L : Nat} (hsp : ∀ j : Nat, k = j → j < bgN lc Y → (z = 0 ∨ z = 1) → spOf lc Y j F L)
    (q2 : ∀ ce' (j : Nat), k = j → j < bgN lc Y → (z = 0 ∨ z = 1) → RS G Y U nE iE nD rA rS eA eS dA dS dW lc rn rg rN ps pN 0 ce' → (∀ k, k < 50 ∨ 63 ≤ k → ce' k = ce k) → Q (.inl (some (.int (iI (if z = 0 then (F : Int) else (L : Int)))))) N ce' bc bs) : mx_M G Y_M_span (d + 3) bc bs false N ce 0 [(0, .ref (mx_B G + 50)), (1, .int (iI k)), (2, .int (iI z))] [] Q := by
  obtain ⟨hY, hU, hE, hD, hrA, hrS, hEA, hES, hDA, hDS, hDz, hDW, hrN, hrn, hpN, hps⟩ := hV
  obtain ⟨rw, h50, hA⟩ := hR
  have hb9 := bgN_le lc Y
  have join : ∀ b : Bool, (b = true ↔ ((0 ≤ k ∧ k < (bgN lc Y : Nat)) ∧ 0 ≤ z ∧ z ≤ 1)) → mx_M G Y_M_span (d + 3) bc bs false N ce 29 [(0, .ref (mx_B G + 50)), (1, .int (iI k)), (2, .int (iI z))] [.int (iI (bI b)), .ref (mx_B G + 50)] Q := by
    intro b hb
    refine mx_iconst (n := 1) (mx_d D_M_span 17 rfl) ?_
    refine mx_iconst (n := 1) (mx_d D_M_span 18 rfl) ?_
    refine mx_callV hG (Y' := Y_M_goes) (ci := 7) [_, _, _] (mx_d D_M_span 19 rfl) in_M_goes w_666 w_668 s_M_goes (by rfl) np_M_goes (by exact Nat.le_of_ble_eq_true rfl) (by rfl) (by first | assumption | omega) (by first | assumption | exact va_up_self _ _ _ | (rw [va_up_ne _ _ (by omega)]; first | assumption | exact va_up_self _ _ _ | (rw [va_up_ne _ _ (by omega)]; first | assumption | exact va_up_self _ _ _ | (rw [va_up_ne _ _ (by omega)]; first | assumption | exact va_up_self _ _ _ | (rw [va_up_ne _ _ (by omega)]; first | assumption | exact va_up_self _ _ _ | (rw [va_up_ne _ _ (by omega)]; first | assumption | exact va_up_self _ _ _)))))) (by rfl) (by exact Nat.le_of_ble_eq_true rfl) (m_goes hG hN h50 (b := true) (c := true) ?_)
    cases b with
    | false =>
      refine mx_if_neN 39 (mx_d D_M_span 20 rfl) (by decide) (by decide) (by decide) (by decide) ?_
      refine mx_iconst (n := 0) (mx_d D_M_span 21 rfl) ?_
      refine mx_iret (by rfl) (mx_d D_M_span 22 rfl) ?_
      exact q0 _ (fun z => absurd (hb.mpr z) (by decide)) (RS.thr hA) fr50
    | true =>
      have hb' := hb.mp rfl
      obtain ⟨j, rfl⟩ : ∃ j : Nat, k = j := ⟨k.toNat, by omega⟩
      obtain ⟨s1, s2, s3, s4, s5, s6⟩ := hsp j rfl (by omega) (by omega)
      have q9 := q2 _ j rfl (by omega) (by omega) (RS.thr hA (rw := rw)) fr50
      obtain ⟨fA, fS, fW, ch, tY, tA, tS, ⟨h51, h52, h53, h54, h55, h56, h57, h58, h59, h60, h61, h62⟩, hfe, hfw, hch⟩ := hA
      have hF1 : bgN lc (F + 1) = j + 1 := by simp only [bgN, s3, if_true, s4]
      have second : ∀ (n y : Nat), y + n = L → F ≤ y → mx_M G Y_M_span (d + 3) bc bs false N (va_up ce 50 (rs0 G 0 Y U nE iE nD rA rS rN pN rw)) 75 [(0, .ref (mx_B G + 50)), (2, .int (iI z)), (3, .int (iI y))] [] (fun o N ce bc bs => z = 1 → Q o N ce bc bs) → True := fun _ _ _ _ _ => trivial
      clear second
      have ends : ∀ (n y : Nat), y + n = L → F ≤ y → z = 1 → ∀ {l9 : List (Nat × Value)}, l9 = l9 → mx_get l9 0 = some (.ref (mx_B G + 50)) → mx_get l9 2 = some (.int (iI z)) → mx_get l9 3 = some (.int (iI y)) → mx_M G Y_M_span (d + 3) bc bs false N (va_up ce 50 (rs0 G 0 Y U nE iE nD rA rS rN pN rw)) 75 l9 [] Q := by
        intro n
        induction n with
        | zero =>
          intro y hy hF hz l9 _ g0 g2 g3
          refine mx_loc (l' := [(0, .ref (mx_B G + 50)), (2, .int (iI z)), (3, .int (iI y))]) (by simp only [List.map_cons, List.map_nil, g0, g2, g3]) ?_
          obtain rfl : y = L := by omega
          rw [if_neg (by omega)] at q9
          refine mx_iload_n (k4 := 2) (mx_d D_M_span 42 rfl) (by rfl) ?_
          refine mx_iconst (n := 1) (mx_d D_M_span 43 rfl) ?_
          refine mx_icmp_neN 107 (mx_d D_M_span 44 rfl) (by decide) (by omega) (by omega) (by omega) (by omega) (by omega) ?_
          refine mx_iload_n (k4 := 3) (mx_d D_M_span 45 rfl) (by rfl) ?_
          refine mx_iconst (n := 1) (mx_d D_M_span 46 rfl) ?_
          refine mx_iaddI (mx_d D_M_span 47 rfl) ?_
          refine mx_aload_n (k4 := 0) (mx_d D_M_span 48 rfl) (by rfl) ?_
          refine mx_getf hG (idx := 51) (ci := 7) (kf := 1) (mx_d D_M_span 49 rfl) (by rfl) cls_M (by decide) w_582 (by first | assumption | omega) (by first | assumption | exact va_up_self _ _ _ | (rw [va_up_ne _ _ (by omega)]; first | assumption | exact va_up_self _ _ _ | (rw [va_up_ne _ _ (by omega)]; first | assumption | exact va_up_self _ _ _ | (rw [va_up_ne _ _ (by omega)]; first | assumption | exact va_up_self _ _ _ | (rw [va_up_ne _ _ (by omega)]; first | assumption | exact va_up_self _ _ _ | (rw [va_up_ne _ _ (by omega)]; first | assumption | exact va_up_self _ _ _)))))) (by rfl) ?_
          by_cases c1 : y + 1 < Y
          · refine mx_icmp_geN 107 (mx_d D_M_span 50 rfl) (by decide) (by omega) (by omega) (by omega) (by omega) (by omega) ?_
            refine mx_aload_n (k4 := 0) (mx_d D_M_span 51 rfl) (by rfl) ?_
            refine mx_getf hG (idx := 29) (ci := 7) (kf := 13) (mx_d D_M_span 52 rfl) (by rfl) cls_M (by decide) w_594 (by first | assumption | omega) (by first | assumption | exact va_up_self _ _ _ | (rw [va_up_ne _ _ (by omega)]; first | assumption | exact va_up_self _ _ _ | (rw [va_up_ne _ _ (by omega)]; first | assumption | exact va_up_self _ _ _ | (rw [va_up_ne _ _ (by omega)]; first | assumption | exact va_up_self _ _ _ | (rw [va_up_ne _ _ (by omega)]; first | assumption | exact va_up_self _ _ _ | (rw [va_up_ne _ _ (by omega)]; first | assumption | exact va_up_self _ _ _)))))) (by rfl) ?_
            refine mx_iload_n (k4 := 3) (mx_d D_M_span 53 rfl) (by rfl) ?_
            refine mx_iconst (n := 1) (mx_d D_M_span 54 rfl) ?_
            refine mx_iaddI (mx_d D_M_span 55 rfl) ?_
            refine mx_zaldB hG (y + 1) (mx_d D_M_span 56 rfl) (by first | assumption | omega) (by first | assumption | exact va_up_self _ _ _ | (rw [va_up_ne _ _ (by omega)]; first | assumption | exact va_up_self _ _ _ | (rw [va_up_ne _ _ (by omega)]; first | assumption | exact va_up_self _ _ _ | (rw [va_up_ne _ _ (by omega)]; first | assumption | exact va_up_self _ _ _ | (rw [va_up_ne _ _ (by omega)]; first | assumption | exact va_up_self _ _ _ | (rw [va_up_ne _ _ (by omega)]; first | assumption | exact va_up_self _ _ _)))))) (by rfl) (by omega) (by omega) ?_
            rw [hch (y + 1) c1]
            cases c2 : lc (y + 1) with
            | true => exact absurd ⟨c1, c2⟩ s6
            | false =>
              refine mx_if_eqY 107 (mx_d D_M_span 57 rfl) (by decide) (by decide) (by decide) (by decide) ?_
              refine mx_iload_n (k4 := 3) (mx_d D_M_span 60 rfl) (by rfl) ?_
              refine mx_iret (by rfl) (mx_d D_M_span 61 rfl) ?_
              exact q9
          · refine mx_icmp_geY 107 (mx_d D_M_span 50 rfl) (by decide) (by omega) (by omega) (by omega) (by omega) (by omega) ?_
            refine mx_iload_n (k4 := 3) (mx_d D_M_span 60 rfl) (by rfl) ?_
            refine mx_iret (by rfl) (mx_d D_M_span 61 rfl) ?_
            exact q9
        | succ n ih =>
          intro y hy hF hz l9 _ g0 g2 g3
          refine mx_loc (l' := [(0, .ref (mx_B G + 50)), (2, .int (iI z)), (3, .int (iI y))]) (by simp only [List.map_cons, List.map_nil, g0, g2, g3]) ?_
          refine mx_iload_n (k4 := 2) (mx_d D_M_span 42 rfl) (by rfl) ?_
          refine mx_iconst (n := 1) (mx_d D_M_span 43 rfl) ?_
          refine mx_icmp_neN 107 (mx_d D_M_span 44 rfl) (by decide) (by omega) (by omega) (by omega) (by omega) (by omega) ?_
          refine mx_iload_n (k4 := 3) (mx_d D_M_span 45 rfl) (by rfl) ?_
          refine mx_iconst (n := 1) (mx_d D_M_span 46 rfl) ?_
          refine mx_iaddI (mx_d D_M_span 47 rfl) ?_
          refine mx_aload_n (k4 := 0) (mx_d D_M_span 48 rfl) (by rfl) ?_
          refine mx_getf hG (idx := 51) (ci := 7) (kf := 1) (mx_d D_M_span 49 rfl) (by rfl) cls_M (by decide) w_582 (by first | assumption | omega) (by first | assumption | exact va_up_self _ _ _ | (rw [va_up_ne _ _ (by omega)]; first | assumption | exact va_up_self _ _ _ | (rw [va_up_ne _ _ (by omega)]; first | assumption | exact va_up_self _ _ _ | (rw [va_up_ne _ _ (by omega)]; first | assumption | exact va_up_self _ _ _ | (rw [va_up_ne _ _ (by omega)]; first | assumption | exact va_up_self _ _ _ | (rw [va_up_ne _ _ (by omega)]; first | assumption | exact va_up_self _ _ _)))))) (by rfl) ?_
          refine mx_icmp_geN 107 (mx_d D_M_span 50 rfl) (by decide) (by omega) (by omega) (by omega) (by omega) (by omega) ?_
          refine mx_aload_n (k4 := 0) (mx_d D_M_span 51 rfl) (by rfl) ?_
          refine mx_getf hG (idx := 29) (ci := 7) (kf := 13) (mx_d D_M_span 52 rfl) (by rfl) cls_M (by decide) w_594 (by first | assumption | omega) (by first | assumption | exact va_up_self _ _ _ | (rw [va_up_ne _ _ (by omega)]; first | assumption | exact va_up_self _ _ _ | (rw [va_up_ne _ _ (by omega)]; first | assumption | exact va_up_self _ _ _ | (rw [va_up_ne _ _ (by omega)]; first | assumption | exact va_up_self _ _ _ | (rw [va_up_ne _ _ (by omega)]; first | assumption | exact va_up_self _ _ _ | (rw [va_up_ne _ _ (by omega)]; first | assumption | exact va_up_self _ _ _)))))) (by rfl) ?_
          refine mx_iload_n (k4 := 3) (mx_d D_M_span 53 rfl) (by rfl) ?_
          refine mx_iconst (n := 1) (mx_d D_M_span 54 rfl) ?_
          refine mx_iaddI (mx_d D_M_span 55 rfl) ?_
          refine mx_zaldB hG (y + 1) (mx_d D_M_span 56 rfl) (by first | assumption | omega) (by first | assumption | exact va_up_self _ _ _ | (rw [va_up_ne _ _ (by omega)]; first | assumption | exact va_up_self _ _ _ | (rw [va_up_ne _ _ (by omega)]; first | assumption | exact va_up_self _ _ _ | (rw [va_up_ne _ _ (by omega)]; first | assumption | exact va_up_self _ _ _ | (rw [va_up_ne _ _ (by omega)]; first | assumption | exact va_up_self _ _ _ | (rw [va_up_ne _ _ (by omega)]; first | assumption | exact va_up_self _ _ _)))))) (by rfl) (by omega) (by omega) ?_
          rw [hch (y + 1) (by omega), s5 (y + 1) (by omega) (by omega)]
          refine mx_if_eqN 107 (mx_d D_M_span 57 rfl) (by decide) (by decide) (by decide) (by decide) ?_
          refine mx_iincI (i := 3) (n := 1) (mx_d D_M_span 58 rfl) (by rfl) (by decide) ?_
          refine mx_goto 75 (mx_d D_M_span 59 rfl) (by decide) ?_
          exact ih (y + 1) (by omega) (by omega) hz rfl rfl rfl rfl
      have fin : ∀ {l9 : List (Nat × Value)}, l9 = l9 → mx_get l9 0 = some (.ref (mx_B G + 50)) → mx_get l9 2 = some (.int (iI z)) → mx_get l9 3 = some (.int (iI F)) → mx_M G Y_M_span (d + 3) bc bs false N (va_up ce 50 (rs0 G 0 Y U nE iE nD rA rS rN pN rw)) 75 l9 [] Q := by
        intro l9 _ g0 g2 g3
        by_cases hz : z = 1
        · exact ends (L - F) F (by omega) (by omega) hz rfl g0 g2 g3
        · refine mx_loc (l' := [(0, .ref (mx_B G + 50)), (2, .int (iI z)), (3, .int (iI F))]) (by simp only [List.map_cons, List.map_nil, g0, g2, g3]) ?_
          rw [if_pos (by omega)] at q9
          refine mx_iload_n (k4 := 2) (mx_d D_M_span 42 rfl) (by rfl) ?_
          refine mx_iconst (n := 1) (mx_d D_M_span 43 rfl) ?_
          refine mx_icmp_neY 107 (mx_d D_M_span 44 rfl) (by decide) (by omega) (by omega) (by omega) (by omega) (by omega) ?_
          refine mx_iload_n (k4 := 3) (mx_d D_M_span 60 rfl) (by rfl) ?_
          refine mx_iret (by rfl) (mx_d D_M_span 61 rfl) ?_
          exact q9
      refine mx_if_neY 39 (mx_d D_M_span 20 rfl) (by decide) (by decide) (by decide) (by decide) ?_
      refine mx_iconst (n := -1) (mx_d D_M_span 23 rfl) ?_
      refine mx_istore_n (k4 := 3) (mx_d D_M_span 24 rfl) (by decide) ?_
      refine mx_iconst (n := -1) (mx_d D_M_span 25 rfl) ?_
      refine mx_istore (i := 4) (mx_d D_M_span 26 rfl) (by decide) ?_
      suffices H : ∀ (n y : Nat), y + n = F + 1 → ∀ {l9 : List (Nat × Value)}, l9 = l9 → mx_get l9 0 = some (.ref (mx_B G + 50)) → mx_get l9 1 = some (.int (iI j)) → mx_get l9 2 = some (.int (iI z)) → mx_get l9 3 = some (.int (iI ((y : Int) - 1))) → mx_get l9 4 = some (.int (iI ((bgN lc y : Nat) - 1 : Int))) → mx_M G Y_M_span (d + 3) bc bs false N (va_up ce 50 (rs0 G 0 Y U nE iE nD rA rS rN pN rw)) 44 l9 [] Q from H (F + 1) 0 (by omega) rfl rfl rfl rfl rfl rfl
      intro n
      induction n with
      | zero =>
        intro y hy l9 _ g0 g1 g2 g3 g4
        refine mx_loc (l' := [(0, .ref (mx_B G + 50)), (1, .int (iI j)), (2, .int (iI z)), (3, .int (iI ((y : Int) - 1))), (4, .int (iI ((bgN lc y : Nat) - 1 : Int)))]) (by simp only [List.map_cons, List.map_nil, g0, g1, g2, g3, g4]) ?_
        obtain rfl : y = F + 1 := by omega
        refine mx_iload (i := 4) (mx_d D_M_span 27 rfl) (by rfl) ?_
        refine mx_iload_n (k4 := 1) (mx_d D_M_span 28 rfl) (by rfl) ?_
        refine mx_icmp_geY 75 (mx_d D_M_span 29 rfl) (by decide) (by omega) (by omega) (by omega) (by omega) (by omega) ?_
        exact fin rfl rfl rfl (by show some (Value.int (iI (((F + 1 : Nat) : Int) - 1))) = _; rw [show ((F + 1 : Nat) : Int) - 1 = (F : Int) from by omega])
      | succ n ih =>
        intro y hy l9 _ g0 g1 g2 g3 g4
        refine mx_loc (l' := [(0, .ref (mx_B G + 50)), (1, .int (iI j)), (2, .int (iI z)), (3, .int (iI ((y : Int) - 1))), (4, .int (iI ((bgN lc y : Nat) - 1 : Int)))]) (by simp only [List.map_cons, List.map_nil, g0, g1, g2, g3, g4]) ?_
        have m1 := bgN_mono lc (show y ≤ F by omega)
        have ey : ((y : Int) - 1 + 1) = (y : Int) := by omega
        refine mx_iload (i := 4) (mx_d D_M_span 27 rfl) (by rfl) ?_
        refine mx_iload_n (k4 := 1) (mx_d D_M_span 28 rfl) (by rfl) ?_
        refine mx_icmp_geN 75 (mx_d D_M_span 29 rfl) (by decide) (by omega) (by omega) (by omega) (by omega) (by omega) ?_
        refine mx_iincI (i := 3) (n := 1) (mx_d D_M_span 30 rfl) (by rfl) (by decide) ?_
        refine mx_aload_n (k4 := 0) (mx_d D_M_span 31 rfl) (by rfl) ?_
        refine mx_iload_n (k4 := 3) (mx_d D_M_span 32 rfl) (by rfl) ?_
        rw [ey]
        refine mx_callV hG (Y' := Y_M_begins) (ci := 7) [_] (mx_d D_M_span 33 rfl) in_M_begins w_739 w_741 s_M_begins (by rfl) np_M_begins (by exact Nat.le_of_ble_eq_true rfl) (by rfl) (by first | assumption | omega) (by first | assumption | exact va_up_self _ _ _ | (rw [va_up_ne _ _ (by omega)]; first | assumption | exact va_up_self _ _ _ | (rw [va_up_ne _ _ (by omega)]; first | assumption | exact va_up_self _ _ _ | (rw [va_up_ne _ _ (by omega)]; first | assumption | exact va_up_self _ _ _ | (rw [va_up_ne _ _ (by omega)]; first | assumption | exact va_up_self _ _ _ | (rw [va_up_ne _ _ (by omega)]; first | assumption | exact va_up_self _ _ _)))))) (by rfl) (by exact Nat.le_of_ble_eq_true rfl) (m_begins hG hN (va_up_self _ _ _) ((va_up_ne _ _ (by omega)).trans h56) hY.2 hch (y := y) (by omega) ?_)
        cases c1 : bgB lc y with
        | true =>
          refine mx_if_eqN 68 (mx_d D_M_span 34 rfl) (by decide) (by decide) (by decide) (by decide) ?_
          refine mx_iload (i := 4) (mx_d D_M_span 35 rfl) (by rfl) ?_
          refine mx_iconst (n := 1) (mx_d D_M_span 36 rfl) ?_
          refine mx_iaddI (mx_d D_M_span 37 rfl) ?_
          refine mx_goto 70 (mx_d D_M_span 38 rfl) (by decide) ?_
          refine mx_istore (i := 4) (mx_d D_M_span 40 rfl) (by decide) ?_
          refine mx_goto 44 (mx_d D_M_span 41 rfl) (by decide) ?_
          refine ih (y + 1) (by omega) rfl rfl rfl rfl ?_ ?_
          · show some (Value.int (iI _)) = some (Value.int (iI _)); congr 3; omega
          · show some (Value.int (iI _)) = some (Value.int (iI _)); simp only [bgN, c1, if_true]; congr 3; omega
        | false =>
          refine mx_if_eqY 68 (mx_d D_M_span 34 rfl) (by decide) (by decide) (by decide) (by decide) ?_
          refine mx_iload (i := 4) (mx_d D_M_span 39 rfl) (by rfl) ?_
          refine mx_istore (i := 4) (mx_d D_M_span 40 rfl) (by decide) ?_
          refine mx_goto 44 (mx_d D_M_span 41 rfl) (by decide) ?_
          refine ih (y + 1) (by omega) rfl rfl rfl rfl ?_ ?_
          · show some (Value.int (iI _)) = some (Value.int (iI _)); congr 3; omega
          · show some (Value.int (iI _)) = some (Value.int (iI _)); simp only [bgN, c1]; rfl
  have no : ¬ ((0 ≤ k ∧ k < (bgN lc Y : Nat)) ∧ 0 ≤ z ∧ z ≤ 1) → mx_M G Y_M_span (d + 3) bc bs false N ce 28 [(0, .ref (mx_B G + 50)), (1, .int (iI k)), (2, .int (iI z))] [.ref (mx_B G + 50)] Q := by
    intro h
    refine mx_iconst (n := 0) (mx_d D_M_span 16 rfl) ?_
    exact join false ⟨fun z => absurd z (by decide), fun z => absurd z h⟩
  obtain ⟨fA, fS, fW, ch, tY, tA, tS, ⟨h51, h52, h53, h54, h55, h56, h57, h58, h59, h60, h61, h62⟩, hfe, hfw, hch⟩ := hA
  refine mx_aload_n (k4 := 0) (mx_d D_M_span 0 rfl) (by rfl) ?_
  refine mx_iload_n (k4 := 1) (mx_d D_M_span 1 rfl) (by rfl) ?_
  refine mx_iconst (n := 0) (mx_d D_M_span 2 rfl) ?_
  refine mx_aload_n (k4 := 0) (mx_d D_M_span 3 rfl) (by rfl) ?_
  refine mx_callV hG (Y' := Y_M_spans) (ci := 7) [] (mx_d D_M_span 4 rfl) in_M_spans w_735 w_737 s_M_spans (by rfl) np_M_spans (by exact Nat.le_of_ble_eq_true rfl) (by rfl) (by first | assumption | omega) (by first | assumption | exact va_up_self _ _ _ | (rw [va_up_ne _ _ (by omega)]; first | assumption | exact va_up_self _ _ _ | (rw [va_up_ne _ _ (by omega)]; first | assumption | exact va_up_self _ _ _ | (rw [va_up_ne _ _ (by omega)]; first | assumption | exact va_up_self _ _ _ | (rw [va_up_ne _ _ (by omega)]; first | assumption | exact va_up_self _ _ _ | (rw [va_up_ne _ _ (by omega)]; first | assumption | exact va_up_self _ _ _)))))) (by rfl) (by exact Nat.le_of_ble_eq_true rfl) (m_spans hG hN h50 h56 hY.2 hch ?_)
  refine mx_iconst (n := 1) (mx_d D_M_span 5 rfl) ?_
  refine mx_isubI (mx_d D_M_span 6 rfl) ?_
  refine mx_callS (Y' := Y_M_within) [_, _, _] (mx_d D_M_span 7 rfl) in_M_within w_663 w_664 np_M_within (by exact Nat.le_of_ble_eq_true rfl) (by rfl) (by rfl) (by exact Nat.le_of_ble_eq_true rfl) (m_within k1 k2 (by omega) (by omega) (by omega) (by omega) ?_)
  cases ha : wiB k 0 (((bgN lc Y : Nat) : Int) - 1) with
  | false =>
    have ha' := wiB_f ha
    refine mx_if_eqY 28 (mx_d D_M_span 8 rfl) (by decide) (by decide) (by decide) (by decide) ?_
    exact no (by omega)
  | true =>
    have ha' := wiB_t ha
    refine mx_if_eqN 28 (mx_d D_M_span 8 rfl) (by decide) (by decide) (by decide) (by decide) ?_
    refine mx_iload_n (k4 := 2) (mx_d D_M_span 9 rfl) (by rfl) ?_
    refine mx_iconst (n := 0) (mx_d D_M_span 10 rfl) ?_
    refine mx_iconst (n := 1) (mx_d D_M_span 11 rfl) ?_
    refine mx_callS (Y' := Y_M_within) [_, _, _] (mx_d D_M_span 12 rfl) in_M_within w_663 w_664 np_M_within (by exact Nat.le_of_ble_eq_true rfl) (by rfl) (by rfl) (by exact Nat.le_of_ble_eq_true rfl) (m_within z1 z2 (by omega) (by omega) (by omega) (by omega) ?_)
    cases hs : wiB z 0 1 with
    | false =>
      have hs' := wiB_f hs
      refine mx_if_eqY 28 (mx_d D_M_span 13 rfl) (by decide) (by decide) (by decide) (by decide) ?_
      exact no (by omega)
    | true =>
      have hs' := wiB_t hs
      refine mx_if_eqN 28 (mx_d D_M_span 13 rfl) (by decide) (by decide) (by decide) (by decide) ?_
      refine mx_iconst (n := 1) (mx_d D_M_span 14 rfl) ?_
      refine mx_goto 29 (mx_d D_M_span 15 rfl) (by decide) ?_
      exact join true ⟨fun _ => ⟨by omega, by omega⟩, fun _ => rfl⟩
end MG
