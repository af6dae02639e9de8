/-! the reference: unit, count -/
section MH
variable {G : mx_G} {d bc bs : Nat} {N : Nat} {ce : Nat → va_E} {Q : mx_P} {Y : Nat} {U : Int} {nE iE nD : Nat} {rA rS : Int} {eA eS : Nat → Nat → Int} {dA dS : Nat → Int} {dW : Nat → Nat → Int} {lc : Nat → Bool} {rn rg : Nat → Nat} {rN : Nat} {ps : Nat → Int} {pN : Nat} {th : Int}
theorem m_unit (hG : mx_ok G) (hN : 63 ≤ N) (hV : IV Y U nE iE nD rA rS eA eS dA dS dW lc rn rg rN ps pN) (hR : RS G Y U nE iE nD rA rS eA eS dA dS dW lc rn rg rN ps pN th ce) {x z : Int32}
    (q0 : ∀ ce', ¬ (sgOk x 4 = true ∧ sgOk z 4 = true) → RS G Y U nE iE nD rA rS eA eS dA dS dW lc rn rg rN ps pN 1 ce' → (∀ k, k < 50 ∨ 63 ≤ k → ce' k = ce k) → Q (.inl (some (.int (iI 0)))) N ce' bc bs)
    (q1 : ∀ ce', (sgOk x 4 = true ∧ sgOk z 4 = true) → ¬ pN + sgN x 4 + sgN z 4 ≤ 100 → RS G Y U nE iE nD rA rS eA eS dA dS dW lc rn rg rN ps pN 2 ce' → (∀ k, k < 50 ∨ 63 ≤ k → ce' k = ce k) → Q (.inl (some (.int (iI 0)))) N ce' bc bs)
    (q2 : ∀ ce', (sgOk x 4 = true ∧ sgOk z 4 = true) → pN + sgN x 4 + sgN z 4 ≤ 100 → RS G Y U nE iE nD rA rS eA eS dA dS dW lc rn rg rN (sgP z (sgP x ps pN 4) (pN + sgN x 4) 4) (pN + sgN x 4 + sgN z 4) 0 ce' → (∀ k, k < 50 ∨ 63 ≤ k → ce' k = ce k) → Q (.inl (some (.int (iI ((pN + sgN x 4 + sgN z 4 : Nat) : Int))))) N ce' bc bs) : mx_M G Y_M_unit (d + 3) bc bs false N ce 0 [(0, .ref (mx_B G + 50)), (1, .int x), (2, .int z)] [] Q := by
  obtain ⟨hY, hU, hE, hD, hrA, hrS, hEA, hES, hDA, hDS, hDz, hDW, hrN, hrn, hpN, hps⟩ := hV
  obtain ⟨rw, h50, hA⟩ := hR
  have n1 := sgN_le x 4
  have n2 := sgN_le z 4
  have join : ∀ b : Bool, (b = true ↔ (sgOk x 4 = true ∧ sgOk z 4 = true)) → mx_M G Y_M_unit (d + 3) bc bs false N ce 20 [(0, .ref (mx_B G + 50)), (1, .int x), (2, .int z)] [.int (iI (bI b)), .ref (mx_B G + 50)] Q := by
    intro b hb
    have join2 : ∀ b2 : Bool, (b2 = true ↔ pN + sgN x 4 + sgN z 4 ≤ 100) → mx_M G Y_M_unit (d + 3) bc bs false N ce 44 [(0, .ref (mx_B G + 50)), (1, .int x), (2, .int z)] [.int (iI (bI b2)), .int (iI (bI b)), .ref (mx_B G + 50)] Q := by
      intro b2 hb2
      refine mx_iconst (n := 1) (mx_d D_M_unit 23 rfl) ?_
      refine mx_callV hG (Y' := Y_M_goes) (ci := 7) [_, _, _] (mx_d D_M_unit 24 rfl) in_M_goes w_666 w_668 s_M_goes (by rfl) np_M_goes (by exact Nat.le_of_ble_eq_true rfl) (by rfl) (by first | assumption | omega) (by first | assumption | exact va_up_self _ _ _ | (rw [va_up_ne _ _ (by omega)]; first | assumption | exact va_up_self _ _ _ | (rw [va_up_ne _ _ (by omega)]; first | assumption | exact va_up_self _ _ _ | (rw [va_up_ne _ _ (by omega)]; first | assumption | exact va_up_self _ _ _ | (rw [va_up_ne _ _ (by omega)]; first | assumption | exact va_up_self _ _ _ | (rw [va_up_ne _ _ (by omega)]; first | assumption | exact va_up_self _ _ _)))))) (by rfl) (by exact Nat.le_of_ble_eq_true rfl) (m_goes hG hN h50 (c := true) ?_)
      cases b with
      | false =>
        refine mx_if_neN 53 (mx_d D_M_unit 25 rfl) (by decide) (by cases b2 <;> decide) (by cases b2 <;> decide) (by cases b2 <;> decide) ?_
        refine mx_iconst (n := 0) (mx_d D_M_unit 26 rfl) ?_
        refine mx_iret (by rfl) (mx_d D_M_unit 27 rfl) ?_
        exact q0 _ (fun z => absurd (hb.mpr z) (by decide)) (RS.thr hA) fr50
      | true =>
        have hb' := hb.mp rfl
        cases b2 with
        | false =>
          refine mx_if_neN 53 (mx_d D_M_unit 25 rfl) (by decide) (by decide) (by decide) (by decide) ?_
          refine mx_iconst (n := 0) (mx_d D_M_unit 26 rfl) ?_
          refine mx_iret (by rfl) (mx_d D_M_unit 27 rfl) ?_
          exact q1 _ hb' (fun z => absurd (hb2.mpr z) (by decide)) (RS.thr hA) fr50
        | true =>
          have h3 := hb2.mp rfl
          obtain ⟨fA, fS, fW, ch, tY, tA, tS, ⟨h51, h52, h53, h54, h55, h56, h57, h58, h59, h60, h61, h62⟩, hfe, hfw, hch⟩ := hA
          refine mx_if_neY 53 (mx_d D_M_unit 25 rfl) (by decide) (by decide) (by decide) (by decide) ?_
          refine mx_aload_n (k4 := 0) (mx_d D_M_unit 28 rfl) (by rfl) ?_
          refine mx_iload_n (k4 := 1) (mx_d D_M_unit 29 rfl) (by rfl) ?_
          refine mx_callV hG (Y' := Y_M_push) (ci := 7) [_] (mx_d D_M_unit 30 rfl) in_M_push w_777 w_779 s_M_push (by rfl) np_M_push (by exact Nat.le_of_ble_eq_true rfl) (by rfl) (by first | assumption | omega) (by first | assumption | exact va_up_self _ _ _ | (rw [va_up_ne _ _ (by omega)]; first | assumption | exact va_up_self _ _ _ | (rw [va_up_ne _ _ (by omega)]; first | assumption | exact va_up_self _ _ _ | (rw [va_up_ne _ _ (by omega)]; first | assumption | exact va_up_self _ _ _ | (rw [va_up_ne _ _ (by omega)]; first | assumption | exact va_up_self _ _ _ | (rw [va_up_ne _ _ (by omega)]; first | assumption | exact va_up_self _ _ _)))))) (by rfl) (by exact Nat.le_of_ble_eq_true rfl) (m_push hG hN (va_up_self _ _ _) ((va_up_ne _ _ (by omega)).trans h59) (by omega) ?_)
          refine mx_aload_n (k4 := 0) (mx_d D_M_unit 31 rfl) (by rfl) ?_
          refine mx_iload_n (k4 := 2) (mx_d D_M_unit 32 rfl) (by rfl) ?_
          refine mx_callV hG (Y' := Y_M_push) (ci := 7) [_] (mx_d D_M_unit 33 rfl) in_M_push w_777 w_779 s_M_push (by rfl) np_M_push (by exact Nat.le_of_ble_eq_true rfl) (by rfl) (by first | assumption | omega) (by first | assumption | exact va_up_self _ _ _ | (rw [va_up_ne _ _ (by omega)]; first | assumption | exact va_up_self _ _ _ | (rw [va_up_ne _ _ (by omega)]; first | assumption | exact va_up_self _ _ _ | (rw [va_up_ne _ _ (by omega)]; first | assumption | exact va_up_self _ _ _ | (rw [va_up_ne _ _ (by omega)]; first | assumption | exact va_up_self _ _ _ | (rw [va_up_ne _ _ (by omega)]; first | assumption | exact va_up_self _ _ _)))))) (by rfl) (by exact Nat.le_of_ble_eq_true rfl) (m_push hG hN (pN := pN + sgN x 4) (va_up_self _ _ _) ((va_up_ne _ _ (by omega)).trans (va_up_self _ _ _)) (by omega) ?_)
          refine mx_aload_n (k4 := 0) (mx_d D_M_unit 34 rfl) (by rfl) ?_
          refine mx_getf hG (idx := 121) (ci := 7) (kf := 17) (mx_d D_M_unit 35 rfl) (by rfl) cls_M (by decide) w_598 (by first | assumption | omega) (by first | assumption | exact va_up_self _ _ _ | (rw [va_up_ne _ _ (by omega)]; first | assumption | exact va_up_self _ _ _ | (rw [va_up_ne _ _ (by omega)]; first | assumption | exact va_up_self _ _ _ | (rw [va_up_ne _ _ (by omega)]; first | assumption | exact va_up_self _ _ _ | (rw [va_up_ne _ _ (by omega)]; first | assumption | exact va_up_self _ _ _ | (rw [va_up_ne _ _ (by omega)]; first | assumption | exact va_up_self _ _ _)))))) (by rfl) ?_
          refine mx_iret (by rfl) (mx_d D_M_unit 36 rfl) ?_
          refine q2 _ hb' h3 ⟨rw, va_up_self _ _ _, fA, fS, fW, ch, tY, tA, tS, ⟨?_, ?_, ?_, ?_, ?_, ?_, ?_, ?_, (va_up_ne _ _ (by omega)).trans (va_up_self _ _ _), ?_, ?_, ?_⟩, hfe, hfw, hch⟩ (fun k hk => ?_)
          all_goals rw [va_up_ne _ _ (by omega), va_up_ne _ _ (by omega), va_up_ne _ _ (by omega), va_up_ne _ _ (by omega), va_up_ne _ _ (by omega)]
          all_goals assumption
    refine mx_aload_n (k4 := 0) (mx_d D_M_unit 10 rfl) (by rfl) ?_
    refine mx_getf hG (idx := 121) (ci := 7) (kf := 17) (mx_d D_M_unit 11 rfl) (by rfl) cls_M (by decide) w_598 (by first | assumption | omega) (by first | assumption | exact va_up_self _ _ _ | (rw [va_up_ne _ _ (by omega)]; first | assumption | exact va_up_self _ _ _ | (rw [va_up_ne _ _ (by omega)]; first | assumption | exact va_up_self _ _ _ | (rw [va_up_ne _ _ (by omega)]; first | assumption | exact va_up_self _ _ _ | (rw [va_up_ne _ _ (by omega)]; first | assumption | exact va_up_self _ _ _ | (rw [va_up_ne _ _ (by omega)]; first | assumption | exact va_up_self _ _ _)))))) (by rfl) ?_
    refine mx_iload_n (k4 := 1) (mx_d D_M_unit 12 rfl) (by rfl) ?_
    refine mx_callS (Y' := Y_M_signs) [_] (mx_d D_M_unit 13 rfl) in_M_signs w_774 w_775 np_M_signs (by exact Nat.le_of_ble_eq_true rfl) (by rfl) (by rfl) (by exact Nat.le_of_ble_eq_true rfl) (m_signs ?_)
    refine mx_iaddI (mx_d D_M_unit 14 rfl) ?_
    refine mx_iload_n (k4 := 2) (mx_d D_M_unit 15 rfl) (by rfl) ?_
    refine mx_callS (Y' := Y_M_signs) [_] (mx_d D_M_unit 16 rfl) in_M_signs w_774 w_775 np_M_signs (by exact Nat.le_of_ble_eq_true rfl) (by rfl) (by rfl) (by exact Nat.le_of_ble_eq_true rfl) (m_signs ?_)
    refine mx_iaddI (mx_d D_M_unit 17 rfl) ?_
    refine mx_bipush (n := 100) (mx_d D_M_unit 18 rfl) (by decide) ?_
    by_cases hc : pN + sgN x 4 + sgN z 4 ≤ 100
    · refine mx_icmp_gtN 43 (mx_d D_M_unit 19 rfl) (by decide) (by omega) (by omega) (by omega) (by omega) (by omega) ?_
      refine mx_iconst (n := 1) (mx_d D_M_unit 20 rfl) ?_
      refine mx_goto 44 (mx_d D_M_unit 21 rfl) (by decide) ?_
      exact join2 true ⟨fun _ => hc, fun _ => rfl⟩
    · refine mx_icmp_gtY 43 (mx_d D_M_unit 19 rfl) (by decide) (by omega) (by omega) (by omega) (by omega) (by omega) ?_
      refine mx_iconst (n := 0) (mx_d D_M_unit 22 rfl) ?_
      exact join2 false ⟨fun z => absurd z (by decide), fun z => absurd z hc⟩
  refine mx_aload_n (k4 := 0) (mx_d D_M_unit 0 rfl) (by rfl) ?_
  refine mx_iload_n (k4 := 1) (mx_d D_M_unit 1 rfl) (by rfl) ?_
  refine mx_callS (Y' := Y_M_plain) [_] (mx_d D_M_unit 2 rfl) in_M_plain w_771 w_772 np_M_plain (by exact Nat.le_of_ble_eq_true rfl) (by rfl) (by rfl) (by exact Nat.le_of_ble_eq_true rfl) (m_plain ?_)
  cases h1 : sgOk x 4 with
  | false =>
    refine mx_if_eqY 19 (mx_d D_M_unit 3 rfl) (by decide) (by decide) (by decide) (by decide) ?_
    refine mx_iconst (n := 0) (mx_d D_M_unit 9 rfl) ?_
    exact join false ⟨fun z => absurd z (by decide), fun z => by rw [h1] at z; exact absurd z.1 (by decide)⟩
  | true =>
    refine mx_if_eqN 19 (mx_d D_M_unit 3 rfl) (by decide) (by decide) (by decide) (by decide) ?_
    refine mx_iload_n (k4 := 2) (mx_d D_M_unit 4 rfl) (by rfl) ?_
    refine mx_callS (Y' := Y_M_plain) [_] (mx_d D_M_unit 5 rfl) in_M_plain w_771 w_772 np_M_plain (by exact Nat.le_of_ble_eq_true rfl) (by rfl) (by rfl) (by exact Nat.le_of_ble_eq_true rfl) (m_plain ?_)
    cases h2 : sgOk z 4 with
    | false =>
      refine mx_if_eqY 19 (mx_d D_M_unit 6 rfl) (by decide) (by decide) (by decide) (by decide) ?_
      refine mx_iconst (n := 0) (mx_d D_M_unit 9 rfl) ?_
      exact join false ⟨fun z => absurd z (by decide), fun z => by rw [h2] at z; exact absurd z.2 (by decide)⟩
    | true =>
      refine mx_if_eqN 19 (mx_d D_M_unit 6 rfl) (by decide) (by decide) (by decide) (by decide) ?_
      refine mx_iconst (n := 1) (mx_d D_M_unit 7 rfl) ?_
      refine mx_goto 20 (mx_d D_M_unit 8 rfl) (by decide) ?_
      exact join true ⟨fun _ => ⟨h1, h2⟩, fun _ => rfl⟩
theorem m_count (hG : mx_ok G) (hN : 63 ≤ N) (hV : IV Y U nE iE nD rA rS eA eS dA dS dW lc rn rg rN ps pN) (hR : RS G Y U nE iE nD rA rS eA eS dA dS dW lc rn rg rN ps pN th ce) {w : Int} (w1 : -2147483648 ≤ w) (w2 : w < 2147483648)
    (q0 : ∀ ce', ¬ (0 ≤ w ∧ w ≤ 6) → RS G Y U nE iE nD rA rS eA eS dA dS dW lc rn rg rN ps pN 1 ce' → (∀ k, k < 50 ∨ 63 ≤ k → ce' k = ce k) → Q (.inl (some (.int (iI 0)))) N ce' bc bs)
    (q2 : ∀ ce' (m : Nat), w = m → m ≤ 6 → RS G Y U nE iE nD rA rS eA eS dA dS dW lc rn rg rN ps pN 0 ce' → (∀ k, k < 50 ∨ 63 ≤ k → ce' k = ce k) → Q (.inl (some (.int (iI (cntV Y nE iE nD rN pN (rwN (eS iE) Y) m : Nat))))) N ce' bc bs) : mx_M G Y_M_count (d + 3) bc bs false N ce 0 [(0, .ref (mx_B G + 50)), (1, .int (iI w))] [] Q := by
  obtain ⟨hY, hU, hE, hD, hrA, hrS, hEA, hES, hDA, hDS, hDz, hDW, hrN, hrn, hpN, hps⟩ := hV
  obtain ⟨rw, h50, hA⟩ := hR
  refine mx_aload_n (k4 := 0) (mx_d D_M_count 0 rfl) (by rfl) ?_
  refine mx_iload_n (k4 := 1) (mx_d D_M_count 1 rfl) (by rfl) ?_
  refine mx_iconst (n := 0) (mx_d D_M_count 2 rfl) ?_
  refine mx_bipush (n := 6) (mx_d D_M_count 3 rfl) (by decide) ?_
  refine mx_callS (Y' := Y_M_within) [_, _, _] (mx_d D_M_count 4 rfl) in_M_within w_663 w_664 np_M_within (by exact Nat.le_of_ble_eq_true rfl) (by rfl) (by rfl) (by exact Nat.le_of_ble_eq_true rfl) (m_within w1 w2 (by omega) (by omega) (by omega) (by omega) ?_)
  refine mx_iconst (n := 1) (mx_d D_M_count 5 rfl) ?_
  refine mx_iconst (n := 1) (mx_d D_M_count 6 rfl) ?_
  refine mx_callV hG (Y' := Y_M_goes) (ci := 7) [_, _, _] (mx_d D_M_count 7 rfl) in_M_goes w_666 w_668 s_M_goes (by rfl) np_M_goes (by exact Nat.le_of_ble_eq_true rfl) (by rfl) (by first | assumption | omega) (by first | assumption | exact va_up_self _ _ _ | (rw [va_up_ne _ _ (by omega)]; first | assumption | exact va_up_self _ _ _ | (rw [va_up_ne _ _ (by omega)]; first | assumption | exact va_up_self _ _ _ | (rw [va_up_ne _ _ (by omega)]; first | assumption | exact va_up_self _ _ _ | (rw [va_up_ne _ _ (by omega)]; first | assumption | exact va_up_self _ _ _ | (rw [va_up_ne _ _ (by omega)]; first | assumption | exact va_up_self _ _ _)))))) (by rfl) (by exact Nat.le_of_ble_eq_true rfl) (m_goes hG hN h50 (b := true) (c := true) ?_)
  cases ha : wiB w 0 6 with
  | false =>
    have ha' := wiB_f ha
    refine mx_if_neN 18 (mx_d D_M_count 8 rfl) (by decide) (by decide) (by decide) (by decide) ?_
    refine mx_iconst (n := 0) (mx_d D_M_count 9 rfl) ?_
    refine mx_iret (by rfl) (mx_d D_M_count 10 rfl) ?_
    exact q0 _ (by omega) (RS.thr hA) fr50
  | true =>
    have ha' := wiB_t ha
    obtain ⟨m, rfl⟩ : ∃ m : Nat, w = m := ⟨w.toNat, by omega⟩
    have q9 := q2 _ m rfl (by omega) (RS.thr hA (rw := rw)) fr50
    obtain ⟨fA, fS, fW, ch, tY, tA, tS, ⟨h51, h52, h53, h54, h55, h56, h57, h58, h59, h60, h61, h62⟩, hfe, hfw, hch⟩ := hA
    refine mx_if_neY 18 (mx_d D_M_count 8 rfl) (by decide) (by decide) (by decide) (by decide) ?_
    refine mx_iconst (n := 0) (mx_d D_M_count 11 rfl) ?_
    refine mx_istore_n (k4 := 2) (mx_d D_M_count 12 rfl) (by decide) ?_
    refine mx_iconst (n := 0) (mx_d D_M_count 13 rfl) ?_
    refine mx_istore_n (k4 := 3) (mx_d D_M_count 14 rfl) (by decide) ?_
    suffices H : ∀ (k y : Nat), y + k = Y → mx_M G Y_M_count (d + 3) bc bs false N (va_up ce 50 (rs0 G 0 Y U nE iE nD rA rS rN pN rw)) 22 [(0, .ref (mx_B G + 50)), (1, .int (iI m)), (2, .int (iI (rwN (eS iE) y : Nat))), (3, .int (iI y))] [] Q from mx_loc (by rfl) (H Y 0 (by omega))
    intro k
    induction k with
    | zero =>
      intro y hy
      obtain rfl : y = Y := by omega
      refine mx_iload_n (k4 := 3) (mx_d D_M_count 15 rfl) (by rfl) ?_
      refine mx_aload_n (k4 := 0) (mx_d D_M_count 16 rfl) (by rfl) ?_
      refine mx_getf hG (idx := 51) (ci := 7) (kf := 1) (mx_d D_M_count 17 rfl) (by rfl) cls_M (by decide) w_582 (by first | assumption | omega) (by first | assumption | exact va_up_self _ _ _ | (rw [va_up_ne _ _ (by omega)]; first | assumption | exact va_up_self _ _ _ | (rw [va_up_ne _ _ (by omega)]; first | assumption | exact va_up_self _ _ _ | (rw [va_up_ne _ _ (by omega)]; first | assumption | exact va_up_self _ _ _ | (rw [va_up_ne _ _ (by omega)]; first | assumption | exact va_up_self _ _ _ | (rw [va_up_ne _ _ (by omega)]; first | assumption | exact va_up_self _ _ _)))))) (by rfl) ?_
      refine mx_icmp_geY 61 (mx_d D_M_count 18 rfl) (by decide) (by omega) (by omega) (by omega) (by omega) (by omega) ?_
      refine mx_iload_n (k4 := 1) (mx_d D_M_count 37 rfl) (by rfl) ?_
      obtain rfl | rfl | rfl | rfl | rfl | rfl | rfl : m = 0 ∨ m = 1 ∨ m = 2 ∨ m = 3 ∨ m = 4 ∨ m = 5 ∨ m = 6 := by omega
      · refine mx_tableIn 100 (mx_d D_M_count 38 rfl) (by decide) (by decide) (by rfl) (by decide) ?_
        refine mx_aload_n (k4 := 0) (mx_d D_M_count 39 rfl) (by rfl) ?_
        refine mx_getf hG (idx := 51) (ci := 7) (kf := 1) (mx_d D_M_count 40 rfl) (by rfl) cls_M (by decide) w_582 (by first | assumption | omega) (by first | assumption | exact va_up_self _ _ _ | (rw [va_up_ne _ _ (by omega)]; first | assumption | exact va_up_self _ _ _ | (rw [va_up_ne _ _ (by omega)]; first | assumption | exact va_up_self _ _ _ | (rw [va_up_ne _ _ (by omega)]; first | assumption | exact va_up_self _ _ _ | (rw [va_up_ne _ _ (by omega)]; first | assumption | exact va_up_self _ _ _ | (rw [va_up_ne _ _ (by omega)]; first | assumption | exact va_up_self _ _ _)))))) (by rfl) ?_
        refine mx_iret (by rfl) (mx_d D_M_count 41 rfl) ?_
        exact q9
      · refine mx_tableIn 105 (mx_d D_M_count 38 rfl) (by decide) (by decide) (by rfl) (by decide) ?_
        refine mx_aload_n (k4 := 0) (mx_d D_M_count 42 rfl) (by rfl) ?_
        refine mx_getf hG (idx := 7) (ci := 7) (kf := 3) (mx_d D_M_count 43 rfl) (by rfl) cls_M (by decide) w_584 (by first | assumption | omega) (by first | assumption | exact va_up_self _ _ _ | (rw [va_up_ne _ _ (by omega)]; first | assumption | exact va_up_self _ _ _ | (rw [va_up_ne _ _ (by omega)]; first | assumption | exact va_up_self _ _ _ | (rw [va_up_ne _ _ (by omega)]; first | assumption | exact va_up_self _ _ _ | (rw [va_up_ne _ _ (by omega)]; first | assumption | exact va_up_self _ _ _ | (rw [va_up_ne _ _ (by omega)]; first | assumption | exact va_up_self _ _ _)))))) (by rfl) ?_
        refine mx_iret (by rfl) (mx_d D_M_count 44 rfl) ?_
        exact q9
      · refine mx_tableIn 110 (mx_d D_M_count 38 rfl) (by decide) (by decide) (by rfl) (by decide) ?_
        refine mx_aload_n (k4 := 0) (mx_d D_M_count 45 rfl) (by rfl) ?_
        refine mx_getf hG (idx := 68) (ci := 7) (kf := 4) (mx_d D_M_count 46 rfl) (by rfl) cls_M (by decide) w_585 (by first | assumption | omega) (by first | assumption | exact va_up_self _ _ _ | (rw [va_up_ne _ _ (by omega)]; first | assumption | exact va_up_self _ _ _ | (rw [va_up_ne _ _ (by omega)]; first | assumption | exact va_up_self _ _ _ | (rw [va_up_ne _ _ (by omega)]; first | assumption | exact va_up_self _ _ _ | (rw [va_up_ne _ _ (by omega)]; first | assumption | exact va_up_self _ _ _ | (rw [va_up_ne _ _ (by omega)]; first | assumption | exact va_up_self _ _ _)))))) (by rfl) ?_
        refine mx_iret (by rfl) (mx_d D_M_count 47 rfl) ?_
        exact q9
      · refine mx_tableIn 115 (mx_d D_M_count 38 rfl) (by decide) (by decide) (by rfl) (by decide) ?_
        refine mx_aload_n (k4 := 0) (mx_d D_M_count 48 rfl) (by rfl) ?_
        refine mx_getf hG (idx := 65) (ci := 7) (kf := 9) (mx_d D_M_count 49 rfl) (by rfl) cls_M (by decide) w_590 (by first | assumption | omega) (by first | assumption | exact va_up_self _ _ _ | (rw [va_up_ne _ _ (by omega)]; first | assumption | exact va_up_self _ _ _ | (rw [va_up_ne _ _ (by omega)]; first | assumption | exact va_up_self _ _ _ | (rw [va_up_ne _ _ (by omega)]; first | assumption | exact va_up_self _ _ _ | (rw [va_up_ne _ _ (by omega)]; first | assumption | exact va_up_self _ _ _ | (rw [va_up_ne _ _ (by omega)]; first | assumption | exact va_up_self _ _ _)))))) (by rfl) ?_
        refine mx_iret (by rfl) (mx_d D_M_count 50 rfl) ?_
        exact q9
      · refine mx_tableIn 120 (mx_d D_M_count 38 rfl) (by decide) (by decide) (by rfl) (by decide) ?_
        refine mx_aload_n (k4 := 0) (mx_d D_M_count 51 rfl) (by rfl) ?_
        refine mx_getf hG (idx := 115) (ci := 7) (kf := 14) (mx_d D_M_count 52 rfl) (by rfl) cls_M (by decide) w_595 (by first | assumption | omega) (by first | assumption | exact va_up_self _ _ _ | (rw [va_up_ne _ _ (by omega)]; first | assumption | exact va_up_self _ _ _ | (rw [va_up_ne _ _ (by omega)]; first | assumption | exact va_up_self _ _ _ | (rw [va_up_ne _ _ (by omega)]; first | assumption | exact va_up_self _ _ _ | (rw [va_up_ne _ _ (by omega)]; first | assumption | exact va_up_self _ _ _ | (rw [va_up_ne _ _ (by omega)]; first | assumption | exact va_up_self _ _ _)))))) (by rfl) ?_
        refine mx_iret (by rfl) (mx_d D_M_count 53 rfl) ?_
        exact q9
      · refine mx_tableIn 125 (mx_d D_M_count 38 rfl) (by decide) (by decide) (by rfl) (by decide) ?_
        refine mx_aload_n (k4 := 0) (mx_d D_M_count 54 rfl) (by rfl) ?_
        refine mx_getf hG (idx := 121) (ci := 7) (kf := 17) (mx_d D_M_count 55 rfl) (by rfl) cls_M (by decide) w_598 (by first | assumption | omega) (by first | assumption | exact va_up_self _ _ _ | (rw [va_up_ne _ _ (by omega)]; first | assumption | exact va_up_self _ _ _ | (rw [va_up_ne _ _ (by omega)]; first | assumption | exact va_up_self _ _ _ | (rw [va_up_ne _ _ (by omega)]; first | assumption | exact va_up_self _ _ _ | (rw [va_up_ne _ _ (by omega)]; first | assumption | exact va_up_self _ _ _ | (rw [va_up_ne _ _ (by omega)]; first | assumption | exact va_up_self _ _ _)))))) (by rfl) ?_
        refine mx_iret (by rfl) (mx_d D_M_count 56 rfl) ?_
        exact q9
      · refine mx_tableOut 130 (mx_d D_M_count 38 rfl) (Or.inr (by decide)) (by decide) ?_
        refine mx_iload_n (k4 := 2) (mx_d D_M_count 57 rfl) (by rfl) ?_
        refine mx_iret (by rfl) (mx_d D_M_count 58 rfl) ?_
        exact q9
    | succ k ih =>
      intro y hy
      have f2 := (hfe iE (by omega) y (by omega)).2
      have b2 := hES iE (by omega) y (by omega)
      refine mx_iload_n (k4 := 3) (mx_d D_M_count 15 rfl) (by rfl) ?_
      refine mx_aload_n (k4 := 0) (mx_d D_M_count 16 rfl) (by rfl) ?_
      refine mx_getf hG (idx := 51) (ci := 7) (kf := 1) (mx_d D_M_count 17 rfl) (by rfl) cls_M (by decide) w_582 (by first | assumption | omega) (by first | assumption | exact va_up_self _ _ _ | (rw [va_up_ne _ _ (by omega)]; first | assumption | exact va_up_self _ _ _ | (rw [va_up_ne _ _ (by omega)]; first | assumption | exact va_up_self _ _ _ | (rw [va_up_ne _ _ (by omega)]; first | assumption | exact va_up_self _ _ _ | (rw [va_up_ne _ _ (by omega)]; first | assumption | exact va_up_self _ _ _ | (rw [va_up_ne _ _ (by omega)]; first | assumption | exact va_up_self _ _ _)))))) (by rfl) ?_
      refine mx_icmp_geN 61 (mx_d D_M_count 18 rfl) (by decide) (by omega) (by omega) (by omega) (by omega) (by omega) ?_
      refine mx_aload_n (k4 := 0) (mx_d D_M_count 19 rfl) (by rfl) ?_
      refine mx_getf hG (idx := 17) (ci := 7) (kf := 6) (mx_d D_M_count 20 rfl) (by rfl) cls_M (by decide) w_587 (by first | assumption | omega) (by first | assumption | exact va_up_self _ _ _ | (rw [va_up_ne _ _ (by omega)]; first | assumption | exact va_up_self _ _ _ | (rw [va_up_ne _ _ (by omega)]; first | assumption | exact va_up_self _ _ _ | (rw [va_up_ne _ _ (by omega)]; first | assumption | exact va_up_self _ _ _ | (rw [va_up_ne _ _ (by omega)]; first | assumption | exact va_up_self _ _ _ | (rw [va_up_ne _ _ (by omega)]; first | assumption | exact va_up_self _ _ _)))))) (by rfl) ?_
      refine mx_bipush (n := 60) (mx_d D_M_count 21 rfl) (by decide) ?_
      refine mx_aload_n (k4 := 0) (mx_d D_M_count 22 rfl) (by rfl) ?_
      refine mx_getf hG (idx := 68) (ci := 7) (kf := 4) (mx_d D_M_count 23 rfl) (by rfl) cls_M (by decide) w_585 (by first | assumption | omega) (by first | assumption | exact va_up_self _ _ _ | (rw [va_up_ne _ _ (by omega)]; first | assumption | exact va_up_self _ _ _ | (rw [va_up_ne _ _ (by omega)]; first | assumption | exact va_up_self _ _ _ | (rw [va_up_ne _ _ (by omega)]; first | assumption | exact va_up_self _ _ _ | (rw [va_up_ne _ _ (by omega)]; first | assumption | exact va_up_self _ _ _ | (rw [va_up_ne _ _ (by omega)]; first | assumption | exact va_up_self _ _ _)))))) (by rfl) ?_
      refine mx_imulI (mx_d D_M_count 24 rfl) ?_
      refine mx_iload_n (k4 := 3) (mx_d D_M_count 25 rfl) (by rfl) ?_
      refine mx_iaddI (mx_d D_M_count 26 rfl) ?_
      refine mx_ialdI hG (60 * iE + y) (mx_d D_M_count 27 rfl) (by first | assumption | omega) (by first | assumption | exact va_up_self _ _ _ | (rw [va_up_ne _ _ (by omega)]; first | assumption | exact va_up_self _ _ _ | (rw [va_up_ne _ _ (by omega)]; first | assumption | exact va_up_self _ _ _ | (rw [va_up_ne _ _ (by omega)]; first | assumption | exact va_up_self _ _ _ | (rw [va_up_ne _ _ (by omega)]; first | assumption | exact va_up_self _ _ _ | (rw [va_up_ne _ _ (by omega)]; first | assumption | exact va_up_self _ _ _)))))) (by rfl) (by omega) (by omega) ?_
      rw [f2]
      by_cases hc : 0 < eS iE y
      · refine mx_if_leN 53 (mx_d D_M_count 28 rfl) (by decide) (by omega) (by omega) (by omega) ?_
        refine mx_iload_n (k4 := 2) (mx_d D_M_count 29 rfl) (by rfl) ?_
        refine mx_iconst (n := 1) (mx_d D_M_count 30 rfl) ?_
        refine mx_iaddI (mx_d D_M_count 31 rfl) ?_
        refine mx_goto 54 (mx_d D_M_count 32 rfl) (by decide) ?_
        refine mx_istore_n (k4 := 2) (mx_d D_M_count 34 rfl) (by decide) ?_
        refine mx_iincI (i := 3) (n := 1) (mx_d D_M_count 35 rfl) (by rfl) (by decide) ?_
        refine mx_goto 22 (mx_d D_M_count 36 rfl) (by decide) ?_
        refine mx_loc ?_ (ih (y + 1) (by omega))
        simp only [rwN, if_pos hc]
        rfl
      · refine mx_if_leY 53 (mx_d D_M_count 28 rfl) (by decide) (by omega) (by omega) (by omega) ?_
        refine mx_iload_n (k4 := 2) (mx_d D_M_count 33 rfl) (by rfl) ?_
        refine mx_istore_n (k4 := 2) (mx_d D_M_count 34 rfl) (by decide) ?_
        refine mx_iincI (i := 3) (n := 1) (mx_d D_M_count 35 rfl) (by rfl) (by decide) ?_
        refine mx_goto 22 (mx_d D_M_count 36 rfl) (by decide) ?_
        refine mx_loc ?_ (ih (y + 1) (by omega))
        simp only [rwN, if_neg hc, Nat.add_zero]
        rfl
end MH
