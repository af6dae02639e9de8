/-! the reference: curve, edition, use, reservoir, date, weight, total -/
section MD
variable {G : mx_G} {d bc bs : Nat} {N : Nat} {ce : Nat → va_E} {Q : mx_P} {Y : Nat} {U : Int} {nE iE nD : Nat} {rA rS : Int} {eA eS : Nat → Nat → Int} {dA dS : Nat → Int} {dW : Nat → Nat → Int} {lc : Nat → Bool} {rn rg : Nat → Nat} {rN : Nat} {ps : Nat → Int} {pN : Nat} {th : Int}
/-- only 'thrown' has changed -/
theorem RS.thr {rw : Nat} {th' : Int} (hA : RA G Y nD eA eS dA dS dW lc rn rg ps ce) : RS G Y U nE iE nD rA rS eA eS dA dS dW lc rn rg rN ps pN th' (va_up ce 50 (rs0 G th' Y U nE iE nD rA rS rN pN rw)) :=
  ⟨rw, va_up_self _ _ _, hA.fr (fun k _ _ => va_up_ne _ _ (by omega))⟩
theorem fr50 {e : va_E} : ∀ k, k < 50 ∨ 63 ≤ k → va_up ce 50 e k = ce k := fun k hk => va_up_ne _ _ (by omega)
theorem wiB_f {v lo hi : Int} (h : wiB v lo hi = false) : ¬ (lo ≤ v ∧ v ≤ hi) := fun z => by rw [wiB_iff.mpr z] at h; exact absurd h (by decide)
theorem wiB_t {v lo hi : Int} (h : wiB v lo hi = true) : lo ≤ v ∧ v ≤ hi := wiB_iff.mp h
theorem m_curve (hG : mx_ok G) (hN : 63 ≤ N) (hV : IV Y U nE iE nD rA rS eA eS dA dS dW lc rn rg rN ps pN) (hR : RS G Y U nE iE nD rA rS eA eS dA dS dW lc rn rg rN ps pN th ce) {y a s : Int} (y1 : -2147483648 ≤ y) (y2 : y < 2147483648) (a1 : -2147483648 ≤ a) (a2 : a < 2147483648) (s1 : -2147483648 ≤ s) (s2 : s < 2147483648)
    (q0 : ∀ ce', ¬ (0 ≤ y ∧ y < Y) → RS G Y U nE iE nD rA rS eA eS dA dS dW lc rn rg rN ps pN 1 ce' → (∀ k, k < 50 ∨ 63 ≤ k → ce' k = ce k) → Q (.inl (some (.int (iI 0)))) N ce' bc bs)
    (q1 : ∀ ce', (0 ≤ y ∧ y < Y) → ¬ ((0 ≤ a ∧ a ≤ 3000) ∧ 1 ≤ s ∧ s ≤ 100) → RS G Y U nE iE nD rA rS eA eS dA dS dW lc rn rg rN ps pN 2 ce' → (∀ k, k < 50 ∨ 63 ≤ k → ce' k = ce k) → Q (.inl (some (.int (iI 0)))) N ce' bc bs)
    (q2 : ∀ ce' (m : Nat), y = m → m < Y → ((0 ≤ a ∧ a ≤ 3000) ∧ 1 ≤ s ∧ s ≤ 100) → RS G Y U nE iE nD rA rS (up2 eA iE m a) (up2 eS iE m s) dA dS dW lc rn rg rN ps pN 0 ce' → (∀ k, k < 50 ∨ 63 ≤ k → ce' k = ce k) → Q (.inl (some (.int (iI (bI (decide (0 < eS iE m))))))) N ce' bc bs) : mx_M G Y_M_curve (d + 3) bc bs false N ce 0 [(0, .ref (mx_B G + 50)), (1, .int (iI y)), (2, .int (iI a)), (3, .int (iI s))] [] Q := by
  obtain ⟨hY, hU, hE, hD, hrA, hrS, hEA, hES, hDA, hDS, hDz, hDW, hrN, hrn, hpN, hps⟩ := hV
  obtain ⟨rw, h50, hA⟩ := hR
  have join : ∀ b : Bool, (b = true ↔ ((0 ≤ a ∧ a ≤ 3000) ∧ 1 ≤ s ∧ s ≤ 100)) → mx_M G Y_M_curve (d + 3) bc bs false N ce 32 [(0, .ref (mx_B G + 50)), (1, .int (iI y)), (2, .int (iI a)), (3, .int (iI s))] [.int (iI (bI b)), .int (iI (bI (wiB y 0 ((Y : Int) - 1)))), .ref (mx_B G + 50)] Q := by
    intro b hb
    refine mx_iconst (n := 1) (mx_d D_M_curve 17 rfl) ?_
    refine mx_callV hG (Y' := Y_M_goes) (ci := 7) [_, _, _] (mx_d D_M_curve 18 rfl) in_M_goes w_666 w_668 s_M_goes (by rfl) np_M_goes (by exact Nat.le_of_ble_eq_true rfl) (by rfl) (by first | assumption | omega) (by first | assumption | exact va_up_self _ _ _ | (rw [va_up_ne _ _ (by omega)]; first | assumption | exact va_up_self _ _ _ | (rw [va_up_ne _ _ (by omega)]; first | assumption | exact va_up_self _ _ _ | (rw [va_up_ne _ _ (by omega)]; first | assumption | exact va_up_self _ _ _ | (rw [va_up_ne _ _ (by omega)]; first | assumption | exact va_up_self _ _ _ | (rw [va_up_ne _ _ (by omega)]; first | assumption | exact va_up_self _ _ _)))))) (by rfl) (by exact Nat.le_of_ble_eq_true rfl) (m_goes hG hN h50 (c := true) ?_)
    cases hy : wiB y 0 ((Y : Int) - 1) with
    | false =>
      have hy' := wiB_f hy
      refine mx_if_neN 41 (mx_d D_M_curve 19 rfl) (by decide) (by cases b <;> decide) (by cases b <;> decide) (by cases b <;> decide) ?_
      refine mx_iconst (n := 0) (mx_d D_M_curve 20 rfl) ?_
      refine mx_zret (by rfl) (mx_d D_M_curve 21 rfl) (by first | rfl | assumption) ?_
      exact q0 _ (by omega) (RS.thr hA) fr50
    | true =>
      have hy' := wiB_t hy
      cases b with
      | false =>
        refine mx_if_neN 41 (mx_d D_M_curve 19 rfl) (by decide) (by decide) (by decide) (by decide) ?_
        refine mx_iconst (n := 0) (mx_d D_M_curve 20 rfl) ?_
        refine mx_zret (by rfl) (mx_d D_M_curve 21 rfl) (by first | rfl | assumption) ?_
        exact q1 _ (by omega) (fun z => absurd (hb.mpr z) (by decide)) (RS.thr hA) fr50
      | true =>
        have hb' := hb.mp rfl
        obtain ⟨m, rfl⟩ : ∃ m : Nat, y = m := ⟨y.toNat, by omega⟩
        obtain ⟨fA, fS, fW, ch, tY, tA, tS, ⟨h51, h52, h53, h54, h55, h56, h57, h58, h59, h60, h61, h62⟩, hfe, hfw, hch⟩ := hA
        have fe := hfe iE (by omega) m (by omega)
        have hs9 := hES iE (by omega) m (by omega)
        refine mx_if_neY 41 (mx_d D_M_curve 19 rfl) (by decide) (by decide) (by decide) (by decide) ?_
        refine mx_aload_n (k4 := 0) (mx_d D_M_curve 22 rfl) (by rfl) ?_
        refine mx_iload_n (k4 := 1) (mx_d D_M_curve 23 rfl) (by rfl) ?_
        refine mx_iload_n (k4 := 2) (mx_d D_M_curve 24 rfl) (by rfl) ?_
        refine mx_iload_n (k4 := 3) (mx_d D_M_curve 25 rfl) (by rfl) ?_
        refine mx_callV hG (Y' := Y_M_put) (ci := 7) [_, _, _] (mx_d D_M_curve 26 rfl) in_M_put w_670 w_672 s_M_put (by rfl) np_M_put (by exact Nat.le_of_ble_eq_true rfl) (by rfl) (by first | assumption | omega) (by first | assumption | exact va_up_self _ _ _ | (rw [va_up_ne _ _ (by omega)]; first | assumption | exact va_up_self _ _ _ | (rw [va_up_ne _ _ (by omega)]; first | assumption | exact va_up_self _ _ _ | (rw [va_up_ne _ _ (by omega)]; first | assumption | exact va_up_self _ _ _ | (rw [va_up_ne _ _ (by omega)]; first | assumption | exact va_up_self _ _ _ | (rw [va_up_ne _ _ (by omega)]; first | assumption | exact va_up_self _ _ _)))))) (by rfl) (by exact Nat.le_of_ble_eq_true rfl) (m_put hG hN (va_up_self _ _ _) ((va_up_ne _ _ (by omega)).trans h51) ((va_up_ne _ _ (by omega)).trans h52) (y := m) (by omega) (by omega) (by rw [fe.2]; exact hs9) ?_)
        refine mx_zret (by rfl) (mx_d D_M_curve 27 rfl) (bI_nar _) ?_
        rw [fe.2]
        refine q2 _ m rfl (by omega) hb' ⟨rw, ?_, va_up fA (60 * iE + m) a, va_up fS (60 * iE + m) s, fW, ch, tY, tA, tS, ⟨?_, ?_, ?_, ?_, ?_, ?_, ?_, ?_, ?_, ?_, ?_, ?_⟩, ?_, hfw, hch⟩ (fun k hk => ?_)
        · rw [va_up_ne _ _ (by omega), va_up_ne _ _ (by omega), va_up_self]; rfl
        · rw [va_up_ne _ _ (by omega), va_up_self]
        · rw [va_up_self]
        · rw [va_up_ne _ _ (by omega), va_up_ne _ _ (by omega), va_up_ne _ _ (by omega)]; exact h53
        · rw [va_up_ne _ _ (by omega), va_up_ne _ _ (by omega), va_up_ne _ _ (by omega)]; exact h54
        · rw [va_up_ne _ _ (by omega), va_up_ne _ _ (by omega), va_up_ne _ _ (by omega)]; exact h55
        · rw [va_up_ne _ _ (by omega), va_up_ne _ _ (by omega), va_up_ne _ _ (by omega)]; exact h56
        · rw [va_up_ne _ _ (by omega), va_up_ne _ _ (by omega), va_up_ne _ _ (by omega)]; exact h57
        · rw [va_up_ne _ _ (by omega), va_up_ne _ _ (by omega), va_up_ne _ _ (by omega)]; exact h58
        · rw [va_up_ne _ _ (by omega), va_up_ne _ _ (by omega), va_up_ne _ _ (by omega)]; exact h59
        · rw [va_up_ne _ _ (by omega), va_up_ne _ _ (by omega), va_up_ne _ _ (by omega)]; exact h60
        · rw [va_up_ne _ _ (by omega), va_up_ne _ _ (by omega), va_up_ne _ _ (by omega)]; exact h61
        · rw [va_up_ne _ _ (by omega), va_up_ne _ _ (by omega), va_up_ne _ _ (by omega)]; exact h62
        · intro e he y hy
          have hh := hfe e he y hy
          unfold up2
          by_cases e1 : e = iE
          · subst e1
            rw [va_up_self, va_up_self]
            by_cases e2 : y = m
            · subst e2; rw [va_up_self, va_up_self, va_up_self, va_up_self]; exact ⟨rfl, rfl⟩
            · rw [va_up_ne fA _ (by omega), va_up_ne fS _ (by omega), va_up_ne (eA e) _ e2, va_up_ne (eS e) _ e2]; exact hh
          · rw [va_up_ne fA _ (by omega), va_up_ne fS _ (by omega), va_up_ne eA _ e1, va_up_ne eS _ e1]; exact hh
        · rw [va_up_ne _ _ (by omega), va_up_ne _ _ (by omega), va_up_ne _ _ (by omega)]
  refine mx_aload_n (k4 := 0) (mx_d D_M_curve 0 rfl) (by rfl) ?_
  refine mx_aload_n (k4 := 0) (mx_d D_M_curve 1 rfl) (by rfl) ?_
  refine mx_iload_n (k4 := 1) (mx_d D_M_curve 2 rfl) (by rfl) ?_
  refine mx_callV hG (Y' := Y_M_isYear) (ci := 7) [_] (mx_d D_M_curve 3 rfl) in_M_isYear w_659 w_661 s_M_isYear (by rfl) np_M_isYear (by exact Nat.le_of_ble_eq_true rfl) (by rfl) (by first | assumption | omega) (by first | assumption | exact va_up_self _ _ _ | (rw [va_up_ne _ _ (by omega)]; first | assumption | exact va_up_self _ _ _ | (rw [va_up_ne _ _ (by omega)]; first | assumption | exact va_up_self _ _ _ | (rw [va_up_ne _ _ (by omega)]; first | assumption | exact va_up_self _ _ _ | (rw [va_up_ne _ _ (by omega)]; first | assumption | exact va_up_self _ _ _ | (rw [va_up_ne _ _ (by omega)]; first | assumption | exact va_up_self _ _ _)))))) (by rfl) (by exact Nat.le_of_ble_eq_true rfl) (m_isYear hG hN h50 hY.2 y1 y2 ?_)
  refine mx_iload_n (k4 := 2) (mx_d D_M_curve 4 rfl) (by rfl) ?_
  refine mx_iconst (n := 0) (mx_d D_M_curve 5 rfl) ?_
  refine mx_sipush (n := 3000) (mx_d D_M_curve 6 rfl) (by decide) ?_
  refine mx_callS (Y' := Y_M_within) [_, _, _] (mx_d D_M_curve 7 rfl) in_M_within w_663 w_664 np_M_within (by exact Nat.le_of_ble_eq_true rfl) (by rfl) (by rfl) (by exact Nat.le_of_ble_eq_true rfl) (m_within a1 a2 (by omega) (by omega) (by omega) (by omega) ?_)
  cases ha : wiB a 0 3000 with
  | false =>
    have ha' := wiB_f ha
    refine mx_if_eqY 31 (mx_d D_M_curve 8 rfl) (by decide) (by decide) (by decide) (by decide) ?_
    refine mx_iconst (n := 0) (mx_d D_M_curve 16 rfl) ?_
    exact join false ⟨fun z => absurd z (by decide), fun z => by omega⟩
  | true =>
    have ha' := wiB_t ha
    refine mx_if_eqN 31 (mx_d D_M_curve 8 rfl) (by decide) (by decide) (by decide) (by decide) ?_
    refine mx_iload_n (k4 := 3) (mx_d D_M_curve 9 rfl) (by rfl) ?_
    refine mx_iconst (n := 1) (mx_d D_M_curve 10 rfl) ?_
    refine mx_bipush (n := 100) (mx_d D_M_curve 11 rfl) (by decide) ?_
    refine mx_callS (Y' := Y_M_within) [_, _, _] (mx_d D_M_curve 12 rfl) in_M_within w_663 w_664 np_M_within (by exact Nat.le_of_ble_eq_true rfl) (by rfl) (by rfl) (by exact Nat.le_of_ble_eq_true rfl) (m_within s1 s2 (by omega) (by omega) (by omega) (by omega) ?_)
    cases hs : wiB s 1 100 with
    | false =>
      have hs' := wiB_f hs
      refine mx_if_eqY 31 (mx_d D_M_curve 13 rfl) (by decide) (by decide) (by decide) (by decide) ?_
      refine mx_iconst (n := 0) (mx_d D_M_curve 16 rfl) ?_
      exact join false ⟨fun z => absurd z (by decide), fun z => by omega⟩
    | true =>
      have hs' := wiB_t hs
      refine mx_if_eqN 31 (mx_d D_M_curve 13 rfl) (by decide) (by decide) (by decide) (by decide) ?_
      refine mx_iconst (n := 1) (mx_d D_M_curve 14 rfl) ?_
      refine mx_goto 32 (mx_d D_M_curve 15 rfl) (by decide) ?_
      exact join true ⟨fun _ => ⟨ha', hs'⟩, fun _ => rfl⟩
theorem m_edition (hG : mx_ok G) (hN : 63 ≤ N) (hV : IV Y U nE iE nD rA rS eA eS dA dS dW lc rn rg rN ps pN) (hR : RS G Y U nE iE nD rA rS eA eS dA dS dW lc rn rg rN ps pN th ce)
    (q0 : ∀ ce', ¬ nE < 4 → RS G Y U nE iE nD rA rS eA eS dA dS dW lc rn rg rN ps pN 1 ce' → (∀ k, k < 50 ∨ 63 ≤ k → ce' k = ce k) → Q (.inl (some (.int (iI 0)))) N ce' bc bs)
    (q2 : ∀ ce', nE < 4 → (∀ pA pS : Nat → Int, (∀ j, j < Y → pA j = eA iE j ∧ pS j = eS iE j) → RS G Y U (nE + 1) (nE) nD rA rS (va_up eA nE pA) (va_up eS nE pS) dA dS dW lc rn rg rN ps pN 0 ce') → (∀ k, k < 50 ∨ 63 ≤ k → ce' k = ce k) → Q (.inl (some (.int (iI (nE : Nat))))) N ce' bc bs) : mx_M G Y_M_edition (d + 3) bc bs false N ce 0 [(0, .ref (mx_B G + 50))] [] Q := by
  obtain ⟨hY, hU, hE, hD, hrA, hrS, hEA, hES, hDA, hDS, hDz, hDW, hrN, hrn, hpN, hps⟩ := hV
  obtain ⟨rw, h50, hA⟩ := hR
  refine mx_aload_n (k4 := 0) (mx_d D_M_edition 0 rfl) (by rfl) ?_
  refine mx_aload_n (k4 := 0) (mx_d D_M_edition 1 rfl) (by rfl) ?_
  refine mx_getf hG (idx := 7) (ci := 7) (kf := 3) (mx_d D_M_edition 2 rfl) (by rfl) cls_M (by decide) w_584 (by first | assumption | omega) (by first | assumption | exact va_up_self _ _ _ | (rw [va_up_ne _ _ (by omega)]; first | assumption | exact va_up_self _ _ _ | (rw [va_up_ne _ _ (by omega)]; first | assumption | exact va_up_self _ _ _ | (rw [va_up_ne _ _ (by omega)]; first | assumption | exact va_up_self _ _ _ | (rw [va_up_ne _ _ (by omega)]; first | assumption | exact va_up_self _ _ _ | (rw [va_up_ne _ _ (by omega)]; first | assumption | exact va_up_self _ _ _)))))) (by rfl) ?_
  refine mx_iconst (n := 4) (mx_d D_M_edition 3 rfl) ?_
  by_cases hc : nE < 4
  · refine mx_icmp_geN 13 (mx_d D_M_edition 4 rfl) (by decide) (by omega) (by omega) (by omega) (by omega) (by omega) ?_
    refine mx_iconst (n := 1) (mx_d D_M_edition 5 rfl) ?_
    refine mx_goto 14 (mx_d D_M_edition 6 rfl) (by decide) ?_
    refine mx_iconst (n := 1) (mx_d D_M_edition 8 rfl) ?_
    refine mx_iconst (n := 1) (mx_d D_M_edition 9 rfl) ?_
    refine mx_callV hG (Y' := Y_M_goes) (ci := 7) [_, _, _] (mx_d D_M_edition 10 rfl) in_M_goes w_666 w_668 s_M_goes (by rfl) np_M_goes (by exact Nat.le_of_ble_eq_true rfl) (by rfl) (by first | assumption | omega) (by first | assumption | exact va_up_self _ _ _ | (rw [va_up_ne _ _ (by omega)]; first | assumption | exact va_up_self _ _ _ | (rw [va_up_ne _ _ (by omega)]; first | assumption | exact va_up_self _ _ _ | (rw [va_up_ne _ _ (by omega)]; first | assumption | exact va_up_self _ _ _ | (rw [va_up_ne _ _ (by omega)]; first | assumption | exact va_up_self _ _ _ | (rw [va_up_ne _ _ (by omega)]; first | assumption | exact va_up_self _ _ _)))))) (by rfl) (by exact Nat.le_of_ble_eq_true rfl) (m_goes hG hN h50 (a := true) (b := true) (c := true) ?_)
    refine mx_if_neY 24 (mx_d D_M_edition 11 rfl) (by decide) (by decide) (by decide) (by decide) ?_
    obtain ⟨fA, fS, fW, ch, tY, tA, tS, ⟨h51, h52, h53, h54, h55, h56, h57, h58, h59, h60, h61, h62⟩, hfe, hfw, hch⟩ := hA
    refine mx_iconst (n := 0) (mx_d D_M_edition 14 rfl) ?_
    refine mx_istore_n (k4 := 1) (mx_d D_M_edition 15 rfl) (by decide) ?_
    suffices H : ∀ (k i : Nat) (ce2 : Nat → va_E) (gA gS : Nat → Int), i + k = 60 → (∀ j, (j < 60 * nE ∨ 60 * nE + i ≤ j) → gA j = fA j ∧ gS j = fS j) → (∀ j, j < i → gA (60 * nE + j) = fA (60 * iE + j) ∧ gS (60 * nE + j) = fS (60 * iE + j)) → ce2 50 = rs0 G 0 Y U nE iE nD rA rS rN pN rw → ce2 51 = aI G 240 gA → ce2 52 = aI G 240 gS → (∀ k, k ≠ 50 → k ≠ 51 → k ≠ 52 → ce2 k = ce k) → mx_M G Y_M_edition (d + 3) bc bs false N ce2 26 [(0, .ref (mx_B G + 50)), (1, .int (iI i))] [] Q from
      mx_loc (by rfl) (H 60 0 _ fA fS (by omega) (fun _ _ => ⟨rfl, rfl⟩) (fun j hj => absurd hj (by omega)) (va_up_self _ _ _) ((va_up_ne _ _ (by omega)).trans h51) ((va_up_ne _ _ (by omega)).trans h52) (fun k z1 _ _ => va_up_ne _ _ z1))
    intro k
    induction k with
    | zero =>
      intro i ce2 gA gS hi g1 g2 k50 k51 k52 kf
      obtain rfl : i = 60 := by omega
      refine mx_iload_n (k4 := 1) (mx_d D_M_edition 16 rfl) (by rfl) ?_
      refine mx_bipush (n := 60) (mx_d D_M_edition 17 rfl) (by decide) ?_
      refine mx_icmp_geY 94 (mx_d D_M_edition 18 rfl) (by decide) (by omega) (by omega) (by omega) (by omega) (by omega) ?_
      refine mx_aload_n (k4 := 0) (mx_d D_M_edition 57 rfl) (by rfl) ?_
      refine mx_aload_n (k4 := 0) (mx_d D_M_edition 58 rfl) (by rfl) ?_
      refine mx_getf hG (idx := 7) (ci := 7) (kf := 3) (mx_d D_M_edition 59 rfl) (by rfl) cls_M (by decide) w_584 (by first | assumption | omega) (by first | assumption | exact va_up_self _ _ _ | (rw [va_up_ne _ _ (by omega)]; first | assumption | exact va_up_self _ _ _ | (rw [va_up_ne _ _ (by omega)]; first | assumption | exact va_up_self _ _ _ | (rw [va_up_ne _ _ (by omega)]; first | assumption | exact va_up_self _ _ _ | (rw [va_up_ne _ _ (by omega)]; first | assumption | exact va_up_self _ _ _ | (rw [va_up_ne _ _ (by omega)]; first | assumption | exact va_up_self _ _ _)))))) (by rfl) ?_
      refine mx_putf hG (idx := 68) (ci := 7) (kf := 4) (t := (.int)) (mx_d D_M_edition 60 rfl) (by rfl) cls_M (by decide) (Or.inl rfl) w_585 (by first | assumption | omega) (by first | assumption | exact va_up_self _ _ _ | (rw [va_up_ne _ _ (by omega)]; first | assumption | exact va_up_self _ _ _ | (rw [va_up_ne _ _ (by omega)]; first | assumption | exact va_up_self _ _ _ | (rw [va_up_ne _ _ (by omega)]; first | assumption | exact va_up_self _ _ _ | (rw [va_up_ne _ _ (by omega)]; first | assumption | exact va_up_self _ _ _ | (rw [va_up_ne _ _ (by omega)]; first | assumption | exact va_up_self _ _ _)))))) (by exact Nat.le_of_ble_eq_true rfl) (by decide +kernel) (by rfl) (by rfl) ?_
      refine mx_aload_n (k4 := 0) (mx_d D_M_edition 61 rfl) (by rfl) ?_
      refine mx_dup (mx_d D_M_edition 62 rfl) (by rfl) ?_
      refine mx_getf hG (idx := 7) (ci := 7) (kf := 3) (mx_d D_M_edition 63 rfl) (by rfl) cls_M (by decide) w_584 (by first | assumption | omega) (by first | assumption | exact va_up_self _ _ _ | (rw [va_up_ne _ _ (by omega)]; first | assumption | exact va_up_self _ _ _ | (rw [va_up_ne _ _ (by omega)]; first | assumption | exact va_up_self _ _ _ | (rw [va_up_ne _ _ (by omega)]; first | assumption | exact va_up_self _ _ _ | (rw [va_up_ne _ _ (by omega)]; first | assumption | exact va_up_self _ _ _ | (rw [va_up_ne _ _ (by omega)]; first | assumption | exact va_up_self _ _ _)))))) (by rfl) ?_
      refine mx_iconst (n := 1) (mx_d D_M_edition 64 rfl) ?_
      refine mx_iaddI (mx_d D_M_edition 65 rfl) ?_
      refine mx_putf hG (idx := 7) (ci := 7) (kf := 3) (t := (.int)) (mx_d D_M_edition 66 rfl) (by rfl) cls_M (by decide) (Or.inl rfl) w_584 (by first | assumption | omega) (by first | assumption | exact va_up_self _ _ _ | (rw [va_up_ne _ _ (by omega)]; first | assumption | exact va_up_self _ _ _ | (rw [va_up_ne _ _ (by omega)]; first | assumption | exact va_up_self _ _ _ | (rw [va_up_ne _ _ (by omega)]; first | assumption | exact va_up_self _ _ _ | (rw [va_up_ne _ _ (by omega)]; first | assumption | exact va_up_self _ _ _ | (rw [va_up_ne _ _ (by omega)]; first | assumption | exact va_up_self _ _ _)))))) (by exact Nat.le_of_ble_eq_true rfl) (by decide +kernel) (by rfl) (by rfl) ?_
      refine mx_aload_n (k4 := 0) (mx_d D_M_edition 67 rfl) (by rfl) ?_
      refine mx_getf hG (idx := 68) (ci := 7) (kf := 4) (mx_d D_M_edition 68 rfl) (by rfl) cls_M (by decide) w_585 (by first | assumption | omega) (by first | assumption | exact va_up_self _ _ _ | (rw [va_up_ne _ _ (by omega)]; first | assumption | exact va_up_self _ _ _ | (rw [va_up_ne _ _ (by omega)]; first | assumption | exact va_up_self _ _ _ | (rw [va_up_ne _ _ (by omega)]; first | assumption | exact va_up_self _ _ _ | (rw [va_up_ne _ _ (by omega)]; first | assumption | exact va_up_self _ _ _ | (rw [va_up_ne _ _ (by omega)]; first | assumption | exact va_up_self _ _ _)))))) (by rfl) ?_
      refine mx_iret (by rfl) (mx_d D_M_edition 69 rfl) ?_
      rw [bx_uu]
      refine q2 _ hc (fun pA pS hp => ⟨rw, va_up_self _ _ _, gA, gS, fW, ch, tY, tA, tS, ⟨?_, ?_, ?_, ?_, ?_, ?_, ?_, ?_, ?_, ?_, ?_, ?_⟩, ?_, hfw, hch⟩) (fun k hk => ?_)
      · rw [va_up_ne _ _ (by omega)]; exact k51
      · rw [va_up_ne _ _ (by omega)]; exact k52
      · rw [va_up_ne _ _ (by omega), kf 53 (by omega) (by omega) (by omega)]; exact h53
      · rw [va_up_ne _ _ (by omega), kf 54 (by omega) (by omega) (by omega)]; exact h54
      · rw [va_up_ne _ _ (by omega), kf 55 (by omega) (by omega) (by omega)]; exact h55
      · rw [va_up_ne _ _ (by omega), kf 56 (by omega) (by omega) (by omega)]; exact h56
      · rw [va_up_ne _ _ (by omega), kf 57 (by omega) (by omega) (by omega)]; exact h57
      · rw [va_up_ne _ _ (by omega), kf 58 (by omega) (by omega) (by omega)]; exact h58
      · rw [va_up_ne _ _ (by omega), kf 59 (by omega) (by omega) (by omega)]; exact h59
      · rw [va_up_ne _ _ (by omega), kf 60 (by omega) (by omega) (by omega)]; exact h60
      · rw [va_up_ne _ _ (by omega), kf 61 (by omega) (by omega) (by omega)]; exact h61
      · rw [va_up_ne _ _ (by omega), kf 62 (by omega) (by omega) (by omega)]; exact h62
      · intro e he y hy
        by_cases e1 : e = nE
        · subst e1
          rw [va_up_self, va_up_self, (hp y hy).1, (hp y hy).2, (g2 y (by omega)).1, (g2 y (by omega)).2]
          exact hfe iE (by omega) y hy
        · rw [va_up_ne _ _ e1, va_up_ne _ _ e1, (g1 _ (by omega)).1, (g1 _ (by omega)).2]
          exact hfe e he y hy
      · rw [va_up_ne _ _ (by omega)]; exact kf k (by omega) (by omega) (by omega)
    | succ k ih =>
      intro i ce2 gA gS hi g1 g2 k50 k51 k52 kf
      refine mx_iload_n (k4 := 1) (mx_d D_M_edition 16 rfl) (by rfl) ?_
      refine mx_bipush (n := 60) (mx_d D_M_edition 17 rfl) (by decide) ?_
      refine mx_icmp_geN 94 (mx_d D_M_edition 18 rfl) (by decide) (by omega) (by omega) (by omega) (by omega) (by omega) ?_
      refine mx_aload_n (k4 := 0) (mx_d D_M_edition 19 rfl) (by rfl) ?_
      refine mx_getf hG (idx := 13) (ci := 7) (kf := 5) (mx_d D_M_edition 20 rfl) (by rfl) cls_M (by decide) w_586 (by first | assumption | omega) (by first | assumption | exact va_up_self _ _ _ | (rw [va_up_ne _ _ (by omega)]; first | assumption | exact va_up_self _ _ _ | (rw [va_up_ne _ _ (by omega)]; first | assumption | exact va_up_self _ _ _ | (rw [va_up_ne _ _ (by omega)]; first | assumption | exact va_up_self _ _ _ | (rw [va_up_ne _ _ (by omega)]; first | assumption | exact va_up_self _ _ _ | (rw [va_up_ne _ _ (by omega)]; first | assumption | exact va_up_self _ _ _)))))) (by rfl) ?_
      refine mx_bipush (n := 60) (mx_d D_M_edition 21 rfl) (by decide) ?_
      refine mx_aload_n (k4 := 0) (mx_d D_M_edition 22 rfl) (by rfl) ?_
      refine mx_getf hG (idx := 7) (ci := 7) (kf := 3) (mx_d D_M_edition 23 rfl) (by rfl) cls_M (by decide) w_584 (by first | assumption | omega) (by first | assumption | exact va_up_self _ _ _ | (rw [va_up_ne _ _ (by omega)]; first | assumption | exact va_up_self _ _ _ | (rw [va_up_ne _ _ (by omega)]; first | assumption | exact va_up_self _ _ _ | (rw [va_up_ne _ _ (by omega)]; first | assumption | exact va_up_self _ _ _ | (rw [va_up_ne _ _ (by omega)]; first | assumption | exact va_up_self _ _ _ | (rw [va_up_ne _ _ (by omega)]; first | assumption | exact va_up_self _ _ _)))))) (by rfl) ?_
      refine mx_imulI (mx_d D_M_edition 24 rfl) ?_
      refine mx_iload_n (k4 := 1) (mx_d D_M_edition 25 rfl) (by rfl) ?_
      refine mx_iaddI (mx_d D_M_edition 26 rfl) ?_
      refine mx_aload_n (k4 := 0) (mx_d D_M_edition 27 rfl) (by rfl) ?_
      refine mx_getf hG (idx := 13) (ci := 7) (kf := 5) (mx_d D_M_edition 28 rfl) (by rfl) cls_M (by decide) w_586 (by first | assumption | omega) (by first | assumption | exact va_up_self _ _ _ | (rw [va_up_ne _ _ (by omega)]; first | assumption | exact va_up_self _ _ _ | (rw [va_up_ne _ _ (by omega)]; first | assumption | exact va_up_self _ _ _ | (rw [va_up_ne _ _ (by omega)]; first | assumption | exact va_up_self _ _ _ | (rw [va_up_ne _ _ (by omega)]; first | assumption | exact va_up_self _ _ _ | (rw [va_up_ne _ _ (by omega)]; first | assumption | exact va_up_self _ _ _)))))) (by rfl) ?_
      refine mx_bipush (n := 60) (mx_d D_M_edition 29 rfl) (by decide) ?_
      refine mx_aload_n (k4 := 0) (mx_d D_M_edition 30 rfl) (by rfl) ?_
      refine mx_getf hG (idx := 68) (ci := 7) (kf := 4) (mx_d D_M_edition 31 rfl) (by rfl) cls_M (by decide) w_585 (by first | assumption | omega) (by first | assumption | exact va_up_self _ _ _ | (rw [va_up_ne _ _ (by omega)]; first | assumption | exact va_up_self _ _ _ | (rw [va_up_ne _ _ (by omega)]; first | assumption | exact va_up_self _ _ _ | (rw [va_up_ne _ _ (by omega)]; first | assumption | exact va_up_self _ _ _ | (rw [va_up_ne _ _ (by omega)]; first | assumption | exact va_up_self _ _ _ | (rw [va_up_ne _ _ (by omega)]; first | assumption | exact va_up_self _ _ _)))))) (by rfl) ?_
      refine mx_imulI (mx_d D_M_edition 32 rfl) ?_
      refine mx_iload_n (k4 := 1) (mx_d D_M_edition 33 rfl) (by rfl) ?_
      refine mx_iaddI (mx_d D_M_edition 34 rfl) ?_
      refine mx_ialdI hG (60 * iE + i) (mx_d D_M_edition 35 rfl) (by first | assumption | omega) (by first | assumption | exact va_up_self _ _ _ | (rw [va_up_ne _ _ (by omega)]; first | assumption | exact va_up_self _ _ _ | (rw [va_up_ne _ _ (by omega)]; first | assumption | exact va_up_self _ _ _ | (rw [va_up_ne _ _ (by omega)]; first | assumption | exact va_up_self _ _ _ | (rw [va_up_ne _ _ (by omega)]; first | assumption | exact va_up_self _ _ _ | (rw [va_up_ne _ _ (by omega)]; first | assumption | exact va_up_self _ _ _)))))) (by rfl) (by omega) (by omega) ?_
      refine mx_iastI hG (60 * nE + i) _ (mx_d D_M_edition 36 rfl) (by first | assumption | omega) (by first | assumption | exact va_up_self _ _ _ | (rw [va_up_ne _ _ (by omega)]; first | assumption | exact va_up_self _ _ _ | (rw [va_up_ne _ _ (by omega)]; first | assumption | exact va_up_self _ _ _ | (rw [va_up_ne _ _ (by omega)]; first | assumption | exact va_up_self _ _ _ | (rw [va_up_ne _ _ (by omega)]; first | assumption | exact va_up_self _ _ _ | (rw [va_up_ne _ _ (by omega)]; first | assumption | exact va_up_self _ _ _)))))) (by rfl) (by rfl) (by omega) (by omega) ?_
      refine mx_aload_n (k4 := 0) (mx_d D_M_edition 37 rfl) (by rfl) ?_
      refine mx_getf hG (idx := 17) (ci := 7) (kf := 6) (mx_d D_M_edition 38 rfl) (by rfl) cls_M (by decide) w_587 (by first | assumption | omega) (by first | assumption | exact va_up_self _ _ _ | (rw [va_up_ne _ _ (by omega)]; first | assumption | exact va_up_self _ _ _ | (rw [va_up_ne _ _ (by omega)]; first | assumption | exact va_up_self _ _ _ | (rw [va_up_ne _ _ (by omega)]; first | assumption | exact va_up_self _ _ _ | (rw [va_up_ne _ _ (by omega)]; first | assumption | exact va_up_self _ _ _ | (rw [va_up_ne _ _ (by omega)]; first | assumption | exact va_up_self _ _ _)))))) (by rfl) ?_
      refine mx_bipush (n := 60) (mx_d D_M_edition 39 rfl) (by decide) ?_
      refine mx_aload_n (k4 := 0) (mx_d D_M_edition 40 rfl) (by rfl) ?_
      refine mx_getf hG (idx := 7) (ci := 7) (kf := 3) (mx_d D_M_edition 41 rfl) (by rfl) cls_M (by decide) w_584 (by first | assumption | omega) (by first | assumption | exact va_up_self _ _ _ | (rw [va_up_ne _ _ (by omega)]; first | assumption | exact va_up_self _ _ _ | (rw [va_up_ne _ _ (by omega)]; first | assumption | exact va_up_self _ _ _ | (rw [va_up_ne _ _ (by omega)]; first | assumption | exact va_up_self _ _ _ | (rw [va_up_ne _ _ (by omega)]; first | assumption | exact va_up_self _ _ _ | (rw [va_up_ne _ _ (by omega)]; first | assumption | exact va_up_self _ _ _)))))) (by rfl) ?_
      refine mx_imulI (mx_d D_M_edition 42 rfl) ?_
      refine mx_iload_n (k4 := 1) (mx_d D_M_edition 43 rfl) (by rfl) ?_
      refine mx_iaddI (mx_d D_M_edition 44 rfl) ?_
      refine mx_aload_n (k4 := 0) (mx_d D_M_edition 45 rfl) (by rfl) ?_
      refine mx_getf hG (idx := 17) (ci := 7) (kf := 6) (mx_d D_M_edition 46 rfl) (by rfl) cls_M (by decide) w_587 (by first | assumption | omega) (by first | assumption | exact va_up_self _ _ _ | (rw [va_up_ne _ _ (by omega)]; first | assumption | exact va_up_self _ _ _ | (rw [va_up_ne _ _ (by omega)]; first | assumption | exact va_up_self _ _ _ | (rw [va_up_ne _ _ (by omega)]; first | assumption | exact va_up_self _ _ _ | (rw [va_up_ne _ _ (by omega)]; first | assumption | exact va_up_self _ _ _ | (rw [va_up_ne _ _ (by omega)]; first | assumption | exact va_up_self _ _ _)))))) (by rfl) ?_
      refine mx_bipush (n := 60) (mx_d D_M_edition 47 rfl) (by decide) ?_
      refine mx_aload_n (k4 := 0) (mx_d D_M_edition 48 rfl) (by rfl) ?_
      refine mx_getf hG (idx := 68) (ci := 7) (kf := 4) (mx_d D_M_edition 49 rfl) (by rfl) cls_M (by decide) w_585 (by first | assumption | omega) (by first | assumption | exact va_up_self _ _ _ | (rw [va_up_ne _ _ (by omega)]; first | assumption | exact va_up_self _ _ _ | (rw [va_up_ne _ _ (by omega)]; first | assumption | exact va_up_self _ _ _ | (rw [va_up_ne _ _ (by omega)]; first | assumption | exact va_up_self _ _ _ | (rw [va_up_ne _ _ (by omega)]; first | assumption | exact va_up_self _ _ _ | (rw [va_up_ne _ _ (by omega)]; first | assumption | exact va_up_self _ _ _)))))) (by rfl) ?_
      refine mx_imulI (mx_d D_M_edition 50 rfl) ?_
      refine mx_iload_n (k4 := 1) (mx_d D_M_edition 51 rfl) (by rfl) ?_
      refine mx_iaddI (mx_d D_M_edition 52 rfl) ?_
      refine mx_ialdI hG (60 * iE + i) (mx_d D_M_edition 53 rfl) (by first | assumption | omega) (by first | assumption | exact va_up_self _ _ _ | (rw [va_up_ne _ _ (by omega)]; first | assumption | exact va_up_self _ _ _ | (rw [va_up_ne _ _ (by omega)]; first | assumption | exact va_up_self _ _ _ | (rw [va_up_ne _ _ (by omega)]; first | assumption | exact va_up_self _ _ _ | (rw [va_up_ne _ _ (by omega)]; first | assumption | exact va_up_self _ _ _ | (rw [va_up_ne _ _ (by omega)]; first | assumption | exact va_up_self _ _ _)))))) (by rfl) (by omega) (by omega) ?_
      refine mx_iastI hG (60 * nE + i) _ (mx_d D_M_edition 54 rfl) (by first | assumption | omega) (by first | assumption | exact va_up_self _ _ _ | (rw [va_up_ne _ _ (by omega)]; first | assumption | exact va_up_self _ _ _ | (rw [va_up_ne _ _ (by omega)]; first | assumption | exact va_up_self _ _ _ | (rw [va_up_ne _ _ (by omega)]; first | assumption | exact va_up_self _ _ _ | (rw [va_up_ne _ _ (by omega)]; first | assumption | exact va_up_self _ _ _ | (rw [va_up_ne _ _ (by omega)]; first | assumption | exact va_up_self _ _ _)))))) (by rfl) (by rfl) (by omega) (by omega) ?_
      refine mx_iincI (i := 1) (n := 1) (mx_d D_M_edition 55 rfl) (by rfl) (by decide) ?_
      refine mx_goto 26 (mx_d D_M_edition 56 rfl) (by decide) ?_
      refine mx_loc (by rfl) (ih (i + 1) _ (va_up gA (60 * nE + i) (gA (60 * iE + i))) (va_up gS (60 * nE + i) (gS (60 * iE + i))) (by omega) (fun j hj => ?_) (fun j hj => ?_) ?_ ?_ (va_up_self _ _ _) (fun k z1 z2 z3 => ?_))
      · rw [va_up_ne _ _ (by omega), va_up_ne _ _ (by omega)]; exact g1 j (by omega)
      · by_cases e : j = i
        · subst e; rw [va_up_self, va_up_self]; exact g1 _ (by omega)
        · rw [va_up_ne _ _ (by omega), va_up_ne _ _ (by omega)]; exact g2 j (by omega)
      · rw [va_up_ne _ _ (by omega), va_up_ne _ _ (by omega)]; exact k50
      · rw [va_up_ne _ _ (by omega), va_up_self]
      · rw [va_up_ne _ _ z3, va_up_ne _ _ z2]; exact kf k z1 z2 z3
  · refine mx_icmp_geY 13 (mx_d D_M_edition 4 rfl) (by decide) (by omega) (by omega) (by omega) (by omega) (by omega) ?_
    refine mx_iconst (n := 0) (mx_d D_M_edition 7 rfl) ?_
    refine mx_iconst (n := 1) (mx_d D_M_edition 8 rfl) ?_
    refine mx_iconst (n := 1) (mx_d D_M_edition 9 rfl) ?_
    refine mx_callV hG (Y' := Y_M_goes) (ci := 7) [_, _, _] (mx_d D_M_edition 10 rfl) in_M_goes w_666 w_668 s_M_goes (by rfl) np_M_goes (by exact Nat.le_of_ble_eq_true rfl) (by rfl) (by first | assumption | omega) (by first | assumption | exact va_up_self _ _ _ | (rw [va_up_ne _ _ (by omega)]; first | assumption | exact va_up_self _ _ _ | (rw [va_up_ne _ _ (by omega)]; first | assumption | exact va_up_self _ _ _ | (rw [va_up_ne _ _ (by omega)]; first | assumption | exact va_up_self _ _ _ | (rw [va_up_ne _ _ (by omega)]; first | assumption | exact va_up_self _ _ _ | (rw [va_up_ne _ _ (by omega)]; first | assumption | exact va_up_self _ _ _)))))) (by rfl) (by exact Nat.le_of_ble_eq_true rfl) (m_goes hG hN h50 (a := false) (b := true) (c := true) ?_)
    refine mx_if_neN 24 (mx_d D_M_edition 11 rfl) (by decide) (by decide) (by decide) (by decide) ?_
    refine mx_iconst (n := 0) (mx_d D_M_edition 12 rfl) ?_
    refine mx_iret (by rfl) (mx_d D_M_edition 13 rfl) ?_
    exact q0 _ hc (RS.thr hA) fr50
theorem m_use (hG : mx_ok G) (hN : 63 ≤ N) (hV : IV Y U nE iE nD rA rS eA eS dA dS dW lc rn rg rN ps pN) (hR : RS G Y U nE iE nD rA rS eA eS dA dS dW lc rn rg rN ps pN th ce) {y : Int} (y1 : -2147483648 ≤ y) (y2 : y < 2147483648)
    (q0 : ∀ ce', ¬ (0 ≤ y ∧ y < nE) → RS G Y U nE iE nD rA rS eA eS dA dS dW lc rn rg rN ps pN 1 ce' → (∀ k, k < 50 ∨ 63 ≤ k → ce' k = ce k) → Q (.inl (some (.int (iI 0)))) N ce' bc bs)
    (q2 : ∀ ce' (m : Nat), y = m → m < nE → RS G Y U nE (m) nD rA rS eA eS dA dS dW lc rn rg rN ps pN 0 ce' → (∀ k, k < 50 ∨ 63 ≤ k → ce' k = ce k) → Q (.inl (some (.int (iI (iE : Nat))))) N ce' bc bs) : mx_M G Y_M_use (d + 3) bc bs false N ce 0 [(0, .ref (mx_B G + 50)), (1, .int (iI y))] [] Q := by
  obtain ⟨hY, hU, hE, hD, hrA, hrS, hEA, hES, hDA, hDS, hDz, hDW, hrN, hrn, hpN, hps⟩ := hV
  obtain ⟨rw, h50, hA⟩ := hR
  refine mx_aload_n (k4 := 0) (mx_d D_M_use 0 rfl) (by rfl) ?_
  refine mx_iload_n (k4 := 1) (mx_d D_M_use 1 rfl) (by rfl) ?_
  refine mx_iconst (n := 0) (mx_d D_M_use 2 rfl) ?_
  refine mx_aload_n (k4 := 0) (mx_d D_M_use 3 rfl) (by rfl) ?_
  refine mx_getf hG (idx := 7) (ci := 7) (kf := 3) (mx_d D_M_use 4 rfl) (by rfl) cls_M (by decide) w_584 (by first | assumption | omega) (by first | assumption | exact va_up_self _ _ _ | (rw [va_up_ne _ _ (by omega)]; first | assumption | exact va_up_self _ _ _ | (rw [va_up_ne _ _ (by omega)]; first | assumption | exact va_up_self _ _ _ | (rw [va_up_ne _ _ (by omega)]; first | assumption | exact va_up_self _ _ _ | (rw [va_up_ne _ _ (by omega)]; first | assumption | exact va_up_self _ _ _ | (rw [va_up_ne _ _ (by omega)]; first | assumption | exact va_up_self _ _ _)))))) (by rfl) ?_
  refine mx_iconst (n := 1) (mx_d D_M_use 5 rfl) ?_
  refine mx_isubI (mx_d D_M_use 6 rfl) ?_
  refine mx_callS (Y' := Y_M_within) [_, _, _] (mx_d D_M_use 7 rfl) in_M_within w_663 w_664 np_M_within (by exact Nat.le_of_ble_eq_true rfl) (by rfl) (by rfl) (by exact Nat.le_of_ble_eq_true rfl) (m_within y1 y2 (by omega) (by omega) (by omega) (by omega) ?_)
  refine mx_iconst (n := 1) (mx_d D_M_use 8 rfl) ?_
  refine mx_iconst (n := 1) (mx_d D_M_use 9 rfl) ?_
  refine mx_callV hG (Y' := Y_M_goes) (ci := 7) [_, _, _] (mx_d D_M_use 10 rfl) in_M_goes w_666 w_668 s_M_goes (by rfl) np_M_goes (by exact Nat.le_of_ble_eq_true rfl) (by rfl) (by first | assumption | omega) (by first | assumption | exact va_up_self _ _ _ | (rw [va_up_ne _ _ (by omega)]; first | assumption | exact va_up_self _ _ _ | (rw [va_up_ne _ _ (by omega)]; first | assumption | exact va_up_self _ _ _ | (rw [va_up_ne _ _ (by omega)]; first | assumption | exact va_up_self _ _ _ | (rw [va_up_ne _ _ (by omega)]; first | assumption | exact va_up_self _ _ _ | (rw [va_up_ne _ _ (by omega)]; first | assumption | exact va_up_self _ _ _)))))) (by rfl) (by exact Nat.le_of_ble_eq_true rfl) (m_goes hG hN h50 (b := true) (c := true) ?_)
  cases hc : wiB y 0 ((nE : Int) - 1) with
  | false =>
    have hc' := wiB_f hc
    refine mx_if_neN 22 (mx_d D_M_use 11 rfl) (by decide) (by decide) (by decide) (by decide) ?_
    refine mx_iconst (n := 0) (mx_d D_M_use 12 rfl) ?_
    refine mx_iret (by rfl) (mx_d D_M_use 13 rfl) ?_
    exact q0 _ (by omega) (RS.thr hA) fr50
  | true =>
    have hc' := wiB_t hc
    obtain ⟨m, rfl⟩ : ∃ m : Nat, y = m := ⟨y.toNat, by omega⟩
    refine mx_if_neY 22 (mx_d D_M_use 11 rfl) (by decide) (by decide) (by decide) (by decide) ?_
    refine mx_aload_n (k4 := 0) (mx_d D_M_use 14 rfl) (by rfl) ?_
    refine mx_getf hG (idx := 68) (ci := 7) (kf := 4) (mx_d D_M_use 15 rfl) (by rfl) cls_M (by decide) w_585 (by first | assumption | omega) (by first | assumption | exact va_up_self _ _ _ | (rw [va_up_ne _ _ (by omega)]; first | assumption | exact va_up_self _ _ _ | (rw [va_up_ne _ _ (by omega)]; first | assumption | exact va_up_self _ _ _ | (rw [va_up_ne _ _ (by omega)]; first | assumption | exact va_up_self _ _ _ | (rw [va_up_ne _ _ (by omega)]; first | assumption | exact va_up_self _ _ _ | (rw [va_up_ne _ _ (by omega)]; first | assumption | exact va_up_self _ _ _)))))) (by rfl) ?_
    refine mx_istore_n (k4 := 2) (mx_d D_M_use 16 rfl) (by decide) ?_
    refine mx_aload_n (k4 := 0) (mx_d D_M_use 17 rfl) (by rfl) ?_
    refine mx_iload_n (k4 := 1) (mx_d D_M_use 18 rfl) (by rfl) ?_
    refine mx_putf hG (idx := 68) (ci := 7) (kf := 4) (t := (.int)) (mx_d D_M_use 19 rfl) (by rfl) cls_M (by decide) (Or.inl rfl) w_585 (by first | assumption | omega) (by first | assumption | exact va_up_self _ _ _ | (rw [va_up_ne _ _ (by omega)]; first | assumption | exact va_up_self _ _ _ | (rw [va_up_ne _ _ (by omega)]; first | assumption | exact va_up_self _ _ _ | (rw [va_up_ne _ _ (by omega)]; first | assumption | exact va_up_self _ _ _ | (rw [va_up_ne _ _ (by omega)]; first | assumption | exact va_up_self _ _ _ | (rw [va_up_ne _ _ (by omega)]; first | assumption | exact va_up_self _ _ _)))))) (by exact Nat.le_of_ble_eq_true rfl) (by decide +kernel) (by rfl) (by rfl) ?_
    refine mx_iload_n (k4 := 2) (mx_d D_M_use 20 rfl) (by rfl) ?_
    refine mx_iret (by rfl) (mx_d D_M_use 21 rfl) ?_
    rw [bx_uu]
    exact q2 _ m rfl (by omega) (RS.thr hA) fr50
theorem m_reservoir (hG : mx_ok G) (hN : 63 ≤ N) (hV : IV Y U nE iE nD rA rS eA eS dA dS dW lc rn rg rN ps pN) (hR : RS G Y U nE iE nD rA rS eA eS dA dS dW lc rn rg rN ps pN th ce) {a s : Int} (a1 : -2147483648 ≤ a) (a2 : a < 2147483648) (s1 : -2147483648 ≤ s) (s2 : s < 2147483648)
    (q0 : ∀ ce', ¬ ((-1000 ≤ a ∧ a ≤ 1000) ∧ 0 ≤ s ∧ s ≤ 100) → RS G Y U nE iE nD rA rS eA eS dA dS dW lc rn rg rN ps pN 1 ce' → (∀ k, k < 50 ∨ 63 ≤ k → ce' k = ce k) → Q (.inl none) N ce' bc bs)
    (q2 : ∀ ce', ((-1000 ≤ a ∧ a ≤ 1000) ∧ 0 ≤ s ∧ s ≤ 100) → RS G Y U nE iE nD (a) (s) eA eS dA dS dW lc rn rg rN ps pN 0 ce' → (∀ k, k < 50 ∨ 63 ≤ k → ce' k = ce k) → Q (.inl none) N ce' bc bs) : mx_M G Y_M_reservoir (d + 3) bc bs false N ce 0 [(0, .ref (mx_B G + 50)), (1, .int (iI a)), (2, .int (iI s))] [] Q := by
  obtain ⟨rw, h50, hA⟩ := hR
  have join : ∀ b : Bool, (b = true ↔ ((-1000 ≤ a ∧ a ≤ 1000) ∧ 0 ≤ s ∧ s ≤ 100)) → mx_M G Y_M_reservoir (d + 3) bc bs false N ce 29 [(0, .ref (mx_B G + 50)), (1, .int (iI a)), (2, .int (iI s))] [.int (iI (bI b)), .ref (mx_B G + 50)] Q := by
    intro b hb
    refine mx_iconst (n := 1) (mx_d D_M_reservoir 14 rfl) ?_
    refine mx_iconst (n := 1) (mx_d D_M_reservoir 15 rfl) ?_
    refine mx_callV hG (Y' := Y_M_goes) (ci := 7) [_, _, _] (mx_d D_M_reservoir 16 rfl) in_M_goes w_666 w_668 s_M_goes (by rfl) np_M_goes (by exact Nat.le_of_ble_eq_true rfl) (by rfl) (by first | assumption | omega) (by first | assumption | exact va_up_self _ _ _ | (rw [va_up_ne _ _ (by omega)]; first | assumption | exact va_up_self _ _ _ | (rw [va_up_ne _ _ (by omega)]; first | assumption | exact va_up_self _ _ _ | (rw [va_up_ne _ _ (by omega)]; first | assumption | exact va_up_self _ _ _ | (rw [va_up_ne _ _ (by omega)]; first | assumption | exact va_up_self _ _ _ | (rw [va_up_ne _ _ (by omega)]; first | assumption | exact va_up_self _ _ _)))))) (by rfl) (by exact Nat.le_of_ble_eq_true rfl) (m_goes hG hN h50 (b := true) (c := true) ?_)
    cases b with
    | false =>
      refine mx_if_eqY 47 (mx_d D_M_reservoir 17 rfl) (by decide) (by decide) (by decide) (by decide) ?_
      refine mx_vret (by rfl) (mx_d D_M_reservoir 24 rfl) ?_
      exact q0 _ (fun z => absurd (hb.mpr z) (by decide)) (RS.thr hA) fr50
    | true =>
      refine mx_if_eqN 47 (mx_d D_M_reservoir 17 rfl) (by decide) (by decide) (by decide) (by decide) ?_
      refine mx_aload_n (k4 := 0) (mx_d D_M_reservoir 18 rfl) (by rfl) ?_
      refine mx_iload_n (k4 := 1) (mx_d D_M_reservoir 19 rfl) (by rfl) ?_
      refine mx_putf hG (idx := 82) (ci := 7) (kf := 7) (t := (.int)) (mx_d D_M_reservoir 20 rfl) (by rfl) cls_M (by decide) (Or.inl rfl) w_588 (by first | assumption | omega) (by first | assumption | exact va_up_self _ _ _ | (rw [va_up_ne _ _ (by omega)]; first | assumption | exact va_up_self _ _ _ | (rw [va_up_ne _ _ (by omega)]; first | assumption | exact va_up_self _ _ _ | (rw [va_up_ne _ _ (by omega)]; first | assumption | exact va_up_self _ _ _ | (rw [va_up_ne _ _ (by omega)]; first | assumption | exact va_up_self _ _ _ | (rw [va_up_ne _ _ (by omega)]; first | assumption | exact va_up_self _ _ _)))))) (by exact Nat.le_of_ble_eq_true rfl) (by decide +kernel) (by rfl) (by rfl) ?_
      refine mx_aload_n (k4 := 0) (mx_d D_M_reservoir 21 rfl) (by rfl) ?_
      refine mx_iload_n (k4 := 2) (mx_d D_M_reservoir 22 rfl) (by rfl) ?_
      refine mx_putf hG (idx := 85) (ci := 7) (kf := 8) (t := (.int)) (mx_d D_M_reservoir 23 rfl) (by rfl) cls_M (by decide) (Or.inl rfl) w_589 (by first | assumption | omega) (by first | assumption | exact va_up_self _ _ _ | (rw [va_up_ne _ _ (by omega)]; first | assumption | exact va_up_self _ _ _ | (rw [va_up_ne _ _ (by omega)]; first | assumption | exact va_up_self _ _ _ | (rw [va_up_ne _ _ (by omega)]; first | assumption | exact va_up_self _ _ _ | (rw [va_up_ne _ _ (by omega)]; first | assumption | exact va_up_self _ _ _ | (rw [va_up_ne _ _ (by omega)]; first | assumption | exact va_up_self _ _ _)))))) (by exact Nat.le_of_ble_eq_true rfl) (by decide +kernel) (by rfl) (by rfl) ?_
      refine mx_vret (by rfl) (mx_d D_M_reservoir 24 rfl) ?_
      rw [bx_uu, bx_uu]
      exact q2 _ (hb.mp rfl) (RS.thr hA) fr50
  refine mx_aload_n (k4 := 0) (mx_d D_M_reservoir 0 rfl) (by rfl) ?_
  refine mx_iload_n (k4 := 1) (mx_d D_M_reservoir 1 rfl) (by rfl) ?_
  refine mx_sipush (n := -1000) (mx_d D_M_reservoir 2 rfl) (by decide) ?_
  refine mx_sipush (n := 1000) (mx_d D_M_reservoir 3 rfl) (by decide) ?_
  refine mx_callS (Y' := Y_M_within) [_, _, _] (mx_d D_M_reservoir 4 rfl) in_M_within w_663 w_664 np_M_within (by exact Nat.le_of_ble_eq_true rfl) (by rfl) (by rfl) (by exact Nat.le_of_ble_eq_true rfl) (m_within a1 a2 (by omega) (by omega) (by omega) (by omega) ?_)
  cases ha : wiB a (-1000) 1000 with
  | false =>
    have ha' := wiB_f ha
    refine mx_if_eqY 28 (mx_d D_M_reservoir 5 rfl) (by decide) (by decide) (by decide) (by decide) ?_
    refine mx_iconst (n := 0) (mx_d D_M_reservoir 13 rfl) ?_
    exact join false ⟨fun z => absurd z (by decide), fun z => by omega⟩
  | true =>
    have ha' := wiB_t ha
    refine mx_if_eqN 28 (mx_d D_M_reservoir 5 rfl) (by decide) (by decide) (by decide) (by decide) ?_
    refine mx_iload_n (k4 := 2) (mx_d D_M_reservoir 6 rfl) (by rfl) ?_
    refine mx_iconst (n := 0) (mx_d D_M_reservoir 7 rfl) ?_
    refine mx_bipush (n := 100) (mx_d D_M_reservoir 8 rfl) (by decide) ?_
    refine mx_callS (Y' := Y_M_within) [_, _, _] (mx_d D_M_reservoir 9 rfl) in_M_within w_663 w_664 np_M_within (by exact Nat.le_of_ble_eq_true rfl) (by rfl) (by rfl) (by exact Nat.le_of_ble_eq_true rfl) (m_within s1 s2 (by omega) (by omega) (by omega) (by omega) ?_)
    cases hs : wiB s 0 100 with
    | false =>
      have hs' := wiB_f hs
      refine mx_if_eqY 28 (mx_d D_M_reservoir 10 rfl) (by decide) (by decide) (by decide) (by decide) ?_
      refine mx_iconst (n := 0) (mx_d D_M_reservoir 13 rfl) ?_
      exact join false ⟨fun z => absurd z (by decide), fun z => by omega⟩
    | true =>
      have hs' := wiB_t hs
      refine mx_if_eqN 28 (mx_d D_M_reservoir 10 rfl) (by decide) (by decide) (by decide) (by decide) ?_
      refine mx_iconst (n := 1) (mx_d D_M_reservoir 11 rfl) ?_
      refine mx_goto 29 (mx_d D_M_reservoir 12 rfl) (by decide) ?_
      exact join true ⟨fun _ => ⟨ha', hs'⟩, fun _ => rfl⟩
theorem m_date (hG : mx_ok G) (hN : 63 ≤ N) (hV : IV Y U nE iE nD rA rS eA eS dA dS dW lc rn rg rN ps pN) (hR : RS G Y U nE iE nD rA rS eA eS dA dS dW lc rn rg rN ps pN th ce) {a s : Int} (a1 : -2147483648 ≤ a) (a2 : a < 2147483648) (s1 : -2147483648 ≤ s) (s2 : s < 2147483648)
    (q0 : ∀ ce', ¬ ((0 ≤ a ∧ a ≤ 3000) ∧ 1 ≤ s ∧ s ≤ 100) → RS G Y U nE iE nD rA rS eA eS dA dS dW lc rn rg rN ps pN 1 ce' → (∀ k, k < 50 ∨ 63 ≤ k → ce' k = ce k) → Q (.inl (some (.int (iI 0)))) N ce' bc bs)
    (q1 : ∀ ce', ((0 ≤ a ∧ a ≤ 3000) ∧ 1 ≤ s ∧ s ≤ 100) → ¬ nD < 12 → RS G Y U nE iE nD rA rS eA eS dA dS dW lc rn rg rN ps pN 2 ce' → (∀ k, k < 50 ∨ 63 ≤ k → ce' k = ce k) → Q (.inl (some (.int (iI 0)))) N ce' bc bs)
    (q2 : ∀ ce', ((0 ≤ a ∧ a ≤ 3000) ∧ 1 ≤ s ∧ s ≤ 100) → nD < 12 → (∀ h : Nat → Int, (∀ j, j < Y → h j = wgt U (s * s + rS * rS) (a - rA) (eA iE j) (eS iE j)) → RS G Y U nE iE (nD + 1) rA rS eA eS (va_up dA nD a) (va_up dS nD s) (va_up dW nD h) lc rn rg rN ps pN 0 ce') → (∀ k, k < 50 ∨ 63 ≤ k → ce' k = ce k) → Q (.inl (some (.int (iI (nD : Nat))))) N ce' bc bs) : mx_M G Y_M_date (d + 3) bc bs false N ce 0 [(0, .ref (mx_B G + 50)), (1, .int (iI a)), (2, .int (iI s))] [] Q := by
  have hV0 := hV
  obtain ⟨hY, hU, hE, hD, hrA, hrS, hEA, hES, hDA, hDS, hDz, hDW, hrN, hrn, hpN, hps⟩ := hV
  obtain ⟨rw, h50, hA⟩ := hR
  have join : ∀ b : Bool, (b = true ↔ ((0 ≤ a ∧ a ≤ 3000) ∧ 1 ≤ s ∧ s ≤ 100)) → mx_M G Y_M_date (d + 3) bc bs false N ce 27 [(0, .ref (mx_B G + 50)), (1, .int (iI a)), (2, .int (iI s))] [.int (iI (bI b)), .ref (mx_B G + 50)] Q := by
    intro b hb
    have join2 : ∀ b2 : Bool, (b2 = true ↔ nD < 12) → mx_M G Y_M_date (d + 3) bc bs false N ce 41 [(0, .ref (mx_B G + 50)), (1, .int (iI a)), (2, .int (iI s))] [.int (iI (bI b2)), .int (iI (bI b)), .ref (mx_B G + 50)] Q := by
      intro b2 hb2
      refine mx_iconst (n := 1) (mx_d D_M_date 21 rfl) ?_
      refine mx_callV hG (Y' := Y_M_goes) (ci := 7) [_, _, _] (mx_d D_M_date 22 rfl) in_M_goes w_666 w_668 s_M_goes (by rfl) np_M_goes (by exact Nat.le_of_ble_eq_true rfl) (by rfl) (by first | assumption | omega) (by first | assumption | exact va_up_self _ _ _ | (rw [va_up_ne _ _ (by omega)]; first | assumption | exact va_up_self _ _ _ | (rw [va_up_ne _ _ (by omega)]; first | assumption | exact va_up_self _ _ _ | (rw [va_up_ne _ _ (by omega)]; first | assumption | exact va_up_self _ _ _ | (rw [va_up_ne _ _ (by omega)]; first | assumption | exact va_up_self _ _ _ | (rw [va_up_ne _ _ (by omega)]; first | assumption | exact va_up_self _ _ _)))))) (by rfl) (by exact Nat.le_of_ble_eq_true rfl) (m_goes hG hN h50 (c := true) ?_)
      cases b with
      | false =>
        refine mx_if_neN 50 (mx_d D_M_date 23 rfl) (by decide) (by cases b2 <;> decide) (by cases b2 <;> decide) (by cases b2 <;> decide) ?_
        refine mx_iconst (n := 0) (mx_d D_M_date 24 rfl) ?_
        refine mx_iret (by rfl) (mx_d D_M_date 25 rfl) ?_
        exact q0 _ (fun z => absurd (hb.mpr z) (by decide)) (RS.thr hA) fr50
      | true =>
        have hb' := hb.mp rfl
        cases b2 with
        | false =>
          refine mx_if_neN 50 (mx_d D_M_date 23 rfl) (by decide) (by decide) (by decide) (by decide) ?_
          refine mx_iconst (n := 0) (mx_d D_M_date 24 rfl) ?_
          refine mx_iret (by rfl) (mx_d D_M_date 25 rfl) ?_
          exact q1 _ hb' (fun z => absurd (hb2.mpr z) (by decide)) (RS.thr hA) fr50
        | true =>
          refine mx_if_neY 50 (mx_d D_M_date 23 rfl) (by decide) (by decide) (by decide) (by decide) ?_
          refine mx_aload_n (k4 := 0) (mx_d D_M_date 26 rfl) (by rfl) ?_
          refine mx_iload_n (k4 := 1) (mx_d D_M_date 27 rfl) (by rfl) ?_
          refine mx_iload_n (k4 := 2) (mx_d D_M_date 28 rfl) (by rfl) ?_
          refine mx_callV hG (Y' := Y_M_measure) (ci := 7) [_, _] (mx_d D_M_date 29 rfl) in_M_measure w_690 w_692 s_M_measure (by rfl) np_M_measure (by exact Nat.le_of_ble_eq_true rfl) (by rfl) (by first | assumption | omega) (by first | assumption | exact va_up_self _ _ _ | (rw [va_up_ne _ _ (by omega)]; first | assumption | exact va_up_self _ _ _ | (rw [va_up_ne _ _ (by omega)]; first | assumption | exact va_up_self _ _ _ | (rw [va_up_ne _ _ (by omega)]; first | assumption | exact va_up_self _ _ _ | (rw [va_up_ne _ _ (by omega)]; first | assumption | exact va_up_self _ _ _ | (rw [va_up_ne _ _ (by omega)]; first | assumption | exact va_up_self _ _ _)))))) (by rfl) (by exact Nat.le_of_ble_eq_true rfl) (m_measureA hG hN hV0 (th := 0) (RS.thr hA) (hb2.mp rfl) hb'.1 hb'.2 (fun ce' k1 k2 => ?_))
          refine mx_iret (by rfl) (mx_d D_M_date 30 rfl) ?_
          exact q2 ce' hb' (hb2.mp rfl) k1 (fun k hk => (k2 k hk).trans (fr50 k hk))
    refine mx_aload_n (k4 := 0) (mx_d D_M_date 14 rfl) (by rfl) ?_
    refine mx_getf hG (idx := 65) (ci := 7) (kf := 9) (mx_d D_M_date 15 rfl) (by rfl) cls_M (by decide) w_590 (by first | assumption | omega) (by first | assumption | exact va_up_self _ _ _ | (rw [va_up_ne _ _ (by omega)]; first | assumption | exact va_up_self _ _ _ | (rw [va_up_ne _ _ (by omega)]; first | assumption | exact va_up_self _ _ _ | (rw [va_up_ne _ _ (by omega)]; first | assumption | exact va_up_self _ _ _ | (rw [va_up_ne _ _ (by omega)]; first | assumption | exact va_up_self _ _ _ | (rw [va_up_ne _ _ (by omega)]; first | assumption | exact va_up_self _ _ _)))))) (by rfl) ?_
    refine mx_bipush (n := 12) (mx_d D_M_date 16 rfl) (by decide) ?_
    by_cases hc : nD < 12
    · refine mx_icmp_geN 40 (mx_d D_M_date 17 rfl) (by decide) (by omega) (by omega) (by omega) (by omega) (by omega) ?_
      refine mx_iconst (n := 1) (mx_d D_M_date 18 rfl) ?_
      refine mx_goto 41 (mx_d D_M_date 19 rfl) (by decide) ?_
      exact join2 true ⟨fun _ => hc, fun _ => rfl⟩
    · refine mx_icmp_geY 40 (mx_d D_M_date 17 rfl) (by decide) (by omega) (by omega) (by omega) (by omega) (by omega) ?_
      refine mx_iconst (n := 0) (mx_d D_M_date 20 rfl) ?_
      exact join2 false ⟨fun z => absurd z (by decide), fun z => absurd z hc⟩
  refine mx_aload_n (k4 := 0) (mx_d D_M_date 0 rfl) (by rfl) ?_
  refine mx_iload_n (k4 := 1) (mx_d D_M_date 1 rfl) (by rfl) ?_
  refine mx_iconst (n := 0) (mx_d D_M_date 2 rfl) ?_
  refine mx_sipush (n := 3000) (mx_d D_M_date 3 rfl) (by decide) ?_
  refine mx_callS (Y' := Y_M_within) [_, _, _] (mx_d D_M_date 4 rfl) in_M_within w_663 w_664 np_M_within (by exact Nat.le_of_ble_eq_true rfl) (by rfl) (by rfl) (by exact Nat.le_of_ble_eq_true rfl) (m_within a1 a2 (by omega) (by omega) (by omega) (by omega) ?_)
  cases ha : wiB a 0 3000 with
  | false =>
    have ha' := wiB_f ha
    refine mx_if_eqY 26 (mx_d D_M_date 5 rfl) (by decide) (by decide) (by decide) (by decide) ?_
    refine mx_iconst (n := 0) (mx_d D_M_date 13 rfl) ?_
    exact join false ⟨fun z => absurd z (by decide), fun z => by omega⟩
  | true =>
    have ha' := wiB_t ha
    refine mx_if_eqN 26 (mx_d D_M_date 5 rfl) (by decide) (by decide) (by decide) (by decide) ?_
    refine mx_iload_n (k4 := 2) (mx_d D_M_date 6 rfl) (by rfl) ?_
    refine mx_iconst (n := 1) (mx_d D_M_date 7 rfl) ?_
    refine mx_bipush (n := 100) (mx_d D_M_date 8 rfl) (by decide) ?_
    refine mx_callS (Y' := Y_M_within) [_, _, _] (mx_d D_M_date 9 rfl) in_M_within w_663 w_664 np_M_within (by exact Nat.le_of_ble_eq_true rfl) (by rfl) (by rfl) (by exact Nat.le_of_ble_eq_true rfl) (m_within s1 s2 (by omega) (by omega) (by omega) (by omega) ?_)
    cases hs : wiB s 1 100 with
    | false =>
      have hs' := wiB_f hs
      refine mx_if_eqY 26 (mx_d D_M_date 10 rfl) (by decide) (by decide) (by decide) (by decide) ?_
      refine mx_iconst (n := 0) (mx_d D_M_date 13 rfl) ?_
      exact join false ⟨fun z => absurd z (by decide), fun z => by omega⟩
    | true =>
      have hs' := wiB_t hs
      refine mx_if_eqN 26 (mx_d D_M_date 10 rfl) (by decide) (by decide) (by decide) (by decide) ?_
      refine mx_iconst (n := 1) (mx_d D_M_date 11 rfl) ?_
      refine mx_goto 27 (mx_d D_M_date 12 rfl) (by decide) ?_
      exact join true ⟨fun _ => ⟨ha', hs'⟩, fun _ => rfl⟩
end MD
