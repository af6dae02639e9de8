/-! the reference: weight, total, sum, mix, joinRepeats -/
theorem va_up_id' {α : Type} (f : Nat → α) (k : Nat) {v : α} (h : f k = v) : va_up f k v = f := by
  funext j
  by_cases hj : j = k
  · subst hj; rw [va_up_self, h]
  · rw [va_up_ne _ _ hj]
section ME
variable {G : mx_G} {d bc bs : Nat} {N : Nat} {ce : Nat → va_E} {Q : mx_P} {Y : Nat} {U : Int} {nE iE nD : Nat} {rA rS : Int} {eA eS : Nat → Nat → Int} {dA dS : Nat → Int} {dW : Nat → Nat → Int} {lc : Nat → Bool} {rn rg : Nat → Nat} {rN : Nat} {ps : Nat → Int} {pN : Nat} {th : Int}
def RB (G : mx_G) (Y nD : Nat) (eA eS : Nat → Nat → Int) (dA dS : Nat → Int) (dW : Nat → Nat → Int) (lc : Nat → Bool) (rn rg : Nat → Nat) (ps : Nat → Int) (fW : Nat → Int) (ce : Nat → va_E) : Prop := ∃ (fA fS : Nat → Int) (ch : Nat → Bool) (tY tA tS : Nat → Int), (ce 51 = aI G 240 fA ∧ ce 52 = aI G 240 fS ∧ ce 53 = aI G 720 fW ∧ ce 54 = aI G 12 dA ∧ ce 55 = aI G 12 dS ∧ ce 56 = aB G 60 ch ∧ ce 57 = aI G 8 (fun j => (rn j : Int)) ∧ ce 58 = aI G 8 (fun j => (rg j : Int)) ∧ ce 59 = aI G 100 ps ∧ ce 60 = aI G 40 tY ∧ ce 61 = aI G 40 tA ∧ ce 62 = aI G 40 tS) ∧ (∀ e, e < 4 → ∀ y, y < Y → fA (60 * e + y) = eA e y ∧ fS (60 * e + y) = eS e y) ∧ (∀ i, i < nD → ∀ y, y < Y → fW (60 * i + y) = dW i y) ∧ (∀ y, y < Y → ch y = lc y)
theorem RA.b (hA : RA G Y nD eA eS dA dS dW lc rn rg ps ce) : ∃ fW, RB G Y nD eA eS dA dS dW lc rn rg ps fW ce := by
  obtain ⟨fA, fS, fW, ch, tY, tA, tS, h⟩ := hA
  exact ⟨fW, fA, fS, ch, tY, tA, tS, h⟩
/-- a date more whose row of weights has been written -/
theorem RB.more {fW : Nat → Int} (hV : IV Y U nE iE nD rA rS eA eS dA dS dW lc rn rg rN ps pN) (hA : RB G Y nD eA eS dA dS dW lc rn rg ps fW ce) {ce' : Nat → va_E} {f' h : Nat → Int} (hn : nD < 12) (k53 : ce' 53 = aI G 720 f') (k55 : ce' 55 = aI G 12 (va_up dS nD 0)) (kf : ∀ k, 51 ≤ k → k < 63 → k ≠ 53 → k ≠ 55 → ce' k = ce k) (h1 : ∀ k, k < 60 * nD → f' k = fW k) (h2 : ∀ j, j < Y → f' (60 * nD + j) = h j) : RA G Y (nD + 1) eA eS (va_up dA nD 0) (va_up dS nD 0) (va_up dW nD h) lc rn rg ps ce' := by
  obtain ⟨hY, hU, hE, hD, hrA, hrS, hEA, hES, hDA, hDS, hDz, hDW, hrN, hrn, hpN, hps⟩ := hV
  obtain ⟨fA, fS, ch, tY, tA, tS, ⟨h51, h52, h53, h54, h55, h56, h57, h58, h59, h60, h61, h62⟩, hfe, hfw, hch⟩ := hA
  refine ⟨fA, fS, f', ch, tY, tA, tS, ⟨?_, ?_, k53, ?_, k55, ?_, ?_, ?_, ?_, ?_, ?_, ?_⟩, hfe, fW_more hY.2 hfw h1 h2, hch⟩
  · rw [kf 51 (by omega) (by omega) (by omega) (by omega)]; exact h51
  · rw [kf 52 (by omega) (by omega) (by omega) (by omega)]; exact h52
  · rw [kf 54 (by omega) (by omega) (by omega) (by omega), va_up_id' dA nD (hDz nD hn (Nat.le_refl _)).1]; exact h54
  · rw [kf 56 (by omega) (by omega) (by omega) (by omega)]; exact h56
  · rw [kf 57 (by omega) (by omega) (by omega) (by omega)]; exact h57
  · rw [kf 58 (by omega) (by omega) (by omega) (by omega)]; exact h58
  · rw [kf 59 (by omega) (by omega) (by omega) (by omega)]; exact h59
  · rw [kf 60 (by omega) (by omega) (by omega) (by omega)]; exact h60
  · rw [kf 61 (by omega) (by omega) (by omega) (by omega)]; exact h61
  · rw [kf 62 (by omega) (by omega) (by omega) (by omega)]; exact h62
/-- the weights behind the last date may be anything -/
theorem RB.junk {fW : Nat → Int} (hY : Y ≤ 60) (hA : RB G Y nD eA eS dA dS dW lc rn rg ps fW ce) {ce' : Nat → va_E} {f' : Nat → Int} (k53 : ce' 53 = aI G 720 f') (kf : ∀ k, 51 ≤ k → k < 63 → k ≠ 53 → ce' k = ce k) (h1 : ∀ k, k < 60 * nD → f' k = fW k) : RA G Y nD eA eS dA dS dW lc rn rg ps ce' := by
  obtain ⟨fA, fS, ch, tY, tA, tS, ⟨h51, h52, h53, h54, h55, h56, h57, h58, h59, h60, h61, h62⟩, hfe, hfw, hch⟩ := hA
  refine ⟨fA, fS, f', ch, tY, tA, tS, ⟨?_, ?_, k53, ?_, ?_, ?_, ?_, ?_, ?_, ?_, ?_, ?_⟩, hfe, fun i hi y hy => ?_, hch⟩
  · rw [kf 51 (by omega) (by omega) (by omega)]; exact h51
  · rw [kf 52 (by omega) (by omega) (by omega)]; exact h52
  · rw [kf 54 (by omega) (by omega) (by omega)]; exact h54
  · rw [kf 55 (by omega) (by omega) (by omega)]; exact h55
  · rw [kf 56 (by omega) (by omega) (by omega)]; exact h56
  · rw [kf 57 (by omega) (by omega) (by omega)]; exact h57
  · rw [kf 58 (by omega) (by omega) (by omega)]; exact h58
  · rw [kf 59 (by omega) (by omega) (by omega)]; exact h59
  · rw [kf 60 (by omega) (by omega) (by omega)]; exact h60
  · rw [kf 61 (by omega) (by omega) (by omega)]; exact h61
  · rw [kf 62 (by omega) (by omega) (by omega)]; exact h62
  · rw [h1 _ (by omega)]; exact hfw i hi y hy
theorem m_weight (hG : mx_ok G) (hN : 63 ≤ N) (hV : IV Y U nE iE nD rA rS eA eS dA dS dW lc rn rg rN ps pN) (hR : RS G Y U nE iE nD rA rS eA eS dA dS dW lc rn rg rN ps pN th ce) {i y : Int} (i1 : -2147483648 ≤ i) (i2 : i < 2147483648) (y1 : -2147483648 ≤ y) (y2 : y < 2147483648)
    (q0 : ∀ ce', ¬ ((0 ≤ i ∧ i < nD) ∧ 0 ≤ y ∧ y < Y) → RS G Y U nE iE nD rA rS eA eS dA dS dW lc rn rg rN ps pN 1 ce' → (∀ k, k < 50 ∨ 63 ≤ k → ce' k = ce k) → Q (.inl (some (.int (iI 0)))) N ce' bc bs)
    (q2 : ∀ ce' (j m : Nat), i = j → y = m → j < nD → m < Y → RS G Y U nE iE nD rA rS eA eS dA dS dW lc rn rg rN ps pN 0 ce' → (∀ k, k < 50 ∨ 63 ≤ k → ce' k = ce k) → Q (.inl (some (.int (iI (dW j m))))) N ce' bc bs) : mx_M G Y_M_weight (d + 3) bc bs false N ce 0 [(0, .ref (mx_B G + 50)), (1, .int (iI i)), (2, .int (iI y))] [] Q := by
  obtain ⟨hY, hU, hE, hD, hrA, hrS, hEA, hES, hDA, hDS, hDz, hDW, hrN, hrn, hpN, hps⟩ := hV
  obtain ⟨rw, h50, hA⟩ := hR
  have join : ∀ b : Bool, (b = true ↔ ((0 ≤ i ∧ i < nD) ∧ 0 ≤ y ∧ y < Y)) → mx_M G Y_M_weight (d + 3) bc bs false N ce 22 [(0, .ref (mx_B G + 50)), (1, .int (iI i)), (2, .int (iI y))] [.int (iI (bI b)), .ref (mx_B G + 50)] Q := by
    intro b hb
    refine mx_iconst (n := 1) (mx_d D_M_weight 12 rfl) ?_
    refine mx_iconst (n := 1) (mx_d D_M_weight 13 rfl) ?_
    refine mx_callV hG (Y' := Y_M_goes) (ci := 7) [_, _, _] (mx_d D_M_weight 14 rfl) in_M_goes w_666 w_668 s_M_goes (by rfl) np_M_goes (by exact Nat.le_of_ble_eq_true rfl) (by rfl) (by first | assumption | omega) (by first | assumption | exact va_up_self _ _ _ | (rw [va_up_ne _ _ (by omega)]; first | assumption | exact va_up_self _ _ _ | (rw [va_up_ne _ _ (by omega)]; first | assumption | exact va_up_self _ _ _ | (rw [va_up_ne _ _ (by omega)]; first | assumption | exact va_up_self _ _ _ | (rw [va_up_ne _ _ (by omega)]; first | assumption | exact va_up_self _ _ _ | (rw [va_up_ne _ _ (by omega)]; first | assumption | exact va_up_self _ _ _)))))) (by rfl) (by exact Nat.le_of_ble_eq_true rfl) (m_goes hG hN h50 (b := true) (c := true) ?_)
    cases b with
    | false =>
      refine mx_if_eqY 44 (mx_d D_M_weight 15 rfl) (by decide) (by decide) (by decide) (by decide) ?_
      refine mx_iconst (n := 0) (mx_d D_M_weight 25 rfl) ?_
      refine mx_iret (by rfl) (mx_d D_M_weight 26 rfl) ?_
      exact q0 _ (fun z => absurd (hb.mpr z) (by decide)) (RS.thr hA) fr50
    | true =>
      have hb' := hb.mp rfl
      obtain ⟨j, rfl⟩ : ∃ j : Nat, i = j := ⟨i.toNat, by omega⟩
      obtain ⟨m, rfl⟩ : ∃ m : Nat, y = m := ⟨y.toNat, by omega⟩
      have hA0 := hA
      obtain ⟨fA, fS, fW, ch, tY, tA, tS, ⟨h51, h52, h53, h54, h55, h56, h57, h58, h59, h60, h61, h62⟩, hfe, hfw, hch⟩ := hA
      refine mx_if_eqN 44 (mx_d D_M_weight 15 rfl) (by decide) (by decide) (by decide) (by decide) ?_
      refine mx_aload_n (k4 := 0) (mx_d D_M_weight 16 rfl) (by rfl) ?_
      refine mx_getf hG (idx := 20) (ci := 7) (kf := 10) (mx_d D_M_weight 17 rfl) (by rfl) cls_M (by decide) w_591 (by first | assumption | omega) (by first | assumption | exact va_up_self _ _ _ | (rw [va_up_ne _ _ (by omega)]; first | assumption | exact va_up_self _ _ _ | (rw [va_up_ne _ _ (by omega)]; first | assumption | exact va_up_self _ _ _ | (rw [va_up_ne _ _ (by omega)]; first | assumption | exact va_up_self _ _ _ | (rw [va_up_ne _ _ (by omega)]; first | assumption | exact va_up_self _ _ _ | (rw [va_up_ne _ _ (by omega)]; first | assumption | exact va_up_self _ _ _)))))) (by rfl) ?_
      refine mx_bipush (n := 60) (mx_d D_M_weight 18 rfl) (by decide) ?_
      refine mx_iload_n (k4 := 1) (mx_d D_M_weight 19 rfl) (by rfl) ?_
      refine mx_imulI (mx_d D_M_weight 20 rfl) ?_
      refine mx_iload_n (k4 := 2) (mx_d D_M_weight 21 rfl) (by rfl) ?_
      refine mx_iaddI (mx_d D_M_weight 22 rfl) ?_
      refine mx_ialdI hG (60 * j + m) (mx_d D_M_weight 23 rfl) (by first | assumption | omega) (by first | assumption | exact va_up_self _ _ _ | (rw [va_up_ne _ _ (by omega)]; first | assumption | exact va_up_self _ _ _ | (rw [va_up_ne _ _ (by omega)]; first | assumption | exact va_up_self _ _ _ | (rw [va_up_ne _ _ (by omega)]; first | assumption | exact va_up_self _ _ _ | (rw [va_up_ne _ _ (by omega)]; first | assumption | exact va_up_self _ _ _ | (rw [va_up_ne _ _ (by omega)]; first | assumption | exact va_up_self _ _ _)))))) (by rfl) (by omega) (by omega) ?_
      rw [hfw j (by omega) m (by omega)]
      refine mx_goto 45 (mx_d D_M_weight 24 rfl) (by decide) ?_
      refine mx_iret (by rfl) (mx_d D_M_weight 26 rfl) ?_
      exact q2 _ j m rfl rfl (by omega) (by omega) (RS.thr hA0) fr50
  refine mx_aload_n (k4 := 0) (mx_d D_M_weight 0 rfl) (by rfl) ?_
  refine mx_aload_n (k4 := 0) (mx_d D_M_weight 1 rfl) (by rfl) ?_
  refine mx_iload_n (k4 := 1) (mx_d D_M_weight 2 rfl) (by rfl) ?_
  refine mx_callV hG (Y' := Y_M_isDate) (ci := 7) [_] (mx_d D_M_weight 3 rfl) in_M_isDate w_702 w_704 s_M_isDate (by rfl) np_M_isDate (by exact Nat.le_of_ble_eq_true rfl) (by rfl) (by first | assumption | omega) (by first | assumption | exact va_up_self _ _ _ | (rw [va_up_ne _ _ (by omega)]; first | assumption | exact va_up_self _ _ _ | (rw [va_up_ne _ _ (by omega)]; first | assumption | exact va_up_self _ _ _ | (rw [va_up_ne _ _ (by omega)]; first | assumption | exact va_up_self _ _ _ | (rw [va_up_ne _ _ (by omega)]; first | assumption | exact va_up_self _ _ _ | (rw [va_up_ne _ _ (by omega)]; first | assumption | exact va_up_self _ _ _)))))) (by rfl) (by exact Nat.le_of_ble_eq_true rfl) (m_isDate hG hN h50 hD i1 i2 ?_)
  cases ha : wiB i 0 ((nD : Int) - 1) with
  | false =>
    have ha' := wiB_f ha
    refine mx_if_eqY 21 (mx_d D_M_weight 4 rfl) (by decide) (by decide) (by decide) (by decide) ?_
    refine mx_iconst (n := 0) (mx_d D_M_weight 11 rfl) ?_
    exact join false ⟨fun z => absurd z (by decide), fun z => by omega⟩
  | true =>
    have ha' := wiB_t ha
    refine mx_if_eqN 21 (mx_d D_M_weight 4 rfl) (by decide) (by decide) (by decide) (by decide) ?_
    refine mx_aload_n (k4 := 0) (mx_d D_M_weight 5 rfl) (by rfl) ?_
    refine mx_iload_n (k4 := 2) (mx_d D_M_weight 6 rfl) (by rfl) ?_
    refine mx_callV hG (Y' := Y_M_isYear) (ci := 7) [_] (mx_d D_M_weight 7 rfl) in_M_isYear w_659 w_661 s_M_isYear (by rfl) np_M_isYear (by exact Nat.le_of_ble_eq_true rfl) (by rfl) (by first | assumption | omega) (by first | assumption | exact va_up_self _ _ _ | (rw [va_up_ne _ _ (by omega)]; first | assumption | exact va_up_self _ _ _ | (rw [va_up_ne _ _ (by omega)]; first | assumption | exact va_up_self _ _ _ | (rw [va_up_ne _ _ (by omega)]; first | assumption | exact va_up_self _ _ _ | (rw [va_up_ne _ _ (by omega)]; first | assumption | exact va_up_self _ _ _ | (rw [va_up_ne _ _ (by omega)]; first | assumption | exact va_up_self _ _ _)))))) (by rfl) (by exact Nat.le_of_ble_eq_true rfl) (m_isYear hG hN h50 hY.2 y1 y2 ?_)
    cases hs : wiB y 0 ((Y : Int) - 1) with
    | false =>
      have hs' := wiB_f hs
      refine mx_if_eqY 21 (mx_d D_M_weight 8 rfl) (by decide) (by decide) (by decide) (by decide) ?_
      refine mx_iconst (n := 0) (mx_d D_M_weight 11 rfl) ?_
      exact join false ⟨fun z => absurd z (by decide), fun z => by omega⟩
    | true =>
      have hs' := wiB_t hs
      refine mx_if_eqN 21 (mx_d D_M_weight 8 rfl) (by decide) (by decide) (by decide) (by decide) ?_
      refine mx_iconst (n := 1) (mx_d D_M_weight 9 rfl) ?_
      refine mx_goto 22 (mx_d D_M_weight 10 rfl) (by decide) ?_
      exact join true ⟨fun _ => ⟨by omega, by omega⟩, fun _ => rfl⟩
theorem m_total (hG : mx_ok G) (hN : 63 ≤ N) (hV : IV Y U nE iE nD rA rS eA eS dA dS dW lc rn rg rN ps pN) (hR : RS G Y U nE iE nD rA rS eA eS dA dS dW lc rn rg rN ps pN th ce) {i : Int} (i1 : -2147483648 ≤ i) (i2 : i < 2147483648)
    (q0 : ∀ ce', ¬ (0 ≤ i ∧ i < nD) → RS G Y U nE iE nD rA rS eA eS dA dS dW lc rn rg rN ps pN 1 ce' → (∀ k, k < 50 ∨ 63 ≤ k → ce' k = ce k) → Q (.inl (some (.int (iI 0)))) N ce' bc bs)
    (q2 : ∀ ce' (j : Nat), i = j → j < nD → RS G Y U nE iE nD rA rS eA eS dA dS dW lc rn rg rN ps pN 0 ce' → (∀ k, k < 50 ∨ 63 ≤ k → ce' k = ce k) → Q (.inl (some (.int (iI (sumTo (dW j) Y))))) N ce' bc bs) : mx_M G Y_M_total (d + 3) bc bs false N ce 0 [(0, .ref (mx_B G + 50)), (1, .int (iI i))] [] Q := by
  obtain ⟨hY, hU, hE, hD, hrA, hrS, hEA, hES, hDA, hDS, hDz, hDW, hrN, hrn, hpN, hps⟩ := hV
  obtain ⟨rw, h50, hA⟩ := hR
  refine mx_aload_n (k4 := 0) (mx_d D_M_total 0 rfl) (by rfl) ?_
  refine mx_aload_n (k4 := 0) (mx_d D_M_total 1 rfl) (by rfl) ?_
  refine mx_iload_n (k4 := 1) (mx_d D_M_total 2 rfl) (by rfl) ?_
  refine mx_callV hG (Y' := Y_M_isDate) (ci := 7) [_] (mx_d D_M_total 3 rfl) in_M_isDate w_702 w_704 s_M_isDate (by rfl) np_M_isDate (by exact Nat.le_of_ble_eq_true rfl) (by rfl) (by first | assumption | omega) (by first | assumption | exact va_up_self _ _ _ | (rw [va_up_ne _ _ (by omega)]; first | assumption | exact va_up_self _ _ _ | (rw [va_up_ne _ _ (by omega)]; first | assumption | exact va_up_self _ _ _ | (rw [va_up_ne _ _ (by omega)]; first | assumption | exact va_up_self _ _ _ | (rw [va_up_ne _ _ (by omega)]; first | assumption | exact va_up_self _ _ _ | (rw [va_up_ne _ _ (by omega)]; first | assumption | exact va_up_self _ _ _)))))) (by rfl) (by exact Nat.le_of_ble_eq_true rfl) (m_isDate hG hN h50 hD i1 i2 ?_)
  refine mx_iconst (n := 1) (mx_d D_M_total 4 rfl) ?_
  refine mx_iconst (n := 1) (mx_d D_M_total 5 rfl) ?_
  refine mx_callV hG (Y' := Y_M_goes) (ci := 7) [_, _, _] (mx_d D_M_total 6 rfl) in_M_goes w_666 w_668 s_M_goes (by rfl) np_M_goes (by exact Nat.le_of_ble_eq_true rfl) (by rfl) (by first | assumption | omega) (by first | assumption | exact va_up_self _ _ _ | (rw [va_up_ne _ _ (by omega)]; first | assumption | exact va_up_self _ _ _ | (rw [va_up_ne _ _ (by omega)]; first | assumption | exact va_up_self _ _ _ | (rw [va_up_ne _ _ (by omega)]; first | assumption | exact va_up_self _ _ _ | (rw [va_up_ne _ _ (by omega)]; first | assumption | exact va_up_self _ _ _ | (rw [va_up_ne _ _ (by omega)]; first | assumption | exact va_up_self _ _ _)))))) (by rfl) (by exact Nat.le_of_ble_eq_true rfl) (m_goes hG hN h50 (b := true) (c := true) ?_)
  cases ha : wiB i 0 ((nD : Int) - 1) with
  | false =>
    have ha' := wiB_f ha
    refine mx_if_eqY 22 (mx_d D_M_total 7 rfl) (by decide) (by decide) (by decide) (by decide) ?_
    refine mx_iconst (n := 0) (mx_d D_M_total 12 rfl) ?_
    refine mx_iret (by rfl) (mx_d D_M_total 13 rfl) ?_
    exact q0 _ (by omega) (RS.thr hA) fr50
  | true =>
    have ha' := wiB_t ha
    obtain ⟨j, rfl⟩ : ∃ j : Nat, i = j := ⟨i.toNat, by omega⟩
    have hA0 := hA
    obtain ⟨fA, fS, fW, ch, tY, tA, tS, ⟨h51, h52, h53, h54, h55, h56, h57, h58, h59, h60, h61, h62⟩, hfe, hfw, hch⟩ := hA
    refine mx_if_eqN 22 (mx_d D_M_total 7 rfl) (by decide) (by decide) (by decide) (by decide) ?_
    refine mx_aload_n (k4 := 0) (mx_d D_M_total 8 rfl) (by rfl) ?_
    refine mx_iload_n (k4 := 1) (mx_d D_M_total 9 rfl) (by rfl) ?_
    refine mx_callV hG (Y' := Y_M_totalOf) (ci := 7) [_] (mx_d D_M_total 10 rfl) in_M_totalOf w_710 w_712 s_M_totalOf (by rfl) np_M_totalOf (by exact Nat.le_of_ble_eq_true rfl) (by rfl) (by first | assumption | omega) (by first | assumption | exact va_up_self _ _ _ | (rw [va_up_ne _ _ (by omega)]; first | assumption | exact va_up_self _ _ _ | (rw [va_up_ne _ _ (by omega)]; first | assumption | exact va_up_self _ _ _ | (rw [va_up_ne _ _ (by omega)]; first | assumption | exact va_up_self _ _ _ | (rw [va_up_ne _ _ (by omega)]; first | assumption | exact va_up_self _ _ _ | (rw [va_up_ne _ _ (by omega)]; first | assumption | exact va_up_self _ _ _)))))) (by rfl) (by exact Nat.le_of_ble_eq_true rfl) (m_totalOf hG hN (va_up_self _ _ _) ((va_up_ne _ _ (by omega)).trans h53) hY.2 (i := j) (by omega) (hfw j (by omega)) ?_)
    refine mx_goto 23 (mx_d D_M_total 11 rfl) (by decide) ?_
    refine mx_iret (by rfl) (mx_d D_M_total 13 rfl) ?_
    exact q2 _ j rfl (by omega) (RS.thr hA0) fr50
theorem m_sum (hG : mx_ok G) (hN : 63 ≤ N) (hV : IV Y U nE iE nD rA rS eA eS dA dS dW lc rn rg rN ps pN) (hR : RS G Y U nE iE nD rA rS eA eS dA dS dW lc rn rg rN ps pN th ce) {a b : Int} (a1 : -2147483648 ≤ a) (a2 : a < 2147483648) (b1 : -2147483648 ≤ b) (b2 : b < 2147483648)
    (q0 : ∀ ce', ¬ ((0 ≤ a ∧ a < nD) ∧ 0 ≤ b ∧ b < nD) → RS G Y U nE iE nD rA rS eA eS dA dS dW lc rn rg rN ps pN 1 ce' → (∀ k, k < 50 ∨ 63 ≤ k → ce' k = ce k) → Q (.inl (some (.int (iI 0)))) N ce' bc bs)
    (q1 : ∀ ce', ((0 ≤ a ∧ a < nD) ∧ 0 ≤ b ∧ b < nD) → ¬ nD < 12 → RS G Y U nE iE nD rA rS eA eS dA dS dW lc rn rg rN ps pN 2 ce' → (∀ k, k < 50 ∨ 63 ≤ k → ce' k = ce k) → Q (.inl (some (.int (iI 0)))) N ce' bc bs)
    (q2 : ∀ ce' (i j : Nat), a = i → b = j → i < nD → j < nD → nD < 12 → ¬ (∀ y, y < Y → dW i y + dW j y ≤ 1000000) → RS G Y U nE iE nD rA rS eA eS dA dS dW lc rn rg rN ps pN 0 ce' → (∀ k, k < 50 ∨ 63 ≤ k → ce' k = ce k) → Q (.inl (some (.int (iI (-1))))) N ce' bc bs)
    (q3 : ∀ ce' (i j : Nat), a = i → b = j → i < nD → j < nD → nD < 12 → (∀ y, y < Y → dW i y + dW j y ≤ 1000000) → (∀ h : Nat → Int, (∀ y, y < Y → h y = dW i y + dW j y) → RS G Y U nE iE (nD + 1) rA rS eA eS (va_up dA nD 0) (va_up dS nD 0) (va_up dW nD h) lc rn rg rN ps pN 0 ce') → (∀ k, k < 50 ∨ 63 ≤ k → ce' k = ce k) → Q (.inl (some (.int (iI (nD : Nat))))) N ce' bc bs) : mx_M G Y_M_sum (d + 3) bc bs false N ce 0 [(0, .ref (mx_B G + 50)), (1, .int (iI a)), (2, .int (iI b))] [] Q := by
  have hV0 := hV
  obtain ⟨hY, hU, hE, hD, hrA, hrS, hEA, hES, hDA, hDS, hDz, hDW, hrN, hrn, hpN, hps⟩ := hV
  obtain ⟨rw, h50, hA⟩ := hR
  have body : ∀ (i j : Nat), a = i → b = j → i < nD → j < nD → nD < 12 → mx_M G Y_M_sum (d + 3) bc bs false N (va_up ce 50 (rs0 G 0 Y U nE iE nD rA rS rN pN rw)) 45 [(0, .ref (mx_B G + 50)), (1, .int (iI a)), (2, .int (iI b))] [] Q := by
    intro i j ha hb hi hj hn
    subst ha; subst hb
    obtain ⟨fW, hB⟩ := hA.b
    have hB0 := hB
    obtain ⟨fA, fS, ch, tY, tA, tS, ⟨h51, h52, h53, h54, h55, h56, h57, h58, h59, h60, h61, h62⟩, hfe, hfw, hch⟩ := hB
    refine mx_iconst (n := 1) (mx_d D_M_sum 24 rfl) ?_
    refine mx_istore_n (k4 := 3) (mx_d D_M_sum 25 rfl) (by decide) ?_
    refine mx_iconst (n := 0) (mx_d D_M_sum 26 rfl) ?_
    refine mx_istore (i := 4) (mx_d D_M_sum 27 rfl) (by decide) ?_
    suffices H : ∀ (k y : Nat) (f' : Nat → Int) (g : Bool), y + k = Y → (∀ k, k < 60 * nD → f' k = fW k) → (∀ z, z < y → f' (60 * nD + z) = dW i z + dW j z) → (g = true ↔ ∀ z, z < y → dW i z + dW j z ≤ 1000000) → mx_M G Y_M_sum (d + 3) bc bs false N (va_up (va_up ce 50 (rs0 G 0 Y U nE iE nD rA rS rN pN rw)) 53 (aI G 720 f')) 50 [(0, .ref (mx_B G + 50)), (1, .int (iI i)), (2, .int (iI j)), (3, .int (iI (bI g))), (4, .int (iI y))] [] Q by
      have H0 := H Y 0 fW true (by omega) (fun _ _ => rfl) (fun z hz => absurd hz (by omega)) ⟨fun _ z hz => absurd hz (by omega), fun _ => rfl⟩
      rw [va_up_id (va_up ce 50 (rs0 G 0 Y U nE iE nD rA rS rN pN rw)) 53 ((va_up_ne _ _ (by omega)).trans h53)] at H0
      exact mx_loc (by rfl) H0
    intro k
    induction k with
    | zero =>
      intro y f' g hy g1 g2 g3
      obtain rfl : y = Y := by omega
      refine mx_iload (i := 4) (mx_d D_M_sum 28 rfl) (by rfl) ?_
      refine mx_aload_n (k4 := 0) (mx_d D_M_sum 29 rfl) (by rfl) ?_
      refine mx_getf hG (idx := 51) (ci := 7) (kf := 1) (mx_d D_M_sum 30 rfl) (by rfl) cls_M (by decide) w_582 (by first | assumption | omega) (by first | assumption | exact va_up_self _ _ _ | (rw [va_up_ne _ _ (by omega)]; first | assumption | exact va_up_self _ _ _ | (rw [va_up_ne _ _ (by omega)]; first | assumption | exact va_up_self _ _ _ | (rw [va_up_ne _ _ (by omega)]; first | assumption | exact va_up_self _ _ _ | (rw [va_up_ne _ _ (by omega)]; first | assumption | exact va_up_self _ _ _ | (rw [va_up_ne _ _ (by omega)]; first | assumption | exact va_up_self _ _ _)))))) (by rfl) ?_
      refine mx_icmp_geY 135 (mx_d D_M_sum 31 rfl) (by decide) (by omega) (by omega) (by omega) (by omega) (by omega) ?_
      refine mx_iload_n (k4 := 3) (mx_d D_M_sum 77 rfl) (by rfl) ?_
      cases g with
      | false =>
        refine mx_if_neN 141 (mx_d D_M_sum 78 rfl) (by decide) (by decide) (by decide) (by decide) ?_
        refine mx_iconst (n := -1) (mx_d D_M_sum 79 rfl) ?_
        refine mx_iret (by rfl) (mx_d D_M_sum 80 rfl) ?_
        exact q2 _ i j rfl rfl hi hj hn (fun z => absurd (g3.mpr z) (by decide)) ⟨rw, (va_up_ne _ _ (by omega)).trans (va_up_self _ _ _), hB0.junk hY.2 (va_up_self _ _ _) (fun k _ _ h => by rw [va_up_ne _ _ h, va_up_ne _ _ (by omega)]) g1⟩ (fun k hk => by rw [va_up_ne _ _ (by omega), va_up_ne _ _ (by omega)])
      | true =>
        refine mx_if_neY 141 (mx_d D_M_sum 78 rfl) (by decide) (by decide) (by decide) (by decide) ?_
        refine mx_aload_n (k4 := 0) (mx_d D_M_sum 81 rfl) (by rfl) ?_
        refine mx_getf hG (idx := 26) (ci := 7) (kf := 12) (mx_d D_M_sum 82 rfl) (by rfl) cls_M (by decide) w_593 (by first | assumption | omega) (by first | assumption | exact va_up_self _ _ _ | (rw [va_up_ne _ _ (by omega)]; first | assumption | exact va_up_self _ _ _ | (rw [va_up_ne _ _ (by omega)]; first | assumption | exact va_up_self _ _ _ | (rw [va_up_ne _ _ (by omega)]; first | assumption | exact va_up_self _ _ _ | (rw [va_up_ne _ _ (by omega)]; first | assumption | exact va_up_self _ _ _ | (rw [va_up_ne _ _ (by omega)]; first | assumption | exact va_up_self _ _ _)))))) (by rfl) ?_
        refine mx_aload_n (k4 := 0) (mx_d D_M_sum 83 rfl) (by rfl) ?_
        refine mx_getf hG (idx := 65) (ci := 7) (kf := 9) (mx_d D_M_sum 84 rfl) (by rfl) cls_M (by decide) w_590 (by first | assumption | omega) (by first | assumption | exact va_up_self _ _ _ | (rw [va_up_ne _ _ (by omega)]; first | assumption | exact va_up_self _ _ _ | (rw [va_up_ne _ _ (by omega)]; first | assumption | exact va_up_self _ _ _ | (rw [va_up_ne _ _ (by omega)]; first | assumption | exact va_up_self _ _ _ | (rw [va_up_ne _ _ (by omega)]; first | assumption | exact va_up_self _ _ _ | (rw [va_up_ne _ _ (by omega)]; first | assumption | exact va_up_self _ _ _)))))) (by rfl) ?_
        refine mx_iconst (n := 0) (mx_d D_M_sum 85 rfl) ?_
        refine mx_iastI hG _ _ (mx_d D_M_sum 86 rfl) (by first | assumption | omega) (by first | assumption | exact va_up_self _ _ _ | (rw [va_up_ne _ _ (by omega)]; first | assumption | exact va_up_self _ _ _ | (rw [va_up_ne _ _ (by omega)]; first | assumption | exact va_up_self _ _ _ | (rw [va_up_ne _ _ (by omega)]; first | assumption | exact va_up_self _ _ _ | (rw [va_up_ne _ _ (by omega)]; first | assumption | exact va_up_self _ _ _ | (rw [va_up_ne _ _ (by omega)]; first | assumption | exact va_up_self _ _ _)))))) (by rfl) (by rfl) (by omega) (by omega) ?_
        refine mx_aload_n (k4 := 0) (mx_d D_M_sum 87 rfl) (by rfl) ?_
        refine mx_dup (mx_d D_M_sum 88 rfl) (by rfl) ?_
        refine mx_getf hG (idx := 65) (ci := 7) (kf := 9) (mx_d D_M_sum 89 rfl) (by rfl) cls_M (by decide) w_590 (by first | assumption | omega) (by first | assumption | exact va_up_self _ _ _ | (rw [va_up_ne _ _ (by omega)]; first | assumption | exact va_up_self _ _ _ | (rw [va_up_ne _ _ (by omega)]; first | assumption | exact va_up_self _ _ _ | (rw [va_up_ne _ _ (by omega)]; first | assumption | exact va_up_self _ _ _ | (rw [va_up_ne _ _ (by omega)]; first | assumption | exact va_up_self _ _ _ | (rw [va_up_ne _ _ (by omega)]; first | assumption | exact va_up_self _ _ _)))))) (by rfl) ?_
        refine mx_iconst (n := 1) (mx_d D_M_sum 90 rfl) ?_
        refine mx_iaddI (mx_d D_M_sum 91 rfl) ?_
        refine mx_putf hG (idx := 65) (ci := 7) (kf := 9) (t := (.int)) (mx_d D_M_sum 92 rfl) (by rfl) cls_M (by decide) (Or.inl rfl) w_590 (by first | assumption | omega) (by first | assumption | exact va_up_self _ _ _ | (rw [va_up_ne _ _ (by omega)]; first | assumption | exact va_up_self _ _ _ | (rw [va_up_ne _ _ (by omega)]; first | assumption | exact va_up_self _ _ _ | (rw [va_up_ne _ _ (by omega)]; first | assumption | exact va_up_self _ _ _ | (rw [va_up_ne _ _ (by omega)]; first | assumption | exact va_up_self _ _ _ | (rw [va_up_ne _ _ (by omega)]; first | assumption | exact va_up_self _ _ _)))))) (by exact Nat.le_of_ble_eq_true rfl) (by decide +kernel) (by rfl) (by rfl) ?_
        refine mx_aload_n (k4 := 0) (mx_d D_M_sum 93 rfl) (by rfl) ?_
        refine mx_getf hG (idx := 65) (ci := 7) (kf := 9) (mx_d D_M_sum 94 rfl) (by rfl) cls_M (by decide) w_590 (by first | assumption | omega) (by first | assumption | exact va_up_self _ _ _ | (rw [va_up_ne _ _ (by omega)]; first | assumption | exact va_up_self _ _ _ | (rw [va_up_ne _ _ (by omega)]; first | assumption | exact va_up_self _ _ _ | (rw [va_up_ne _ _ (by omega)]; first | assumption | exact va_up_self _ _ _ | (rw [va_up_ne _ _ (by omega)]; first | assumption | exact va_up_self _ _ _ | (rw [va_up_ne _ _ (by omega)]; first | assumption | exact va_up_self _ _ _)))))) (by rfl) ?_
        refine mx_iconst (n := 1) (mx_d D_M_sum 95 rfl) ?_
        refine mx_isubI (mx_d D_M_sum 96 rfl) ?_
        refine mx_iret (by rfl) (mx_d D_M_sum 97 rfl) ?_
        rw [show ((nD : Int) + 1 - 1) = (nD : Int) from by omega]
        exact q3 _ i j rfl rfl hi hj hn (g3.mp rfl) (fun h hh => ⟨rw, va_up_self _ _ _, hB0.more hV0 hn ((va_up_ne _ _ (by omega)).trans ((va_up_ne _ _ (by omega)).trans (va_up_self _ _ _))) ((va_up_ne _ _ (by omega)).trans (va_up_self _ _ _)) (fun k _ _ z1 z2 => by rw [va_up_ne _ _ (by omega), va_up_ne _ _ z2, va_up_ne _ _ z1, va_up_ne _ _ (by omega)]) g1 (fun z hz => (g2 z hz).trans (hh z hz).symm)⟩) (fun k hk => by rw [va_up_ne _ _ (by omega), va_up_ne _ _ (by omega), va_up_ne _ _ (by omega), va_up_ne _ _ (by omega)])
    | succ k ih =>
      intro y f' g hy g1 g2 g3
      have x1 := hDW i (by omega) y (by omega)
      have x2 := hDW j (by omega) y (by omega)
      have v1 : f' (60 * i + y) = dW i y := (g1 _ (by omega)).trans (hfw i hi y (by omega))
      have v2 : f' (60 * j + y) = dW j y := (g1 _ (by omega)).trans (hfw j hj y (by omega))
      have next : ∀ (g' : Bool) (u : Int), (g' = true ↔ ∀ z, z < y + 1 → dW i z + dW j z ≤ 1000000) → mx_M G Y_M_sum (d + 3) bc bs false N (va_up (va_up ce 50 (rs0 G 0 Y U nE iE nD rA rS rN pN rw)) 53 (aI G 720 (va_up f' (60 * nD + y) (dW i y + dW j y)))) 128 [(0, .ref (mx_B G + 50)), (1, .int (iI i)), (2, .int (iI j)), (3, .int (iI u)), (4, .int (iI y))] [.int (iI (bI g'))] Q := by
        intro g' u hg'
        refine mx_istore_n (k4 := 3) (mx_d D_M_sum 74 rfl) (by decide) ?_
        refine mx_iincI (i := 4) (n := 1) (mx_d D_M_sum 75 rfl) (by rfl) (by decide) ?_
        refine mx_goto 50 (mx_d D_M_sum 76 rfl) (by decide) ?_
        refine mx_loc (by rfl) (ih (y + 1) _ g' (by omega) (fun k hk => ?_) (fun z hz => ?_) hg')
        · rw [va_up_ne _ _ (by omega)]; exact g1 k hk
        · by_cases e : z = y
          · subst e; rw [va_up_self]
          · rw [va_up_ne _ _ (by omega)]; exact g2 z (by omega)
      refine mx_iload (i := 4) (mx_d D_M_sum 28 rfl) (by rfl) ?_
      refine mx_aload_n (k4 := 0) (mx_d D_M_sum 29 rfl) (by rfl) ?_
      refine mx_getf hG (idx := 51) (ci := 7) (kf := 1) (mx_d D_M_sum 30 rfl) (by rfl) cls_M (by decide) w_582 (by first | assumption | omega) (by first | assumption | exact va_up_self _ _ _ | (rw [va_up_ne _ _ (by omega)]; first | assumption | exact va_up_self _ _ _ | (rw [va_up_ne _ _ (by omega)]; first | assumption | exact va_up_self _ _ _ | (rw [va_up_ne _ _ (by omega)]; first | assumption | exact va_up_self _ _ _ | (rw [va_up_ne _ _ (by omega)]; first | assumption | exact va_up_self _ _ _ | (rw [va_up_ne _ _ (by omega)]; first | assumption | exact va_up_self _ _ _)))))) (by rfl) ?_
      refine mx_icmp_geN 135 (mx_d D_M_sum 31 rfl) (by decide) (by omega) (by omega) (by omega) (by omega) (by omega) ?_
      refine mx_aload_n (k4 := 0) (mx_d D_M_sum 32 rfl) (by rfl) ?_
      refine mx_getf hG (idx := 20) (ci := 7) (kf := 10) (mx_d D_M_sum 33 rfl) (by rfl) cls_M (by decide) w_591 (by first | assumption | omega) (by first | assumption | exact va_up_self _ _ _ | (rw [va_up_ne _ _ (by omega)]; first | assumption | exact va_up_self _ _ _ | (rw [va_up_ne _ _ (by omega)]; first | assumption | exact va_up_self _ _ _ | (rw [va_up_ne _ _ (by omega)]; first | assumption | exact va_up_self _ _ _ | (rw [va_up_ne _ _ (by omega)]; first | assumption | exact va_up_self _ _ _ | (rw [va_up_ne _ _ (by omega)]; first | assumption | exact va_up_self _ _ _)))))) (by rfl) ?_
      refine mx_bipush (n := 60) (mx_d D_M_sum 34 rfl) (by decide) ?_
      refine mx_aload_n (k4 := 0) (mx_d D_M_sum 35 rfl) (by rfl) ?_
      refine mx_getf hG (idx := 65) (ci := 7) (kf := 9) (mx_d D_M_sum 36 rfl) (by rfl) cls_M (by decide) w_590 (by first | assumption | omega) (by first | assumption | exact va_up_self _ _ _ | (rw [va_up_ne _ _ (by omega)]; first | assumption | exact va_up_self _ _ _ | (rw [va_up_ne _ _ (by omega)]; first | assumption | exact va_up_self _ _ _ | (rw [va_up_ne _ _ (by omega)]; first | assumption | exact va_up_self _ _ _ | (rw [va_up_ne _ _ (by omega)]; first | assumption | exact va_up_self _ _ _ | (rw [va_up_ne _ _ (by omega)]; first | assumption | exact va_up_self _ _ _)))))) (by rfl) ?_
      refine mx_imulI (mx_d D_M_sum 37 rfl) ?_
      refine mx_iload (i := 4) (mx_d D_M_sum 38 rfl) (by rfl) ?_
      refine mx_iaddI (mx_d D_M_sum 39 rfl) ?_
      refine mx_aload_n (k4 := 0) (mx_d D_M_sum 40 rfl) (by rfl) ?_
      refine mx_getf hG (idx := 20) (ci := 7) (kf := 10) (mx_d D_M_sum 41 rfl) (by rfl) cls_M (by decide) w_591 (by first | assumption | omega) (by first | assumption | exact va_up_self _ _ _ | (rw [va_up_ne _ _ (by omega)]; first | assumption | exact va_up_self _ _ _ | (rw [va_up_ne _ _ (by omega)]; first | assumption | exact va_up_self _ _ _ | (rw [va_up_ne _ _ (by omega)]; first | assumption | exact va_up_self _ _ _ | (rw [va_up_ne _ _ (by omega)]; first | assumption | exact va_up_self _ _ _ | (rw [va_up_ne _ _ (by omega)]; first | assumption | exact va_up_self _ _ _)))))) (by rfl) ?_
      refine mx_bipush (n := 60) (mx_d D_M_sum 42 rfl) (by decide) ?_
      refine mx_iload_n (k4 := 1) (mx_d D_M_sum 43 rfl) (by rfl) ?_
      refine mx_imulI (mx_d D_M_sum 44 rfl) ?_
      refine mx_iload (i := 4) (mx_d D_M_sum 45 rfl) (by rfl) ?_
      refine mx_iaddI (mx_d D_M_sum 46 rfl) ?_
      refine mx_ialdI hG (60 * i + y) (mx_d D_M_sum 47 rfl) (by first | assumption | omega) (by first | assumption | exact va_up_self _ _ _ | (rw [va_up_ne _ _ (by omega)]; first | assumption | exact va_up_self _ _ _ | (rw [va_up_ne _ _ (by omega)]; first | assumption | exact va_up_self _ _ _ | (rw [va_up_ne _ _ (by omega)]; first | assumption | exact va_up_self _ _ _ | (rw [va_up_ne _ _ (by omega)]; first | assumption | exact va_up_self _ _ _ | (rw [va_up_ne _ _ (by omega)]; first | assumption | exact va_up_self _ _ _)))))) (by rfl) (by omega) (by omega) ?_
      rw [v1]
      refine mx_aload_n (k4 := 0) (mx_d D_M_sum 48 rfl) (by rfl) ?_
      refine mx_getf hG (idx := 20) (ci := 7) (kf := 10) (mx_d D_M_sum 49 rfl) (by rfl) cls_M (by decide) w_591 (by first | assumption | omega) (by first | assumption | exact va_up_self _ _ _ | (rw [va_up_ne _ _ (by omega)]; first | assumption | exact va_up_self _ _ _ | (rw [va_up_ne _ _ (by omega)]; first | assumption | exact va_up_self _ _ _ | (rw [va_up_ne _ _ (by omega)]; first | assumption | exact va_up_self _ _ _ | (rw [va_up_ne _ _ (by omega)]; first | assumption | exact va_up_self _ _ _ | (rw [va_up_ne _ _ (by omega)]; first | assumption | exact va_up_self _ _ _)))))) (by rfl) ?_
      refine mx_bipush (n := 60) (mx_d D_M_sum 50 rfl) (by decide) ?_
      refine mx_iload_n (k4 := 2) (mx_d D_M_sum 51 rfl) (by rfl) ?_
      refine mx_imulI (mx_d D_M_sum 52 rfl) ?_
      refine mx_iload (i := 4) (mx_d D_M_sum 53 rfl) (by rfl) ?_
      refine mx_iaddI (mx_d D_M_sum 54 rfl) ?_
      refine mx_ialdI hG (60 * j + y) (mx_d D_M_sum 55 rfl) (by first | assumption | omega) (by first | assumption | exact va_up_self _ _ _ | (rw [va_up_ne _ _ (by omega)]; first | assumption | exact va_up_self _ _ _ | (rw [va_up_ne _ _ (by omega)]; first | assumption | exact va_up_self _ _ _ | (rw [va_up_ne _ _ (by omega)]; first | assumption | exact va_up_self _ _ _ | (rw [va_up_ne _ _ (by omega)]; first | assumption | exact va_up_self _ _ _ | (rw [va_up_ne _ _ (by omega)]; first | assumption | exact va_up_self _ _ _)))))) (by rfl) (by omega) (by omega) ?_
      rw [v2]
      refine mx_iaddI (mx_d D_M_sum 56 rfl) ?_
      refine mx_iastI hG (60 * nD + y) _ (mx_d D_M_sum 57 rfl) (by first | assumption | omega) (by first | assumption | exact va_up_self _ _ _ | (rw [va_up_ne _ _ (by omega)]; first | assumption | exact va_up_self _ _ _ | (rw [va_up_ne _ _ (by omega)]; first | assumption | exact va_up_self _ _ _ | (rw [va_up_ne _ _ (by omega)]; first | assumption | exact va_up_self _ _ _ | (rw [va_up_ne _ _ (by omega)]; first | assumption | exact va_up_self _ _ _ | (rw [va_up_ne _ _ (by omega)]; first | assumption | exact va_up_self _ _ _)))))) (by rfl) (by rfl) (by omega) (by omega) ?_
      rw [bx_uu]
      refine mx_iload_n (k4 := 3) (mx_d D_M_sum 58 rfl) (by rfl) ?_
      cases g with
      | false =>
        refine mx_if_eqY 127 (mx_d D_M_sum 59 rfl) (by decide) (by decide) (by decide) (by decide) ?_
        refine mx_iconst (n := 0) (mx_d D_M_sum 73 rfl) ?_
        refine mx_loc (by rfl) (next false 0 ⟨fun z => absurd z (by decide), fun z => ?_⟩)
        exact absurd (g3.mpr (fun w hw => z w (by omega))) (by decide)
      | true =>
        refine mx_if_eqN 127 (mx_d D_M_sum 59 rfl) (by decide) (by decide) (by decide) (by decide) ?_
        refine mx_aload_n (k4 := 0) (mx_d D_M_sum 60 rfl) (by rfl) ?_
        refine mx_getf hG (idx := 20) (ci := 7) (kf := 10) (mx_d D_M_sum 61 rfl) (by rfl) cls_M (by decide) w_591 (by first | assumption | omega) (by first | assumption | exact va_up_self _ _ _ | (rw [va_up_ne _ _ (by omega)]; first | assumption | exact va_up_self _ _ _ | (rw [va_up_ne _ _ (by omega)]; first | assumption | exact va_up_self _ _ _ | (rw [va_up_ne _ _ (by omega)]; first | assumption | exact va_up_self _ _ _ | (rw [va_up_ne _ _ (by omega)]; first | assumption | exact va_up_self _ _ _ | (rw [va_up_ne _ _ (by omega)]; first | assumption | exact va_up_self _ _ _)))))) (by rfl) ?_
        refine mx_bipush (n := 60) (mx_d D_M_sum 62 rfl) (by decide) ?_
        refine mx_aload_n (k4 := 0) (mx_d D_M_sum 63 rfl) (by rfl) ?_
        refine mx_getf hG (idx := 65) (ci := 7) (kf := 9) (mx_d D_M_sum 64 rfl) (by rfl) cls_M (by decide) w_590 (by first | assumption | omega) (by first | assumption | exact va_up_self _ _ _ | (rw [va_up_ne _ _ (by omega)]; first | assumption | exact va_up_self _ _ _ | (rw [va_up_ne _ _ (by omega)]; first | assumption | exact va_up_self _ _ _ | (rw [va_up_ne _ _ (by omega)]; first | assumption | exact va_up_self _ _ _ | (rw [va_up_ne _ _ (by omega)]; first | assumption | exact va_up_self _ _ _ | (rw [va_up_ne _ _ (by omega)]; first | assumption | exact va_up_self _ _ _)))))) (by rfl) ?_
        refine mx_imulI (mx_d D_M_sum 65 rfl) ?_
        refine mx_iload (i := 4) (mx_d D_M_sum 66 rfl) (by rfl) ?_
        refine mx_iaddI (mx_d D_M_sum 67 rfl) ?_
        refine mx_ialdI hG (60 * nD + y) (mx_d D_M_sum 68 rfl) (by first | assumption | omega) (by first | assumption | exact va_up_self _ _ _ | (rw [va_up_ne _ _ (by omega)]; first | assumption | exact va_up_self _ _ _ | (rw [va_up_ne _ _ (by omega)]; first | assumption | exact va_up_self _ _ _ | (rw [va_up_ne _ _ (by omega)]; first | assumption | exact va_up_self _ _ _ | (rw [va_up_ne _ _ (by omega)]; first | assumption | exact va_up_self _ _ _ | (rw [va_up_ne _ _ (by omega)]; first | assumption | exact va_up_self _ _ _)))))) (by rfl) (by omega) (by omega) ?_
        rw [va_up_self]
        refine mx_ldcI (v := 1000000) (z := 1000000) (mx_d D_M_sum 69 rfl) w_718 (by decide) ?_
        by_cases hc : dW i y + dW j y ≤ 1000000
        · refine mx_icmp_gtN 127 (mx_d D_M_sum 70 rfl) (by decide) (by omega) (by omega) (by omega) (by omega) (by omega) ?_
          refine mx_iconst (n := 1) (mx_d D_M_sum 71 rfl) ?_
          refine mx_goto 128 (mx_d D_M_sum 72 rfl) (by decide) ?_
          refine mx_loc (by rfl) (next true 1 ⟨fun _ z hz => ?_, fun _ => rfl⟩)
          by_cases e : z = y
          · subst e; exact hc
          · exact g3.mp rfl z (by omega)
        · refine mx_icmp_gtY 127 (mx_d D_M_sum 70 rfl) (by decide) (by omega) (by omega) (by omega) (by omega) (by omega) ?_
          refine mx_iconst (n := 0) (mx_d D_M_sum 73 rfl) ?_
          exact mx_loc (by rfl) (next false 1 ⟨fun z => absurd z (by decide), fun z => absurd (z y (by omega)) hc⟩)
  have both : ∀ b9 : Bool, (b9 = true ↔ ((0 ≤ a ∧ a < nD) ∧ 0 ≤ b ∧ b < nD)) → mx_M G Y_M_sum (d + 3) bc bs false N ce 22 [(0, .ref (mx_B G + 50)), (1, .int (iI a)), (2, .int (iI b))] [.int (iI (bI b9)), .ref (mx_B G + 50)] Q := by
    intro b9 hb9
    have join2 : ∀ b2 : Bool, (b2 = true ↔ nD < 12) → mx_M G Y_M_sum (d + 3) bc bs false N ce 36 [(0, .ref (mx_B G + 50)), (1, .int (iI a)), (2, .int (iI b))] [.int (iI (bI b2)), .int (iI (bI b9)), .ref (mx_B G + 50)] Q := by
      intro b2 hb2
      refine mx_iconst (n := 1) (mx_d D_M_sum 19 rfl) ?_
      refine mx_callV hG (Y' := Y_M_goes) (ci := 7) [_, _, _] (mx_d D_M_sum 20 rfl) in_M_goes w_666 w_668 s_M_goes (by rfl) np_M_goes (by exact Nat.le_of_ble_eq_true rfl) (by rfl) (by first | assumption | omega) (by first | assumption | exact va_up_self _ _ _ | (rw [va_up_ne _ _ (by omega)]; first | assumption | exact va_up_self _ _ _ | (rw [va_up_ne _ _ (by omega)]; first | assumption | exact va_up_self _ _ _ | (rw [va_up_ne _ _ (by omega)]; first | assumption | exact va_up_self _ _ _ | (rw [va_up_ne _ _ (by omega)]; first | assumption | exact va_up_self _ _ _ | (rw [va_up_ne _ _ (by omega)]; first | assumption | exact va_up_self _ _ _)))))) (by rfl) (by exact Nat.le_of_ble_eq_true rfl) (m_goes hG hN h50 (c := true) ?_)
      cases b9 with
      | false =>
        refine mx_if_neN 45 (mx_d D_M_sum 21 rfl) (by decide) (by cases b2 <;> decide) (by cases b2 <;> decide) (by cases b2 <;> decide) ?_
        refine mx_iconst (n := 0) (mx_d D_M_sum 22 rfl) ?_
        refine mx_iret (by rfl) (mx_d D_M_sum 23 rfl) ?_
        exact q0 _ (fun z => absurd (hb9.mpr z) (by decide)) (RS.thr hA) fr50
      | true =>
        have hb' := hb9.mp rfl
        cases b2 with
        | false =>
          refine mx_if_neN 45 (mx_d D_M_sum 21 rfl) (by decide) (by decide) (by decide) (by decide) ?_
          refine mx_iconst (n := 0) (mx_d D_M_sum 22 rfl) ?_
          refine mx_iret (by rfl) (mx_d D_M_sum 23 rfl) ?_
          exact q1 _ hb' (fun z => absurd (hb2.mpr z) (by decide)) (RS.thr hA) fr50
        | true =>
          refine mx_if_neY 45 (mx_d D_M_sum 21 rfl) (by decide) (by decide) (by decide) (by decide) ?_
          exact body a.toNat b.toNat (by omega) (by omega) (by omega) (by omega) (hb2.mp rfl)
    refine mx_aload_n (k4 := 0) (mx_d D_M_sum 12 rfl) (by rfl) ?_
    refine mx_getf hG (idx := 65) (ci := 7) (kf := 9) (mx_d D_M_sum 13 rfl) (by rfl) cls_M (by decide) w_590 (by first | assumption | omega) (by first | assumption | exact va_up_self _ _ _ | (rw [va_up_ne _ _ (by omega)]; first | assumption | exact va_up_self _ _ _ | (rw [va_up_ne _ _ (by omega)]; first | assumption | exact va_up_self _ _ _ | (rw [va_up_ne _ _ (by omega)]; first | assumption | exact va_up_self _ _ _ | (rw [va_up_ne _ _ (by omega)]; first | assumption | exact va_up_self _ _ _ | (rw [va_up_ne _ _ (by omega)]; first | assumption | exact va_up_self _ _ _)))))) (by rfl) ?_
    refine mx_bipush (n := 12) (mx_d D_M_sum 14 rfl) (by decide) ?_
    by_cases hc : nD < 12
    · refine mx_icmp_geN 35 (mx_d D_M_sum 15 rfl) (by decide) (by omega) (by omega) (by omega) (by omega) (by omega) ?_
      refine mx_iconst (n := 1) (mx_d D_M_sum 16 rfl) ?_
      refine mx_goto 36 (mx_d D_M_sum 17 rfl) (by decide) ?_
      exact join2 true ⟨fun _ => hc, fun _ => rfl⟩
    · refine mx_icmp_geY 35 (mx_d D_M_sum 15 rfl) (by decide) (by omega) (by omega) (by omega) (by omega) (by omega) ?_
      refine mx_iconst (n := 0) (mx_d D_M_sum 18 rfl) ?_
      exact join2 false ⟨fun z => absurd z (by decide), fun z => absurd z hc⟩
  refine mx_aload_n (k4 := 0) (mx_d D_M_sum 0 rfl) (by rfl) ?_
  refine mx_aload_n (k4 := 0) (mx_d D_M_sum 1 rfl) (by rfl) ?_
  refine mx_iload_n (k4 := 1) (mx_d D_M_sum 2 rfl) (by rfl) ?_
  refine mx_callV hG (Y' := Y_M_isDate) (ci := 7) [_] (mx_d D_M_sum 3 rfl) in_M_isDate w_702 w_704 s_M_isDate (by rfl) np_M_isDate (by exact Nat.le_of_ble_eq_true rfl) (by rfl) (by first | assumption | omega) (by first | assumption | exact va_up_self _ _ _ | (rw [va_up_ne _ _ (by omega)]; first | assumption | exact va_up_self _ _ _ | (rw [va_up_ne _ _ (by omega)]; first | assumption | exact va_up_self _ _ _ | (rw [va_up_ne _ _ (by omega)]; first | assumption | exact va_up_self _ _ _ | (rw [va_up_ne _ _ (by omega)]; first | assumption | exact va_up_self _ _ _ | (rw [va_up_ne _ _ (by omega)]; first | assumption | exact va_up_self _ _ _)))))) (by rfl) (by exact Nat.le_of_ble_eq_true rfl) (m_isDate hG hN h50 hD a1 a2 ?_)
  cases ha : wiB a 0 ((nD : Int) - 1) with
  | false =>
    have ha' := wiB_f ha
    refine mx_if_eqY 21 (mx_d D_M_sum 4 rfl) (by decide) (by decide) (by decide) (by decide) ?_
    refine mx_iconst (n := 0) (mx_d D_M_sum 11 rfl) ?_
    exact both false ⟨fun z => absurd z (by decide), fun z => by omega⟩
  | true =>
    have ha' := wiB_t ha
    refine mx_if_eqN 21 (mx_d D_M_sum 4 rfl) (by decide) (by decide) (by decide) (by decide) ?_
    refine mx_aload_n (k4 := 0) (mx_d D_M_sum 5 rfl) (by rfl) ?_
    refine mx_iload_n (k4 := 2) (mx_d D_M_sum 6 rfl) (by rfl) ?_
    refine mx_callV hG (Y' := Y_M_isDate) (ci := 7) [_] (mx_d D_M_sum 7 rfl) in_M_isDate w_702 w_704 s_M_isDate (by rfl) np_M_isDate (by exact Nat.le_of_ble_eq_true rfl) (by rfl) (by first | assumption | omega) (by first | assumption | exact va_up_self _ _ _ | (rw [va_up_ne _ _ (by omega)]; first | assumption | exact va_up_self _ _ _ | (rw [va_up_ne _ _ (by omega)]; first | assumption | exact va_up_self _ _ _ | (rw [va_up_ne _ _ (by omega)]; first | assumption | exact va_up_self _ _ _ | (rw [va_up_ne _ _ (by omega)]; first | assumption | exact va_up_self _ _ _ | (rw [va_up_ne _ _ (by omega)]; first | assumption | exact va_up_self _ _ _)))))) (by rfl) (by exact Nat.le_of_ble_eq_true rfl) (m_isDate hG hN h50 hD b1 b2 ?_)
    cases hs : wiB b 0 ((nD : Int) - 1) with
    | false =>
      have hs' := wiB_f hs
      refine mx_if_eqY 21 (mx_d D_M_sum 8 rfl) (by decide) (by decide) (by decide) (by decide) ?_
      refine mx_iconst (n := 0) (mx_d D_M_sum 11 rfl) ?_
      exact both false ⟨fun z => absurd z (by decide), fun z => by omega⟩
    | true =>
      have hs' := wiB_t hs
      refine mx_if_eqN 21 (mx_d D_M_sum 8 rfl) (by decide) (by decide) (by decide) (by decide) ?_
      refine mx_iconst (n := 1) (mx_d D_M_sum 9 rfl) ?_
      refine mx_goto 22 (mx_d D_M_sum 10 rfl) (by decide) ?_
      exact both true ⟨fun _ => ⟨by omega, by omega⟩, fun _ => rfl⟩
end ME
