/-! the reference: its cells, its small methods -/
abbrev rs0 (G : mx_G) (th : Int) (Y : Nat) (U : Int) (nE iE nD : Nat) (rA rS : Int) (rN pN rw : Nat) : va_E := .inr (7, [.int (iI th), .int (iI Y), .int (iI U), .int (iI nE), .int (iI iE), .ref (mx_B G + 51), .ref (mx_B G + 52), .int (iI rA), .int (iI rS), .int (iI nD), .ref (mx_B G + 53), .ref (mx_B G + 54), .ref (mx_B G + 55), .ref (mx_B G + 56), .int (iI rN), .ref (mx_B G + 57), .ref (mx_B G + 58), .int (iI pN), .ref (mx_B G + 59), .ref (mx_B G + 60), .ref (mx_B G + 61), .ref (mx_B G + 62), .int (iI rw)])
def RA (G : mx_G) (Y nD : Nat) (eA eS : Nat → Nat → Int) (dA dS : Nat → Int) (dW : Nat → Nat → Int) (lc : Nat → Bool) (rn rg : Nat → Nat) (ps : Nat → Int) (ce : Nat → va_E) : Prop := ∃ (fA fS fW : Nat → Int) (ch : Nat → Bool) (tY tA tS : Nat → Int), (ce 51 = aI G 240 fA ∧ ce 52 = aI G 240 fS ∧ ce 53 = aI G 720 fW ∧ ce 54 = aI G 12 dA ∧ ce 55 = aI G 12 dS ∧ ce 56 = aB G 60 ch ∧ ce 57 = aI G 8 (fun j => (rn j : Int)) ∧ ce 58 = aI G 8 (fun j => (rg j : Int)) ∧ ce 59 = aI G 100 ps ∧ ce 60 = aI G 40 tY ∧ ce 61 = aI G 40 tA ∧ ce 62 = aI G 40 tS) ∧ (∀ e, e < 4 → ∀ y, y < Y → fA (60 * e + y) = eA e y ∧ fS (60 * e + y) = eS e y) ∧ (∀ i, i < nD → ∀ y, y < Y → fW (60 * i + y) = dW i y) ∧ (∀ y, y < Y → ch y = lc y)
def RS (G : mx_G) (Y : Nat) (U : Int) (nE iE nD : Nat) (rA rS : Int) (eA eS : Nat → Nat → Int) (dA dS : Nat → Int) (dW : Nat → Nat → Int) (lc : Nat → Bool) (rn rg : Nat → Nat) (rN : Nat) (ps : Nat → Int) (pN : Nat) (th : Int) (ce : Nat → va_E) : Prop := ∃ rw : Nat, ce 50 = rs0 G th Y U nE iE nD rA rS rN pN rw ∧ RA G Y nD eA eS dA dS dW lc rn rg ps ce
theorem RA.fr {G : mx_G} {Y nD : Nat} {eA eS : Nat → Nat → Int} {dA dS : Nat → Int} {dW : Nat → Nat → Int} {lc : Nat → Bool} {rn rg : Nat → Nat} {ps : Nat → Int} {ce ce' : Nat → va_E} (h : RA G Y nD eA eS dA dS dW lc rn rg ps ce) (hf : ∀ k, 51 ≤ k → k < 63 → ce' k = ce k) : RA G Y nD eA eS dA dS dW lc rn rg ps ce' := by
  obtain ⟨fA, fS, fW, ch, tY, tA, tS, ⟨h1, h2, h3, h4, h5, h6, h7, h8, h9, h10, h11, h12⟩, g⟩ := h
  exact ⟨fA, fS, fW, ch, tY, tA, tS, ⟨(hf 51 (by omega) (by omega)).trans h1, (hf 52 (by omega) (by omega)).trans h2, (hf 53 (by omega) (by omega)).trans h3, (hf 54 (by omega) (by omega)).trans h4, (hf 55 (by omega) (by omega)).trans h5, (hf 56 (by omega) (by omega)).trans h6, (hf 57 (by omega) (by omega)).trans h7, (hf 58 (by omega) (by omega)).trans h8, (hf 59 (by omega) (by omega)).trans h9, (hf 60 (by omega) (by omega)).trans h10, (hf 61 (by omega) (by omega)).trans h11, (hf 62 (by omega) (by omega)).trans h12⟩, g⟩
theorem RS.fr {G : mx_G} {Y : Nat} {U : Int} {nE iE nD : Nat} {rA rS : Int} {eA eS : Nat → Nat → Int} {dA dS : Nat → Int} {dW : Nat → Nat → Int} {lc : Nat → Bool} {rn rg : Nat → Nat} {rN : Nat} {ps : Nat → Int} {pN : Nat} {th : Int} {ce ce' : Nat → va_E} (h : RS G Y U nE iE nD rA rS eA eS dA dS dW lc rn rg rN ps pN th ce) (hf : ∀ k, 50 ≤ k → k < 63 → ce' k = ce k) : RS G Y U nE iE nD rA rS eA eS dA dS dW lc rn rg rN ps pN th ce' := by
  obtain ⟨rw, h1, h2⟩ := h
  exact ⟨rw, (hf 50 (by omega) (by omega)).trans h1, h2.fr (fun k _ _ => hf k (by omega) (by omega))⟩
def gth (a b c : Bool) : Int := if a = false then 1 else if b = false then 2 else if c = false then 3 else 0
def wiB (v lo hi : Int) : Bool := decide (lo ≤ v) && decide (v ≤ hi)
section MA
variable {G : mx_G} {d bc bs : Nat} {N : Nat} {ce : Nat → va_E} {Q : mx_P} {Y : Nat} {U : Int} {nE iE nD : Nat} {rA rS : Int} {eA eS : Nat → Nat → Int} {dA dS : Nat → Int} {dW : Nat → Nat → Int} {lc : Nat → Bool} {rn rg : Nat → Nat} {rN : Nat} {ps : Nat → Int} {pN : Nat} {th : Int} {rw : Nat}
theorem m_within {v lo hi : Int} (v1 : -2147483648 ≤ v) (v2 : v < 2147483648) (lo1 : -2147483648 ≤ lo) (lo2 : lo < 2147483648) (hi1 : -2147483648 ≤ hi) (hi2 : hi < 2147483648) (q : Q (.inl (some (.int (iI (bI (wiB v lo hi)))))) N ce bc bs) : mx_M G Y_M_within d bc bs false N ce 0 [(0, .int (iI v)), (1, .int (iI lo)), (2, .int (iI hi))] [] Q := by
  have no : wiB v lo hi = false → ∀ {l9 : List (Nat × Value)}, mx_M G Y_M_within d bc bs false N ce 14 l9 [] Q := by
    intro h l9
    refine mx_iconst (n := 0) (mx_d D_M_within 8 rfl) ?_
    refine mx_zret (by rfl) (mx_d D_M_within 9 rfl) (by first | rfl | assumption) ?_
    rw [h] at q
    exact q
  refine mx_iload_n (k4 := 0) (mx_d D_M_within 0 rfl) (by rfl) ?_
  refine mx_iload_n (k4 := 1) (mx_d D_M_within 1 rfl) (by rfl) ?_
  by_cases h1 : lo ≤ v
  · refine mx_icmp_ltN 14 (mx_d D_M_within 2 rfl) (by decide) (by omega) (by omega) (by omega) (by omega) (by omega) ?_
    refine mx_iload_n (k4 := 0) (mx_d D_M_within 3 rfl) (by rfl) ?_
    refine mx_iload_n (k4 := 2) (mx_d D_M_within 4 rfl) (by rfl) ?_
    by_cases h2 : v ≤ hi
    · refine mx_icmp_gtN 14 (mx_d D_M_within 5 rfl) (by decide) (by omega) (by omega) (by omega) (by omega) (by omega) ?_
      refine mx_iconst (n := 1) (mx_d D_M_within 6 rfl) ?_
      refine mx_goto 15 (mx_d D_M_within 7 rfl) (by decide) ?_
      refine mx_zret (by rfl) (mx_d D_M_within 9 rfl) (by first | rfl | assumption) ?_
      rw [show wiB v lo hi = true from by simp [wiB, h1, h2]] at q
      exact q
    · refine mx_icmp_gtY 14 (mx_d D_M_within 5 rfl) (by decide) (by omega) (by omega) (by omega) (by omega) (by omega) ?_
      exact no (by simp [wiB]; omega)
  · refine mx_icmp_ltY 14 (mx_d D_M_within 2 rfl) (by decide) (by omega) (by omega) (by omega) (by omega) (by omega) ?_
    exact no (by simp [wiB]; omega)
theorem m_thrown (hG : mx_ok G) (hN : 63 ≤ N) (h : RS G Y U nE iE nD rA rS eA eS dA dS dW lc rn rg rN ps pN th ce) (q : Q (.inl (some (.int (iI th)))) N ce bc bs) : mx_M G Y_M_thrown d bc bs false N ce 0 [(0, .ref (mx_B G + 50))] [] Q := by
  obtain ⟨rw, h50, -⟩ := h
  refine mx_aload_n (k4 := 0) (mx_d D_M_thrown 0 rfl) (by rfl) ?_
  refine mx_getf hG (idx := 58) (ci := 7) (kf := 0) (mx_d D_M_thrown 1 rfl) (by rfl) cls_M (by decide) w_581 (by first | assumption | omega) (by first | assumption | exact va_up_self _ _ _ | (rw [va_up_ne _ _ (by omega)]; first | assumption | exact va_up_self _ _ _ | (rw [va_up_ne _ _ (by omega)]; first | assumption | exact va_up_self _ _ _ | (rw [va_up_ne _ _ (by omega)]; first | assumption | exact va_up_self _ _ _ | (rw [va_up_ne _ _ (by omega)]; first | assumption | exact va_up_self _ _ _ | (rw [va_up_ne _ _ (by omega)]; first | assumption | exact va_up_self _ _ _)))))) (by rfl) ?_
  refine mx_iret (by rfl) (mx_d D_M_thrown 2 rfl) ?_
  exact q
theorem m_goes (hG : mx_ok G) (hN : 63 ≤ N) (h50 : ce 50 = rs0 G th Y U nE iE nD rA rS rN pN rw) {a b c : Bool} (q : Q (.inl (some (.int (iI (bI (a && b && c)))))) N (va_up ce 50 (rs0 G (gth a b c) Y U nE iE nD rA rS rN pN rw)) bc bs) : mx_M G Y_M_goes d bc bs false N ce 0 [(0, .ref (mx_B G + 50)), (1, .int (iI (bI a))), (2, .int (iI (bI b))), (3, .int (iI (bI c)))] [] Q := by
  refine mx_aload_n (k4 := 0) (mx_d D_M_goes 0 rfl) (by rfl) ?_
  refine mx_iload_n (k4 := 1) (mx_d D_M_goes 1 rfl) (by rfl) ?_
  cases a with
  | false =>
    refine mx_if_neN 9 (mx_d D_M_goes 2 rfl) (by decide) (by decide) (by decide) (by decide) ?_
    refine mx_iconst (n := 1) (mx_d D_M_goes 3 rfl) ?_
    refine mx_goto 26 (mx_d D_M_goes 4 rfl) (by decide) ?_
    refine mx_putf hG (idx := 58) (ci := 7) (kf := 0) (t := (.int)) (mx_d D_M_goes 14 rfl) (by rfl) cls_M (by decide) (Or.inl rfl) w_581 (by first | assumption | omega) (by first | assumption | exact va_up_self _ _ _ | (rw [va_up_ne _ _ (by omega)]; first | assumption | exact va_up_self _ _ _ | (rw [va_up_ne _ _ (by omega)]; first | assumption | exact va_up_self _ _ _ | (rw [va_up_ne _ _ (by omega)]; first | assumption | exact va_up_self _ _ _ | (rw [va_up_ne _ _ (by omega)]; first | assumption | exact va_up_self _ _ _ | (rw [va_up_ne _ _ (by omega)]; first | assumption | exact va_up_self _ _ _)))))) (by exact Nat.le_of_ble_eq_true rfl) (by decide +kernel) (by rfl) (by rfl) ?_
    refine mx_aload_n (k4 := 0) (mx_d D_M_goes 15 rfl) (by rfl) ?_
    refine mx_getf hG (idx := 58) (ci := 7) (kf := 0) (mx_d D_M_goes 16 rfl) (by rfl) cls_M (by decide) w_581 (by first | assumption | omega) (by first | assumption | exact va_up_self _ _ _ | (rw [va_up_ne _ _ (by omega)]; first | assumption | exact va_up_self _ _ _ | (rw [va_up_ne _ _ (by omega)]; first | assumption | exact va_up_self _ _ _ | (rw [va_up_ne _ _ (by omega)]; first | assumption | exact va_up_self _ _ _ | (rw [va_up_ne _ _ (by omega)]; first | assumption | exact va_up_self _ _ _ | (rw [va_up_ne _ _ (by omega)]; first | assumption | exact va_up_self _ _ _)))))) (by rfl) ?_
    refine mx_if_neY 40 (mx_d D_M_goes 17 rfl) (by decide) (by decide) (by decide) (by decide) ?_
    refine mx_iconst (n := 0) (mx_d D_M_goes 20 rfl) ?_
    refine mx_zret (by rfl) (mx_d D_M_goes 21 rfl) (by first | rfl | assumption) ?_
    exact q
  | true =>
    refine mx_if_neY 9 (mx_d D_M_goes 2 rfl) (by decide) (by decide) (by decide) (by decide) ?_
    refine mx_iload_n (k4 := 2) (mx_d D_M_goes 5 rfl) (by rfl) ?_
    cases b with
    | false =>
      refine mx_if_neN 17 (mx_d D_M_goes 6 rfl) (by decide) (by decide) (by decide) (by decide) ?_
      refine mx_iconst (n := 2) (mx_d D_M_goes 7 rfl) ?_
      refine mx_goto 26 (mx_d D_M_goes 8 rfl) (by decide) ?_
      refine mx_putf hG (idx := 58) (ci := 7) (kf := 0) (t := (.int)) (mx_d D_M_goes 14 rfl) (by rfl) cls_M (by decide) (Or.inl rfl) w_581 (by first | assumption | omega) (by first | assumption | exact va_up_self _ _ _ | (rw [va_up_ne _ _ (by omega)]; first | assumption | exact va_up_self _ _ _ | (rw [va_up_ne _ _ (by omega)]; first | assumption | exact va_up_self _ _ _ | (rw [va_up_ne _ _ (by omega)]; first | assumption | exact va_up_self _ _ _ | (rw [va_up_ne _ _ (by omega)]; first | assumption | exact va_up_self _ _ _ | (rw [va_up_ne _ _ (by omega)]; first | assumption | exact va_up_self _ _ _)))))) (by exact Nat.le_of_ble_eq_true rfl) (by decide +kernel) (by rfl) (by rfl) ?_
      refine mx_aload_n (k4 := 0) (mx_d D_M_goes 15 rfl) (by rfl) ?_
      refine mx_getf hG (idx := 58) (ci := 7) (kf := 0) (mx_d D_M_goes 16 rfl) (by rfl) cls_M (by decide) w_581 (by first | assumption | omega) (by first | assumption | exact va_up_self _ _ _ | (rw [va_up_ne _ _ (by omega)]; first | assumption | exact va_up_self _ _ _ | (rw [va_up_ne _ _ (by omega)]; first | assumption | exact va_up_self _ _ _ | (rw [va_up_ne _ _ (by omega)]; first | assumption | exact va_up_self _ _ _ | (rw [va_up_ne _ _ (by omega)]; first | assumption | exact va_up_self _ _ _ | (rw [va_up_ne _ _ (by omega)]; first | assumption | exact va_up_self _ _ _)))))) (by rfl) ?_
      refine mx_if_neY 40 (mx_d D_M_goes 17 rfl) (by decide) (by decide) (by decide) (by decide) ?_
      refine mx_iconst (n := 0) (mx_d D_M_goes 20 rfl) ?_
      refine mx_zret (by rfl) (mx_d D_M_goes 21 rfl) (by first | rfl | assumption) ?_
      exact q
    | true =>
      refine mx_if_neY 17 (mx_d D_M_goes 6 rfl) (by decide) (by decide) (by decide) (by decide) ?_
      refine mx_iload_n (k4 := 3) (mx_d D_M_goes 9 rfl) (by rfl) ?_
      cases c with
      | false =>
        refine mx_if_neN 25 (mx_d D_M_goes 10 rfl) (by decide) (by decide) (by decide) (by decide) ?_
        refine mx_iconst (n := 3) (mx_d D_M_goes 11 rfl) ?_
        refine mx_goto 26 (mx_d D_M_goes 12 rfl) (by decide) ?_
        refine mx_putf hG (idx := 58) (ci := 7) (kf := 0) (t := (.int)) (mx_d D_M_goes 14 rfl) (by rfl) cls_M (by decide) (Or.inl rfl) w_581 (by first | assumption | omega) (by first | assumption | exact va_up_self _ _ _ | (rw [va_up_ne _ _ (by omega)]; first | assumption | exact va_up_self _ _ _ | (rw [va_up_ne _ _ (by omega)]; first | assumption | exact va_up_self _ _ _ | (rw [va_up_ne _ _ (by omega)]; first | assumption | exact va_up_self _ _ _ | (rw [va_up_ne _ _ (by omega)]; first | assumption | exact va_up_self _ _ _ | (rw [va_up_ne _ _ (by omega)]; first | assumption | exact va_up_self _ _ _)))))) (by exact Nat.le_of_ble_eq_true rfl) (by decide +kernel) (by rfl) (by rfl) ?_
        refine mx_aload_n (k4 := 0) (mx_d D_M_goes 15 rfl) (by rfl) ?_
        refine mx_getf hG (idx := 58) (ci := 7) (kf := 0) (mx_d D_M_goes 16 rfl) (by rfl) cls_M (by decide) w_581 (by first | assumption | omega) (by first | assumption | exact va_up_self _ _ _ | (rw [va_up_ne _ _ (by omega)]; first | assumption | exact va_up_self _ _ _ | (rw [va_up_ne _ _ (by omega)]; first | assumption | exact va_up_self _ _ _ | (rw [va_up_ne _ _ (by omega)]; first | assumption | exact va_up_self _ _ _ | (rw [va_up_ne _ _ (by omega)]; first | assumption | exact va_up_self _ _ _ | (rw [va_up_ne _ _ (by omega)]; first | assumption | exact va_up_self _ _ _)))))) (by rfl) ?_
        refine mx_if_neY 40 (mx_d D_M_goes 17 rfl) (by decide) (by decide) (by decide) (by decide) ?_
        refine mx_iconst (n := 0) (mx_d D_M_goes 20 rfl) ?_
        refine mx_zret (by rfl) (mx_d D_M_goes 21 rfl) (by first | rfl | assumption) ?_
        exact q
      | true =>
        refine mx_if_neY 25 (mx_d D_M_goes 10 rfl) (by decide) (by decide) (by decide) (by decide) ?_
        refine mx_iconst (n := 0) (mx_d D_M_goes 13 rfl) ?_
        refine mx_putf hG (idx := 58) (ci := 7) (kf := 0) (t := (.int)) (mx_d D_M_goes 14 rfl) (by rfl) cls_M (by decide) (Or.inl rfl) w_581 (by first | assumption | omega) (by first | assumption | exact va_up_self _ _ _ | (rw [va_up_ne _ _ (by omega)]; first | assumption | exact va_up_self _ _ _ | (rw [va_up_ne _ _ (by omega)]; first | assumption | exact va_up_self _ _ _ | (rw [va_up_ne _ _ (by omega)]; first | assumption | exact va_up_self _ _ _ | (rw [va_up_ne _ _ (by omega)]; first | assumption | exact va_up_self _ _ _ | (rw [va_up_ne _ _ (by omega)]; first | assumption | exact va_up_self _ _ _)))))) (by exact Nat.le_of_ble_eq_true rfl) (by decide +kernel) (by rfl) (by rfl) ?_
        refine mx_aload_n (k4 := 0) (mx_d D_M_goes 15 rfl) (by rfl) ?_
        refine mx_getf hG (idx := 58) (ci := 7) (kf := 0) (mx_d D_M_goes 16 rfl) (by rfl) cls_M (by decide) w_581 (by first | assumption | omega) (by first | assumption | exact va_up_self _ _ _ | (rw [va_up_ne _ _ (by omega)]; first | assumption | exact va_up_self _ _ _ | (rw [va_up_ne _ _ (by omega)]; first | assumption | exact va_up_self _ _ _ | (rw [va_up_ne _ _ (by omega)]; first | assumption | exact va_up_self _ _ _ | (rw [va_up_ne _ _ (by omega)]; first | assumption | exact va_up_self _ _ _ | (rw [va_up_ne _ _ (by omega)]; first | assumption | exact va_up_self _ _ _)))))) (by rfl) ?_
        refine mx_if_neN 40 (mx_d D_M_goes 17 rfl) (by decide) (by decide) (by decide) (by decide) ?_
        refine mx_iconst (n := 1) (mx_d D_M_goes 18 rfl) ?_
        refine mx_goto 41 (mx_d D_M_goes 19 rfl) (by decide) ?_
        refine mx_zret (by rfl) (mx_d D_M_goes 21 rfl) (by first | rfl | assumption) ?_
        exact q
theorem m_isYear (hG : mx_ok G) (hN : 63 ≤ N) (h50 : ce 50 = rs0 G th Y U nE iE nD rA rS rN pN rw) (hY : Y ≤ 60) {y : Int} (y1 : -2147483648 ≤ y) (y2 : y < 2147483648) (q : Q (.inl (some (.int (iI (bI (wiB y 0 ((Y : Int) - 1))))))) N ce bc bs) : mx_M G Y_M_isYear (d + 1) bc bs false N ce 0 [(0, .ref (mx_B G + 50)), (1, .int (iI y))] [] Q := by
  refine mx_iload_n (k4 := 1) (mx_d D_M_isYear 0 rfl) (by rfl) ?_
  refine mx_iconst (n := 0) (mx_d D_M_isYear 1 rfl) ?_
  refine mx_aload_n (k4 := 0) (mx_d D_M_isYear 2 rfl) (by rfl) ?_
  refine mx_getf hG (idx := 51) (ci := 7) (kf := 1) (mx_d D_M_isYear 3 rfl) (by rfl) cls_M (by decide) w_582 (by first | assumption | omega) (by first | assumption | exact va_up_self _ _ _ | (rw [va_up_ne _ _ (by omega)]; first | assumption | exact va_up_self _ _ _ | (rw [va_up_ne _ _ (by omega)]; first | assumption | exact va_up_self _ _ _ | (rw [va_up_ne _ _ (by omega)]; first | assumption | exact va_up_self _ _ _ | (rw [va_up_ne _ _ (by omega)]; first | assumption | exact va_up_self _ _ _ | (rw [va_up_ne _ _ (by omega)]; first | assumption | exact va_up_self _ _ _)))))) (by rfl) ?_
  refine mx_iconst (n := 1) (mx_d D_M_isYear 4 rfl) ?_
  refine mx_isubI (mx_d D_M_isYear 5 rfl) ?_
  refine mx_callS (Y' := Y_M_within) [_, _, _] (mx_d D_M_isYear 6 rfl) in_M_within w_663 w_664 np_M_within (by exact Nat.le_of_ble_eq_true rfl) (by rfl) (by rfl) (by exact Nat.le_of_ble_eq_true rfl) (m_within y1 y2 (by omega) (by omega) (by omega) (by omega) ?_)
  refine mx_zret (by rfl) (mx_d D_M_isYear 7 rfl) (bI_nar _) ?_
  exact q
theorem m_isDate (hG : mx_ok G) (hN : 63 ≤ N) (h50 : ce 50 = rs0 G th Y U nE iE nD rA rS rN pN rw) (hD : nD ≤ 12) {y : Int} (y1 : -2147483648 ≤ y) (y2 : y < 2147483648) (q : Q (.inl (some (.int (iI (bI (wiB y 0 ((nD : Int) - 1))))))) N ce bc bs) : mx_M G Y_M_isDate (d + 1) bc bs false N ce 0 [(0, .ref (mx_B G + 50)), (1, .int (iI y))] [] Q := by
  refine mx_iload_n (k4 := 1) (mx_d D_M_isDate 0 rfl) (by rfl) ?_
  refine mx_iconst (n := 0) (mx_d D_M_isDate 1 rfl) ?_
  refine mx_aload_n (k4 := 0) (mx_d D_M_isDate 2 rfl) (by rfl) ?_
  refine mx_getf hG (idx := 65) (ci := 7) (kf := 9) (mx_d D_M_isDate 3 rfl) (by rfl) cls_M (by decide) w_590 (by first | assumption | omega) (by first | assumption | exact va_up_self _ _ _ | (rw [va_up_ne _ _ (by omega)]; first | assumption | exact va_up_self _ _ _ | (rw [va_up_ne _ _ (by omega)]; first | assumption | exact va_up_self _ _ _ | (rw [va_up_ne _ _ (by omega)]; first | assumption | exact va_up_self _ _ _ | (rw [va_up_ne _ _ (by omega)]; first | assumption | exact va_up_self _ _ _ | (rw [va_up_ne _ _ (by omega)]; first | assumption | exact va_up_self _ _ _)))))) (by rfl) ?_
  refine mx_iconst (n := 1) (mx_d D_M_isDate 4 rfl) ?_
  refine mx_isubI (mx_d D_M_isDate 5 rfl) ?_
  refine mx_callS (Y' := Y_M_within) [_, _, _] (mx_d D_M_isDate 6 rfl) in_M_within w_663 w_664 np_M_within (by exact Nat.le_of_ble_eq_true rfl) (by rfl) (by rfl) (by exact Nat.le_of_ble_eq_true rfl) (m_within y1 y2 (by omega) (by omega) (by omega) (by omega) ?_)
  refine mx_zret (by rfl) (mx_d D_M_isDate 7 rfl) (bI_nar _) ?_
  exact q
theorem m_put (hG : mx_ok G) (hN : 63 ≤ N) (h50 : ce 50 = rs0 G th Y U nE iE nD rA rS rN pN rw) {fA fS : Nat → Int} (h51 : ce 51 = aI G 240 fA) (h52 : ce 52 = aI G 240 fS) {y : Nat} (hy : y < 60) (he : iE < 4) (hr : 0 ≤ fS (60 * iE + y) ∧ fS (60 * iE + y) ≤ 100) {a s : Int}
    (q : Q (.inl (some (.int (iI (bI (decide (0 < fS (60 * iE + y)))))))) N (va_up (va_up ce 51 (aI G 240 (va_up fA (60 * iE + y) a))) 52 (aI G 240 (va_up fS (60 * iE + y) s))) bc bs) : mx_M G Y_M_put d bc bs false N ce 0 [(0, .ref (mx_B G + 50)), (1, .int (iI y)), (2, .int (iI a)), (3, .int (iI s))] [] Q := by
  have rest : ∀ b : Bool, b = decide (0 < fS (60 * iE + y)) → mx_M G Y_M_put d bc bs false N ce 22 [(0, .ref (mx_B G + 50)), (1, .int (iI y)), (2, .int (iI a)), (3, .int (iI s))] [.int (iI (bI b))] Q := by
    intro b hb
    subst hb
    refine mx_istore (i := 4) (mx_d D_M_put 13 rfl) (by decide) ?_
    refine mx_aload_n (k4 := 0) (mx_d D_M_put 14 rfl) (by rfl) ?_
    refine mx_getf hG (idx := 13) (ci := 7) (kf := 5) (mx_d D_M_put 15 rfl) (by rfl) cls_M (by decide) w_586 (by first | assumption | omega) (by first | assumption | exact va_up_self _ _ _ | (rw [va_up_ne _ _ (by omega)]; first | assumption | exact va_up_self _ _ _ | (rw [va_up_ne _ _ (by omega)]; first | assumption | exact va_up_self _ _ _ | (rw [va_up_ne _ _ (by omega)]; first | assumption | exact va_up_self _ _ _ | (rw [va_up_ne _ _ (by omega)]; first | assumption | exact va_up_self _ _ _ | (rw [va_up_ne _ _ (by omega)]; first | assumption | exact va_up_self _ _ _)))))) (by rfl) ?_
    refine mx_bipush (n := 60) (mx_d D_M_put 16 rfl) (by decide) ?_
    refine mx_aload_n (k4 := 0) (mx_d D_M_put 17 rfl) (by rfl) ?_
    refine mx_getf hG (idx := 68) (ci := 7) (kf := 4) (mx_d D_M_put 18 rfl) (by rfl) cls_M (by decide) w_585 (by first | assumption | omega) (by first | assumption | exact va_up_self _ _ _ | (rw [va_up_ne _ _ (by omega)]; first | assumption | exact va_up_self _ _ _ | (rw [va_up_ne _ _ (by omega)]; first | assumption | exact va_up_self _ _ _ | (rw [va_up_ne _ _ (by omega)]; first | assumption | exact va_up_self _ _ _ | (rw [va_up_ne _ _ (by omega)]; first | assumption | exact va_up_self _ _ _ | (rw [va_up_ne _ _ (by omega)]; first | assumption | exact va_up_self _ _ _)))))) (by rfl) ?_
    refine mx_imulI (mx_d D_M_put 19 rfl) ?_
    refine mx_iload_n (k4 := 1) (mx_d D_M_put 20 rfl) (by rfl) ?_
    refine mx_iaddI (mx_d D_M_put 21 rfl) ?_
    refine mx_iload_n (k4 := 2) (mx_d D_M_put 22 rfl) (by rfl) ?_
    refine mx_iastI hG (60 * iE + y) _ (mx_d D_M_put 23 rfl) (by first | assumption | omega) (by first | assumption | exact va_up_self _ _ _ | (rw [va_up_ne _ _ (by omega)]; first | assumption | exact va_up_self _ _ _ | (rw [va_up_ne _ _ (by omega)]; first | assumption | exact va_up_self _ _ _ | (rw [va_up_ne _ _ (by omega)]; first | assumption | exact va_up_self _ _ _ | (rw [va_up_ne _ _ (by omega)]; first | assumption | exact va_up_self _ _ _ | (rw [va_up_ne _ _ (by omega)]; first | assumption | exact va_up_self _ _ _)))))) (by rfl) (by rfl) (by omega) (by omega) ?_
    refine mx_aload_n (k4 := 0) (mx_d D_M_put 24 rfl) (by rfl) ?_
    refine mx_getf hG (idx := 17) (ci := 7) (kf := 6) (mx_d D_M_put 25 rfl) (by rfl) cls_M (by decide) w_587 (by first | assumption | omega) (by first | assumption | exact va_up_self _ _ _ | (rw [va_up_ne _ _ (by omega)]; first | assumption | exact va_up_self _ _ _ | (rw [va_up_ne _ _ (by omega)]; first | assumption | exact va_up_self _ _ _ | (rw [va_up_ne _ _ (by omega)]; first | assumption | exact va_up_self _ _ _ | (rw [va_up_ne _ _ (by omega)]; first | assumption | exact va_up_self _ _ _ | (rw [va_up_ne _ _ (by omega)]; first | assumption | exact va_up_self _ _ _)))))) (by rfl) ?_
    refine mx_bipush (n := 60) (mx_d D_M_put 26 rfl) (by decide) ?_
    refine mx_aload_n (k4 := 0) (mx_d D_M_put 27 rfl) (by rfl) ?_
    refine mx_getf hG (idx := 68) (ci := 7) (kf := 4) (mx_d D_M_put 28 rfl) (by rfl) cls_M (by decide) w_585 (by first | assumption | omega) (by first | assumption | exact va_up_self _ _ _ | (rw [va_up_ne _ _ (by omega)]; first | assumption | exact va_up_self _ _ _ | (rw [va_up_ne _ _ (by omega)]; first | assumption | exact va_up_self _ _ _ | (rw [va_up_ne _ _ (by omega)]; first | assumption | exact va_up_self _ _ _ | (rw [va_up_ne _ _ (by omega)]; first | assumption | exact va_up_self _ _ _ | (rw [va_up_ne _ _ (by omega)]; first | assumption | exact va_up_self _ _ _)))))) (by rfl) ?_
    refine mx_imulI (mx_d D_M_put 29 rfl) ?_
    refine mx_iload_n (k4 := 1) (mx_d D_M_put 30 rfl) (by rfl) ?_
    refine mx_iaddI (mx_d D_M_put 31 rfl) ?_
    refine mx_iload_n (k4 := 3) (mx_d D_M_put 32 rfl) (by rfl) ?_
    refine mx_iastI hG (60 * iE + y) _ (mx_d D_M_put 33 rfl) (by first | assumption | omega) (by first | assumption | exact va_up_self _ _ _ | (rw [va_up_ne _ _ (by omega)]; first | assumption | exact va_up_self _ _ _ | (rw [va_up_ne _ _ (by omega)]; first | assumption | exact va_up_self _ _ _ | (rw [va_up_ne _ _ (by omega)]; first | assumption | exact va_up_self _ _ _ | (rw [va_up_ne _ _ (by omega)]; first | assumption | exact va_up_self _ _ _ | (rw [va_up_ne _ _ (by omega)]; first | assumption | exact va_up_self _ _ _)))))) (by rfl) (by rfl) (by omega) (by omega) ?_
    refine mx_iload (i := 4) (mx_d D_M_put 34 rfl) (by rfl) ?_
    refine mx_zret (by rfl) (mx_d D_M_put 35 rfl) (bI_nar _) ?_
    exact q
  refine mx_aload_n (k4 := 0) (mx_d D_M_put 0 rfl) (by rfl) ?_
  refine mx_getf hG (idx := 17) (ci := 7) (kf := 6) (mx_d D_M_put 1 rfl) (by rfl) cls_M (by decide) w_587 (by first | assumption | omega) (by first | assumption | exact va_up_self _ _ _ | (rw [va_up_ne _ _ (by omega)]; first | assumption | exact va_up_self _ _ _ | (rw [va_up_ne _ _ (by omega)]; first | assumption | exact va_up_self _ _ _ | (rw [va_up_ne _ _ (by omega)]; first | assumption | exact va_up_self _ _ _ | (rw [va_up_ne _ _ (by omega)]; first | assumption | exact va_up_self _ _ _ | (rw [va_up_ne _ _ (by omega)]; first | assumption | exact va_up_self _ _ _)))))) (by rfl) ?_
  refine mx_bipush (n := 60) (mx_d D_M_put 2 rfl) (by decide) ?_
  refine mx_aload_n (k4 := 0) (mx_d D_M_put 3 rfl) (by rfl) ?_
  refine mx_getf hG (idx := 68) (ci := 7) (kf := 4) (mx_d D_M_put 4 rfl) (by rfl) cls_M (by decide) w_585 (by first | assumption | omega) (by first | assumption | exact va_up_self _ _ _ | (rw [va_up_ne _ _ (by omega)]; first | assumption | exact va_up_self _ _ _ | (rw [va_up_ne _ _ (by omega)]; first | assumption | exact va_up_self _ _ _ | (rw [va_up_ne _ _ (by omega)]; first | assumption | exact va_up_self _ _ _ | (rw [va_up_ne _ _ (by omega)]; first | assumption | exact va_up_self _ _ _ | (rw [va_up_ne _ _ (by omega)]; first | assumption | exact va_up_self _ _ _)))))) (by rfl) ?_
  refine mx_imulI (mx_d D_M_put 5 rfl) ?_
  refine mx_iload_n (k4 := 1) (mx_d D_M_put 6 rfl) (by rfl) ?_
  refine mx_iaddI (mx_d D_M_put 7 rfl) ?_
  refine mx_ialdI hG (60 * iE + y) (mx_d D_M_put 8 rfl) (by first | assumption | omega) (by first | assumption | exact va_up_self _ _ _ | (rw [va_up_ne _ _ (by omega)]; first | assumption | exact va_up_self _ _ _ | (rw [va_up_ne _ _ (by omega)]; first | assumption | exact va_up_self _ _ _ | (rw [va_up_ne _ _ (by omega)]; first | assumption | exact va_up_self _ _ _ | (rw [va_up_ne _ _ (by omega)]; first | assumption | exact va_up_self _ _ _ | (rw [va_up_ne _ _ (by omega)]; first | assumption | exact va_up_self _ _ _)))))) (by rfl) (by omega) (by omega) ?_
  by_cases hs : 0 < fS (60 * iE + y)
  · refine mx_if_leN 21 (mx_d D_M_put 9 rfl) (by decide) (by omega) (by omega) (by omega) ?_
    refine mx_iconst (n := 1) (mx_d D_M_put 10 rfl) ?_
    refine mx_goto 22 (mx_d D_M_put 11 rfl) (by decide) ?_
    exact rest true (by simp [hs])
  · refine mx_if_leY 21 (mx_d D_M_put 9 rfl) (by decide) (by omega) (by omega) (by omega) ?_
    refine mx_iconst (n := 0) (mx_d D_M_put 12 rfl) ?_
    exact rest false (by simp; omega)
theorem m_totalOf (hG : mx_ok G) (hN : 63 ≤ N) (h50 : ce 50 = rs0 G th Y U nE iE nD rA rS rN pN rw) {fW : Nat → Int} (h53 : ce 53 = aI G 720 fW) (hY : Y ≤ 60) {i : Nat} (hi : i < 12) {w : Nat → Int} (hw : ∀ y, y < Y → fW (60 * i + y) = w y)
    (q : Q (.inl (some (.int (iI (sumTo w Y))))) N ce bc bs) : mx_M G Y_M_totalOf d bc bs false N ce 0 [(0, .ref (mx_B G + 50)), (1, .int (iI i))] [] Q := by
  refine mx_iconst (n := 0) (mx_d D_M_totalOf 0 rfl) ?_
  refine mx_istore_n (k4 := 2) (mx_d D_M_totalOf 1 rfl) (by decide) ?_
  refine mx_iconst (n := 0) (mx_d D_M_totalOf 2 rfl) ?_
  refine mx_istore_n (k4 := 3) (mx_d D_M_totalOf 3 rfl) (by decide) ?_
  suffices H : ∀ k j : Nat, j + k = Y → mx_M G Y_M_totalOf d bc bs false N ce 4 [(0, .ref (mx_B G + 50)), (1, .int (iI i)), (2, .int (iI (sumTo w j))), (3, .int (iI j))] [] Q from mx_loc (by rfl) (H Y 0 (by omega))
  intro k
  induction k with
  | zero =>
    intro j hj
    obtain rfl : j = Y := by omega
    refine mx_iload_n (k4 := 3) (mx_d D_M_totalOf 4 rfl) (by rfl) ?_
    refine mx_aload_n (k4 := 0) (mx_d D_M_totalOf 5 rfl) (by rfl) ?_
    refine mx_getf hG (idx := 51) (ci := 7) (kf := 1) (mx_d D_M_totalOf 6 rfl) (by rfl) cls_M (by decide) w_582 (by first | assumption | omega) (by first | assumption | exact va_up_self _ _ _ | (rw [va_up_ne _ _ (by omega)]; first | assumption | exact va_up_self _ _ _ | (rw [va_up_ne _ _ (by omega)]; first | assumption | exact va_up_self _ _ _ | (rw [va_up_ne _ _ (by omega)]; first | assumption | exact va_up_self _ _ _ | (rw [va_up_ne _ _ (by omega)]; first | assumption | exact va_up_self _ _ _ | (rw [va_up_ne _ _ (by omega)]; first | assumption | exact va_up_self _ _ _)))))) (by rfl) ?_
    refine mx_icmp_geY 32 (mx_d D_M_totalOf 7 rfl) (by decide) (by omega) (by omega) (by omega) (by omega) (by omega) ?_
    refine mx_iload_n (k4 := 2) (mx_d D_M_totalOf 21 rfl) (by rfl) ?_
    refine mx_iret (by rfl) (mx_d D_M_totalOf 22 rfl) ?_
    exact q
  | succ k ih =>
    intro j hj
    refine mx_iload_n (k4 := 3) (mx_d D_M_totalOf 4 rfl) (by rfl) ?_
    refine mx_aload_n (k4 := 0) (mx_d D_M_totalOf 5 rfl) (by rfl) ?_
    refine mx_getf hG (idx := 51) (ci := 7) (kf := 1) (mx_d D_M_totalOf 6 rfl) (by rfl) cls_M (by decide) w_582 (by first | assumption | omega) (by first | assumption | exact va_up_self _ _ _ | (rw [va_up_ne _ _ (by omega)]; first | assumption | exact va_up_self _ _ _ | (rw [va_up_ne _ _ (by omega)]; first | assumption | exact va_up_self _ _ _ | (rw [va_up_ne _ _ (by omega)]; first | assumption | exact va_up_self _ _ _ | (rw [va_up_ne _ _ (by omega)]; first | assumption | exact va_up_self _ _ _ | (rw [va_up_ne _ _ (by omega)]; first | assumption | exact va_up_self _ _ _)))))) (by rfl) ?_
    refine mx_icmp_geN 32 (mx_d D_M_totalOf 7 rfl) (by decide) (by omega) (by omega) (by omega) (by omega) (by omega) ?_
    refine mx_iload_n (k4 := 2) (mx_d D_M_totalOf 8 rfl) (by rfl) ?_
    refine mx_aload_n (k4 := 0) (mx_d D_M_totalOf 9 rfl) (by rfl) ?_
    refine mx_getf hG (idx := 20) (ci := 7) (kf := 10) (mx_d D_M_totalOf 10 rfl) (by rfl) cls_M (by decide) w_591 (by first | assumption | omega) (by first | assumption | exact va_up_self _ _ _ | (rw [va_up_ne _ _ (by omega)]; first | assumption | exact va_up_self _ _ _ | (rw [va_up_ne _ _ (by omega)]; first | assumption | exact va_up_self _ _ _ | (rw [va_up_ne _ _ (by omega)]; first | assumption | exact va_up_self _ _ _ | (rw [va_up_ne _ _ (by omega)]; first | assumption | exact va_up_self _ _ _ | (rw [va_up_ne _ _ (by omega)]; first | assumption | exact va_up_self _ _ _)))))) (by rfl) ?_
    refine mx_bipush (n := 60) (mx_d D_M_totalOf 11 rfl) (by decide) ?_
    refine mx_iload_n (k4 := 1) (mx_d D_M_totalOf 12 rfl) (by rfl) ?_
    refine mx_imulI (mx_d D_M_totalOf 13 rfl) ?_
    refine mx_iload_n (k4 := 3) (mx_d D_M_totalOf 14 rfl) (by rfl) ?_
    refine mx_iaddI (mx_d D_M_totalOf 15 rfl) ?_
    refine mx_ialdI hG (60 * i + j) (mx_d D_M_totalOf 16 rfl) (by first | assumption | omega) (by first | assumption | exact va_up_self _ _ _ | (rw [va_up_ne _ _ (by omega)]; first | assumption | exact va_up_self _ _ _ | (rw [va_up_ne _ _ (by omega)]; first | assumption | exact va_up_self _ _ _ | (rw [va_up_ne _ _ (by omega)]; first | assumption | exact va_up_self _ _ _ | (rw [va_up_ne _ _ (by omega)]; first | assumption | exact va_up_self _ _ _ | (rw [va_up_ne _ _ (by omega)]; first | assumption | exact va_up_self _ _ _)))))) (by rfl) (by omega) (by omega) ?_
    rw [hw j (by omega)]
    refine mx_iaddI (mx_d D_M_totalOf 17 rfl) ?_
    refine mx_istore_n (k4 := 2) (mx_d D_M_totalOf 18 rfl) (by decide) ?_
    refine mx_iincI (i := 3) (n := 1) (mx_d D_M_totalOf 19 rfl) (by rfl) (by decide) ?_
    refine mx_goto 4 (mx_d D_M_totalOf 20 rfl) (by decide) ?_
    exact mx_loc (by rfl) (ih (j + 1) (by omega))
theorem m_weigh (hG : mx_ok G) (hN : 63 ≤ N) (h50 : ce 50 = rs0 G th Y U nE iE nD rA rS rN pN rw) {fA fS : Nat → Int} (h51 : ce 51 = aI G 240 fA) (h52 : ce 52 = aI G 240 fS) (hV : IV Y U nE iE nD rA rS eA eS dA dS dW lc rn rg rN ps pN) (hf : ∀ e, e < 4 → ∀ y, y < Y → fA (60 * e + y) = eA e y ∧ fS (60 * e + y) = eS e y) {y : Nat} (hy : y < Y) {a s : Int} (ha : 0 ≤ a ∧ a ≤ 3000) (hs : 1 ≤ s ∧ s ≤ 100)
    (q : Q (.inl (some (.int (iI (wgt U (s * s + rS * rS) (a - rA) (eA iE y) (eS iE y)))))) N ce bc bs) : mx_M G Y_M_weigh d bc bs false N ce 0 [(0, .ref (mx_B G + 50)), (1, .int (iI a)), (2, .int (iI s)), (3, .int (iI y))] [] Q := by
  obtain ⟨hY, hU, hE, hD, hrA, hrS, hEA, hES, hDA, hDS, hDz, hDW, hrN, hrn, hpN, hps⟩ := hV
  obtain ⟨f1, f2⟩ := hf iE (by omega) y hy
  have b1 := hEA iE (by omega) y hy
  have b2 := hES iE (by omega) y hy
  have s1 : 0 ≤ s * s := sq_nn s
  have s2 : s * s ≤ 100 * 100 := sq_le (by omega) hs.2
  have r1 : 0 ≤ rS * rS := sq_nn rS
  have r2 : rS * rS ≤ 100 * 100 := sq_le (by omega) hrS.2
  refine mx_aload_n (k4 := 0) (mx_d D_M_weigh 0 rfl) (by rfl) ?_
  refine mx_getf hG (idx := 17) (ci := 7) (kf := 6) (mx_d D_M_weigh 1 rfl) (by rfl) cls_M (by decide) w_587 (by first | assumption | omega) (by first | assumption | exact va_up_self _ _ _ | (rw [va_up_ne _ _ (by omega)]; first | assumption | exact va_up_self _ _ _ | (rw [va_up_ne _ _ (by omega)]; first | assumption | exact va_up_self _ _ _ | (rw [va_up_ne _ _ (by omega)]; first | assumption | exact va_up_self _ _ _ | (rw [va_up_ne _ _ (by omega)]; first | assumption | exact va_up_self _ _ _ | (rw [va_up_ne _ _ (by omega)]; first | assumption | exact va_up_self _ _ _)))))) (by rfl) ?_
  refine mx_bipush (n := 60) (mx_d D_M_weigh 2 rfl) (by decide) ?_
  refine mx_aload_n (k4 := 0) (mx_d D_M_weigh 3 rfl) (by rfl) ?_
  refine mx_getf hG (idx := 68) (ci := 7) (kf := 4) (mx_d D_M_weigh 4 rfl) (by rfl) cls_M (by decide) w_585 (by first | assumption | omega) (by first | assumption | exact va_up_self _ _ _ | (rw [va_up_ne _ _ (by omega)]; first | assumption | exact va_up_self _ _ _ | (rw [va_up_ne _ _ (by omega)]; first | assumption | exact va_up_self _ _ _ | (rw [va_up_ne _ _ (by omega)]; first | assumption | exact va_up_self _ _ _ | (rw [va_up_ne _ _ (by omega)]; first | assumption | exact va_up_self _ _ _ | (rw [va_up_ne _ _ (by omega)]; first | assumption | exact va_up_self _ _ _)))))) (by rfl) ?_
  refine mx_imulI (mx_d D_M_weigh 5 rfl) ?_
  refine mx_iload_n (k4 := 3) (mx_d D_M_weigh 6 rfl) (by rfl) ?_
  refine mx_iaddI (mx_d D_M_weigh 7 rfl) ?_
  refine mx_ialdI hG (60 * iE + y) (mx_d D_M_weigh 8 rfl) (by first | assumption | omega) (by first | assumption | exact va_up_self _ _ _ | (rw [va_up_ne _ _ (by omega)]; first | assumption | exact va_up_self _ _ _ | (rw [va_up_ne _ _ (by omega)]; first | assumption | exact va_up_self _ _ _ | (rw [va_up_ne _ _ (by omega)]; first | assumption | exact va_up_self _ _ _ | (rw [va_up_ne _ _ (by omega)]; first | assumption | exact va_up_self _ _ _ | (rw [va_up_ne _ _ (by omega)]; first | assumption | exact va_up_self _ _ _)))))) (by rfl) (by omega) (by omega) ?_
  rw [f2]
  refine mx_istore (i := 4) (mx_d D_M_weigh 9 rfl) (by decide) ?_
  refine mx_iload (i := 4) (mx_d D_M_weigh 10 rfl) (by rfl) ?_
  by_cases hs0 : 0 < eS iE y
  · obtain ⟨z1, z2, z3, z4, z5⟩ := wgt_sz (v := s * s + rS * rS) (a := a - rA) (A := eA iE y) hU.1 hU.2 (by omega) (by omega) (by omega) (by omega) hs0 b2.2
    rw [wgt, if_pos hs0] at q
    refine mx_if_neY 23 (mx_d D_M_weigh 11 rfl) (by decide) (by omega) (by omega) (by omega) ?_
    refine mx_iload_n (k4 := 2) (mx_d D_M_weigh 14 rfl) (by rfl) ?_
    refine mx_iload_n (k4 := 2) (mx_d D_M_weigh 15 rfl) (by rfl) ?_
    refine mx_imulI (mx_d D_M_weigh 16 rfl) ?_
    refine mx_aload_n (k4 := 0) (mx_d D_M_weigh 17 rfl) (by rfl) ?_
    refine mx_getf hG (idx := 85) (ci := 7) (kf := 8) (mx_d D_M_weigh 18 rfl) (by rfl) cls_M (by decide) w_589 (by first | assumption | omega) (by first | assumption | exact va_up_self _ _ _ | (rw [va_up_ne _ _ (by omega)]; first | assumption | exact va_up_self _ _ _ | (rw [va_up_ne _ _ (by omega)]; first | assumption | exact va_up_self _ _ _ | (rw [va_up_ne _ _ (by omega)]; first | assumption | exact va_up_self _ _ _ | (rw [va_up_ne _ _ (by omega)]; first | assumption | exact va_up_self _ _ _ | (rw [va_up_ne _ _ (by omega)]; first | assumption | exact va_up_self _ _ _)))))) (by rfl) ?_
    refine mx_aload_n (k4 := 0) (mx_d D_M_weigh 19 rfl) (by rfl) ?_
    refine mx_getf hG (idx := 85) (ci := 7) (kf := 8) (mx_d D_M_weigh 20 rfl) (by rfl) cls_M (by decide) w_589 (by first | assumption | omega) (by first | assumption | exact va_up_self _ _ _ | (rw [va_up_ne _ _ (by omega)]; first | assumption | exact va_up_self _ _ _ | (rw [va_up_ne _ _ (by omega)]; first | assumption | exact va_up_self _ _ _ | (rw [va_up_ne _ _ (by omega)]; first | assumption | exact va_up_self _ _ _ | (rw [va_up_ne _ _ (by omega)]; first | assumption | exact va_up_self _ _ _ | (rw [va_up_ne _ _ (by omega)]; first | assumption | exact va_up_self _ _ _)))))) (by rfl) ?_
    refine mx_imulI (mx_d D_M_weigh 21 rfl) ?_
    refine mx_iaddI (mx_d D_M_weigh 22 rfl) ?_
    refine mx_iload (i := 4) (mx_d D_M_weigh 23 rfl) (by rfl) ?_
    refine mx_iload (i := 4) (mx_d D_M_weigh 24 rfl) (by rfl) ?_
    refine mx_imulI (mx_d D_M_weigh 25 rfl) ?_
    refine mx_iaddI (mx_d D_M_weigh 26 rfl) ?_
    refine mx_i2lI (mx_d D_M_weigh 27 rfl) (by omega) (by omega) ?_
    refine mx_lstore (i := 5) (mx_d D_M_weigh 28 rfl) (by decide) ?_
    refine mx_iload_n (k4 := 1) (mx_d D_M_weigh 29 rfl) (by rfl) ?_
    refine mx_aload_n (k4 := 0) (mx_d D_M_weigh 30 rfl) (by rfl) ?_
    refine mx_getf hG (idx := 82) (ci := 7) (kf := 7) (mx_d D_M_weigh 31 rfl) (by rfl) cls_M (by decide) w_588 (by first | assumption | omega) (by first | assumption | exact va_up_self _ _ _ | (rw [va_up_ne _ _ (by omega)]; first | assumption | exact va_up_self _ _ _ | (rw [va_up_ne _ _ (by omega)]; first | assumption | exact va_up_self _ _ _ | (rw [va_up_ne _ _ (by omega)]; first | assumption | exact va_up_self _ _ _ | (rw [va_up_ne _ _ (by omega)]; first | assumption | exact va_up_self _ _ _ | (rw [va_up_ne _ _ (by omega)]; first | assumption | exact va_up_self _ _ _)))))) (by rfl) ?_
    refine mx_isubI (mx_d D_M_weigh 32 rfl) ?_
    refine mx_aload_n (k4 := 0) (mx_d D_M_weigh 33 rfl) (by rfl) ?_
    refine mx_getf hG (idx := 13) (ci := 7) (kf := 5) (mx_d D_M_weigh 34 rfl) (by rfl) cls_M (by decide) w_586 (by first | assumption | omega) (by first | assumption | exact va_up_self _ _ _ | (rw [va_up_ne _ _ (by omega)]; first | assumption | exact va_up_self _ _ _ | (rw [va_up_ne _ _ (by omega)]; first | assumption | exact va_up_self _ _ _ | (rw [va_up_ne _ _ (by omega)]; first | assumption | exact va_up_self _ _ _ | (rw [va_up_ne _ _ (by omega)]; first | assumption | exact va_up_self _ _ _ | (rw [va_up_ne _ _ (by omega)]; first | assumption | exact va_up_self _ _ _)))))) (by rfl) ?_
    refine mx_bipush (n := 60) (mx_d D_M_weigh 35 rfl) (by decide) ?_
    refine mx_aload_n (k4 := 0) (mx_d D_M_weigh 36 rfl) (by rfl) ?_
    refine mx_getf hG (idx := 68) (ci := 7) (kf := 4) (mx_d D_M_weigh 37 rfl) (by rfl) cls_M (by decide) w_585 (by first | assumption | omega) (by first | assumption | exact va_up_self _ _ _ | (rw [va_up_ne _ _ (by omega)]; first | assumption | exact va_up_self _ _ _ | (rw [va_up_ne _ _ (by omega)]; first | assumption | exact va_up_self _ _ _ | (rw [va_up_ne _ _ (by omega)]; first | assumption | exact va_up_self _ _ _ | (rw [va_up_ne _ _ (by omega)]; first | assumption | exact va_up_self _ _ _ | (rw [va_up_ne _ _ (by omega)]; first | assumption | exact va_up_self _ _ _)))))) (by rfl) ?_
    refine mx_imulI (mx_d D_M_weigh 38 rfl) ?_
    refine mx_iload_n (k4 := 3) (mx_d D_M_weigh 39 rfl) (by rfl) ?_
    refine mx_iaddI (mx_d D_M_weigh 40 rfl) ?_
    refine mx_ialdI hG (60 * iE + y) (mx_d D_M_weigh 41 rfl) (by first | assumption | omega) (by first | assumption | exact va_up_self _ _ _ | (rw [va_up_ne _ _ (by omega)]; first | assumption | exact va_up_self _ _ _ | (rw [va_up_ne _ _ (by omega)]; first | assumption | exact va_up_self _ _ _ | (rw [va_up_ne _ _ (by omega)]; first | assumption | exact va_up_self _ _ _ | (rw [va_up_ne _ _ (by omega)]; first | assumption | exact va_up_self _ _ _ | (rw [va_up_ne _ _ (by omega)]; first | assumption | exact va_up_self _ _ _)))))) (by rfl) (by omega) (by omega) ?_
    rw [f1]
    refine mx_isubI (mx_d D_M_weigh 42 rfl) ?_
    refine mx_i2lI (mx_d D_M_weigh 43 rfl) (by omega) (by omega) ?_
    refine mx_lstore (i := 7) (mx_d D_M_weigh 44 rfl) (by decide) ?_
    refine mx_lload (i := 5) (mx_d D_M_weigh 45 rfl) (by rfl) ?_
    refine mx_lload (i := 7) (mx_d D_M_weigh 46 rfl) (by rfl) ?_
    refine mx_lload (i := 7) (mx_d D_M_weigh 47 rfl) (by rfl) ?_
    refine mx_lmulI (mx_d D_M_weigh 48 rfl) ?_
    refine mx_laddI (mx_d D_M_weigh 49 rfl) ?_
    refine mx_lstore (i := 9) (mx_d D_M_weigh 50 rfl) (by decide) ?_
    refine mx_aload_n (k4 := 0) (mx_d D_M_weigh 51 rfl) (by rfl) ?_
    refine mx_getf hG (idx := 55) (ci := 7) (kf := 2) (mx_d D_M_weigh 52 rfl) (by rfl) cls_M (by decide) w_583 (by first | assumption | omega) (by first | assumption | exact va_up_self _ _ _ | (rw [va_up_ne _ _ (by omega)]; first | assumption | exact va_up_self _ _ _ | (rw [va_up_ne _ _ (by omega)]; first | assumption | exact va_up_self _ _ _ | (rw [va_up_ne _ _ (by omega)]; first | assumption | exact va_up_self _ _ _ | (rw [va_up_ne _ _ (by omega)]; first | assumption | exact va_up_self _ _ _ | (rw [va_up_ne _ _ (by omega)]; first | assumption | exact va_up_self _ _ _)))))) (by rfl) ?_
    refine mx_i2lI (mx_d D_M_weigh 53 rfl) (by omega) (by omega) ?_
    refine mx_lload (i := 5) (mx_d D_M_weigh 54 rfl) (by rfl) ?_
    refine mx_lmulI (mx_d D_M_weigh 55 rfl) ?_
    refine mx_lload (i := 5) (mx_d D_M_weigh 56 rfl) (by rfl) ?_
    refine mx_lmulI (mx_d D_M_weigh 57 rfl) ?_
    refine mx_lload (i := 9) (mx_d D_M_weigh 58 rfl) (by rfl) ?_
    refine mx_lload (i := 9) (mx_d D_M_weigh 59 rfl) (by rfl) ?_
    refine mx_lmulI (mx_d D_M_weigh 60 rfl) ?_
    refine mx_ldivI (mx_d D_M_weigh 61 rfl) (by omega) (by omega) (by omega) (by omega) ?_
    refine mx_l2iI (mx_d D_M_weigh 62 rfl) ?_
    refine mx_iret (by rfl) (mx_d D_M_weigh 63 rfl) ?_
    exact q
  · rw [wgt, if_neg hs0] at q
    refine mx_if_neN 23 (mx_d D_M_weigh 11 rfl) (by decide) (by omega) (by omega) (by omega) ?_
    refine mx_iconst (n := 0) (mx_d D_M_weigh 12 rfl) ?_
    refine mx_iret (by rfl) (mx_d D_M_weigh 13 rfl) ?_
    exact q
theorem m_slidTo (hG : mx_ok G) (hN : 63 ≤ N) (h50 : ce 50 = rs0 G th Y U nE iE nD rA rS rN pN rw) {fW : Nat → Int} (h53 : ce 53 = aI G 720 fW) (h57 : ce 57 = aI G 8 (fun j => (rn j : Int))) (h58 : ce 58 = aI G 8 (fun j => (rg j : Int))) (hV : IV Y U nE iE nD rA rS eA eS dA dS dW lc rn rg rN ps pN) (hf : ∀ i, i < nD → ∀ y, y < Y → fW (60 * i + y) = dW i y) {y : Nat} (hy : y < Y)
    (q : Q (.inl (some (.int (iI (slTo Y dW rn rg y rN))))) N ce bc bs) : mx_M G Y_M_slidTo d bc bs false N ce 0 [(0, .ref (mx_B G + 50)), (1, .int (iI y))] [] Q := by
  obtain ⟨hY, hU, hE, hD, hrA, hrS, hEA, hES, hDA, hDS, hDz, hDW, hrN, hrn, hpN, hps⟩ := hV
  refine mx_iconst (n := 0) (mx_d D_M_slidTo 0 rfl) ?_
  refine mx_istore_n (k4 := 2) (mx_d D_M_slidTo 1 rfl) (by decide) ?_
  refine mx_iconst (n := 0) (mx_d D_M_slidTo 2 rfl) ?_
  refine mx_istore_n (k4 := 3) (mx_d D_M_slidTo 3 rfl) (by decide) ?_
  suffices H : ∀ k i : Nat, i + k = rN → mx_M G Y_M_slidTo d bc bs false N ce 4 [(0, .ref (mx_B G + 50)), (1, .int (iI y)), (2, .int (iI (slTo Y dW rn rg y i))), (3, .int (iI i))] [] Q from mx_loc (by rfl) (H rN 0 (by omega))
  intro k
  induction k with
  | zero =>
    intro i hi
    obtain rfl : i = rN := by omega
    refine mx_iload_n (k4 := 3) (mx_d D_M_slidTo 4 rfl) (by rfl) ?_
    refine mx_aload_n (k4 := 0) (mx_d D_M_slidTo 5 rfl) (by rfl) ?_
    refine mx_getf hG (idx := 115) (ci := 7) (kf := 14) (mx_d D_M_slidTo 6 rfl) (by rfl) cls_M (by decide) w_595 (by first | assumption | omega) (by first | assumption | exact va_up_self _ _ _ | (rw [va_up_ne _ _ (by omega)]; first | assumption | exact va_up_self _ _ _ | (rw [va_up_ne _ _ (by omega)]; first | assumption | exact va_up_self _ _ _ | (rw [va_up_ne _ _ (by omega)]; first | assumption | exact va_up_self _ _ _ | (rw [va_up_ne _ _ (by omega)]; first | assumption | exact va_up_self _ _ _ | (rw [va_up_ne _ _ (by omega)]; first | assumption | exact va_up_self _ _ _)))))) (by rfl) ?_
    refine mx_icmp_geY 61 (mx_d D_M_slidTo 7 rfl) (by decide) (by omega) (by omega) (by omega) (by omega) (by omega) ?_
    refine mx_iload_n (k4 := 2) (mx_d D_M_slidTo 37 rfl) (by rfl) ?_
    refine mx_iret (by rfl) (mx_d D_M_slidTo 38 rfl) ?_
    exact q
  | succ k ih =>
    intro i hi
    have b1 := hrn i (by omega)
    refine mx_iload_n (k4 := 3) (mx_d D_M_slidTo 4 rfl) (by rfl) ?_
    refine mx_aload_n (k4 := 0) (mx_d D_M_slidTo 5 rfl) (by rfl) ?_
    refine mx_getf hG (idx := 115) (ci := 7) (kf := 14) (mx_d D_M_slidTo 6 rfl) (by rfl) cls_M (by decide) w_595 (by first | assumption | omega) (by first | assumption | exact va_up_self _ _ _ | (rw [va_up_ne _ _ (by omega)]; first | assumption | exact va_up_self _ _ _ | (rw [va_up_ne _ _ (by omega)]; first | assumption | exact va_up_self _ _ _ | (rw [va_up_ne _ _ (by omega)]; first | assumption | exact va_up_self _ _ _ | (rw [va_up_ne _ _ (by omega)]; first | assumption | exact va_up_self _ _ _ | (rw [va_up_ne _ _ (by omega)]; first | assumption | exact va_up_self _ _ _)))))) (by rfl) ?_
    refine mx_icmp_geN 61 (mx_d D_M_slidTo 7 rfl) (by decide) (by omega) (by omega) (by omega) (by omega) (by omega) ?_
    refine mx_iload_n (k4 := 1) (mx_d D_M_slidTo 8 rfl) (by rfl) ?_
    refine mx_aload_n (k4 := 0) (mx_d D_M_slidTo 9 rfl) (by rfl) ?_
    refine mx_getf hG (idx := 36) (ci := 7) (kf := 16) (mx_d D_M_slidTo 10 rfl) (by rfl) cls_M (by decide) w_597 (by first | assumption | omega) (by first | assumption | exact va_up_self _ _ _ | (rw [va_up_ne _ _ (by omega)]; first | assumption | exact va_up_self _ _ _ | (rw [va_up_ne _ _ (by omega)]; first | assumption | exact va_up_self _ _ _ | (rw [va_up_ne _ _ (by omega)]; first | assumption | exact va_up_self _ _ _ | (rw [va_up_ne _ _ (by omega)]; first | assumption | exact va_up_self _ _ _ | (rw [va_up_ne _ _ (by omega)]; first | assumption | exact va_up_self _ _ _)))))) (by rfl) ?_
    refine mx_iload_n (k4 := 3) (mx_d D_M_slidTo 11 rfl) (by rfl) ?_
    refine mx_ialdI hG _ (mx_d D_M_slidTo 12 rfl) (by first | assumption | omega) (by first | assumption | exact va_up_self _ _ _ | (rw [va_up_ne _ _ (by omega)]; first | assumption | exact va_up_self _ _ _ | (rw [va_up_ne _ _ (by omega)]; first | assumption | exact va_up_self _ _ _ | (rw [va_up_ne _ _ (by omega)]; first | assumption | exact va_up_self _ _ _ | (rw [va_up_ne _ _ (by omega)]; first | assumption | exact va_up_self _ _ _ | (rw [va_up_ne _ _ (by omega)]; first | assumption | exact va_up_self _ _ _)))))) (by rfl) (by omega) (by omega) ?_
    refine mx_iaddI (mx_d D_M_slidTo 13 rfl) ?_
    refine mx_istore (i := 4) (mx_d D_M_slidTo 14 rfl) (by decide) ?_
    refine mx_iload (i := 4) (mx_d D_M_slidTo 15 rfl) (by rfl) ?_
    refine mx_aload_n (k4 := 0) (mx_d D_M_slidTo 16 rfl) (by rfl) ?_
    refine mx_getf hG (idx := 51) (ci := 7) (kf := 1) (mx_d D_M_slidTo 17 rfl) (by rfl) cls_M (by decide) w_582 (by first | assumption | omega) (by first | assumption | exact va_up_self _ _ _ | (rw [va_up_ne _ _ (by omega)]; first | assumption | exact va_up_self _ _ _ | (rw [va_up_ne _ _ (by omega)]; first | assumption | exact va_up_self _ _ _ | (rw [va_up_ne _ _ (by omega)]; first | assumption | exact va_up_self _ _ _ | (rw [va_up_ne _ _ (by omega)]; first | assumption | exact va_up_self _ _ _ | (rw [va_up_ne _ _ (by omega)]; first | assumption | exact va_up_self _ _ _)))))) (by rfl) ?_
    by_cases hc : y + rg i < Y
    · refine mx_icmp_geN 53 (mx_d D_M_slidTo 18 rfl) (by decide) (by omega) (by omega) (by omega) (by omega) (by omega) ?_
      refine mx_iload_n (k4 := 2) (mx_d D_M_slidTo 19 rfl) (by rfl) ?_
      refine mx_aload_n (k4 := 0) (mx_d D_M_slidTo 20 rfl) (by rfl) ?_
      refine mx_getf hG (idx := 20) (ci := 7) (kf := 10) (mx_d D_M_slidTo 21 rfl) (by rfl) cls_M (by decide) w_591 (by first | assumption | omega) (by first | assumption | exact va_up_self _ _ _ | (rw [va_up_ne _ _ (by omega)]; first | assumption | exact va_up_self _ _ _ | (rw [va_up_ne _ _ (by omega)]; first | assumption | exact va_up_self _ _ _ | (rw [va_up_ne _ _ (by omega)]; first | assumption | exact va_up_self _ _ _ | (rw [va_up_ne _ _ (by omega)]; first | assumption | exact va_up_self _ _ _ | (rw [va_up_ne _ _ (by omega)]; first | assumption | exact va_up_self _ _ _)))))) (by rfl) ?_
      refine mx_bipush (n := 60) (mx_d D_M_slidTo 22 rfl) (by decide) ?_
      refine mx_aload_n (k4 := 0) (mx_d D_M_slidTo 23 rfl) (by rfl) ?_
      refine mx_getf hG (idx := 33) (ci := 7) (kf := 15) (mx_d D_M_slidTo 24 rfl) (by rfl) cls_M (by decide) w_596 (by first | assumption | omega) (by first | assumption | exact va_up_self _ _ _ | (rw [va_up_ne _ _ (by omega)]; first | assumption | exact va_up_self _ _ _ | (rw [va_up_ne _ _ (by omega)]; first | assumption | exact va_up_self _ _ _ | (rw [va_up_ne _ _ (by omega)]; first | assumption | exact va_up_self _ _ _ | (rw [va_up_ne _ _ (by omega)]; first | assumption | exact va_up_self _ _ _ | (rw [va_up_ne _ _ (by omega)]; first | assumption | exact va_up_self _ _ _)))))) (by rfl) ?_
      refine mx_iload_n (k4 := 3) (mx_d D_M_slidTo 25 rfl) (by rfl) ?_
      refine mx_ialdI hG _ (mx_d D_M_slidTo 26 rfl) (by first | assumption | omega) (by first | assumption | exact va_up_self _ _ _ | (rw [va_up_ne _ _ (by omega)]; first | assumption | exact va_up_self _ _ _ | (rw [va_up_ne _ _ (by omega)]; first | assumption | exact va_up_self _ _ _ | (rw [va_up_ne _ _ (by omega)]; first | assumption | exact va_up_self _ _ _ | (rw [va_up_ne _ _ (by omega)]; first | assumption | exact va_up_self _ _ _ | (rw [va_up_ne _ _ (by omega)]; first | assumption | exact va_up_self _ _ _)))))) (by rfl) (by omega) (by omega) ?_
      refine mx_imulI (mx_d D_M_slidTo 27 rfl) ?_
      refine mx_iload (i := 4) (mx_d D_M_slidTo 28 rfl) (by rfl) ?_
      refine mx_iaddI (mx_d D_M_slidTo 29 rfl) ?_
      refine mx_ialdI hG (60 * rn i + (y + rg i)) (mx_d D_M_slidTo 30 rfl) (by first | assumption | omega) (by first | assumption | exact va_up_self _ _ _ | (rw [va_up_ne _ _ (by omega)]; first | assumption | exact va_up_self _ _ _ | (rw [va_up_ne _ _ (by omega)]; first | assumption | exact va_up_self _ _ _ | (rw [va_up_ne _ _ (by omega)]; first | assumption | exact va_up_self _ _ _ | (rw [va_up_ne _ _ (by omega)]; first | assumption | exact va_up_self _ _ _ | (rw [va_up_ne _ _ (by omega)]; first | assumption | exact va_up_self _ _ _)))))) (by rfl) (by omega) (by omega) ?_
      rw [hf (rn i) b1.1 (y + rg i) hc]
      refine mx_iaddI (mx_d D_M_slidTo 31 rfl) ?_
      refine mx_goto 54 (mx_d D_M_slidTo 32 rfl) (by decide) ?_
      refine mx_istore_n (k4 := 2) (mx_d D_M_slidTo 34 rfl) (by decide) ?_
      refine mx_iincI (i := 3) (n := 1) (mx_d D_M_slidTo 35 rfl) (by rfl) (by decide) ?_
      refine mx_goto 4 (mx_d D_M_slidTo 36 rfl) (by decide) ?_
      refine mx_loc ?_ (ih (i + 1) (by omega))
      simp only [slTo, if_pos hc]
      rfl
    · refine mx_icmp_geY 53 (mx_d D_M_slidTo 18 rfl) (by decide) (by omega) (by omega) (by omega) (by omega) (by omega) ?_
      refine mx_iload_n (k4 := 2) (mx_d D_M_slidTo 33 rfl) (by rfl) ?_
      refine mx_istore_n (k4 := 2) (mx_d D_M_slidTo 34 rfl) (by decide) ?_
      refine mx_iincI (i := 3) (n := 1) (mx_d D_M_slidTo 35 rfl) (by rfl) (by decide) ?_
      refine mx_goto 4 (mx_d D_M_slidTo 36 rfl) (by decide) ?_
      refine mx_loc ?_ (ih (i + 1) (by omega))
      simp only [slTo, if_neg hc, Int.add_zero]
      rfl
end MA
