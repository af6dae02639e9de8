/-! the reference: signs; curve, edition, use, reservoir, date, weight, total, gap, slid, clear, wiggle -/
theorem wiB_iff {v lo hi : Int} : wiB v lo hi = true ↔ lo ≤ v ∧ v ≤ hi := by simp [wiB]
section MC
variable {G : mx_G} {d bc bs : Nat} {N : Nat} {ce : Nat → va_E} {Q : mx_P} {Y : Nat} {U : Int} {nE iE nD : Nat} {rA rS : Int} {eA eS : Nat → Nat → Int} {dA dS : Nat → Int} {dW : Nat → Nat → Int} {lc : Nat → Bool} {rn rg : Nat → Nat} {rN : Nat} {ps : Nat → Int} {pN : Nat} {th : Int} {rw : Nat}
theorem m_signs {x : Int32} (q : Q (.inl (some (.int (iI (sgN x 4 : Nat))))) N ce bc bs) : mx_M G Y_M_signs d bc bs false N ce 0 [(0, .int x)] [] Q := by
  refine mx_iconst (n := 0) (mx_d D_M_signs 0 rfl) ?_
  refine mx_istore_n (k4 := 1) (mx_d D_M_signs 1 rfl) (by decide) ?_
  refine mx_iconst (n := 0) (mx_d D_M_signs 2 rfl) ?_
  refine mx_istore_n (k4 := 2) (mx_d D_M_signs 3 rfl) (by decide) ?_
  suffices H : ∀ k i : Nat, i + k = 4 → mx_M G Y_M_signs d bc bs false N ce 4 [(0, .int x), (1, .int (iI (sgN x i : Nat))), (2, .int (iI i))] [] Q from mx_loc (by rfl) (H 4 0 (by omega))
  intro k
  induction k with
  | zero =>
    intro i hi
    obtain rfl : i = 4 := by omega
    refine mx_iload_n (k4 := 2) (mx_d D_M_signs 4 rfl) (by rfl) ?_
    refine mx_iconst (n := 4) (mx_d D_M_signs 5 rfl) ?_
    refine mx_icmp_geY 36 (mx_d D_M_signs 6 rfl) (by decide) (by omega) (by omega) (by omega) (by omega) (by omega) ?_
    refine mx_iload_n (k4 := 1) (mx_d D_M_signs 23 rfl) (by rfl) ?_
    refine mx_iret (by rfl) (mx_d D_M_signs 24 rfl) ?_
    exact q
  | succ k ih =>
    intro i hi
    have b1 := sg_lo x i
    have b2 := sg_hi x i
    have es : ((x.toUInt32 >>> ((iI (8 * (i : Int))).toUInt32 &&& Int32.toUInt32 31)).toInt32 &&& iI 255) = iI (sg x i) := iI_of _
    refine mx_iload_n (k4 := 2) (mx_d D_M_signs 4 rfl) (by rfl) ?_
    refine mx_iconst (n := 4) (mx_d D_M_signs 5 rfl) ?_
    refine mx_icmp_geN 36 (mx_d D_M_signs 6 rfl) (by decide) (by omega) (by omega) (by omega) (by omega) (by omega) ?_
    refine mx_iload_n (k4 := 0) (mx_d D_M_signs 7 rfl) (by rfl) ?_
    refine mx_bipush (n := 8) (mx_d D_M_signs 8 rfl) (by decide) ?_
    refine mx_iload_n (k4 := 2) (mx_d D_M_signs 9 rfl) (by rfl) ?_
    refine mx_imulI (mx_d D_M_signs 10 rfl) ?_
    refine mx_iushr (mx_d D_M_signs 11 rfl) ?_
    refine mx_sipush (n := 255) (mx_d D_M_signs 12 rfl) (by decide) ?_
    refine mx_iand (mx_d D_M_signs 13 rfl) ?_
    rw [es]
    by_cases hz : sg x i = 0
    · refine mx_if_eqY 28 (mx_d D_M_signs 14 rfl) (by decide) (by omega) (by omega) (by omega) ?_
      refine mx_iload_n (k4 := 1) (mx_d D_M_signs 19 rfl) (by rfl) ?_
      refine mx_istore_n (k4 := 1) (mx_d D_M_signs 20 rfl) (by decide) ?_
      refine mx_iincI (i := 2) (n := 1) (mx_d D_M_signs 21 rfl) (by rfl) (by decide) ?_
      refine mx_goto 4 (mx_d D_M_signs 22 rfl) (by decide) ?_
      refine mx_loc ?_ (ih (i + 1) (by omega))
      simp only [sgN, if_pos hz, Nat.add_zero]
      rfl
    · refine mx_if_eqN 28 (mx_d D_M_signs 14 rfl) (by decide) (by omega) (by omega) (by omega) ?_
      refine mx_iload_n (k4 := 1) (mx_d D_M_signs 15 rfl) (by rfl) ?_
      refine mx_iconst (n := 1) (mx_d D_M_signs 16 rfl) ?_
      refine mx_iaddI (mx_d D_M_signs 17 rfl) ?_
      refine mx_goto 29 (mx_d D_M_signs 18 rfl) (by decide) ?_
      refine mx_istore_n (k4 := 1) (mx_d D_M_signs 20 rfl) (by decide) ?_
      refine mx_iincI (i := 2) (n := 1) (mx_d D_M_signs 21 rfl) (by rfl) (by decide) ?_
      refine mx_goto 4 (mx_d D_M_signs 22 rfl) (by decide) ?_
      refine mx_loc ?_ (ih (i + 1) (by omega))
      simp only [sgN, if_neg hz]
      rfl
theorem m_plain {x : Int32} (q : Q (.inl (some (.int (iI (bI (sgOk x 4)))))) N ce bc bs) : mx_M G Y_M_plain (d + 1) bc bs false N ce 0 [(0, .int x)] [] Q := by
  refine mx_iconst (n := 1) (mx_d D_M_plain 0 rfl) ?_
  refine mx_istore_n (k4 := 1) (mx_d D_M_plain 1 rfl) (by decide) ?_
  refine mx_iconst (n := 0) (mx_d D_M_plain 2 rfl) ?_
  refine mx_istore_n (k4 := 2) (mx_d D_M_plain 3 rfl) (by decide) ?_
  suffices H : ∀ k i : Nat, i + k = 4 → mx_M G Y_M_plain (d + 1) bc bs false N ce 4 [(0, .int x), (1, .int (iI (bI (sgOk x i)))), (2, .int (iI i))] [] Q from mx_loc (by rfl) (H 4 0 (by omega))
  intro k
  induction k with
  | zero =>
    intro i hi
    obtain rfl : i = 4 := by omega
    refine mx_iload_n (k4 := 2) (mx_d D_M_plain 4 rfl) (by rfl) ?_
    refine mx_iconst (n := 4) (mx_d D_M_plain 5 rfl) ?_
    refine mx_icmp_geY 51 (mx_d D_M_plain 6 rfl) (by decide) (by omega) (by omega) (by omega) (by omega) (by omega) ?_
    refine mx_iload_n (k4 := 1) (mx_d D_M_plain 30 rfl) (by rfl) ?_
    refine mx_zret (by rfl) (mx_d D_M_plain 31 rfl) (bI_nar _) ?_
    exact q
  | succ k ih =>
    intro i hi
    have b1 := sg_lo x i
    have b2 := sg_hi x i
    have es : ((x.toUInt32 >>> ((iI (8 * (i : Int))).toUInt32 &&& Int32.toUInt32 31)).toInt32 &&& iI 255) = iI (sg x i) := iI_of _
    have join : ∀ (b : Bool) (u : Int), sgOk x (i + 1) = b → mx_M G Y_M_plain (d + 1) bc bs false N ce 44 [(0, .int x), (1, .int (iI u)), (2, .int (iI i))] [.int (iI (bI b))] Q := by
      intro b u hb
      subst hb
      refine mx_istore_n (k4 := 1) (mx_d D_M_plain 27 rfl) (by decide) ?_
      refine mx_iincI (i := 2) (n := 1) (mx_d D_M_plain 28 rfl) (by rfl) (by decide) ?_
      refine mx_goto 4 (mx_d D_M_plain 29 rfl) (by decide) ?_
      exact mx_loc (by rfl) (ih (i + 1) (by omega))
    refine mx_iload_n (k4 := 2) (mx_d D_M_plain 4 rfl) (by rfl) ?_
    refine mx_iconst (n := 4) (mx_d D_M_plain 5 rfl) ?_
    refine mx_icmp_geN 51 (mx_d D_M_plain 6 rfl) (by decide) (by omega) (by omega) (by omega) (by omega) (by omega) ?_
    refine mx_iload_n (k4 := 0) (mx_d D_M_plain 7 rfl) (by rfl) ?_
    refine mx_bipush (n := 8) (mx_d D_M_plain 8 rfl) (by decide) ?_
    refine mx_iload_n (k4 := 2) (mx_d D_M_plain 9 rfl) (by rfl) ?_
    refine mx_imulI (mx_d D_M_plain 10 rfl) ?_
    refine mx_iushr (mx_d D_M_plain 11 rfl) ?_
    refine mx_sipush (n := 255) (mx_d D_M_plain 12 rfl) (by decide) ?_
    refine mx_iand (mx_d D_M_plain 13 rfl) ?_
    rw [es]
    refine mx_istore_n (k4 := 3) (mx_d D_M_plain 14 rfl) (by decide) ?_
    refine mx_iload_n (k4 := 1) (mx_d D_M_plain 15 rfl) (by rfl) ?_
    cases h1 : sgOk x i with
    | false =>
      refine mx_if_eqY 43 (mx_d D_M_plain 16 rfl) (by decide) (by decide) (by decide) (by decide) ?_
      refine mx_iconst (n := 0) (mx_d D_M_plain 26 rfl) ?_
      exact mx_loc (by rfl) (join false 0 (by simp only [sgOk, h1, Bool.false_and]))
    | true =>
      refine mx_if_eqN 43 (mx_d D_M_plain 16 rfl) (by decide) (by decide) (by decide) (by decide) ?_
      refine mx_iload_n (k4 := 3) (mx_d D_M_plain 17 rfl) (by rfl) ?_
      by_cases hz : sg x i = 0
      · refine mx_if_eqY 39 (mx_d D_M_plain 18 rfl) (by decide) (by omega) (by omega) (by omega) ?_
        refine mx_iconst (n := 1) (mx_d D_M_plain 24 rfl) ?_
        refine mx_goto 44 (mx_d D_M_plain 25 rfl) (by decide) ?_
        exact mx_loc (by rfl) (join true 1 (by simp [sgOk, h1, hz]))
      · refine mx_if_eqN 39 (mx_d D_M_plain 18 rfl) (by decide) (by omega) (by omega) (by omega) ?_
        refine mx_iload_n (k4 := 3) (mx_d D_M_plain 19 rfl) (by rfl) ?_
        refine mx_bipush (n := 32) (mx_d D_M_plain 20 rfl) (by decide) ?_
        refine mx_bipush (n := 126) (mx_d D_M_plain 21 rfl) (by decide) ?_
        refine mx_callS (Y' := Y_M_within) [_, _, _] (mx_d D_M_plain 22 rfl) in_M_within w_663 w_664 np_M_within (by exact Nat.le_of_ble_eq_true rfl) (by rfl) (by rfl) (by exact Nat.le_of_ble_eq_true rfl) (m_within b1 b2 (by omega) (by omega) (by omega) (by omega) ?_)
        cases h2 : wiB (sg x i) 32 126 with
        | false =>
          refine mx_if_eqY 43 (mx_d D_M_plain 23 rfl) (by decide) (by decide) (by decide) (by decide) ?_
          refine mx_iconst (n := 0) (mx_d D_M_plain 26 rfl) ?_
          refine mx_loc (by rfl) (join false 1 ?_)
          have : ¬ (32 ≤ sg x i ∧ sg x i ≤ 126) := fun z => by rw [wiB_iff.mpr z] at h2; exact absurd h2 (by decide)
          simp only [sgOk, h1, Bool.true_and, Bool.or_eq_false_iff, Bool.and_eq_false_iff, decide_eq_false_iff_not]
          omega
        | true =>
          refine mx_if_eqN 43 (mx_d D_M_plain 23 rfl) (by decide) (by decide) (by decide) (by decide) ?_
          refine mx_iconst (n := 1) (mx_d D_M_plain 24 rfl) ?_
          refine mx_goto 44 (mx_d D_M_plain 25 rfl) (by decide) ?_
          refine mx_loc (by rfl) (join true 1 ?_)
          have := wiB_iff.mp h2
          simp only [sgOk, h1, Bool.true_and, Bool.or_eq_true, Bool.and_eq_true, decide_eq_true_eq]
          omega
theorem m_push (hG : mx_ok G) (hN : 63 ≤ N) (h50 : ce 50 = rs0 G th Y U nE iE nD rA rS rN pN rw) (h59 : ce 59 = aI G 100 ps) {x : Int32} (hn : pN + sgN x 4 ≤ 100)
    (q : Q (.inl none) N (va_up (va_up ce 59 (aI G 100 (sgP x ps pN 4))) 50 (rs0 G th Y U nE iE nD rA rS rN (pN + sgN x 4) rw)) bc bs) : mx_M G Y_M_push d bc bs false N ce 0 [(0, .ref (mx_B G + 50)), (1, .int x)] [] Q := by
  refine mx_iconst (n := 0) (mx_d D_M_push 0 rfl) ?_
  refine mx_istore_n (k4 := 2) (mx_d D_M_push 1 rfl) (by decide) ?_
  suffices H : ∀ k i : Nat, i + k = 4 → mx_M G Y_M_push d bc bs false N (va_up (va_up ce 59 (aI G 100 (sgP x ps pN i))) 50 (rs0 G th Y U nE iE nD rA rS rN (pN + sgN x i) rw)) 2 [(0, .ref (mx_B G + 50)), (1, .int x), (2, .int (iI i))] [] Q by
    have H0 := H 4 0 (by omega)
    have e : va_up (va_up ce 59 (aI G 100 (sgP x ps pN 0))) 50 (rs0 G th Y U nE iE nD rA rS rN (pN + sgN x 0) rw) = ce := by
      rw [show sgP x ps pN 0 = ps from rfl, show pN + sgN x 0 = pN from rfl, va_up_id ce 59 h59, va_up_id ce 50 h50]
    rw [e] at H0
    exact mx_loc (by rfl) H0
  intro k
  induction k with
  | zero =>
    intro i hi
    obtain rfl : i = 4 := by omega
    refine mx_iload_n (k4 := 2) (mx_d D_M_push 2 rfl) (by rfl) ?_
    refine mx_iconst (n := 4) (mx_d D_M_push 3 rfl) ?_
    refine mx_icmp_geY 55 (mx_d D_M_push 4 rfl) (by decide) (by omega) (by omega) (by omega) (by omega) (by omega) ?_
    refine mx_vret (by rfl) (mx_d D_M_push 33 rfl) ?_
    exact q
  | succ k ih =>
    intro i hi
    have b1 := sg_lo x i
    have b2 := sg_hi x i
    have b3 := sgN_mono x (show i + 1 ≤ 4 by omega)
    have es : ((x.toUInt32 >>> ((iI (8 * (i : Int))).toUInt32 &&& Int32.toUInt32 31)).toInt32 &&& iI 255) = iI (sg x i) := iI_of _
    refine mx_iload_n (k4 := 2) (mx_d D_M_push 2 rfl) (by rfl) ?_
    refine mx_iconst (n := 4) (mx_d D_M_push 3 rfl) ?_
    refine mx_icmp_geN 55 (mx_d D_M_push 4 rfl) (by decide) (by omega) (by omega) (by omega) (by omega) (by omega) ?_
    refine mx_iload_n (k4 := 1) (mx_d D_M_push 5 rfl) (by rfl) ?_
    refine mx_bipush (n := 8) (mx_d D_M_push 6 rfl) (by decide) ?_
    refine mx_iload_n (k4 := 2) (mx_d D_M_push 7 rfl) (by rfl) ?_
    refine mx_imulI (mx_d D_M_push 8 rfl) ?_
    refine mx_iushr (mx_d D_M_push 9 rfl) ?_
    refine mx_sipush (n := 255) (mx_d D_M_push 10 rfl) (by decide) ?_
    refine mx_iand (mx_d D_M_push 11 rfl) ?_
    rw [es]
    by_cases hz : sg x i = 0
    · refine mx_if_eqY 49 (mx_d D_M_push 12 rfl) (by decide) (by omega) (by omega) (by omega) ?_
      refine mx_iincI (i := 2) (n := 1) (mx_d D_M_push 31 rfl) (by rfl) (by decide) ?_
      refine mx_goto 2 (mx_d D_M_push 32 rfl) (by decide) ?_
      refine mx_loc (by rfl) (mx_ce ?_ (ih (i + 1) (by omega)))
      simp only [sgN, sgP, if_pos hz, Nat.add_zero]
    · have b4 : pN + sgN x i < 100 := by have e0 : sgN x (i + 1) = sgN x i + 1 := by { simp only [sgN, if_neg hz] }; omega
      refine mx_if_eqN 49 (mx_d D_M_push 12 rfl) (by decide) (by omega) (by omega) (by omega) ?_
      refine mx_aload_n (k4 := 0) (mx_d D_M_push 13 rfl) (by rfl) ?_
      refine mx_getf hG (idx := 39) (ci := 7) (kf := 18) (mx_d D_M_push 14 rfl) (by rfl) cls_M (by decide) w_599 (by first | assumption | omega) (by first | assumption | exact va_up_self _ _ _ | (rw [va_up_ne _ _ (by omega)]; first | assumption | exact va_up_self _ _ _ | (rw [va_up_ne _ _ (by omega)]; first | assumption | exact va_up_self _ _ _ | (rw [va_up_ne _ _ (by omega)]; first | assumption | exact va_up_self _ _ _ | (rw [va_up_ne _ _ (by omega)]; first | assumption | exact va_up_self _ _ _ | (rw [va_up_ne _ _ (by omega)]; first | assumption | exact va_up_self _ _ _)))))) (by rfl) ?_
      refine mx_aload_n (k4 := 0) (mx_d D_M_push 15 rfl) (by rfl) ?_
      refine mx_getf hG (idx := 121) (ci := 7) (kf := 17) (mx_d D_M_push 16 rfl) (by rfl) cls_M (by decide) w_598 (by first | assumption | omega) (by first | assumption | exact va_up_self _ _ _ | (rw [va_up_ne _ _ (by omega)]; first | assumption | exact va_up_self _ _ _ | (rw [va_up_ne _ _ (by omega)]; first | assumption | exact va_up_self _ _ _ | (rw [va_up_ne _ _ (by omega)]; first | assumption | exact va_up_self _ _ _ | (rw [va_up_ne _ _ (by omega)]; first | assumption | exact va_up_self _ _ _ | (rw [va_up_ne _ _ (by omega)]; first | assumption | exact va_up_self _ _ _)))))) (by rfl) ?_
      refine mx_iload_n (k4 := 1) (mx_d D_M_push 17 rfl) (by rfl) ?_
      refine mx_bipush (n := 8) (mx_d D_M_push 18 rfl) (by decide) ?_
      refine mx_iload_n (k4 := 2) (mx_d D_M_push 19 rfl) (by rfl) ?_
      refine mx_imulI (mx_d D_M_push 20 rfl) ?_
      refine mx_iushr (mx_d D_M_push 21 rfl) ?_
      refine mx_sipush (n := 255) (mx_d D_M_push 22 rfl) (by decide) ?_
      refine mx_iand (mx_d D_M_push 23 rfl) ?_
      rw [es]
      refine mx_iastI hG _ _ (mx_d D_M_push 24 rfl) (by first | assumption | omega) (by first | assumption | exact va_up_self _ _ _ | (rw [va_up_ne _ _ (by omega)]; first | assumption | exact va_up_self _ _ _ | (rw [va_up_ne _ _ (by omega)]; first | assumption | exact va_up_self _ _ _ | (rw [va_up_ne _ _ (by omega)]; first | assumption | exact va_up_self _ _ _ | (rw [va_up_ne _ _ (by omega)]; first | assumption | exact va_up_self _ _ _ | (rw [va_up_ne _ _ (by omega)]; first | assumption | exact va_up_self _ _ _)))))) (by rfl) (by rfl) (by omega) (by omega) ?_
      refine mx_aload_n (k4 := 0) (mx_d D_M_push 25 rfl) (by rfl) ?_
      refine mx_dup (mx_d D_M_push 26 rfl) (by rfl) ?_
      refine mx_getf hG (idx := 121) (ci := 7) (kf := 17) (mx_d D_M_push 27 rfl) (by rfl) cls_M (by decide) w_598 (by first | assumption | omega) (by first | assumption | exact va_up_self _ _ _ | (rw [va_up_ne _ _ (by omega)]; first | assumption | exact va_up_self _ _ _ | (rw [va_up_ne _ _ (by omega)]; first | assumption | exact va_up_self _ _ _ | (rw [va_up_ne _ _ (by omega)]; first | assumption | exact va_up_self _ _ _ | (rw [va_up_ne _ _ (by omega)]; first | assumption | exact va_up_self _ _ _ | (rw [va_up_ne _ _ (by omega)]; first | assumption | exact va_up_self _ _ _)))))) (by rfl) ?_
      refine mx_iconst (n := 1) (mx_d D_M_push 28 rfl) ?_
      refine mx_iaddI (mx_d D_M_push 29 rfl) ?_
      refine mx_putf hG (idx := 121) (ci := 7) (kf := 17) (t := (.int)) (mx_d D_M_push 30 rfl) (by rfl) cls_M (by decide) (Or.inl rfl) w_598 (by first | assumption | omega) (by first | assumption | exact va_up_self _ _ _ | (rw [va_up_ne _ _ (by omega)]; first | assumption | exact va_up_self _ _ _ | (rw [va_up_ne _ _ (by omega)]; first | assumption | exact va_up_self _ _ _ | (rw [va_up_ne _ _ (by omega)]; first | assumption | exact va_up_self _ _ _ | (rw [va_up_ne _ _ (by omega)]; first | assumption | exact va_up_self _ _ _ | (rw [va_up_ne _ _ (by omega)]; first | assumption | exact va_up_self _ _ _)))))) (by exact Nat.le_of_ble_eq_true rfl) (by decide +kernel) (by rfl) (by rfl) ?_
      refine mx_iincI (i := 2) (n := 1) (mx_d D_M_push 31 rfl) (by rfl) (by decide) ?_
      refine mx_goto 2 (mx_d D_M_push 32 rfl) (by decide) ?_
      refine mx_loc (by rfl) (mx_ce ?_ (ih (i + 1) (by omega)))
      simp only [sgN, sgP, if_neg hz]
      funext j
      by_cases j1 : j = 50
      · subst j1; rw [va_up_self, va_up_self]; rfl
      · rw [va_up_ne _ _ j1, va_up_ne _ _ j1]
        by_cases j2 : j = 59
        · subst j2; rw [va_up_self, va_up_self]
        · rw [va_up_ne _ _ j2, va_up_ne _ _ j1, va_up_ne _ _ j2, va_up_ne _ _ j2]
end MC
