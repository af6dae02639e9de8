/-! the class's methods: date, sum, mix, joinRepeats -/
def wgt (U v a A S : Int) : Int := if 0 < S then U * (v + S * S) * (v + S * S) / ((v + S * S + (a - A) * (a - A)) * (v + S * S + (a - A) * (a - A))) else 0
theorem sq_nn (x : Int) : 0 ≤ x * x := by
  rcases Int.le_total 0 x with h | h
  · exact Int.mul_nonneg h h
  · have := Int.mul_nonneg (Int.neg_nonneg.mpr h) (Int.neg_nonneg.mpr h); rwa [Int.neg_mul_neg] at this
theorem sq_le {x m : Int} (h1 : -m ≤ x) (h2 : x ≤ m) : x * x ≤ m * m := by
  rcases Int.le_total 0 x with h | h
  · exact Int.mul_le_mul h2 h2 h (by omega)
  · have := Int.mul_le_mul (show -x ≤ m by omega) (show -x ≤ m by omega) (by omega) (by omega)
    rwa [Int.neg_mul_neg] at this
/-- the sizes in the weight's quotient -/
theorem wgt_sz {U v a A S : Int} (hU1 : 1 ≤ U) (hU2 : U ≤ 65536) (hv1 : 0 ≤ v) (hv2 : v ≤ 20000) (ha1 : -4000 ≤ a - A) (ha2 : a - A ≤ 4000) (hS1 : 0 < S) (hS2 : S ≤ 100) : (1 ≤ S * S ∧ S * S ≤ 10000) ∧ (0 ≤ (a - A) * (a - A) ∧ (a - A) * (a - A) ≤ 16000000) ∧ (0 ≤ U * (v + S * S) * (v + S * S) ∧ U * (v + S * S) * (v + S * S) ≤ 65536 * 30000 * 30000) ∧ (0 < (v + S * S + (a - A) * (a - A)) * (v + S * S + (a - A) * (a - A)) ∧ (v + S * S + (a - A) * (a - A)) * (v + S * S + (a - A) * (a - A)) ≤ 16030000 * 16030000) ∧ U * (v + S * S) * (v + S * S) ≤ U * ((v + S * S + (a - A) * (a - A)) * (v + S * S + (a - A) * (a - A))) := by
  have s1 : 1 * 1 ≤ S * S := Int.mul_le_mul (by omega) (by omega) (by omega) (by omega)
  have s2 : S * S ≤ 100 * 100 := sq_le (by omega) hS2
  have d1 := sq_nn (a - A)
  have d2 : (a - A) * (a - A) ≤ 4000 * 4000 := sq_le (by omega) ha2
  generalize (a - A) * (a - A) = D at *
  generalize hs : v + S * S = s at *
  have t1 : U * s ≤ 65536 * 30000 := Int.mul_le_mul hU2 (by omega) (by omega) (by omega)
  have t0 : 0 ≤ U * s := Int.mul_nonneg (by omega) (by omega)
  have t2 : U * s * s ≤ 65536 * 30000 * 30000 := Int.mul_le_mul t1 (by omega) (by omega) (by omega)
  have t3 : 0 ≤ U * s * s := Int.mul_nonneg t0 (by omega)
  have u1 : (s + D) * (s + D) ≤ 16030000 * 16030000 := Int.mul_le_mul (by omega) (by omega) (by omega) (by omega)
  have u2 : 0 < (s + D) * (s + D) := Int.mul_pos (by omega) (by omega)
  have u3 : s * s ≤ (s + D) * (s + D) := Int.mul_le_mul (by omega) (by omega) (by omega) (by omega)
  have u4 : U * s * s ≤ U * ((s + D) * (s + D)) := by rw [Int.mul_assoc]; exact Int.mul_le_mul_of_nonneg_left u3 (by omega)
  exact ⟨⟨by omega, by omega⟩, ⟨by omega, by omega⟩, ⟨t3, t2⟩, ⟨u2, u1⟩, u4⟩
theorem wgt_bd {U v a A S : Int} (hU1 : 1 ≤ U) (hU2 : U ≤ 65536) (hv1 : 0 ≤ v) (hv2 : v ≤ 20000) (ha1 : -4000 ≤ a - A) (ha2 : a - A ≤ 4000) (hS2 : S ≤ 100) : 0 ≤ wgt U v a A S ∧ wgt U v a A S ≤ 1000000 := by
  unfold wgt
  by_cases h : 0 < S
  · rw [if_pos h]
    obtain ⟨-, -, h3, h4, h5⟩ := wgt_sz hU1 hU2 hv1 hv2 ha1 ha2 h hS2
    have := Int.ediv_nonneg h3.1 (Int.le_of_lt h4.1)
    have h6 := Int.ediv_le_of_le_mul h4.1 h5
    exact ⟨this, by omega⟩
  · rw [if_neg h]; omega
def isRt (q r : Int) : Prop := 1 ≤ r ∧ r ≤ 100 ∧ (r = 1 ∨ r * r ≤ q) ∧ q < (r + 1) * (r + 1)
section CD
variable {G : mx_G} {d bc bs : Nat} {N : Nat} {ce : Nat → va_E} {Q : mx_P} {Y : Nat} {U : Int} {nE iE nD : Nat} {rA rS : Int} {eA eS : Nat → Nat → Int} {dA dS : Nat → Int} {dW : Nat → Nat → Int} {lc : Nat → Bool} {rn rg : Nat → Nat} {rN : Nat} {ps : Nat → Int} {pN : Nat}
theorem c_weightBy' (hG : mx_ok G) (hN : 50 ≤ N) (c0 : ce 0 = cs0 G Y U nE iE nD rA rS) (cE : csE G Y eA eS ce) (hY : 8 ≤ Y ∧ Y ≤ 60) (hU : 1 ≤ U ∧ U ≤ 65536) (hE1 : nE ≤ 4) (hE2 : iE < nE) (hEA : ∀ e, e < 4 → ∀ y, y < Y → 0 ≤ eA e y ∧ eA e y ≤ 3000) (hES : ∀ e, e < 4 → ∀ y, y < Y → 0 ≤ eS e y ∧ eS e y ≤ 100) {y : Nat} {a v : Int} (hy : y < Y) (hv1 : 0 ≤ v) (hv2 : v ≤ 20000) (ha1 : -1000 ≤ a) (ha2 : a ≤ 4000)
    (q : Q (.inl (some (.int (iI (wgt U v a (eA iE y) (eS iE y)))))) N ce bc bs) : mx_M G Y_C_weightBy (d + 1) bc bs false N ce 0 [(0, .ref (mx_B G + 0)), (1, .ref (mx_B G + (2 + 3 * iE))), (2, .int (iI y)), (3, .int (iI a)), (4, .int (iI v))] [] Q := by
  obtain ⟨hEa, hEb, hEc⟩ := cE iE (by omega)
  have b1 := hEA iE (by omega) y hy
  have b2 := hES iE (by omega) y hy
  refine mx_aload_n (k4 := 1) (mx_d D_C_weightBy 0 rfl) (by rfl) ?_
  refine mx_iload_n (k4 := 2) (mx_d D_C_weightBy 1 rfl) (by rfl) ?_
  refine mx_callV hG (Y' := Y_E_hasRow) (ci := 1) [_] (mx_d D_C_weightBy 2 rfl) in_E_hasRow w_416 w_241 s_E_hasRow (by rfl) np_E_hasRow (by exact Nat.le_of_ble_eq_true rfl) (by rfl) (by first | assumption | omega) (by first | assumption | exact va_up_self _ _ _ | (rw [va_up_ne _ _ (by omega)]; first | assumption | exact va_up_self _ _ _ | (rw [va_up_ne _ _ (by omega)]; first | assumption | exact va_up_self _ _ _ | (rw [va_up_ne _ _ (by omega)]; first | assumption | exact va_up_self _ _ _ | (rw [va_up_ne _ _ (by omega)]; first | assumption | exact va_up_self _ _ _ | (rw [va_up_ne _ _ (by omega)]; first | assumption | exact va_up_self _ _ _)))))) (by rfl) (by exact Nat.le_of_ble_eq_true rfl) (c_E_hasRow hG (by omega) (by omega) hEa hEc (by omega) hy b2 ?_)
  by_cases hs : 0 < eS iE y
  · rw [show decide (0 < eS iE y) = true from by simp [hs]]
    obtain ⟨z1, z2, z3, z4, z5⟩ := wgt_sz (a := a) (A := eA iE y) hU.1 hU.2 hv1 hv2 (by omega) (by omega) hs b2.2
    rw [wgt, if_pos hs] at q
    refine mx_if_neY 10 (mx_d D_C_weightBy 3 rfl) (by decide) (by decide) (by decide) (by decide) ?_
    refine mx_aload_n (k4 := 1) (mx_d D_C_weightBy 6 rfl) (by rfl) ?_
    refine mx_getf hG (idx := 254) (ci := 1) (kf := 1) (mx_d D_C_weightBy 7 rfl) (by rfl) cls_E (by decide) w_42 (by first | assumption | omega) (by first | assumption | exact va_up_self _ _ _ | (rw [va_up_ne _ _ (by omega)]; first | assumption | exact va_up_self _ _ _ | (rw [va_up_ne _ _ (by omega)]; first | assumption | exact va_up_self _ _ _ | (rw [va_up_ne _ _ (by omega)]; first | assumption | exact va_up_self _ _ _ | (rw [va_up_ne _ _ (by omega)]; first | assumption | exact va_up_self _ _ _ | (rw [va_up_ne _ _ (by omega)]; first | assumption | exact va_up_self _ _ _)))))) (by rfl) ?_
    refine mx_iload_n (k4 := 2) (mx_d D_C_weightBy 8 rfl) (by rfl) ?_
    refine mx_ialdI hG _ (mx_d D_C_weightBy 9 rfl) (by first | assumption | omega) (by first | assumption | exact va_up_self _ _ _ | (rw [va_up_ne _ _ (by omega)]; first | assumption | exact va_up_self _ _ _ | (rw [va_up_ne _ _ (by omega)]; first | assumption | exact va_up_self _ _ _ | (rw [va_up_ne _ _ (by omega)]; first | assumption | exact va_up_self _ _ _ | (rw [va_up_ne _ _ (by omega)]; first | assumption | exact va_up_self _ _ _ | (rw [va_up_ne _ _ (by omega)]; first | assumption | exact va_up_self _ _ _)))))) (by rfl) (by omega) (by omega) ?_
    refine mx_istore (i := 5) (mx_d D_C_weightBy 10 rfl) (by decide) ?_
    refine mx_iload_n (k4 := 3) (mx_d D_C_weightBy 11 rfl) (by rfl) ?_
    refine mx_aload_n (k4 := 1) (mx_d D_C_weightBy 12 rfl) (by rfl) ?_
    refine mx_getf hG (idx := 257) (ci := 1) (kf := 0) (mx_d D_C_weightBy 13 rfl) (by rfl) cls_E (by decide) w_40 (by first | assumption | omega) (by first | assumption | exact va_up_self _ _ _ | (rw [va_up_ne _ _ (by omega)]; first | assumption | exact va_up_self _ _ _ | (rw [va_up_ne _ _ (by omega)]; first | assumption | exact va_up_self _ _ _ | (rw [va_up_ne _ _ (by omega)]; first | assumption | exact va_up_self _ _ _ | (rw [va_up_ne _ _ (by omega)]; first | assumption | exact va_up_self _ _ _ | (rw [va_up_ne _ _ (by omega)]; first | assumption | exact va_up_self _ _ _)))))) (by rfl) ?_
    refine mx_iload_n (k4 := 2) (mx_d D_C_weightBy 14 rfl) (by rfl) ?_
    refine mx_ialdI hG _ (mx_d D_C_weightBy 15 rfl) (by first | assumption | omega) (by first | assumption | exact va_up_self _ _ _ | (rw [va_up_ne _ _ (by omega)]; first | assumption | exact va_up_self _ _ _ | (rw [va_up_ne _ _ (by omega)]; first | assumption | exact va_up_self _ _ _ | (rw [va_up_ne _ _ (by omega)]; first | assumption | exact va_up_self _ _ _ | (rw [va_up_ne _ _ (by omega)]; first | assumption | exact va_up_self _ _ _ | (rw [va_up_ne _ _ (by omega)]; first | assumption | exact va_up_self _ _ _)))))) (by rfl) (by omega) (by omega) ?_
    refine mx_isubI (mx_d D_C_weightBy 16 rfl) ?_
    refine mx_istore (i := 6) (mx_d D_C_weightBy 17 rfl) (by decide) ?_
    refine mx_iload (i := 4) (mx_d D_C_weightBy 18 rfl) (by rfl) ?_
    refine mx_iload (i := 5) (mx_d D_C_weightBy 19 rfl) (by rfl) ?_
    refine mx_iload (i := 5) (mx_d D_C_weightBy 20 rfl) (by rfl) ?_
    refine mx_imulI (mx_d D_C_weightBy 21 rfl) ?_
    refine mx_iaddI (mx_d D_C_weightBy 22 rfl) ?_
    refine mx_i2lI (mx_d D_C_weightBy 23 rfl) (by omega) (by omega) ?_
    refine mx_lstore (i := 7) (mx_d D_C_weightBy 24 rfl) (by decide) ?_
    refine mx_iload (i := 6) (mx_d D_C_weightBy 25 rfl) (by rfl) ?_
    refine mx_iload (i := 6) (mx_d D_C_weightBy 26 rfl) (by rfl) ?_
    refine mx_imulI (mx_d D_C_weightBy 27 rfl) ?_
    refine mx_i2lI (mx_d D_C_weightBy 28 rfl) (by omega) (by omega) ?_
    refine mx_lstore (i := 9) (mx_d D_C_weightBy 29 rfl) (by decide) ?_
    refine mx_aload_n (k4 := 0) (mx_d D_C_weightBy 30 rfl) (by rfl) ?_
    refine mx_getf hG (idx := 23) (ci := 0) (kf := 1) (mx_d D_C_weightBy 31 rfl) (by rfl) cls_C (by decide) w_150 (by first | assumption | omega) (by first | assumption | exact va_up_self _ _ _ | (rw [va_up_ne _ _ (by omega)]; first | assumption | exact va_up_self _ _ _ | (rw [va_up_ne _ _ (by omega)]; first | assumption | exact va_up_self _ _ _ | (rw [va_up_ne _ _ (by omega)]; first | assumption | exact va_up_self _ _ _ | (rw [va_up_ne _ _ (by omega)]; first | assumption | exact va_up_self _ _ _ | (rw [va_up_ne _ _ (by omega)]; first | assumption | exact va_up_self _ _ _)))))) (by rfl) ?_
    refine mx_i2lI (mx_d D_C_weightBy 32 rfl) (by omega) (by omega) ?_
    refine mx_lload (i := 7) (mx_d D_C_weightBy 33 rfl) (by rfl) ?_
    refine mx_lmulI (mx_d D_C_weightBy 34 rfl) ?_
    refine mx_lload (i := 7) (mx_d D_C_weightBy 35 rfl) (by rfl) ?_
    refine mx_lmulI (mx_d D_C_weightBy 36 rfl) ?_
    refine mx_lload (i := 7) (mx_d D_C_weightBy 37 rfl) (by rfl) ?_
    refine mx_lload (i := 9) (mx_d D_C_weightBy 38 rfl) (by rfl) ?_
    refine mx_laddI (mx_d D_C_weightBy 39 rfl) ?_
    refine mx_lload (i := 7) (mx_d D_C_weightBy 40 rfl) (by rfl) ?_
    refine mx_lload (i := 9) (mx_d D_C_weightBy 41 rfl) (by rfl) ?_
    refine mx_laddI (mx_d D_C_weightBy 42 rfl) ?_
    refine mx_lmulI (mx_d D_C_weightBy 43 rfl) ?_
    refine mx_ldivI (mx_d D_C_weightBy 44 rfl) (by omega) (by omega) (by omega) (by omega) ?_
    refine mx_l2iI (mx_d D_C_weightBy 45 rfl) ?_
    refine mx_iret (by rfl) (mx_d D_C_weightBy 46 rfl) ?_
    exact q
  · rw [show decide (0 < eS iE y) = false from by simp; omega]
    rw [wgt, if_neg hs] at q
    refine mx_if_neN 10 (mx_d D_C_weightBy 3 rfl) (by decide) (by decide) (by decide) (by decide) ?_
    refine mx_iconst (n := 0) (mx_d D_C_weightBy 4 rfl) ?_
    refine mx_iret (by rfl) (mx_d D_C_weightBy 5 rfl) ?_
    exact q
theorem c_countTold (hG : mx_ok G) (hN : 50 ≤ N) (c0 : ce 0 = cs0 G Y U nE iE nD rA rS) (q : Q (.inl (some (.int (iI (nD : Nat))))) N (va_up ce 0 (cs0 G Y U nE iE (nD + 1) rA rS)) bc bs) : mx_M G Y_C_countTold d bc bs false N ce 0 [(0, .ref (mx_B G + 0))] [] Q := by
  refine mx_aload_n (k4 := 0) (mx_d D_C_countTold 0 rfl) (by rfl) ?_
  refine mx_dup (mx_d D_C_countTold 1 rfl) (by rfl) ?_
  refine mx_getf hG (idx := 138) (ci := 0) (kf := 10) (mx_d D_C_countTold 2 rfl) (by rfl) cls_C (by decide) w_159 (by first | assumption | omega) (by first | assumption | exact va_up_self _ _ _ | (rw [va_up_ne _ _ (by omega)]; first | assumption | exact va_up_self _ _ _ | (rw [va_up_ne _ _ (by omega)]; first | assumption | exact va_up_self _ _ _ | (rw [va_up_ne _ _ (by omega)]; first | assumption | exact va_up_self _ _ _ | (rw [va_up_ne _ _ (by omega)]; first | assumption | exact va_up_self _ _ _ | (rw [va_up_ne _ _ (by omega)]; first | assumption | exact va_up_self _ _ _)))))) (by rfl) ?_
  refine mx_iconst (n := 1) (mx_d D_C_countTold 3 rfl) ?_
  refine mx_iaddI (mx_d D_C_countTold 4 rfl) ?_
  refine mx_putf hG (idx := 138) (ci := 0) (kf := 10) (t := (.int)) (mx_d D_C_countTold 5 rfl) (by rfl) cls_C (by decide) (Or.inl rfl) w_159 (by first | assumption | omega) (by first | assumption | exact va_up_self _ _ _ | (rw [va_up_ne _ _ (by omega)]; first | assumption | exact va_up_self _ _ _ | (rw [va_up_ne _ _ (by omega)]; first | assumption | exact va_up_self _ _ _ | (rw [va_up_ne _ _ (by omega)]; first | assumption | exact va_up_self _ _ _ | (rw [va_up_ne _ _ (by omega)]; first | assumption | exact va_up_self _ _ _ | (rw [va_up_ne _ _ (by omega)]; first | assumption | exact va_up_self _ _ _)))))) (by exact Nat.le_of_ble_eq_true rfl) (by decide +kernel) (by rfl) (by rfl) ?_
  refine mx_aload_n (k4 := 0) (mx_d D_C_countTold 6 rfl) (by rfl) ?_
  refine mx_getf hG (idx := 138) (ci := 0) (kf := 10) (mx_d D_C_countTold 7 rfl) (by rfl) cls_C (by decide) w_159 (by first | assumption | omega) (by first | assumption | exact va_up_self _ _ _ | (rw [va_up_ne _ _ (by omega)]; first | assumption | exact va_up_self _ _ _ | (rw [va_up_ne _ _ (by omega)]; first | assumption | exact va_up_self _ _ _ | (rw [va_up_ne _ _ (by omega)]; first | assumption | exact va_up_self _ _ _ | (rw [va_up_ne _ _ (by omega)]; first | assumption | exact va_up_self _ _ _ | (rw [va_up_ne _ _ (by omega)]; first | assumption | exact va_up_self _ _ _)))))) (by rfl) ?_
  refine mx_iconst (n := 1) (mx_d D_C_countTold 8 rfl) ?_
  refine mx_isubI (mx_d D_C_countTold 9 rfl) ?_
  refine mx_iret (by rfl) (mx_d D_C_countTold 10 rfl) ?_
  rw [show ((nD : Int) + 1 - 1) = (nD : Int) from by omega]
  exact q
/-- a date more, with these cells -/
theorem CS.more {ce' : Nat → va_E} (hC : CS G Y U nE iE nD rA rS eA eS dA dS dW lc rn rg rN ps pN ce) (hn : nD < 12) {a s : Int} {h : Nat → Int} (ha : 0 ≤ a ∧ a ≤ 3000) (hs : 0 ≤ s ∧ s ≤ 100) (hh : ∀ j, j < Y → 0 ≤ h j ∧ h j ≤ 1000000) (k1 : ∀ k, k ≠ 0 → k ≠ 15 + 2 * nD → k ≠ 16 + 2 * nD → ce' k = ce k) (k2 : ce' 0 = cs0 G Y U nE iE (nD + 1) rA rS) (k3 : ce' (15 + 2 * nD) = .inr (2, [.ref (mx_B G + (16 + 2 * nD)), .int (iI a), .int (iI s)])) (k4 : ce' (16 + 2 * nD) = aI G Y h) : CS G Y U nE iE (nD + 1) rA rS eA eS (va_up dA nD a) (va_up dS nD s) (va_up dW nD h) lc rn rg rN ps pN ce' := by
  obtain ⟨⟨hY, hU, hE, hD, hrA, hrS, hEA, hES, hDA, hDS, hDz, hDW, hrN, hrn, hpN, hps⟩, c0, c1, c14, cE, cD, cL, cR, cP, cT⟩ := hC
  refine ⟨⟨hY, hU, hE, by omega, hrA, hrS, hEA, hES, fun i hi => ?_, fun i hi => ?_, fun i hi hn' => ?_, fun i hi => ?_, hrN, fun i hi => ⟨by have := (hrn i hi).1; omega, (hrn i hi).2⟩, hpN, hps⟩, k2, ?_, ?_, csE_fr cE (fun k _ _ => k1 k (by omega) (by omega) (by omega)), fun i hi => ?_, csL_fr cL (fun k _ _ => k1 k (by omega) (by omega) (by omega)), csR_fr cR (fun k _ _ => k1 k (by omega) (by omega) (by omega)), csP_fr cP (fun k _ _ => k1 k (by omega) (by omega) (by omega)), csT_fr cT (fun k _ _ => k1 k (by omega) (by omega) (by omega))⟩
  · by_cases e : i = nD
    · subst e; rw [va_up_self]; exact ha
    · rw [va_up_ne _ _ e]; exact hDA i hi
  · by_cases e : i = nD
    · subst e; rw [va_up_self]; exact hs
    · rw [va_up_ne _ _ e]; exact hDS i hi
  · rw [va_up_ne _ _ (by omega), va_up_ne _ _ (by omega)]; exact hDz i hi (by omega)
  · by_cases e : i = nD
    · subst e; rw [va_up_self]; exact hh
    · rw [va_up_ne _ _ e]; exact hDW i hi
  · rw [k1 1 (by omega) (by omega) (by omega)]; exact c1
  · rw [k1 14 (by omega) (by omega) (by omega)]; exact c14
  · by_cases e : i = nD
    · subst e; rw [va_up_self, va_up_self, va_up_self]; exact ⟨k3, k4⟩
    · rw [va_up_ne _ _ e, va_up_ne _ _ e, va_up_ne _ _ e, k1 _ (by omega) (by omega) (by omega), k1 _ (by omega) (by omega) (by omega)]
      exact cD i hi
theorem c_tell (hG : mx_ok G) (hN : 50 ≤ N) (hC : CS G Y U nE iE nD rA rS eA eS dA dS dW lc rn rg rN ps pN ce) (hn : nD < 12) {a s : Int} (ha : 0 ≤ a ∧ a ≤ 3000) (hs : 1 ≤ s ∧ s ≤ 100)
    (q : ∀ ce' (h : Nat → Int), (∀ j, j < Y → h j = wgt U (s * s + rS * rS) (a - rA) (eA iE j) (eS iE j)) → CS G Y U nE iE (nD + 1) rA rS eA eS (va_up dA nD a) (va_up dS nD s) (va_up dW nD h) lc rn rg rN ps pN ce' → (∀ k, 50 ≤ k → ce' k = ce k) → Q (.inl (some (.int (iI (nD : Nat))))) N ce' bc bs) : mx_M G Y_C_tellMeasured (d + 2) bc bs false N ce 0 [(0, .ref (mx_B G + 0)), (1, .int (iI a)), (2, .int (iI s))] [] Q := by
  have hC0 := hC
  obtain ⟨⟨hY, hU, hE, hD, hrA, hrS, hEA, hES, hDA, hDS, hDz, hDW, hrN, hrn, hpN, hps⟩, c0, c1, c14, cE, cD, cL, cR, cP, cT⟩ := hC
  obtain ⟨hDa, hDb⟩ := cD nD hn
  have s1 : 0 ≤ s * s := sq_nn s
  have s2 : s * s ≤ 100 * 100 := sq_le (by omega) hs.2
  have r1 : 0 ≤ rS * rS := sq_nn rS
  have r2 : rS * rS ≤ 100 * 100 := sq_le (by omega) hrS.2
  have hwb : ∀ j, j < Y → 0 ≤ wgt U (s * s + rS * rS) (a - rA) (eA iE j) (eS iE j) ∧ wgt U (s * s + rS * rS) (a - rA) (eA iE j) (eS iE j) ≤ 1000000 := fun j hj => by
    have b1 := hEA iE (by omega) j hj
    have b2 := hES iE (by omega) j hj
    exact wgt_bd hU.1 hU.2 (by omega) (by omega) (by omega) (by omega) b2.2
  refine mx_aload_n (k4 := 0) (mx_d D_C_tellMeasured 0 rfl) (by rfl) ?_
  refine mx_getf hG (idx := 37) (ci := 0) (kf := 3) (mx_d D_C_tellMeasured 1 rfl) (by rfl) cls_C (by decide) w_152 (by first | assumption | omega) (by first | assumption | exact va_up_self _ _ _ | (rw [va_up_ne _ _ (by omega)]; first | assumption | exact va_up_self _ _ _ | (rw [va_up_ne _ _ (by omega)]; first | assumption | exact va_up_self _ _ _ | (rw [va_up_ne _ _ (by omega)]; first | assumption | exact va_up_self _ _ _ | (rw [va_up_ne _ _ (by omega)]; first | assumption | exact va_up_self _ _ _ | (rw [va_up_ne _ _ (by omega)]; first | assumption | exact va_up_self _ _ _)))))) (by rfl) ?_
  refine mx_aload_n (k4 := 0) (mx_d D_C_tellMeasured 2 rfl) (by rfl) ?_
  refine mx_getf hG (idx := 138) (ci := 0) (kf := 10) (mx_d D_C_tellMeasured 3 rfl) (by rfl) cls_C (by decide) w_159 (by first | assumption | omega) (by first | assumption | exact va_up_self _ _ _ | (rw [va_up_ne _ _ (by omega)]; first | assumption | exact va_up_self _ _ _ | (rw [va_up_ne _ _ (by omega)]; first | assumption | exact va_up_self _ _ _ | (rw [va_up_ne _ _ (by omega)]; first | assumption | exact va_up_self _ _ _ | (rw [va_up_ne _ _ (by omega)]; first | assumption | exact va_up_self _ _ _ | (rw [va_up_ne _ _ (by omega)]; first | assumption | exact va_up_self _ _ _)))))) (by rfl) ?_
  refine mx_aald hG 4 (nD) (mx_d D_C_tellMeasured 4 rfl) (by first | assumption | omega) (by first | assumption | exact va_up_self _ _ _ | (rw [va_up_ne _ _ (by omega)]; first | assumption | exact va_up_self _ _ _ | (rw [va_up_ne _ _ (by omega)]; first | assumption | exact va_up_self _ _ _ | (rw [va_up_ne _ _ (by omega)]; first | assumption | exact va_up_self _ _ _ | (rw [va_up_ne _ _ (by omega)]; first | assumption | exact va_up_self _ _ _ | (rw [va_up_ne _ _ (by omega)]; first | assumption | exact va_up_self _ _ _)))))) (by rfl) (by rfl) (by rfl) (by omega) (by omega) (show _ = some (mx_B G + (15 + 2 * nD)) by exact if_pos (by omega)) ?_
  refine mx_astore_n (k4 := 3) (mx_d D_C_tellMeasured 5 rfl) (by decide) ?_
  refine mx_aload_n (k4 := 3) (mx_d D_C_tellMeasured 6 rfl) (by rfl) ?_
  refine mx_iload_n (k4 := 1) (mx_d D_C_tellMeasured 7 rfl) (by rfl) ?_
  refine mx_putf hG (idx := 165) (ci := 2) (kf := 1) (t := (.int)) (mx_d D_C_tellMeasured 8 rfl) (by rfl) cls_D (by decide) (Or.inl rfl) w_64 (by first | assumption | omega) (by first | assumption | exact va_up_self _ _ _ | (rw [va_up_ne _ _ (by omega)]; first | assumption | exact va_up_self _ _ _ | (rw [va_up_ne _ _ (by omega)]; first | assumption | exact va_up_self _ _ _ | (rw [va_up_ne _ _ (by omega)]; first | assumption | exact va_up_self _ _ _ | (rw [va_up_ne _ _ (by omega)]; first | assumption | exact va_up_self _ _ _ | (rw [va_up_ne _ _ (by omega)]; first | assumption | exact va_up_self _ _ _)))))) (by exact Nat.le_of_ble_eq_true rfl) (by decide +kernel) (by rfl) (by rfl) ?_
  refine mx_aload_n (k4 := 3) (mx_d D_C_tellMeasured 9 rfl) (by rfl) ?_
  refine mx_iload_n (k4 := 2) (mx_d D_C_tellMeasured 10 rfl) (by rfl) ?_
  refine mx_putf hG (idx := 162) (ci := 2) (kf := 2) (t := (.int)) (mx_d D_C_tellMeasured 11 rfl) (by rfl) cls_D (by decide) (Or.inl rfl) w_66 (by first | assumption | omega) (by first | assumption | exact va_up_self _ _ _ | (rw [va_up_ne _ _ (by omega)]; first | assumption | exact va_up_self _ _ _ | (rw [va_up_ne _ _ (by omega)]; first | assumption | exact va_up_self _ _ _ | (rw [va_up_ne _ _ (by omega)]; first | assumption | exact va_up_self _ _ _ | (rw [va_up_ne _ _ (by omega)]; first | assumption | exact va_up_self _ _ _ | (rw [va_up_ne _ _ (by omega)]; first | assumption | exact va_up_self _ _ _)))))) (by exact Nat.le_of_ble_eq_true rfl) (by decide +kernel) (by rfl) (by rfl) ?_
  refine mx_iload_n (k4 := 2) (mx_d D_C_tellMeasured 12 rfl) (by rfl) ?_
  refine mx_iload_n (k4 := 2) (mx_d D_C_tellMeasured 13 rfl) (by rfl) ?_
  refine mx_imulI (mx_d D_C_tellMeasured 14 rfl) ?_
  refine mx_aload_n (k4 := 0) (mx_d D_C_tellMeasured 15 rfl) (by rfl) ?_
  refine mx_getf hG (idx := 113) (ci := 0) (kf := 12) (mx_d D_C_tellMeasured 16 rfl) (by rfl) cls_C (by decide) w_161 (by first | assumption | omega) (by first | assumption | exact va_up_self _ _ _ | (rw [va_up_ne _ _ (by omega)]; first | assumption | exact va_up_self _ _ _ | (rw [va_up_ne _ _ (by omega)]; first | assumption | exact va_up_self _ _ _ | (rw [va_up_ne _ _ (by omega)]; first | assumption | exact va_up_self _ _ _ | (rw [va_up_ne _ _ (by omega)]; first | assumption | exact va_up_self _ _ _ | (rw [va_up_ne _ _ (by omega)]; first | assumption | exact va_up_self _ _ _)))))) (by rfl) ?_
  refine mx_aload_n (k4 := 0) (mx_d D_C_tellMeasured 17 rfl) (by rfl) ?_
  refine mx_getf hG (idx := 113) (ci := 0) (kf := 12) (mx_d D_C_tellMeasured 18 rfl) (by rfl) cls_C (by decide) w_161 (by first | assumption | omega) (by first | assumption | exact va_up_self _ _ _ | (rw [va_up_ne _ _ (by omega)]; first | assumption | exact va_up_self _ _ _ | (rw [va_up_ne _ _ (by omega)]; first | assumption | exact va_up_self _ _ _ | (rw [va_up_ne _ _ (by omega)]; first | assumption | exact va_up_self _ _ _ | (rw [va_up_ne _ _ (by omega)]; first | assumption | exact va_up_self _ _ _ | (rw [va_up_ne _ _ (by omega)]; first | assumption | exact va_up_self _ _ _)))))) (by rfl) ?_
  refine mx_imulI (mx_d D_C_tellMeasured 19 rfl) ?_
  refine mx_iaddI (mx_d D_C_tellMeasured 20 rfl) ?_
  refine mx_istore (i := 4) (mx_d D_C_tellMeasured 21 rfl) (by decide) ?_
  refine mx_aload_n (k4 := 0) (mx_d D_C_tellMeasured 22 rfl) (by rfl) ?_
  refine mx_getf hG (idx := 28) (ci := 0) (kf := 2) (mx_d D_C_tellMeasured 23 rfl) (by rfl) cls_C (by decide) w_151 (by first | assumption | omega) (by first | assumption | exact va_up_self _ _ _ | (rw [va_up_ne _ _ (by omega)]; first | assumption | exact va_up_self _ _ _ | (rw [va_up_ne _ _ (by omega)]; first | assumption | exact va_up_self _ _ _ | (rw [va_up_ne _ _ (by omega)]; first | assumption | exact va_up_self _ _ _ | (rw [va_up_ne _ _ (by omega)]; first | assumption | exact va_up_self _ _ _ | (rw [va_up_ne _ _ (by omega)]; first | assumption | exact va_up_self _ _ _)))))) (by rfl) ?_
  refine mx_aload_n (k4 := 0) (mx_d D_C_tellMeasured 24 rfl) (by rfl) ?_
  refine mx_getf hG (idx := 80) (ci := 0) (kf := 9) (mx_d D_C_tellMeasured 25 rfl) (by rfl) cls_C (by decide) w_158 (by first | assumption | omega) (by first | assumption | exact va_up_self _ _ _ | (rw [va_up_ne _ _ (by omega)]; first | assumption | exact va_up_self _ _ _ | (rw [va_up_ne _ _ (by omega)]; first | assumption | exact va_up_self _ _ _ | (rw [va_up_ne _ _ (by omega)]; first | assumption | exact va_up_self _ _ _ | (rw [va_up_ne _ _ (by omega)]; first | assumption | exact va_up_self _ _ _ | (rw [va_up_ne _ _ (by omega)]; first | assumption | exact va_up_self _ _ _)))))) (by rfl) ?_
  refine mx_aald hG 3 (iE) (mx_d D_C_tellMeasured 26 rfl) (by first | assumption | omega) (by first | assumption | exact va_up_self _ _ _ | (rw [va_up_ne _ _ (by omega)]; first | assumption | exact va_up_self _ _ _ | (rw [va_up_ne _ _ (by omega)]; first | assumption | exact va_up_self _ _ _ | (rw [va_up_ne _ _ (by omega)]; first | assumption | exact va_up_self _ _ _ | (rw [va_up_ne _ _ (by omega)]; first | assumption | exact va_up_self _ _ _ | (rw [va_up_ne _ _ (by omega)]; first | assumption | exact va_up_self _ _ _)))))) (by rfl) (by rfl) (by rfl) (by omega) (by omega) (show _ = some (mx_B G + (2 + 3 * iE)) by exact if_pos (by omega)) ?_
  refine mx_astore (i := 5) (mx_d D_C_tellMeasured 27 rfl) (by decide) ?_
  refine mx_iconst (n := 0) (mx_d D_C_tellMeasured 28 rfl) ?_
  refine mx_istore (i := 6) (mx_d D_C_tellMeasured 29 rfl) (by decide) ?_
  rw [bx_uu]
  suffices H : ∀ (k i : Nat) (h : Nat → Int), i + k = Y → (∀ j, j < i → h j = wgt U (s * s + rS * rS) (a - rA) (eA iE j) (eS iE j)) → mx_M G Y_C_tellMeasured (d + 2) bc bs false N (va_up (va_up ce (15 + 2 * nD) (.inr (2, [.ref (mx_B G + (16 + 2 * nD)), .int (iI a), .int (iI s)]))) (16 + 2 * nD) (aI G Y h)) 49 [(0, .ref (mx_B G + 0)), (1, .int (iI a)), (3, .ref (mx_B G + (15 + 2 * nD))), (4, .int (iI (s * s + rS * rS))), (5, .ref (mx_B G + (2 + 3 * iE))), (6, .int (iI i))] [] Q by
    have H0 := H Y 0 (dW nD) (by omega) (fun j hj => absurd hj (by omega))
    rw [va_up_id (va_up ce (15 + 2 * nD) (.inr (2, [.ref (mx_B G + (16 + 2 * nD)), .int (iI a), .int (iI s)]))) (16 + 2 * nD) (by rw [va_up_ne _ _ (by omega)]; exact hDb)] at H0
    exact mx_loc (by rfl) H0
  intro k
  induction k with
  | zero =>
    intro i h hi hh
    obtain rfl : i = Y := by omega
    refine mx_iload (i := 6) (mx_d D_C_tellMeasured 30 rfl) (by rfl) ?_
    refine mx_aload_n (k4 := 0) (mx_d D_C_tellMeasured 31 rfl) (by rfl) ?_
    refine mx_getf hG (idx := 18) (ci := 0) (kf := 0) (mx_d D_C_tellMeasured 32 rfl) (by rfl) cls_C (by decide) w_149 (by first | assumption | omega) (by first | assumption | exact va_up_self _ _ _ | (rw [va_up_ne _ _ (by omega)]; first | assumption | exact va_up_self _ _ _ | (rw [va_up_ne _ _ (by omega)]; first | assumption | exact va_up_self _ _ _ | (rw [va_up_ne _ _ (by omega)]; first | assumption | exact va_up_self _ _ _ | (rw [va_up_ne _ _ (by omega)]; first | assumption | exact va_up_self _ _ _ | (rw [va_up_ne _ _ (by omega)]; first | assumption | exact va_up_self _ _ _)))))) (by rfl) ?_
    refine mx_icmp_geY 87 (mx_d D_C_tellMeasured 33 rfl) (by decide) (by omega) (by omega) (by omega) (by omega) (by omega) ?_
    refine mx_aload_n (k4 := 0) (mx_d D_C_tellMeasured 49 rfl) (by rfl) ?_
    refine mx_callV hG (Y' := Y_C_countTold) (ci := 0) [] (mx_d D_C_tellMeasured 50 rfl) in_C_countTold w_417 w_419 s_C_countTold (by rfl) np_C_countTold (by exact Nat.le_of_ble_eq_true rfl) (by rfl) (by first | assumption | omega) (by first | assumption | exact va_up_self _ _ _ | (rw [va_up_ne _ _ (by omega)]; first | assumption | exact va_up_self _ _ _ | (rw [va_up_ne _ _ (by omega)]; first | assumption | exact va_up_self _ _ _ | (rw [va_up_ne _ _ (by omega)]; first | assumption | exact va_up_self _ _ _ | (rw [va_up_ne _ _ (by omega)]; first | assumption | exact va_up_self _ _ _ | (rw [va_up_ne _ _ (by omega)]; first | assumption | exact va_up_self _ _ _)))))) (by rfl) (by exact Nat.le_of_ble_eq_true rfl) (c_countTold hG hN (by rw [va_up_ne _ _ (by omega), va_up_ne _ _ (by omega)]; exact c0) ?_)
    refine mx_iret (by rfl) (mx_d D_C_tellMeasured 51 rfl) ?_
    refine q _ h hh (hC0.more hn ha ⟨by omega, by omega⟩ (fun j hj => by rw [hh j hj]; exact hwb j hj) (fun k z1 z2 z3 => ?_) (va_up_self _ _ _) ?_ ?_) (fun k hk => ?_)
    · rw [va_up_ne _ _ z1, va_up_ne _ _ z3, va_up_ne _ _ z2]
    · rw [va_up_ne _ _ (by omega), va_up_ne _ _ (by omega), va_up_self]
    · rw [va_up_ne _ _ (by omega), va_up_self]
    · rw [va_up_ne _ _ (by omega), va_up_ne _ _ (by omega), va_up_ne _ _ (by omega)]
  | succ k ih =>
    intro i h hi hh
    refine mx_iload (i := 6) (mx_d D_C_tellMeasured 30 rfl) (by rfl) ?_
    refine mx_aload_n (k4 := 0) (mx_d D_C_tellMeasured 31 rfl) (by rfl) ?_
    refine mx_getf hG (idx := 18) (ci := 0) (kf := 0) (mx_d D_C_tellMeasured 32 rfl) (by rfl) cls_C (by decide) w_149 (by first | assumption | omega) (by first | assumption | exact va_up_self _ _ _ | (rw [va_up_ne _ _ (by omega)]; first | assumption | exact va_up_self _ _ _ | (rw [va_up_ne _ _ (by omega)]; first | assumption | exact va_up_self _ _ _ | (rw [va_up_ne _ _ (by omega)]; first | assumption | exact va_up_self _ _ _ | (rw [va_up_ne _ _ (by omega)]; first | assumption | exact va_up_self _ _ _ | (rw [va_up_ne _ _ (by omega)]; first | assumption | exact va_up_self _ _ _)))))) (by rfl) ?_
    refine mx_icmp_geN 87 (mx_d D_C_tellMeasured 33 rfl) (by decide) (by omega) (by omega) (by omega) (by omega) (by omega) ?_
    refine mx_aload_n (k4 := 3) (mx_d D_C_tellMeasured 34 rfl) (by rfl) ?_
    refine mx_getf hG (idx := 125) (ci := 2) (kf := 0) (mx_d D_C_tellMeasured 35 rfl) (by rfl) cls_D (by decide) w_63 (by first | assumption | omega) (by first | assumption | exact va_up_self _ _ _ | (rw [va_up_ne _ _ (by omega)]; first | assumption | exact va_up_self _ _ _ | (rw [va_up_ne _ _ (by omega)]; first | assumption | exact va_up_self _ _ _ | (rw [va_up_ne _ _ (by omega)]; first | assumption | exact va_up_self _ _ _ | (rw [va_up_ne _ _ (by omega)]; first | assumption | exact va_up_self _ _ _ | (rw [va_up_ne _ _ (by omega)]; first | assumption | exact va_up_self _ _ _)))))) (by rfl) ?_
    refine mx_iload (i := 6) (mx_d D_C_tellMeasured 36 rfl) (by rfl) ?_
    refine mx_aload_n (k4 := 0) (mx_d D_C_tellMeasured 37 rfl) (by rfl) ?_
    refine mx_aload (i := 5) (mx_d D_C_tellMeasured 38 rfl) (by rfl) ?_
    refine mx_iload (i := 6) (mx_d D_C_tellMeasured 39 rfl) (by rfl) ?_
    refine mx_iload_n (k4 := 1) (mx_d D_C_tellMeasured 40 rfl) (by rfl) ?_
    refine mx_aload_n (k4 := 0) (mx_d D_C_tellMeasured 41 rfl) (by rfl) ?_
    refine mx_getf hG (idx := 110) (ci := 0) (kf := 11) (mx_d D_C_tellMeasured 42 rfl) (by rfl) cls_C (by decide) w_160 (by first | assumption | omega) (by first | assumption | exact va_up_self _ _ _ | (rw [va_up_ne _ _ (by omega)]; first | assumption | exact va_up_self _ _ _ | (rw [va_up_ne _ _ (by omega)]; first | assumption | exact va_up_self _ _ _ | (rw [va_up_ne _ _ (by omega)]; first | assumption | exact va_up_self _ _ _ | (rw [va_up_ne _ _ (by omega)]; first | assumption | exact va_up_self _ _ _ | (rw [va_up_ne _ _ (by omega)]; first | assumption | exact va_up_self _ _ _)))))) (by rfl) ?_
    refine mx_isubI (mx_d D_C_tellMeasured 43 rfl) ?_
    refine mx_iload (i := 4) (mx_d D_C_tellMeasured 44 rfl) (by rfl) ?_
    refine mx_callV hG (Y' := Y_C_weightBy) (ci := 0) [_, _, _, _] (mx_d D_C_tellMeasured 45 rfl) in_C_weightBy w_412 w_414 s_C_weightBy (by rfl) np_C_weightBy (by exact Nat.le_of_ble_eq_true rfl) (by rfl) (by first | assumption | omega) (by first | assumption | exact va_up_self _ _ _ | (rw [va_up_ne _ _ (by omega)]; first | assumption | exact va_up_self _ _ _ | (rw [va_up_ne _ _ (by omega)]; first | assumption | exact va_up_self _ _ _ | (rw [va_up_ne _ _ (by omega)]; first | assumption | exact va_up_self _ _ _ | (rw [va_up_ne _ _ (by omega)]; first | assumption | exact va_up_self _ _ _ | (rw [va_up_ne _ _ (by omega)]; first | assumption | exact va_up_self _ _ _)))))) (by rfl) (by exact Nat.le_of_ble_eq_true rfl) (c_weightBy' hG hN (by rw [va_up_ne _ _ (by omega), va_up_ne _ _ (by omega)]; exact c0) (csE_fr cE (fun k _ _ => by rw [va_up_ne _ _ (by omega), va_up_ne _ _ (by omega)])) hY hU hE.1 hE.2 hEA hES (y := i) (by omega) (by omega) (by omega) (by omega) (by omega) ?_)
    refine mx_iastI hG _ _ (mx_d D_C_tellMeasured 46 rfl) (by first | assumption | omega) (by first | assumption | exact va_up_self _ _ _ | (rw [va_up_ne _ _ (by omega)]; first | assumption | exact va_up_self _ _ _ | (rw [va_up_ne _ _ (by omega)]; first | assumption | exact va_up_self _ _ _ | (rw [va_up_ne _ _ (by omega)]; first | assumption | exact va_up_self _ _ _ | (rw [va_up_ne _ _ (by omega)]; first | assumption | exact va_up_self _ _ _ | (rw [va_up_ne _ _ (by omega)]; first | assumption | exact va_up_self _ _ _)))))) (by rfl) (by rfl) (by omega) (by omega) ?_
    rw [bx_uu]
    refine mx_iincI (i := 6) (n := 1) (mx_d D_C_tellMeasured 47 rfl) (by rfl) (by decide) ?_
    refine mx_goto 49 (mx_d D_C_tellMeasured 48 rfl) (by decide) ?_
    refine mx_loc (by rfl) (ih (i + 1) _ (by omega) (fun j hj => ?_))
    by_cases hji : j = i
    · subst hji; rw [va_up_self]
    · rw [va_up_ne _ _ hji]; exact hh j (by omega)
end CD
