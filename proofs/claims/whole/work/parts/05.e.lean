/-! least, span, gap, slid, wiggle, clear, unit, read, count -/
def bstTo (f : Nat → Int) : Nat → Nat
  | 0 => 0
  | n + 1 => if f (bstTo f n) < f n then n else bstTo f n
theorem bstTo_lt (f : Nat → Int) {n : Nat} : bstTo f n ≤ n := by
  induction n with
  | zero => exact Nat.le_refl _
  | succ n ih => simp only [bstTo]; split <;> omega
theorem bstTo_lt' (f : Nat → Int) {n : Nat} (h : 0 < n) : bstTo f n < n := by
  obtain ⟨m, rfl⟩ : ∃ m, n = m + 1 := ⟨n - 1, by omega⟩
  have := bstTo_lt f (n := m)
  simp only [bstTo]
  split <;> omega
theorem sgP_rg {x : Int32} {ps : Nat → Int} {m : Nat} (h : ∀ j, j < m → -2147483648 ≤ ps j ∧ ps j < 2147483648) (n : Nat) : ∀ j, j < m + sgN x n → -2147483648 ≤ sgP x ps m n j ∧ sgP x ps m n j < 2147483648 := by
  induction n with
  | zero => exact h
  | succ n ih =>
    intro j hj
    simp only [sgN, sgP] at hj ⊢
    by_cases hz : sg x n = 0
    · rw [if_pos hz] at hj ⊢
      exact ih j hj
    · rw [if_neg hz] at hj ⊢
      by_cases e : j = m + sgN x n
      · subst e; rw [va_up_self]; exact ⟨sg_lo x n, sg_hi x n⟩
      · rw [va_up_ne _ _ e]; exact ih j (by omega)
def tl2 (f : Nat → Nat → Int) (i : Nat) (t : Nat → Int) (o : Nat) : Nat → Nat → Nat → Int
  | 0 => f
  | n + 1 => up2 (tl2 f i t o n) i (t (3 * n)).toNat (t (3 * n + o))
def cntV (Y nE iE nD rN pN n m : Nat) : Nat := if m = 0 then Y else if m = 1 then nE else if m = 2 then iE else if m = 3 then nD else if m = 4 then rN else if m = 5 then pN else n
section CZ
variable {G : mx_G} {d bc bs : Nat} {N : Nat} {ce : Nat → va_E} {Q : mx_P} {Y : Nat} {U : Int} {nE iE nD : Nat} {rA rS : Int} {eA eS : Nat → Nat → Int} {dA dS : Nat → Int} {dW : Nat → Nat → Int} {lc : Nat → Bool} {rn rg : Nat → Nat} {rN : Nat} {ps : Nat → Int} {pN : Nat}
theorem c_C_least (hG : mx_ok G) (hN : 50 ≤ N) (hC : CS G Y U nE iE nD rA rS eA eS dA dS dW lc rn rg rN ps pN ce) {i u v : Int} (i1 : -2147483648 ≤ i) (i2 : i < 2147483648) (u1 : -2147483648 ≤ u) (u2 : u < 2147483648) (v1 : -2147483648 ≤ v) (v2 : v < 2147483648)
    (q0 : ¬ (0 ≤ i ∧ i < nD) → Q (.inr xI) N ce bc bs) (q1 : (0 ≤ i ∧ i < nD) → ¬ (1 ≤ u ∧ u ≤ v ∧ v ≤ 1000) → Q (.inr xA) N ce bc bs)
    (q2 : ∀ ce' (j : Nat) (lc' : Nat → Bool), i = j → j < nD → (1 ≤ u ∧ u ≤ v ∧ v ≤ 1000) → (∀ y, y < Y → lc' y = need (dW j) Y u v y) → CS G Y U nE iE nD rA rS eA eS dA dS dW (lc') rn rg rN ps pN ce' → (∀ k, 50 ≤ k → ce' k = ce k) → Q (.inl (some (.int (iI (bgN lc' Y : Nat))))) N ce' bc bs) : mx_M G Y_C_least (d + 6) (bc + 1) (bs + 6) false N ce 0 [(0, .ref (mx_B G + 0)), (1, .int (iI i)), (2, .int (iI u)), (3, .int (iI v))] [] Q := by
  have hC0 := hC
  obtain ⟨⟨hY, hU, hE, hD, hrA, hrS, hEA, hES, hDA, hDS, hDz, hDW, hrN, hrn, hpN, hps⟩, c0, c1, c14, cE, cD, cL, cR, cP, cT⟩ := hC
  refine mx_aload_n (k4 := 0) (mx_d D_C_least 0 rfl) (by rfl) ?_
  refine mx_iload_n (k4 := 1) (mx_d D_C_least 1 rfl) (by rfl) ?_
  refine mx_callV hG (Y' := Y_C_needDate) (ci := 0) [_] (mx_d D_C_least 2 rfl) in_C_needDate w_428 w_430 s_C_needDate (by rfl) np_C_needDate (by exact Nat.le_of_ble_eq_true rfl) (by rfl) (by first | assumption | omega) (by first | assumption | exact va_up_self _ _ _ | (rw [va_up_ne _ _ (by omega)]; first | assumption | exact va_up_self _ _ _ | (rw [va_up_ne _ _ (by omega)]; first | assumption | exact va_up_self _ _ _ | (rw [va_up_ne _ _ (by omega)]; first | assumption | exact va_up_self _ _ _ | (rw [va_up_ne _ _ (by omega)]; first | assumption | exact va_up_self _ _ _ | (rw [va_up_ne _ _ (by omega)]; first | assumption | exact va_up_self _ _ _)))))) (by rfl) (by exact Nat.le_of_ble_eq_true rfl) (c_needDate hG hN c0 hD i1 i2 q0 (fun h1 h2 => ?_))
  refine mx_iconst (n := 1) (mx_d D_C_least 3 rfl) ?_
  refine mx_iload_n (k4 := 2) (mx_d D_C_least 4 rfl) (by rfl) ?_
  refine mx_iload_n (k4 := 3) (mx_d D_C_least 5 rfl) (by rfl) ?_
  refine mx_callS (Y' := Y_C_needShare) [_, _, _] (mx_d D_C_least 6 rfl) in_C_needShare w_469 w_470 np_C_needShare (by exact Nat.le_of_ble_eq_true rfl) (by rfl) (by rfl) (by exact Nat.le_of_ble_eq_true rfl) (c_needShare hG (by omega) (by omega) u1 u2 v1 v2 (q1 ⟨h1, h2⟩) (fun h6 => ?_))
  refine mx_bud (Nat.le_succ bc) (Nat.le_add_right bs 6) ?_
  obtain ⟨j, rfl⟩ : ∃ j : Nat, i = j := ⟨i.toNat, by omega⟩
  obtain ⟨g1, g2⟩ := cD j (by omega)
  obtain ⟨l1, l2, lf, ll, l3, l4, l5⟩ := cL
  refine mx_aload_n (k4 := 0) (mx_d D_C_least 7 rfl) (by rfl) ?_
  refine mx_getf hG (idx := 45) (ci := 0) (kf := 4) (mx_d D_C_least 8 rfl) (by rfl) cls_C (by decide) w_153 (by first | assumption | omega) (by first | assumption | exact va_up_self _ _ _ | (rw [va_up_ne _ _ (by omega)]; first | assumption | exact va_up_self _ _ _ | (rw [va_up_ne _ _ (by omega)]; first | assumption | exact va_up_self _ _ _ | (rw [va_up_ne _ _ (by omega)]; first | assumption | exact va_up_self _ _ _ | (rw [va_up_ne _ _ (by omega)]; first | assumption | exact va_up_self _ _ _ | (rw [va_up_ne _ _ (by omega)]; first | assumption | exact va_up_self _ _ _)))))) (by rfl) ?_
  refine mx_aload_n (k4 := 0) (mx_d D_C_least 9 rfl) (by rfl) ?_
  refine mx_getf hG (idx := 37) (ci := 0) (kf := 3) (mx_d D_C_least 10 rfl) (by rfl) cls_C (by decide) w_152 (by first | assumption | omega) (by first | assumption | exact va_up_self _ _ _ | (rw [va_up_ne _ _ (by omega)]; first | assumption | exact va_up_self _ _ _ | (rw [va_up_ne _ _ (by omega)]; first | assumption | exact va_up_self _ _ _ | (rw [va_up_ne _ _ (by omega)]; first | assumption | exact va_up_self _ _ _ | (rw [va_up_ne _ _ (by omega)]; first | assumption | exact va_up_self _ _ _ | (rw [va_up_ne _ _ (by omega)]; first | assumption | exact va_up_self _ _ _)))))) (by rfl) ?_
  refine mx_iload_n (k4 := 1) (mx_d D_C_least 11 rfl) (by rfl) ?_
  refine mx_aald hG 4 (j) (mx_d D_C_least 12 rfl) (by first | assumption | omega) (by first | assumption | exact va_up_self _ _ _ | (rw [va_up_ne _ _ (by omega)]; first | assumption | exact va_up_self _ _ _ | (rw [va_up_ne _ _ (by omega)]; first | assumption | exact va_up_self _ _ _ | (rw [va_up_ne _ _ (by omega)]; first | assumption | exact va_up_self _ _ _ | (rw [va_up_ne _ _ (by omega)]; first | assumption | exact va_up_self _ _ _ | (rw [va_up_ne _ _ (by omega)]; first | assumption | exact va_up_self _ _ _)))))) (by rfl) (by rfl) (by rfl) (by omega) (by omega) (show _ = some (mx_B G + (15 + 2 * j)) by exact if_pos (by omega)) ?_
  refine mx_iload_n (k4 := 2) (mx_d D_C_least 13 rfl) (by rfl) ?_
  refine mx_iload_n (k4 := 3) (mx_d D_C_least 14 rfl) (by rfl) ?_
  refine mx_callV hG (Y' := Y_L_choose) (ci := 3) [_, _, _] (mx_d D_C_least 15 rfl) in_L_choose w_498 w_499 s_L_choose (by rfl) np_L_choose (by exact Nat.le_of_ble_eq_true rfl) (by rfl) (by first | assumption | omega) (by first | assumption | exact va_up_self _ _ _ | (rw [va_up_ne _ _ (by omega)]; first | assumption | exact va_up_self _ _ _ | (rw [va_up_ne _ _ (by omega)]; first | assumption | exact va_up_self _ _ _ | (rw [va_up_ne _ _ (by omega)]; first | assumption | exact va_up_self _ _ _ | (rw [va_up_ne _ _ (by omega)]; first | assumption | exact va_up_self _ _ _ | (rw [va_up_ne _ _ (by omega)]; first | assumption | exact va_up_self _ _ _)))))) (by rfl) (by exact Nat.le_of_ble_eq_true rfl) (c_L_choose hG (by omega) (by omega) (by omega) (by omega) (by omega) (by omega) (by omega) (by omega) (by omega) (by omega) l1 l2 l3 l4 (by omega) (by omega) (by omega) (by omega) (by omega) g1 g2 (hDW j (by omega)) (by omega) (by omega) (by omega) (by omega) (fun ce' lc' lf' ll' k1 k2 k3 k4 k5 k6 k7 => ?_))
  have c0' : ce' 0 = _ := (k1 0 (by omega) (by omega) (by omega) (by omega)).trans c0
  refine mx_aload_n (k4 := 0) (mx_d D_C_least 16 rfl) (by rfl) ?_
  refine mx_getf hG (idx := 45) (ci := 0) (kf := 4) (mx_d D_C_least 17 rfl) (by rfl) cls_C (by decide) w_153 (by first | assumption | omega) (by first | assumption | exact va_up_self _ _ _ | (rw [va_up_ne _ _ (by omega)]; first | assumption | exact va_up_self _ _ _ | (rw [va_up_ne _ _ (by omega)]; first | assumption | exact va_up_self _ _ _ | (rw [va_up_ne _ _ (by omega)]; first | assumption | exact va_up_self _ _ _ | (rw [va_up_ne _ _ (by omega)]; first | assumption | exact va_up_self _ _ _ | (rw [va_up_ne _ _ (by omega)]; first | assumption | exact va_up_self _ _ _)))))) (by rfl) ?_
  refine mx_getf hG (idx := 176) (ci := 3) (kf := 3) (mx_d D_C_least 18 rfl) (by rfl) cls_L (by decide) w_86 (by first | assumption | omega) (by first | assumption | exact va_up_self _ _ _ | (rw [va_up_ne _ _ (by omega)]; first | assumption | exact va_up_self _ _ _ | (rw [va_up_ne _ _ (by omega)]; first | assumption | exact va_up_self _ _ _ | (rw [va_up_ne _ _ (by omega)]; first | assumption | exact va_up_self _ _ _ | (rw [va_up_ne _ _ (by omega)]; first | assumption | exact va_up_self _ _ _ | (rw [va_up_ne _ _ (by omega)]; first | assumption | exact va_up_self _ _ _)))))) (by rfl) ?_
  refine mx_iret (by rfl) (mx_d D_C_least 19 rfl) ?_
  refine q2 ce' j lc' rfl (by omega) h6 k7 ⟨⟨hY, hU, hE, hD, hrA, hrS, hEA, hES, hDA, hDS, hDz, hDW, hrN, hrn, hpN, hps⟩, c0', (k1 1 (by omega) (by omega) (by omega) (by omega)).trans c1, (k1 14 (by omega) (by omega) (by omega) (by omega)).trans c14, csE_fr cE (fun k _ _ => k1 k (by omega) (by omega) (by omega) (by omega)), csD_fr cD (fun k _ _ => k1 k (by omega) (by omega) (by omega) (by omega)), ⟨k2, k3, lf', ll', k4, k5, k6⟩, csR_fr cR (fun k _ _ => k1 k (by omega) (by omega) (by omega) (by omega)), csP_fr cP (fun k _ _ => k1 k (by omega) (by omega) (by omega) (by omega)), csT_fr cT (fun k _ _ => k1 k (by omega) (by omega) (by omega) (by omega))⟩ (fun k hk => k1 k (by omega) (by omega) (by omega) (by omega))
theorem c_C_span (hG : mx_ok G) (hN : 50 ≤ N) (hC : CS G Y U nE iE nD rA rS eA eS dA dS dW lc rn rg rN ps pN ce) {k z : Int} (k1 : -2147483648 ≤ k) (k2 : k < 2147483648) (z1 : -2147483648 ≤ z) (z2 : z < 2147483648)
    (q0 : ¬ ((0 ≤ k ∧ k < (bgN lc Y : Nat)) ∧ 0 ≤ z ∧ z ≤ 1) → Q (.inr xI) N ce bc bs)
    (q2 : ∀ j F L : Nat, k = j → j < bgN lc Y → spOf lc Y j F L → (z = 0 ∨ z = 1) → Q (.inl (some (.int (iI (if z = 0 then (F : Int) else (L : Int)))))) N ce bc bs) : mx_M G Y_C_span (d + 6) (bc + 1) (bs + 6) false N ce 0 [(0, .ref (mx_B G + 0)), (1, .int (iI k)), (2, .int (iI z))] [] Q := by
  obtain ⟨⟨hY, hU, hE, hD, hrA, hrS, hEA, hES, hDA, hDS, hDz, hDW, hrN, hrn, hpN, hps⟩, c0, c1, c14, cE, cD, cL, cR, cP, cT⟩ := hC
  obtain ⟨l1, l2, lf, ll, l3, l4, l5⟩ := cL
  have hb := bgN_le lc Y
  have thr : ¬ (0 ≤ k ∧ k < (bgN lc Y : Nat)) → ∀ {l9 : List (Nat × Value)}, mx_M G Y_C_span (d + 6) (bc + 1) (bs + 6) false N ce 15 l9 [] Q := by
    intro h l9
    refine mx_throw hG ["java/lang/RuntimeException", "java/lang/Exception"] (E := "java/lang/IndexOutOfBoundsException") (tx := "no such span") (mx_d D_C_span 7 rfl) (mx_d D_C_span 8 rfl) (mx_d D_C_span 9 rfl) (mx_d D_C_span 10 rfl) (mx_d D_C_span 11 rfl) (by decide) (by decide) (by decide) w_260 w_13 w_261 (by decide) th_102 (by rfl) (by exact Nat.le_of_ble_eq_true rfl) ?_
    exact q0 (fun z => h z.1)
  have thr2 : ¬ (0 ≤ z ∧ z ≤ 1) → ∀ {l9 : List (Nat × Value)}, mx_M G Y_C_span (d + 6) (bc + 1) (bs + 6) false N ce 34 l9 [] Q := by
    intro h l9
    refine mx_throw hG ["java/lang/RuntimeException", "java/lang/Exception"] (E := "java/lang/IndexOutOfBoundsException") (tx := "no such end") (mx_d D_C_span 17 rfl) (mx_d D_C_span 18 rfl) (mx_d D_C_span 19 rfl) (mx_d D_C_span 20 rfl) (mx_d D_C_span 21 rfl) (by decide) (by decide) (by decide) w_260 w_13 w_261 (by decide) th_102 (by rfl) (by exact Nat.le_of_ble_eq_true rfl) ?_
    exact q0 (fun z => h z.2)
  refine mx_iload_n (k4 := 1) (mx_d D_C_span 0 rfl) (by rfl) ?_
  by_cases h1 : k < 0
  · refine mx_if_ltY 15 (mx_d D_C_span 1 rfl) (by decide) (by omega) (by omega) (by omega) ?_
    exact thr (by omega)
  · refine mx_if_ltN 15 (mx_d D_C_span 1 rfl) (by decide) (by omega) (by omega) (by omega) ?_
    refine mx_iload_n (k4 := 1) (mx_d D_C_span 2 rfl) (by rfl) ?_
    refine mx_aload_n (k4 := 0) (mx_d D_C_span 3 rfl) (by rfl) ?_
    refine mx_getf hG (idx := 45) (ci := 0) (kf := 4) (mx_d D_C_span 4 rfl) (by rfl) cls_C (by decide) w_153 (by first | assumption | omega) (by first | assumption | exact va_up_self _ _ _ | (rw [va_up_ne _ _ (by omega)]; first | assumption | exact va_up_self _ _ _ | (rw [va_up_ne _ _ (by omega)]; first | assumption | exact va_up_self _ _ _ | (rw [va_up_ne _ _ (by omega)]; first | assumption | exact va_up_self _ _ _ | (rw [va_up_ne _ _ (by omega)]; first | assumption | exact va_up_self _ _ _ | (rw [va_up_ne _ _ (by omega)]; first | assumption | exact va_up_self _ _ _)))))) (by rfl) ?_
    refine mx_getf hG (idx := 176) (ci := 3) (kf := 3) (mx_d D_C_span 5 rfl) (by rfl) cls_L (by decide) w_86 (by first | assumption | omega) (by first | assumption | exact va_up_self _ _ _ | (rw [va_up_ne _ _ (by omega)]; first | assumption | exact va_up_self _ _ _ | (rw [va_up_ne _ _ (by omega)]; first | assumption | exact va_up_self _ _ _ | (rw [va_up_ne _ _ (by omega)]; first | assumption | exact va_up_self _ _ _ | (rw [va_up_ne _ _ (by omega)]; first | assumption | exact va_up_self _ _ _ | (rw [va_up_ne _ _ (by omega)]; first | assumption | exact va_up_self _ _ _)))))) (by rfl) ?_
    by_cases h2 : k < (bgN lc Y : Nat)
    · refine mx_icmp_ltY 25 (mx_d D_C_span 6 rfl) (by decide) (by omega) (by omega) (by omega) (by omega) (by omega) ?_
      refine mx_iload_n (k4 := 2) (mx_d D_C_span 12 rfl) (by rfl) ?_
      by_cases h3 : z < 0
      · refine mx_if_ltY 34 (mx_d D_C_span 13 rfl) (by decide) (by omega) (by omega) (by omega) ?_
        exact thr2 (by omega)
      · refine mx_if_ltN 34 (mx_d D_C_span 13 rfl) (by decide) (by omega) (by omega) (by omega) ?_
        refine mx_iload_n (k4 := 2) (mx_d D_C_span 14 rfl) (by rfl) ?_
        refine mx_iconst (n := 1) (mx_d D_C_span 15 rfl) ?_
        by_cases h4 : z ≤ 1
        · refine mx_icmp_leY 44 (mx_d D_C_span 16 rfl) (by decide) (by omega) (by omega) (by omega) (by omega) (by omega) ?_
          refine mx_bud (Nat.le_succ bc) (Nat.le_add_right bs 6) ?_
          obtain ⟨j, rfl⟩ : ∃ j : Nat, k = j := ⟨k.toNat, by omega⟩
          obtain ⟨F, L, f1, f2, f3⟩ := l5 j (by omega)
          have q9 := q2 j F L rfl (by omega) f3 (by omega)
          refine mx_iload_n (k4 := 2) (mx_d D_C_span 22 rfl) (by rfl) ?_
          by_cases h5 : z = 0
          · refine mx_if_neN 60 (mx_d D_C_span 23 rfl) (by decide) (by omega) (by omega) (by omega) ?_
            refine mx_aload_n (k4 := 0) (mx_d D_C_span 24 rfl) (by rfl) ?_
            refine mx_getf hG (idx := 45) (ci := 0) (kf := 4) (mx_d D_C_span 25 rfl) (by rfl) cls_C (by decide) w_153 (by first | assumption | omega) (by first | assumption | exact va_up_self _ _ _ | (rw [va_up_ne _ _ (by omega)]; first | assumption | exact va_up_self _ _ _ | (rw [va_up_ne _ _ (by omega)]; first | assumption | exact va_up_self _ _ _ | (rw [va_up_ne _ _ (by omega)]; first | assumption | exact va_up_self _ _ _ | (rw [va_up_ne _ _ (by omega)]; first | assumption | exact va_up_self _ _ _ | (rw [va_up_ne _ _ (by omega)]; first | assumption | exact va_up_self _ _ _)))))) (by rfl) ?_
            refine mx_getf hG (idx := 183) (ci := 3) (kf := 1) (mx_d D_C_span 26 rfl) (by rfl) cls_L (by decide) w_82 (by first | assumption | omega) (by first | assumption | exact va_up_self _ _ _ | (rw [va_up_ne _ _ (by omega)]; first | assumption | exact va_up_self _ _ _ | (rw [va_up_ne _ _ (by omega)]; first | assumption | exact va_up_self _ _ _ | (rw [va_up_ne _ _ (by omega)]; first | assumption | exact va_up_self _ _ _ | (rw [va_up_ne _ _ (by omega)]; first | assumption | exact va_up_self _ _ _ | (rw [va_up_ne _ _ (by omega)]; first | assumption | exact va_up_self _ _ _)))))) (by rfl) ?_
            refine mx_iload_n (k4 := 1) (mx_d D_C_span 27 rfl) (by rfl) ?_
            refine mx_ialdI hG _ (mx_d D_C_span 28 rfl) (by first | assumption | omega) (by first | assumption | exact va_up_self _ _ _ | (rw [va_up_ne _ _ (by omega)]; first | assumption | exact va_up_self _ _ _ | (rw [va_up_ne _ _ (by omega)]; first | assumption | exact va_up_self _ _ _ | (rw [va_up_ne _ _ (by omega)]; first | assumption | exact va_up_self _ _ _ | (rw [va_up_ne _ _ (by omega)]; first | assumption | exact va_up_self _ _ _ | (rw [va_up_ne _ _ (by omega)]; first | assumption | exact va_up_self _ _ _)))))) (by rfl) (by omega) (by omega) ?_
            refine mx_goto 69 (mx_d D_C_span 29 rfl) (by decide) ?_
            refine mx_iret (by rfl) (mx_d D_C_span 35 rfl) ?_
            rw [if_pos h5] at q9
            rw [f1]
            exact q9
          · refine mx_if_neY 60 (mx_d D_C_span 23 rfl) (by decide) (by omega) (by omega) (by omega) ?_
            refine mx_aload_n (k4 := 0) (mx_d D_C_span 30 rfl) (by rfl) ?_
            refine mx_getf hG (idx := 45) (ci := 0) (kf := 4) (mx_d D_C_span 31 rfl) (by rfl) cls_C (by decide) w_153 (by first | assumption | omega) (by first | assumption | exact va_up_self _ _ _ | (rw [va_up_ne _ _ (by omega)]; first | assumption | exact va_up_self _ _ _ | (rw [va_up_ne _ _ (by omega)]; first | assumption | exact va_up_self _ _ _ | (rw [va_up_ne _ _ (by omega)]; first | assumption | exact va_up_self _ _ _ | (rw [va_up_ne _ _ (by omega)]; first | assumption | exact va_up_self _ _ _ | (rw [va_up_ne _ _ (by omega)]; first | assumption | exact va_up_self _ _ _)))))) (by rfl) ?_
            refine mx_getf hG (idx := 186) (ci := 3) (kf := 2) (mx_d D_C_span 32 rfl) (by rfl) cls_L (by decide) w_84 (by first | assumption | omega) (by first | assumption | exact va_up_self _ _ _ | (rw [va_up_ne _ _ (by omega)]; first | assumption | exact va_up_self _ _ _ | (rw [va_up_ne _ _ (by omega)]; first | assumption | exact va_up_self _ _ _ | (rw [va_up_ne _ _ (by omega)]; first | assumption | exact va_up_self _ _ _ | (rw [va_up_ne _ _ (by omega)]; first | assumption | exact va_up_self _ _ _ | (rw [va_up_ne _ _ (by omega)]; first | assumption | exact va_up_self _ _ _)))))) (by rfl) ?_
            refine mx_iload_n (k4 := 1) (mx_d D_C_span 33 rfl) (by rfl) ?_
            refine mx_ialdI hG _ (mx_d D_C_span 34 rfl) (by first | assumption | omega) (by first | assumption | exact va_up_self _ _ _ | (rw [va_up_ne _ _ (by omega)]; first | assumption | exact va_up_self _ _ _ | (rw [va_up_ne _ _ (by omega)]; first | assumption | exact va_up_self _ _ _ | (rw [va_up_ne _ _ (by omega)]; first | assumption | exact va_up_self _ _ _ | (rw [va_up_ne _ _ (by omega)]; first | assumption | exact va_up_self _ _ _ | (rw [va_up_ne _ _ (by omega)]; first | assumption | exact va_up_self _ _ _)))))) (by rfl) (by omega) (by omega) ?_
            refine mx_iret (by rfl) (mx_d D_C_span 35 rfl) ?_
            rw [if_neg h5] at q9
            rw [f2]
            exact q9
        · refine mx_icmp_leN 44 (mx_d D_C_span 16 rfl) (by decide) (by omega) (by omega) (by omega) (by omega) (by omega) ?_
          exact thr2 (by omega)
    · refine mx_icmp_ltN 25 (mx_d D_C_span 6 rfl) (by decide) (by omega) (by omega) (by omega) (by omega) (by omega) ?_
      exact thr (by omega)
theorem c_C_gap (hG : mx_ok G) (hN : 50 ≤ N) (hC : CS G Y U nE iE nD rA rS eA eS dA dS dW lc rn rg rN ps pN ce) {i z : Int} (i1 : -2147483648 ≤ i) (i2 : i < 2147483648) (z1 : -2147483648 ≤ z) (z2 : z < 2147483648)
    (q0 : ¬ (0 ≤ i ∧ i < nD) → Q (.inr xI) N ce bc bs) (q1 : (0 ≤ i ∧ i < nD) → ¬ (0 ≤ z ∧ z ≤ 59) → Q (.inr xA) N ce bc bs) (q2 : (0 ≤ i ∧ i < nD) → (0 ≤ z ∧ z ≤ 59) → ¬ rN < 8 → Q (.inr xS) N ce bc bs)
    (q3 : ∀ ce' (j g : Nat), i = j → z = g → j < nD → g ≤ 59 → rN < 8 → CS G Y U nE iE nD rA rS eA eS dA dS dW lc (va_up rn rN j) (va_up rg rN g) (rN + 1) ps pN ce' → (∀ k, 50 ≤ k → ce' k = ce k) → Q (.inl (some (.int (iI ((rN + 1 : Nat) : Int))))) N ce' bc bs) : mx_M G Y_C_gap (d + 6) (bc + 1) (bs + 6) false N ce 0 [(0, .ref (mx_B G + 0)), (1, .int (iI i)), (2, .int (iI z))] [] Q := by
  obtain ⟨⟨hY, hU, hE, hD, hrA, hrS, hEA, hES, hDA, hDS, hDz, hDW, hrN, hrn, hpN, hps⟩, c0, c1, c14, cE, cD, cL, cR, cP, cT⟩ := hC
  obtain ⟨r1, r2, r3⟩ := cR
  refine mx_aload_n (k4 := 0) (mx_d D_C_gap 0 rfl) (by rfl) ?_
  refine mx_iload_n (k4 := 1) (mx_d D_C_gap 1 rfl) (by rfl) ?_
  refine mx_callV hG (Y' := Y_C_needDate) (ci := 0) [_] (mx_d D_C_gap 2 rfl) in_C_needDate w_428 w_430 s_C_needDate (by rfl) np_C_needDate (by exact Nat.le_of_ble_eq_true rfl) (by rfl) (by first | assumption | omega) (by first | assumption | exact va_up_self _ _ _ | (rw [va_up_ne _ _ (by omega)]; first | assumption | exact va_up_self _ _ _ | (rw [va_up_ne _ _ (by omega)]; first | assumption | exact va_up_self _ _ _ | (rw [va_up_ne _ _ (by omega)]; first | assumption | exact va_up_self _ _ _ | (rw [va_up_ne _ _ (by omega)]; first | assumption | exact va_up_self _ _ _ | (rw [va_up_ne _ _ (by omega)]; first | assumption | exact va_up_self _ _ _)))))) (by rfl) (by exact Nat.le_of_ble_eq_true rfl) (c_needDate hG hN c0 hD i1 i2 q0 (fun h1 h2 => ?_))
  have thr : ¬ (0 ≤ z ∧ z ≤ 59) → ∀ {l9 : List (Nat × Value)}, mx_M G Y_C_gap (d + 6) (bc + 1) (bs + 6) false N ce 15 l9 [] Q := by
    intro h l9
    refine mx_throw hG ["java/lang/RuntimeException", "java/lang/Exception"] (E := "java/lang/IllegalArgumentException") (tx := "a gap is 0 .. 59") (mx_d D_C_gap 8 rfl) (mx_d D_C_gap 9 rfl) (mx_d D_C_gap 10 rfl) (mx_d D_C_gap 11 rfl) (mx_d D_C_gap 12 rfl) (by decide) (by decide) (by decide) w_331 w_14 w_332 (by decide) th_107 (by rfl) (by exact Nat.le_of_ble_eq_true rfl) ?_
    exact q1 ⟨h1, h2⟩ h
  refine mx_iload_n (k4 := 2) (mx_d D_C_gap 3 rfl) (by rfl) ?_
  by_cases h3 : z < 0
  · refine mx_if_ltY 15 (mx_d D_C_gap 4 rfl) (by decide) (by omega) (by omega) (by omega) ?_
    exact thr (by omega)
  · refine mx_if_ltN 15 (mx_d D_C_gap 4 rfl) (by decide) (by omega) (by omega) (by omega) ?_
    refine mx_iload_n (k4 := 2) (mx_d D_C_gap 5 rfl) (by rfl) ?_
    refine mx_bipush (n := 59) (mx_d D_C_gap 6 rfl) (by decide) ?_
    by_cases h4 : z ≤ 59
    · refine mx_icmp_leY 25 (mx_d D_C_gap 7 rfl) (by decide) (by omega) (by omega) (by omega) (by omega) (by omega) ?_
      refine mx_aload_n (k4 := 0) (mx_d D_C_gap 13 rfl) (by rfl) ?_
      refine mx_getf hG (idx := 52) (ci := 0) (kf := 5) (mx_d D_C_gap 14 rfl) (by rfl) cls_C (by decide) w_154 (by first | assumption | omega) (by first | assumption | exact va_up_self _ _ _ | (rw [va_up_ne _ _ (by omega)]; first | assumption | exact va_up_self _ _ _ | (rw [va_up_ne _ _ (by omega)]; first | assumption | exact va_up_self _ _ _ | (rw [va_up_ne _ _ (by omega)]; first | assumption | exact va_up_self _ _ _ | (rw [va_up_ne _ _ (by omega)]; first | assumption | exact va_up_self _ _ _ | (rw [va_up_ne _ _ (by omega)]; first | assumption | exact va_up_self _ _ _)))))) (by rfl) ?_
      refine mx_getf hG (idx := 191) (ci := 4) (kf := 2) (mx_d D_C_gap 15 rfl) (by rfl) cls_R (by decide) w_106 (by first | assumption | omega) (by first | assumption | exact va_up_self _ _ _ | (rw [va_up_ne _ _ (by omega)]; first | assumption | exact va_up_self _ _ _ | (rw [va_up_ne _ _ (by omega)]; first | assumption | exact va_up_self _ _ _ | (rw [va_up_ne _ _ (by omega)]; first | assumption | exact va_up_self _ _ _ | (rw [va_up_ne _ _ (by omega)]; first | assumption | exact va_up_self _ _ _ | (rw [va_up_ne _ _ (by omega)]; first | assumption | exact va_up_self _ _ _)))))) (by rfl) ?_
      refine mx_bipush (n := 8) (mx_d D_C_gap 16 rfl) (by decide) ?_
      by_cases h5 : rN < 8
      · refine mx_icmp_ltY 47 (mx_d D_C_gap 17 rfl) (by decide) (by omega) (by omega) (by omega) (by omega) (by omega) ?_
        refine mx_bud (Nat.le_succ bc) (Nat.le_add_right bs 6) ?_
        obtain ⟨j, rfl⟩ : ∃ j : Nat, i = j := ⟨i.toNat, by omega⟩
        obtain ⟨g, rfl⟩ : ∃ g : Nat, z = g := ⟨z.toNat, by omega⟩
        refine mx_aload_n (k4 := 0) (mx_d D_C_gap 23 rfl) (by rfl) ?_
        refine mx_getf hG (idx := 52) (ci := 0) (kf := 5) (mx_d D_C_gap 24 rfl) (by rfl) cls_C (by decide) w_154 (by first | assumption | omega) (by first | assumption | exact va_up_self _ _ _ | (rw [va_up_ne _ _ (by omega)]; first | assumption | exact va_up_self _ _ _ | (rw [va_up_ne _ _ (by omega)]; first | assumption | exact va_up_self _ _ _ | (rw [va_up_ne _ _ (by omega)]; first | assumption | exact va_up_self _ _ _ | (rw [va_up_ne _ _ (by omega)]; first | assumption | exact va_up_self _ _ _ | (rw [va_up_ne _ _ (by omega)]; first | assumption | exact va_up_self _ _ _)))))) (by rfl) ?_
        refine mx_iload_n (k4 := 1) (mx_d D_C_gap 25 rfl) (by rfl) ?_
        refine mx_iload_n (k4 := 2) (mx_d D_C_gap 26 rfl) (by rfl) ?_
        refine mx_callV hG (Y' := Y_R_append) (ci := 4) [_, _] (mx_d D_C_gap 27 rfl) in_R_append w_533 w_534 s_R_append (by rfl) np_R_append (by exact Nat.le_of_ble_eq_true rfl) (by rfl) (by first | assumption | omega) (by first | assumption | exact va_up_self _ _ _ | (rw [va_up_ne _ _ (by omega)]; first | assumption | exact va_up_self _ _ _ | (rw [va_up_ne _ _ (by omega)]; first | assumption | exact va_up_self _ _ _ | (rw [va_up_ne _ _ (by omega)]; first | assumption | exact va_up_self _ _ _ | (rw [va_up_ne _ _ (by omega)]; first | assumption | exact va_up_self _ _ _ | (rw [va_up_ne _ _ (by omega)]; first | assumption | exact va_up_self _ _ _)))))) (by rfl) (by exact Nat.le_of_ble_eq_true rfl) (c_R_append hG (by omega) (by omega) (by omega) (by omega) (by omega) (by omega) r1 r2 r3 h5 ?_)
        refine mx_aload_n (k4 := 0) (mx_d D_C_gap 28 rfl) (by rfl) ?_
        refine mx_getf hG (idx := 52) (ci := 0) (kf := 5) (mx_d D_C_gap 29 rfl) (by rfl) cls_C (by decide) w_154 (by first | assumption | omega) (by first | assumption | exact va_up_self _ _ _ | (rw [va_up_ne _ _ (by omega)]; first | assumption | exact va_up_self _ _ _ | (rw [va_up_ne _ _ (by omega)]; first | assumption | exact va_up_self _ _ _ | (rw [va_up_ne _ _ (by omega)]; first | assumption | exact va_up_self _ _ _ | (rw [va_up_ne _ _ (by omega)]; first | assumption | exact va_up_self _ _ _ | (rw [va_up_ne _ _ (by omega)]; first | assumption | exact va_up_self _ _ _)))))) (by rfl) ?_
        refine mx_getf hG (idx := 191) (ci := 4) (kf := 2) (mx_d D_C_gap 30 rfl) (by rfl) cls_R (by decide) w_106 (by first | assumption | omega) (by first | assumption | exact va_up_self _ _ _ | (rw [va_up_ne _ _ (by omega)]; first | assumption | exact va_up_self _ _ _ | (rw [va_up_ne _ _ (by omega)]; first | assumption | exact va_up_self _ _ _ | (rw [va_up_ne _ _ (by omega)]; first | assumption | exact va_up_self _ _ _ | (rw [va_up_ne _ _ (by omega)]; first | assumption | exact va_up_self _ _ _ | (rw [va_up_ne _ _ (by omega)]; first | assumption | exact va_up_self _ _ _)))))) (by rfl) ?_
        refine mx_iret (by rfl) (mx_d D_C_gap 31 rfl) ?_
        refine q3 _ j g rfl rfl (by omega) (by omega) h5 ⟨⟨hY, hU, hE, hD, hrA, hrS, hEA, hES, hDA, hDS, hDz, hDW, by omega, fun i hi => ?_, hpN, hps⟩, ?_, ?_, ?_, csE_fr cE (fun k _ _ => ?_), csD_fr cD (fun k _ _ => ?_), csL_fr cL (fun k _ _ => ?_), ⟨va_up_self _ _ _, ?_, ?_⟩, csP_fr cP (fun k _ _ => ?_), csT_fr cT (fun k _ _ => ?_)⟩ (fun k hk => ?_)
        · by_cases e : i = rN
          · subst e; rw [va_up_self, va_up_self]; exact ⟨by omega, by omega⟩
          · rw [va_up_ne _ _ e, va_up_ne _ _ e]; exact hrn i (by omega)
        · rw [va_up_ne _ _ (by omega), va_up_ne _ _ (by omega), va_up_ne _ _ (by omega)]; exact c0
        · rw [va_up_ne _ _ (by omega), va_up_ne _ _ (by omega), va_up_ne _ _ (by omega)]; exact c1
        · rw [va_up_ne _ _ (by omega), va_up_ne _ _ (by omega), va_up_ne _ _ (by omega)]; exact c14
        · rw [va_up_ne _ _ (by omega), va_up_ne _ _ (by omega), va_up_ne _ _ (by omega)]
        · rw [va_up_ne _ _ (by omega), va_up_ne _ _ (by omega), va_up_ne _ _ (by omega)]
        · rw [va_up_ne _ _ (by omega), va_up_ne _ _ (by omega), va_up_ne _ _ (by omega)]
        · rw [va_up_ne _ _ (by omega), va_up_ne _ _ (by omega), va_up_self]
        · rw [va_up_ne _ _ (by omega), va_up_self]
        all_goals rw [va_up_ne _ _ (by omega), va_up_ne _ _ (by omega), va_up_ne _ _ (by omega)]
      · refine mx_icmp_ltN 47 (mx_d D_C_gap 17 rfl) (by decide) (by omega) (by omega) (by omega) (by omega) (by omega) ?_
        refine mx_throw hG ["java/lang/RuntimeException", "java/lang/Exception"] (E := "java/lang/IllegalStateException") (tx := "the row has eight dates") (mx_d D_C_gap 18 rfl) (mx_d D_C_gap 19 rfl) (mx_d D_C_gap 20 rfl) (mx_d D_C_gap 21 rfl) (mx_d D_C_gap 22 rfl) (by decide) (by decide) (by decide) w_356 w_15 w_357 (by decide) th_91 (by rfl) (by exact Nat.le_of_ble_eq_true rfl) ?_
        exact q2 ⟨h1, h2⟩ (by omega) h5
    · refine mx_icmp_leN 25 (mx_d D_C_gap 7 rfl) (by decide) (by omega) (by omega) (by omega) (by omega) (by omega) ?_
      exact thr (by omega)
theorem c_C_slid (hG : mx_ok G) (hN : 50 ≤ N) (hC : CS G Y U nE iE nD rA rS eA eS dA dS dW lc rn rg rN ps pN ce) {y : Int} (y1 : -2147483648 ≤ y) (y2 : y < 2147483648)
    (q0 : ¬ (0 ≤ y ∧ y < Y) → Q (.inr xI) N ce bc bs)
    (q2 : ∀ m : Nat, y = m → m < Y → Q (.inl (some (.int (iI (slTo Y dW rn rg m rN))))) N ce bc bs) : mx_M G Y_C_slid (d + 6) (bc + 1) (bs + 6) false N ce 0 [(0, .ref (mx_B G + 0)), (1, .int (iI y))] [] Q := by
  obtain ⟨⟨hY, hU, hE, hD, hrA, hrS, hEA, hES, hDA, hDS, hDz, hDW, hrN, hrn, hpN, hps⟩, c0, c1, c14, cE, cD, cL, cR, cP, cT⟩ := hC
  obtain ⟨r1, r2, r3⟩ := cR
  refine mx_aload_n (k4 := 0) (mx_d D_C_slid 0 rfl) (by rfl) ?_
  refine mx_iload_n (k4 := 1) (mx_d D_C_slid 1 rfl) (by rfl) ?_
  refine mx_callV hG (Y' := Y_C_needYear) (ci := 0) [_] (mx_d D_C_slid 2 rfl) in_C_needYear w_256 w_258 s_C_needYear (by rfl) np_C_needYear (by exact Nat.le_of_ble_eq_true rfl) (by rfl) (by first | assumption | omega) (by first | assumption | exact va_up_self _ _ _ | (rw [va_up_ne _ _ (by omega)]; first | assumption | exact va_up_self _ _ _ | (rw [va_up_ne _ _ (by omega)]; first | assumption | exact va_up_self _ _ _ | (rw [va_up_ne _ _ (by omega)]; first | assumption | exact va_up_self _ _ _ | (rw [va_up_ne _ _ (by omega)]; first | assumption | exact va_up_self _ _ _ | (rw [va_up_ne _ _ (by omega)]; first | assumption | exact va_up_self _ _ _)))))) (by rfl) (by exact Nat.le_of_ble_eq_true rfl) (c_needYear hG hN c0 hY.2 y1 y2 q0 (fun h1 h2 => ?_))
  refine mx_bud (Nat.le_succ bc) (Nat.le_add_right bs 6) ?_
  obtain ⟨m, rfl⟩ : ∃ m : Nat, y = m := ⟨y.toNat, by omega⟩
  refine mx_aload_n (k4 := 0) (mx_d D_C_slid 3 rfl) (by rfl) ?_
  refine mx_getf hG (idx := 52) (ci := 0) (kf := 5) (mx_d D_C_slid 4 rfl) (by rfl) cls_C (by decide) w_154 (by first | assumption | omega) (by first | assumption | exact va_up_self _ _ _ | (rw [va_up_ne _ _ (by omega)]; first | assumption | exact va_up_self _ _ _ | (rw [va_up_ne _ _ (by omega)]; first | assumption | exact va_up_self _ _ _ | (rw [va_up_ne _ _ (by omega)]; first | assumption | exact va_up_self _ _ _ | (rw [va_up_ne _ _ (by omega)]; first | assumption | exact va_up_self _ _ _ | (rw [va_up_ne _ _ (by omega)]; first | assumption | exact va_up_self _ _ _)))))) (by rfl) ?_
  refine mx_iload_n (k4 := 1) (mx_d D_C_slid 5 rfl) (by rfl) ?_
  refine mx_aload_n (k4 := 0) (mx_d D_C_slid 6 rfl) (by rfl) ?_
  refine mx_getf hG (idx := 37) (ci := 0) (kf := 3) (mx_d D_C_slid 7 rfl) (by rfl) cls_C (by decide) w_152 (by first | assumption | omega) (by first | assumption | exact va_up_self _ _ _ | (rw [va_up_ne _ _ (by omega)]; first | assumption | exact va_up_self _ _ _ | (rw [va_up_ne _ _ (by omega)]; first | assumption | exact va_up_self _ _ _ | (rw [va_up_ne _ _ (by omega)]; first | assumption | exact va_up_self _ _ _ | (rw [va_up_ne _ _ (by omega)]; first | assumption | exact va_up_self _ _ _ | (rw [va_up_ne _ _ (by omega)]; first | assumption | exact va_up_self _ _ _)))))) (by rfl) ?_
  refine mx_callV hG (Y' := Y_R_sumAt) (ci := 4) [_, _] (mx_d D_C_slid 8 rfl) in_R_sumAt w_193 w_194 s_R_sumAt (by rfl) np_R_sumAt (by exact Nat.le_of_ble_eq_true rfl) (by rfl) (by first | assumption | omega) (by first | assumption | exact va_up_self _ _ _ | (rw [va_up_ne _ _ (by omega)]; first | assumption | exact va_up_self _ _ _ | (rw [va_up_ne _ _ (by omega)]; first | assumption | exact va_up_self _ _ _ | (rw [va_up_ne _ _ (by omega)]; first | assumption | exact va_up_self _ _ _ | (rw [va_up_ne _ _ (by omega)]; first | assumption | exact va_up_self _ _ _ | (rw [va_up_ne _ _ (by omega)]; first | assumption | exact va_up_self _ _ _)))))) (by rfl) (by exact Nat.le_of_ble_eq_true rfl) (c_R_sumAt hG (by omega) (by omega) (by omega) (by omega) r1 r2 r3 hrN c14 (by omega) (fun i hi => (cD i hi).1) (fun i hi => (cD i hi).2) hY.2 (by omega) (fun i hi => ⟨by have := (hrn i hi).1; omega, (hrn i hi).2⟩) ?_)
  refine mx_iret (by rfl) (mx_d D_C_slid 9 rfl) ?_
  exact q2 m rfl (by omega)
theorem c_C_wiggle (hG : mx_ok G) (hN : 50 ≤ N) (hC : CS G Y U nE iE nD rA rS eA eS dA dS dW lc rn rg rN ps pN ce)
    (q : Q (.inl (some (.int (iI (if rN = 0 then -1 else (bstTo (fun y => slTo Y dW rn rg y rN) Y : Nat)))))) N ce bc bs) : mx_M G Y_C_wiggle (d + 6) bc bs false N ce 0 [(0, .ref (mx_B G + 0))] [] Q := by
  obtain ⟨⟨hY, hU, hE, hD, hrA, hrS, hEA, hES, hDA, hDS, hDz, hDW, hrN, hrn, hpN, hps⟩, c0, c1, c14, cE, cD, cL, cR, cP, cT⟩ := hC
  obtain ⟨r1, r2, r3⟩ := cR
  have call : ∀ {m : Nat}, m < Y → ∀ {Q' : mx_P}, Q' (.inl (some (.int (iI (slTo Y dW rn rg m rN))))) N ce bc bs → mx_M G Y_R_sumAt (d + 5) bc bs false N ce 0 [(0, .ref (mx_B G + 43)), (1, .int (iI m)), (2, .ref (mx_B G + 14))] [] Q' := fun {m} hm {Q'} q' => c_R_sumAt hG (by omega) (by omega) (by omega) (by omega) r1 r2 r3 hrN c14 (by omega) (fun i hi => (cD i hi).1) (fun i hi => (cD i hi).2) hY.2 hm (fun i hi => ⟨by have := (hrn i hi).1; omega, (hrn i hi).2⟩) q'
  have bd : ∀ y, 0 ≤ slTo Y dW rn rg y rN ∧ slTo Y dW rn rg y rN ≤ rN * 1000000 := fun y => slTo_bd hDW (fun i hi => by have := (hrn i hi).1; omega)
  refine mx_aload_n (k4 := 0) (mx_d D_C_wiggle 0 rfl) (by rfl) ?_
  refine mx_getf hG (idx := 52) (ci := 0) (kf := 5) (mx_d D_C_wiggle 1 rfl) (by rfl) cls_C (by decide) w_154 (by first | assumption | omega) (by first | assumption | exact va_up_self _ _ _ | (rw [va_up_ne _ _ (by omega)]; first | assumption | exact va_up_self _ _ _ | (rw [va_up_ne _ _ (by omega)]; first | assumption | exact va_up_self _ _ _ | (rw [va_up_ne _ _ (by omega)]; first | assumption | exact va_up_self _ _ _ | (rw [va_up_ne _ _ (by omega)]; first | assumption | exact va_up_self _ _ _ | (rw [va_up_ne _ _ (by omega)]; first | assumption | exact va_up_self _ _ _)))))) (by rfl) ?_
  refine mx_getf hG (idx := 191) (ci := 4) (kf := 2) (mx_d D_C_wiggle 2 rfl) (by rfl) cls_R (by decide) w_106 (by first | assumption | omega) (by first | assumption | exact va_up_self _ _ _ | (rw [va_up_ne _ _ (by omega)]; first | assumption | exact va_up_self _ _ _ | (rw [va_up_ne _ _ (by omega)]; first | assumption | exact va_up_self _ _ _ | (rw [va_up_ne _ _ (by omega)]; first | assumption | exact va_up_self _ _ _ | (rw [va_up_ne _ _ (by omega)]; first | assumption | exact va_up_self _ _ _ | (rw [va_up_ne _ _ (by omega)]; first | assumption | exact va_up_self _ _ _)))))) (by rfl) ?_
  by_cases hr : rN = 0
  · refine mx_if_neN 12 (mx_d D_C_wiggle 3 rfl) (by decide) (by omega) (by omega) (by omega) ?_
    refine mx_iconst (n := -1) (mx_d D_C_wiggle 4 rfl) ?_
    refine mx_iret (by rfl) (mx_d D_C_wiggle 5 rfl) ?_
    rw [if_pos hr] at q
    exact q
  · refine mx_if_neY 12 (mx_d D_C_wiggle 3 rfl) (by decide) (by omega) (by omega) (by omega) ?_
    rw [if_neg hr] at q
    refine mx_iconst (n := 0) (mx_d D_C_wiggle 6 rfl) ?_
    refine mx_istore_n (k4 := 1) (mx_d D_C_wiggle 7 rfl) (by decide) ?_
    refine mx_aload_n (k4 := 0) (mx_d D_C_wiggle 8 rfl) (by rfl) ?_
    refine mx_getf hG (idx := 52) (ci := 0) (kf := 5) (mx_d D_C_wiggle 9 rfl) (by rfl) cls_C (by decide) w_154 (by first | assumption | omega) (by first | assumption | exact va_up_self _ _ _ | (rw [va_up_ne _ _ (by omega)]; first | assumption | exact va_up_self _ _ _ | (rw [va_up_ne _ _ (by omega)]; first | assumption | exact va_up_self _ _ _ | (rw [va_up_ne _ _ (by omega)]; first | assumption | exact va_up_self _ _ _ | (rw [va_up_ne _ _ (by omega)]; first | assumption | exact va_up_self _ _ _ | (rw [va_up_ne _ _ (by omega)]; first | assumption | exact va_up_self _ _ _)))))) (by rfl) ?_
    refine mx_iconst (n := 0) (mx_d D_C_wiggle 10 rfl) ?_
    refine mx_aload_n (k4 := 0) (mx_d D_C_wiggle 11 rfl) (by rfl) ?_
    refine mx_getf hG (idx := 37) (ci := 0) (kf := 3) (mx_d D_C_wiggle 12 rfl) (by rfl) cls_C (by decide) w_152 (by first | assumption | omega) (by first | assumption | exact va_up_self _ _ _ | (rw [va_up_ne _ _ (by omega)]; first | assumption | exact va_up_self _ _ _ | (rw [va_up_ne _ _ (by omega)]; first | assumption | exact va_up_self _ _ _ | (rw [va_up_ne _ _ (by omega)]; first | assumption | exact va_up_self _ _ _ | (rw [va_up_ne _ _ (by omega)]; first | assumption | exact va_up_self _ _ _ | (rw [va_up_ne _ _ (by omega)]; first | assumption | exact va_up_self _ _ _)))))) (by rfl) ?_
    refine mx_callV hG (Y' := Y_R_sumAt) (ci := 4) [_, _] (mx_d D_C_wiggle 13 rfl) in_R_sumAt w_193 w_194 s_R_sumAt (by rfl) np_R_sumAt (by exact Nat.le_of_ble_eq_true rfl) (by rfl) (by first | assumption | omega) (by first | assumption | exact va_up_self _ _ _ | (rw [va_up_ne _ _ (by omega)]; first | assumption | exact va_up_self _ _ _ | (rw [va_up_ne _ _ (by omega)]; first | assumption | exact va_up_self _ _ _ | (rw [va_up_ne _ _ (by omega)]; first | assumption | exact va_up_self _ _ _ | (rw [va_up_ne _ _ (by omega)]; first | assumption | exact va_up_self _ _ _ | (rw [va_up_ne _ _ (by omega)]; first | assumption | exact va_up_self _ _ _)))))) (by rfl) (by exact Nat.le_of_ble_eq_true rfl) (call (m := 0) (by omega) ?_)
    refine mx_istore_n (k4 := 2) (mx_d D_C_wiggle 14 rfl) (by decide) ?_
    refine mx_iconst (n := 1) (mx_d D_C_wiggle 15 rfl) ?_
    refine mx_istore_n (k4 := 3) (mx_d D_C_wiggle 16 rfl) (by decide) ?_
    suffices H : ∀ k i : Nat, i + k = Y → 0 < i → mx_M G Y_C_wiggle (d + 6) bc bs false N ce 29 [(0, .ref (mx_B G + 0)), (1, .int (iI (bstTo (fun y => slTo Y dW rn rg y rN) i : Nat))), (2, .int (iI (slTo Y dW rn rg (bstTo (fun y => slTo Y dW rn rg y rN) i) rN))), (3, .int (iI i))] [] Q from mx_loc (by rw [show bstTo (fun y => slTo Y dW rn rg y rN) 1 = 0 from by simp [bstTo]]; rfl) (H (Y - 1) 1 (by omega) (by omega))
    intro k
    induction k with
    | zero =>
      intro i hi h0
      obtain rfl : i = Y := by omega
      refine mx_iload_n (k4 := 3) (mx_d D_C_wiggle 17 rfl) (by rfl) ?_
      refine mx_aload_n (k4 := 0) (mx_d D_C_wiggle 18 rfl) (by rfl) ?_
      refine mx_getf hG (idx := 18) (ci := 0) (kf := 0) (mx_d D_C_wiggle 19 rfl) (by rfl) cls_C (by decide) w_149 (by first | assumption | omega) (by first | assumption | exact va_up_self _ _ _ | (rw [va_up_ne _ _ (by omega)]; first | assumption | exact va_up_self _ _ _ | (rw [va_up_ne _ _ (by omega)]; first | assumption | exact va_up_self _ _ _ | (rw [va_up_ne _ _ (by omega)]; first | assumption | exact va_up_self _ _ _ | (rw [va_up_ne _ _ (by omega)]; first | assumption | exact va_up_self _ _ _ | (rw [va_up_ne _ _ (by omega)]; first | assumption | exact va_up_self _ _ _)))))) (by rfl) ?_
      refine mx_icmp_geY 68 (mx_d D_C_wiggle 20 rfl) (by decide) (by omega) (by omega) (by omega) (by omega) (by omega) ?_
      refine mx_iload_n (k4 := 1) (mx_d D_C_wiggle 37 rfl) (by rfl) ?_
      refine mx_iret (by rfl) (mx_d D_C_wiggle 38 rfl) ?_
      exact q
    | succ k ih =>
      intro i hi h0
      have b1 := bd i
      have b2 := bd (bstTo (fun y => slTo Y dW rn rg y rN) i)
      refine mx_iload_n (k4 := 3) (mx_d D_C_wiggle 17 rfl) (by rfl) ?_
      refine mx_aload_n (k4 := 0) (mx_d D_C_wiggle 18 rfl) (by rfl) ?_
      refine mx_getf hG (idx := 18) (ci := 0) (kf := 0) (mx_d D_C_wiggle 19 rfl) (by rfl) cls_C (by decide) w_149 (by first | assumption | omega) (by first | assumption | exact va_up_self _ _ _ | (rw [va_up_ne _ _ (by omega)]; first | assumption | exact va_up_self _ _ _ | (rw [va_up_ne _ _ (by omega)]; first | assumption | exact va_up_self _ _ _ | (rw [va_up_ne _ _ (by omega)]; first | assumption | exact va_up_self _ _ _ | (rw [va_up_ne _ _ (by omega)]; first | assumption | exact va_up_self _ _ _ | (rw [va_up_ne _ _ (by omega)]; first | assumption | exact va_up_self _ _ _)))))) (by rfl) ?_
      refine mx_icmp_geN 68 (mx_d D_C_wiggle 20 rfl) (by decide) (by omega) (by omega) (by omega) (by omega) (by omega) ?_
      refine mx_aload_n (k4 := 0) (mx_d D_C_wiggle 21 rfl) (by rfl) ?_
      refine mx_getf hG (idx := 52) (ci := 0) (kf := 5) (mx_d D_C_wiggle 22 rfl) (by rfl) cls_C (by decide) w_154 (by first | assumption | omega) (by first | assumption | exact va_up_self _ _ _ | (rw [va_up_ne _ _ (by omega)]; first | assumption | exact va_up_self _ _ _ | (rw [va_up_ne _ _ (by omega)]; first | assumption | exact va_up_self _ _ _ | (rw [va_up_ne _ _ (by omega)]; first | assumption | exact va_up_self _ _ _ | (rw [va_up_ne _ _ (by omega)]; first | assumption | exact va_up_self _ _ _ | (rw [va_up_ne _ _ (by omega)]; first | assumption | exact va_up_self _ _ _)))))) (by rfl) ?_
      refine mx_iload_n (k4 := 3) (mx_d D_C_wiggle 23 rfl) (by rfl) ?_
      refine mx_aload_n (k4 := 0) (mx_d D_C_wiggle 24 rfl) (by rfl) ?_
      refine mx_getf hG (idx := 37) (ci := 0) (kf := 3) (mx_d D_C_wiggle 25 rfl) (by rfl) cls_C (by decide) w_152 (by first | assumption | omega) (by first | assumption | exact va_up_self _ _ _ | (rw [va_up_ne _ _ (by omega)]; first | assumption | exact va_up_self _ _ _ | (rw [va_up_ne _ _ (by omega)]; first | assumption | exact va_up_self _ _ _ | (rw [va_up_ne _ _ (by omega)]; first | assumption | exact va_up_self _ _ _ | (rw [va_up_ne _ _ (by omega)]; first | assumption | exact va_up_self _ _ _ | (rw [va_up_ne _ _ (by omega)]; first | assumption | exact va_up_self _ _ _)))))) (by rfl) ?_
      refine mx_callV hG (Y' := Y_R_sumAt) (ci := 4) [_, _] (mx_d D_C_wiggle 26 rfl) in_R_sumAt w_193 w_194 s_R_sumAt (by rfl) np_R_sumAt (by exact Nat.le_of_ble_eq_true rfl) (by rfl) (by first | assumption | omega) (by first | assumption | exact va_up_self _ _ _ | (rw [va_up_ne _ _ (by omega)]; first | assumption | exact va_up_self _ _ _ | (rw [va_up_ne _ _ (by omega)]; first | assumption | exact va_up_self _ _ _ | (rw [va_up_ne _ _ (by omega)]; first | assumption | exact va_up_self _ _ _ | (rw [va_up_ne _ _ (by omega)]; first | assumption | exact va_up_self _ _ _ | (rw [va_up_ne _ _ (by omega)]; first | assumption | exact va_up_self _ _ _)))))) (by rfl) (by exact Nat.le_of_ble_eq_true rfl) (call (m := i) (by omega) ?_)
      refine mx_istore (i := 4) (mx_d D_C_wiggle 27 rfl) (by decide) ?_
      refine mx_iload (i := 4) (mx_d D_C_wiggle 28 rfl) (by rfl) ?_
      refine mx_iload_n (k4 := 2) (mx_d D_C_wiggle 29 rfl) (by rfl) ?_
      by_cases hc : slTo Y dW rn rg (bstTo (fun y => slTo Y dW rn rg y rN) i) rN < slTo Y dW rn rg i rN
      · refine mx_icmp_leN 62 (mx_d D_C_wiggle 30 rfl) (by decide) (by omega) (by omega) (by omega) (by omega) (by omega) ?_
        refine mx_iload_n (k4 := 3) (mx_d D_C_wiggle 31 rfl) (by rfl) ?_
        refine mx_istore_n (k4 := 1) (mx_d D_C_wiggle 32 rfl) (by decide) ?_
        refine mx_iload (i := 4) (mx_d D_C_wiggle 33 rfl) (by rfl) ?_
        refine mx_istore_n (k4 := 2) (mx_d D_C_wiggle 34 rfl) (by decide) ?_
        refine mx_iincI (i := 3) (n := 1) (mx_d D_C_wiggle 35 rfl) (by rfl) (by decide) ?_
        refine mx_goto 29 (mx_d D_C_wiggle 36 rfl) (by decide) ?_
        refine mx_loc ?_ (ih (i + 1) (by omega) (by omega))
        simp only [bstTo, if_pos hc]
        rfl
      · refine mx_icmp_leY 62 (mx_d D_C_wiggle 30 rfl) (by decide) (by omega) (by omega) (by omega) (by omega) (by omega) ?_
        refine mx_iincI (i := 3) (n := 1) (mx_d D_C_wiggle 35 rfl) (by rfl) (by decide) ?_
        refine mx_goto 29 (mx_d D_C_wiggle 36 rfl) (by decide) ?_
        refine mx_loc ?_ (ih (i + 1) (by omega) (by omega))
        simp only [bstTo, if_neg hc]
        rfl
theorem c_C_clear (hG : mx_ok G) (hN : 50 ≤ N) (hC : CS G Y U nE iE nD rA rS eA eS dA dS dW lc rn rg rN ps pN ce)
    (q : ∀ ce', CS G Y U nE iE nD rA rS eA eS dA dS dW lc rn rg (0) ps pN ce' → (∀ k, 50 ≤ k → ce' k = ce k) → Q (.inl (some (.int (iI (rN : Nat))))) N ce' bc bs) : mx_M G Y_C_clear (d + 6) bc bs false N ce 0 [(0, .ref (mx_B G + 0))] [] Q := by
  obtain ⟨⟨hY, hU, hE, hD, hrA, hrS, hEA, hES, hDA, hDS, hDz, hDW, hrN, hrn, hpN, hps⟩, c0, c1, c14, cE, cD, cL, cR, cP, cT⟩ := hC
  obtain ⟨r1, r2, r3⟩ := cR
  refine mx_aload_n (k4 := 0) (mx_d D_C_clear 0 rfl) (by rfl) ?_
  refine mx_getf hG (idx := 52) (ci := 0) (kf := 5) (mx_d D_C_clear 1 rfl) (by rfl) cls_C (by decide) w_154 (by first | assumption | omega) (by first | assumption | exact va_up_self _ _ _ | (rw [va_up_ne _ _ (by omega)]; first | assumption | exact va_up_self _ _ _ | (rw [va_up_ne _ _ (by omega)]; first | assumption | exact va_up_self _ _ _ | (rw [va_up_ne _ _ (by omega)]; first | assumption | exact va_up_self _ _ _ | (rw [va_up_ne _ _ (by omega)]; first | assumption | exact va_up_self _ _ _ | (rw [va_up_ne _ _ (by omega)]; first | assumption | exact va_up_self _ _ _)))))) (by rfl) ?_
  refine mx_getf hG (idx := 191) (ci := 4) (kf := 2) (mx_d D_C_clear 2 rfl) (by rfl) cls_R (by decide) w_106 (by first | assumption | omega) (by first | assumption | exact va_up_self _ _ _ | (rw [va_up_ne _ _ (by omega)]; first | assumption | exact va_up_self _ _ _ | (rw [va_up_ne _ _ (by omega)]; first | assumption | exact va_up_self _ _ _ | (rw [va_up_ne _ _ (by omega)]; first | assumption | exact va_up_self _ _ _ | (rw [va_up_ne _ _ (by omega)]; first | assumption | exact va_up_self _ _ _ | (rw [va_up_ne _ _ (by omega)]; first | assumption | exact va_up_self _ _ _)))))) (by rfl) ?_
  refine mx_istore_n (k4 := 1) (mx_d D_C_clear 3 rfl) (by decide) ?_
  refine mx_aload_n (k4 := 0) (mx_d D_C_clear 4 rfl) (by rfl) ?_
  refine mx_getf hG (idx := 52) (ci := 0) (kf := 5) (mx_d D_C_clear 5 rfl) (by rfl) cls_C (by decide) w_154 (by first | assumption | omega) (by first | assumption | exact va_up_self _ _ _ | (rw [va_up_ne _ _ (by omega)]; first | assumption | exact va_up_self _ _ _ | (rw [va_up_ne _ _ (by omega)]; first | assumption | exact va_up_self _ _ _ | (rw [va_up_ne _ _ (by omega)]; first | assumption | exact va_up_self _ _ _ | (rw [va_up_ne _ _ (by omega)]; first | assumption | exact va_up_self _ _ _ | (rw [va_up_ne _ _ (by omega)]; first | assumption | exact va_up_self _ _ _)))))) (by rfl) ?_
  refine mx_iconst (n := 0) (mx_d D_C_clear 6 rfl) ?_
  refine mx_putf hG (idx := 191) (ci := 4) (kf := 2) (t := (.int)) (mx_d D_C_clear 7 rfl) (by rfl) cls_R (by decide) (Or.inl rfl) w_106 (by first | assumption | omega) (by first | assumption | exact va_up_self _ _ _ | (rw [va_up_ne _ _ (by omega)]; first | assumption | exact va_up_self _ _ _ | (rw [va_up_ne _ _ (by omega)]; first | assumption | exact va_up_self _ _ _ | (rw [va_up_ne _ _ (by omega)]; first | assumption | exact va_up_self _ _ _ | (rw [va_up_ne _ _ (by omega)]; first | assumption | exact va_up_self _ _ _ | (rw [va_up_ne _ _ (by omega)]; first | assumption | exact va_up_self _ _ _)))))) (by exact Nat.le_of_ble_eq_true rfl) (by decide +kernel) (by rfl) (by rfl) ?_
  refine mx_iload_n (k4 := 1) (mx_d D_C_clear 8 rfl) (by rfl) ?_
  refine mx_iret (by rfl) (mx_d D_C_clear 9 rfl) ?_
  refine q _ ⟨⟨hY, hU, hE, hD, hrA, hrS, hEA, hES, hDA, hDS, hDz, hDW, by omega, fun i hi => absurd hi (by omega), hpN, hps⟩, ?_, ?_, ?_, csE_fr cE (fun k _ _ => ?_), csD_fr cD (fun k _ _ => ?_), csL_fr cL (fun k _ _ => ?_), ⟨va_up_self _ _ _, ?_, ?_⟩, csP_fr cP (fun k _ _ => ?_), csT_fr cT (fun k _ _ => ?_)⟩ (fun k hk => ?_) <;> rw [va_up_ne _ _ (by omega)] <;> assumption
theorem c_C_unit (hG : mx_ok G) (hN : 50 ≤ N) (hC : CS G Y U nE iE nD rA rS eA eS dA dS dW lc rn rg rN ps pN ce) {x z : Int32}
    (q0 : ¬ (sgOk x 4 = true ∧ sgOk z 4 = true) → Q (.inr xA) N ce bc bs) (q1 : (sgOk x 4 = true ∧ sgOk z 4 = true) → ¬ pN + sgN x 4 + sgN z 4 ≤ 100 → Q (.inr xS) N ce bc bs)
    (q2 : ∀ ce', (sgOk x 4 = true ∧ sgOk z 4 = true) → pN + sgN x 4 + sgN z 4 ≤ 100 → CS G Y U nE iE nD rA rS eA eS dA dS dW lc rn rg rN (sgP z (sgP x ps pN 4) (pN + sgN x 4) 4) (pN + sgN x 4 + sgN z 4) ce' → (∀ k, 50 ≤ k → ce' k = ce k) → Q (.inl (some (.int (iI ((pN + sgN x 4 + sgN z 4 : Nat) : Int))))) N ce' bc bs) : mx_M G Y_C_unit (d + 6) (bc + 1) (bs + 6) false N ce 0 [(0, .ref (mx_B G + 0)), (1, .int x), (2, .int z)] [] Q := by
  obtain ⟨⟨hY, hU, hE, hD, hrA, hrS, hEA, hES, hDA, hDS, hDz, hDW, hrN, hrn, hpN, hps⟩, c0, c1, c14, cE, cD, cL, cR, cP, cT⟩ := hC
  obtain ⟨p1, p2⟩ := cP
  have n1 := sgN_le x 4
  have n2 := sgN_le z 4
  have thr : ¬ (sgOk x 4 = true ∧ sgOk z 4 = true) → ∀ {l9 : List (Nat × Value)}, mx_M G Y_C_unit (d + 6) (bc + 1) (bs + 6) false N ce 14 l9 [] Q := by
    intro h l9
    refine mx_throw hG ["java/lang/RuntimeException", "java/lang/Exception"] (E := "java/lang/IllegalArgumentException") (tx := "a sign is 32 .. 126") (mx_d D_C_unit 6 rfl) (mx_d D_C_unit 7 rfl) (mx_d D_C_unit 8 rfl) (mx_d D_C_unit 9 rfl) (mx_d D_C_unit 10 rfl) (by decide) (by decide) (by decide) w_331 w_14 w_332 (by decide) th_107 (by rfl) (by exact Nat.le_of_ble_eq_true rfl) ?_
    exact q0 h
  refine mx_iload_n (k4 := 1) (mx_d D_C_unit 0 rfl) (by rfl) ?_
  refine mx_callS (Y' := Y_P_holdsSignsAlone) [_] (mx_d D_C_unit 1 rfl) in_P_holdsSignsAlone w_551 w_552 np_P_holdsSignsAlone (by exact Nat.le_of_ble_eq_true rfl) (by rfl) (by rfl) (by exact Nat.le_of_ble_eq_true rfl) (c_P_holds ?_)
  cases h1 : sgOk x 4 with
  | false =>
    refine mx_if_eqY 14 (mx_d D_C_unit 2 rfl) (by decide) (by decide) (by decide) (by decide) ?_
    exact thr (by rw [h1]; simp)
  | true =>
    refine mx_if_eqN 14 (mx_d D_C_unit 2 rfl) (by decide) (by decide) (by decide) (by decide) ?_
    refine mx_iload_n (k4 := 2) (mx_d D_C_unit 3 rfl) (by rfl) ?_
    refine mx_callS (Y' := Y_P_holdsSignsAlone) [_] (mx_d D_C_unit 4 rfl) in_P_holdsSignsAlone w_551 w_552 np_P_holdsSignsAlone (by exact Nat.le_of_ble_eq_true rfl) (by rfl) (by rfl) (by exact Nat.le_of_ble_eq_true rfl) (c_P_holds ?_)
    cases h2 : sgOk z 4 with
    | false =>
      refine mx_if_neN 24 (mx_d D_C_unit 5 rfl) (by decide) (by decide) (by decide) (by decide) ?_
      exact thr (by rw [h2]; simp)
    | true =>
      refine mx_if_neY 24 (mx_d D_C_unit 5 rfl) (by decide) (by decide) (by decide) (by decide) ?_
      refine mx_aload_n (k4 := 0) (mx_d D_C_unit 11 rfl) (by rfl) ?_
      refine mx_getf hG (idx := 59) (ci := 0) (kf := 6) (mx_d D_C_unit 12 rfl) (by rfl) cls_C (by decide) w_155 (by first | assumption | omega) (by first | assumption | exact va_up_self _ _ _ | (rw [va_up_ne _ _ (by omega)]; first | assumption | exact va_up_self _ _ _ | (rw [va_up_ne _ _ (by omega)]; first | assumption | exact va_up_self _ _ _ | (rw [va_up_ne _ _ (by omega)]; first | assumption | exact va_up_self _ _ _ | (rw [va_up_ne _ _ (by omega)]; first | assumption | exact va_up_self _ _ _ | (rw [va_up_ne _ _ (by omega)]; first | assumption | exact va_up_self _ _ _)))))) (by rfl) ?_
      refine mx_getf hG (idx := 209) (ci := 5) (kf := 1) (mx_d D_C_unit 13 rfl) (by rfl) cls_P (by decide) w_124 (by first | assumption | omega) (by first | assumption | exact va_up_self _ _ _ | (rw [va_up_ne _ _ (by omega)]; first | assumption | exact va_up_self _ _ _ | (rw [va_up_ne _ _ (by omega)]; first | assumption | exact va_up_self _ _ _ | (rw [va_up_ne _ _ (by omega)]; first | assumption | exact va_up_self _ _ _ | (rw [va_up_ne _ _ (by omega)]; first | assumption | exact va_up_self _ _ _ | (rw [va_up_ne _ _ (by omega)]; first | assumption | exact va_up_self _ _ _)))))) (by rfl) ?_
      refine mx_iload_n (k4 := 1) (mx_d D_C_unit 14 rfl) (by rfl) ?_
      refine mx_callS (Y' := Y_P_signsIn) [_] (mx_d D_C_unit 15 rfl) in_P_signsIn w_558 w_559 np_P_signsIn (by exact Nat.le_of_ble_eq_true rfl) (by rfl) (by rfl) (by exact Nat.le_of_ble_eq_true rfl) (c_P_signsIn ?_)
      refine mx_iaddI (mx_d D_C_unit 16 rfl) ?_
      refine mx_iload_n (k4 := 2) (mx_d D_C_unit 17 rfl) (by rfl) ?_
      refine mx_callS (Y' := Y_P_signsIn) [_] (mx_d D_C_unit 18 rfl) in_P_signsIn w_558 w_559 np_P_signsIn (by exact Nat.le_of_ble_eq_true rfl) (by rfl) (by rfl) (by exact Nat.le_of_ble_eq_true rfl) (c_P_signsIn ?_)
      refine mx_iaddI (mx_d D_C_unit 19 rfl) ?_
      refine mx_bipush (n := 100) (mx_d D_C_unit 20 rfl) (by decide) ?_
      by_cases h3 : pN + sgN x 4 + sgN z 4 ≤ 100
      · refine mx_icmp_leY 56 (mx_d D_C_unit 21 rfl) (by decide) (by omega) (by omega) (by omega) (by omega) (by omega) ?_
        refine mx_bud (Nat.le_succ bc) (Nat.le_add_right bs 6) ?_
        refine mx_aload_n (k4 := 0) (mx_d D_C_unit 27 rfl) (by rfl) ?_
        refine mx_getf hG (idx := 59) (ci := 0) (kf := 6) (mx_d D_C_unit 28 rfl) (by rfl) cls_C (by decide) w_155 (by first | assumption | omega) (by first | assumption | exact va_up_self _ _ _ | (rw [va_up_ne _ _ (by omega)]; first | assumption | exact va_up_self _ _ _ | (rw [va_up_ne _ _ (by omega)]; first | assumption | exact va_up_self _ _ _ | (rw [va_up_ne _ _ (by omega)]; first | assumption | exact va_up_self _ _ _ | (rw [va_up_ne _ _ (by omega)]; first | assumption | exact va_up_self _ _ _ | (rw [va_up_ne _ _ (by omega)]; first | assumption | exact va_up_self _ _ _)))))) (by rfl) ?_
        refine mx_iload_n (k4 := 1) (mx_d D_C_unit 29 rfl) (by rfl) ?_
        refine mx_callV hG (Y' := Y_P_append) (ci := 5) [_] (mx_d D_C_unit 30 rfl) in_P_append w_562 w_563 s_P_append (by rfl) np_P_append (by exact Nat.le_of_ble_eq_true rfl) (by rfl) (by first | assumption | omega) (by first | assumption | exact va_up_self _ _ _ | (rw [va_up_ne _ _ (by omega)]; first | assumption | exact va_up_self _ _ _ | (rw [va_up_ne _ _ (by omega)]; first | assumption | exact va_up_self _ _ _ | (rw [va_up_ne _ _ (by omega)]; first | assumption | exact va_up_self _ _ _ | (rw [va_up_ne _ _ (by omega)]; first | assumption | exact va_up_self _ _ _ | (rw [va_up_ne _ _ (by omega)]; first | assumption | exact va_up_self _ _ _)))))) (by rfl) (by exact Nat.le_of_ble_eq_true rfl) (c_P_append hG (by omega) (by omega) (by omega) p1 p2 (by omega) ?_)
        refine mx_aload_n (k4 := 0) (mx_d D_C_unit 31 rfl) (by rfl) ?_
        refine mx_getf hG (idx := 59) (ci := 0) (kf := 6) (mx_d D_C_unit 32 rfl) (by rfl) cls_C (by decide) w_155 (by first | assumption | omega) (by first | assumption | exact va_up_self _ _ _ | (rw [va_up_ne _ _ (by omega)]; first | assumption | exact va_up_self _ _ _ | (rw [va_up_ne _ _ (by omega)]; first | assumption | exact va_up_self _ _ _ | (rw [va_up_ne _ _ (by omega)]; first | assumption | exact va_up_self _ _ _ | (rw [va_up_ne _ _ (by omega)]; first | assumption | exact va_up_self _ _ _ | (rw [va_up_ne _ _ (by omega)]; first | assumption | exact va_up_self _ _ _)))))) (by rfl) ?_
        refine mx_iload_n (k4 := 2) (mx_d D_C_unit 33 rfl) (by rfl) ?_
        refine mx_callV hG (Y' := Y_P_append) (ci := 5) [_] (mx_d D_C_unit 34 rfl) in_P_append w_562 w_563 s_P_append (by rfl) np_P_append (by exact Nat.le_of_ble_eq_true rfl) (by rfl) (by first | assumption | omega) (by first | assumption | exact va_up_self _ _ _ | (rw [va_up_ne _ _ (by omega)]; first | assumption | exact va_up_self _ _ _ | (rw [va_up_ne _ _ (by omega)]; first | assumption | exact va_up_self _ _ _ | (rw [va_up_ne _ _ (by omega)]; first | assumption | exact va_up_self _ _ _ | (rw [va_up_ne _ _ (by omega)]; first | assumption | exact va_up_self _ _ _ | (rw [va_up_ne _ _ (by omega)]; first | assumption | exact va_up_self _ _ _)))))) (by rfl) (by exact Nat.le_of_ble_eq_true rfl) (c_P_append (n := pN + sgN x 4) hG (by omega) (by omega) (by omega) (va_up_self _ _ _) ((va_up_ne _ _ (by omega)).trans (va_up_self _ _ _)) (by omega) ?_)
        refine mx_aload_n (k4 := 0) (mx_d D_C_unit 35 rfl) (by rfl) ?_
        refine mx_getf hG (idx := 59) (ci := 0) (kf := 6) (mx_d D_C_unit 36 rfl) (by rfl) cls_C (by decide) w_155 (by first | assumption | omega) (by first | assumption | exact va_up_self _ _ _ | (rw [va_up_ne _ _ (by omega)]; first | assumption | exact va_up_self _ _ _ | (rw [va_up_ne _ _ (by omega)]; first | assumption | exact va_up_self _ _ _ | (rw [va_up_ne _ _ (by omega)]; first | assumption | exact va_up_self _ _ _ | (rw [va_up_ne _ _ (by omega)]; first | assumption | exact va_up_self _ _ _ | (rw [va_up_ne _ _ (by omega)]; first | assumption | exact va_up_self _ _ _)))))) (by rfl) ?_
        refine mx_getf hG (idx := 209) (ci := 5) (kf := 1) (mx_d D_C_unit 37 rfl) (by rfl) cls_P (by decide) w_124 (by first | assumption | omega) (by first | assumption | exact va_up_self _ _ _ | (rw [va_up_ne _ _ (by omega)]; first | assumption | exact va_up_self _ _ _ | (rw [va_up_ne _ _ (by omega)]; first | assumption | exact va_up_self _ _ _ | (rw [va_up_ne _ _ (by omega)]; first | assumption | exact va_up_self _ _ _ | (rw [va_up_ne _ _ (by omega)]; first | assumption | exact va_up_self _ _ _ | (rw [va_up_ne _ _ (by omega)]; first | assumption | exact va_up_self _ _ _)))))) (by rfl) ?_
        refine mx_iret (by rfl) (mx_d D_C_unit 38 rfl) ?_
        refine q2 _ ⟨h1, h2⟩ h3 ⟨⟨hY, hU, hE, hD, hrA, hrS, hEA, hES, hDA, hDS, hDz, hDW, hrN, hrn, h3, sgP_rg (sgP_rg hps 4) 4⟩, ?_, ?_, ?_, csE_fr cE (fun k _ _ => ?_), csD_fr cD (fun k _ _ => ?_), csL_fr cL (fun k _ _ => ?_), csR_fr cR (fun k _ _ => ?_), ⟨va_up_self _ _ _, ?_⟩, csT_fr cT (fun k _ _ => ?_)⟩ (fun k hk => ?_)
        · rw [va_up_ne _ _ (by omega), va_up_ne _ _ (by omega), va_up_ne _ _ (by omega), va_up_ne _ _ (by omega)]; exact c0
        · rw [va_up_ne _ _ (by omega), va_up_ne _ _ (by omega), va_up_ne _ _ (by omega), va_up_ne _ _ (by omega)]; exact c1
        · rw [va_up_ne _ _ (by omega), va_up_ne _ _ (by omega), va_up_ne _ _ (by omega), va_up_ne _ _ (by omega)]; exact c14
        · rw [va_up_ne _ _ (by omega), va_up_ne _ _ (by omega), va_up_ne _ _ (by omega), va_up_ne _ _ (by omega)]
        · rw [va_up_ne _ _ (by omega), va_up_ne _ _ (by omega), va_up_ne _ _ (by omega), va_up_ne _ _ (by omega)]
        · rw [va_up_ne _ _ (by omega), va_up_ne _ _ (by omega), va_up_ne _ _ (by omega), va_up_ne _ _ (by omega)]
        · rw [va_up_ne _ _ (by omega), va_up_ne _ _ (by omega), va_up_ne _ _ (by omega), va_up_ne _ _ (by omega)]
        · rw [va_up_ne _ _ (by omega), va_up_self]
        all_goals rw [va_up_ne _ _ (by omega), va_up_ne _ _ (by omega), va_up_ne _ _ (by omega), va_up_ne _ _ (by omega)]
      · refine mx_icmp_leN 56 (mx_d D_C_unit 21 rfl) (by decide) (by omega) (by omega) (by omega) (by omega) (by omega) ?_
        refine mx_throw hG ["java/lang/RuntimeException", "java/lang/Exception"] (E := "java/lang/IllegalStateException") (tx := "the pad has at most 100 signs") (mx_d D_C_unit 22 rfl) (mx_d D_C_unit 23 rfl) (mx_d D_C_unit 24 rfl) (mx_d D_C_unit 25 rfl) (mx_d D_C_unit 26 rfl) (by decide) (by decide) (by decide) w_356 w_15 w_357 (by decide) th_91 (by rfl) (by exact Nat.le_of_ble_eq_true rfl) ?_
        exact q1 ⟨h1, h2⟩ h3
theorem c_C_count (hG : mx_ok G) (hN : 50 ≤ N) (hC : CS G Y U nE iE nD rA rS eA eS dA dS dW lc rn rg rN ps pN ce) {w : Int} (w1 : -2147483648 ≤ w) (w2 : w < 2147483648)
    (q0 : ¬ (0 ≤ w ∧ w ≤ 6) → Q (.inr xI) N ce bc bs)
    (q2 : ∀ m : Nat, w = m → m ≤ 6 → Q (.inl (some (.int (iI (cntV Y nE iE nD rN pN (rwN (eS iE) Y) m : Nat))))) N ce bc bs) : mx_M G Y_C_count (d + 6) (bc + 1) (bs + 6) false N ce 0 [(0, .ref (mx_B G + 0)), (1, .int (iI w))] [] Q := by
  obtain ⟨⟨hY, hU, hE, hD, hrA, hrS, hEA, hES, hDA, hDS, hDz, hDW, hrN, hrn, hpN, hps⟩, c0, c1, c14, cE, cD, cL, cR, cP, cT⟩ := hC
  obtain ⟨r1, r2, r3⟩ := cR
  obtain ⟨p1, p2⟩ := cP
  obtain ⟨e1, e2, e3⟩ := cE iE (by omega)
  refine mx_iload_n (k4 := 1) (mx_d D_C_count 0 rfl) (by rfl) ?_
  by_cases hw : 0 ≤ w ∧ w ≤ 6
  · refine mx_bud (Nat.le_succ bc) (Nat.le_add_right bs 6) ?_
    obtain ⟨m, rfl⟩ : ∃ m : Nat, w = m := ⟨w.toNat, by omega⟩
    have q9 := q2 m rfl (by omega)
    obtain rfl | rfl | rfl | rfl | rfl | rfl | rfl : m = 0 ∨ m = 1 ∨ m = 2 ∨ m = 3 ∨ m = 4 ∨ m = 5 ∨ m = 6 := by omega
    · refine mx_tableIn 44 (mx_d D_C_count 1 rfl) (by decide) (by decide) (by rfl) (by decide) ?_
      refine mx_aload_n (k4 := 0) (mx_d D_C_count 2 rfl) (by rfl) ?_
      refine mx_getf hG (idx := 18) (ci := 0) (kf := 0) (mx_d D_C_count 3 rfl) (by rfl) cls_C (by decide) w_149 (by first | assumption | omega) (by first | assumption | exact va_up_self _ _ _ | (rw [va_up_ne _ _ (by omega)]; first | assumption | exact va_up_self _ _ _ | (rw [va_up_ne _ _ (by omega)]; first | assumption | exact va_up_self _ _ _ | (rw [va_up_ne _ _ (by omega)]; first | assumption | exact va_up_self _ _ _ | (rw [va_up_ne _ _ (by omega)]; first | assumption | exact va_up_self _ _ _ | (rw [va_up_ne _ _ (by omega)]; first | assumption | exact va_up_self _ _ _)))))) (by rfl) ?_
      refine mx_iret (by rfl) (mx_d D_C_count 4 rfl) ?_
      exact q9
    · refine mx_tableIn 49 (mx_d D_C_count 1 rfl) (by decide) (by decide) (by rfl) (by decide) ?_
      refine mx_aload_n (k4 := 0) (mx_d D_C_count 5 rfl) (by rfl) ?_
      refine mx_getf hG (idx := 70) (ci := 0) (kf := 8) (mx_d D_C_count 6 rfl) (by rfl) cls_C (by decide) w_157 (by first | assumption | omega) (by first | assumption | exact va_up_self _ _ _ | (rw [va_up_ne _ _ (by omega)]; first | assumption | exact va_up_self _ _ _ | (rw [va_up_ne _ _ (by omega)]; first | assumption | exact va_up_self _ _ _ | (rw [va_up_ne _ _ (by omega)]; first | assumption | exact va_up_self _ _ _ | (rw [va_up_ne _ _ (by omega)]; first | assumption | exact va_up_self _ _ _ | (rw [va_up_ne _ _ (by omega)]; first | assumption | exact va_up_self _ _ _)))))) (by rfl) ?_
      refine mx_iret (by rfl) (mx_d D_C_count 7 rfl) ?_
      exact q9
    · refine mx_tableIn 54 (mx_d D_C_count 1 rfl) (by decide) (by decide) (by rfl) (by decide) ?_
      refine mx_aload_n (k4 := 0) (mx_d D_C_count 8 rfl) (by rfl) ?_
      refine mx_getf hG (idx := 80) (ci := 0) (kf := 9) (mx_d D_C_count 9 rfl) (by rfl) cls_C (by decide) w_158 (by first | assumption | omega) (by first | assumption | exact va_up_self _ _ _ | (rw [va_up_ne _ _ (by omega)]; first | assumption | exact va_up_self _ _ _ | (rw [va_up_ne _ _ (by omega)]; first | assumption | exact va_up_self _ _ _ | (rw [va_up_ne _ _ (by omega)]; first | assumption | exact va_up_self _ _ _ | (rw [va_up_ne _ _ (by omega)]; first | assumption | exact va_up_self _ _ _ | (rw [va_up_ne _ _ (by omega)]; first | assumption | exact va_up_self _ _ _)))))) (by rfl) ?_
      refine mx_iret (by rfl) (mx_d D_C_count 10 rfl) ?_
      exact q9
    · refine mx_tableIn 59 (mx_d D_C_count 1 rfl) (by decide) (by decide) (by rfl) (by decide) ?_
      refine mx_aload_n (k4 := 0) (mx_d D_C_count 11 rfl) (by rfl) ?_
      refine mx_getf hG (idx := 138) (ci := 0) (kf := 10) (mx_d D_C_count 12 rfl) (by rfl) cls_C (by decide) w_159 (by first | assumption | omega) (by first | assumption | exact va_up_self _ _ _ | (rw [va_up_ne _ _ (by omega)]; first | assumption | exact va_up_self _ _ _ | (rw [va_up_ne _ _ (by omega)]; first | assumption | exact va_up_self _ _ _ | (rw [va_up_ne _ _ (by omega)]; first | assumption | exact va_up_self _ _ _ | (rw [va_up_ne _ _ (by omega)]; first | assumption | exact va_up_self _ _ _ | (rw [va_up_ne _ _ (by omega)]; first | assumption | exact va_up_self _ _ _)))))) (by rfl) ?_
      refine mx_iret (by rfl) (mx_d D_C_count 13 rfl) ?_
      exact q9
    · refine mx_tableIn 64 (mx_d D_C_count 1 rfl) (by decide) (by decide) (by rfl) (by decide) ?_
      refine mx_aload_n (k4 := 0) (mx_d D_C_count 14 rfl) (by rfl) ?_
      refine mx_getf hG (idx := 52) (ci := 0) (kf := 5) (mx_d D_C_count 15 rfl) (by rfl) cls_C (by decide) w_154 (by first | assumption | omega) (by first | assumption | exact va_up_self _ _ _ | (rw [va_up_ne _ _ (by omega)]; first | assumption | exact va_up_self _ _ _ | (rw [va_up_ne _ _ (by omega)]; first | assumption | exact va_up_self _ _ _ | (rw [va_up_ne _ _ (by omega)]; first | assumption | exact va_up_self _ _ _ | (rw [va_up_ne _ _ (by omega)]; first | assumption | exact va_up_self _ _ _ | (rw [va_up_ne _ _ (by omega)]; first | assumption | exact va_up_self _ _ _)))))) (by rfl) ?_
      refine mx_getf hG (idx := 191) (ci := 4) (kf := 2) (mx_d D_C_count 16 rfl) (by rfl) cls_R (by decide) w_106 (by first | assumption | omega) (by first | assumption | exact va_up_self _ _ _ | (rw [va_up_ne _ _ (by omega)]; first | assumption | exact va_up_self _ _ _ | (rw [va_up_ne _ _ (by omega)]; first | assumption | exact va_up_self _ _ _ | (rw [va_up_ne _ _ (by omega)]; first | assumption | exact va_up_self _ _ _ | (rw [va_up_ne _ _ (by omega)]; first | assumption | exact va_up_self _ _ _ | (rw [va_up_ne _ _ (by omega)]; first | assumption | exact va_up_self _ _ _)))))) (by rfl) ?_
      refine mx_iret (by rfl) (mx_d D_C_count 17 rfl) ?_
      exact q9
    · refine mx_tableIn 72 (mx_d D_C_count 1 rfl) (by decide) (by decide) (by rfl) (by decide) ?_
      refine mx_aload_n (k4 := 0) (mx_d D_C_count 18 rfl) (by rfl) ?_
      refine mx_getf hG (idx := 59) (ci := 0) (kf := 6) (mx_d D_C_count 19 rfl) (by rfl) cls_C (by decide) w_155 (by first | assumption | omega) (by first | assumption | exact va_up_self _ _ _ | (rw [va_up_ne _ _ (by omega)]; first | assumption | exact va_up_self _ _ _ | (rw [va_up_ne _ _ (by omega)]; first | assumption | exact va_up_self _ _ _ | (rw [va_up_ne _ _ (by omega)]; first | assumption | exact va_up_self _ _ _ | (rw [va_up_ne _ _ (by omega)]; first | assumption | exact va_up_self _ _ _ | (rw [va_up_ne _ _ (by omega)]; first | assumption | exact va_up_self _ _ _)))))) (by rfl) ?_
      refine mx_getf hG (idx := 209) (ci := 5) (kf := 1) (mx_d D_C_count 20 rfl) (by rfl) cls_P (by decide) w_124 (by first | assumption | omega) (by first | assumption | exact va_up_self _ _ _ | (rw [va_up_ne _ _ (by omega)]; first | assumption | exact va_up_self _ _ _ | (rw [va_up_ne _ _ (by omega)]; first | assumption | exact va_up_self _ _ _ | (rw [va_up_ne _ _ (by omega)]; first | assumption | exact va_up_self _ _ _ | (rw [va_up_ne _ _ (by omega)]; first | assumption | exact va_up_self _ _ _ | (rw [va_up_ne _ _ (by omega)]; first | assumption | exact va_up_self _ _ _)))))) (by rfl) ?_
      refine mx_iret (by rfl) (mx_d D_C_count 21 rfl) ?_
      exact q9
    · refine mx_tableIn 80 (mx_d D_C_count 1 rfl) (by decide) (by decide) (by rfl) (by decide) ?_
      refine mx_aload_n (k4 := 0) (mx_d D_C_count 22 rfl) (by rfl) ?_
      refine mx_getf hG (idx := 28) (ci := 0) (kf := 2) (mx_d D_C_count 23 rfl) (by rfl) cls_C (by decide) w_151 (by first | assumption | omega) (by first | assumption | exact va_up_self _ _ _ | (rw [va_up_ne _ _ (by omega)]; first | assumption | exact va_up_self _ _ _ | (rw [va_up_ne _ _ (by omega)]; first | assumption | exact va_up_self _ _ _ | (rw [va_up_ne _ _ (by omega)]; first | assumption | exact va_up_self _ _ _ | (rw [va_up_ne _ _ (by omega)]; first | assumption | exact va_up_self _ _ _ | (rw [va_up_ne _ _ (by omega)]; first | assumption | exact va_up_self _ _ _)))))) (by rfl) ?_
      refine mx_aload_n (k4 := 0) (mx_d D_C_count 24 rfl) (by rfl) ?_
      refine mx_getf hG (idx := 80) (ci := 0) (kf := 9) (mx_d D_C_count 25 rfl) (by rfl) cls_C (by decide) w_158 (by first | assumption | omega) (by first | assumption | exact va_up_self _ _ _ | (rw [va_up_ne _ _ (by omega)]; first | assumption | exact va_up_self _ _ _ | (rw [va_up_ne _ _ (by omega)]; first | assumption | exact va_up_self _ _ _ | (rw [va_up_ne _ _ (by omega)]; first | assumption | exact va_up_self _ _ _ | (rw [va_up_ne _ _ (by omega)]; first | assumption | exact va_up_self _ _ _ | (rw [va_up_ne _ _ (by omega)]; first | assumption | exact va_up_self _ _ _)))))) (by rfl) ?_
      refine mx_aald hG 3 (iE) (mx_d D_C_count 26 rfl) (by first | assumption | omega) (by first | assumption | exact va_up_self _ _ _ | (rw [va_up_ne _ _ (by omega)]; first | assumption | exact va_up_self _ _ _ | (rw [va_up_ne _ _ (by omega)]; first | assumption | exact va_up_self _ _ _ | (rw [va_up_ne _ _ (by omega)]; first | assumption | exact va_up_self _ _ _ | (rw [va_up_ne _ _ (by omega)]; first | assumption | exact va_up_self _ _ _ | (rw [va_up_ne _ _ (by omega)]; first | assumption | exact va_up_self _ _ _)))))) (by rfl) (by rfl) (by rfl) (by omega) (by omega) (show _ = some (mx_B G + (2 + 3 * iE)) by exact if_pos (by omega)) ?_
      refine mx_getf hG (idx := 230) (ci := 1) (kf := 2) (mx_d D_C_count 27 rfl) (by rfl) cls_E (by decide) w_44 (by first | assumption | omega) (by first | assumption | exact va_up_self _ _ _ | (rw [va_up_ne _ _ (by omega)]; first | assumption | exact va_up_self _ _ _ | (rw [va_up_ne _ _ (by omega)]; first | assumption | exact va_up_self _ _ _ | (rw [va_up_ne _ _ (by omega)]; first | assumption | exact va_up_self _ _ _ | (rw [va_up_ne _ _ (by omega)]; first | assumption | exact va_up_self _ _ _ | (rw [va_up_ne _ _ (by omega)]; first | assumption | exact va_up_self _ _ _)))))) (by rfl) ?_
      refine mx_iret (by rfl) (mx_d D_C_count 28 rfl) ?_
      exact q9
  · refine mx_tableOut 93 (mx_d D_C_count 1 rfl) (by rw [iI_toInt w1 w2]; omega) (by decide) ?_
    refine mx_throw hG ["java/lang/RuntimeException", "java/lang/Exception"] (E := "java/lang/IndexOutOfBoundsException") (tx := "there is no such count") (mx_d D_C_count 29 rfl) (mx_d D_C_count 30 rfl) (mx_d D_C_count 31 rfl) (mx_d D_C_count 32 rfl) (mx_d D_C_count 33 rfl) (by decide) (by decide) (by decide) w_260 w_13 w_261 (by decide) th_102 (by rfl) (by exact Nat.le_of_ble_eq_true rfl) ?_
    exact q0 hw
theorem c_C_read (hG : mx_ok G) (hN : 50 ≤ N) (hC : CS G Y U nE iE nD rA rS eA eS dA dS dW lc rn rg rN ps pN ce)
    (q : ∀ ce' (t0 : Nat → Int), CS G Y U nE iE nD rA rS (tl2 eA iE (rdOut Y ps t0 pN).2.2 1 (rdOut Y ps t0 pN).2.1) (tl2 eS iE (rdOut Y ps t0 pN).2.2 2 (rdOut Y ps t0 pN).2.1) dA dS dW lc rn rg rN ps (0) ce' → (∀ k, 50 ≤ k → ce' k = ce k) → Q (.inl (some (.int (iI (rdOut Y ps t0 pN).1)))) N ce' bc bs) : mx_M G Y_C_read (d + 6) bc bs false N ce 0 [(0, .ref (mx_B G + 0))] [] Q := by
  obtain ⟨⟨hY, hU, hE, hD, hrA, hrS, hEA, hES, hDA, hDS, hDz, hDW, hrN, hrn, hpN, hps⟩, c0, c1, c14, cE, cD, cL, cR, cP, cT⟩ := hC
  obtain ⟨p1, p2⟩ := cP
  obtain ⟨tc, tb, t0, t1, t2⟩ := cT
  have q9 := q
  replace q9 := fun ce' => q9 ce' t0
  clear q
  have hrow := rdOut_rows (Y := Y) (ps := ps) (t0 := t0) hpN
  generalize hO : rdOut Y ps t0 pN = O at q9 hrow
  obtain ⟨ans, rows, t⟩ := O
  simp only at q9 hrow
  refine mx_aload_n (k4 := 0) (mx_d D_C_read 0 rfl) (by rfl) ?_
  refine mx_getf hG (idx := 66) (ci := 0) (kf := 7) (mx_d D_C_read 1 rfl) (by rfl) cls_C (by decide) w_156 (by first | assumption | omega) (by first | assumption | exact va_up_self _ _ _ | (rw [va_up_ne _ _ (by omega)]; first | assumption | exact va_up_self _ _ _ | (rw [va_up_ne _ _ (by omega)]; first | assumption | exact va_up_self _ _ _ | (rw [va_up_ne _ _ (by omega)]; first | assumption | exact va_up_self _ _ _ | (rw [va_up_ne _ _ (by omega)]; first | assumption | exact va_up_self _ _ _ | (rw [va_up_ne _ _ (by omega)]; first | assumption | exact va_up_self _ _ _)))))) (by rfl) ?_
  refine mx_aload_n (k4 := 0) (mx_d D_C_read 2 rfl) (by rfl) ?_
  refine mx_getf hG (idx := 59) (ci := 0) (kf := 6) (mx_d D_C_read 3 rfl) (by rfl) cls_C (by decide) w_155 (by first | assumption | omega) (by first | assumption | exact va_up_self _ _ _ | (rw [va_up_ne _ _ (by omega)]; first | assumption | exact va_up_self _ _ _ | (rw [va_up_ne _ _ (by omega)]; first | assumption | exact va_up_self _ _ _ | (rw [va_up_ne _ _ (by omega)]; first | assumption | exact va_up_self _ _ _ | (rw [va_up_ne _ _ (by omega)]; first | assumption | exact va_up_self _ _ _ | (rw [va_up_ne _ _ (by omega)]; first | assumption | exact va_up_self _ _ _)))))) (by rfl) ?_
  refine mx_callV hG (Y' := Y_T_scan) (ci := 6) [_] (mx_d D_C_read 4 rfl) in_T_scan w_205 w_206 s_T_scan (by rfl) np_T_scan (by exact Nat.le_of_ble_eq_true rfl) (by rfl) (by first | assumption | omega) (by first | assumption | exact va_up_self _ _ _ | (rw [va_up_ne _ _ (by omega)]; first | assumption | exact va_up_self _ _ _ | (rw [va_up_ne _ _ (by omega)]; first | assumption | exact va_up_self _ _ _ | (rw [va_up_ne _ _ (by omega)]; first | assumption | exact va_up_self _ _ _ | (rw [va_up_ne _ _ (by omega)]; first | assumption | exact va_up_self _ _ _ | (rw [va_up_ne _ _ (by omega)]; first | assumption | exact va_up_self _ _ _)))))) (by rfl) (by exact Nat.le_of_ble_eq_true rfl) (c_T_scan hG (by omega) (by omega) (by omega) (by omega) (by omega) (by omega) (by omega) (by omega) (by omega) t1 t2 p1 p2 hY.2 hpN hps (fun ce1 tc1 tb1 tt k1 k2 k3 k4 => ?_))
  rw [hO] at k4 ⊢
  simp only at k4 ⊢
  have d0 : ce1 0 = _ := (k1 0 (by omega) (by omega)).trans c0
  have d46 : ce1 46 = _ := (k1 46 (by omega) (by omega)).trans p1
  refine mx_istore_n (k4 := 1) (mx_d D_C_read 5 rfl) (by decide) ?_
  refine mx_aload_n (k4 := 0) (mx_d D_C_read 6 rfl) (by rfl) ?_
  refine mx_getf hG (idx := 59) (ci := 0) (kf := 6) (mx_d D_C_read 7 rfl) (by rfl) cls_C (by decide) w_155 (by first | assumption | omega) (by first | assumption | exact va_up_self _ _ _ | (rw [va_up_ne _ _ (by omega)]; first | assumption | exact va_up_self _ _ _ | (rw [va_up_ne _ _ (by omega)]; first | assumption | exact va_up_self _ _ _ | (rw [va_up_ne _ _ (by omega)]; first | assumption | exact va_up_self _ _ _ | (rw [va_up_ne _ _ (by omega)]; first | assumption | exact va_up_self _ _ _ | (rw [va_up_ne _ _ (by omega)]; first | assumption | exact va_up_self _ _ _)))))) (by rfl) ?_
  refine mx_iconst (n := 0) (mx_d D_C_read 8 rfl) ?_
  refine mx_putf hG (idx := 209) (ci := 5) (kf := 1) (t := (.int)) (mx_d D_C_read 9 rfl) (by rfl) cls_P (by decide) (Or.inl rfl) w_124 (by first | assumption | omega) (by first | assumption | exact va_up_self _ _ _ | (rw [va_up_ne _ _ (by omega)]; first | assumption | exact va_up_self _ _ _ | (rw [va_up_ne _ _ (by omega)]; first | assumption | exact va_up_self _ _ _ | (rw [va_up_ne _ _ (by omega)]; first | assumption | exact va_up_self _ _ _ | (rw [va_up_ne _ _ (by omega)]; first | assumption | exact va_up_self _ _ _ | (rw [va_up_ne _ _ (by omega)]; first | assumption | exact va_up_self _ _ _)))))) (by exact Nat.le_of_ble_eq_true rfl) (by decide +kernel) (by rfl) (by rfl) ?_
  refine mx_iconst (n := 0) (mx_d D_C_read 10 rfl) ?_
  refine mx_istore_n (k4 := 2) (mx_d D_C_read 11 rfl) (by decide) ?_
  have big : ∀ (k i : Nat) (ce2 : Nat → va_E), i + k = rows → CS G Y U nE iE nD rA rS (tl2 eA iE t 1 i) (tl2 eS iE t 2 i) dA dS dW lc rn rg rN ps (0) ce2 → (∀ k, 50 ≤ k → ce2 k = ce k) → ce2 48 = .inr (6, [.int (iI Y), .ref (mx_B G + 49), .int (iI (tc1 : Nat)), .int (iI (bI tb1))]) → ce2 49 = aI G 100 tt → mx_M G Y_C_read (d + 6) bc bs false N ce2 22 [(0, .ref (mx_B G + 0)), (1, .int (iI ans)), (2, .int (iI i))] [] Q := by
    intro k
    induction k with
    | zero =>
      intro i ce2 hi hC2 hf z1 z2
      obtain rfl : i = rows := by omega
      refine mx_iload_n (k4 := 2) (mx_d D_C_read 12 rfl) (by rfl) ?_
      refine mx_iload_n (k4 := 1) (mx_d D_C_read 13 rfl) (by rfl) ?_
      refine mx_icmp_geY 70 (mx_d D_C_read 14 rfl) (by decide) (by omega) (by omega) (by omega) (by omega) (by omega) ?_
      refine mx_iload_n (k4 := 1) (mx_d D_C_read 36 rfl) (by rfl) ?_
      refine mx_iret (by rfl) (mx_d D_C_read 37 rfl) ?_
      exact q9 ce2 hC2 hf
    | succ k ih =>
      intro i ce2 hi hC2 hf z1 z2
      obtain ⟨⟨-, -, -, -, -, -, hEA2, hES2, -, -, -, -, -, -, -, -⟩, d0, d1, d14, dE, dD, dL, dR, dP, dT⟩ := hC2
      rcases hrow with hrow | hrow
      · omega
      · obtain ⟨-, w2, w3, w4⟩ := hrow
        have w5 := w4 i (by omega)
        have ett : tt = t := k4 (by omega)
        subst ett
        obtain ⟨g1, g2, g3⟩ := dE iE (by omega)
        have eY : tt (3 * i) = ((tt (3 * i)).toNat : Nat) := by omega
        have hs9 := hES2 iE (by omega) (tt (3 * i)).toNat (by omega)
        refine mx_iload_n (k4 := 2) (mx_d D_C_read 12 rfl) (by rfl) ?_
        refine mx_iload_n (k4 := 1) (mx_d D_C_read 13 rfl) (by rfl) ?_
        refine mx_icmp_geN 70 (mx_d D_C_read 14 rfl) (by decide) (by omega) (by omega) (by omega) (by omega) (by omega) ?_
        refine mx_aload_n (k4 := 0) (mx_d D_C_read 15 rfl) (by rfl) ?_
        refine mx_getf hG (idx := 28) (ci := 0) (kf := 2) (mx_d D_C_read 16 rfl) (by rfl) cls_C (by decide) w_151 (by first | assumption | omega) (by first | assumption | exact va_up_self _ _ _ | (rw [va_up_ne _ _ (by omega)]; first | assumption | exact va_up_self _ _ _ | (rw [va_up_ne _ _ (by omega)]; first | assumption | exact va_up_self _ _ _ | (rw [va_up_ne _ _ (by omega)]; first | assumption | exact va_up_self _ _ _ | (rw [va_up_ne _ _ (by omega)]; first | assumption | exact va_up_self _ _ _ | (rw [va_up_ne _ _ (by omega)]; first | assumption | exact va_up_self _ _ _)))))) (by rfl) ?_
        refine mx_aload_n (k4 := 0) (mx_d D_C_read 17 rfl) (by rfl) ?_
        refine mx_getf hG (idx := 80) (ci := 0) (kf := 9) (mx_d D_C_read 18 rfl) (by rfl) cls_C (by decide) w_158 (by first | assumption | omega) (by first | assumption | exact va_up_self _ _ _ | (rw [va_up_ne _ _ (by omega)]; first | assumption | exact va_up_self _ _ _ | (rw [va_up_ne _ _ (by omega)]; first | assumption | exact va_up_self _ _ _ | (rw [va_up_ne _ _ (by omega)]; first | assumption | exact va_up_self _ _ _ | (rw [va_up_ne _ _ (by omega)]; first | assumption | exact va_up_self _ _ _ | (rw [va_up_ne _ _ (by omega)]; first | assumption | exact va_up_self _ _ _)))))) (by rfl) ?_
        refine mx_aald hG 3 (iE) (mx_d D_C_read 19 rfl) (by first | assumption | omega) (by first | assumption | exact va_up_self _ _ _ | (rw [va_up_ne _ _ (by omega)]; first | assumption | exact va_up_self _ _ _ | (rw [va_up_ne _ _ (by omega)]; first | assumption | exact va_up_self _ _ _ | (rw [va_up_ne _ _ (by omega)]; first | assumption | exact va_up_self _ _ _ | (rw [va_up_ne _ _ (by omega)]; first | assumption | exact va_up_self _ _ _ | (rw [va_up_ne _ _ (by omega)]; first | assumption | exact va_up_self _ _ _)))))) (by rfl) (by rfl) (by rfl) (by omega) (by omega) (show _ = some (mx_B G + (2 + 3 * iE)) by exact if_pos (by omega)) ?_
        refine mx_aload_n (k4 := 0) (mx_d D_C_read 20 rfl) (by rfl) ?_
        refine mx_getf hG (idx := 66) (ci := 0) (kf := 7) (mx_d D_C_read 21 rfl) (by rfl) cls_C (by decide) w_156 (by first | assumption | omega) (by first | assumption | exact va_up_self _ _ _ | (rw [va_up_ne _ _ (by omega)]; first | assumption | exact va_up_self _ _ _ | (rw [va_up_ne _ _ (by omega)]; first | assumption | exact va_up_self _ _ _ | (rw [va_up_ne _ _ (by omega)]; first | assumption | exact va_up_self _ _ _ | (rw [va_up_ne _ _ (by omega)]; first | assumption | exact va_up_self _ _ _ | (rw [va_up_ne _ _ (by omega)]; first | assumption | exact va_up_self _ _ _)))))) (by rfl) ?_
        refine mx_iload_n (k4 := 2) (mx_d D_C_read 22 rfl) (by rfl) ?_
        refine mx_callV hG (Y' := Y_T_yearOf) (ci := 6) [_] (mx_d D_C_read 23 rfl) in_T_yearOf w_224 w_225 s_T_yearOf (by rfl) np_T_yearOf (by exact Nat.le_of_ble_eq_true rfl) (by rfl) (by first | assumption | omega) (by first | assumption | exact va_up_self _ _ _ | (rw [va_up_ne _ _ (by omega)]; first | assumption | exact va_up_self _ _ _ | (rw [va_up_ne _ _ (by omega)]; first | assumption | exact va_up_self _ _ _ | (rw [va_up_ne _ _ (by omega)]; first | assumption | exact va_up_self _ _ _ | (rw [va_up_ne _ _ (by omega)]; first | assumption | exact va_up_self _ _ _ | (rw [va_up_ne _ _ (by omega)]; first | assumption | exact va_up_self _ _ _)))))) (by rfl) (by exact Nat.le_of_ble_eq_true rfl) (c_T_yearOf hG (by omega) (by omega) z1 z2 (r := i) (by omega) ?_)
        refine mx_aload_n (k4 := 0) (mx_d D_C_read 24 rfl) (by rfl) ?_
        refine mx_getf hG (idx := 66) (ci := 0) (kf := 7) (mx_d D_C_read 25 rfl) (by rfl) cls_C (by decide) w_156 (by first | assumption | omega) (by first | assumption | exact va_up_self _ _ _ | (rw [va_up_ne _ _ (by omega)]; first | assumption | exact va_up_self _ _ _ | (rw [va_up_ne _ _ (by omega)]; first | assumption | exact va_up_self _ _ _ | (rw [va_up_ne _ _ (by omega)]; first | assumption | exact va_up_self _ _ _ | (rw [va_up_ne _ _ (by omega)]; first | assumption | exact va_up_self _ _ _ | (rw [va_up_ne _ _ (by omega)]; first | assumption | exact va_up_self _ _ _)))))) (by rfl) ?_
        refine mx_iload_n (k4 := 2) (mx_d D_C_read 26 rfl) (by rfl) ?_
        refine mx_callV hG (Y' := Y_T_ageOf) (ci := 6) [_] (mx_d D_C_read 27 rfl) in_T_ageOf w_228 w_229 s_T_ageOf (by rfl) np_T_ageOf (by exact Nat.le_of_ble_eq_true rfl) (by rfl) (by first | assumption | omega) (by first | assumption | exact va_up_self _ _ _ | (rw [va_up_ne _ _ (by omega)]; first | assumption | exact va_up_self _ _ _ | (rw [va_up_ne _ _ (by omega)]; first | assumption | exact va_up_self _ _ _ | (rw [va_up_ne _ _ (by omega)]; first | assumption | exact va_up_self _ _ _ | (rw [va_up_ne _ _ (by omega)]; first | assumption | exact va_up_self _ _ _ | (rw [va_up_ne _ _ (by omega)]; first | assumption | exact va_up_self _ _ _)))))) (by rfl) (by exact Nat.le_of_ble_eq_true rfl) (c_T_ageOf hG (by omega) (by omega) z1 z2 (r := i) (by omega) ?_)
        refine mx_aload_n (k4 := 0) (mx_d D_C_read 28 rfl) (by rfl) ?_
        refine mx_getf hG (idx := 66) (ci := 0) (kf := 7) (mx_d D_C_read 29 rfl) (by rfl) cls_C (by decide) w_156 (by first | assumption | omega) (by first | assumption | exact va_up_self _ _ _ | (rw [va_up_ne _ _ (by omega)]; first | assumption | exact va_up_self _ _ _ | (rw [va_up_ne _ _ (by omega)]; first | assumption | exact va_up_self _ _ _ | (rw [va_up_ne _ _ (by omega)]; first | assumption | exact va_up_self _ _ _ | (rw [va_up_ne _ _ (by omega)]; first | assumption | exact va_up_self _ _ _ | (rw [va_up_ne _ _ (by omega)]; first | assumption | exact va_up_self _ _ _)))))) (by rfl) ?_
        refine mx_iload_n (k4 := 2) (mx_d D_C_read 30 rfl) (by rfl) ?_
        refine mx_callV hG (Y' := Y_T_spreadOf) (ci := 6) [_] (mx_d D_C_read 31 rfl) in_T_spreadOf w_232 w_233 s_T_spreadOf (by rfl) np_T_spreadOf (by exact Nat.le_of_ble_eq_true rfl) (by rfl) (by first | assumption | omega) (by first | assumption | exact va_up_self _ _ _ | (rw [va_up_ne _ _ (by omega)]; first | assumption | exact va_up_self _ _ _ | (rw [va_up_ne _ _ (by omega)]; first | assumption | exact va_up_self _ _ _ | (rw [va_up_ne _ _ (by omega)]; first | assumption | exact va_up_self _ _ _ | (rw [va_up_ne _ _ (by omega)]; first | assumption | exact va_up_self _ _ _ | (rw [va_up_ne _ _ (by omega)]; first | assumption | exact va_up_self _ _ _)))))) (by rfl) (by exact Nat.le_of_ble_eq_true rfl) (c_T_spreadOf hG (by omega) (by omega) z1 z2 (r := i) (by omega) ?_)
        rw [eY]
        refine mx_callV hG (Y' := Y_E_tellRow) (ci := 1) [_, _, _] (mx_d D_C_read 32 rfl) in_E_tellRow w_236 w_237 s_E_tellRow (by rfl) np_E_tellRow (by exact Nat.le_of_ble_eq_true rfl) (by rfl) (by first | assumption | omega) (by first | assumption | exact va_up_self _ _ _ | (rw [va_up_ne _ _ (by omega)]; first | assumption | exact va_up_self _ _ _ | (rw [va_up_ne _ _ (by omega)]; first | assumption | exact va_up_self _ _ _ | (rw [va_up_ne _ _ (by omega)]; first | assumption | exact va_up_self _ _ _ | (rw [va_up_ne _ _ (by omega)]; first | assumption | exact va_up_self _ _ _ | (rw [va_up_ne _ _ (by omega)]; first | assumption | exact va_up_self _ _ _)))))) (by rfl) (by exact Nat.le_of_ble_eq_true rfl) (c_E_tellRow hG (by omega) (by omega) (by omega) (by omega) (by omega) (by omega) g1 g2 g3 (by omega) (y := (tt (3 * i)).toNat) (by omega) hs9 ?_)
        refine mx_pop (mx_d D_C_read 33 rfl) (by rfl) ?_
        refine mx_iincI (i := 2) (n := 1) (mx_d D_C_read 34 rfl) (by rfl) (by decide) ?_
        refine mx_goto 22 (mx_d D_C_read 35 rfl) (by decide) ?_
        refine mx_loc (by rfl) (ih (i + 1) _ (by omega) ⟨⟨hY, hU, hE, hD, hrA, hrS, up2_bd hEA2 w5.2.1, up2_bd hES2 ⟨by omega, by omega⟩, hDA, hDS, hDz, hDW, hrN, hrn, by omega, fun j hj => absurd hj (by omega)⟩, ?_, ?_, ?_, csE_tell dE (by omega) (by omega) (by omega), csD_fr dD (fun k _ _ => ?_), csL_fr dL (fun k _ _ => ?_), csR_fr dR (fun k _ _ => ?_), csP_fr dP (fun k _ _ => ?_), csT_fr dT (fun k _ _ => ?_)⟩ (fun k hk => ?_) ?_ ?_)
        · rw [va_up_ne _ _ (by omega), va_up_ne _ _ (by omega), va_up_ne _ _ (by omega)]; exact d0
        · rw [va_up_ne _ _ (by omega), va_up_ne _ _ (by omega), va_up_ne _ _ (by omega)]; exact d1
        · rw [va_up_ne _ _ (by omega), va_up_ne _ _ (by omega), va_up_ne _ _ (by omega)]; exact d14
        · rw [va_up_ne _ _ (by omega), va_up_ne _ _ (by omega), va_up_ne _ _ (by omega)]
        · rw [va_up_ne _ _ (by omega), va_up_ne _ _ (by omega), va_up_ne _ _ (by omega)]
        · rw [va_up_ne _ _ (by omega), va_up_ne _ _ (by omega), va_up_ne _ _ (by omega)]
        · rw [va_up_ne _ _ (by omega), va_up_ne _ _ (by omega), va_up_ne _ _ (by omega)]
        · rw [va_up_ne _ _ (by omega), va_up_ne _ _ (by omega), va_up_ne _ _ (by omega)]
        · rw [va_up_ne _ _ (by omega), va_up_ne _ _ (by omega), va_up_ne _ _ (by omega)]; exact hf k hk
        · rw [va_up_ne _ _ (by omega), va_up_ne _ _ (by omega), va_up_ne _ _ (by omega)]; exact z1
        · rw [va_up_ne _ _ (by omega), va_up_ne _ _ (by omega), va_up_ne _ _ (by omega)]; exact z2
  have u1 : ∀ k, k ≠ 46 → k ≠ 48 → k ≠ 49 → va_up ce1 46 (.inr (5, [.ref (mx_B G + 47), .int (iI ((0 : Nat) : Int))])) k = ce k := fun k h1 h2 h3 => by rw [va_up_ne _ _ h1]; exact k1 k h2 h3
  refine mx_loc (by rfl) (big rows 0 _ (by omega) ⟨⟨hY, hU, hE, hD, hrA, hrS, hEA, hES, hDA, hDS, hDz, hDW, hrN, hrn, by omega, fun j hj => absurd hj (by omega)⟩, (u1 0 (by omega) (by omega) (by omega)).trans c0, (u1 1 (by omega) (by omega) (by omega)).trans c1, (u1 14 (by omega) (by omega) (by omega)).trans c14, csE_fr cE (fun k _ _ => u1 k (by omega) (by omega) (by omega)), csD_fr cD (fun k _ _ => u1 k (by omega) (by omega) (by omega)), csL_fr cL (fun k _ _ => u1 k (by omega) (by omega) (by omega)), csR_fr cR (fun k _ _ => u1 k (by omega) (by omega) (by omega)), ⟨va_up_self _ _ _, (u1 47 (by omega) (by omega) (by omega)).trans p2⟩, ⟨tc1, tb1, tt, ?_, ?_⟩⟩ (fun k hk => u1 k (by omega) (by omega) (by omega)) ?_ ?_)
  all_goals rw [va_up_ne _ _ (by omega)]
  all_goals assumption
end CZ
