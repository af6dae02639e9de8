/-! Edition: copyRowsOf, <init>; Dating -/
section EE
variable {G : mx_G} {d bc bs : Nat} {N : Nat} {ce : Nat → va_E} {Q : mx_P} {o a s o' a' s' n : Nat} {fa fs fa' fs' : Nat → Int} {rc rc' : Int}
theorem c_E_copy (hG : mx_ok G) (ho : o < N) (ha : a < N) (hs : s < N) (ho' : o' < N) (ha' : a' < N) (hs' : s' < N) (e1 : o ≠ a) (e2 : o ≠ s) (e3 : a ≠ s) (e4 : a ≠ o') (e5 : a ≠ s') (e6 : s ≠ o') (h1 : ce o = .inr (1, [.ref (mx_B G + a), .ref (mx_B G + s), .int (iI rc)])) (h2 : ce a = aI G n fa) (h3 : ce s = aI G n fs) (h4 : ce o' = .inr (1, [.ref (mx_B G + a'), .ref (mx_B G + s'), .int (iI rc')])) (h5 : ce a' = aI G n fa') (h6 : ce s' = aI G n fs') (hn : n < 2147483648)
    (q : Q (.inl none) N (va_up (va_up (va_up ce a (aI G n (fun j => if j < n then fa' j else fa j))) s (aI G n (fun j => if j < n then fs' j else fs j))) o (.inr (1, [.ref (mx_B G + a), .ref (mx_B G + s), .int (iI rc')]))) bc bs) : mx_M G Y_E_copyRowsOf (d + 1) bc bs false N ce 0 [(0, .ref (mx_B G + o)), (1, .ref (mx_B G + o'))] [] Q := by
  refine mx_aload_n (k4 := 1) (mx_d D_E_copyRowsOf 0 rfl) (by rfl) ?_
  refine mx_getf hG (idx := 7) (ci := 1) (kf := 0) (mx_d D_E_copyRowsOf 1 rfl) (by rfl) cls_E (by decide) w_39 (by first | assumption | omega) (by first | assumption | exact va_up_self _ _ _ | (rw [va_up_ne _ _ (by omega)]; first | assumption | exact va_up_self _ _ _ | (rw [va_up_ne _ _ (by omega)]; first | assumption | exact va_up_self _ _ _ | (rw [va_up_ne _ _ (by omega)]; first | assumption | exact va_up_self _ _ _ | (rw [va_up_ne _ _ (by omega)]; first | assumption | exact va_up_self _ _ _ | (rw [va_up_ne _ _ (by omega)]; first | assumption | exact va_up_self _ _ _)))))) (by rfl) ?_
  refine mx_iconst (n := 0) (mx_d D_E_copyRowsOf 2 rfl) ?_
  refine mx_aload_n (k4 := 0) (mx_d D_E_copyRowsOf 3 rfl) (by rfl) ?_
  refine mx_getf hG (idx := 7) (ci := 1) (kf := 0) (mx_d D_E_copyRowsOf 4 rfl) (by rfl) cls_E (by decide) w_39 (by first | assumption | omega) (by first | assumption | exact va_up_self _ _ _ | (rw [va_up_ne _ _ (by omega)]; first | assumption | exact va_up_self _ _ _ | (rw [va_up_ne _ _ (by omega)]; first | assumption | exact va_up_self _ _ _ | (rw [va_up_ne _ _ (by omega)]; first | assumption | exact va_up_self _ _ _ | (rw [va_up_ne _ _ (by omega)]; first | assumption | exact va_up_self _ _ _ | (rw [va_up_ne _ _ (by omega)]; first | assumption | exact va_up_self _ _ _)))))) (by rfl) ?_
  refine mx_iconst (n := 0) (mx_d D_E_copyRowsOf 5 rfl) ?_
  refine mx_aload_n (k4 := 0) (mx_d D_E_copyRowsOf 6 rfl) (by rfl) ?_
  refine mx_getf hG (idx := 7) (ci := 1) (kf := 0) (mx_d D_E_copyRowsOf 7 rfl) (by rfl) cls_E (by decide) w_39 (by first | assumption | omega) (by first | assumption | exact va_up_self _ _ _ | (rw [va_up_ne _ _ (by omega)]; first | assumption | exact va_up_self _ _ _ | (rw [va_up_ne _ _ (by omega)]; first | assumption | exact va_up_self _ _ _ | (rw [va_up_ne _ _ (by omega)]; first | assumption | exact va_up_self _ _ _ | (rw [va_up_ne _ _ (by omega)]; first | assumption | exact va_up_self _ _ _ | (rw [va_up_ne _ _ (by omega)]; first | assumption | exact va_up_self _ _ _)))))) (by rfl) ?_
  refine mx_alen hG 0 (mx_d D_E_copyRowsOf 8 rfl) (by first | assumption | omega) (by first | assumption | exact va_up_self _ _ _ | (rw [va_up_ne _ _ (by omega)]; first | assumption | exact va_up_self _ _ _ | (rw [va_up_ne _ _ (by omega)]; first | assumption | exact va_up_self _ _ _ | (rw [va_up_ne _ _ (by omega)]; first | assumption | exact va_up_self _ _ _ | (rw [va_up_ne _ _ (by omega)]; first | assumption | exact va_up_self _ _ _ | (rw [va_up_ne _ _ (by omega)]; first | assumption | exact va_up_self _ _ _)))))) (by rfl) ?_
  refine mx_copyI hG (mx_d D_E_copyRowsOf 9 rfl) w_376 w_378 w_377 w_16 (by first | assumption | omega) (by first | assumption | omega) (by first | assumption | exact va_up_self _ _ _ | (rw [va_up_ne _ _ (by omega)]; first | assumption | exact va_up_self _ _ _ | (rw [va_up_ne _ _ (by omega)]; first | assumption | exact va_up_self _ _ _ | (rw [va_up_ne _ _ (by omega)]; first | assumption | exact va_up_self _ _ _ | (rw [va_up_ne _ _ (by omega)]; first | assumption | exact va_up_self _ _ _ | (rw [va_up_ne _ _ (by omega)]; first | assumption | exact va_up_self _ _ _)))))) (by first | assumption | exact va_up_self _ _ _ | (rw [va_up_ne _ _ (by omega)]; first | assumption | exact va_up_self _ _ _ | (rw [va_up_ne _ _ (by omega)]; first | assumption | exact va_up_self _ _ _ | (rw [va_up_ne _ _ (by omega)]; first | assumption | exact va_up_self _ _ _ | (rw [va_up_ne _ _ (by omega)]; first | assumption | exact va_up_self _ _ _ | (rw [va_up_ne _ _ (by omega)]; first | assumption | exact va_up_self _ _ _)))))) (by omega) (by exact Nat.le_of_ble_eq_true rfl) ?_
  refine mx_aload_n (k4 := 1) (mx_d D_E_copyRowsOf 10 rfl) (by rfl) ?_
  refine mx_getf hG (idx := 13) (ci := 1) (kf := 1) (mx_d D_E_copyRowsOf 11 rfl) (by rfl) cls_E (by decide) w_41 (by first | assumption | omega) (by first | assumption | exact va_up_self _ _ _ | (rw [va_up_ne _ _ (by omega)]; first | assumption | exact va_up_self _ _ _ | (rw [va_up_ne _ _ (by omega)]; first | assumption | exact va_up_self _ _ _ | (rw [va_up_ne _ _ (by omega)]; first | assumption | exact va_up_self _ _ _ | (rw [va_up_ne _ _ (by omega)]; first | assumption | exact va_up_self _ _ _ | (rw [va_up_ne _ _ (by omega)]; first | assumption | exact va_up_self _ _ _)))))) (by rfl) ?_
  refine mx_iconst (n := 0) (mx_d D_E_copyRowsOf 12 rfl) ?_
  refine mx_aload_n (k4 := 0) (mx_d D_E_copyRowsOf 13 rfl) (by rfl) ?_
  refine mx_getf hG (idx := 13) (ci := 1) (kf := 1) (mx_d D_E_copyRowsOf 14 rfl) (by rfl) cls_E (by decide) w_41 (by first | assumption | omega) (by first | assumption | exact va_up_self _ _ _ | (rw [va_up_ne _ _ (by omega)]; first | assumption | exact va_up_self _ _ _ | (rw [va_up_ne _ _ (by omega)]; first | assumption | exact va_up_self _ _ _ | (rw [va_up_ne _ _ (by omega)]; first | assumption | exact va_up_self _ _ _ | (rw [va_up_ne _ _ (by omega)]; first | assumption | exact va_up_self _ _ _ | (rw [va_up_ne _ _ (by omega)]; first | assumption | exact va_up_self _ _ _)))))) (by rfl) ?_
  refine mx_iconst (n := 0) (mx_d D_E_copyRowsOf 15 rfl) ?_
  refine mx_aload_n (k4 := 0) (mx_d D_E_copyRowsOf 16 rfl) (by rfl) ?_
  refine mx_getf hG (idx := 13) (ci := 1) (kf := 1) (mx_d D_E_copyRowsOf 17 rfl) (by rfl) cls_E (by decide) w_41 (by first | assumption | omega) (by first | assumption | exact va_up_self _ _ _ | (rw [va_up_ne _ _ (by omega)]; first | assumption | exact va_up_self _ _ _ | (rw [va_up_ne _ _ (by omega)]; first | assumption | exact va_up_self _ _ _ | (rw [va_up_ne _ _ (by omega)]; first | assumption | exact va_up_self _ _ _ | (rw [va_up_ne _ _ (by omega)]; first | assumption | exact va_up_self _ _ _ | (rw [va_up_ne _ _ (by omega)]; first | assumption | exact va_up_self _ _ _)))))) (by rfl) ?_
  refine mx_alen hG 0 (mx_d D_E_copyRowsOf 18 rfl) (by first | assumption | omega) (by first | assumption | exact va_up_self _ _ _ | (rw [va_up_ne _ _ (by omega)]; first | assumption | exact va_up_self _ _ _ | (rw [va_up_ne _ _ (by omega)]; first | assumption | exact va_up_self _ _ _ | (rw [va_up_ne _ _ (by omega)]; first | assumption | exact va_up_self _ _ _ | (rw [va_up_ne _ _ (by omega)]; first | assumption | exact va_up_self _ _ _ | (rw [va_up_ne _ _ (by omega)]; first | assumption | exact va_up_self _ _ _)))))) (by rfl) ?_
  refine mx_copyI hG (mx_d D_E_copyRowsOf 19 rfl) w_376 w_378 w_377 w_16 (by first | assumption | omega) (by first | assumption | omega) (by first | assumption | exact va_up_self _ _ _ | (rw [va_up_ne _ _ (by omega)]; first | assumption | exact va_up_self _ _ _ | (rw [va_up_ne _ _ (by omega)]; first | assumption | exact va_up_self _ _ _ | (rw [va_up_ne _ _ (by omega)]; first | assumption | exact va_up_self _ _ _ | (rw [va_up_ne _ _ (by omega)]; first | assumption | exact va_up_self _ _ _ | (rw [va_up_ne _ _ (by omega)]; first | assumption | exact va_up_self _ _ _)))))) (by first | assumption | exact va_up_self _ _ _ | (rw [va_up_ne _ _ (by omega)]; first | assumption | exact va_up_self _ _ _ | (rw [va_up_ne _ _ (by omega)]; first | assumption | exact va_up_self _ _ _ | (rw [va_up_ne _ _ (by omega)]; first | assumption | exact va_up_self _ _ _ | (rw [va_up_ne _ _ (by omega)]; first | assumption | exact va_up_self _ _ _ | (rw [va_up_ne _ _ (by omega)]; first | assumption | exact va_up_self _ _ _)))))) (by omega) (by exact Nat.le_of_ble_eq_true rfl) ?_
  refine mx_aload_n (k4 := 0) (mx_d D_E_copyRowsOf 20 rfl) (by rfl) ?_
  refine mx_aload_n (k4 := 1) (mx_d D_E_copyRowsOf 21 rfl) (by rfl) ?_
  refine mx_getf hG (idx := 20) (ci := 1) (kf := 2) (mx_d D_E_copyRowsOf 22 rfl) (by rfl) cls_E (by decide) w_43 (by first | assumption | omega) (by first | assumption | exact va_up_self _ _ _ | (rw [va_up_ne _ _ (by omega)]; first | assumption | exact va_up_self _ _ _ | (rw [va_up_ne _ _ (by omega)]; first | assumption | exact va_up_self _ _ _ | (rw [va_up_ne _ _ (by omega)]; first | assumption | exact va_up_self _ _ _ | (rw [va_up_ne _ _ (by omega)]; first | assumption | exact va_up_self _ _ _ | (rw [va_up_ne _ _ (by omega)]; first | assumption | exact va_up_self _ _ _)))))) (by rfl) ?_
  refine mx_putf hG (idx := 20) (ci := 1) (kf := 2) (t := (.int)) (mx_d D_E_copyRowsOf 23 rfl) (by rfl) cls_E (by decide) (Or.inl rfl) w_43 (by first | assumption | omega) (by first | assumption | exact va_up_self _ _ _ | (rw [va_up_ne _ _ (by omega)]; first | assumption | exact va_up_self _ _ _ | (rw [va_up_ne _ _ (by omega)]; first | assumption | exact va_up_self _ _ _ | (rw [va_up_ne _ _ (by omega)]; first | assumption | exact va_up_self _ _ _ | (rw [va_up_ne _ _ (by omega)]; first | assumption | exact va_up_self _ _ _ | (rw [va_up_ne _ _ (by omega)]; first | assumption | exact va_up_self _ _ _)))))) (by exact Nat.le_of_ble_eq_true rfl) (by decide +kernel) (by rfl) (by rfl) ?_
  refine mx_vret (by rfl) (mx_d D_E_copyRowsOf 24 rfl) ?_
  exact q
theorem c_E_init (hG : mx_ok G) (ho : o < N) (h1 : ce o = .inr (1, [.null, .null, .int 0])) (hn : n ≤ 1000)
    (q : ∀ ce', (∀ k, k ≠ o → k < N → ce' k = ce k) → ce' o = .inr (1, [.ref (mx_B G + N), .ref (mx_B G + (N + 1)), .int (iI 0)]) → ce' N = aI G n (fun _ => 0) → ce' (N + 1) = aI G n (fun _ => 0) → Q (.inl none) (N + 2) ce' bc bs) : mx_M G Y_E_init d (bc + 2) (bs + n + n) true N ce 0 [(0, .ref (mx_B G + o)), (1, .int (iI n))] [] Q := by
  refine mx_aload_n (k4 := 0) (mx_d D_E_init 0 rfl) (by rfl) ?_
  refine mx_objInit (mx_d D_E_init 1 rfl) w_38 w_23 w_objcode (by exact Nat.le_of_ble_eq_true rfl) ?_
  refine mx_aload_n (k4 := 0) (mx_d D_E_init 2 rfl) (by rfl) ?_
  refine mx_iload_n (k4 := 1) (mx_d D_E_init 3 rfl) (by rfl) ?_
  refine mx_newaI hG (mx_d D_E_init 4 rfl) (by rfl) (by omega) ?_
  refine mx_putf hG (idx := 7) (ci := 1) (kf := 0) (t := (.array .int)) (mx_d D_E_init 5 rfl) (by rfl) cls_E (by decide) (Or.inr ⟨rfl, rfl, rfl⟩) w_39 (by first | assumption | omega) (by first | assumption | exact va_up_self _ _ _ | (rw [va_up_ne _ _ (by omega)]; first | assumption | exact va_up_self _ _ _ | (rw [va_up_ne _ _ (by omega)]; first | assumption | exact va_up_self _ _ _ | (rw [va_up_ne _ _ (by omega)]; first | assumption | exact va_up_self _ _ _ | (rw [va_up_ne _ _ (by omega)]; first | assumption | exact va_up_self _ _ _ | (rw [va_up_ne _ _ (by omega)]; first | assumption | exact va_up_self _ _ _)))))) (by exact Nat.le_of_ble_eq_true rfl) (by decide +kernel) (by rfl) (by rfl) ?_
  refine mx_aload_n (k4 := 0) (mx_d D_E_init 6 rfl) (by rfl) ?_
  refine mx_iload_n (k4 := 1) (mx_d D_E_init 7 rfl) (by rfl) ?_
  refine mx_newaI hG (mx_d D_E_init 8 rfl) (by rfl) (by omega) ?_
  refine mx_putf hG (idx := 13) (ci := 1) (kf := 1) (t := (.array .int)) (mx_d D_E_init 9 rfl) (by rfl) cls_E (by decide) (Or.inr ⟨rfl, rfl, rfl⟩) w_41 (by first | assumption | omega) (by first | assumption | exact va_up_self _ _ _ | (rw [va_up_ne _ _ (by omega)]; first | assumption | exact va_up_self _ _ _ | (rw [va_up_ne _ _ (by omega)]; first | assumption | exact va_up_self _ _ _ | (rw [va_up_ne _ _ (by omega)]; first | assumption | exact va_up_self _ _ _ | (rw [va_up_ne _ _ (by omega)]; first | assumption | exact va_up_self _ _ _ | (rw [va_up_ne _ _ (by omega)]; first | assumption | exact va_up_self _ _ _)))))) (by exact Nat.le_of_ble_eq_true rfl) (by decide +kernel) (by rfl) (by rfl) ?_
  refine mx_vret (by rfl) (mx_d D_E_init 10 rfl) ?_
  refine q _ (fun k h1 h2 => ?_) (va_up_self _ _ _) ?_ ?_
  · rw [va_up_ne _ _ h1, va_up_ne _ _ (by omega), va_up_ne _ _ h1, va_up_ne _ _ (by omega)]
  · rw [va_up_ne _ _ (by omega), va_up_ne _ _ (by omega), va_up_ne _ _ (by omega), va_up_self]
  · rw [va_up_ne _ _ (by omega), va_up_self]
end EE
section DA
variable {G : mx_G} {d bc bs : Nat} {ex : Bool} {N : Nat} {ce : Nat → va_E} {Q : mx_P} {o w o1 w1 o2 w2 n : Nat} {f f1 f2 : Nat → Int} {A S A1 S1 A2 S2 : Int}
theorem c_D_init (hG : mx_ok G) (ho : o < N) (h1 : ce o = .inr (2, [.null, .int 0, .int 0])) (hn : n ≤ 1000)
    (q : ∀ ce', (∀ k, k ≠ o → k < N → ce' k = ce k) → ce' o = .inr (2, [.ref (mx_B G + N), .int (iI 0), .int (iI 0)]) → ce' N = aI G n (fun _ => 0) → Q (.inl none) (N + 1) ce' bc bs) : mx_M G Y_D_init d (bc + 1) (bs + n) true N ce 0 [(0, .ref (mx_B G + o)), (1, .int (iI n))] [] Q := by
  refine mx_aload_n (k4 := 0) (mx_d D_D_init 0 rfl) (by rfl) ?_
  refine mx_objInit (mx_d D_D_init 1 rfl) w_59 w_23 w_objcode (by exact Nat.le_of_ble_eq_true rfl) ?_
  refine mx_aload_n (k4 := 0) (mx_d D_D_init 2 rfl) (by rfl) ?_
  refine mx_iload_n (k4 := 1) (mx_d D_D_init 3 rfl) (by rfl) ?_
  refine mx_newaI hG (mx_d D_D_init 4 rfl) (by rfl) (by omega) ?_
  refine mx_putf hG (idx := 7) (ci := 2) (kf := 0) (t := (.array .int)) (mx_d D_D_init 5 rfl) (by rfl) cls_D (by decide) (Or.inr ⟨rfl, rfl, rfl⟩) w_60 (by first | assumption | omega) (by first | assumption | exact va_up_self _ _ _ | (rw [va_up_ne _ _ (by omega)]; first | assumption | exact va_up_self _ _ _ | (rw [va_up_ne _ _ (by omega)]; first | assumption | exact va_up_self _ _ _ | (rw [va_up_ne _ _ (by omega)]; first | assumption | exact va_up_self _ _ _ | (rw [va_up_ne _ _ (by omega)]; first | assumption | exact va_up_self _ _ _ | (rw [va_up_ne _ _ (by omega)]; first | assumption | exact va_up_self _ _ _)))))) (by exact Nat.le_of_ble_eq_true rfl) (by decide +kernel) (by rfl) (by rfl) ?_
  refine mx_vret (by rfl) (mx_d D_D_init 6 rfl) ?_
  refine q _ (fun k h1 h2 => ?_) (va_up_self _ _ _) ?_
  · rw [va_up_ne _ _ h1, va_up_ne _ _ (by omega)]
  · rw [va_up_ne _ _ (by omega), va_up_self]
theorem c_D_isMeasured (hG : mx_ok G) (ho : o < N) (h1 : ce o = .inr (2, [.ref (mx_B G + w), .int (iI A), .int (iI S)])) (hS : 0 ≤ S ∧ S ≤ 100)
    (q : Q (.inl (some (.int (iI (bI (decide (0 < S))))))) N ce bc bs) : mx_M G Y_D_isMeasured d bc bs ex N ce 0 [(0, .ref (mx_B G + o))] [] Q := by
  refine mx_aload_n (k4 := 0) (mx_d D_D_isMeasured 0 rfl) (by rfl) ?_
  refine mx_getf hG (idx := 13) (ci := 2) (kf := 2) (mx_d D_D_isMeasured 1 rfl) (by rfl) cls_D (by decide) w_65 (by first | assumption | omega) (by first | assumption | exact va_up_self _ _ _ | (rw [va_up_ne _ _ (by omega)]; first | assumption | exact va_up_self _ _ _ | (rw [va_up_ne _ _ (by omega)]; first | assumption | exact va_up_self _ _ _ | (rw [va_up_ne _ _ (by omega)]; first | assumption | exact va_up_self _ _ _ | (rw [va_up_ne _ _ (by omega)]; first | assumption | exact va_up_self _ _ _ | (rw [va_up_ne _ _ (by omega)]; first | assumption | exact va_up_self _ _ _)))))) (by rfl) ?_
  refine mx_if_leI 11 (mx_d D_D_isMeasured 2 rfl) (by decide) (by omega) (by omega) (fun hb => ?_) (fun hb => ?_)
  · refine mx_iconst (n := 0) (mx_d D_D_isMeasured 5 rfl) ?_
    refine mx_zret (by rfl) (mx_d D_D_isMeasured 6 rfl) (by first | rfl | assumption) ?_
    rw [show bI (decide (0 < S)) = 0 from by simp [bI]; omega] at q
    exact q
  · refine mx_iconst (n := 1) (mx_d D_D_isMeasured 3 rfl) ?_
    refine mx_goto 12 (mx_d D_D_isMeasured 4 rfl) (by decide) ?_
    refine mx_zret (by rfl) (mx_d D_D_isMeasured 6 rfl) (by first | rfl | assumption) ?_
    rw [show bI (decide (0 < S)) = 1 from by simp [bI]; omega] at q
    exact q
theorem c_D_all (hG : mx_ok G) (ho : o < N) (hw : w < N) (h1 : ce o = .inr (2, [.ref (mx_B G + w), .int (iI A), .int (iI S)])) (h2 : ce w = aI G n f) (hn : n ≤ 1000)
    (q : Q (.inl (some (.int (iI (sumTo f n))))) N ce bc bs) : mx_M G Y_D_allWeights d bc bs ex N ce 0 [(0, .ref (mx_B G + o))] [] Q := by
  refine mx_iconst (n := 0) (mx_d D_D_allWeights 0 rfl) ?_
  refine mx_istore_n (k4 := 1) (mx_d D_D_allWeights 1 rfl) (by decide) ?_
  refine mx_aload_n (k4 := 0) (mx_d D_D_allWeights 2 rfl) (by rfl) ?_
  refine mx_getf hG (idx := 7) (ci := 2) (kf := 0) (mx_d D_D_allWeights 3 rfl) (by rfl) cls_D (by decide) w_60 (by first | assumption | omega) (by first | assumption | exact va_up_self _ _ _ | (rw [va_up_ne _ _ (by omega)]; first | assumption | exact va_up_self _ _ _ | (rw [va_up_ne _ _ (by omega)]; first | assumption | exact va_up_self _ _ _ | (rw [va_up_ne _ _ (by omega)]; first | assumption | exact va_up_self _ _ _ | (rw [va_up_ne _ _ (by omega)]; first | assumption | exact va_up_self _ _ _ | (rw [va_up_ne _ _ (by omega)]; first | assumption | exact va_up_self _ _ _)))))) (by rfl) ?_
  refine mx_astore_n (k4 := 2) (mx_d D_D_allWeights 4 rfl) (by decide) ?_
  refine mx_aload_n (k4 := 2) (mx_d D_D_allWeights 5 rfl) (by rfl) ?_
  refine mx_alen hG 0 (mx_d D_D_allWeights 6 rfl) (by first | assumption | omega) (by first | assumption | exact va_up_self _ _ _ | (rw [va_up_ne _ _ (by omega)]; first | assumption | exact va_up_self _ _ _ | (rw [va_up_ne _ _ (by omega)]; first | assumption | exact va_up_self _ _ _ | (rw [va_up_ne _ _ (by omega)]; first | assumption | exact va_up_self _ _ _ | (rw [va_up_ne _ _ (by omega)]; first | assumption | exact va_up_self _ _ _ | (rw [va_up_ne _ _ (by omega)]; first | assumption | exact va_up_self _ _ _)))))) (by rfl) ?_
  refine mx_istore_n (k4 := 3) (mx_d D_D_allWeights 7 rfl) (by decide) ?_
  refine mx_iconst (n := 0) (mx_d D_D_allWeights 8 rfl) ?_
  refine mx_istore (i := 4) (mx_d D_D_allWeights 9 rfl) (by decide) ?_
  suffices H : ∀ k i : Nat, i + k = n → mx_M G Y_D_allWeights d bc bs ex N ce 13 [(1, .int (iI (sumTo f i))), (2, .ref (mx_B G + w)), (3, .int (iI n)), (4, .int (iI i))] [] Q from mx_loc (by rfl) (H n 0 (by omega))
  intro k
  induction k with
  | zero =>
    intro i hi
    obtain rfl : i = n := by omega
    refine mx_iload (i := 4) (mx_d D_D_allWeights 10 rfl) (by rfl) ?_
    refine mx_iload_n (k4 := 3) (mx_d D_D_allWeights 11 rfl) (by rfl) ?_
    refine mx_icmp_geY 36 (mx_d D_D_allWeights 12 rfl) (by decide) (by omega) (by omega) (by omega) (by omega) (by omega) ?_
    refine mx_iload_n (k4 := 1) (mx_d D_D_allWeights 23 rfl) (by rfl) ?_
    refine mx_iret (by rfl) (mx_d D_D_allWeights 24 rfl) ?_
    exact q
  | succ k ih =>
    intro i hi
    refine mx_iload (i := 4) (mx_d D_D_allWeights 10 rfl) (by rfl) ?_
    refine mx_iload_n (k4 := 3) (mx_d D_D_allWeights 11 rfl) (by rfl) ?_
    refine mx_icmp_geN 36 (mx_d D_D_allWeights 12 rfl) (by decide) (by omega) (by omega) (by omega) (by omega) (by omega) ?_
    refine mx_aload_n (k4 := 2) (mx_d D_D_allWeights 13 rfl) (by rfl) ?_
    refine mx_iload (i := 4) (mx_d D_D_allWeights 14 rfl) (by rfl) ?_
    refine mx_ialdI hG _ (mx_d D_D_allWeights 15 rfl) (by first | assumption | omega) (by first | assumption | exact va_up_self _ _ _ | (rw [va_up_ne _ _ (by omega)]; first | assumption | exact va_up_self _ _ _ | (rw [va_up_ne _ _ (by omega)]; first | assumption | exact va_up_self _ _ _ | (rw [va_up_ne _ _ (by omega)]; first | assumption | exact va_up_self _ _ _ | (rw [va_up_ne _ _ (by omega)]; first | assumption | exact va_up_self _ _ _ | (rw [va_up_ne _ _ (by omega)]; first | assumption | exact va_up_self _ _ _)))))) (by rfl) (by omega) (by omega) ?_
    refine mx_istore (i := 5) (mx_d D_D_allWeights 16 rfl) (by decide) ?_
    refine mx_iload_n (k4 := 1) (mx_d D_D_allWeights 17 rfl) (by rfl) ?_
    refine mx_iload (i := 5) (mx_d D_D_allWeights 18 rfl) (by rfl) ?_
    refine mx_iaddI (mx_d D_D_allWeights 19 rfl) ?_
    refine mx_istore_n (k4 := 1) (mx_d D_D_allWeights 20 rfl) (by decide) ?_
    refine mx_iincI (i := 4) (n := 1) (mx_d D_D_allWeights 21 rfl) (by rfl) (by decide) ?_
    refine mx_goto 13 (mx_d D_D_allWeights 22 rfl) (by decide) ?_
    exact mx_loc (by rfl) (ih (i + 1) (by omega))
theorem c_D_greatest (hG : mx_ok G) (ho : o1 < N) (hw : w1 < N) (ho2 : o2 < N) (hw2 : w2 < N) (h1 : ce o1 = .inr (2, [.ref (mx_B G + w1), .int (iI A1), .int (iI S1)])) (h2 : ce w1 = aI G n f1) (h3 : ce o2 = .inr (2, [.ref (mx_B G + w2), .int (iI A2), .int (iI S2)])) (h4 : ce w2 = aI G n f2) (hn : n ≤ 1000) (hb1 : ∀ j, j < n → 0 ≤ f1 j ∧ f1 j ≤ 1000000) (hb2 : ∀ j, j < n → 0 ≤ f2 j ∧ f2 j ≤ 1000000)
    (q : Q (.inl (some (.int (iI (mxTo (fun j => f1 j + f2 j) n))))) N ce bc bs) : mx_M G Y_D_greatestSumWith d bc bs ex N ce 0 [(0, .ref (mx_B G + o1)), (1, .ref (mx_B G + o2))] [] Q := by
  refine mx_iconst (n := 0) (mx_d D_D_greatestSumWith 0 rfl) ?_
  refine mx_istore_n (k4 := 2) (mx_d D_D_greatestSumWith 1 rfl) (by decide) ?_
  refine mx_iconst (n := 0) (mx_d D_D_greatestSumWith 2 rfl) ?_
  refine mx_istore_n (k4 := 3) (mx_d D_D_greatestSumWith 3 rfl) (by decide) ?_
  suffices H : ∀ k i : Nat, i + k = n → mx_M G Y_D_greatestSumWith d bc bs ex N ce 4 [(0, .ref (mx_B G + o1)), (1, .ref (mx_B G + o2)), (2, .int (iI (mxTo (fun j => f1 j + f2 j) i))), (3, .int (iI i))] [] Q from mx_loc (by rfl) (H n 0 (by omega))
  intro k
  induction k with
  | zero =>
    intro i hi
    obtain rfl : i = n := by omega
    refine mx_iload_n (k4 := 3) (mx_d D_D_greatestSumWith 4 rfl) (by rfl) ?_
    refine mx_aload_n (k4 := 0) (mx_d D_D_greatestSumWith 5 rfl) (by rfl) ?_
    refine mx_getf hG (idx := 7) (ci := 2) (kf := 0) (mx_d D_D_greatestSumWith 6 rfl) (by rfl) cls_D (by decide) w_60 (by first | assumption | omega) (by first | assumption | exact va_up_self _ _ _ | (rw [va_up_ne _ _ (by omega)]; first | assumption | exact va_up_self _ _ _ | (rw [va_up_ne _ _ (by omega)]; first | assumption | exact va_up_self _ _ _ | (rw [va_up_ne _ _ (by omega)]; first | assumption | exact va_up_self _ _ _ | (rw [va_up_ne _ _ (by omega)]; first | assumption | exact va_up_self _ _ _ | (rw [va_up_ne _ _ (by omega)]; first | assumption | exact va_up_self _ _ _)))))) (by rfl) ?_
    refine mx_alen hG 0 (mx_d D_D_greatestSumWith 7 rfl) (by first | assumption | omega) (by first | assumption | exact va_up_self _ _ _ | (rw [va_up_ne _ _ (by omega)]; first | assumption | exact va_up_self _ _ _ | (rw [va_up_ne _ _ (by omega)]; first | assumption | exact va_up_self _ _ _ | (rw [va_up_ne _ _ (by omega)]; first | assumption | exact va_up_self _ _ _ | (rw [va_up_ne _ _ (by omega)]; first | assumption | exact va_up_self _ _ _ | (rw [va_up_ne _ _ (by omega)]; first | assumption | exact va_up_self _ _ _)))))) (by rfl) ?_
    refine mx_icmp_geY 37 (mx_d D_D_greatestSumWith 8 rfl) (by decide) (by omega) (by omega) (by omega) (by omega) (by omega) ?_
    refine mx_iload_n (k4 := 2) (mx_d D_D_greatestSumWith 23 rfl) (by rfl) ?_
    refine mx_iret (by rfl) (mx_d D_D_greatestSumWith 24 rfl) ?_
    exact q
  | succ k ih =>
    intro i hi
    have b0 := mxTo_bd (f := fun j => f1 j + f2 j) (n := i) (M := 2000000) (by omega) (fun j hj => by have := hb1 j (by omega); have := hb2 j (by omega); exact ⟨by omega, by omega⟩)
    have b1 := hb1 i (by omega)
    have b2 := hb2 i (by omega)
    refine mx_iload_n (k4 := 3) (mx_d D_D_greatestSumWith 4 rfl) (by rfl) ?_
    refine mx_aload_n (k4 := 0) (mx_d D_D_greatestSumWith 5 rfl) (by rfl) ?_
    refine mx_getf hG (idx := 7) (ci := 2) (kf := 0) (mx_d D_D_greatestSumWith 6 rfl) (by rfl) cls_D (by decide) w_60 (by first | assumption | omega) (by first | assumption | exact va_up_self _ _ _ | (rw [va_up_ne _ _ (by omega)]; first | assumption | exact va_up_self _ _ _ | (rw [va_up_ne _ _ (by omega)]; first | assumption | exact va_up_self _ _ _ | (rw [va_up_ne _ _ (by omega)]; first | assumption | exact va_up_self _ _ _ | (rw [va_up_ne _ _ (by omega)]; first | assumption | exact va_up_self _ _ _ | (rw [va_up_ne _ _ (by omega)]; first | assumption | exact va_up_self _ _ _)))))) (by rfl) ?_
    refine mx_alen hG 0 (mx_d D_D_greatestSumWith 7 rfl) (by first | assumption | omega) (by first | assumption | exact va_up_self _ _ _ | (rw [va_up_ne _ _ (by omega)]; first | assumption | exact va_up_self _ _ _ | (rw [va_up_ne _ _ (by omega)]; first | assumption | exact va_up_self _ _ _ | (rw [va_up_ne _ _ (by omega)]; first | assumption | exact va_up_self _ _ _ | (rw [va_up_ne _ _ (by omega)]; first | assumption | exact va_up_self _ _ _ | (rw [va_up_ne _ _ (by omega)]; first | assumption | exact va_up_self _ _ _)))))) (by rfl) ?_
    refine mx_icmp_geN 37 (mx_d D_D_greatestSumWith 8 rfl) (by decide) (by omega) (by omega) (by omega) (by omega) (by omega) ?_
    refine mx_iload_n (k4 := 2) (mx_d D_D_greatestSumWith 9 rfl) (by rfl) ?_
    refine mx_aload_n (k4 := 0) (mx_d D_D_greatestSumWith 10 rfl) (by rfl) ?_
    refine mx_getf hG (idx := 7) (ci := 2) (kf := 0) (mx_d D_D_greatestSumWith 11 rfl) (by rfl) cls_D (by decide) w_60 (by first | assumption | omega) (by first | assumption | exact va_up_self _ _ _ | (rw [va_up_ne _ _ (by omega)]; first | assumption | exact va_up_self _ _ _ | (rw [va_up_ne _ _ (by omega)]; first | assumption | exact va_up_self _ _ _ | (rw [va_up_ne _ _ (by omega)]; first | assumption | exact va_up_self _ _ _ | (rw [va_up_ne _ _ (by omega)]; first | assumption | exact va_up_self _ _ _ | (rw [va_up_ne _ _ (by omega)]; first | assumption | exact va_up_self _ _ _)))))) (by rfl) ?_
    refine mx_iload_n (k4 := 3) (mx_d D_D_greatestSumWith 12 rfl) (by rfl) ?_
    refine mx_ialdI hG _ (mx_d D_D_greatestSumWith 13 rfl) (by first | assumption | omega) (by first | assumption | exact va_up_self _ _ _ | (rw [va_up_ne _ _ (by omega)]; first | assumption | exact va_up_self _ _ _ | (rw [va_up_ne _ _ (by omega)]; first | assumption | exact va_up_self _ _ _ | (rw [va_up_ne _ _ (by omega)]; first | assumption | exact va_up_self _ _ _ | (rw [va_up_ne _ _ (by omega)]; first | assumption | exact va_up_self _ _ _ | (rw [va_up_ne _ _ (by omega)]; first | assumption | exact va_up_self _ _ _)))))) (by rfl) (by omega) (by omega) ?_
    refine mx_aload_n (k4 := 1) (mx_d D_D_greatestSumWith 14 rfl) (by rfl) ?_
    refine mx_getf hG (idx := 7) (ci := 2) (kf := 0) (mx_d D_D_greatestSumWith 15 rfl) (by rfl) cls_D (by decide) w_60 (by first | assumption | omega) (by first | assumption | exact va_up_self _ _ _ | (rw [va_up_ne _ _ (by omega)]; first | assumption | exact va_up_self _ _ _ | (rw [va_up_ne _ _ (by omega)]; first | assumption | exact va_up_self _ _ _ | (rw [va_up_ne _ _ (by omega)]; first | assumption | exact va_up_self _ _ _ | (rw [va_up_ne _ _ (by omega)]; first | assumption | exact va_up_self _ _ _ | (rw [va_up_ne _ _ (by omega)]; first | assumption | exact va_up_self _ _ _)))))) (by rfl) ?_
    refine mx_iload_n (k4 := 3) (mx_d D_D_greatestSumWith 16 rfl) (by rfl) ?_
    refine mx_ialdI hG _ (mx_d D_D_greatestSumWith 17 rfl) (by first | assumption | omega) (by first | assumption | exact va_up_self _ _ _ | (rw [va_up_ne _ _ (by omega)]; first | assumption | exact va_up_self _ _ _ | (rw [va_up_ne _ _ (by omega)]; first | assumption | exact va_up_self _ _ _ | (rw [va_up_ne _ _ (by omega)]; first | assumption | exact va_up_self _ _ _ | (rw [va_up_ne _ _ (by omega)]; first | assumption | exact va_up_self _ _ _ | (rw [va_up_ne _ _ (by omega)]; first | assumption | exact va_up_self _ _ _)))))) (by rfl) (by omega) (by omega) ?_
    refine mx_iaddI (mx_d D_D_greatestSumWith 18 rfl) ?_
    refine mx_mmaxI (mx_d D_D_greatestSumWith 19 rfl) w_455 w_29 w_2 w_mmaxcode (by exact Nat.le_of_ble_eq_true rfl) (by omega) (by omega) (by omega) (by omega) ?_
    refine mx_istore_n (k4 := 2) (mx_d D_D_greatestSumWith 20 rfl) (by decide) ?_
    refine mx_iincI (i := 3) (n := 1) (mx_d D_D_greatestSumWith 21 rfl) (by rfl) (by decide) ?_
    refine mx_goto 4 (mx_d D_D_greatestSumWith 22 rfl) (by decide) ?_
    exact mx_loc (by rfl) (ih (i + 1) (by omega))
theorem c_D_sum (hG : mx_ok G) (ho : o < N) (hw : w < N) (ho1 : o1 < N) (hw1 : w1 < N) (ho2 : o2 < N) (hw2 : w2 < N) (h0 : ce o = .inr (2, [.ref (mx_B G + w), .int (iI A), .int (iI S)])) (h1 : ce o1 = .inr (2, [.ref (mx_B G + w1), .int (iI A1), .int (iI S1)])) (h2 : ce w1 = aI G n f1) (h3 : ce o2 = .inr (2, [.ref (mx_B G + w2), .int (iI A2), .int (iI S2)])) (h4 : ce w2 = aI G n f2) (h5 : ce w = aI G n f) (hn : n ≤ 1000) (e1 : o ≠ w) (e2 : o1 ≠ w) (e3 : o2 ≠ w) (e4 : w1 ≠ w) (e5 : w2 ≠ w)
    (q : ∀ h : Nat → Int, (∀ j, j < n → h j = f1 j + f2 j) → Q (.inl none) N (va_up ce w (aI G n h)) bc bs) : mx_M G Y_D_becomeSum d bc bs ex N ce 0 [(0, .ref (mx_B G + o)), (1, .ref (mx_B G + o1)), (2, .ref (mx_B G + o2))] [] Q := by
  refine mx_iconst (n := 0) (mx_d D_D_becomeSum 0 rfl) ?_
  refine mx_istore_n (k4 := 3) (mx_d D_D_becomeSum 1 rfl) (by decide) ?_
  suffices H : ∀ (k i : Nat) (h : Nat → Int), i + k = n → (∀ j, j < i → h j = f1 j + f2 j) → mx_M G Y_D_becomeSum d bc bs ex N (va_up ce w (aI G n h)) 2 [(0, .ref (mx_B G + o)), (1, .ref (mx_B G + o1)), (2, .ref (mx_B G + o2)), (3, .int (iI i))] [] Q by
    have H0 := H n 0 f (by omega) (fun j hj => absurd hj (by omega))
    rw [va_up_id ce w h5] at H0
    exact mx_loc (by rfl) H0
  intro k
  induction k with
  | zero =>
    intro i h hi hh
    obtain rfl : i = n := by omega
    refine mx_iload_n (k4 := 3) (mx_d D_D_becomeSum 2 rfl) (by rfl) ?_
    refine mx_aload_n (k4 := 0) (mx_d D_D_becomeSum 3 rfl) (by rfl) ?_
    refine mx_getf hG (idx := 7) (ci := 2) (kf := 0) (mx_d D_D_becomeSum 4 rfl) (by rfl) cls_D (by decide) w_60 (by first | assumption | omega) (by first | assumption | exact va_up_self _ _ _ | (rw [va_up_ne _ _ (by omega)]; first | assumption | exact va_up_self _ _ _ | (rw [va_up_ne _ _ (by omega)]; first | assumption | exact va_up_self _ _ _ | (rw [va_up_ne _ _ (by omega)]; first | assumption | exact va_up_self _ _ _ | (rw [va_up_ne _ _ (by omega)]; first | assumption | exact va_up_self _ _ _ | (rw [va_up_ne _ _ (by omega)]; first | assumption | exact va_up_self _ _ _)))))) (by rfl) ?_
    refine mx_alen hG 0 (mx_d D_D_becomeSum 5 rfl) (by first | assumption | omega) (by first | assumption | exact va_up_self _ _ _ | (rw [va_up_ne _ _ (by omega)]; first | assumption | exact va_up_self _ _ _ | (rw [va_up_ne _ _ (by omega)]; first | assumption | exact va_up_self _ _ _ | (rw [va_up_ne _ _ (by omega)]; first | assumption | exact va_up_self _ _ _ | (rw [va_up_ne _ _ (by omega)]; first | assumption | exact va_up_self _ _ _ | (rw [va_up_ne _ _ (by omega)]; first | assumption | exact va_up_self _ _ _)))))) (by rfl) ?_
    refine mx_icmp_geY 36 (mx_d D_D_becomeSum 6 rfl) (by decide) (by omega) (by omega) (by omega) (by omega) (by omega) ?_
    refine mx_vret (by rfl) (mx_d D_D_becomeSum 22 rfl) ?_
    exact q h hh
  | succ k ih =>
    intro i h hi hh
    refine mx_iload_n (k4 := 3) (mx_d D_D_becomeSum 2 rfl) (by rfl) ?_
    refine mx_aload_n (k4 := 0) (mx_d D_D_becomeSum 3 rfl) (by rfl) ?_
    refine mx_getf hG (idx := 7) (ci := 2) (kf := 0) (mx_d D_D_becomeSum 4 rfl) (by rfl) cls_D (by decide) w_60 (by first | assumption | omega) (by first | assumption | exact va_up_self _ _ _ | (rw [va_up_ne _ _ (by omega)]; first | assumption | exact va_up_self _ _ _ | (rw [va_up_ne _ _ (by omega)]; first | assumption | exact va_up_self _ _ _ | (rw [va_up_ne _ _ (by omega)]; first | assumption | exact va_up_self _ _ _ | (rw [va_up_ne _ _ (by omega)]; first | assumption | exact va_up_self _ _ _ | (rw [va_up_ne _ _ (by omega)]; first | assumption | exact va_up_self _ _ _)))))) (by rfl) ?_
    refine mx_alen hG 0 (mx_d D_D_becomeSum 5 rfl) (by first | assumption | omega) (by first | assumption | exact va_up_self _ _ _ | (rw [va_up_ne _ _ (by omega)]; first | assumption | exact va_up_self _ _ _ | (rw [va_up_ne _ _ (by omega)]; first | assumption | exact va_up_self _ _ _ | (rw [va_up_ne _ _ (by omega)]; first | assumption | exact va_up_self _ _ _ | (rw [va_up_ne _ _ (by omega)]; first | assumption | exact va_up_self _ _ _ | (rw [va_up_ne _ _ (by omega)]; first | assumption | exact va_up_self _ _ _)))))) (by rfl) ?_
    refine mx_icmp_geN 36 (mx_d D_D_becomeSum 6 rfl) (by decide) (by omega) (by omega) (by omega) (by omega) (by omega) ?_
    refine mx_aload_n (k4 := 0) (mx_d D_D_becomeSum 7 rfl) (by rfl) ?_
    refine mx_getf hG (idx := 7) (ci := 2) (kf := 0) (mx_d D_D_becomeSum 8 rfl) (by rfl) cls_D (by decide) w_60 (by first | assumption | omega) (by first | assumption | exact va_up_self _ _ _ | (rw [va_up_ne _ _ (by omega)]; first | assumption | exact va_up_self _ _ _ | (rw [va_up_ne _ _ (by omega)]; first | assumption | exact va_up_self _ _ _ | (rw [va_up_ne _ _ (by omega)]; first | assumption | exact va_up_self _ _ _ | (rw [va_up_ne _ _ (by omega)]; first | assumption | exact va_up_self _ _ _ | (rw [va_up_ne _ _ (by omega)]; first | assumption | exact va_up_self _ _ _)))))) (by rfl) ?_
    refine mx_iload_n (k4 := 3) (mx_d D_D_becomeSum 9 rfl) (by rfl) ?_
    refine mx_aload_n (k4 := 1) (mx_d D_D_becomeSum 10 rfl) (by rfl) ?_
    refine mx_getf hG (idx := 7) (ci := 2) (kf := 0) (mx_d D_D_becomeSum 11 rfl) (by rfl) cls_D (by decide) w_60 (by first | assumption | omega) (by first | assumption | exact va_up_self _ _ _ | (rw [va_up_ne _ _ (by omega)]; first | assumption | exact va_up_self _ _ _ | (rw [va_up_ne _ _ (by omega)]; first | assumption | exact va_up_self _ _ _ | (rw [va_up_ne _ _ (by omega)]; first | assumption | exact va_up_self _ _ _ | (rw [va_up_ne _ _ (by omega)]; first | assumption | exact va_up_self _ _ _ | (rw [va_up_ne _ _ (by omega)]; first | assumption | exact va_up_self _ _ _)))))) (by rfl) ?_
    refine mx_iload_n (k4 := 3) (mx_d D_D_becomeSum 12 rfl) (by rfl) ?_
    refine mx_ialdI hG _ (mx_d D_D_becomeSum 13 rfl) (by first | assumption | omega) (by first | assumption | exact va_up_self _ _ _ | (rw [va_up_ne _ _ (by omega)]; first | assumption | exact va_up_self _ _ _ | (rw [va_up_ne _ _ (by omega)]; first | assumption | exact va_up_self _ _ _ | (rw [va_up_ne _ _ (by omega)]; first | assumption | exact va_up_self _ _ _ | (rw [va_up_ne _ _ (by omega)]; first | assumption | exact va_up_self _ _ _ | (rw [va_up_ne _ _ (by omega)]; first | assumption | exact va_up_self _ _ _)))))) (by rfl) (by omega) (by omega) ?_
    refine mx_aload_n (k4 := 2) (mx_d D_D_becomeSum 14 rfl) (by rfl) ?_
    refine mx_getf hG (idx := 7) (ci := 2) (kf := 0) (mx_d D_D_becomeSum 15 rfl) (by rfl) cls_D (by decide) w_60 (by first | assumption | omega) (by first | assumption | exact va_up_self _ _ _ | (rw [va_up_ne _ _ (by omega)]; first | assumption | exact va_up_self _ _ _ | (rw [va_up_ne _ _ (by omega)]; first | assumption | exact va_up_self _ _ _ | (rw [va_up_ne _ _ (by omega)]; first | assumption | exact va_up_self _ _ _ | (rw [va_up_ne _ _ (by omega)]; first | assumption | exact va_up_self _ _ _ | (rw [va_up_ne _ _ (by omega)]; first | assumption | exact va_up_self _ _ _)))))) (by rfl) ?_
    refine mx_iload_n (k4 := 3) (mx_d D_D_becomeSum 16 rfl) (by rfl) ?_
    refine mx_ialdI hG _ (mx_d D_D_becomeSum 17 rfl) (by first | assumption | omega) (by first | assumption | exact va_up_self _ _ _ | (rw [va_up_ne _ _ (by omega)]; first | assumption | exact va_up_self _ _ _ | (rw [va_up_ne _ _ (by omega)]; first | assumption | exact va_up_self _ _ _ | (rw [va_up_ne _ _ (by omega)]; first | assumption | exact va_up_self _ _ _ | (rw [va_up_ne _ _ (by omega)]; first | assumption | exact va_up_self _ _ _ | (rw [va_up_ne _ _ (by omega)]; first | assumption | exact va_up_self _ _ _)))))) (by rfl) (by omega) (by omega) ?_
    refine mx_iaddI (mx_d D_D_becomeSum 18 rfl) ?_
    refine mx_iastI hG _ _ (mx_d D_D_becomeSum 19 rfl) (by first | assumption | omega) (by first | assumption | exact va_up_self _ _ _ | (rw [va_up_ne _ _ (by omega)]; first | assumption | exact va_up_self _ _ _ | (rw [va_up_ne _ _ (by omega)]; first | assumption | exact va_up_self _ _ _ | (rw [va_up_ne _ _ (by omega)]; first | assumption | exact va_up_self _ _ _ | (rw [va_up_ne _ _ (by omega)]; first | assumption | exact va_up_self _ _ _ | (rw [va_up_ne _ _ (by omega)]; first | assumption | exact va_up_self _ _ _)))))) (by rfl) (by rfl) (by omega) (by omega) ?_
    refine mx_iincI (i := 3) (n := 1) (mx_d D_D_becomeSum 20 rfl) (by rfl) (by decide) ?_
    refine mx_goto 2 (mx_d D_D_becomeSum 21 rfl) (by decide) ?_
    rw [bx_uu]
    refine mx_loc (by rfl) (ih (i + 1) _ (by omega) (fun j hj => ?_))
    by_cases hji : j = i
    · subst hji; rw [va_up_self]
    · rw [va_up_ne _ _ hji]; exact hh j (by omega)
theorem c_D_mix (hG : mx_ok G) (ho : o < N) (hw : w < N) (ho1 : o1 < N) (hw1 : w1 < N) (ho2 : o2 < N) (hw2 : w2 < N) (h0 : ce o = .inr (2, [.ref (mx_B G + w), .int (iI A), .int (iI S)])) (h1 : ce o1 = .inr (2, [.ref (mx_B G + w1), .int (iI A1), .int (iI S1)])) (h2 : ce w1 = aI G n f1) (h3 : ce o2 = .inr (2, [.ref (mx_B G + w2), .int (iI A2), .int (iI S2)])) (h4 : ce w2 = aI G n f2) (h5 : ce w = aI G n f) (hn : n ≤ 1000) (e1 : o ≠ w) (e2 : o1 ≠ w) (e3 : o2 ≠ w) (e4 : w1 ≠ w) (e5 : w2 ≠ w) {u v : Int} (hu : 0 ≤ u) (huv : u ≤ v) (hv1 : 1 ≤ v) (hv : v ≤ 1000) (hb1 : ∀ j, j < n → 0 ≤ f1 j ∧ f1 j ≤ 1000000) (hb2 : ∀ j, j < n → 0 ≤ f2 j ∧ f2 j ≤ 1000000)
    (q : ∀ h : Nat → Int, (∀ j, j < n → h j = (u * f1 j + (v - u) * f2 j) / v) → Q (.inl none) N (va_up ce w (aI G n h)) bc bs) : mx_M G Y_D_becomeMixture d bc bs ex N ce 0 [(0, .ref (mx_B G + o)), (1, .ref (mx_B G + o1)), (2, .ref (mx_B G + o2)), (3, .int (iI u)), (4, .int (iI v))] [] Q := by
  refine mx_iconst (n := 0) (mx_d D_D_becomeMixture 0 rfl) ?_
  refine mx_istore (i := 5) (mx_d D_D_becomeMixture 1 rfl) (by decide) ?_
  suffices H : ∀ (k i : Nat) (h : Nat → Int), i + k = n → (∀ j, j < i → h j = (u * f1 j + (v - u) * f2 j) / v) → mx_M G Y_D_becomeMixture d bc bs ex N (va_up ce w (aI G n h)) 3 [(0, .ref (mx_B G + o)), (1, .ref (mx_B G + o1)), (2, .ref (mx_B G + o2)), (3, .int (iI u)), (4, .int (iI v)), (5, .int (iI i))] [] Q by
    have H0 := H n 0 f (by omega) (fun j hj => absurd hj (by omega))
    rw [va_up_id ce w h5] at H0
    exact mx_loc (by rfl) H0
  intro k
  induction k with
  | zero =>
    intro i h hi hh
    obtain rfl : i = n := by omega
    refine mx_iload (i := 5) (mx_d D_D_becomeMixture 2 rfl) (by rfl) ?_
    refine mx_aload_n (k4 := 0) (mx_d D_D_becomeMixture 3 rfl) (by rfl) ?_
    refine mx_getf hG (idx := 7) (ci := 2) (kf := 0) (mx_d D_D_becomeMixture 4 rfl) (by rfl) cls_D (by decide) w_60 (by first | assumption | omega) (by first | assumption | exact va_up_self _ _ _ | (rw [va_up_ne _ _ (by omega)]; first | assumption | exact va_up_self _ _ _ | (rw [va_up_ne _ _ (by omega)]; first | assumption | exact va_up_self _ _ _ | (rw [va_up_ne _ _ (by omega)]; first | assumption | exact va_up_self _ _ _ | (rw [va_up_ne _ _ (by omega)]; first | assumption | exact va_up_self _ _ _ | (rw [va_up_ne _ _ (by omega)]; first | assumption | exact va_up_self _ _ _)))))) (by rfl) ?_
    refine mx_alen hG 0 (mx_d D_D_becomeMixture 5 rfl) (by first | assumption | omega) (by first | assumption | exact va_up_self _ _ _ | (rw [va_up_ne _ _ (by omega)]; first | assumption | exact va_up_self _ _ _ | (rw [va_up_ne _ _ (by omega)]; first | assumption | exact va_up_self _ _ _ | (rw [va_up_ne _ _ (by omega)]; first | assumption | exact va_up_self _ _ _ | (rw [va_up_ne _ _ (by omega)]; first | assumption | exact va_up_self _ _ _ | (rw [va_up_ne _ _ (by omega)]; first | assumption | exact va_up_self _ _ _)))))) (by rfl) ?_
    refine mx_icmp_geY 61 (mx_d D_D_becomeMixture 6 rfl) (by decide) (by omega) (by omega) (by omega) (by omega) (by omega) ?_
    refine mx_vret (by rfl) (mx_d D_D_becomeMixture 38 rfl) ?_
    exact q h hh
  | succ k ih =>
    intro i h hi hh
    have b1 := hb1 i (by omega)
    have b2 := hb2 i (by omega)
    have c1 : 0 ≤ u * f1 i := Int.mul_nonneg hu b1.1
    have c2 : u * f1 i ≤ 1000 * 1000000 := Int.mul_le_mul (by omega) b1.2 b1.1 (by omega)
    have c3 : 0 ≤ (v - u) * f2 i := Int.mul_nonneg (by omega) b2.1
    have c4 : (v - u) * f2 i ≤ 1000 * 1000000 := Int.mul_le_mul (by omega) b2.2 b2.1 (by omega)
    refine mx_iload (i := 5) (mx_d D_D_becomeMixture 2 rfl) (by rfl) ?_
    refine mx_aload_n (k4 := 0) (mx_d D_D_becomeMixture 3 rfl) (by rfl) ?_
    refine mx_getf hG (idx := 7) (ci := 2) (kf := 0) (mx_d D_D_becomeMixture 4 rfl) (by rfl) cls_D (by decide) w_60 (by first | assumption | omega) (by first | assumption | exact va_up_self _ _ _ | (rw [va_up_ne _ _ (by omega)]; first | assumption | exact va_up_self _ _ _ | (rw [va_up_ne _ _ (by omega)]; first | assumption | exact va_up_self _ _ _ | (rw [va_up_ne _ _ (by omega)]; first | assumption | exact va_up_self _ _ _ | (rw [va_up_ne _ _ (by omega)]; first | assumption | exact va_up_self _ _ _ | (rw [va_up_ne _ _ (by omega)]; first | assumption | exact va_up_self _ _ _)))))) (by rfl) ?_
    refine mx_alen hG 0 (mx_d D_D_becomeMixture 5 rfl) (by first | assumption | omega) (by first | assumption | exact va_up_self _ _ _ | (rw [va_up_ne _ _ (by omega)]; first | assumption | exact va_up_self _ _ _ | (rw [va_up_ne _ _ (by omega)]; first | assumption | exact va_up_self _ _ _ | (rw [va_up_ne _ _ (by omega)]; first | assumption | exact va_up_self _ _ _ | (rw [va_up_ne _ _ (by omega)]; first | assumption | exact va_up_self _ _ _ | (rw [va_up_ne _ _ (by omega)]; first | assumption | exact va_up_self _ _ _)))))) (by rfl) ?_
    refine mx_icmp_geN 61 (mx_d D_D_becomeMixture 6 rfl) (by decide) (by omega) (by omega) (by omega) (by omega) (by omega) ?_
    refine mx_iload_n (k4 := 3) (mx_d D_D_becomeMixture 7 rfl) (by rfl) ?_
    refine mx_i2lI (mx_d D_D_becomeMixture 8 rfl) (by omega) (by omega) ?_
    refine mx_aload_n (k4 := 1) (mx_d D_D_becomeMixture 9 rfl) (by rfl) ?_
    refine mx_getf hG (idx := 7) (ci := 2) (kf := 0) (mx_d D_D_becomeMixture 10 rfl) (by rfl) cls_D (by decide) w_60 (by first | assumption | omega) (by first | assumption | exact va_up_self _ _ _ | (rw [va_up_ne _ _ (by omega)]; first | assumption | exact va_up_self _ _ _ | (rw [va_up_ne _ _ (by omega)]; first | assumption | exact va_up_self _ _ _ | (rw [va_up_ne _ _ (by omega)]; first | assumption | exact va_up_self _ _ _ | (rw [va_up_ne _ _ (by omega)]; first | assumption | exact va_up_self _ _ _ | (rw [va_up_ne _ _ (by omega)]; first | assumption | exact va_up_self _ _ _)))))) (by rfl) ?_
    refine mx_iload (i := 5) (mx_d D_D_becomeMixture 11 rfl) (by rfl) ?_
    refine mx_ialdI hG _ (mx_d D_D_becomeMixture 12 rfl) (by first | assumption | omega) (by first | assumption | exact va_up_self _ _ _ | (rw [va_up_ne _ _ (by omega)]; first | assumption | exact va_up_self _ _ _ | (rw [va_up_ne _ _ (by omega)]; first | assumption | exact va_up_self _ _ _ | (rw [va_up_ne _ _ (by omega)]; first | assumption | exact va_up_self _ _ _ | (rw [va_up_ne _ _ (by omega)]; first | assumption | exact va_up_self _ _ _ | (rw [va_up_ne _ _ (by omega)]; first | assumption | exact va_up_self _ _ _)))))) (by rfl) (by omega) (by omega) ?_
    refine mx_i2lI (mx_d D_D_becomeMixture 13 rfl) (by omega) (by omega) ?_
    refine mx_lmulI (mx_d D_D_becomeMixture 14 rfl) ?_
    refine mx_iload (i := 4) (mx_d D_D_becomeMixture 15 rfl) (by rfl) ?_
    refine mx_iload_n (k4 := 3) (mx_d D_D_becomeMixture 16 rfl) (by rfl) ?_
    refine mx_isubI (mx_d D_D_becomeMixture 17 rfl) ?_
    refine mx_i2lI (mx_d D_D_becomeMixture 18 rfl) (by omega) (by omega) ?_
    refine mx_aload_n (k4 := 2) (mx_d D_D_becomeMixture 19 rfl) (by rfl) ?_
    refine mx_getf hG (idx := 7) (ci := 2) (kf := 0) (mx_d D_D_becomeMixture 20 rfl) (by rfl) cls_D (by decide) w_60 (by first | assumption | omega) (by first | assumption | exact va_up_self _ _ _ | (rw [va_up_ne _ _ (by omega)]; first | assumption | exact va_up_self _ _ _ | (rw [va_up_ne _ _ (by omega)]; first | assumption | exact va_up_self _ _ _ | (rw [va_up_ne _ _ (by omega)]; first | assumption | exact va_up_self _ _ _ | (rw [va_up_ne _ _ (by omega)]; first | assumption | exact va_up_self _ _ _ | (rw [va_up_ne _ _ (by omega)]; first | assumption | exact va_up_self _ _ _)))))) (by rfl) ?_
    refine mx_iload (i := 5) (mx_d D_D_becomeMixture 21 rfl) (by rfl) ?_
    refine mx_ialdI hG _ (mx_d D_D_becomeMixture 22 rfl) (by first | assumption | omega) (by first | assumption | exact va_up_self _ _ _ | (rw [va_up_ne _ _ (by omega)]; first | assumption | exact va_up_self _ _ _ | (rw [va_up_ne _ _ (by omega)]; first | assumption | exact va_up_self _ _ _ | (rw [va_up_ne _ _ (by omega)]; first | assumption | exact va_up_self _ _ _ | (rw [va_up_ne _ _ (by omega)]; first | assumption | exact va_up_self _ _ _ | (rw [va_up_ne _ _ (by omega)]; first | assumption | exact va_up_self _ _ _)))))) (by rfl) (by omega) (by omega) ?_
    refine mx_i2lI (mx_d D_D_becomeMixture 23 rfl) (by omega) (by omega) ?_
    refine mx_lmulI (mx_d D_D_becomeMixture 24 rfl) ?_
    refine mx_laddI (mx_d D_D_becomeMixture 25 rfl) ?_
    refine mx_lstore (i := 6) (mx_d D_D_becomeMixture 26 rfl) (by decide) ?_
    refine mx_aload_n (k4 := 0) (mx_d D_D_becomeMixture 27 rfl) (by rfl) ?_
    refine mx_getf hG (idx := 7) (ci := 2) (kf := 0) (mx_d D_D_becomeMixture 28 rfl) (by rfl) cls_D (by decide) w_60 (by first | assumption | omega) (by first | assumption | exact va_up_self _ _ _ | (rw [va_up_ne _ _ (by omega)]; first | assumption | exact va_up_self _ _ _ | (rw [va_up_ne _ _ (by omega)]; first | assumption | exact va_up_self _ _ _ | (rw [va_up_ne _ _ (by omega)]; first | assumption | exact va_up_self _ _ _ | (rw [va_up_ne _ _ (by omega)]; first | assumption | exact va_up_self _ _ _ | (rw [va_up_ne _ _ (by omega)]; first | assumption | exact va_up_self _ _ _)))))) (by rfl) ?_
    refine mx_iload (i := 5) (mx_d D_D_becomeMixture 29 rfl) (by rfl) ?_
    refine mx_lload (i := 6) (mx_d D_D_becomeMixture 30 rfl) (by rfl) ?_
    refine mx_iload (i := 4) (mx_d D_D_becomeMixture 31 rfl) (by rfl) ?_
    refine mx_i2lI (mx_d D_D_becomeMixture 32 rfl) (by omega) (by omega) ?_
    refine mx_ldivI (mx_d D_D_becomeMixture 33 rfl) (by omega) (by omega) (by omega) (by omega) ?_
    refine mx_l2iI (mx_d D_D_becomeMixture 34 rfl) ?_
    refine mx_iastI hG _ _ (mx_d D_D_becomeMixture 35 rfl) (by first | assumption | omega) (by first | assumption | exact va_up_self _ _ _ | (rw [va_up_ne _ _ (by omega)]; first | assumption | exact va_up_self _ _ _ | (rw [va_up_ne _ _ (by omega)]; first | assumption | exact va_up_self _ _ _ | (rw [va_up_ne _ _ (by omega)]; first | assumption | exact va_up_self _ _ _ | (rw [va_up_ne _ _ (by omega)]; first | assumption | exact va_up_self _ _ _ | (rw [va_up_ne _ _ (by omega)]; first | assumption | exact va_up_self _ _ _)))))) (by rfl) (by rfl) (by omega) (by omega) ?_
    refine mx_iincI (i := 5) (n := 1) (mx_d D_D_becomeMixture 36 rfl) (by rfl) (by decide) ?_
    refine mx_goto 3 (mx_d D_D_becomeMixture 37 rfl) (by decide) ?_
    rw [bx_uu]
    refine mx_loc (by rfl) (ih (i + 1) _ (by omega) (fun j hj => ?_))
    by_cases hji : j = i
    · subst hji; rw [va_up_self]
    · rw [va_up_ne _ _ hji]; exact hh j (by omega)
end DA
