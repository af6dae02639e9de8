/-! DateRow, Pad -/
abbrev aQ (G : mx_G) (t n : Nat) (f : Nat → Nat) : va_E := .inl (G.2.2.2 t, n, .inr (.inr (.inr (.inr (fun j => if j < n then some (mx_B G + f j) else none)))))
def slTo (Y : Nat) (dW : Nat → Nat → Int) (rn rg : Nat → Nat) (y : Nat) : Nat → Int
  | 0 => 0
  | n + 1 => slTo Y dW rn rg y n + (if y + rg n < Y then dW (rn n) (y + rg n) else 0)
theorem slTo_bd {Y : Nat} {dW : Nat → Nat → Int} {rn rg : Nat → Nat} {y : Nat} (hb : ∀ d, d < 12 → ∀ y, y < Y → 0 ≤ dW d y ∧ dW d y ≤ 1000000) {n : Nat} (hr : ∀ i, i < n → rn i < 12) : 0 ≤ slTo Y dW rn rg y n ∧ slTo Y dW rn rg y n ≤ n * 1000000 := by
  induction n with
  | zero => simp [slTo]
  | succ n ih =>
    have h1 := ih (fun i hi => hr i (by omega))
    have h2 := hb (rn n) (hr n (by omega)) (y + rg n)
    simp only [slTo]
    split
    · have := h2 (by assumption); omega
    · omega
section DR
variable {G : mx_G} {d bc bs : Nat} {ex : Bool} {N : Nat} {ce : Nat → va_E} {Q : mx_P} {o a g n c : Nat} {rn rg : Nat → Nat}
theorem c_R_init (hG : mx_ok G) (ho : o < N) (h1 : ce o = .inr (4, [.null, .null, .int 0]))
    (q : ∀ ce', (∀ k, k ≠ o → k < N → ce' k = ce k) → ce' o = .inr (4, [.ref (mx_B G + N), .ref (mx_B G + (N + 1)), .int (iI 0)]) → ce' N = aI G 8 (fun _ => 0) → ce' (N + 1) = aI G 8 (fun _ => 0) → Q (.inl none) (N + 2) ce' bc bs) : mx_M G Y_R_init d (bc + 2) (bs + 8 + 8) true N ce 0 [(0, .ref (mx_B G + o))] [] Q := by
  refine mx_aload_n (k4 := 0) (mx_d D_R_init 0 rfl) (by rfl) ?_
  refine mx_objInit (mx_d D_R_init 1 rfl) w_102 w_23 w_objcode (by exact Nat.le_of_ble_eq_true rfl) ?_
  refine mx_aload_n (k4 := 0) (mx_d D_R_init 2 rfl) (by rfl) ?_
  refine mx_bipush (n := 8) (mx_d D_R_init 3 rfl) (by decide) ?_
  refine mx_newaI hG (mx_d D_R_init 4 rfl) (by rfl) (by omega) ?_
  refine mx_putf hG (idx := 9) (ci := 4) (kf := 0) (t := (.array .int)) (mx_d D_R_init 5 rfl) (by rfl) cls_R (by decide) (Or.inr ⟨rfl, rfl, rfl⟩) w_103 (by first | assumption | omega) (by first | assumption | exact va_up_self _ _ _ | (rw [va_up_ne _ _ (by omega)]; first | assumption | exact va_up_self _ _ _ | (rw [va_up_ne _ _ (by omega)]; first | assumption | exact va_up_self _ _ _ | (rw [va_up_ne _ _ (by omega)]; first | assumption | exact va_up_self _ _ _ | (rw [va_up_ne _ _ (by omega)]; first | assumption | exact va_up_self _ _ _ | (rw [va_up_ne _ _ (by omega)]; first | assumption | exact va_up_self _ _ _)))))) (by exact Nat.le_of_ble_eq_true rfl) (by decide +kernel) (by rfl) (by rfl) ?_
  refine mx_aload_n (k4 := 0) (mx_d D_R_init 6 rfl) (by rfl) ?_
  refine mx_bipush (n := 8) (mx_d D_R_init 7 rfl) (by decide) ?_
  refine mx_newaI hG (mx_d D_R_init 8 rfl) (by rfl) (by omega) ?_
  refine mx_putf hG (idx := 15) (ci := 4) (kf := 1) (t := (.array .int)) (mx_d D_R_init 9 rfl) (by rfl) cls_R (by decide) (Or.inr ⟨rfl, rfl, rfl⟩) w_104 (by first | assumption | omega) (by first | assumption | exact va_up_self _ _ _ | (rw [va_up_ne _ _ (by omega)]; first | assumption | exact va_up_self _ _ _ | (rw [va_up_ne _ _ (by omega)]; first | assumption | exact va_up_self _ _ _ | (rw [va_up_ne _ _ (by omega)]; first | assumption | exact va_up_self _ _ _ | (rw [va_up_ne _ _ (by omega)]; first | assumption | exact va_up_self _ _ _ | (rw [va_up_ne _ _ (by omega)]; first | assumption | exact va_up_self _ _ _)))))) (by exact Nat.le_of_ble_eq_true rfl) (by decide +kernel) (by rfl) (by rfl) ?_
  refine mx_vret (by rfl) (mx_d D_R_init 10 rfl) ?_
  refine q _ (fun k h1 h2 => ?_) (va_up_self _ _ _) ?_ ?_
  · rw [va_up_ne _ _ h1, va_up_ne _ _ (by omega), va_up_ne _ _ h1, va_up_ne _ _ (by omega)]
  · rw [va_up_ne _ _ (by omega), va_up_ne _ _ (by omega), va_up_ne _ _ (by omega), va_up_self]
  · rw [va_up_ne _ _ (by omega), va_up_self]
theorem c_R_append (hG : mx_ok G) (ho : o < N) (ha : a < N) (hg : g < N) (e1 : o ≠ a) (e2 : o ≠ g) (e3 : a ≠ g) (h1 : ce o = .inr (4, [.ref (mx_B G + a), .ref (mx_B G + g), .int (iI n)])) (h2 : ce a = aI G 8 (fun j => (rn j : Int))) (h3 : ce g = aI G 8 (fun j => (rg j : Int))) (hn : n < 8) {x z : Nat}
    (q : Q (.inl none) N (va_up (va_up (va_up ce a (aI G 8 (fun j => ((va_up rn n x j : Nat) : Int)))) g (aI G 8 (fun j => ((va_up rg n z j : Nat) : Int)))) o (.inr (4, [.ref (mx_B G + a), .ref (mx_B G + g), .int (iI ((n + 1 : Nat) : Int))]))) bc bs) : mx_M G Y_R_append d bc bs ex N ce 0 [(0, .ref (mx_B G + o)), (1, .int (iI x)), (2, .int (iI z))] [] Q := by
  have e : ∀ (f : Nat → Nat) (v : Nat), va_up (fun j => ((f j : Nat) : Int)) n (v : Int) = fun j => ((va_up f n v j : Nat) : Int) := by
    intro f v
    funext j
    by_cases hj : j = n
    · subst hj; rw [va_up_self, va_up_self]
    · rw [va_up_ne _ _ hj, va_up_ne _ _ hj]
  refine mx_aload_n (k4 := 0) (mx_d D_R_append 0 rfl) (by rfl) ?_
  refine mx_getf hG (idx := 9) (ci := 4) (kf := 0) (mx_d D_R_append 1 rfl) (by rfl) cls_R (by decide) w_103 (by first | assumption | omega) (by first | assumption | exact va_up_self _ _ _ | (rw [va_up_ne _ _ (by omega)]; first | assumption | exact va_up_self _ _ _ | (rw [va_up_ne _ _ (by omega)]; first | assumption | exact va_up_self _ _ _ | (rw [va_up_ne _ _ (by omega)]; first | assumption | exact va_up_self _ _ _ | (rw [va_up_ne _ _ (by omega)]; first | assumption | exact va_up_self _ _ _ | (rw [va_up_ne _ _ (by omega)]; first | assumption | exact va_up_self _ _ _)))))) (by rfl) ?_
  refine mx_aload_n (k4 := 0) (mx_d D_R_append 2 rfl) (by rfl) ?_
  refine mx_getf hG (idx := 18) (ci := 4) (kf := 2) (mx_d D_R_append 3 rfl) (by rfl) cls_R (by decide) w_105 (by first | assumption | omega) (by first | assumption | exact va_up_self _ _ _ | (rw [va_up_ne _ _ (by omega)]; first | assumption | exact va_up_self _ _ _ | (rw [va_up_ne _ _ (by omega)]; first | assumption | exact va_up_self _ _ _ | (rw [va_up_ne _ _ (by omega)]; first | assumption | exact va_up_self _ _ _ | (rw [va_up_ne _ _ (by omega)]; first | assumption | exact va_up_self _ _ _ | (rw [va_up_ne _ _ (by omega)]; first | assumption | exact va_up_self _ _ _)))))) (by rfl) ?_
  refine mx_iload_n (k4 := 1) (mx_d D_R_append 4 rfl) (by rfl) ?_
  refine mx_iastI hG _ _ (mx_d D_R_append 5 rfl) (by first | assumption | omega) (by first | assumption | exact va_up_self _ _ _ | (rw [va_up_ne _ _ (by omega)]; first | assumption | exact va_up_self _ _ _ | (rw [va_up_ne _ _ (by omega)]; first | assumption | exact va_up_self _ _ _ | (rw [va_up_ne _ _ (by omega)]; first | assumption | exact va_up_self _ _ _ | (rw [va_up_ne _ _ (by omega)]; first | assumption | exact va_up_self _ _ _ | (rw [va_up_ne _ _ (by omega)]; first | assumption | exact va_up_self _ _ _)))))) (by rfl) (by rfl) (by omega) (by omega) ?_
  refine mx_aload_n (k4 := 0) (mx_d D_R_append 6 rfl) (by rfl) ?_
  refine mx_getf hG (idx := 15) (ci := 4) (kf := 1) (mx_d D_R_append 7 rfl) (by rfl) cls_R (by decide) w_104 (by first | assumption | omega) (by first | assumption | exact va_up_self _ _ _ | (rw [va_up_ne _ _ (by omega)]; first | assumption | exact va_up_self _ _ _ | (rw [va_up_ne _ _ (by omega)]; first | assumption | exact va_up_self _ _ _ | (rw [va_up_ne _ _ (by omega)]; first | assumption | exact va_up_self _ _ _ | (rw [va_up_ne _ _ (by omega)]; first | assumption | exact va_up_self _ _ _ | (rw [va_up_ne _ _ (by omega)]; first | assumption | exact va_up_self _ _ _)))))) (by rfl) ?_
  refine mx_aload_n (k4 := 0) (mx_d D_R_append 8 rfl) (by rfl) ?_
  refine mx_getf hG (idx := 18) (ci := 4) (kf := 2) (mx_d D_R_append 9 rfl) (by rfl) cls_R (by decide) w_105 (by first | assumption | omega) (by first | assumption | exact va_up_self _ _ _ | (rw [va_up_ne _ _ (by omega)]; first | assumption | exact va_up_self _ _ _ | (rw [va_up_ne _ _ (by omega)]; first | assumption | exact va_up_self _ _ _ | (rw [va_up_ne _ _ (by omega)]; first | assumption | exact va_up_self _ _ _ | (rw [va_up_ne _ _ (by omega)]; first | assumption | exact va_up_self _ _ _ | (rw [va_up_ne _ _ (by omega)]; first | assumption | exact va_up_self _ _ _)))))) (by rfl) ?_
  refine mx_iload_n (k4 := 2) (mx_d D_R_append 10 rfl) (by rfl) ?_
  refine mx_iastI hG _ _ (mx_d D_R_append 11 rfl) (by first | assumption | omega) (by first | assumption | exact va_up_self _ _ _ | (rw [va_up_ne _ _ (by omega)]; first | assumption | exact va_up_self _ _ _ | (rw [va_up_ne _ _ (by omega)]; first | assumption | exact va_up_self _ _ _ | (rw [va_up_ne _ _ (by omega)]; first | assumption | exact va_up_self _ _ _ | (rw [va_up_ne _ _ (by omega)]; first | assumption | exact va_up_self _ _ _ | (rw [va_up_ne _ _ (by omega)]; first | assumption | exact va_up_self _ _ _)))))) (by rfl) (by rfl) (by omega) (by omega) ?_
  refine mx_aload_n (k4 := 0) (mx_d D_R_append 12 rfl) (by rfl) ?_
  refine mx_dup (mx_d D_R_append 13 rfl) (by rfl) ?_
  refine mx_getf hG (idx := 18) (ci := 4) (kf := 2) (mx_d D_R_append 14 rfl) (by rfl) cls_R (by decide) w_105 (by first | assumption | omega) (by first | assumption | exact va_up_self _ _ _ | (rw [va_up_ne _ _ (by omega)]; first | assumption | exact va_up_self _ _ _ | (rw [va_up_ne _ _ (by omega)]; first | assumption | exact va_up_self _ _ _ | (rw [va_up_ne _ _ (by omega)]; first | assumption | exact va_up_self _ _ _ | (rw [va_up_ne _ _ (by omega)]; first | assumption | exact va_up_self _ _ _ | (rw [va_up_ne _ _ (by omega)]; first | assumption | exact va_up_self _ _ _)))))) (by rfl) ?_
  refine mx_iconst (n := 1) (mx_d D_R_append 15 rfl) ?_
  refine mx_iaddI (mx_d D_R_append 16 rfl) ?_
  refine mx_putf hG (idx := 18) (ci := 4) (kf := 2) (t := (.int)) (mx_d D_R_append 17 rfl) (by rfl) cls_R (by decide) (Or.inl rfl) w_105 (by first | assumption | omega) (by first | assumption | exact va_up_self _ _ _ | (rw [va_up_ne _ _ (by omega)]; first | assumption | exact va_up_self _ _ _ | (rw [va_up_ne _ _ (by omega)]; first | assumption | exact va_up_self _ _ _ | (rw [va_up_ne _ _ (by omega)]; first | assumption | exact va_up_self _ _ _ | (rw [va_up_ne _ _ (by omega)]; first | assumption | exact va_up_self _ _ _ | (rw [va_up_ne _ _ (by omega)]; first | assumption | exact va_up_self _ _ _)))))) (by exact Nat.le_of_ble_eq_true rfl) (by decide +kernel) (by rfl) (by rfl) ?_
  refine mx_vret (by rfl) (mx_d D_R_append 18 rfl) ?_
  rw [e, e]
  exact q
theorem c_R_sumAt (hG : mx_ok G) (ho : o < N) (ha : a < N) (hg : g < N) (hc : c < N) (h1 : ce o = .inr (4, [.ref (mx_B G + a), .ref (mx_B G + g), .int (iI n)])) (h2 : ce a = aI G 8 (fun j => (rn j : Int))) (h3 : ce g = aI G 8 (fun j => (rg j : Int))) (hn : n ≤ 8) (h4 : ce c = aQ G 4 12 (fun j => 15 + 2 * j)) {dA dS : Nat → Int} {dW : Nat → Nat → Int} {Y y : Nat} (hN : 39 ≤ N) (h5 : ∀ i, i < 12 → ce (15 + 2 * i) = .inr (2, [.ref (mx_B G + (16 + 2 * i)), .int (iI (dA i)), .int (iI (dS i))])) (h6 : ∀ i, i < 12 → ce (16 + 2 * i) = aI G Y (dW i)) (hY : Y ≤ 60) (hy : y < Y) (hr : ∀ i, i < n → rn i < 12 ∧ rg i ≤ 59)
    (q : Q (.inl (some (.int (iI (slTo Y dW rn rg y n))))) N ce bc bs) : mx_M G Y_R_sumAt d bc bs ex N ce 0 [(0, .ref (mx_B G + o)), (1, .int (iI y)), (2, .ref (mx_B G + c))] [] Q := by
  refine mx_iconst (n := 0) (mx_d D_R_sumAt 0 rfl) ?_
  refine mx_istore_n (k4 := 3) (mx_d D_R_sumAt 1 rfl) (by decide) ?_
  refine mx_iconst (n := 0) (mx_d D_R_sumAt 2 rfl) ?_
  refine mx_istore (i := 4) (mx_d D_R_sumAt 3 rfl) (by decide) ?_
  suffices H : ∀ k i : Nat, i + k = n → mx_M G Y_R_sumAt d bc bs ex N ce 5 [(0, .ref (mx_B G + o)), (1, .int (iI y)), (2, .ref (mx_B G + c)), (3, .int (iI (slTo Y dW rn rg y i))), (4, .int (iI i))] [] Q from mx_loc (by rfl) (H n 0 (by omega))
  intro k
  induction k with
  | zero =>
    intro i hi
    obtain rfl : i = n := by omega
    refine mx_iload (i := 4) (mx_d D_R_sumAt 4 rfl) (by rfl) ?_
    refine mx_aload_n (k4 := 0) (mx_d D_R_sumAt 5 rfl) (by rfl) ?_
    refine mx_getf hG (idx := 18) (ci := 4) (kf := 2) (mx_d D_R_sumAt 6 rfl) (by rfl) cls_R (by decide) w_105 (by first | assumption | omega) (by first | assumption | exact va_up_self _ _ _ | (rw [va_up_ne _ _ (by omega)]; first | assumption | exact va_up_self _ _ _ | (rw [va_up_ne _ _ (by omega)]; first | assumption | exact va_up_self _ _ _ | (rw [va_up_ne _ _ (by omega)]; first | assumption | exact va_up_self _ _ _ | (rw [va_up_ne _ _ (by omega)]; first | assumption | exact va_up_self _ _ _ | (rw [va_up_ne _ _ (by omega)]; first | assumption | exact va_up_self _ _ _)))))) (by rfl) ?_
    refine mx_icmp_geY 61 (mx_d D_R_sumAt 7 rfl) (by decide) (by omega) (by omega) (by omega) (by omega) (by omega) ?_
    refine mx_iload_n (k4 := 3) (mx_d D_R_sumAt 35 rfl) (by rfl) ?_
    refine mx_iret (by rfl) (mx_d D_R_sumAt 36 rfl) ?_
    exact q
  | succ k ih =>
    intro i hi
    have b1 := hr i (by omega)
    have b2 := h5 (rn i) (by omega)
    have b3 := h6 (rn i) (by omega)
    refine mx_iload (i := 4) (mx_d D_R_sumAt 4 rfl) (by rfl) ?_
    refine mx_aload_n (k4 := 0) (mx_d D_R_sumAt 5 rfl) (by rfl) ?_
    refine mx_getf hG (idx := 18) (ci := 4) (kf := 2) (mx_d D_R_sumAt 6 rfl) (by rfl) cls_R (by decide) w_105 (by first | assumption | omega) (by first | assumption | exact va_up_self _ _ _ | (rw [va_up_ne _ _ (by omega)]; first | assumption | exact va_up_self _ _ _ | (rw [va_up_ne _ _ (by omega)]; first | assumption | exact va_up_self _ _ _ | (rw [va_up_ne _ _ (by omega)]; first | assumption | exact va_up_self _ _ _ | (rw [va_up_ne _ _ (by omega)]; first | assumption | exact va_up_self _ _ _ | (rw [va_up_ne _ _ (by omega)]; first | assumption | exact va_up_self _ _ _)))))) (by rfl) ?_
    refine mx_icmp_geN 61 (mx_d D_R_sumAt 7 rfl) (by decide) (by omega) (by omega) (by omega) (by omega) (by omega) ?_
    refine mx_aload_n (k4 := 2) (mx_d D_R_sumAt 8 rfl) (by rfl) ?_
    refine mx_aload_n (k4 := 0) (mx_d D_R_sumAt 9 rfl) (by rfl) ?_
    refine mx_getf hG (idx := 9) (ci := 4) (kf := 0) (mx_d D_R_sumAt 10 rfl) (by rfl) cls_R (by decide) w_103 (by first | assumption | omega) (by first | assumption | exact va_up_self _ _ _ | (rw [va_up_ne _ _ (by omega)]; first | assumption | exact va_up_self _ _ _ | (rw [va_up_ne _ _ (by omega)]; first | assumption | exact va_up_self _ _ _ | (rw [va_up_ne _ _ (by omega)]; first | assumption | exact va_up_self _ _ _ | (rw [va_up_ne _ _ (by omega)]; first | assumption | exact va_up_self _ _ _ | (rw [va_up_ne _ _ (by omega)]; first | assumption | exact va_up_self _ _ _)))))) (by rfl) ?_
    refine mx_iload (i := 4) (mx_d D_R_sumAt 11 rfl) (by rfl) ?_
    refine mx_ialdI hG _ (mx_d D_R_sumAt 12 rfl) (by first | assumption | omega) (by first | assumption | exact va_up_self _ _ _ | (rw [va_up_ne _ _ (by omega)]; first | assumption | exact va_up_self _ _ _ | (rw [va_up_ne _ _ (by omega)]; first | assumption | exact va_up_self _ _ _ | (rw [va_up_ne _ _ (by omega)]; first | assumption | exact va_up_self _ _ _ | (rw [va_up_ne _ _ (by omega)]; first | assumption | exact va_up_self _ _ _ | (rw [va_up_ne _ _ (by omega)]; first | assumption | exact va_up_self _ _ _)))))) (by rfl) (by omega) (by omega) ?_
    refine mx_aald hG 4 (rn i) (mx_d D_R_sumAt 13 rfl) (by first | assumption | omega) (by first | assumption | exact va_up_self _ _ _ | (rw [va_up_ne _ _ (by omega)]; first | assumption | exact va_up_self _ _ _ | (rw [va_up_ne _ _ (by omega)]; first | assumption | exact va_up_self _ _ _ | (rw [va_up_ne _ _ (by omega)]; first | assumption | exact va_up_self _ _ _ | (rw [va_up_ne _ _ (by omega)]; first | assumption | exact va_up_self _ _ _ | (rw [va_up_ne _ _ (by omega)]; first | assumption | exact va_up_self _ _ _)))))) (by rfl) (by rfl) (by rfl) (by omega) (by omega) (show _ = some (mx_B G + (15 + 2 * rn i)) by exact if_pos (by omega)) ?_
    refine mx_getf hG (idx := 22) (ci := 2) (kf := 0) (mx_d D_R_sumAt 14 rfl) (by rfl) cls_D (by decide) w_62 (by first | assumption | omega) (by first | assumption | exact va_up_self _ _ _ | (rw [va_up_ne _ _ (by omega)]; first | assumption | exact va_up_self _ _ _ | (rw [va_up_ne _ _ (by omega)]; first | assumption | exact va_up_self _ _ _ | (rw [va_up_ne _ _ (by omega)]; first | assumption | exact va_up_self _ _ _ | (rw [va_up_ne _ _ (by omega)]; first | assumption | exact va_up_self _ _ _ | (rw [va_up_ne _ _ (by omega)]; first | assumption | exact va_up_self _ _ _)))))) (by rfl) ?_
    refine mx_astore (i := 5) (mx_d D_R_sumAt 15 rfl) (by decide) ?_
    refine mx_iload_n (k4 := 1) (mx_d D_R_sumAt 16 rfl) (by rfl) ?_
    refine mx_aload_n (k4 := 0) (mx_d D_R_sumAt 17 rfl) (by rfl) ?_
    refine mx_getf hG (idx := 15) (ci := 4) (kf := 1) (mx_d D_R_sumAt 18 rfl) (by rfl) cls_R (by decide) w_104 (by first | assumption | omega) (by first | assumption | exact va_up_self _ _ _ | (rw [va_up_ne _ _ (by omega)]; first | assumption | exact va_up_self _ _ _ | (rw [va_up_ne _ _ (by omega)]; first | assumption | exact va_up_self _ _ _ | (rw [va_up_ne _ _ (by omega)]; first | assumption | exact va_up_self _ _ _ | (rw [va_up_ne _ _ (by omega)]; first | assumption | exact va_up_self _ _ _ | (rw [va_up_ne _ _ (by omega)]; first | assumption | exact va_up_self _ _ _)))))) (by rfl) ?_
    refine mx_iload (i := 4) (mx_d D_R_sumAt 19 rfl) (by rfl) ?_
    refine mx_ialdI hG _ (mx_d D_R_sumAt 20 rfl) (by first | assumption | omega) (by first | assumption | exact va_up_self _ _ _ | (rw [va_up_ne _ _ (by omega)]; first | assumption | exact va_up_self _ _ _ | (rw [va_up_ne _ _ (by omega)]; first | assumption | exact va_up_self _ _ _ | (rw [va_up_ne _ _ (by omega)]; first | assumption | exact va_up_self _ _ _ | (rw [va_up_ne _ _ (by omega)]; first | assumption | exact va_up_self _ _ _ | (rw [va_up_ne _ _ (by omega)]; first | assumption | exact va_up_self _ _ _)))))) (by rfl) (by omega) (by omega) ?_
    refine mx_iaddI (mx_d D_R_sumAt 21 rfl) ?_
    refine mx_istore (i := 6) (mx_d D_R_sumAt 22 rfl) (by decide) ?_
    refine mx_iload (i := 6) (mx_d D_R_sumAt 23 rfl) (by rfl) ?_
    refine mx_aload (i := 5) (mx_d D_R_sumAt 24 rfl) (by rfl) ?_
    refine mx_alen hG 0 (mx_d D_R_sumAt 25 rfl) (by first | assumption | omega) (by first | assumption | exact va_up_self _ _ _ | (rw [va_up_ne _ _ (by omega)]; first | assumption | exact va_up_self _ _ _ | (rw [va_up_ne _ _ (by omega)]; first | assumption | exact va_up_self _ _ _ | (rw [va_up_ne _ _ (by omega)]; first | assumption | exact va_up_self _ _ _ | (rw [va_up_ne _ _ (by omega)]; first | assumption | exact va_up_self _ _ _ | (rw [va_up_ne _ _ (by omega)]; first | assumption | exact va_up_self _ _ _)))))) (by rfl) ?_
    by_cases hc : y + rg i < Y
    · refine mx_icmp_geN 55 (mx_d D_R_sumAt 26 rfl) (by decide) (by omega) (by omega) (by omega) (by omega) (by omega) ?_
      refine mx_iload_n (k4 := 3) (mx_d D_R_sumAt 27 rfl) (by rfl) ?_
      refine mx_aload (i := 5) (mx_d D_R_sumAt 28 rfl) (by rfl) ?_
      refine mx_iload (i := 6) (mx_d D_R_sumAt 29 rfl) (by rfl) ?_
      refine mx_ialdI hG (y + rg i) (mx_d D_R_sumAt 30 rfl) (by first | assumption | omega) (by first | assumption | exact va_up_self _ _ _ | (rw [va_up_ne _ _ (by omega)]; first | assumption | exact va_up_self _ _ _ | (rw [va_up_ne _ _ (by omega)]; first | assumption | exact va_up_self _ _ _ | (rw [va_up_ne _ _ (by omega)]; first | assumption | exact va_up_self _ _ _ | (rw [va_up_ne _ _ (by omega)]; first | assumption | exact va_up_self _ _ _ | (rw [va_up_ne _ _ (by omega)]; first | assumption | exact va_up_self _ _ _)))))) (by rfl) (by omega) (by omega) ?_
      refine mx_iaddI (mx_d D_R_sumAt 31 rfl) ?_
      refine mx_istore_n (k4 := 3) (mx_d D_R_sumAt 32 rfl) (by decide) ?_
      refine mx_iincI (i := 4) (n := 1) (mx_d D_R_sumAt 33 rfl) (by rfl) (by decide) ?_
      refine mx_goto 5 (mx_d D_R_sumAt 34 rfl) (by decide) ?_
      refine mx_loc ?_ (ih (i + 1) (by omega))
      simp only [slTo, if_pos hc]
      rfl
    · refine mx_icmp_geY 55 (mx_d D_R_sumAt 26 rfl) (by decide) (by omega) (by omega) (by omega) (by omega) (by omega) ?_
      refine mx_iincI (i := 4) (n := 1) (mx_d D_R_sumAt 33 rfl) (by rfl) (by decide) ?_
      refine mx_goto 5 (mx_d D_R_sumAt 34 rfl) (by decide) ?_
      refine mx_loc ?_ (ih (i + 1) (by omega))
      simp only [slTo, if_neg hc, Int.add_zero]
      rfl
end DR
/-! Pad: four signs in an int -/
def sg (x : Int32) (k : Nat) : Int := (((x.toUInt32 >>> ((iI ((8 * k : Nat) : Int)).toUInt32 &&& Int32.toUInt32 31)).toInt32) &&& iI 255).toInt
theorem sg_lo (x : Int32) (k : Nat) : -2147483648 ≤ sg x k := i32_lo _
theorem sg_hi (x : Int32) (k : Nat) : sg x k < 2147483648 := i32_hi _
def sgOk (x : Int32) : Nat → Bool
  | 0 => true
  | n + 1 => sgOk x n && (decide (sg x n = 0) || (decide (32 ≤ sg x n) && decide (sg x n ≤ 126)))
def sgN (x : Int32) : Nat → Nat
  | 0 => 0
  | n + 1 => sgN x n + (if sg x n = 0 then 0 else 1)
def sgP (x : Int32) (ps : Nat → Int) (m : Nat) : Nat → (Nat → Int)
  | 0 => ps
  | n + 1 => if sg x n = 0 then sgP x ps m n else va_up (sgP x ps m n) (m + sgN x n) (sg x n)
theorem sgOk_mono {x : Int32} {i n : Nat} (h : i ≤ n) (hf : sgOk x i = false) : sgOk x n = false := by
  induction n with
  | zero => obtain rfl : i = 0 := by omega
            exact hf
  | succ n ih =>
    by_cases hi : i = n + 1
    · subst hi; exact hf
    · simp only [sgOk, ih (by omega), Bool.false_and]
theorem sgN_le (x : Int32) (n : Nat) : sgN x n ≤ n := by
  induction n with
  | zero => simp [sgN]
  | succ n ih => simp only [sgN]; split <;> omega
theorem sgN_mono (x : Int32) {i n : Nat} (h : i ≤ n) : sgN x i ≤ sgN x n := by
  induction n with
  | zero => obtain rfl : i = 0 := by omega
            exact Nat.le_refl _
  | succ n ih =>
    by_cases hi : i = n + 1
    · subst hi; exact Nat.le_refl _
    · simp only [sgN]; have := ih (by omega); omega
section PA
variable {G : mx_G} {d bc bs : Nat} {ex : Bool} {N : Nat} {ce : Nat → va_E} {Q : mx_P} {o a n : Nat} {ps : Nat → Int} {x : Int32}
theorem c_P_init (hG : mx_ok G) (ho : o < N) (h1 : ce o = .inr (5, [.null, .int 0]))
    (q : ∀ ce', (∀ k, k ≠ o → k < N → ce' k = ce k) → ce' o = .inr (5, [.ref (mx_B G + N), .int (iI 0)]) → ce' N = aI G 100 (fun _ => 0) → Q (.inl none) (N + 1) ce' bc bs) : mx_M G Y_P_init d (bc + 1) (bs + 100) true N ce 0 [(0, .ref (mx_B G + o))] [] Q := by
  refine mx_aload_n (k4 := 0) (mx_d D_P_init 0 rfl) (by rfl) ?_
  refine mx_objInit (mx_d D_P_init 1 rfl) w_119 w_23 w_objcode (by exact Nat.le_of_ble_eq_true rfl) ?_
  refine mx_aload_n (k4 := 0) (mx_d D_P_init 2 rfl) (by rfl) ?_
  refine mx_bipush (n := 100) (mx_d D_P_init 3 rfl) (by decide) ?_
  refine mx_newaI hG (mx_d D_P_init 4 rfl) (by rfl) (by omega) ?_
  refine mx_putf hG (idx := 9) (ci := 5) (kf := 0) (t := (.array .int)) (mx_d D_P_init 5 rfl) (by rfl) cls_P (by decide) (Or.inr ⟨rfl, rfl, rfl⟩) w_120 (by first | assumption | omega) (by first | assumption | exact va_up_self _ _ _ | (rw [va_up_ne _ _ (by omega)]; first | assumption | exact va_up_self _ _ _ | (rw [va_up_ne _ _ (by omega)]; first | assumption | exact va_up_self _ _ _ | (rw [va_up_ne _ _ (by omega)]; first | assumption | exact va_up_self _ _ _ | (rw [va_up_ne _ _ (by omega)]; first | assumption | exact va_up_self _ _ _ | (rw [va_up_ne _ _ (by omega)]; first | assumption | exact va_up_self _ _ _)))))) (by exact Nat.le_of_ble_eq_true rfl) (by decide +kernel) (by rfl) (by rfl) ?_
  refine mx_vret (by rfl) (mx_d D_P_init 6 rfl) ?_
  refine q _ (fun k h1 h2 => ?_) (va_up_self _ _ _) ?_
  · rw [va_up_ne _ _ h1, va_up_ne _ _ (by omega)]
  · rw [va_up_ne _ _ (by omega), va_up_self]
theorem c_P_signAt {k : Nat} (q : Q (.inl (some (.int (iI (sg x k))))) N ce bc bs) : mx_M G Y_P_signAt d bc bs ex N ce 0 [(0, .int x), (1, .int (iI ((8 * k : Nat) : Int)))] [] Q := by
  refine mx_iload_n (k4 := 0) (mx_d D_P_signAt 0 rfl) (by rfl) ?_
  refine mx_iload_n (k4 := 1) (mx_d D_P_signAt 1 rfl) (by rfl) ?_
  refine mx_iushr (mx_d D_P_signAt 2 rfl) ?_
  refine mx_sipush (n := 255) (mx_d D_P_signAt 3 rfl) (by decide) ?_
  refine mx_iand (mx_d D_P_signAt 4 rfl) ?_
  refine mx_iret (by rfl) (mx_d D_P_signAt 5 rfl) ?_
  rw [sg, ← iI_of] at q
  exact q
theorem c_P_holds (q : Q (.inl (some (.int (iI (bI (sgOk x 4)))))) N ce bc bs) : mx_M G Y_P_holdsSignsAlone (d + 1) bc bs ex N ce 0 [(0, .int x)] [] Q := by
  refine mx_iconst (n := 0) (mx_d D_P_holdsSignsAlone 0 rfl) ?_
  refine mx_istore_n (k4 := 1) (mx_d D_P_holdsSignsAlone 1 rfl) (by decide) ?_
  suffices H : ∀ k i : Nat, i + k = 4 → sgOk x i = true → mx_M G Y_P_holdsSignsAlone (d + 1) bc bs ex N ce 2 [(0, .int x), (1, .int (iI ((8 * i : Nat) : Int)))] [] Q from mx_loc (by rfl) (H 4 0 (by omega) rfl)
  intro k
  induction k with
  | zero =>
    intro i hi hs
    obtain rfl : i = 4 := by omega
    refine mx_iload_n (k4 := 1) (mx_d D_P_holdsSignsAlone 2 rfl) (by rfl) ?_
    refine mx_bipush (n := 32) (mx_d D_P_holdsSignsAlone 3 rfl) (by decide) ?_
    refine mx_icmp_geY 38 (mx_d D_P_holdsSignsAlone 4 rfl) (by decide) (by omega) (by omega) (by omega) (by omega) (by omega) ?_
    refine mx_iconst (n := 1) (mx_d D_P_holdsSignsAlone 21 rfl) ?_
    refine mx_zret (by rfl) (mx_d D_P_holdsSignsAlone 22 rfl) (by first | rfl | assumption) ?_
    rw [hs] at q
    exact q
  | succ k ih =>
    intro i hi hs
    have b1 := sg_lo x i
    have b2 := sg_hi x i
    refine mx_iload_n (k4 := 1) (mx_d D_P_holdsSignsAlone 2 rfl) (by rfl) ?_
    refine mx_bipush (n := 32) (mx_d D_P_holdsSignsAlone 3 rfl) (by decide) ?_
    refine mx_icmp_geN 38 (mx_d D_P_holdsSignsAlone 4 rfl) (by decide) (by omega) (by omega) (by omega) (by omega) (by omega) ?_
    refine mx_iload_n (k4 := 0) (mx_d D_P_holdsSignsAlone 5 rfl) (by rfl) ?_
    refine mx_iload_n (k4 := 1) (mx_d D_P_holdsSignsAlone 6 rfl) (by rfl) ?_
    refine mx_callS (Y' := Y_P_signAt) [_, _] (mx_d D_P_holdsSignsAlone 7 rfl) in_P_signAt w_554 w_555 np_P_signAt (by exact Nat.le_of_ble_eq_true rfl) (by rfl) (by rfl) (by exact Nat.le_of_ble_eq_true rfl) (c_P_signAt ?_)
    refine mx_istore_n (k4 := 2) (mx_d D_P_holdsSignsAlone 8 rfl) (by decide) ?_
    refine mx_iload_n (k4 := 2) (mx_d D_P_holdsSignsAlone 9 rfl) (by rfl) ?_
    have fin : sgOk x (i + 1) = true → mx_M G Y_P_holdsSignsAlone (d + 1) bc bs ex N ce 32 [(0, .int x), (1, .int (iI ((8 * i : Nat) : Int))), (2, .int (iI (sg x i)))] [] Q := by
      intro hs1
      refine mx_iincI (i := 1) (n := 8) (mx_d D_P_holdsSignsAlone 19 rfl) (by rfl) (by decide) ?_
      refine mx_goto 2 (mx_d D_P_holdsSignsAlone 20 rfl) (by decide) ?_
      refine mx_loc ?_ (ih (i + 1) (by omega) hs1)
      rw [show ((8 * (i + 1) : Nat) : Int) = ((8 * i : Nat) : Int) + 8 from by omega]
      rfl
    have bad : ¬ sg x i = 0 → (sg x i < 32 ∨ 126 < sg x i) → mx_M G Y_P_holdsSignsAlone (d + 1) bc bs ex N ce 30 [(0, .int x), (1, .int (iI ((8 * i : Nat) : Int))), (2, .int (iI (sg x i)))] [] Q := by
      intro z1 z2
      refine mx_iconst (n := 0) (mx_d D_P_holdsSignsAlone 17 rfl) ?_
      refine mx_zret (by rfl) (mx_d D_P_holdsSignsAlone 18 rfl) (by first | rfl | assumption) ?_
      have : sgOk x (i + 1) = false := by
        simp only [sgOk, hs, Bool.true_and, Bool.or_eq_false_iff, Bool.and_eq_false_iff, decide_eq_false_iff_not]
        omega
      rw [sgOk_mono (by omega : i + 1 ≤ 4) this] at q
      exact q
    refine mx_if_eqI 32 (mx_d D_P_holdsSignsAlone 10 rfl) (by decide) (by omega) (by omega) (fun hb => ?_) (fun hb => ?_)
    · refine mx_loc (by rfl) (fin ?_)
      simp only [sgOk, hs, Bool.true_and, hb, decide_true, Bool.true_or]
    · have hz := hb
      refine mx_iload_n (k4 := 2) (mx_d D_P_holdsSignsAlone 11 rfl) (by rfl) ?_
      refine mx_bipush (n := 32) (mx_d D_P_holdsSignsAlone 12 rfl) (by decide) ?_
      refine mx_icmp_ltI 30 (mx_d D_P_holdsSignsAlone 13 rfl) (by decide) (by omega) (by omega) (by omega) (by omega) (fun hb => ?_) (fun hb => ?_)
      · exact mx_loc (by rfl) (bad hz (Or.inl hb))
      · refine mx_iload_n (k4 := 2) (mx_d D_P_holdsSignsAlone 14 rfl) (by rfl) ?_
        refine mx_bipush (n := 126) (mx_d D_P_holdsSignsAlone 15 rfl) (by decide) ?_
        have hy := hb
        refine mx_icmp_leI 32 (mx_d D_P_holdsSignsAlone 16 rfl) (by decide) (by omega) (by omega) (by omega) (by omega) (fun hb => ?_) (fun hb => ?_)
        · refine mx_loc (by rfl) (fin ?_)
          simp only [sgOk, hs, Bool.true_and, Bool.or_eq_true, Bool.and_eq_true, decide_eq_true_eq]
          omega
        · exact mx_loc (by rfl) (bad hz (Or.inr (by omega)))
theorem c_P_signsIn (q : Q (.inl (some (.int (iI (sgN x 4))))) N ce bc bs) : mx_M G Y_P_signsIn (d + 1) bc bs ex N ce 0 [(0, .int x)] [] Q := by
  refine mx_iconst (n := 0) (mx_d D_P_signsIn 0 rfl) ?_
  refine mx_istore_n (k4 := 1) (mx_d D_P_signsIn 1 rfl) (by decide) ?_
  refine mx_iconst (n := 0) (mx_d D_P_signsIn 2 rfl) ?_
  refine mx_istore_n (k4 := 2) (mx_d D_P_signsIn 3 rfl) (by decide) ?_
  suffices H : ∀ k i : Nat, i + k = 4 → mx_M G Y_P_signsIn (d + 1) bc bs ex N ce 4 [(0, .int x), (1, .int (iI (sgN x i))), (2, .int (iI ((8 * i : Nat) : Int)))] [] Q from mx_loc (by rfl) (H 4 0 (by omega))
  intro k
  induction k with
  | zero =>
    intro i hi
    obtain rfl : i = 4 := by omega
    refine mx_iload_n (k4 := 2) (mx_d D_P_signsIn 4 rfl) (by rfl) ?_
    refine mx_bipush (n := 32) (mx_d D_P_signsIn 5 rfl) (by decide) ?_
    refine mx_icmp_geY 27 (mx_d D_P_signsIn 6 rfl) (by decide) (by omega) (by omega) (by omega) (by omega) (by omega) ?_
    refine mx_iload_n (k4 := 1) (mx_d D_P_signsIn 14 rfl) (by rfl) ?_
    refine mx_iret (by rfl) (mx_d D_P_signsIn 15 rfl) ?_
    exact q
  | succ k ih =>
    intro i hi
    have b1 := sg_lo x i
    have b2 := sg_hi x i
    refine mx_iload_n (k4 := 2) (mx_d D_P_signsIn 4 rfl) (by rfl) ?_
    refine mx_bipush (n := 32) (mx_d D_P_signsIn 5 rfl) (by decide) ?_
    refine mx_icmp_geN 27 (mx_d D_P_signsIn 6 rfl) (by decide) (by omega) (by omega) (by omega) (by omega) (by omega) ?_
    refine mx_iload_n (k4 := 0) (mx_d D_P_signsIn 7 rfl) (by rfl) ?_
    refine mx_iload_n (k4 := 2) (mx_d D_P_signsIn 8 rfl) (by rfl) ?_
    refine mx_callS (Y' := Y_P_signAt) [_, _] (mx_d D_P_signsIn 9 rfl) in_P_signAt w_554 w_555 np_P_signAt (by exact Nat.le_of_ble_eq_true rfl) (by rfl) (by rfl) (by exact Nat.le_of_ble_eq_true rfl) (c_P_signAt ?_)
    have e8 : ((8 * (i + 1) : Nat) : Int) = ((8 * i : Nat) : Int) + 8 := by omega
    refine mx_if_eqI 21 (mx_d D_P_signsIn 10 rfl) (by decide) (by omega) (by omega) (fun hb => ?_) (fun hb => ?_)
    · refine mx_iincI (i := 2) (n := 8) (mx_d D_P_signsIn 12 rfl) (by rfl) (by decide) ?_
      refine mx_goto 4 (mx_d D_P_signsIn 13 rfl) (by decide) ?_
      refine mx_loc ?_ (ih (i + 1) (by omega))
      rw [e8]
      simp only [sgN, if_pos hb, Nat.add_zero]
      rfl
    · refine mx_iincI (i := 1) (n := 1) (mx_d D_P_signsIn 11 rfl) (by rfl) (by decide) ?_
      refine mx_iincI (i := 2) (n := 8) (mx_d D_P_signsIn 12 rfl) (by rfl) (by decide) ?_
      refine mx_goto 4 (mx_d D_P_signsIn 13 rfl) (by decide) ?_
      refine mx_loc ?_ (ih (i + 1) (by omega))
      rw [e8]
      simp only [sgN, if_neg hb]
      rfl
theorem c_P_append (hG : mx_ok G) (ho : o < N) (ha : a < N) (e1 : o ≠ a) (h1 : ce o = .inr (5, [.ref (mx_B G + a), .int (iI n)])) (h2 : ce a = aI G 100 ps) (hn : n + sgN x 4 ≤ 100)
    (q : Q (.inl none) N (va_up (va_up ce a (aI G 100 (sgP x ps n 4))) o (.inr (5, [.ref (mx_B G + a), .int (iI ((n + sgN x 4 : Nat) : Int))]))) bc bs) : mx_M G Y_P_append (d + 1) bc bs ex N ce 0 [(0, .ref (mx_B G + o)), (1, .int x)] [] Q := by
  refine mx_iconst (n := 0) (mx_d D_P_append 0 rfl) ?_
  refine mx_istore_n (k4 := 2) (mx_d D_P_append 1 rfl) (by decide) ?_
  suffices H : ∀ k i : Nat, i + k = 4 → mx_M G Y_P_append (d + 1) bc bs ex N (va_up (va_up ce a (aI G 100 (sgP x ps n i))) o (.inr (5, [.ref (mx_B G + a), .int (iI ((n + sgN x i : Nat) : Int))]))) 2 [(0, .ref (mx_B G + o)), (1, .int x), (2, .int (iI ((8 * i : Nat) : Int)))] [] Q by
    have H0 := H 4 0 (by omega)
    have e : va_up (va_up ce a (aI G 100 (sgP x ps n 0))) o (.inr (5, [.ref (mx_B G + a), .int (iI ((n + sgN x 0 : Nat) : Int))])) = ce := by
      rw [show sgP x ps n 0 = ps from rfl, show n + sgN x 0 = n from rfl, va_up_id ce a h2, va_up_id ce o h1]
    rw [e] at H0
    exact mx_loc (by rfl) H0
  intro k
  induction k with
  | zero =>
    intro i hi
    obtain rfl : i = 4 := by omega
    refine mx_iload_n (k4 := 2) (mx_d D_P_append 2 rfl) (by rfl) ?_
    refine mx_bipush (n := 32) (mx_d D_P_append 3 rfl) (by decide) ?_
    refine mx_icmp_geY 56 (mx_d D_P_append 4 rfl) (by decide) (by omega) (by omega) (by omega) (by omega) (by omega) ?_
    refine mx_vret (by rfl) (mx_d D_P_append 31 rfl) ?_
    exact q
  | succ k ih =>
    intro i hi
    have b1 := sg_lo x i
    have b2 := sg_hi x i
    have b3 := sgN_mono x (show i + 1 ≤ 4 by omega)
    have e8 : ((8 * (i + 1) : Nat) : Int) = ((8 * i : Nat) : Int) + 8 := by omega
    refine mx_iload_n (k4 := 2) (mx_d D_P_append 2 rfl) (by rfl) ?_
    refine mx_bipush (n := 32) (mx_d D_P_append 3 rfl) (by decide) ?_
    refine mx_icmp_geN 56 (mx_d D_P_append 4 rfl) (by decide) (by omega) (by omega) (by omega) (by omega) (by omega) ?_
    refine mx_iload_n (k4 := 1) (mx_d D_P_append 5 rfl) (by rfl) ?_
    refine mx_iload_n (k4 := 2) (mx_d D_P_append 6 rfl) (by rfl) ?_
    refine mx_callS (Y' := Y_P_signAt) [_, _] (mx_d D_P_append 7 rfl) in_P_signAt w_554 w_555 np_P_signAt (by exact Nat.le_of_ble_eq_true rfl) (by rfl) (by rfl) (by exact Nat.le_of_ble_eq_true rfl) (c_P_signAt ?_)
    refine mx_istore_n (k4 := 3) (mx_d D_P_append 8 rfl) (by decide) ?_
    refine mx_iload_n (k4 := 3) (mx_d D_P_append 9 rfl) (by rfl) ?_
    refine mx_if_eqI 50 (mx_d D_P_append 10 rfl) (by decide) (by omega) (by omega) (fun hb => ?_) (fun hb => ?_)
    · refine mx_iincI (i := 2) (n := 8) (mx_d D_P_append 29 rfl) (by rfl) (by decide) ?_
      refine mx_goto 2 (mx_d D_P_append 30 rfl) (by decide) ?_
      refine mx_loc ?_ (mx_ce ?_ (ih (i + 1) (by omega)))
      · rw [e8]; rfl
      · simp only [sgN, sgP, if_pos hb, Nat.add_zero]
    · have b4 : n + sgN x i < 100 := by have e0 : sgN x (i + 1) = sgN x i + 1 := by { simp only [sgN, if_neg hb] }; omega
      refine mx_aload_n (k4 := 0) (mx_d D_P_append 11 rfl) (by rfl) ?_
      refine mx_getf hG (idx := 19) (ci := 5) (kf := 1) (mx_d D_P_append 12 rfl) (by rfl) cls_P (by decide) w_123 (by first | assumption | omega) (by first | assumption | exact va_up_self _ _ _ | (rw [va_up_ne _ _ (by omega)]; first | assumption | exact va_up_self _ _ _ | (rw [va_up_ne _ _ (by omega)]; first | assumption | exact va_up_self _ _ _ | (rw [va_up_ne _ _ (by omega)]; first | assumption | exact va_up_self _ _ _ | (rw [va_up_ne _ _ (by omega)]; first | assumption | exact va_up_self _ _ _ | (rw [va_up_ne _ _ (by omega)]; first | assumption | exact va_up_self _ _ _)))))) (by rfl) ?_
      refine mx_aload_n (k4 := 0) (mx_d D_P_append 13 rfl) (by rfl) ?_
      refine mx_getf hG (idx := 9) (ci := 5) (kf := 0) (mx_d D_P_append 14 rfl) (by rfl) cls_P (by decide) w_120 (by first | assumption | omega) (by first | assumption | exact va_up_self _ _ _ | (rw [va_up_ne _ _ (by omega)]; first | assumption | exact va_up_self _ _ _ | (rw [va_up_ne _ _ (by omega)]; first | assumption | exact va_up_self _ _ _ | (rw [va_up_ne _ _ (by omega)]; first | assumption | exact va_up_self _ _ _ | (rw [va_up_ne _ _ (by omega)]; first | assumption | exact va_up_self _ _ _ | (rw [va_up_ne _ _ (by omega)]; first | assumption | exact va_up_self _ _ _)))))) (by rfl) ?_
      refine mx_alen hG 0 (mx_d D_P_append 15 rfl) (by first | assumption | omega) (by first | assumption | exact va_up_self _ _ _ | (rw [va_up_ne _ _ (by omega)]; first | assumption | exact va_up_self _ _ _ | (rw [va_up_ne _ _ (by omega)]; first | assumption | exact va_up_self _ _ _ | (rw [va_up_ne _ _ (by omega)]; first | assumption | exact va_up_self _ _ _ | (rw [va_up_ne _ _ (by omega)]; first | assumption | exact va_up_self _ _ _ | (rw [va_up_ne _ _ (by omega)]; first | assumption | exact va_up_self _ _ _)))))) (by rfl) ?_
      refine mx_icmp_geN 50 (mx_d D_P_append 16 rfl) (by decide) (by omega) (by omega) (by omega) (by omega) (by omega) ?_
      refine mx_aload_n (k4 := 0) (mx_d D_P_append 17 rfl) (by rfl) ?_
      refine mx_getf hG (idx := 9) (ci := 5) (kf := 0) (mx_d D_P_append 18 rfl) (by rfl) cls_P (by decide) w_120 (by first | assumption | omega) (by first | assumption | exact va_up_self _ _ _ | (rw [va_up_ne _ _ (by omega)]; first | assumption | exact va_up_self _ _ _ | (rw [va_up_ne _ _ (by omega)]; first | assumption | exact va_up_self _ _ _ | (rw [va_up_ne _ _ (by omega)]; first | assumption | exact va_up_self _ _ _ | (rw [va_up_ne _ _ (by omega)]; first | assumption | exact va_up_self _ _ _ | (rw [va_up_ne _ _ (by omega)]; first | assumption | exact va_up_self _ _ _)))))) (by rfl) ?_
      refine mx_aload_n (k4 := 0) (mx_d D_P_append 19 rfl) (by rfl) ?_
      refine mx_getf hG (idx := 19) (ci := 5) (kf := 1) (mx_d D_P_append 20 rfl) (by rfl) cls_P (by decide) w_123 (by first | assumption | omega) (by first | assumption | exact va_up_self _ _ _ | (rw [va_up_ne _ _ (by omega)]; first | assumption | exact va_up_self _ _ _ | (rw [va_up_ne _ _ (by omega)]; first | assumption | exact va_up_self _ _ _ | (rw [va_up_ne _ _ (by omega)]; first | assumption | exact va_up_self _ _ _ | (rw [va_up_ne _ _ (by omega)]; first | assumption | exact va_up_self _ _ _ | (rw [va_up_ne _ _ (by omega)]; first | assumption | exact va_up_self _ _ _)))))) (by rfl) ?_
      refine mx_iload_n (k4 := 3) (mx_d D_P_append 21 rfl) (by rfl) ?_
      refine mx_iastI hG _ _ (mx_d D_P_append 22 rfl) (by first | assumption | omega) (by first | assumption | exact va_up_self _ _ _ | (rw [va_up_ne _ _ (by omega)]; first | assumption | exact va_up_self _ _ _ | (rw [va_up_ne _ _ (by omega)]; first | assumption | exact va_up_self _ _ _ | (rw [va_up_ne _ _ (by omega)]; first | assumption | exact va_up_self _ _ _ | (rw [va_up_ne _ _ (by omega)]; first | assumption | exact va_up_self _ _ _ | (rw [va_up_ne _ _ (by omega)]; first | assumption | exact va_up_self _ _ _)))))) (by rfl) (by rfl) (by omega) (by omega) ?_
      refine mx_aload_n (k4 := 0) (mx_d D_P_append 23 rfl) (by rfl) ?_
      refine mx_dup (mx_d D_P_append 24 rfl) (by rfl) ?_
      refine mx_getf hG (idx := 19) (ci := 5) (kf := 1) (mx_d D_P_append 25 rfl) (by rfl) cls_P (by decide) w_123 (by first | assumption | omega) (by first | assumption | exact va_up_self _ _ _ | (rw [va_up_ne _ _ (by omega)]; first | assumption | exact va_up_self _ _ _ | (rw [va_up_ne _ _ (by omega)]; first | assumption | exact va_up_self _ _ _ | (rw [va_up_ne _ _ (by omega)]; first | assumption | exact va_up_self _ _ _ | (rw [va_up_ne _ _ (by omega)]; first | assumption | exact va_up_self _ _ _ | (rw [va_up_ne _ _ (by omega)]; first | assumption | exact va_up_self _ _ _)))))) (by rfl) ?_
      refine mx_iconst (n := 1) (mx_d D_P_append 26 rfl) ?_
      refine mx_iaddI (mx_d D_P_append 27 rfl) ?_
      refine mx_putf hG (idx := 19) (ci := 5) (kf := 1) (t := (.int)) (mx_d D_P_append 28 rfl) (by rfl) cls_P (by decide) (Or.inl rfl) w_123 (by first | assumption | omega) (by first | assumption | exact va_up_self _ _ _ | (rw [va_up_ne _ _ (by omega)]; first | assumption | exact va_up_self _ _ _ | (rw [va_up_ne _ _ (by omega)]; first | assumption | exact va_up_self _ _ _ | (rw [va_up_ne _ _ (by omega)]; first | assumption | exact va_up_self _ _ _ | (rw [va_up_ne _ _ (by omega)]; first | assumption | exact va_up_self _ _ _ | (rw [va_up_ne _ _ (by omega)]; first | assumption | exact va_up_self _ _ _)))))) (by exact Nat.le_of_ble_eq_true rfl) (by decide +kernel) (by rfl) (by rfl) ?_
      refine mx_iincI (i := 2) (n := 8) (mx_d D_P_append 29 rfl) (by rfl) (by decide) ?_
      refine mx_goto 2 (mx_d D_P_append 30 rfl) (by decide) ?_
      refine mx_loc ?_ (mx_ce ?_ (ih (i + 1) (by omega)))
      · rw [e8]; rfl
      · simp only [sgN, sgP, if_neg hb]
        funext j
        by_cases j1 : j = o
        · subst j1; rw [va_up_self, va_up_self]; rfl
        · rw [va_up_ne _ _ j1, va_up_ne _ _ j1]
          by_cases j2 : j = a
          · subst j2; rw [va_up_self, va_up_self]
          · rw [va_up_ne _ _ j2, va_up_ne _ _ j1, va_up_ne _ _ j2, va_up_ne _ _ j2]
end PA
