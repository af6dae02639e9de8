/-! LeastSet: its walks -/
theorem chTo_bd {lc : Nat → Bool} {w : Nat → Int} {n : Nat} {M : Int} (hM : 0 ≤ M) (h : ∀ j, j < n → 0 ≤ w j ∧ w j ≤ M) : 0 ≤ chTo lc w n ∧ chTo lc w n ≤ n * M := by
  unfold chTo
  exact sumTo_bd (fun j hj => by have := h j hj; split <;> omega)
section LS
variable {G : mx_G} {d bc bs : Nat} {ex : Bool} {N : Nat} {ce : Nat → va_E} {Q : mx_P} {o c f l Y n : Nat} {lc : Nat → Bool} {lf ll : Nat → Int}
theorem c_L_init (hG : mx_ok G) (ho : o < N) (h1 : ce o = .inr (3, [.null, .null, .null, .int 0])) (hn : n ≤ 1000)
    (q : ∀ ce', (∀ k, k ≠ o → k < N → ce' k = ce k) → ce' o = .inr (3, [.ref (mx_B G + N), .ref (mx_B G + (N + 1)), .ref (mx_B G + (N + 2)), .int (iI 0)]) → ce' N = aB G n (fun _ => false) → ce' (N + 1) = aI G n (fun _ => 0) → ce' (N + 2) = aI G n (fun _ => 0) → Q (.inl none) (N + 3) ce' bc bs) : mx_M G Y_L_init d (bc + 3) (bs + n + n + n) true N ce 0 [(0, .ref (mx_B G + o)), (1, .int (iI n))] [] Q := by
  refine mx_aload_n (k4 := 0) (mx_d D_L_init 0 rfl) (by rfl) ?_
  refine mx_objInit (mx_d D_L_init 1 rfl) w_79 w_23 w_objcode (by exact Nat.le_of_ble_eq_true rfl) ?_
  refine mx_aload_n (k4 := 0) (mx_d D_L_init 2 rfl) (by rfl) ?_
  refine mx_iload_n (k4 := 1) (mx_d D_L_init 3 rfl) (by rfl) ?_
  refine mx_newaB hG (mx_d D_L_init 4 rfl) (by rfl) (by omega) ?_
  refine mx_putf hG (idx := 9) (ci := 3) (kf := 0) (t := (.array .boolean)) (mx_d D_L_init 5 rfl) (by rfl) cls_L (by decide) (Or.inr ⟨rfl, rfl, rfl⟩) w_80 (by first | assumption | omega) (by first | assumption | exact va_up_self _ _ _ | (rw [va_up_ne _ _ (by omega)]; first | assumption | exact va_up_self _ _ _ | (rw [va_up_ne _ _ (by omega)]; first | assumption | exact va_up_self _ _ _ | (rw [va_up_ne _ _ (by omega)]; first | assumption | exact va_up_self _ _ _ | (rw [va_up_ne _ _ (by omega)]; first | assumption | exact va_up_self _ _ _ | (rw [va_up_ne _ _ (by omega)]; first | assumption | exact va_up_self _ _ _)))))) (by exact Nat.le_of_ble_eq_true rfl) (by decide +kernel) (by rfl) (by rfl) ?_
  refine mx_aload_n (k4 := 0) (mx_d D_L_init 6 rfl) (by rfl) ?_
  refine mx_iload_n (k4 := 1) (mx_d D_L_init 7 rfl) (by rfl) ?_
  refine mx_newaI hG (mx_d D_L_init 8 rfl) (by rfl) (by omega) ?_
  refine mx_putf hG (idx := 15) (ci := 3) (kf := 1) (t := (.array .int)) (mx_d D_L_init 9 rfl) (by rfl) cls_L (by decide) (Or.inr ⟨rfl, rfl, rfl⟩) w_81 (by first | assumption | omega) (by first | assumption | exact va_up_self _ _ _ | (rw [va_up_ne _ _ (by omega)]; first | assumption | exact va_up_self _ _ _ | (rw [va_up_ne _ _ (by omega)]; first | assumption | exact va_up_self _ _ _ | (rw [va_up_ne _ _ (by omega)]; first | assumption | exact va_up_self _ _ _ | (rw [va_up_ne _ _ (by omega)]; first | assumption | exact va_up_self _ _ _ | (rw [va_up_ne _ _ (by omega)]; first | assumption | exact va_up_self _ _ _)))))) (by exact Nat.le_of_ble_eq_true rfl) (by decide +kernel) (by rfl) (by rfl) ?_
  refine mx_aload_n (k4 := 0) (mx_d D_L_init 10 rfl) (by rfl) ?_
  refine mx_iload_n (k4 := 1) (mx_d D_L_init 11 rfl) (by rfl) ?_
  refine mx_newaI hG (mx_d D_L_init 12 rfl) (by rfl) (by omega) ?_
  refine mx_putf hG (idx := 19) (ci := 3) (kf := 2) (t := (.array .int)) (mx_d D_L_init 13 rfl) (by rfl) cls_L (by decide) (Or.inr ⟨rfl, rfl, rfl⟩) w_83 (by first | assumption | omega) (by first | assumption | exact va_up_self _ _ _ | (rw [va_up_ne _ _ (by omega)]; first | assumption | exact va_up_self _ _ _ | (rw [va_up_ne _ _ (by omega)]; first | assumption | exact va_up_self _ _ _ | (rw [va_up_ne _ _ (by omega)]; first | assumption | exact va_up_self _ _ _ | (rw [va_up_ne _ _ (by omega)]; first | assumption | exact va_up_self _ _ _ | (rw [va_up_ne _ _ (by omega)]; first | assumption | exact va_up_self _ _ _)))))) (by exact Nat.le_of_ble_eq_true rfl) (by decide +kernel) (by rfl) (by rfl) ?_
  refine mx_vret (by rfl) (mx_d D_L_init 14 rfl) ?_
  refine q _ (fun k h1 h2 => ?_) (va_up_self _ _ _) ?_ ?_ ?_
  · rw [va_up_ne _ _ h1, va_up_ne _ _ (by omega), va_up_ne _ _ h1, va_up_ne _ _ (by omega), va_up_ne _ _ h1, va_up_ne _ _ (by omega)]
  · rw [va_up_ne _ _ (by omega), va_up_ne _ _ (by omega), va_up_ne _ _ (by omega), va_up_ne _ _ (by omega), va_up_ne _ _ (by omega), va_up_self]
  · rw [va_up_ne _ _ (by omega), va_up_ne _ _ (by omega), va_up_ne _ _ (by omega), va_up_self]
  · rw [va_up_ne _ _ (by omega), va_up_self]
theorem c_L_holds (hG : mx_ok G) (ho : o < N) (hc : c < N) {v1 v2 v3 : Value} (h1 : ce o = .inr (3, [.ref (mx_B G + c), v1, v2, v3])) (h2 : ce c = aB G Y lc) (hY : Y ≤ 60) {z : Int} (hz1 : -1 ≤ z) (hz2 : z ≤ 60)
    (q : Q (.inl (some (.int (iI (bI (hyB lc Y z)))))) N ce bc bs) : mx_M G Y_L_holdsYear d bc bs ex N ce 0 [(0, .ref (mx_B G + o)), (1, .int (iI z))] [] Q := by
  have no : hyB lc Y z = false → ∀ {l9 : List (Nat × Value)}, mx_M G Y_L_holdsYear d bc bs ex N ce 26 l9 [] Q := by
    intro hf l9
    refine mx_iconst (n := 0) (mx_d D_L_holdsYear 14 rfl) ?_
    refine mx_zret (by rfl) (mx_d D_L_holdsYear 15 rfl) (by first | rfl | assumption) ?_
    rw [hf] at q
    exact q
  refine mx_iload_n (k4 := 1) (mx_d D_L_holdsYear 0 rfl) (by rfl) ?_
  by_cases g1 : z < 0
  · refine mx_if_ltY 26 (mx_d D_L_holdsYear 1 rfl) (by decide) (by omega) (by omega) (by omega) ?_
    exact no (by simp [hyB]; omega)
  · refine mx_if_ltN 26 (mx_d D_L_holdsYear 1 rfl) (by decide) (by omega) (by omega) (by omega) ?_
    refine mx_iload_n (k4 := 1) (mx_d D_L_holdsYear 2 rfl) (by rfl) ?_
    refine mx_aload_n (k4 := 0) (mx_d D_L_holdsYear 3 rfl) (by rfl) ?_
    refine mx_getf hG (idx := 9) (ci := 3) (kf := 0) (mx_d D_L_holdsYear 4 rfl) (by rfl) cls_L (by decide) w_80 (by first | assumption | omega) (by first | assumption | exact va_up_self _ _ _ | (rw [va_up_ne _ _ (by omega)]; first | assumption | exact va_up_self _ _ _ | (rw [va_up_ne _ _ (by omega)]; first | assumption | exact va_up_self _ _ _ | (rw [va_up_ne _ _ (by omega)]; first | assumption | exact va_up_self _ _ _ | (rw [va_up_ne _ _ (by omega)]; first | assumption | exact va_up_self _ _ _ | (rw [va_up_ne _ _ (by omega)]; first | assumption | exact va_up_self _ _ _)))))) (by rfl) ?_
    refine mx_alen hG 1 (mx_d D_L_holdsYear 5 rfl) (by first | assumption | omega) (by first | assumption | exact va_up_self _ _ _ | (rw [va_up_ne _ _ (by omega)]; first | assumption | exact va_up_self _ _ _ | (rw [va_up_ne _ _ (by omega)]; first | assumption | exact va_up_self _ _ _ | (rw [va_up_ne _ _ (by omega)]; first | assumption | exact va_up_self _ _ _ | (rw [va_up_ne _ _ (by omega)]; first | assumption | exact va_up_self _ _ _ | (rw [va_up_ne _ _ (by omega)]; first | assumption | exact va_up_self _ _ _)))))) (by rfl) ?_
    by_cases g2 : z < (Y : Int)
    · obtain ⟨m, rfl⟩ : ∃ m : Nat, z = m := ⟨z.toNat, by omega⟩
      have e : hyB lc Y (m : Int) = lc m := by
        have : m < Y := by omega
        simp [hyB, this]
      refine mx_icmp_geN 26 (mx_d D_L_holdsYear 6 rfl) (by decide) (by omega) (by omega) (by omega) (by omega) (by omega) ?_
      refine mx_aload_n (k4 := 0) (mx_d D_L_holdsYear 7 rfl) (by rfl) ?_
      refine mx_getf hG (idx := 9) (ci := 3) (kf := 0) (mx_d D_L_holdsYear 8 rfl) (by rfl) cls_L (by decide) w_80 (by first | assumption | omega) (by first | assumption | exact va_up_self _ _ _ | (rw [va_up_ne _ _ (by omega)]; first | assumption | exact va_up_self _ _ _ | (rw [va_up_ne _ _ (by omega)]; first | assumption | exact va_up_self _ _ _ | (rw [va_up_ne _ _ (by omega)]; first | assumption | exact va_up_self _ _ _ | (rw [va_up_ne _ _ (by omega)]; first | assumption | exact va_up_self _ _ _ | (rw [va_up_ne _ _ (by omega)]; first | assumption | exact va_up_self _ _ _)))))) (by rfl) ?_
      refine mx_iload_n (k4 := 1) (mx_d D_L_holdsYear 9 rfl) (by rfl) ?_
      refine mx_zaldB hG _ (mx_d D_L_holdsYear 10 rfl) (by first | assumption | omega) (by first | assumption | exact va_up_self _ _ _ | (rw [va_up_ne _ _ (by omega)]; first | assumption | exact va_up_self _ _ _ | (rw [va_up_ne _ _ (by omega)]; first | assumption | exact va_up_self _ _ _ | (rw [va_up_ne _ _ (by omega)]; first | assumption | exact va_up_self _ _ _ | (rw [va_up_ne _ _ (by omega)]; first | assumption | exact va_up_self _ _ _ | (rw [va_up_ne _ _ (by omega)]; first | assumption | exact va_up_self _ _ _)))))) (by rfl) (by omega) (by omega) ?_
      rw [e] at no q
      cases hl : lc m with
      | true =>
        refine mx_if_eqN 26 (mx_d D_L_holdsYear 11 rfl) (by decide) (by decide) (by decide) (by decide) ?_
        refine mx_iconst (n := 1) (mx_d D_L_holdsYear 12 rfl) ?_
        refine mx_goto 27 (mx_d D_L_holdsYear 13 rfl) (by decide) ?_
        refine mx_zret (by rfl) (mx_d D_L_holdsYear 15 rfl) (by first | rfl | assumption) ?_
        rw [hl] at q
        exact q
      | false =>
        refine mx_if_eqY 26 (mx_d D_L_holdsYear 11 rfl) (by decide) (by decide) (by decide) (by decide) ?_
        exact no hl
    · refine mx_icmp_geY 26 (mx_d D_L_holdsYear 6 rfl) (by decide) (by omega) (by omega) (by omega) (by omega) (by omega) ?_
      exact no (by simp [hyB]; omega)
theorem c_L_heaviest (hG : mx_ok G) (ho : o < N) (hc : c < N) {v1 v2 v3 : Value} (h1 : ce o = .inr (3, [.ref (mx_B G + c), v1, v2, v3])) (h2 : ce c = aB G Y lc) (hY : Y ≤ 60) {D W : Nat} {w : Nat → Int} {v4 v5 : Value} (hD : D < N) (hW : W < N) (h3 : ce D = .inr (2, [.ref (mx_B G + W), v4, v5])) (h4 : ce W = aI G Y w) (hw : ∀ j, j < Y → 0 ≤ w j ∧ w j ≤ 1000000)
    (q0 : (∀ j, j < Y → lc j = false → w j ≤ 0) → Q (.inl (some (.int (iI (-1))))) N ce bc bs)
    (q1 : ∀ y, y < Y → lc y = false → 0 < w y → (∀ j, j < Y → lc j = false → w j < w y ∨ (w j = w y ∧ y ≤ j)) → Q (.inl (some (.int (iI (y : Nat))))) N ce bc bs) : mx_M G Y_L_heaviestLeft d bc bs ex N ce 0 [(0, .ref (mx_B G + o)), (1, .ref (mx_B G + D))] [] Q := by
  refine mx_iconst (n := -1) (mx_d D_L_heaviestLeft 0 rfl) ?_
  refine mx_istore_n (k4 := 2) (mx_d D_L_heaviestLeft 1 rfl) (by decide) ?_
  refine mx_iconst (n := 0) (mx_d D_L_heaviestLeft 2 rfl) ?_
  refine mx_istore_n (k4 := 3) (mx_d D_L_heaviestLeft 3 rfl) (by decide) ?_
  refine mx_iconst (n := 0) (mx_d D_L_heaviestLeft 4 rfl) ?_
  refine mx_istore (i := 4) (mx_d D_L_heaviestLeft 5 rfl) (by decide) ?_
  suffices H : ∀ (k i : Nat) (h g : Int), i + k = Y → ((h = -1 ∧ g = 0 ∧ ∀ j, j < i → lc j = false → w j ≤ 0) ∨ (∃ y : Nat, h = y ∧ g = w y ∧ y < i ∧ lc y = false ∧ 0 < w y ∧ ∀ j, j < i → lc j = false → w j < w y ∨ (w j = w y ∧ y ≤ j))) → mx_M G Y_L_heaviestLeft d bc bs ex N ce 7 [(0, .ref (mx_B G + o)), (1, .ref (mx_B G + D)), (2, .int (iI h)), (3, .int (iI g)), (4, .int (iI i))] [] Q from
    mx_loc (by rfl) (H Y 0 (-1) 0 (by omega) (Or.inl ⟨rfl, rfl, fun j hj => absurd hj (by omega)⟩))
  intro k
  induction k with
  | zero =>
    intro i h g hi hh
    obtain rfl : i = Y := by omega
    refine mx_iload (i := 4) (mx_d D_L_heaviestLeft 6 rfl) (by rfl) ?_
    refine mx_aload_n (k4 := 0) (mx_d D_L_heaviestLeft 7 rfl) (by rfl) ?_
    refine mx_getf hG (idx := 9) (ci := 3) (kf := 0) (mx_d D_L_heaviestLeft 8 rfl) (by rfl) cls_L (by decide) w_80 (by first | assumption | omega) (by first | assumption | exact va_up_self _ _ _ | (rw [va_up_ne _ _ (by omega)]; first | assumption | exact va_up_self _ _ _ | (rw [va_up_ne _ _ (by omega)]; first | assumption | exact va_up_self _ _ _ | (rw [va_up_ne _ _ (by omega)]; first | assumption | exact va_up_self _ _ _ | (rw [va_up_ne _ _ (by omega)]; first | assumption | exact va_up_self _ _ _ | (rw [va_up_ne _ _ (by omega)]; first | assumption | exact va_up_self _ _ _)))))) (by rfl) ?_
    refine mx_alen hG 1 (mx_d D_L_heaviestLeft 9 rfl) (by first | assumption | omega) (by first | assumption | exact va_up_self _ _ _ | (rw [va_up_ne _ _ (by omega)]; first | assumption | exact va_up_self _ _ _ | (rw [va_up_ne _ _ (by omega)]; first | assumption | exact va_up_self _ _ _ | (rw [va_up_ne _ _ (by omega)]; first | assumption | exact va_up_self _ _ _ | (rw [va_up_ne _ _ (by omega)]; first | assumption | exact va_up_self _ _ _ | (rw [va_up_ne _ _ (by omega)]; first | assumption | exact va_up_self _ _ _)))))) (by rfl) ?_
    refine mx_icmp_geY 55 (mx_d D_L_heaviestLeft 10 rfl) (by decide) (by omega) (by omega) (by omega) (by omega) (by omega) ?_
    refine mx_iload_n (k4 := 2) (mx_d D_L_heaviestLeft 31 rfl) (by rfl) ?_
    refine mx_iret (by rfl) (mx_d D_L_heaviestLeft 32 rfl) ?_
    rcases hh with ⟨rfl, rfl, hh⟩ | ⟨y, rfl, rfl, y1, y2, y3, y4⟩
    · exact q0 hh
    · exact q1 y y1 y2 y3 y4
  | succ k ih =>
    intro i h g hi hh
    have wi := hw i (by omega)
    have gb : 0 ≤ g ∧ g ≤ 1000000 := by
      rcases hh with ⟨rfl, rfl, hh⟩ | ⟨y, rfl, rfl, y1, y2, y3, y4⟩
      · omega
      · exact hw y (by omega)
    have stay : (lc i = false → w i ≤ g) → mx_M G Y_L_heaviestLeft d bc bs ex N ce 49 [(0, .ref (mx_B G + o)), (1, .ref (mx_B G + D)), (2, .int (iI h)), (3, .int (iI g)), (4, .int (iI i))] [] Q := by
      intro hl
      refine mx_iincI (i := 4) (n := 1) (mx_d D_L_heaviestLeft 29 rfl) (by rfl) (by decide) ?_
      refine mx_goto 7 (mx_d D_L_heaviestLeft 30 rfl) (by decide) ?_
      refine mx_loc (by rfl) (ih (i + 1) h g (by omega) ?_)
      rcases hh with ⟨rfl, rfl, hh⟩ | ⟨y, rfl, rfl, y1, y2, y3, y4⟩
      · refine Or.inl ⟨rfl, rfl, fun j hj hlj => ?_⟩
        by_cases e : j = i
        · subst e; exact hl hlj
        · exact hh j (by omega) hlj
      · refine Or.inr ⟨y, rfl, rfl, by omega, y2, y3, fun j hj hlj => ?_⟩
        by_cases e : j = i
        · subst e; have := hl hlj; omega
        · exact y4 j (by omega) hlj
    refine mx_iload (i := 4) (mx_d D_L_heaviestLeft 6 rfl) (by rfl) ?_
    refine mx_aload_n (k4 := 0) (mx_d D_L_heaviestLeft 7 rfl) (by rfl) ?_
    refine mx_getf hG (idx := 9) (ci := 3) (kf := 0) (mx_d D_L_heaviestLeft 8 rfl) (by rfl) cls_L (by decide) w_80 (by first | assumption | omega) (by first | assumption | exact va_up_self _ _ _ | (rw [va_up_ne _ _ (by omega)]; first | assumption | exact va_up_self _ _ _ | (rw [va_up_ne _ _ (by omega)]; first | assumption | exact va_up_self _ _ _ | (rw [va_up_ne _ _ (by omega)]; first | assumption | exact va_up_self _ _ _ | (rw [va_up_ne _ _ (by omega)]; first | assumption | exact va_up_self _ _ _ | (rw [va_up_ne _ _ (by omega)]; first | assumption | exact va_up_self _ _ _)))))) (by rfl) ?_
    refine mx_alen hG 1 (mx_d D_L_heaviestLeft 9 rfl) (by first | assumption | omega) (by first | assumption | exact va_up_self _ _ _ | (rw [va_up_ne _ _ (by omega)]; first | assumption | exact va_up_self _ _ _ | (rw [va_up_ne _ _ (by omega)]; first | assumption | exact va_up_self _ _ _ | (rw [va_up_ne _ _ (by omega)]; first | assumption | exact va_up_self _ _ _ | (rw [va_up_ne _ _ (by omega)]; first | assumption | exact va_up_self _ _ _ | (rw [va_up_ne _ _ (by omega)]; first | assumption | exact va_up_self _ _ _)))))) (by rfl) ?_
    refine mx_icmp_geN 55 (mx_d D_L_heaviestLeft 10 rfl) (by decide) (by omega) (by omega) (by omega) (by omega) (by omega) ?_
    refine mx_aload_n (k4 := 0) (mx_d D_L_heaviestLeft 11 rfl) (by rfl) ?_
    refine mx_getf hG (idx := 9) (ci := 3) (kf := 0) (mx_d D_L_heaviestLeft 12 rfl) (by rfl) cls_L (by decide) w_80 (by first | assumption | omega) (by first | assumption | exact va_up_self _ _ _ | (rw [va_up_ne _ _ (by omega)]; first | assumption | exact va_up_self _ _ _ | (rw [va_up_ne _ _ (by omega)]; first | assumption | exact va_up_self _ _ _ | (rw [va_up_ne _ _ (by omega)]; first | assumption | exact va_up_self _ _ _ | (rw [va_up_ne _ _ (by omega)]; first | assumption | exact va_up_self _ _ _ | (rw [va_up_ne _ _ (by omega)]; first | assumption | exact va_up_self _ _ _)))))) (by rfl) ?_
    refine mx_iload (i := 4) (mx_d D_L_heaviestLeft 13 rfl) (by rfl) ?_
    refine mx_zaldB hG _ (mx_d D_L_heaviestLeft 14 rfl) (by first | assumption | omega) (by first | assumption | exact va_up_self _ _ _ | (rw [va_up_ne _ _ (by omega)]; first | assumption | exact va_up_self _ _ _ | (rw [va_up_ne _ _ (by omega)]; first | assumption | exact va_up_self _ _ _ | (rw [va_up_ne _ _ (by omega)]; first | assumption | exact va_up_self _ _ _ | (rw [va_up_ne _ _ (by omega)]; first | assumption | exact va_up_self _ _ _ | (rw [va_up_ne _ _ (by omega)]; first | assumption | exact va_up_self _ _ _)))))) (by rfl) (by omega) (by omega) ?_
    cases hl : lc i with
    | true =>
      refine mx_if_neY 49 (mx_d D_L_heaviestLeft 15 rfl) (by decide) (by decide) (by decide) (by decide) ?_
      exact mx_loc (by rfl) (stay (fun h => absurd (hl.symm.trans h) (by decide)))
    | false =>
      refine mx_if_neN 49 (mx_d D_L_heaviestLeft 15 rfl) (by decide) (by decide) (by decide) (by decide) ?_
      refine mx_aload_n (k4 := 1) (mx_d D_L_heaviestLeft 16 rfl) (by rfl) ?_
      refine mx_getf hG (idx := 32) (ci := 2) (kf := 0) (mx_d D_L_heaviestLeft 17 rfl) (by rfl) cls_D (by decide) w_61 (by first | assumption | omega) (by first | assumption | exact va_up_self _ _ _ | (rw [va_up_ne _ _ (by omega)]; first | assumption | exact va_up_self _ _ _ | (rw [va_up_ne _ _ (by omega)]; first | assumption | exact va_up_self _ _ _ | (rw [va_up_ne _ _ (by omega)]; first | assumption | exact va_up_self _ _ _ | (rw [va_up_ne _ _ (by omega)]; first | assumption | exact va_up_self _ _ _ | (rw [va_up_ne _ _ (by omega)]; first | assumption | exact va_up_self _ _ _)))))) (by rfl) ?_
      refine mx_iload (i := 4) (mx_d D_L_heaviestLeft 18 rfl) (by rfl) ?_
      refine mx_ialdI hG _ (mx_d D_L_heaviestLeft 19 rfl) (by first | assumption | omega) (by first | assumption | exact va_up_self _ _ _ | (rw [va_up_ne _ _ (by omega)]; first | assumption | exact va_up_self _ _ _ | (rw [va_up_ne _ _ (by omega)]; first | assumption | exact va_up_self _ _ _ | (rw [va_up_ne _ _ (by omega)]; first | assumption | exact va_up_self _ _ _ | (rw [va_up_ne _ _ (by omega)]; first | assumption | exact va_up_self _ _ _ | (rw [va_up_ne _ _ (by omega)]; first | assumption | exact va_up_self _ _ _)))))) (by rfl) (by omega) (by omega) ?_
      refine mx_iload_n (k4 := 3) (mx_d D_L_heaviestLeft 20 rfl) (by rfl) ?_
      by_cases hg : w i ≤ g
      · refine mx_icmp_leY 49 (mx_d D_L_heaviestLeft 21 rfl) (by decide) (by omega) (by omega) (by omega) (by omega) (by omega) ?_
        exact mx_loc (by rfl) (stay (fun _ => hg))
      · refine mx_icmp_leN 49 (mx_d D_L_heaviestLeft 21 rfl) (by decide) (by omega) (by omega) (by omega) (by omega) (by omega) ?_
        refine mx_iload (i := 4) (mx_d D_L_heaviestLeft 22 rfl) (by rfl) ?_
        refine mx_istore_n (k4 := 2) (mx_d D_L_heaviestLeft 23 rfl) (by decide) ?_
        refine mx_aload_n (k4 := 1) (mx_d D_L_heaviestLeft 24 rfl) (by rfl) ?_
        refine mx_getf hG (idx := 32) (ci := 2) (kf := 0) (mx_d D_L_heaviestLeft 25 rfl) (by rfl) cls_D (by decide) w_61 (by first | assumption | omega) (by first | assumption | exact va_up_self _ _ _ | (rw [va_up_ne _ _ (by omega)]; first | assumption | exact va_up_self _ _ _ | (rw [va_up_ne _ _ (by omega)]; first | assumption | exact va_up_self _ _ _ | (rw [va_up_ne _ _ (by omega)]; first | assumption | exact va_up_self _ _ _ | (rw [va_up_ne _ _ (by omega)]; first | assumption | exact va_up_self _ _ _ | (rw [va_up_ne _ _ (by omega)]; first | assumption | exact va_up_self _ _ _)))))) (by rfl) ?_
        refine mx_iload (i := 4) (mx_d D_L_heaviestLeft 26 rfl) (by rfl) ?_
        refine mx_ialdI hG _ (mx_d D_L_heaviestLeft 27 rfl) (by first | assumption | omega) (by first | assumption | exact va_up_self _ _ _ | (rw [va_up_ne _ _ (by omega)]; first | assumption | exact va_up_self _ _ _ | (rw [va_up_ne _ _ (by omega)]; first | assumption | exact va_up_self _ _ _ | (rw [va_up_ne _ _ (by omega)]; first | assumption | exact va_up_self _ _ _ | (rw [va_up_ne _ _ (by omega)]; first | assumption | exact va_up_self _ _ _ | (rw [va_up_ne _ _ (by omega)]; first | assumption | exact va_up_self _ _ _)))))) (by rfl) (by omega) (by omega) ?_
        refine mx_istore_n (k4 := 3) (mx_d D_L_heaviestLeft 28 rfl) (by decide) ?_
        refine mx_iincI (i := 4) (n := 1) (mx_d D_L_heaviestLeft 29 rfl) (by rfl) (by decide) ?_
        refine mx_goto 7 (mx_d D_L_heaviestLeft 30 rfl) (by decide) ?_
        refine mx_loc (by rfl) (ih (i + 1) i (w i) (by omega) (Or.inr ⟨i, rfl, rfl, by omega, hl, by omega, fun j hj hlj => ?_⟩))
        by_cases e : j = i
        · subst e; omega
        · rcases hh with ⟨rfl, rfl, hh⟩ | ⟨y, rfl, rfl, y1, y2, y3, y4⟩
          · have := hh j (by omega) hlj; omega
          · have := y4 j (by omega) hlj; omega
theorem hyB_at {i : Nat} (hi : i < Y) : hyB lc Y (i : Int) = lc i := by simp [hyB, hi]
theorem c_L_findSpans (hG : mx_ok G) (ho : o < N) (hc : c < N) (hf : f < N) (hl : l < N) (e1 : o ≠ c) (e2 : o ≠ f) (e3 : o ≠ l) (e4 : c ≠ f) (e5 : c ≠ l) (e6 : f ≠ l) (h1 : ce o = .inr (3, [.ref (mx_B G + c), .ref (mx_B G + f), .ref (mx_B G + l), .int (iI n)])) (h2 : ce c = aB G Y lc) (h3 : ce f = aI G Y lf) (h4 : ce l = aI G Y ll) (hY : Y ≤ 60)
    (q : ∀ ce' lf' ll', (∀ k, k ≠ o → k ≠ f → k ≠ l → ce' k = ce k) → ce' o = .inr (3, [.ref (mx_B G + c), .ref (mx_B G + f), .ref (mx_B G + l), .int (iI (bgN lc Y : Nat))]) → ce' f = aI G Y lf' → ce' l = aI G Y ll' → spAll lc Y (bgN lc Y) lf' ll' → Q (.inl none) N ce' bc bs) : mx_M G Y_L_findSpans (d + 1) bc bs ex N ce 0 [(0, .ref (mx_B G + o))] [] Q := by
  refine mx_aload_n (k4 := 0) (mx_d D_L_findSpans 0 rfl) (by rfl) ?_
  refine mx_iconst (n := 0) (mx_d D_L_findSpans 1 rfl) ?_
  refine mx_putf hG (idx := 38) (ci := 3) (kf := 3) (t := (.int)) (mx_d D_L_findSpans 2 rfl) (by rfl) cls_L (by decide) (Or.inl rfl) w_85 (by first | assumption | omega) (by first | assumption | exact va_up_self _ _ _ | (rw [va_up_ne _ _ (by omega)]; first | assumption | exact va_up_self _ _ _ | (rw [va_up_ne _ _ (by omega)]; first | assumption | exact va_up_self _ _ _ | (rw [va_up_ne _ _ (by omega)]; first | assumption | exact va_up_self _ _ _ | (rw [va_up_ne _ _ (by omega)]; first | assumption | exact va_up_self _ _ _ | (rw [va_up_ne _ _ (by omega)]; first | assumption | exact va_up_self _ _ _)))))) (by exact Nat.le_of_ble_eq_true rfl) (by decide +kernel) (by rfl) (by rfl) ?_
  refine mx_iconst (n := 0) (mx_d D_L_findSpans 3 rfl) ?_
  refine mx_istore_n (k4 := 1) (mx_d D_L_findSpans 4 rfl) (by decide) ?_
  suffices H : ∀ (k i : Nat) (ce' : Nat → va_E) (n : Nat) (lf ll : Nat → Int), i + k = Y → spInv lc Y i n lf ll → (∀ k, k ≠ o → k ≠ f → k ≠ l → ce' k = ce k) → ce' o = .inr (3, [.ref (mx_B G + c), .ref (mx_B G + f), .ref (mx_B G + l), .int (iI (n : Nat))]) → ce' f = aI G Y lf → ce' l = aI G Y ll → mx_M G Y_L_findSpans (d + 1) bc bs ex N ce' 7 [(0, .ref (mx_B G + o)), (1, .int (iI i))] [] Q from
    mx_loc (by rfl) (H Y 0 _ 0 lf ll (by omega) ⟨by omega, fun k hk => absurd hk (by omega), fun h => absurd h.1 (by omega), fun _ => rfl⟩ (fun k k1 k2 k3 => va_up_ne _ _ k1) (va_up_self _ _ _) (by rw [va_up_ne _ _ (Ne.symm e2)]; exact h3) (by rw [va_up_ne _ _ (Ne.symm e3)]; exact h4))
  intro k
  induction k with
  | zero =>
    intro i ce' n lf ll hi hI k1 k2 k3 k4
    obtain rfl : i = Y := by omega
    have k5 : ce' c = _ := (k1 c (Ne.symm e1) e4 e5).trans h2
    have hn := hI.2.2.2 (fun h => absurd h.2.1 (by omega))
    refine mx_iload_n (k4 := 1) (mx_d D_L_findSpans 5 rfl) (by rfl) ?_
    refine mx_aload_n (k4 := 0) (mx_d D_L_findSpans 6 rfl) (by rfl) ?_
    refine mx_getf hG (idx := 9) (ci := 3) (kf := 0) (mx_d D_L_findSpans 7 rfl) (by rfl) cls_L (by decide) w_80 (by first | assumption | omega) (by first | assumption | exact va_up_self _ _ _ | (rw [va_up_ne _ _ (by omega)]; first | assumption | exact va_up_self _ _ _ | (rw [va_up_ne _ _ (by omega)]; first | assumption | exact va_up_self _ _ _ | (rw [va_up_ne _ _ (by omega)]; first | assumption | exact va_up_self _ _ _ | (rw [va_up_ne _ _ (by omega)]; first | assumption | exact va_up_self _ _ _ | (rw [va_up_ne _ _ (by omega)]; first | assumption | exact va_up_self _ _ _)))))) (by rfl) ?_
    refine mx_alen hG 1 (mx_d D_L_findSpans 8 rfl) (by first | assumption | omega) (by first | assumption | exact va_up_self _ _ _ | (rw [va_up_ne _ _ (by omega)]; first | assumption | exact va_up_self _ _ _ | (rw [va_up_ne _ _ (by omega)]; first | assumption | exact va_up_self _ _ _ | (rw [va_up_ne _ _ (by omega)]; first | assumption | exact va_up_self _ _ _ | (rw [va_up_ne _ _ (by omega)]; first | assumption | exact va_up_self _ _ _ | (rw [va_up_ne _ _ (by omega)]; first | assumption | exact va_up_self _ _ _)))))) (by rfl) ?_
    refine mx_icmp_geY 88 (mx_d D_L_findSpans 9 rfl) (by decide) (by omega) (by omega) (by omega) (by omega) (by omega) ?_
    refine mx_vret (by rfl) (mx_d D_L_findSpans 50 rfl) ?_
    exact q ce' lf ll k1 (by rw [hn]; exact k2) k3 k4 (by rw [hn]; exact hI.2.1)
  | succ k ih =>
    intro i ce' n lf ll hi hI k1 k2 k3 k4
    have k5 : ce' c = _ := (k1 c (Ne.symm e1) e4 e5).trans h2
    have hni := hI.1
    have hyi := hyB_at (lc := lc) (show i < Y by omega)
    have next : ∀ (ce' : Nat → va_E) (n : Nat) (lf ll : Nat → Int), spInv lc Y (i + 1) n lf ll → (∀ k, k ≠ o → k ≠ f → k ≠ l → ce' k = ce k) → ce' o = .inr (3, [.ref (mx_B G + c), .ref (mx_B G + f), .ref (mx_B G + l), .int (iI (n : Nat))]) → ce' f = aI G Y lf → ce' l = aI G Y ll → mx_M G Y_L_findSpans (d + 1) bc bs ex N ce' 82 [(0, .ref (mx_B G + o)), (1, .int (iI i))] [] Q := by
      intro ce' n lf ll hI k1 k2 k3 k4
      refine mx_iincI (i := 1) (n := 1) (mx_d D_L_findSpans 48 rfl) (by rfl) (by decide) ?_
      refine mx_goto 7 (mx_d D_L_findSpans 49 rfl) (by decide) ?_
      exact mx_loc (by rfl) (ih (i + 1) ce' n lf ll (by omega) hI k1 k2 k3 k4)
    refine mx_iload_n (k4 := 1) (mx_d D_L_findSpans 5 rfl) (by rfl) ?_
    refine mx_aload_n (k4 := 0) (mx_d D_L_findSpans 6 rfl) (by rfl) ?_
    refine mx_getf hG (idx := 9) (ci := 3) (kf := 0) (mx_d D_L_findSpans 7 rfl) (by rfl) cls_L (by decide) w_80 (by first | assumption | omega) (by first | assumption | exact va_up_self _ _ _ | (rw [va_up_ne _ _ (by omega)]; first | assumption | exact va_up_self _ _ _ | (rw [va_up_ne _ _ (by omega)]; first | assumption | exact va_up_self _ _ _ | (rw [va_up_ne _ _ (by omega)]; first | assumption | exact va_up_self _ _ _ | (rw [va_up_ne _ _ (by omega)]; first | assumption | exact va_up_self _ _ _ | (rw [va_up_ne _ _ (by omega)]; first | assumption | exact va_up_self _ _ _)))))) (by rfl) ?_
    refine mx_alen hG 1 (mx_d D_L_findSpans 8 rfl) (by first | assumption | omega) (by first | assumption | exact va_up_self _ _ _ | (rw [va_up_ne _ _ (by omega)]; first | assumption | exact va_up_self _ _ _ | (rw [va_up_ne _ _ (by omega)]; first | assumption | exact va_up_self _ _ _ | (rw [va_up_ne _ _ (by omega)]; first | assumption | exact va_up_self _ _ _ | (rw [va_up_ne _ _ (by omega)]; first | assumption | exact va_up_self _ _ _ | (rw [va_up_ne _ _ (by omega)]; first | assumption | exact va_up_self _ _ _)))))) (by rfl) ?_
    refine mx_icmp_geN 88 (mx_d D_L_findSpans 9 rfl) (by decide) (by omega) (by omega) (by omega) (by omega) (by omega) ?_
    refine mx_aload_n (k4 := 0) (mx_d D_L_findSpans 10 rfl) (by rfl) ?_
    refine mx_iload_n (k4 := 1) (mx_d D_L_findSpans 11 rfl) (by rfl) ?_
    refine mx_callV hG (Y' := Y_L_holdsYear) (ci := 3) [_] (mx_d D_L_findSpans 12 rfl) in_L_holdsYear w_511 w_513 s_L_holdsYear (by rfl) np_L_holdsYear (by exact Nat.le_of_ble_eq_true rfl) (by rfl) (by first | assumption | omega) (by first | assumption | exact va_up_self _ _ _ | (rw [va_up_ne _ _ (by omega)]; first | assumption | exact va_up_self _ _ _ | (rw [va_up_ne _ _ (by omega)]; first | assumption | exact va_up_self _ _ _ | (rw [va_up_ne _ _ (by omega)]; first | assumption | exact va_up_self _ _ _ | (rw [va_up_ne _ _ (by omega)]; first | assumption | exact va_up_self _ _ _ | (rw [va_up_ne _ _ (by omega)]; first | assumption | exact va_up_self _ _ _)))))) (by rfl) (by exact Nat.le_of_ble_eq_true rfl) (c_L_holds hG ho hc k2 k5 hY (by omega) (by omega) ?_)
    rw [hyi]
    cases hli : lc i with
    | false =>
      refine mx_if_eqY 44 (mx_d D_L_findSpans 13 rfl) (by decide) (by decide) (by decide) (by decide) ?_
      refine mx_aload_n (k4 := 0) (mx_d D_L_findSpans 26 rfl) (by rfl) ?_
      refine mx_iload_n (k4 := 1) (mx_d D_L_findSpans 27 rfl) (by rfl) ?_
      refine mx_callV hG (Y' := Y_L_holdsYear) (ci := 3) [_] (mx_d D_L_findSpans 28 rfl) in_L_holdsYear w_511 w_513 s_L_holdsYear (by rfl) np_L_holdsYear (by exact Nat.le_of_ble_eq_true rfl) (by rfl) (by first | assumption | omega) (by first | assumption | exact va_up_self _ _ _ | (rw [va_up_ne _ _ (by omega)]; first | assumption | exact va_up_self _ _ _ | (rw [va_up_ne _ _ (by omega)]; first | assumption | exact va_up_self _ _ _ | (rw [va_up_ne _ _ (by omega)]; first | assumption | exact va_up_self _ _ _ | (rw [va_up_ne _ _ (by omega)]; first | assumption | exact va_up_self _ _ _ | (rw [va_up_ne _ _ (by omega)]; first | assumption | exact va_up_self _ _ _)))))) (by rfl) (by exact Nat.le_of_ble_eq_true rfl) (c_L_holds hG ho hc k2 k5 hY (by omega) (by omega) ?_)
      rw [hyi, hli]
      refine mx_if_eqY 82 (mx_d D_L_findSpans 29 rfl) (by decide) (by decide) (by decide) (by decide) ?_
      refine mx_loc (by rfl) (next ce' n lf ll ⟨by omega, hI.2.1, fun h => ?_, fun _ => ?_⟩ k1 k2 k3 k4)
      · have := h.2.2.1; rw [Nat.add_sub_cancel, hli] at this; exact absurd this (by decide)
      · simp only [bgN, bgB, hli, Bool.false_and]
        exact hI.2.2.2 (fun h => by rw [h.2.2.2] at hli; exact absurd hli (by decide))
    | true =>
      have second : ∀ (ce' : Nat → va_E) (lf : Nat → Int) (F : Nat), lf n = F → F ≤ i → bgB lc F = true → bgN lc F = n → (∀ j, F ≤ j → j ≤ i → lc j = true) → bgN lc (i + 1) = n + 1 → spAll lc Y n lf ll → (∀ k, k ≠ o → k ≠ f → k ≠ l → ce' k = ce k) → ce' o = .inr (3, [.ref (mx_B G + c), .ref (mx_B G + f), .ref (mx_B G + l), .int (iI (n : Nat))]) → ce' f = aI G Y lf → ce' l = aI G Y ll → mx_M G Y_L_findSpans (d + 1) bc bs ex N ce' 44 [(0, .ref (mx_B G + o)), (1, .int (iI i))] [] Q := by
        intro ce' lf F f1 f2 f3 f4 f5 f6 f7 k1 k2 k3 k4
        have k5 : ce' c = _ := (k1 c (Ne.symm e1) e4 e5).trans h2
        refine mx_aload_n (k4 := 0) (mx_d D_L_findSpans 26 rfl) (by rfl) ?_
        refine mx_iload_n (k4 := 1) (mx_d D_L_findSpans 27 rfl) (by rfl) ?_
        refine mx_callV hG (Y' := Y_L_holdsYear) (ci := 3) [_] (mx_d D_L_findSpans 28 rfl) in_L_holdsYear w_511 w_513 s_L_holdsYear (by rfl) np_L_holdsYear (by exact Nat.le_of_ble_eq_true rfl) (by rfl) (by first | assumption | omega) (by first | assumption | exact va_up_self _ _ _ | (rw [va_up_ne _ _ (by omega)]; first | assumption | exact va_up_self _ _ _ | (rw [va_up_ne _ _ (by omega)]; first | assumption | exact va_up_self _ _ _ | (rw [va_up_ne _ _ (by omega)]; first | assumption | exact va_up_self _ _ _ | (rw [va_up_ne _ _ (by omega)]; first | assumption | exact va_up_self _ _ _ | (rw [va_up_ne _ _ (by omega)]; first | assumption | exact va_up_self _ _ _)))))) (by rfl) (by exact Nat.le_of_ble_eq_true rfl) (c_L_holds hG ho hc k2 k5 hY (by omega) (by omega) ?_)
        rw [hyi, hli]
        refine mx_if_eqN 82 (mx_d D_L_findSpans 29 rfl) (by decide) (by decide) (by decide) (by decide) ?_
        refine mx_aload_n (k4 := 0) (mx_d D_L_findSpans 30 rfl) (by rfl) ?_
        refine mx_iload_n (k4 := 1) (mx_d D_L_findSpans 31 rfl) (by rfl) ?_
        refine mx_iconst (n := 1) (mx_d D_L_findSpans 32 rfl) ?_
        refine mx_iaddI (mx_d D_L_findSpans 33 rfl) ?_
        refine mx_callV hG (Y' := Y_L_holdsYear) (ci := 3) [_] (mx_d D_L_findSpans 34 rfl) in_L_holdsYear w_511 w_513 s_L_holdsYear (by rfl) np_L_holdsYear (by exact Nat.le_of_ble_eq_true rfl) (by rfl) (by first | assumption | omega) (by first | assumption | exact va_up_self _ _ _ | (rw [va_up_ne _ _ (by omega)]; first | assumption | exact va_up_self _ _ _ | (rw [va_up_ne _ _ (by omega)]; first | assumption | exact va_up_self _ _ _ | (rw [va_up_ne _ _ (by omega)]; first | assumption | exact va_up_self _ _ _ | (rw [va_up_ne _ _ (by omega)]; first | assumption | exact va_up_self _ _ _ | (rw [va_up_ne _ _ (by omega)]; first | assumption | exact va_up_self _ _ _)))))) (by rfl) (by exact Nat.le_of_ble_eq_true rfl) (c_L_holds hG ho hc k2 k5 hY (by omega) (by omega) ?_)
        cases hn1 : hyB lc Y ((i : Int) + 1) with
        | true =>
          have hn2 : i + 1 < Y ∧ lc (i + 1) = true := by
            simp only [hyB, Bool.and_eq_true, decide_eq_true_eq] at hn1
            exact ⟨by omega, hn1.2⟩
          refine mx_if_neY 82 (mx_d D_L_findSpans 35 rfl) (by decide) (by decide) (by decide) (by decide) ?_
          refine mx_loc (by rfl) (next ce' n lf ll ⟨by omega, f7, fun _ => ⟨f6, F, f1, by omega, f3, f4, fun j j1 j2 => f5 j j1 (by omega)⟩, fun h => ?_⟩ k1 k2 k3 k4)
          exact absurd ⟨by omega, hn2.1, by rw [Nat.add_sub_cancel]; exact hli, hn2.2⟩ h
        | false =>
          have hn2 : ¬ (i + 1 < Y ∧ lc (i + 1) = true) := by
            intro h
            have : hyB lc Y ((i : Int) + 1) = true := by
              rw [show ((i : Int) + 1) = ((i + 1 : Nat) : Int) from rfl, hyB_at h.1]; exact h.2
            rw [this] at hn1; exact absurd hn1 (by decide)
          refine mx_if_neN 82 (mx_d D_L_findSpans 35 rfl) (by decide) (by decide) (by decide) (by decide) ?_
          refine mx_aload_n (k4 := 0) (mx_d D_L_findSpans 36 rfl) (by rfl) ?_
          refine mx_getf hG (idx := 19) (ci := 3) (kf := 2) (mx_d D_L_findSpans 37 rfl) (by rfl) cls_L (by decide) w_83 (by first | assumption | omega) (by first | assumption | exact va_up_self _ _ _ | (rw [va_up_ne _ _ (by omega)]; first | assumption | exact va_up_self _ _ _ | (rw [va_up_ne _ _ (by omega)]; first | assumption | exact va_up_self _ _ _ | (rw [va_up_ne _ _ (by omega)]; first | assumption | exact va_up_self _ _ _ | (rw [va_up_ne _ _ (by omega)]; first | assumption | exact va_up_self _ _ _ | (rw [va_up_ne _ _ (by omega)]; first | assumption | exact va_up_self _ _ _)))))) (by rfl) ?_
          refine mx_aload_n (k4 := 0) (mx_d D_L_findSpans 38 rfl) (by rfl) ?_
          refine mx_getf hG (idx := 38) (ci := 3) (kf := 3) (mx_d D_L_findSpans 39 rfl) (by rfl) cls_L (by decide) w_85 (by first | assumption | omega) (by first | assumption | exact va_up_self _ _ _ | (rw [va_up_ne _ _ (by omega)]; first | assumption | exact va_up_self _ _ _ | (rw [va_up_ne _ _ (by omega)]; first | assumption | exact va_up_self _ _ _ | (rw [va_up_ne _ _ (by omega)]; first | assumption | exact va_up_self _ _ _ | (rw [va_up_ne _ _ (by omega)]; first | assumption | exact va_up_self _ _ _ | (rw [va_up_ne _ _ (by omega)]; first | assumption | exact va_up_self _ _ _)))))) (by rfl) ?_
          refine mx_iload_n (k4 := 1) (mx_d D_L_findSpans 40 rfl) (by rfl) ?_
          refine mx_iastI hG _ _ (mx_d D_L_findSpans 41 rfl) (by first | assumption | omega) (by first | assumption | exact va_up_self _ _ _ | (rw [va_up_ne _ _ (by omega)]; first | assumption | exact va_up_self _ _ _ | (rw [va_up_ne _ _ (by omega)]; first | assumption | exact va_up_self _ _ _ | (rw [va_up_ne _ _ (by omega)]; first | assumption | exact va_up_self _ _ _ | (rw [va_up_ne _ _ (by omega)]; first | assumption | exact va_up_self _ _ _ | (rw [va_up_ne _ _ (by omega)]; first | assumption | exact va_up_self _ _ _)))))) (by rfl) (by rfl) (by omega) (by omega) ?_
          refine mx_aload_n (k4 := 0) (mx_d D_L_findSpans 42 rfl) (by rfl) ?_
          refine mx_dup (mx_d D_L_findSpans 43 rfl) (by rfl) ?_
          refine mx_getf hG (idx := 38) (ci := 3) (kf := 3) (mx_d D_L_findSpans 44 rfl) (by rfl) cls_L (by decide) w_85 (by first | assumption | omega) (by first | assumption | exact va_up_self _ _ _ | (rw [va_up_ne _ _ (by omega)]; first | assumption | exact va_up_self _ _ _ | (rw [va_up_ne _ _ (by omega)]; first | assumption | exact va_up_self _ _ _ | (rw [va_up_ne _ _ (by omega)]; first | assumption | exact va_up_self _ _ _ | (rw [va_up_ne _ _ (by omega)]; first | assumption | exact va_up_self _ _ _ | (rw [va_up_ne _ _ (by omega)]; first | assumption | exact va_up_self _ _ _)))))) (by rfl) ?_
          refine mx_iconst (n := 1) (mx_d D_L_findSpans 45 rfl) ?_
          refine mx_iaddI (mx_d D_L_findSpans 46 rfl) ?_
          refine mx_putf hG (idx := 38) (ci := 3) (kf := 3) (t := (.int)) (mx_d D_L_findSpans 47 rfl) (by rfl) cls_L (by decide) (Or.inl rfl) w_85 (by first | assumption | omega) (by first | assumption | exact va_up_self _ _ _ | (rw [va_up_ne _ _ (by omega)]; first | assumption | exact va_up_self _ _ _ | (rw [va_up_ne _ _ (by omega)]; first | assumption | exact va_up_self _ _ _ | (rw [va_up_ne _ _ (by omega)]; first | assumption | exact va_up_self _ _ _ | (rw [va_up_ne _ _ (by omega)]; first | assumption | exact va_up_self _ _ _ | (rw [va_up_ne _ _ (by omega)]; first | assumption | exact va_up_self _ _ _)))))) (by exact Nat.le_of_ble_eq_true rfl) (by decide +kernel) (by rfl) (by rfl) ?_
          refine mx_loc (by rfl) (next _ (n + 1) lf (va_up ll n i) ⟨by omega, fun k hk => ?_, fun h => absurd ⟨h.2.1, h.2.2.2⟩ hn2, fun _ => f6⟩ (fun k k6 k7 k8 => ?_) (va_up_self _ _ _) ?_ ?_)
          · by_cases e : k = n
            · subst e
              exact ⟨F, i, f1, va_up_self _ _ _, f2, by omega, f3, f4, f5, hn2⟩
            · rw [va_up_ne _ _ e]; exact f7 k (by omega)
          · rw [va_up_ne _ _ k6, va_up_ne _ _ k8]; exact k1 k k6 k7 k8
          · rw [va_up_ne _ _ (Ne.symm e2), va_up_ne _ _ e6]; exact k3
          · rw [va_up_ne _ _ (Ne.symm e3), va_up_self]
      refine mx_if_eqN 44 (mx_d D_L_findSpans 13 rfl) (by decide) (by decide) (by decide) (by decide) ?_
      refine mx_aload_n (k4 := 0) (mx_d D_L_findSpans 14 rfl) (by rfl) ?_
      refine mx_iload_n (k4 := 1) (mx_d D_L_findSpans 15 rfl) (by rfl) ?_
      refine mx_iconst (n := 1) (mx_d D_L_findSpans 16 rfl) ?_
      refine mx_isubI (mx_d D_L_findSpans 17 rfl) ?_
      refine mx_callV hG (Y' := Y_L_holdsYear) (ci := 3) [_] (mx_d D_L_findSpans 18 rfl) in_L_holdsYear w_511 w_513 s_L_holdsYear (by rfl) np_L_holdsYear (by exact Nat.le_of_ble_eq_true rfl) (by rfl) (by first | assumption | omega) (by first | assumption | exact va_up_self _ _ _ | (rw [va_up_ne _ _ (by omega)]; first | assumption | exact va_up_self _ _ _ | (rw [va_up_ne _ _ (by omega)]; first | assumption | exact va_up_self _ _ _ | (rw [va_up_ne _ _ (by omega)]; first | assumption | exact va_up_self _ _ _ | (rw [va_up_ne _ _ (by omega)]; first | assumption | exact va_up_self _ _ _ | (rw [va_up_ne _ _ (by omega)]; first | assumption | exact va_up_self _ _ _)))))) (by rfl) (by exact Nat.le_of_ble_eq_true rfl) (c_L_holds hG ho hc k2 k5 hY (by omega) (by omega) ?_)
      cases hp : hyB lc Y ((i : Int) - 1) with
      | true =>
        have hp2 : 0 < i ∧ lc (i - 1) = true := by
          simp only [hyB, Bool.and_eq_true, decide_eq_true_eq] at hp
          refine ⟨by omega, ?_⟩
          have := hp.2
          rw [show ((i : Int) - 1).toNat = i - 1 from by omega] at this
          exact this
        refine mx_if_neY 44 (mx_d D_L_findSpans 19 rfl) (by decide) (by decide) (by decide) (by decide) ?_
        obtain ⟨g1, F, g2, g3, g4, g5, g6⟩ := hI.2.2.1 ⟨hp2.1, by omega, hp2.2, hli⟩
        refine mx_loc (by rfl) (second ce' lf F g2 (by omega) g4 g5 (fun j j1 j2 => ?_) ?_ hI.2.1 k1 k2 k3 k4)
        · by_cases e : j = i
          · subst e; exact hli
          · exact g6 j j1 (by omega)
        · have : bgB lc i = false := by
            have h0 : ¬ i = 0 := by omega
            simp [bgB, hli, hp2.2, h0]
          simp only [bgN, this]
          exact g1
      | false =>
        have hp2 : i = 0 ∨ lc (i - 1) = false := by
          by_cases h0 : i = 0
          · exact Or.inl h0
          · right
            cases hq : lc (i - 1) with
            | false => rfl
            | true =>
              have : hyB lc Y ((i : Int) - 1) = true := by
                rw [show ((i : Int) - 1) = ((i - 1 : Nat) : Int) from by omega, hyB_at (by omega)]; exact hq
              rw [this] at hp; exact absurd hp (by decide)
        have hb : bgB lc i = true := by
          unfold bgB; rw [hli]; rcases hp2 with h | h <;> simp [h]
        have hno : ¬ spOpen lc Y i := by
          intro h
          rcases hp2 with h0 | h0
          · have := h.1; omega
          · rw [h.2.2.1] at h0; exact absurd h0 (by decide)
        refine mx_if_neN 44 (mx_d D_L_findSpans 19 rfl) (by decide) (by decide) (by decide) (by decide) ?_
        refine mx_aload_n (k4 := 0) (mx_d D_L_findSpans 20 rfl) (by rfl) ?_
        refine mx_getf hG (idx := 15) (ci := 3) (kf := 1) (mx_d D_L_findSpans 21 rfl) (by rfl) cls_L (by decide) w_81 (by first | assumption | omega) (by first | assumption | exact va_up_self _ _ _ | (rw [va_up_ne _ _ (by omega)]; first | assumption | exact va_up_self _ _ _ | (rw [va_up_ne _ _ (by omega)]; first | assumption | exact va_up_self _ _ _ | (rw [va_up_ne _ _ (by omega)]; first | assumption | exact va_up_self _ _ _ | (rw [va_up_ne _ _ (by omega)]; first | assumption | exact va_up_self _ _ _ | (rw [va_up_ne _ _ (by omega)]; first | assumption | exact va_up_self _ _ _)))))) (by rfl) ?_
        refine mx_aload_n (k4 := 0) (mx_d D_L_findSpans 22 rfl) (by rfl) ?_
        refine mx_getf hG (idx := 38) (ci := 3) (kf := 3) (mx_d D_L_findSpans 23 rfl) (by rfl) cls_L (by decide) w_85 (by first | assumption | omega) (by first | assumption | exact va_up_self _ _ _ | (rw [va_up_ne _ _ (by omega)]; first | assumption | exact va_up_self _ _ _ | (rw [va_up_ne _ _ (by omega)]; first | assumption | exact va_up_self _ _ _ | (rw [va_up_ne _ _ (by omega)]; first | assumption | exact va_up_self _ _ _ | (rw [va_up_ne _ _ (by omega)]; first | assumption | exact va_up_self _ _ _ | (rw [va_up_ne _ _ (by omega)]; first | assumption | exact va_up_self _ _ _)))))) (by rfl) ?_
        refine mx_iload_n (k4 := 1) (mx_d D_L_findSpans 24 rfl) (by rfl) ?_
        refine mx_iastI hG _ _ (mx_d D_L_findSpans 25 rfl) (by first | assumption | omega) (by first | assumption | exact va_up_self _ _ _ | (rw [va_up_ne _ _ (by omega)]; first | assumption | exact va_up_self _ _ _ | (rw [va_up_ne _ _ (by omega)]; first | assumption | exact va_up_self _ _ _ | (rw [va_up_ne _ _ (by omega)]; first | assumption | exact va_up_self _ _ _ | (rw [va_up_ne _ _ (by omega)]; first | assumption | exact va_up_self _ _ _ | (rw [va_up_ne _ _ (by omega)]; first | assumption | exact va_up_self _ _ _)))))) (by rfl) (by rfl) (by omega) (by omega) ?_
        refine mx_loc (by rfl) (second _ (va_up lf n i) i (va_up_self _ _ _) (by omega) hb (hI.2.2.2 hno) (fun j j1 j2 => by rw [show j = i from by omega]; exact hli) ?_ (fun k hk => ?_) (fun k k6 k7 k8 => ?_) ?_ ?_ ?_)
        · simp only [bgN, hb, if_true, hI.2.2.2 hno]
        · rw [va_up_ne _ _ (by omega)]; exact hI.2.1 k hk
        · rw [va_up_ne _ _ k7]; exact k1 k k6 k7 k8
        · rw [va_up_ne _ _ e2]; exact k2
        · rw [va_up_self]
        · rw [va_up_ne _ _ (Ne.symm e6)]; exact k4
theorem c_L_choose (hG : mx_ok G) (ho : o < N) (hc : c < N) (hf : f < N) (hl : l < N) (e1 : o ≠ c) (e2 : o ≠ f) (e3 : o ≠ l) (e4 : c ≠ f) (e5 : c ≠ l) (e6 : f ≠ l) (h1 : ce o = .inr (3, [.ref (mx_B G + c), .ref (mx_B G + f), .ref (mx_B G + l), .int (iI n)])) (h2 : ce c = aB G Y lc) (h3 : ce f = aI G Y lf) (h4 : ce l = aI G Y ll) (hY : Y ≤ 60) {D W : Nat} {w : Nat → Int} {A S : Int} (hD : D < N) (hW : W < N) (e7 : D ≠ c) (e8 : W ≠ c) (h5 : ce D = .inr (2, [.ref (mx_B G + W), .int (iI A), .int (iI S)])) (h6 : ce W = aI G Y w) (hw : ∀ j, j < Y → 0 ≤ w j ∧ w j ≤ 1000000) {u v : Int} (hu1 : 0 ≤ u) (hu2 : u ≤ 1000) (hv1 : 0 ≤ v) (hv2 : v ≤ 1000)
    (q : ∀ ce' lc' lf' ll', (∀ k, k ≠ o → k ≠ c → k ≠ f → k ≠ l → ce' k = ce k) → ce' o = .inr (3, [.ref (mx_B G + c), .ref (mx_B G + f), .ref (mx_B G + l), .int (iI (bgN lc' Y : Nat))]) → ce' c = aB G Y lc' → ce' f = aI G Y lf' → ce' l = aI G Y ll' → spAll lc' Y (bgN lc' Y) lf' ll' → (∀ y, y < Y → lc' y = need w Y u v y) → Q (.inl none) N ce' bc bs) : mx_M G Y_L_choose (d + 2) bc bs ex N ce 0 [(0, .ref (mx_B G + o)), (1, .ref (mx_B G + D)), (2, .int (iI u)), (3, .int (iI v))] [] Q := by
  have hsum := sumTo_bd (f := w) (n := Y) (M := 1000000) hw
  have hdue0 : 0 ≤ u * sumTo w Y := Int.mul_nonneg hu1 hsum.1
  have hdue1 : u * sumTo w Y ≤ 1000 * (60 * 1000000) := Int.mul_le_mul hu2 (by omega) hsum.1 (by omega)
  have last : ∀ (lc' : Nat → Bool) (l9 : List (Nat × Value)), mx_get l9 0 = some (.ref (mx_B G + o)) → (∀ y, y < Y → lc' y = need w Y u v y) → mx_M G Y_L_choose (d + 2) bc bs ex N (va_up ce c (aB G Y lc')) 107 l9 [] Q := by
    intro lc' l9 l0 hn
    refine mx_loc (l' := [(0, .ref (mx_B G + o))]) (by simp only [List.map_cons, List.map_nil, l0]) ?_
    refine mx_aload_n (k4 := 0) (mx_d D_L_choose 60 rfl) (by rfl) ?_
    refine mx_callV hG (Y' := Y_L_findSpans) (ci := 3) [] (mx_d D_L_choose 61 rfl) in_L_findSpans w_507 w_509 s_L_findSpans (by rfl) np_L_findSpans (by exact Nat.le_of_ble_eq_true rfl) (by rfl) (by first | assumption | omega) (by first | assumption | exact va_up_self _ _ _ | (rw [va_up_ne _ _ (by omega)]; first | assumption | exact va_up_self _ _ _ | (rw [va_up_ne _ _ (by omega)]; first | assumption | exact va_up_self _ _ _ | (rw [va_up_ne _ _ (by omega)]; first | assumption | exact va_up_self _ _ _ | (rw [va_up_ne _ _ (by omega)]; first | assumption | exact va_up_self _ _ _ | (rw [va_up_ne _ _ (by omega)]; first | assumption | exact va_up_self _ _ _)))))) (by rfl) (by exact Nat.le_of_ble_eq_true rfl) (c_L_findSpans hG ho hc hf hl e1 e2 e3 e4 e5 e6 ((va_up_ne _ _ e1).trans h1) (va_up_self _ _ _) ((va_up_ne _ _ (Ne.symm e4)).trans h3) ((va_up_ne _ _ (Ne.symm e5)).trans h4) hY (fun ce' lf' ll' k1 k2 k3 k4 k5 => ?_))
    refine mx_vret (by rfl) (mx_d D_L_choose 62 rfl) ?_
    refine q ce' lc' lf' ll' (fun k z1 z2 z3 z4 => ?_) k2 ?_ k3 k4 k5 hn
    · rw [k1 k z1 z3 z4, va_up_ne _ _ z2]
    · rw [k1 c (Ne.symm e1) e4 e5, va_up_self]
  have loop : ∀ (k i : Nat) (lc' : Nat → Bool), i + k = Y → gpInv w Y u v lc' → cnB lc' Y = i → mx_M G Y_L_choose (d + 2) bc bs ex N (va_up ce c (aB G Y lc')) 43 [(0, .ref (mx_B G + o)), (1, .ref (mx_B G + D)), (2, .int (iI u)), (3, .int (iI v)), (4, .long (lI (u * sumTo w Y))), (6, .long (lI (v * chTo lc' w Y))), (8, .int (iI i))] [] Q := by
    intro k
    induction k with
    | zero =>
      intro i lc' hi hI hn
      obtain rfl : i = Y := by omega
      refine mx_iload (i := 8) (mx_d D_L_choose 25 rfl) (by rfl) ?_
      refine mx_aload_n (k4 := 0) (mx_d D_L_choose 26 rfl) (by rfl) ?_
      refine mx_getf hG (idx := 9) (ci := 3) (kf := 0) (mx_d D_L_choose 27 rfl) (by rfl) cls_L (by decide) w_80 (by first | assumption | omega) (by first | assumption | exact va_up_self _ _ _ | (rw [va_up_ne _ _ (by omega)]; first | assumption | exact va_up_self _ _ _ | (rw [va_up_ne _ _ (by omega)]; first | assumption | exact va_up_self _ _ _ | (rw [va_up_ne _ _ (by omega)]; first | assumption | exact va_up_self _ _ _ | (rw [va_up_ne _ _ (by omega)]; first | assumption | exact va_up_self _ _ _ | (rw [va_up_ne _ _ (by omega)]; first | assumption | exact va_up_self _ _ _)))))) (by rfl) ?_
      refine mx_alen hG 1 (mx_d D_L_choose 28 rfl) (by first | assumption | omega) (by first | assumption | exact va_up_self _ _ _ | (rw [va_up_ne _ _ (by omega)]; first | assumption | exact va_up_self _ _ _ | (rw [va_up_ne _ _ (by omega)]; first | assumption | exact va_up_self _ _ _ | (rw [va_up_ne _ _ (by omega)]; first | assumption | exact va_up_self _ _ _ | (rw [va_up_ne _ _ (by omega)]; first | assumption | exact va_up_self _ _ _ | (rw [va_up_ne _ _ (by omega)]; first | assumption | exact va_up_self _ _ _)))))) (by rfl) ?_
      refine mx_icmp_geY 107 (mx_d D_L_choose 29 rfl) (by decide) (by omega) (by omega) (by omega) (by omega) (by omega) ?_
      exact last lc' _ rfl (fun y hy => gp_end hI hv1 (fun j hj => (hw j hj).1) (Or.inl (fun j hj => cnB_all hn hj)) hy)
    | succ k ih =>
      intro i lc' hi hI hn
      have hch := chTo_bd (lc := lc') (w := w) (n := Y) (M := 1000000) (by omega) hw
      have hh0 : 0 ≤ v * chTo lc' w Y := Int.mul_nonneg hv1 hch.1
      have hh1 : v * chTo lc' w Y ≤ 1000 * (60 * 1000000) := Int.mul_le_mul hv2 (by omega) hch.1 (by omega)
      refine mx_iload (i := 8) (mx_d D_L_choose 25 rfl) (by rfl) ?_
      refine mx_aload_n (k4 := 0) (mx_d D_L_choose 26 rfl) (by rfl) ?_
      refine mx_getf hG (idx := 9) (ci := 3) (kf := 0) (mx_d D_L_choose 27 rfl) (by rfl) cls_L (by decide) w_80 (by first | assumption | omega) (by first | assumption | exact va_up_self _ _ _ | (rw [va_up_ne _ _ (by omega)]; first | assumption | exact va_up_self _ _ _ | (rw [va_up_ne _ _ (by omega)]; first | assumption | exact va_up_self _ _ _ | (rw [va_up_ne _ _ (by omega)]; first | assumption | exact va_up_self _ _ _ | (rw [va_up_ne _ _ (by omega)]; first | assumption | exact va_up_self _ _ _ | (rw [va_up_ne _ _ (by omega)]; first | assumption | exact va_up_self _ _ _)))))) (by rfl) ?_
      refine mx_alen hG 1 (mx_d D_L_choose 28 rfl) (by first | assumption | omega) (by first | assumption | exact va_up_self _ _ _ | (rw [va_up_ne _ _ (by omega)]; first | assumption | exact va_up_self _ _ _ | (rw [va_up_ne _ _ (by omega)]; first | assumption | exact va_up_self _ _ _ | (rw [va_up_ne _ _ (by omega)]; first | assumption | exact va_up_self _ _ _ | (rw [va_up_ne _ _ (by omega)]; first | assumption | exact va_up_self _ _ _ | (rw [va_up_ne _ _ (by omega)]; first | assumption | exact va_up_self _ _ _)))))) (by rfl) ?_
      refine mx_icmp_geN 107 (mx_d D_L_choose 29 rfl) (by decide) (by omega) (by omega) (by omega) (by omega) (by omega) ?_
      refine mx_lload (i := 6) (mx_d D_L_choose 30 rfl) (by rfl) ?_
      refine mx_lload (i := 4) (mx_d D_L_choose 31 rfl) (by rfl) ?_
      refine mx_lcmpI (mx_d D_L_choose 32 rfl) (by omega) (by omega) (by omega) (by omega) ?_
      by_cases hd : u * sumTo w Y ≤ v * chTo lc' w Y
      · refine mx_if_geY 107 (mx_d D_L_choose 33 rfl) (by decide) (by split <;> (try split) <;> omega) (by split <;> (try split) <;> omega) (by split <;> (try split) <;> omega) ?_
        exact last lc' _ rfl (fun y hy => gp_end hI hv1 (fun j hj => (hw j hj).1) (Or.inr (Or.inr hd)) hy)
      · refine mx_if_geN 107 (mx_d D_L_choose 33 rfl) (by decide) (by split <;> (try split) <;> omega) (by split <;> (try split) <;> omega) (by split <;> (try split) <;> omega) ?_
        refine mx_aload_n (k4 := 0) (mx_d D_L_choose 34 rfl) (by rfl) ?_
        refine mx_aload_n (k4 := 1) (mx_d D_L_choose 35 rfl) (by rfl) ?_
        refine mx_callV hG (Y' := Y_L_heaviestLeft) (ci := 3) [_] (mx_d D_L_choose 36 rfl) in_L_heaviestLeft w_503 w_505 s_L_heaviestLeft (by rfl) np_L_heaviestLeft (by exact Nat.le_of_ble_eq_true rfl) (by rfl) (by first | assumption | omega) (by first | assumption | exact va_up_self _ _ _ | (rw [va_up_ne _ _ (by omega)]; first | assumption | exact va_up_self _ _ _ | (rw [va_up_ne _ _ (by omega)]; first | assumption | exact va_up_self _ _ _ | (rw [va_up_ne _ _ (by omega)]; first | assumption | exact va_up_self _ _ _ | (rw [va_up_ne _ _ (by omega)]; first | assumption | exact va_up_self _ _ _ | (rw [va_up_ne _ _ (by omega)]; first | assumption | exact va_up_self _ _ _)))))) (by rfl) (by exact Nat.le_of_ble_eq_true rfl) (c_L_heaviest hG ho hc ((va_up_ne _ _ e1).trans h1) (va_up_self _ _ _) hY hD hW ((va_up_ne _ _ e7).trans h5) ((va_up_ne _ _ e8).trans h6) hw (fun hno => ?_) (fun y y1 y2 y3 y4 => ?_))
        · refine mx_istore (i := 9) (mx_d D_L_choose 37 rfl) (by decide) ?_
          refine mx_iload (i := 9) (mx_d D_L_choose 38 rfl) (by rfl) ?_
          refine mx_iconst (n := -1) (mx_d D_L_choose 39 rfl) ?_
          refine mx_icmp_neN 77 (mx_d D_L_choose 40 rfl) (by decide) (by omega) (by omega) (by omega) (by omega) (by omega) ?_
          refine mx_goto 107 (mx_d D_L_choose 41 rfl) (by decide) ?_
          exact last lc' _ rfl (fun y hy => gp_end hI hv1 (fun j hj => (hw j hj).1) (Or.inr (Or.inl hno)) hy)
        · have wy := hw y y1
          refine mx_istore (i := 9) (mx_d D_L_choose 37 rfl) (by decide) ?_
          refine mx_iload (i := 9) (mx_d D_L_choose 38 rfl) (by rfl) ?_
          refine mx_iconst (n := -1) (mx_d D_L_choose 39 rfl) ?_
          refine mx_icmp_neY 77 (mx_d D_L_choose 40 rfl) (by decide) (by omega) (by omega) (by omega) (by omega) (by omega) ?_
          refine mx_aload_n (k4 := 0) (mx_d D_L_choose 42 rfl) (by rfl) ?_
          refine mx_getf hG (idx := 9) (ci := 3) (kf := 0) (mx_d D_L_choose 43 rfl) (by rfl) cls_L (by decide) w_80 (by first | assumption | omega) (by first | assumption | exact va_up_self _ _ _ | (rw [va_up_ne _ _ (by omega)]; first | assumption | exact va_up_self _ _ _ | (rw [va_up_ne _ _ (by omega)]; first | assumption | exact va_up_self _ _ _ | (rw [va_up_ne _ _ (by omega)]; first | assumption | exact va_up_self _ _ _ | (rw [va_up_ne _ _ (by omega)]; first | assumption | exact va_up_self _ _ _ | (rw [va_up_ne _ _ (by omega)]; first | assumption | exact va_up_self _ _ _)))))) (by rfl) ?_
          refine mx_iload (i := 9) (mx_d D_L_choose 44 rfl) (by rfl) ?_
          refine mx_iconst (n := 1) (mx_d D_L_choose 45 rfl) ?_
          refine mx_zastB hG _ (true) (mx_d D_L_choose 46 rfl) (by first | assumption | omega) (by first | assumption | exact va_up_self _ _ _ | (rw [va_up_ne _ _ (by omega)]; first | assumption | exact va_up_self _ _ _ | (rw [va_up_ne _ _ (by omega)]; first | assumption | exact va_up_self _ _ _ | (rw [va_up_ne _ _ (by omega)]; first | assumption | exact va_up_self _ _ _ | (rw [va_up_ne _ _ (by omega)]; first | assumption | exact va_up_self _ _ _ | (rw [va_up_ne _ _ (by omega)]; first | assumption | exact va_up_self _ _ _)))))) (by rfl) (by rfl) (by omega) (by omega) ?_
          rw [bx_uu]
          refine mx_lload (i := 6) (mx_d D_L_choose 47 rfl) (by rfl) ?_
          refine mx_iload_n (k4 := 3) (mx_d D_L_choose 48 rfl) (by rfl) ?_
          refine mx_i2lI (mx_d D_L_choose 49 rfl) (by omega) (by omega) ?_
          refine mx_aload_n (k4 := 1) (mx_d D_L_choose 50 rfl) (by rfl) ?_
          refine mx_getf hG (idx := 32) (ci := 2) (kf := 0) (mx_d D_L_choose 51 rfl) (by rfl) cls_D (by decide) w_61 (by first | assumption | omega) (by first | assumption | exact va_up_self _ _ _ | (rw [va_up_ne _ _ (by omega)]; first | assumption | exact va_up_self _ _ _ | (rw [va_up_ne _ _ (by omega)]; first | assumption | exact va_up_self _ _ _ | (rw [va_up_ne _ _ (by omega)]; first | assumption | exact va_up_self _ _ _ | (rw [va_up_ne _ _ (by omega)]; first | assumption | exact va_up_self _ _ _ | (rw [va_up_ne _ _ (by omega)]; first | assumption | exact va_up_self _ _ _)))))) (by rfl) ?_
          refine mx_iload (i := 9) (mx_d D_L_choose 52 rfl) (by rfl) ?_
          refine mx_ialdI hG _ (mx_d D_L_choose 53 rfl) (by first | assumption | omega) (by first | assumption | exact va_up_self _ _ _ | (rw [va_up_ne _ _ (by omega)]; first | assumption | exact va_up_self _ _ _ | (rw [va_up_ne _ _ (by omega)]; first | assumption | exact va_up_self _ _ _ | (rw [va_up_ne _ _ (by omega)]; first | assumption | exact va_up_self _ _ _ | (rw [va_up_ne _ _ (by omega)]; first | assumption | exact va_up_self _ _ _ | (rw [va_up_ne _ _ (by omega)]; first | assumption | exact va_up_self _ _ _)))))) (by rfl) (by omega) (by omega) ?_
          refine mx_i2lI (mx_d D_L_choose 54 rfl) (by omega) (by omega) ?_
          refine mx_lmulI (mx_d D_L_choose 55 rfl) ?_
          refine mx_laddI (mx_d D_L_choose 56 rfl) ?_
          refine mx_lstore (i := 6) (mx_d D_L_choose 57 rfl) (by decide) ?_
          refine mx_iincI (i := 8) (n := 1) (mx_d D_L_choose 58 rfl) (by rfl) (by decide) ?_
          refine mx_goto 43 (mx_d D_L_choose 59 rfl) (by decide) ?_
          have hu9 := chTo_up (w := w) (n := Y) y2
          have hc9 := cnB_up (n := Y) y2
          rw [if_pos y1] at hu9 hc9
          refine mx_loc ?_ (ih (i + 1) (va_up lc' y true) (by omega) (gp_step hI y1 y2 y3 y4 (by omega)) (by omega))
          rw [hu9, Int.mul_add]
          rfl
  refine mx_iconst (n := 0) (mx_d D_L_choose 0 rfl) ?_
  refine mx_istore (i := 4) (mx_d D_L_choose 1 rfl) (by decide) ?_
  suffices H : ∀ (k i : Nat) (lc' : Nat → Bool), i + k = Y → (∀ j, j < i → lc' j = false) → mx_M G Y_L_choose (d + 2) bc bs ex N (va_up ce c (aB G Y lc')) 3 [(0, .ref (mx_B G + o)), (1, .ref (mx_B G + D)), (2, .int (iI u)), (3, .int (iI v)), (4, .int (iI i))] [] Q by
    have H0 := H Y 0 lc (by omega) (fun j hj => absurd hj (by omega))
    rw [va_up_id ce c h2] at H0
    exact mx_loc (by rfl) H0
  intro k
  induction k with
  | zero =>
    intro i lc' hi hz
    obtain rfl : i = Y := by omega
    refine mx_iload (i := 4) (mx_d D_L_choose 2 rfl) (by rfl) ?_
    refine mx_aload_n (k4 := 0) (mx_d D_L_choose 3 rfl) (by rfl) ?_
    refine mx_getf hG (idx := 9) (ci := 3) (kf := 0) (mx_d D_L_choose 4 rfl) (by rfl) cls_L (by decide) w_80 (by first | assumption | omega) (by first | assumption | exact va_up_self _ _ _ | (rw [va_up_ne _ _ (by omega)]; first | assumption | exact va_up_self _ _ _ | (rw [va_up_ne _ _ (by omega)]; first | assumption | exact va_up_self _ _ _ | (rw [va_up_ne _ _ (by omega)]; first | assumption | exact va_up_self _ _ _ | (rw [va_up_ne _ _ (by omega)]; first | assumption | exact va_up_self _ _ _ | (rw [va_up_ne _ _ (by omega)]; first | assumption | exact va_up_self _ _ _)))))) (by rfl) ?_
    refine mx_alen hG 1 (mx_d D_L_choose 5 rfl) (by first | assumption | omega) (by first | assumption | exact va_up_self _ _ _ | (rw [va_up_ne _ _ (by omega)]; first | assumption | exact va_up_self _ _ _ | (rw [va_up_ne _ _ (by omega)]; first | assumption | exact va_up_self _ _ _ | (rw [va_up_ne _ _ (by omega)]; first | assumption | exact va_up_self _ _ _ | (rw [va_up_ne _ _ (by omega)]; first | assumption | exact va_up_self _ _ _ | (rw [va_up_ne _ _ (by omega)]; first | assumption | exact va_up_self _ _ _)))))) (by rfl) ?_
    refine mx_icmp_geY 27 (mx_d D_L_choose 6 rfl) (by decide) (by omega) (by omega) (by omega) (by omega) (by omega) ?_
    refine mx_iload_n (k4 := 2) (mx_d D_L_choose 14 rfl) (by rfl) ?_
    refine mx_i2lI (mx_d D_L_choose 15 rfl) (by omega) (by omega) ?_
    refine mx_aload_n (k4 := 1) (mx_d D_L_choose 16 rfl) (by rfl) ?_
    refine mx_callV hG (Y' := Y_D_allWeights) (ci := 2) [] (mx_d D_L_choose 17 rfl) in_D_allWeights w_502 w_441 s_D_allWeights (by rfl) np_D_allWeights (by exact Nat.le_of_ble_eq_true rfl) (by rfl) (by first | assumption | omega) (by first | assumption | exact va_up_self _ _ _ | (rw [va_up_ne _ _ (by omega)]; first | assumption | exact va_up_self _ _ _ | (rw [va_up_ne _ _ (by omega)]; first | assumption | exact va_up_self _ _ _ | (rw [va_up_ne _ _ (by omega)]; first | assumption | exact va_up_self _ _ _ | (rw [va_up_ne _ _ (by omega)]; first | assumption | exact va_up_self _ _ _ | (rw [va_up_ne _ _ (by omega)]; first | assumption | exact va_up_self _ _ _)))))) (by rfl) (by exact Nat.le_of_ble_eq_true rfl) (c_D_all hG hD hW ((va_up_ne _ _ e7).trans h5) ((va_up_ne _ _ e8).trans h6) (by omega) ?_)
    refine mx_i2lI (mx_d D_L_choose 18 rfl) (by omega) (by omega) ?_
    refine mx_lmulI (mx_d D_L_choose 19 rfl) ?_
    refine mx_lstore (i := 4) (mx_d D_L_choose 20 rfl) (by decide) ?_
    refine mx_lconst (n := 0) (v := lI 0) (mx_d D_L_choose 21 rfl) (by rfl) ?_
    refine mx_lstore (i := 6) (mx_d D_L_choose 22 rfl) (by decide) ?_
    refine mx_iconst (n := 0) (mx_d D_L_choose 23 rfl) ?_
    refine mx_istore (i := 8) (mx_d D_L_choose 24 rfl) (by decide) ?_
    refine mx_loc ?_ (loop i 0 lc' (by omega) ⟨fun y hy hl => ?_, fun c y hc hy hl => ?_⟩ (cnB_none hz))
    · rw [chTo_none hz, Int.mul_zero]; rfl
    · rw [hz y hy] at hl; exact absurd hl (by decide)
    · rw [hz c hc] at hl; exact absurd hl (by decide)
  | succ k ih =>
    intro i lc' hi hz
    refine mx_iload (i := 4) (mx_d D_L_choose 2 rfl) (by rfl) ?_
    refine mx_aload_n (k4 := 0) (mx_d D_L_choose 3 rfl) (by rfl) ?_
    refine mx_getf hG (idx := 9) (ci := 3) (kf := 0) (mx_d D_L_choose 4 rfl) (by rfl) cls_L (by decide) w_80 (by first | assumption | omega) (by first | assumption | exact va_up_self _ _ _ | (rw [va_up_ne _ _ (by omega)]; first | assumption | exact va_up_self _ _ _ | (rw [va_up_ne _ _ (by omega)]; first | assumption | exact va_up_self _ _ _ | (rw [va_up_ne _ _ (by omega)]; first | assumption | exact va_up_self _ _ _ | (rw [va_up_ne _ _ (by omega)]; first | assumption | exact va_up_self _ _ _ | (rw [va_up_ne _ _ (by omega)]; first | assumption | exact va_up_self _ _ _)))))) (by rfl) ?_
    refine mx_alen hG 1 (mx_d D_L_choose 5 rfl) (by first | assumption | omega) (by first | assumption | exact va_up_self _ _ _ | (rw [va_up_ne _ _ (by omega)]; first | assumption | exact va_up_self _ _ _ | (rw [va_up_ne _ _ (by omega)]; first | assumption | exact va_up_self _ _ _ | (rw [va_up_ne _ _ (by omega)]; first | assumption | exact va_up_self _ _ _ | (rw [va_up_ne _ _ (by omega)]; first | assumption | exact va_up_self _ _ _ | (rw [va_up_ne _ _ (by omega)]; first | assumption | exact va_up_self _ _ _)))))) (by rfl) ?_
    refine mx_icmp_geN 27 (mx_d D_L_choose 6 rfl) (by decide) (by omega) (by omega) (by omega) (by omega) (by omega) ?_
    refine mx_aload_n (k4 := 0) (mx_d D_L_choose 7 rfl) (by rfl) ?_
    refine mx_getf hG (idx := 9) (ci := 3) (kf := 0) (mx_d D_L_choose 8 rfl) (by rfl) cls_L (by decide) w_80 (by first | assumption | omega) (by first | assumption | exact va_up_self _ _ _ | (rw [va_up_ne _ _ (by omega)]; first | assumption | exact va_up_self _ _ _ | (rw [va_up_ne _ _ (by omega)]; first | assumption | exact va_up_self _ _ _ | (rw [va_up_ne _ _ (by omega)]; first | assumption | exact va_up_self _ _ _ | (rw [va_up_ne _ _ (by omega)]; first | assumption | exact va_up_self _ _ _ | (rw [va_up_ne _ _ (by omega)]; first | assumption | exact va_up_self _ _ _)))))) (by rfl) ?_
    refine mx_iload (i := 4) (mx_d D_L_choose 9 rfl) (by rfl) ?_
    refine mx_iconst (n := 0) (mx_d D_L_choose 10 rfl) ?_
    refine mx_zastB hG _ (false) (mx_d D_L_choose 11 rfl) (by first | assumption | omega) (by first | assumption | exact va_up_self _ _ _ | (rw [va_up_ne _ _ (by omega)]; first | assumption | exact va_up_self _ _ _ | (rw [va_up_ne _ _ (by omega)]; first | assumption | exact va_up_self _ _ _ | (rw [va_up_ne _ _ (by omega)]; first | assumption | exact va_up_self _ _ _ | (rw [va_up_ne _ _ (by omega)]; first | assumption | exact va_up_self _ _ _ | (rw [va_up_ne _ _ (by omega)]; first | assumption | exact va_up_self _ _ _)))))) (by rfl) (by rfl) (by omega) (by omega) ?_
    rw [bx_uu]
    refine mx_iincI (i := 4) (n := 1) (mx_d D_L_choose 12 rfl) (by rfl) (by decide) ?_
    refine mx_goto 3 (mx_d D_L_choose 13 rfl) (by decide) ?_
    refine mx_loc (by rfl) (ih (i + 1) (va_up lc' i false) (by omega) (fun j hj => ?_))
    by_cases e : j = i
    · subst e; exact va_up_self _ _ _
    · rw [va_up_ne _ _ e]; exact hz j (by omega)
end LS
