/-! the class's cells, as one state -/
abbrev xI : String := "java/lang/IndexOutOfBoundsException"
abbrev xA : String := "java/lang/IllegalArgumentException"
abbrev xS : String := "java/lang/IllegalStateException"
def rwN (f : Nat → Int) : Nat → Nat
  | 0 => 0
  | n + 1 => rwN f n + (if 0 < f n then 1 else 0)
def up2 (f : Nat → Nat → Int) (i j : Nat) (v : Int) : Nat → Nat → Int := va_up f i (va_up (f i) j v)
theorem rwN_le (f : Nat → Int) (n : Nat) : rwN f n ≤ n := by
  induction n with
  | zero => simp [rwN]
  | succ n ih => simp only [rwN]; split <;> omega
theorem rwN_up {f : Nat → Int} {j n : Nat} {v : Int} (hv : 0 < v) : rwN (va_up f j v) n = rwN f n + (if j < n ∧ ¬ 0 < f j then 1 else 0) := by
  induction n with
  | zero => simp [rwN]
  | succ n ih =>
    simp only [rwN, ih]
    by_cases e : n = j
    · subst e
      rw [va_up_self, if_pos hv, if_neg (fun h => by omega : ¬ (n < n ∧ ¬ 0 < f n))]
      by_cases hf : 0 < f n
      · rw [if_pos hf, if_neg (fun h => h.2 hf)]
      · rw [if_neg hf, if_pos ⟨by omega, hf⟩]
    · rw [va_up_ne _ _ e]
      by_cases h1 : j < n ∧ ¬ 0 < f j
      · rw [if_pos h1, if_pos (⟨by omega, h1.2⟩ : j < n + 1 ∧ ¬ 0 < f j)]; omega
      · rw [if_neg h1, if_neg (fun h => h1 ⟨by omega, h.2⟩ : ¬ (j < n + 1 ∧ ¬ 0 < f j))]; omega
theorem rwN_congr {f g : Nat → Int} {n : Nat} (h : ∀ j, j < n → f j = g j) : rwN f n = rwN g n := by
  induction n with
  | zero => rfl
  | succ n ih => simp only [rwN]; rw [ih (fun j hj => h j (by omega)), h n (by omega)]
theorem up2_bd {f : Nat → Nat → Int} {i j Y : Nat} {v lo hi : Int} (h : ∀ e, e < 4 → ∀ y, y < Y → lo ≤ f e y ∧ f e y ≤ hi) (hv : lo ≤ v ∧ v ≤ hi) : ∀ e, e < 4 → ∀ y, y < Y → lo ≤ up2 f i j v e y ∧ up2 f i j v e y ≤ hi := by
  intro e he y hy
  unfold up2
  by_cases h1 : e = i
  · subst h1
    rw [va_up_self]
    by_cases h2 : y = j
    · subst h2; rw [va_up_self]; exact hv
    · rw [va_up_ne _ _ h2]; exact h e he y hy
  · rw [va_up_ne _ _ h1]; exact h e he y hy
abbrev cs0 (G : mx_G) (Y : Nat) (U : Int) (nE iE nD : Nat) (rA rS : Int) : va_E := .inr (0, [.int (iI Y), .int (iI U), .ref (mx_B G + 1), .ref (mx_B G + 14), .ref (mx_B G + 39), .ref (mx_B G + 43), .ref (mx_B G + 46), .ref (mx_B G + 48), .int (iI nE), .int (iI iE), .int (iI nD), .int (iI rA), .int (iI rS)])
def csE (G : mx_G) (Y : Nat) (eA eS : Nat → Nat → Int) (ce : Nat → va_E) : Prop := ∀ e, e < 4 → ce (2 + 3 * e) = .inr (1, [.ref (mx_B G + (3 + 3 * e)), .ref (mx_B G + (4 + 3 * e)), .int (iI (rwN (eS e) Y : Nat))]) ∧ ce (3 + 3 * e) = aI G Y (eA e) ∧ ce (4 + 3 * e) = aI G Y (eS e)
def csD (G : mx_G) (Y : Nat) (dA dS : Nat → Int) (dW : Nat → Nat → Int) (ce : Nat → va_E) : Prop := ∀ i, i < 12 → ce (15 + 2 * i) = .inr (2, [.ref (mx_B G + (16 + 2 * i)), .int (iI (dA i)), .int (iI (dS i))]) ∧ ce (16 + 2 * i) = aI G Y (dW i)
def csL (G : mx_G) (Y : Nat) (lc : Nat → Bool) (ce : Nat → va_E) : Prop := ce 39 = .inr (3, [.ref (mx_B G + 40), .ref (mx_B G + 41), .ref (mx_B G + 42), .int (iI (bgN lc Y : Nat))]) ∧ ce 40 = aB G Y lc ∧ ∃ lf ll, ce 41 = aI G Y lf ∧ ce 42 = aI G Y ll ∧ spAll lc Y (bgN lc Y) lf ll
def csR (G : mx_G) (rn rg : Nat → Nat) (rN : Nat) (ce : Nat → va_E) : Prop := ce 43 = .inr (4, [.ref (mx_B G + 44), .ref (mx_B G + 45), .int (iI rN)]) ∧ ce 44 = aI G 8 (fun j => (rn j : Int)) ∧ ce 45 = aI G 8 (fun j => (rg j : Int))
def csP (G : mx_G) (ps : Nat → Int) (pN : Nat) (ce : Nat → va_E) : Prop := ce 46 = .inr (5, [.ref (mx_B G + 47), .int (iI pN)]) ∧ ce 47 = aI G 100 ps
def csT (G : mx_G) (Y : Nat) (ce : Nat → va_E) : Prop := ∃ (c : Nat) (b : Bool) (t : Nat → Int), ce 48 = .inr (6, [.int (iI Y), .ref (mx_B G + 49), .int (iI c), .int (iI (bI b))]) ∧ ce 49 = aI G 100 t
def IV (Y : Nat) (U : Int) (nE iE nD : Nat) (rA rS : Int) (eA eS : Nat → Nat → Int) (dA dS : Nat → Int) (dW : Nat → Nat → Int) (lc : Nat → Bool) (rn rg : Nat → Nat) (rN : Nat) (ps : Nat → Int) (pN : Nat) : Prop := (8 ≤ Y ∧ Y ≤ 60) ∧ (1 ≤ U ∧ U ≤ 65536) ∧ (nE ≤ 4 ∧ iE < nE) ∧ nD ≤ 12 ∧ (-1000 ≤ rA ∧ rA ≤ 1000) ∧ (0 ≤ rS ∧ rS ≤ 100) ∧ (∀ e, e < 4 → ∀ y, y < Y → 0 ≤ eA e y ∧ eA e y ≤ 3000) ∧ (∀ e, e < 4 → ∀ y, y < Y → 0 ≤ eS e y ∧ eS e y ≤ 100) ∧ (∀ i, i < 12 → 0 ≤ dA i ∧ dA i ≤ 3000) ∧ (∀ i, i < 12 → 0 ≤ dS i ∧ dS i ≤ 100) ∧ (∀ i, i < 12 → nD ≤ i → dA i = 0 ∧ dS i = 0) ∧ (∀ i, i < 12 → ∀ y, y < Y → 0 ≤ dW i y ∧ dW i y ≤ 1000000) ∧ rN ≤ 8 ∧ (∀ i, i < rN → rn i < nD ∧ rg i ≤ 59) ∧ pN ≤ 100 ∧ (∀ j, j < pN → -2147483648 ≤ ps j ∧ ps j < 2147483648)
def CS (G : mx_G) (Y : Nat) (U : Int) (nE iE nD : Nat) (rA rS : Int) (eA eS : Nat → Nat → Int) (dA dS : Nat → Int) (dW : Nat → Nat → Int) (lc : Nat → Bool) (rn rg : Nat → Nat) (rN : Nat) (ps : Nat → Int) (pN : Nat) (ce : Nat → va_E) : Prop := IV Y U nE iE nD rA rS eA eS dA dS dW lc rn rg rN ps pN ∧ ce 0 = cs0 G Y U nE iE nD rA rS ∧ ce 1 = aQ G 3 4 (fun j => 2 + 3 * j) ∧ ce 14 = aQ G 4 12 (fun j => 15 + 2 * j) ∧ csE G Y eA eS ce ∧ csD G Y dA dS dW ce ∧ csL G Y lc ce ∧ csR G rn rg rN ce ∧ csP G ps pN ce ∧ csT G Y ce
theorem csE_fr {G : mx_G} {Y : Nat} {eA eS : Nat → Nat → Int} {ce ce' : Nat → va_E} (h : csE G Y eA eS ce) (hf : ∀ k, 2 ≤ k → k < 14 → ce' k = ce k) : csE G Y eA eS ce' :=
  fun e he => ⟨(hf _ (by omega) (by omega)).trans (h e he).1, (hf _ (by omega) (by omega)).trans (h e he).2.1, (hf _ (by omega) (by omega)).trans (h e he).2.2⟩
theorem csD_fr {G : mx_G} {Y : Nat} {dA dS : Nat → Int} {dW : Nat → Nat → Int} {ce ce' : Nat → va_E} (h : csD G Y dA dS dW ce) (hf : ∀ k, 15 ≤ k → k < 39 → ce' k = ce k) : csD G Y dA dS dW ce' :=
  fun i hi => ⟨(hf _ (by omega) (by omega)).trans (h i hi).1, (hf _ (by omega) (by omega)).trans (h i hi).2⟩
theorem csL_fr {G : mx_G} {Y : Nat} {lc : Nat → Bool} {ce ce' : Nat → va_E} (h : csL G Y lc ce) (hf : ∀ k, 39 ≤ k → k < 43 → ce' k = ce k) : csL G Y lc ce' := by
  obtain ⟨h1, h2, lf, ll, h3, h4, h5⟩ := h
  exact ⟨(hf _ (by omega) (by omega)).trans h1, (hf _ (by omega) (by omega)).trans h2, lf, ll, (hf _ (by omega) (by omega)).trans h3, (hf _ (by omega) (by omega)).trans h4, h5⟩
theorem csR_fr {G : mx_G} {rn rg : Nat → Nat} {rN : Nat} {ce ce' : Nat → va_E} (h : csR G rn rg rN ce) (hf : ∀ k, 43 ≤ k → k < 46 → ce' k = ce k) : csR G rn rg rN ce' :=
  ⟨(hf _ (by omega) (by omega)).trans h.1, (hf _ (by omega) (by omega)).trans h.2.1, (hf _ (by omega) (by omega)).trans h.2.2⟩
theorem csP_fr {G : mx_G} {ps : Nat → Int} {pN : Nat} {ce ce' : Nat → va_E} (h : csP G ps pN ce) (hf : ∀ k, 46 ≤ k → k < 48 → ce' k = ce k) : csP G ps pN ce' :=
  ⟨(hf _ (by omega) (by omega)).trans h.1, (hf _ (by omega) (by omega)).trans h.2⟩
theorem csT_fr {G : mx_G} {Y : Nat} {ce ce' : Nat → va_E} (h : csT G Y ce) (hf : ∀ k, 48 ≤ k → k < 50 → ce' k = ce k) : csT G Y ce' := by
  obtain ⟨c, b, t, h1, h2⟩ := h
  exact ⟨c, b, t, (hf _ (by omega) (by omega)).trans h1, (hf _ (by omega) (by omega)).trans h2⟩
theorem CS.fr {G : mx_G} {Y : Nat} {U : Int} {nE iE nD : Nat} {rA rS : Int} {eA eS : Nat → Nat → Int} {dA dS : Nat → Int} {dW : Nat → Nat → Int} {lc : Nat → Bool} {rn rg : Nat → Nat} {rN : Nat} {ps : Nat → Int} {pN : Nat} {ce ce' : Nat → va_E} (h : CS G Y U nE iE nD rA rS eA eS dA dS dW lc rn rg rN ps pN ce) (hf : ∀ k, k < 50 → ce' k = ce k) : CS G Y U nE iE nD rA rS eA eS dA dS dW lc rn rg rN ps pN ce' := by
  obtain ⟨h0, h1, h2, h3, h4, h5, h6, h7, h8, h9⟩ := h
  exact ⟨h0, (hf _ (by omega)).trans h1, (hf _ (by omega)).trans h2, (hf _ (by omega)).trans h3, csE_fr h4 (fun k _ _ => hf k (by omega)), csD_fr h5 (fun k _ _ => hf k (by omega)), csL_fr h6 (fun k _ _ => hf k (by omega)), csR_fr h7 (fun k _ _ => hf k (by omega)), csP_fr h8 (fun k _ _ => hf k (by omega)), csT_fr h9 (fun k _ _ => hf k (by omega))⟩
section CN
variable {G : mx_G} {d bc bs : Nat} {N : Nat} {ce : Nat → va_E} {Q : mx_P} {Y : Nat} {U : Int} {nE iE nD : Nat} {rA rS : Int} {eA eS : Nat → Nat → Int} {dA dS : Nat → Int} {dW : Nat → Nat → Int} {lc : Nat → Bool} {rn rg : Nat → Nat} {rN : Nat} {ps : Nat → Int} {pN : Nat}
theorem c_needYear (hG : mx_ok G) (hN : 50 ≤ N) (c0 : ce 0 = cs0 G Y U nE iE nD rA rS) (hY : Y ≤ 60) {y : Int} (y1 : -2147483648 ≤ y) (y2 : y < 2147483648) (q0 : ¬ (0 ≤ y ∧ y < Y) → Q (.inr xI) N ce bc bs) (q1 : 0 ≤ y → y < Y → Q (.inl none) N ce (bc + 1) (bs + 6)) : mx_M G Y_C_needYear (d + 5) (bc + 1) (bs + 6) false N ce 0 [(0, .ref (mx_B G + 0)), (1, .int (iI y))] [] Q := by
  have thr : ¬ (0 ≤ y ∧ y < Y) → ∀ {l9 : List (Nat × Value)}, mx_M G Y_C_needYear (d + 5) (bc + 1) (bs + 6) false N ce 12 l9 [] Q := by
    intro h l9
    refine mx_throw hG ["java/lang/RuntimeException", "java/lang/Exception"] (E := "java/lang/IndexOutOfBoundsException") (tx := "no such year") (mx_d D_C_needYear 6 rfl) (mx_d D_C_needYear 7 rfl) (mx_d D_C_needYear 8 rfl) (mx_d D_C_needYear 9 rfl) (mx_d D_C_needYear 10 rfl) (by decide) (by decide) (by decide) w_260 w_13 w_261 (by decide) th_102 (by rfl) (by exact Nat.le_of_ble_eq_true rfl) ?_
    exact q0 h
  refine mx_iload_n (k4 := 1) (mx_d D_C_needYear 0 rfl) (by rfl) ?_
  by_cases h1 : y < 0
  · refine mx_if_ltY 12 (mx_d D_C_needYear 1 rfl) (by decide) (by omega) (by omega) (by omega) ?_
    exact thr (by omega)
  · refine mx_if_ltN 12 (mx_d D_C_needYear 1 rfl) (by decide) (by omega) (by omega) (by omega) ?_
    refine mx_iload_n (k4 := 1) (mx_d D_C_needYear 2 rfl) (by rfl) ?_
    refine mx_aload_n (k4 := 0) (mx_d D_C_needYear 3 rfl) (by rfl) ?_
    refine mx_getf hG (idx := 18) (ci := 0) (kf := 0) (mx_d D_C_needYear 4 rfl) (by rfl) cls_C (by decide) w_149 (by first | assumption | omega) (by first | assumption | exact va_up_self _ _ _ | (rw [va_up_ne _ _ (by omega)]; first | assumption | exact va_up_self _ _ _ | (rw [va_up_ne _ _ (by omega)]; first | assumption | exact va_up_self _ _ _ | (rw [va_up_ne _ _ (by omega)]; first | assumption | exact va_up_self _ _ _ | (rw [va_up_ne _ _ (by omega)]; first | assumption | exact va_up_self _ _ _ | (rw [va_up_ne _ _ (by omega)]; first | assumption | exact va_up_self _ _ _)))))) (by rfl) ?_
    by_cases h2 : y < Y
    · refine mx_icmp_ltY 22 (mx_d D_C_needYear 5 rfl) (by decide) (by omega) (by omega) (by omega) (by omega) (by omega) ?_
      refine mx_vret (by rfl) (mx_d D_C_needYear 11 rfl) ?_
      exact q1 (by omega) h2
    · refine mx_icmp_ltN 22 (mx_d D_C_needYear 5 rfl) (by decide) (by omega) (by omega) (by omega) (by omega) (by omega) ?_
      exact thr (by omega)
theorem c_needDate (hG : mx_ok G) (hN : 50 ≤ N) (c0 : ce 0 = cs0 G Y U nE iE nD rA rS) (hD : nD ≤ 12) {y : Int} (y1 : -2147483648 ≤ y) (y2 : y < 2147483648) (q0 : ¬ (0 ≤ y ∧ y < nD) → Q (.inr xI) N ce bc bs) (q1 : 0 ≤ y → y < nD → Q (.inl none) N ce (bc + 1) (bs + 6)) : mx_M G Y_C_needDate (d + 5) (bc + 1) (bs + 6) false N ce 0 [(0, .ref (mx_B G + 0)), (1, .int (iI y))] [] Q := by
  have thr : ¬ (0 ≤ y ∧ y < nD) → ∀ {l9 : List (Nat × Value)}, mx_M G Y_C_needDate (d + 5) (bc + 1) (bs + 6) false N ce 12 l9 [] Q := by
    intro h l9
    refine mx_throw hG ["java/lang/RuntimeException", "java/lang/Exception"] (E := "java/lang/IndexOutOfBoundsException") (tx := "no such date") (mx_d D_C_needDate 6 rfl) (mx_d D_C_needDate 7 rfl) (mx_d D_C_needDate 8 rfl) (mx_d D_C_needDate 9 rfl) (mx_d D_C_needDate 10 rfl) (by decide) (by decide) (by decide) w_260 w_13 w_261 (by decide) th_102 (by rfl) (by exact Nat.le_of_ble_eq_true rfl) ?_
    exact q0 h
  refine mx_iload_n (k4 := 1) (mx_d D_C_needDate 0 rfl) (by rfl) ?_
  by_cases h1 : y < 0
  · refine mx_if_ltY 12 (mx_d D_C_needDate 1 rfl) (by decide) (by omega) (by omega) (by omega) ?_
    exact thr (by omega)
  · refine mx_if_ltN 12 (mx_d D_C_needDate 1 rfl) (by decide) (by omega) (by omega) (by omega) ?_
    refine mx_iload_n (k4 := 1) (mx_d D_C_needDate 2 rfl) (by rfl) ?_
    refine mx_aload_n (k4 := 0) (mx_d D_C_needDate 3 rfl) (by rfl) ?_
    refine mx_getf hG (idx := 138) (ci := 0) (kf := 10) (mx_d D_C_needDate 4 rfl) (by rfl) cls_C (by decide) w_159 (by first | assumption | omega) (by first | assumption | exact va_up_self _ _ _ | (rw [va_up_ne _ _ (by omega)]; first | assumption | exact va_up_self _ _ _ | (rw [va_up_ne _ _ (by omega)]; first | assumption | exact va_up_self _ _ _ | (rw [va_up_ne _ _ (by omega)]; first | assumption | exact va_up_self _ _ _ | (rw [va_up_ne _ _ (by omega)]; first | assumption | exact va_up_self _ _ _ | (rw [va_up_ne _ _ (by omega)]; first | assumption | exact va_up_self _ _ _)))))) (by rfl) ?_
    by_cases h2 : y < nD
    · refine mx_icmp_ltY 22 (mx_d D_C_needDate 5 rfl) (by decide) (by omega) (by omega) (by omega) (by omega) (by omega) ?_
      refine mx_vret (by rfl) (mx_d D_C_needDate 11 rfl) ?_
      exact q1 (by omega) h2
    · refine mx_icmp_ltN 22 (mx_d D_C_needDate 5 rfl) (by decide) (by omega) (by omega) (by omega) (by omega) (by omega) ?_
      exact thr (by omega)
theorem c_needRoom (hG : mx_ok G) (hN : 50 ≤ N) (c0 : ce 0 = cs0 G Y U nE iE nD rA rS) (hD : nD ≤ 12) (q0 : ¬ nD < 12 → Q (.inr xS) N ce bc bs) (q1 : nD < 12 → Q (.inl none) N ce (bc + 1) (bs + 6)) : mx_M G Y_C_needRoomForDate (d + 5) (bc + 1) (bs + 6) false N ce 0 [(0, .ref (mx_B G + 0))] [] Q := by
  refine mx_aload_n (k4 := 0) (mx_d D_C_needRoomForDate 0 rfl) (by rfl) ?_
  refine mx_getf hG (idx := 138) (ci := 0) (kf := 10) (mx_d D_C_needRoomForDate 1 rfl) (by rfl) cls_C (by decide) w_159 (by first | assumption | omega) (by first | assumption | exact va_up_self _ _ _ | (rw [va_up_ne _ _ (by omega)]; first | assumption | exact va_up_self _ _ _ | (rw [va_up_ne _ _ (by omega)]; first | assumption | exact va_up_self _ _ _ | (rw [va_up_ne _ _ (by omega)]; first | assumption | exact va_up_self _ _ _ | (rw [va_up_ne _ _ (by omega)]; first | assumption | exact va_up_self _ _ _ | (rw [va_up_ne _ _ (by omega)]; first | assumption | exact va_up_self _ _ _)))))) (by rfl) ?_
  refine mx_bipush (n := 12) (mx_d D_C_needRoomForDate 2 rfl) (by decide) ?_
  by_cases h2 : nD < 12
  · refine mx_icmp_ltY 19 (mx_d D_C_needRoomForDate 3 rfl) (by decide) (by omega) (by omega) (by omega) (by omega) (by omega) ?_
    refine mx_vret (by rfl) (mx_d D_C_needRoomForDate 9 rfl) ?_
    exact q1 h2
  · refine mx_icmp_ltN 19 (mx_d D_C_needRoomForDate 3 rfl) (by decide) (by omega) (by omega) (by omega) (by omega) (by omega) ?_
    refine mx_throw hG ["java/lang/RuntimeException", "java/lang/Exception"] (E := "java/lang/IllegalStateException") (tx := "there are twelve dates") (mx_d D_C_needRoomForDate 4 rfl) (mx_d D_C_needRoomForDate 5 rfl) (mx_d D_C_needRoomForDate 6 rfl) (mx_d D_C_needRoomForDate 7 rfl) (mx_d D_C_needRoomForDate 8 rfl) (by decide) (by decide) (by decide) w_356 w_15 w_357 (by decide) th_91 (by rfl) (by exact Nat.le_of_ble_eq_true rfl) ?_
    exact q0 h2
theorem c_needAge (hG : mx_ok G) {a s : Int} (a1 : -2147483648 ≤ a) (a2 : a < 2147483648) (s1 : -2147483648 ≤ s) (s2 : s < 2147483648) (q0 : ¬ ((0 ≤ a ∧ a ≤ 3000) ∧ 1 ≤ s ∧ s ≤ 100) → Q (.inr xA) N ce bc bs) (q1 : (0 ≤ a ∧ a ≤ 3000) ∧ 1 ≤ s ∧ s ≤ 100 → Q (.inl none) N ce (bc + 1) (bs + 6)) : mx_M G Y_C_needAgeAndSpread (d + 5) (bc + 1) (bs + 6) false N ce 0 [(0, .int (iI a)), (1, .int (iI s))] [] Q := by
  have thr : ¬ (0 ≤ a ∧ a ≤ 3000) → ∀ {l9 : List (Nat × Value)}, mx_M G Y_C_needAgeAndSpread (d + 5) (bc + 1) (bs + 6) false N ce 11 l9 [] Q := by
    intro h l9
    refine mx_throw hG ["java/lang/RuntimeException", "java/lang/Exception"] (E := "java/lang/IllegalArgumentException") (tx := "an age is 0 .. 3000") (mx_d D_C_needAgeAndSpread 5 rfl) (mx_d D_C_needAgeAndSpread 6 rfl) (mx_d D_C_needAgeAndSpread 7 rfl) (mx_d D_C_needAgeAndSpread 8 rfl) (mx_d D_C_needAgeAndSpread 9 rfl) (by decide) (by decide) (by decide) w_331 w_14 w_332 (by decide) th_107 (by rfl) (by exact Nat.le_of_ble_eq_true rfl) ?_
    exact q0 (fun z => h z.1)
  have thr2 : ¬ (1 ≤ s ∧ s ≤ 100) → ∀ {l9 : List (Nat × Value)}, mx_M G Y_C_needAgeAndSpread (d + 5) (bc + 1) (bs + 6) false N ce 32 l9 [] Q := by
    intro h l9
    refine mx_throw hG ["java/lang/RuntimeException", "java/lang/Exception"] (E := "java/lang/IllegalArgumentException") (tx := "a spread is 1 .. 100") (mx_d D_C_needAgeAndSpread 16 rfl) (mx_d D_C_needAgeAndSpread 17 rfl) (mx_d D_C_needAgeAndSpread 18 rfl) (mx_d D_C_needAgeAndSpread 19 rfl) (mx_d D_C_needAgeAndSpread 20 rfl) (by decide) (by decide) (by decide) w_331 w_14 w_332 (by decide) th_107 (by rfl) (by exact Nat.le_of_ble_eq_true rfl) ?_
    exact q0 (fun z => h z.2)
  refine mx_iload_n (k4 := 0) (mx_d D_C_needAgeAndSpread 0 rfl) (by rfl) ?_
  by_cases h1 : a < 0
  · refine mx_if_ltY 11 (mx_d D_C_needAgeAndSpread 1 rfl) (by decide) (by omega) (by omega) (by omega) ?_
    exact thr (by omega)
  · refine mx_if_ltN 11 (mx_d D_C_needAgeAndSpread 1 rfl) (by decide) (by omega) (by omega) (by omega) ?_
    refine mx_iload_n (k4 := 0) (mx_d D_C_needAgeAndSpread 2 rfl) (by rfl) ?_
    refine mx_sipush (n := 3000) (mx_d D_C_needAgeAndSpread 3 rfl) (by decide) ?_
    by_cases h2 : a ≤ 3000
    · refine mx_icmp_leY 21 (mx_d D_C_needAgeAndSpread 4 rfl) (by decide) (by omega) (by omega) (by omega) (by omega) (by omega) ?_
      refine mx_iload_n (k4 := 1) (mx_d D_C_needAgeAndSpread 10 rfl) (by rfl) ?_
      refine mx_iconst (n := 1) (mx_d D_C_needAgeAndSpread 11 rfl) ?_
      by_cases h3 : s < 1
      · refine mx_icmp_ltY 32 (mx_d D_C_needAgeAndSpread 12 rfl) (by decide) (by omega) (by omega) (by omega) (by omega) (by omega) ?_
        exact thr2 (by omega)
      · refine mx_icmp_ltN 32 (mx_d D_C_needAgeAndSpread 12 rfl) (by decide) (by omega) (by omega) (by omega) (by omega) (by omega) ?_
        refine mx_iload_n (k4 := 1) (mx_d D_C_needAgeAndSpread 13 rfl) (by rfl) ?_
        refine mx_bipush (n := 100) (mx_d D_C_needAgeAndSpread 14 rfl) (by decide) ?_
        by_cases h4 : s ≤ 100
        · refine mx_icmp_leY 42 (mx_d D_C_needAgeAndSpread 15 rfl) (by decide) (by omega) (by omega) (by omega) (by omega) (by omega) ?_
          refine mx_vret (by rfl) (mx_d D_C_needAgeAndSpread 21 rfl) ?_
          exact q1 (by omega)
        · refine mx_icmp_leN 42 (mx_d D_C_needAgeAndSpread 15 rfl) (by decide) (by omega) (by omega) (by omega) (by omega) (by omega) ?_
          exact thr2 (by omega)
    · refine mx_icmp_leN 21 (mx_d D_C_needAgeAndSpread 4 rfl) (by decide) (by omega) (by omega) (by omega) (by omega) (by omega) ?_
      exact thr (by omega)
theorem c_needShare (hG : mx_ok G) {u v w : Int} (u1 : -2147483648 ≤ u) (u2 : u < 2147483648) (v1 : -2147483648 ≤ v) (v2 : v < 2147483648) (w1 : -2147483648 ≤ w) (w2 : w < 2147483648) (q0 : ¬ (u ≤ v ∧ v ≤ w ∧ w ≤ 1000) → Q (.inr xA) N ce bc bs) (q1 : u ≤ v ∧ v ≤ w ∧ w ≤ 1000 → Q (.inl none) N ce (bc + 1) (bs + 6)) : mx_M G Y_C_needShare (d + 5) (bc + 1) (bs + 6) false N ce 0 [(0, .int (iI u)), (1, .int (iI v)), (2, .int (iI w))] [] Q := by
  have thr : ¬ (u ≤ v ∧ v ≤ w ∧ w ≤ 1000) → ∀ {l9 : List (Nat × Value)}, mx_M G Y_C_needShare (d + 5) (bc + 1) (bs + 6) false N ce 17 l9 [] Q := by
    intro h l9
    refine mx_throw hG ["java/lang/RuntimeException", "java/lang/Exception"] (E := "java/lang/IllegalArgumentException") (tx := "no such share") (mx_d D_C_needShare 9 rfl) (mx_d D_C_needShare 10 rfl) (mx_d D_C_needShare 11 rfl) (mx_d D_C_needShare 12 rfl) (mx_d D_C_needShare 13 rfl) (by decide) (by decide) (by decide) w_331 w_14 w_332 (by decide) th_107 (by rfl) (by exact Nat.le_of_ble_eq_true rfl) ?_
    exact q0 h
  refine mx_iload_n (k4 := 1) (mx_d D_C_needShare 0 rfl) (by rfl) ?_
  refine mx_iload_n (k4 := 0) (mx_d D_C_needShare 1 rfl) (by rfl) ?_
  by_cases h1 : v < u
  · refine mx_icmp_ltY 17 (mx_d D_C_needShare 2 rfl) (by decide) (by omega) (by omega) (by omega) (by omega) (by omega) ?_
    exact thr (by omega)
  · refine mx_icmp_ltN 17 (mx_d D_C_needShare 2 rfl) (by decide) (by omega) (by omega) (by omega) (by omega) (by omega) ?_
    refine mx_iload_n (k4 := 1) (mx_d D_C_needShare 3 rfl) (by rfl) ?_
    refine mx_iload_n (k4 := 2) (mx_d D_C_needShare 4 rfl) (by rfl) ?_
    by_cases h2 : w < v
    · refine mx_icmp_gtY 17 (mx_d D_C_needShare 5 rfl) (by decide) (by omega) (by omega) (by omega) (by omega) (by omega) ?_
      exact thr (by omega)
    · refine mx_icmp_gtN 17 (mx_d D_C_needShare 5 rfl) (by decide) (by omega) (by omega) (by omega) (by omega) (by omega) ?_
      refine mx_iload_n (k4 := 2) (mx_d D_C_needShare 6 rfl) (by rfl) ?_
      refine mx_sipush (n := 1000) (mx_d D_C_needShare 7 rfl) (by decide) ?_
      by_cases h3 : w ≤ 1000
      · refine mx_icmp_leY 27 (mx_d D_C_needShare 8 rfl) (by decide) (by omega) (by omega) (by omega) (by omega) (by omega) ?_
        refine mx_vret (by rfl) (mx_d D_C_needShare 14 rfl) ?_
        exact q1 (by omega)
      · refine mx_icmp_leN 27 (mx_d D_C_needShare 8 rfl) (by decide) (by omega) (by omega) (by omega) (by omega) (by omega) ?_
        exact thr (by omega)
end CN
