/-! the class's constructor -/
def clY (z : Int) : Int := if 8 < (if z < 60 then z else 60) then (if z < 60 then z else 60) else 8
def clU (z : Int) : Int := if 1 < (if z < 65536 then z else 65536) then (if z < 65536 then z else 65536) else 1
abbrev rfT (G : mx_G) (t n i : Nat) (f : Nat → Nat) : va_E := .inl (G.2.2.2 t, n, .inr (.inr (.inr (.inr (fun j => if j < i then some (mx_B G + f j) else none)))))
theorem rfT_up {G : mx_G} {i : Nat} {f : Nat → Nat} : va_up (fun j => if j < i then some (mx_B G + f j) else none) i (some (mx_B G + f i)) = fun j => if j < i + 1 then some (mx_B G + f j) else none := by
  funext j
  by_cases e : j = i
  · subst e; rw [va_up_self, if_pos (by omega)]
  · rw [va_up_ne _ _ e]
    by_cases h : j < i
    · rw [if_pos h, if_pos (by omega)]
    · rw [if_neg h, if_neg (by omega)]
theorem rfT_0 {G : mx_G} {f : Nat → Nat} : (fun _ => none : Nat → Option Nat) = fun j => if j < 0 then some (mx_B G + f j) else none := by
  funext j
  rw [if_neg (by omega)]
theorem rwN_0 (n : Nat) : rwN (fun _ => 0) n = 0 := by
  induction n with
  | zero => rfl
  | succ n ih => simp only [rwN, ih]; rfl
theorem bgN_0 (n : Nat) : bgN (fun _ => false) n = 0 := by
  induction n with
  | zero => rfl
  | succ n ih => simp only [bgN, ih, bgB]; rfl
theorem mx_Neq {G : mx_G} {Y : mx_Y} {d bc bs : Nat} {ex : Bool} {N N' : Nat} {ce : Nat → va_E} {pc : Nat} {l : List (Nat × Value)} {st : List Value} {Q : mx_P} (e : N = N') (k : mx_M G Y d bc bs ex N' ce pc l st Q) : mx_M G Y d bc bs ex N ce pc l st Q := e ▸ k
section CI
variable {G : mx_G} {d bc bs : Nat} {ce : Nat → va_E} {Q : mx_P}
theorem c_C_init (hG : mx_ok G) {z u : Int} (z1 : -2147483648 ≤ z) (z2 : z < 2147483648) (u1 : -2147483648 ≤ u) (u2 : u < 2147483648) (h0 : ce 0 = .inr (0, [.int 0, .int 0, .null, .null, .null, .null, .null, .null, .int 0, .int 0, .int 0, .int 0, .int 0]))
    (q : ∀ ce' (Y : Nat) (U : Int), (Y : Int) = clY z → U = clU u → CS G Y U 1 0 0 0 0 (fun _ _ => 0) (fun _ _ => 0) (fun _ => 0) (fun _ => 0) (fun _ _ => 0) (fun _ => false) (fun _ => 0) (fun _ => 0) 0 (fun _ => 0) 0 ce' → Q (.inl none) 50 ce' bc bs) : mx_M G Y_C_init (d + 2) (bc + 49) (bs + 2000) true 1 ce 0 [(0, .ref (mx_B G + 0)), (1, .int (iI z)), (2, .int (iI u))] [] Q := by
  obtain ⟨Y, hYe⟩ : ∃ Y : Nat, (Y : Int) = clY z := ⟨(clY z).toNat, by unfold clY; split <;> (try split) <;> omega⟩
  have hY : 8 ≤ Y ∧ Y ≤ 60 := by
    unfold clY at hYe
    split at hYe <;> (try split at hYe) <;> omega
  obtain ⟨U, hUe⟩ : ∃ U : Int, U = clU u := ⟨_, rfl⟩
  have hU : 1 ≤ U ∧ U ≤ 65536 := by
    unfold clU at hUe
    split at hUe <;> (try split at hUe) <;> omega
  have q := fun ce' => q ce' Y U hYe hUe
  have fin : ∀ (ce2 : Nat → va_E), ce2 0 = .inr (0, [.int (iI Y), .int (iI U), .ref (mx_B G + 1), .ref (mx_B G + 14), .null, .null, .null, .null, .int 0, .int 0, .int 0, .int 0, .int 0]) → ce2 1 = aQ G 3 4 (fun j => 2 + 3 * j) → ce2 14 = aQ G 4 12 (fun j => 15 + 2 * j) → csE G Y (fun _ _ => 0) (fun _ _ => 0) ce2 → csD G Y (fun _ => 0) (fun _ => 0) (fun _ _ => 0) ce2 → ∀ {l9 : List (Nat × Value)}, mx_get l9 0 = some (.ref (mx_B G + 0)) → mx_M G Y_C_init (d + 2) (bc + 11) (bs + 500) true 39 ce2 111 l9 [] Q := by
    intro ce2 g0 g1 g14 gE gD l9 hl
    refine mx_loc (l' := [(0, .ref (mx_B G + 0))]) (by simp only [List.map_cons, List.map_nil, hl]) ?_
    refine mx_bud (bc := bc + 1 + 1 + 1 + 1 + 2 + 1 + 3 + 1) (bs := bs + 100 + 4 + 100 + 2 + 8 + 8 + 3 + Y + Y + Y + 4) (by omega) (by omega) ?_
    refine mx_aload_n (k4 := 0) (mx_d D_C_init 56 rfl) (by rfl) ?_
    refine mx_new hG (ci := 3) (n := 4) [.null, .null, .null, .int 0] (mx_d D_C_init 57 rfl) (by rfl) cls_L w_74 w_75 w_5 (by decide) ?_
    refine mx_dup (mx_d D_C_init 58 rfl) (by rfl) ?_
    refine mx_aload_n (k4 := 0) (mx_d D_C_init 59 rfl) (by rfl) ?_
    refine mx_getf hG (idx := 18) (ci := 0) (kf := 0) (mx_d D_C_init 60 rfl) (by rfl) cls_C (by decide) w_149 (by first | assumption | omega) (by first | assumption | exact va_up_self _ _ _ | (rw [va_up_ne _ _ (by omega)]; first | assumption | exact va_up_self _ _ _ | (rw [va_up_ne _ _ (by omega)]; first | assumption | exact va_up_self _ _ _ | (rw [va_up_ne _ _ (by omega)]; first | assumption | exact va_up_self _ _ _ | (rw [va_up_ne _ _ (by omega)]; first | assumption | exact va_up_self _ _ _ | (rw [va_up_ne _ _ (by omega)]; first | assumption | exact va_up_self _ _ _)))))) (by rfl) ?_
    refine mx_callI (Y' := Y_L_init) [_] (mx_d D_C_init 61 rfl) in_L_init w_78 rfl w_76 w_77 np_L_init (by exact Nat.le_of_ble_eq_true rfl) (by rfl) (by rfl) (by exact Nat.le_of_ble_eq_true rfl) (c_L_init hG (by omega) (va_up_self _ _ _) (by omega) (fun ce3 k1 k2 k3 k4 k5 => ?_))
    have a0 : ce3 0 = _ := (k1 0 (by omega) (by omega)).trans ((va_up_ne _ _ (by omega)).trans g0)
    refine mx_putf hG (idx := 45) (ci := 0) (kf := 4) (t := (.object "CurveSums$LeastSet")) (mx_d D_C_init 62 rfl) (by rfl) cls_C (by decide) (Or.inr ⟨rfl, rfl, rfl⟩) w_153 (by first | assumption | omega) (by first | assumption | exact va_up_self _ _ _ | (rw [va_up_ne _ _ (by omega)]; first | assumption | exact va_up_self _ _ _ | (rw [va_up_ne _ _ (by omega)]; first | assumption | exact va_up_self _ _ _ | (rw [va_up_ne _ _ (by omega)]; first | assumption | exact va_up_self _ _ _ | (rw [va_up_ne _ _ (by omega)]; first | assumption | exact va_up_self _ _ _ | (rw [va_up_ne _ _ (by omega)]; first | assumption | exact va_up_self _ _ _)))))) (by exact Nat.le_of_ble_eq_true rfl) (by decide +kernel) (by rfl) (by rfl) ?_
    refine mx_aload_n (k4 := 0) (mx_d D_C_init 63 rfl) (by rfl) ?_
    refine mx_new hG (ci := 4) (n := 3) [.null, .null, .int 0] (mx_d D_C_init 64 rfl) (by rfl) cls_R w_97 w_98 w_6 (by decide) ?_
    refine mx_dup (mx_d D_C_init 65 rfl) (by rfl) ?_
    refine mx_callI (Y' := Y_R_init) [] (mx_d D_C_init 66 rfl) in_R_init w_101 rfl w_99 w_100 np_R_init (by exact Nat.le_of_ble_eq_true rfl) (by rfl) (by rfl) (by exact Nat.le_of_ble_eq_true rfl) (c_R_init hG (by omega) (va_up_self _ _ _) (fun ce4 m1 m2 m3 m4 => ?_))
    have b0 : ce4 0 = _ := (m1 0 (by omega) (by omega)).trans ((va_up_ne _ _ (by omega)).trans (va_up_self _ _ _))
    refine mx_putf hG (idx := 52) (ci := 0) (kf := 5) (t := (.object "CurveSums$DateRow")) (mx_d D_C_init 67 rfl) (by rfl) cls_C (by decide) (Or.inr ⟨rfl, rfl, rfl⟩) w_154 (by first | assumption | omega) (by first | assumption | exact va_up_self _ _ _ | (rw [va_up_ne _ _ (by omega)]; first | assumption | exact va_up_self _ _ _ | (rw [va_up_ne _ _ (by omega)]; first | assumption | exact va_up_self _ _ _ | (rw [va_up_ne _ _ (by omega)]; first | assumption | exact va_up_self _ _ _ | (rw [va_up_ne _ _ (by omega)]; first | assumption | exact va_up_self _ _ _ | (rw [va_up_ne _ _ (by omega)]; first | assumption | exact va_up_self _ _ _)))))) (by exact Nat.le_of_ble_eq_true rfl) (by decide +kernel) (by rfl) (by rfl) ?_
    refine mx_aload_n (k4 := 0) (mx_d D_C_init 68 rfl) (by rfl) ?_
    refine mx_new hG (ci := 5) (n := 2) [.null, .int 0] (mx_d D_C_init 69 rfl) (by rfl) cls_P w_114 w_115 w_7 (by decide) ?_
    refine mx_dup (mx_d D_C_init 70 rfl) (by rfl) ?_
    refine mx_callI (Y' := Y_P_init) [] (mx_d D_C_init 71 rfl) in_P_init w_118 rfl w_116 w_117 np_P_init (by exact Nat.le_of_ble_eq_true rfl) (by rfl) (by rfl) (by exact Nat.le_of_ble_eq_true rfl) (c_P_init hG (by omega) (va_up_self _ _ _) (fun ce5 n1 n2 n3 => ?_))
    have d0 : ce5 0 = _ := (n1 0 (by omega) (by omega)).trans ((va_up_ne _ _ (by omega)).trans (va_up_self _ _ _))
    refine mx_putf hG (idx := 59) (ci := 0) (kf := 6) (t := (.object "CurveSums$Pad")) (mx_d D_C_init 72 rfl) (by rfl) cls_C (by decide) (Or.inr ⟨rfl, rfl, rfl⟩) w_155 (by first | assumption | omega) (by first | assumption | exact va_up_self _ _ _ | (rw [va_up_ne _ _ (by omega)]; first | assumption | exact va_up_self _ _ _ | (rw [va_up_ne _ _ (by omega)]; first | assumption | exact va_up_self _ _ _ | (rw [va_up_ne _ _ (by omega)]; first | assumption | exact va_up_self _ _ _ | (rw [va_up_ne _ _ (by omega)]; first | assumption | exact va_up_self _ _ _ | (rw [va_up_ne _ _ (by omega)]; first | assumption | exact va_up_self _ _ _)))))) (by exact Nat.le_of_ble_eq_true rfl) (by decide +kernel) (by rfl) (by rfl) ?_
    refine mx_aload_n (k4 := 0) (mx_d D_C_init 73 rfl) (by rfl) ?_
    refine mx_new hG (ci := 6) (n := 4) [.int 0, .null, .int 0, .int 0] (mx_d D_C_init 74 rfl) (by rfl) cls_T w_130 w_131 w_8 (by decide) ?_
    refine mx_dup (mx_d D_C_init 75 rfl) (by rfl) ?_
    refine mx_aload_n (k4 := 0) (mx_d D_C_init 76 rfl) (by rfl) ?_
    refine mx_getf hG (idx := 18) (ci := 0) (kf := 0) (mx_d D_C_init 77 rfl) (by rfl) cls_C (by decide) w_149 (by first | assumption | omega) (by first | assumption | exact va_up_self _ _ _ | (rw [va_up_ne _ _ (by omega)]; first | assumption | exact va_up_self _ _ _ | (rw [va_up_ne _ _ (by omega)]; first | assumption | exact va_up_self _ _ _ | (rw [va_up_ne _ _ (by omega)]; first | assumption | exact va_up_self _ _ _ | (rw [va_up_ne _ _ (by omega)]; first | assumption | exact va_up_self _ _ _ | (rw [va_up_ne _ _ (by omega)]; first | assumption | exact va_up_self _ _ _)))))) (by rfl) ?_
    refine mx_callI (Y' := Y_T_init) [_] (mx_d D_C_init 78 rfl) in_T_init w_134 rfl w_132 w_133 np_T_init (by exact Nat.le_of_ble_eq_true rfl) (by rfl) (by rfl) (by exact Nat.le_of_ble_eq_true rfl) (c_T_init hG (by omega) (va_up_self _ _ _) (fun ce6 p1 p2 p3 => ?_))
    have e0 : ce6 0 = _ := (p1 0 (by omega) (by omega)).trans ((va_up_ne _ _ (by omega)).trans (va_up_self _ _ _))
    refine mx_putf hG (idx := 66) (ci := 0) (kf := 7) (t := (.object "CurveSums$TextReader")) (mx_d D_C_init 79 rfl) (by rfl) cls_C (by decide) (Or.inr ⟨rfl, rfl, rfl⟩) w_156 (by first | assumption | omega) (by first | assumption | exact va_up_self _ _ _ | (rw [va_up_ne _ _ (by omega)]; first | assumption | exact va_up_self _ _ _ | (rw [va_up_ne _ _ (by omega)]; first | assumption | exact va_up_self _ _ _ | (rw [va_up_ne _ _ (by omega)]; first | assumption | exact va_up_self _ _ _ | (rw [va_up_ne _ _ (by omega)]; first | assumption | exact va_up_self _ _ _ | (rw [va_up_ne _ _ (by omega)]; first | assumption | exact va_up_self _ _ _)))))) (by exact Nat.le_of_ble_eq_true rfl) (by decide +kernel) (by rfl) (by rfl) ?_
    refine mx_aload_n (k4 := 0) (mx_d D_C_init 80 rfl) (by rfl) ?_
    refine mx_iconst (n := 1) (mx_d D_C_init 81 rfl) ?_
    refine mx_putf hG (idx := 70) (ci := 0) (kf := 8) (t := (.int)) (mx_d D_C_init 82 rfl) (by rfl) cls_C (by decide) (Or.inl rfl) w_157 (by first | assumption | omega) (by first | assumption | exact va_up_self _ _ _ | (rw [va_up_ne _ _ (by omega)]; first | assumption | exact va_up_self _ _ _ | (rw [va_up_ne _ _ (by omega)]; first | assumption | exact va_up_self _ _ _ | (rw [va_up_ne _ _ (by omega)]; first | assumption | exact va_up_self _ _ _ | (rw [va_up_ne _ _ (by omega)]; first | assumption | exact va_up_self _ _ _ | (rw [va_up_ne _ _ (by omega)]; first | assumption | exact va_up_self _ _ _)))))) (by exact Nat.le_of_ble_eq_true rfl) (by decide +kernel) (by rfl) (by rfl) ?_
    refine mx_vret (by rfl) (mx_d D_C_init 83 rfl) ?_
    rw [bx_uu]
    have f5 : ∀ k, k ≠ 0 → k < 48 → k ≠ 46 → k ≠ 47 → ce6 k = ce4 k := fun k h1 h2 h3 h4 => by
      rw [p1 k (by omega) (by omega), va_up_ne _ _ (by omega), va_up_ne _ _ h1, n1 k h3 (by omega), va_up_ne _ _ (by omega), va_up_ne _ _ h1]
    have f4 : ∀ k, k ≠ 0 → k < 43 → ce6 k = ce3 k := fun k h1 h2 => by
      rw [f5 k h1 (by omega) (by omega) (by omega), m1 k (by omega) (by omega), va_up_ne _ _ (by omega), va_up_ne _ _ h1]
    have f3 : ∀ k, k ≠ 0 → k < 39 → ce6 k = ce2 k := fun k h1 h2 => by
      rw [f4 k h1 (by omega), k1 k (by omega) (by omega), va_up_ne _ _ (by omega)]
    have f6 : ∀ k, k < 48 → k ≠ 0 → 46 ≤ k → ce6 k = ce5 k := fun k h1 h2 h3 => by
      rw [p1 k (by omega) (by omega), va_up_ne _ _ (by omega), va_up_ne _ _ h2]
    refine q _ ⟨⟨hY, hU, ⟨by omega, by omega⟩, by omega, ⟨by omega, by omega⟩, ⟨by omega, by omega⟩, fun _ _ _ _ => ⟨Int.le_refl 0, show (0 : Int) ≤ 3000 by omega⟩, fun _ _ _ _ => ⟨Int.le_refl 0, show (0 : Int) ≤ 100 by omega⟩, fun _ _ => ⟨Int.le_refl 0, show (0 : Int) ≤ 3000 by omega⟩, fun _ _ => ⟨Int.le_refl 0, show (0 : Int) ≤ 100 by omega⟩, fun _ _ _ => ⟨rfl, rfl⟩, fun _ _ _ _ => ⟨Int.le_refl 0, show (0 : Int) ≤ 1000000 by omega⟩, by omega, fun _ h => absurd h (by omega), by omega, fun _ h => absurd h (by omega)⟩, va_up_self _ _ _, ?_, ?_, csE_fr gE (fun k _ _ => ?_), csD_fr gD (fun k _ _ => ?_), ⟨?_, ?_, fun _ => 0, fun _ => 0, ?_, ?_, ?_⟩, ⟨?_, ?_, ?_⟩, ⟨?_, ?_⟩, ⟨0, false, fun _ => 0, ?_, ?_⟩⟩
    · rw [va_up_ne _ _ (by omega), f3 1 (by omega) (by omega)]; exact g1
    · rw [va_up_ne _ _ (by omega), f3 14 (by omega) (by omega)]; exact g14
    · rw [va_up_ne _ _ (by omega), f3 k (by omega) (by omega)]
    · rw [va_up_ne _ _ (by omega), f3 k (by omega) (by omega)]
    · rw [va_up_ne _ _ (by omega), f4 39 (by omega) (by omega), k2, bgN_0]; rfl
    · rw [va_up_ne _ _ (by omega), f4 40 (by omega) (by omega)]; exact k3
    · rw [va_up_ne _ _ (by omega), f4 41 (by omega) (by omega)]; exact k4
    · rw [va_up_ne _ _ (by omega), f4 42 (by omega) (by omega)]; exact k5
    · rw [bgN_0]; exact fun k hk => absurd hk (by omega)
    · rw [va_up_ne _ _ (by omega), f5 43 (by omega) (by omega) (by omega) (by omega), m2]; rfl
    · rw [va_up_ne _ _ (by omega), f5 44 (by omega) (by omega) (by omega) (by omega), m3]; rfl
    · rw [va_up_ne _ _ (by omega), f5 45 (by omega) (by omega) (by omega) (by omega), m4]; rfl
    · rw [va_up_ne _ _ (by omega), f6 46 (by omega) (by omega) (by omega), n2]; rfl
    · rw [va_up_ne _ _ (by omega), f6 47 (by omega) (by omega) (by omega), n3]
    · rw [va_up_ne _ _ (by omega), p2]; rfl
    · rw [va_up_ne _ _ (by omega), p3]
  have lp2 : ∀ (k i : Nat) (ce2 : Nat → va_E), i + k = 12 → ce2 0 = .inr (0, [.int (iI Y), .int (iI U), .ref (mx_B G + 1), .ref (mx_B G + 14), .null, .null, .null, .null, .int 0, .int 0, .int 0, .int 0, .int 0]) → ce2 1 = aQ G 3 4 (fun j => 2 + 3 * j) → ce2 14 = rfT G 4 12 i (fun j => 15 + 2 * j) → csE G Y (fun _ _ => 0) (fun _ _ => 0) ce2 → (∀ j, j < i → ce2 (15 + 2 * j) = .inr (2, [.ref (mx_B G + (16 + 2 * j)), .int (iI 0), .int (iI 0)]) ∧ ce2 (16 + 2 * j) = aI G Y (fun _ => 0)) → mx_M G Y_C_init (d + 2) (bc + 11 + 2 * k) (bs + 500 + 63 * k) true (15 + 2 * i) ce2 82 [(0, .ref (mx_B G + 0)), (3, .int (iI i))] [] Q := by
    intro k
    induction k with
    | zero =>
      intro i ce2 hi g0 g1 g14 gE gD
      obtain rfl : i = 12 := by omega
      refine mx_iload_n (k4 := 3) (mx_d D_C_init 42 rfl) (by rfl) ?_
      refine mx_bipush (n := 12) (mx_d D_C_init 43 rfl) (by decide) ?_
      refine mx_icmp_geY 111 (mx_d D_C_init 44 rfl) (by decide) (by omega) (by omega) (by omega) (by omega) (by omega) ?_
      exact mx_bud (by omega) (by omega) (fin ce2 g0 g1 g14 gE gD rfl)
    | succ k ih =>
      intro i ce2 hi g0 g1 g14 gE gD
      refine mx_bud (bc := bc + 11 + 2 * k + 1 + 1) (bs := bs + 500 + 63 * k + Y + 3) (by omega) (by omega) ?_
      refine mx_iload_n (k4 := 3) (mx_d D_C_init 42 rfl) (by rfl) ?_
      refine mx_bipush (n := 12) (mx_d D_C_init 43 rfl) (by decide) ?_
      refine mx_icmp_geN 111 (mx_d D_C_init 44 rfl) (by decide) (by omega) (by omega) (by omega) (by omega) (by omega) ?_
      refine mx_aload_n (k4 := 0) (mx_d D_C_init 45 rfl) (by rfl) ?_
      refine mx_getf hG (idx := 37) (ci := 0) (kf := 3) (mx_d D_C_init 46 rfl) (by rfl) cls_C (by decide) w_152 (by first | assumption | omega) (by first | assumption | exact va_up_self _ _ _ | (rw [va_up_ne _ _ (by omega)]; first | assumption | exact va_up_self _ _ _ | (rw [va_up_ne _ _ (by omega)]; first | assumption | exact va_up_self _ _ _ | (rw [va_up_ne _ _ (by omega)]; first | assumption | exact va_up_self _ _ _ | (rw [va_up_ne _ _ (by omega)]; first | assumption | exact va_up_self _ _ _ | (rw [va_up_ne _ _ (by omega)]; first | assumption | exact va_up_self _ _ _)))))) (by rfl) ?_
      refine mx_iload_n (k4 := 3) (mx_d D_C_init 47 rfl) (by rfl) ?_
      refine mx_new hG (ci := 2) (n := 3) [.null, .int 0, .int 0] (mx_d D_C_init 48 rfl) (by rfl) cls_D w_53 w_55 w_4 (by decide) ?_
      refine mx_dup (mx_d D_C_init 49 rfl) (by rfl) ?_
      refine mx_aload_n (k4 := 0) (mx_d D_C_init 50 rfl) (by rfl) ?_
      refine mx_getf hG (idx := 18) (ci := 0) (kf := 0) (mx_d D_C_init 51 rfl) (by rfl) cls_C (by decide) w_149 (by first | assumption | omega) (by first | assumption | exact va_up_self _ _ _ | (rw [va_up_ne _ _ (by omega)]; first | assumption | exact va_up_self _ _ _ | (rw [va_up_ne _ _ (by omega)]; first | assumption | exact va_up_self _ _ _ | (rw [va_up_ne _ _ (by omega)]; first | assumption | exact va_up_self _ _ _ | (rw [va_up_ne _ _ (by omega)]; first | assumption | exact va_up_self _ _ _ | (rw [va_up_ne _ _ (by omega)]; first | assumption | exact va_up_self _ _ _)))))) (by rfl) ?_
      refine mx_callI (Y' := Y_D_init) [_] (mx_d D_C_init 52 rfl) in_D_init w_58 rfl w_56 w_57 np_D_init (by exact Nat.le_of_ble_eq_true rfl) (by rfl) (by rfl) (by exact Nat.le_of_ble_eq_true rfl) (c_D_init hG (by omega) (va_up_self _ _ _) (by omega) (fun ce3 k1 k2 k3 => ?_))
      have a0 : ce3 0 = _ := (k1 0 (by omega) (by omega)).trans ((va_up_ne _ _ (by omega)).trans g0)
      have a14 : ce3 14 = _ := (k1 14 (by omega) (by omega)).trans ((va_up_ne _ _ (by omega)).trans g14)
      refine mx_aast hG (r0 := ("CurveSums$Dating", _, _)) 4 _ (mx_d D_C_init 53 rfl) (by first | assumption | omega) (by first | assumption | exact va_up_self _ _ _ | (rw [va_up_ne _ _ (by omega)]; first | assumption | exact va_up_self _ _ _ | (rw [va_up_ne _ _ (by omega)]; first | assumption | exact va_up_self _ _ _ | (rw [va_up_ne _ _ (by omega)]; first | assumption | exact va_up_self _ _ _ | (rw [va_up_ne _ _ (by omega)]; first | assumption | exact va_up_self _ _ _ | (rw [va_up_ne _ _ (by omega)]; first | assumption | exact va_up_self _ _ _)))))) (by rfl) (by first | assumption | omega) (by first | assumption | exact va_up_self _ _ _ | (rw [va_up_ne _ _ (by omega)]; first | assumption | exact va_up_self _ _ _ | (rw [va_up_ne _ _ (by omega)]; first | assumption | exact va_up_self _ _ _ | (rw [va_up_ne _ _ (by omega)]; first | assumption | exact va_up_self _ _ _ | (rw [va_up_ne _ _ (by omega)]; first | assumption | exact va_up_self _ _ _ | (rw [va_up_ne _ _ (by omega)]; first | assumption | exact va_up_self _ _ _)))))) (by rfl) (by rfl) (by omega) (by omega) ?_
      rw [rfT_up (f := fun j => 15 + 2 * j)]
      refine mx_iincI (i := 3) (n := 1) (mx_d D_C_init 54 rfl) (by rfl) (by decide) ?_
      refine mx_goto 82 (mx_d D_C_init 55 rfl) (by decide) ?_
      rw [show 15 + 2 * i + 1 = 16 + 2 * i from by omega] at k2 k3
      refine mx_loc (by rfl) (mx_Neq (show 15 + 2 * i + 1 + 1 = 15 + 2 * (i + 1) by omega) (ih (i + 1) _ (by omega) ?_ ?_ (va_up_self _ _ _) (csE_fr gE (fun k _ _ => ?_)) (fun j hj => ?_)))
      · rw [va_up_ne _ _ (by omega)]; exact a0
      · rw [va_up_ne _ _ (by omega), k1 1 (by omega) (by omega), va_up_ne _ _ (by omega)]; exact g1
      · rw [va_up_ne _ _ (by omega), k1 k (by omega) (by omega), va_up_ne _ _ (by omega)]
      · rw [va_up_ne _ _ (by omega), va_up_ne _ _ (by omega)]
        by_cases e : j = i
        · subst e; exact ⟨k2, k3⟩
        · rw [k1 _ (by omega) (by omega), k1 _ (by omega) (by omega), va_up_ne _ _ (by omega), va_up_ne _ _ (by omega)]
          exact gD j (by omega)
  have lp1 : ∀ (k i : Nat) (ce2 : Nat → va_E), i + k = 4 → ce2 0 = .inr (0, [.int (iI Y), .int (iI U), .ref (mx_B G + 1), .null, .null, .null, .null, .null, .int 0, .int 0, .int 0, .int 0, .int 0]) → ce2 1 = rfT G 3 4 i (fun j => 2 + 3 * j) → (∀ j, j < i → ce2 (2 + 3 * j) = .inr (1, [.ref (mx_B G + (3 + 3 * j)), .ref (mx_B G + (4 + 3 * j)), .int (iI 0)]) ∧ ce2 (3 + 3 * j) = aI G Y (fun _ => 0) ∧ ce2 (4 + 3 * j) = aI G Y (fun _ => 0)) → mx_M G Y_C_init (d + 2) (bc + 36 + 3 * k) (bs + 1300 + 123 * k) true (2 + 3 * i) ce2 43 [(0, .ref (mx_B G + 0)), (3, .int (iI i))] [] Q := by
    intro k
    induction k with
    | zero =>
      intro i ce2 hi g0 g1 gE
      obtain rfl : i = 4 := by omega
      refine mx_bud (bc := bc + 11 + 2 * 12 + 1) (bs := bs + 500 + 63 * 12 + 12) (by omega) (by omega) ?_
      refine mx_iload_n (k4 := 3) (mx_d D_C_init 22 rfl) (by rfl) ?_
      refine mx_iconst (n := 4) (mx_d D_C_init 23 rfl) ?_
      refine mx_icmp_geY 71 (mx_d D_C_init 24 rfl) (by decide) (by omega) (by omega) (by omega) (by omega) (by omega) ?_
      refine mx_aload_n (k4 := 0) (mx_d D_C_init 36 rfl) (by rfl) ?_
      refine mx_bipush (n := 12) (mx_d D_C_init 37 rfl) (by decide) ?_
      refine mx_newq hG 4 (mx_d D_C_init 38 rfl) (by rfl) w_53 w_54 (by rfl) (by omega) ?_
      refine mx_putf hG (idx := 37) (ci := 0) (kf := 3) (t := (.array (.object "CurveSums$Dating"))) (mx_d D_C_init 39 rfl) (by rfl) cls_C (by decide) (Or.inr ⟨rfl, rfl, rfl⟩) w_152 (by first | assumption | omega) (by first | assumption | exact va_up_self _ _ _ | (rw [va_up_ne _ _ (by omega)]; first | assumption | exact va_up_self _ _ _ | (rw [va_up_ne _ _ (by omega)]; first | assumption | exact va_up_self _ _ _ | (rw [va_up_ne _ _ (by omega)]; first | assumption | exact va_up_self _ _ _ | (rw [va_up_ne _ _ (by omega)]; first | assumption | exact va_up_self _ _ _ | (rw [va_up_ne _ _ (by omega)]; first | assumption | exact va_up_self _ _ _)))))) (by exact Nat.le_of_ble_eq_true rfl) (by decide +kernel) (by rfl) (by rfl) ?_
      refine mx_iconst (n := 0) (mx_d D_C_init 40 rfl) ?_
      refine mx_istore_n (k4 := 3) (mx_d D_C_init 41 rfl) (by decide) ?_
      refine mx_loc (by rfl) (lp2 12 0 _ (by omega) (va_up_self _ _ _) ?_ ?_ (fun e he => ?_) (fun j hj => absurd hj (by omega)))
      · rw [va_up_ne _ _ (by omega), va_up_ne _ _ (by omega)]; exact g1
      · rw [va_up_ne _ _ (by omega), va_up_self, rfT_0 (G := G) (f := fun j => 15 + 2 * j)]
      · rw [va_up_ne _ _ (by omega), va_up_ne _ _ (by omega), va_up_ne _ _ (by omega), va_up_ne _ _ (by omega), va_up_ne _ _ (by omega), va_up_ne _ _ (by omega), rwN_0]
        exact gE e he
    | succ k ih =>
      intro i ce2 hi g0 g1 gE
      refine mx_bud (bc := bc + 36 + 3 * k + 2 + 1) (bs := bs + 1300 + 123 * k + Y + Y + 3) (by omega) (by omega) ?_
      refine mx_iload_n (k4 := 3) (mx_d D_C_init 22 rfl) (by rfl) ?_
      refine mx_iconst (n := 4) (mx_d D_C_init 23 rfl) ?_
      refine mx_icmp_geN 71 (mx_d D_C_init 24 rfl) (by decide) (by omega) (by omega) (by omega) (by omega) (by omega) ?_
      refine mx_aload_n (k4 := 0) (mx_d D_C_init 25 rfl) (by rfl) ?_
      refine mx_getf hG (idx := 28) (ci := 0) (kf := 2) (mx_d D_C_init 26 rfl) (by rfl) cls_C (by decide) w_151 (by first | assumption | omega) (by first | assumption | exact va_up_self _ _ _ | (rw [va_up_ne _ _ (by omega)]; first | assumption | exact va_up_self _ _ _ | (rw [va_up_ne _ _ (by omega)]; first | assumption | exact va_up_self _ _ _ | (rw [va_up_ne _ _ (by omega)]; first | assumption | exact va_up_self _ _ _ | (rw [va_up_ne _ _ (by omega)]; first | assumption | exact va_up_self _ _ _ | (rw [va_up_ne _ _ (by omega)]; first | assumption | exact va_up_self _ _ _)))))) (by rfl) ?_
      refine mx_iload_n (k4 := 3) (mx_d D_C_init 27 rfl) (by rfl) ?_
      refine mx_new hG (ci := 1) (n := 3) [.null, .null, .int 0] (mx_d D_C_init 28 rfl) (by rfl) cls_E w_32 w_34 w_3 (by decide) ?_
      refine mx_dup (mx_d D_C_init 29 rfl) (by rfl) ?_
      refine mx_aload_n (k4 := 0) (mx_d D_C_init 30 rfl) (by rfl) ?_
      refine mx_getf hG (idx := 18) (ci := 0) (kf := 0) (mx_d D_C_init 31 rfl) (by rfl) cls_C (by decide) w_149 (by first | assumption | omega) (by first | assumption | exact va_up_self _ _ _ | (rw [va_up_ne _ _ (by omega)]; first | assumption | exact va_up_self _ _ _ | (rw [va_up_ne _ _ (by omega)]; first | assumption | exact va_up_self _ _ _ | (rw [va_up_ne _ _ (by omega)]; first | assumption | exact va_up_self _ _ _ | (rw [va_up_ne _ _ (by omega)]; first | assumption | exact va_up_self _ _ _ | (rw [va_up_ne _ _ (by omega)]; first | assumption | exact va_up_self _ _ _)))))) (by rfl) ?_
      refine mx_callI (Y' := Y_E_init) [_] (mx_d D_C_init 32 rfl) in_E_init w_37 rfl w_35 w_36 np_E_init (by exact Nat.le_of_ble_eq_true rfl) (by rfl) (by rfl) (by exact Nat.le_of_ble_eq_true rfl) (c_E_init hG (by omega) (va_up_self _ _ _) (by omega) (fun ce3 k1 k2 k3 k4 => ?_))
      have a0 : ce3 0 = _ := (k1 0 (by omega) (by omega)).trans ((va_up_ne _ _ (by omega)).trans g0)
      have a1 : ce3 1 = _ := (k1 1 (by omega) (by omega)).trans ((va_up_ne _ _ (by omega)).trans g1)
      refine mx_aast hG (r0 := ("CurveSums$Edition", _, _)) 3 _ (mx_d D_C_init 33 rfl) (by first | assumption | omega) (by first | assumption | exact va_up_self _ _ _ | (rw [va_up_ne _ _ (by omega)]; first | assumption | exact va_up_self _ _ _ | (rw [va_up_ne _ _ (by omega)]; first | assumption | exact va_up_self _ _ _ | (rw [va_up_ne _ _ (by omega)]; first | assumption | exact va_up_self _ _ _ | (rw [va_up_ne _ _ (by omega)]; first | assumption | exact va_up_self _ _ _ | (rw [va_up_ne _ _ (by omega)]; first | assumption | exact va_up_self _ _ _)))))) (by rfl) (by first | assumption | omega) (by first | assumption | exact va_up_self _ _ _ | (rw [va_up_ne _ _ (by omega)]; first | assumption | exact va_up_self _ _ _ | (rw [va_up_ne _ _ (by omega)]; first | assumption | exact va_up_self _ _ _ | (rw [va_up_ne _ _ (by omega)]; first | assumption | exact va_up_self _ _ _ | (rw [va_up_ne _ _ (by omega)]; first | assumption | exact va_up_self _ _ _ | (rw [va_up_ne _ _ (by omega)]; first | assumption | exact va_up_self _ _ _)))))) (by rfl) (by rfl) (by omega) (by omega) ?_
      rw [rfT_up (f := fun j => 2 + 3 * j)]
      refine mx_iincI (i := 3) (n := 1) (mx_d D_C_init 34 rfl) (by rfl) (by decide) ?_
      refine mx_goto 43 (mx_d D_C_init 35 rfl) (by decide) ?_
      rw [show 2 + 3 * i + 1 = 3 + 3 * i from by omega, show 3 + 3 * i + 1 = 4 + 3 * i from by omega] at k2
      rw [show 2 + 3 * i + 1 = 3 + 3 * i from by omega] at k3
      rw [show 2 + 3 * i + 1 + 1 = 4 + 3 * i from by omega] at k4
      refine mx_loc (by rfl) (mx_Neq (show 2 + 3 * i + 1 + 2 = 2 + 3 * (i + 1) by omega) (ih (i + 1) _ (by omega) ?_ (va_up_self _ _ _) (fun j hj => ?_)))
      · rw [va_up_ne _ _ (by omega)]; exact a0
      · rw [va_up_ne _ _ (by omega), va_up_ne _ _ (by omega), va_up_ne _ _ (by omega)]
        by_cases e : j = i
        · subst e; exact ⟨k2, k3, k4⟩
        · rw [k1 _ (by omega) (by omega), k1 _ (by omega) (by omega), k1 _ (by omega) (by omega), va_up_ne _ _ (by omega), va_up_ne _ _ (by omega), va_up_ne _ _ (by omega)]
          exact gE j (by omega)
  refine mx_bud (bc := bc + 36 + 3 * 4 + 1) (bs := bs + 1300 + 123 * 4 + 4) (by omega) (by omega) ?_
  refine mx_aload_n (k4 := 0) (mx_d D_C_init 0 rfl) (by rfl) ?_
  refine mx_objInit (mx_d D_C_init 1 rfl) w_22 w_23 w_objcode (by exact Nat.le_of_ble_eq_true rfl) ?_
  refine mx_aload_n (k4 := 0) (mx_d D_C_init 2 rfl) (by rfl) ?_
  refine mx_bipush (n := 8) (mx_d D_C_init 3 rfl) (by decide) ?_
  refine mx_bipush (n := 60) (mx_d D_C_init 4 rfl) (by decide) ?_
  refine mx_iload_n (k4 := 1) (mx_d D_C_init 5 rfl) (by rfl) ?_
  refine mx_mminI (mx_d D_C_init 6 rfl) w_25 w_26 w_2 w_mmincode (by exact Nat.le_of_ble_eq_true rfl) (by omega) (by omega) (by omega) (by omega) ?_
  refine mx_mmaxI (mx_d D_C_init 7 rfl) w_28 w_29 w_2 w_mmaxcode (by exact Nat.le_of_ble_eq_true rfl) (by first | omega | (split <;> omega)) (by first | omega | (split <;> omega)) (by first | omega | (split <;> omega)) (by first | omega | (split <;> omega)) ?_
  rw [show (if (8 : Int) < (if z < 60 then z else 60) then (if z < 60 then z else 60) else 8) = (Y : Int) from hYe.symm]
  refine mx_putf hG (idx := 18) (ci := 0) (kf := 0) (t := (.int)) (mx_d D_C_init 8 rfl) (by rfl) cls_C (by decide) (Or.inr ⟨rfl, rfl, rfl⟩) w_149 (by first | assumption | omega) (by first | assumption | exact va_up_self _ _ _ | (rw [va_up_ne _ _ (by omega)]; first | assumption | exact va_up_self _ _ _ | (rw [va_up_ne _ _ (by omega)]; first | assumption | exact va_up_self _ _ _ | (rw [va_up_ne _ _ (by omega)]; first | assumption | exact va_up_self _ _ _ | (rw [va_up_ne _ _ (by omega)]; first | assumption | exact va_up_self _ _ _ | (rw [va_up_ne _ _ (by omega)]; first | assumption | exact va_up_self _ _ _)))))) (by exact Nat.le_of_ble_eq_true rfl) (by decide +kernel) (by rfl) (by rfl) ?_
  refine mx_aload_n (k4 := 0) (mx_d D_C_init 9 rfl) (by rfl) ?_
  refine mx_iconst (n := 1) (mx_d D_C_init 10 rfl) ?_
  refine mx_ldcI (v := 65536) (z := 65536) (mx_d D_C_init 11 rfl) w_31 (by decide) ?_
  refine mx_iload_n (k4 := 2) (mx_d D_C_init 12 rfl) (by rfl) ?_
  refine mx_mminI (mx_d D_C_init 13 rfl) w_25 w_26 w_2 w_mmincode (by exact Nat.le_of_ble_eq_true rfl) (by omega) (by omega) (by omega) (by omega) ?_
  refine mx_mmaxI (mx_d D_C_init 14 rfl) w_28 w_29 w_2 w_mmaxcode (by exact Nat.le_of_ble_eq_true rfl) (by first | omega | (split <;> omega)) (by first | omega | (split <;> omega)) (by first | omega | (split <;> omega)) (by first | omega | (split <;> omega)) ?_
  rw [show (if (1 : Int) < (if u < 65536 then u else 65536) then (if u < 65536 then u else 65536) else 1) = U from hUe.symm]
  refine mx_putf hG (idx := 23) (ci := 0) (kf := 1) (t := (.int)) (mx_d D_C_init 15 rfl) (by rfl) cls_C (by decide) (Or.inr ⟨rfl, rfl, rfl⟩) w_150 (by first | assumption | omega) (by first | assumption | exact va_up_self _ _ _ | (rw [va_up_ne _ _ (by omega)]; first | assumption | exact va_up_self _ _ _ | (rw [va_up_ne _ _ (by omega)]; first | assumption | exact va_up_self _ _ _ | (rw [va_up_ne _ _ (by omega)]; first | assumption | exact va_up_self _ _ _ | (rw [va_up_ne _ _ (by omega)]; first | assumption | exact va_up_self _ _ _ | (rw [va_up_ne _ _ (by omega)]; first | assumption | exact va_up_self _ _ _)))))) (by exact Nat.le_of_ble_eq_true rfl) (by decide +kernel) (by rfl) (by rfl) ?_
  refine mx_aload_n (k4 := 0) (mx_d D_C_init 16 rfl) (by rfl) ?_
  refine mx_iconst (n := 4) (mx_d D_C_init 17 rfl) ?_
  refine mx_newq hG 3 (mx_d D_C_init 18 rfl) (by rfl) w_32 w_33 (by rfl) (by omega) ?_
  refine mx_putf hG (idx := 28) (ci := 0) (kf := 2) (t := (.array (.object "CurveSums$Edition"))) (mx_d D_C_init 19 rfl) (by rfl) cls_C (by decide) (Or.inr ⟨rfl, rfl, rfl⟩) w_151 (by first | assumption | omega) (by first | assumption | exact va_up_self _ _ _ | (rw [va_up_ne _ _ (by omega)]; first | assumption | exact va_up_self _ _ _ | (rw [va_up_ne _ _ (by omega)]; first | assumption | exact va_up_self _ _ _ | (rw [va_up_ne _ _ (by omega)]; first | assumption | exact va_up_self _ _ _ | (rw [va_up_ne _ _ (by omega)]; first | assumption | exact va_up_self _ _ _ | (rw [va_up_ne _ _ (by omega)]; first | assumption | exact va_up_self _ _ _)))))) (by exact Nat.le_of_ble_eq_true rfl) (by decide +kernel) (by rfl) (by rfl) ?_
  refine mx_iconst (n := 0) (mx_d D_C_init 20 rfl) ?_
  refine mx_istore_n (k4 := 3) (mx_d D_C_init 21 rfl) (by decide) ?_
  refine mx_loc (by rfl) (lp1 4 0 _ (by omega) (va_up_self _ _ _) ?_ (fun j hj => absurd hj (by omega)))
  rw [va_up_ne _ _ (by omega), va_up_self, rfT_0 (G := G) (f := fun j => 2 + 3 * j)]
end CI
