/-! the law -/
def cellV (xs : Nat → Int32) (L k : Nat) : Int := if k < L then (xs k).toInt else 0
theorem cellV_lo (xs : Nat → Int32) (L k : Nat) : -2147483648 ≤ cellV xs L k := by unfold cellV; split; exact i32_lo _; omega
theorem cellV_hi (xs : Nat → Int32) (L k : Nat) : cellV xs L k < 2147483648 := by unfold cellV; split; exact i32_hi _; omega
section LX
variable {G : mx_G} {d bc bs : Nat} {ex : Bool} {N : Nat} {ce : Nat → va_E} {Q : mx_P} {b L : Nat} {xs : Nat → Int32}
theorem l_cell (hX : va_X b L xs G.2.1 G.2.1.heap) (hbB : b < mx_B G) (hL2 : L ≤ 2562) {k : Nat} (hk : k ≤ 2) (q : Q (.inl (some (.int (iI (cellV xs L k))))) N ce bc bs) : mx_M G Y_W_cell d bc bs ex N ce 0 [(0, .ref b), (1, .int (iI k))] [] Q := by
  refine mx_iload_n (k4 := 1) (mx_d D_W_cell 0 rfl) (by rfl) ?_
  refine mx_aload_n (k4 := 0) (mx_d D_W_cell 1 rfl) (by rfl) ?_
  refine mx_slen hX hbB (mx_d D_W_cell 2 rfl) ?_
  by_cases h : k < L
  · rw [cellV, if_pos h] at q
    refine mx_icmp_geN 12 (mx_d D_W_cell 3 rfl) (by decide) (by omega) (by omega) (by omega) (by omega) (by omega) ?_
    refine mx_aload_n (k4 := 0) (mx_d D_W_cell 4 rfl) (by rfl) ?_
    refine mx_iload_n (k4 := 1) (mx_d D_W_cell 5 rfl) (by rfl) ?_
    refine mx_sld hX hbB (k) (mx_d D_W_cell 6 rfl) (by rfl) (by omega) (by omega) ?_
    refine mx_goto 13 (mx_d D_W_cell 7 rfl) (by decide) ?_
    refine mx_iret (by rfl) (mx_d D_W_cell 9 rfl) ?_
    exact q
  · rw [cellV, if_neg h] at q
    refine mx_icmp_geY 12 (mx_d D_W_cell 3 rfl) (by decide) (by omega) (by omega) (by omega) (by omega) (by omega) ?_
    refine mx_iconst (n := 0) (mx_d D_W_cell 8 rfl) ?_
    refine mx_iret (by rfl) (mx_d D_W_cell 9 rfl) ?_
    exact q
theorem l_loop (hG : mx_ok G) (hK : mx_Nok G) (hX : va_X b L xs G.2.1 G.2.1.heap) (hbB : b < mx_B G) (hL2 : L ≤ 2562) (q : ∀ ce bc bs, Q (.inl (some (.int (iI 1)))) 64 ce bc bs) : ∀ (k i : Nat) (ce : Nat → va_E), L ≤ i + 4 + 5 * k → i ≤ 3000 → INV G ce → mx_M G Y_W_law 10 (bc + k) (bs + 6 * k) false 64 ce 43 [(0, .ref b), (1, .ref (mx_B G + 0)), (2, .ref (mx_B G + 50)), (3, .ref (mx_B G + 63)), (4, .int (iI i))] [] Q := by
  have fin : ∀ {ce : Nat → va_E} {bc bs : Nat} {l9 : List (Nat × Value)}, mx_M G Y_W_law 10 bc bs false 64 ce 1244 l9 [] Q := by
    intro ce bc bs l9
    refine mx_iconst (n := 1) (mx_d D_W_law_15 0 rfl) ?_
    refine mx_zret (by rfl) (mx_d D_W_law_15 1 rfl) (by first | rfl | assumption) ?_
    exact q _ _ _
  intro k
  induction k with
  | zero =>
    intro i ce hk hi hI
    refine mx_iload (i := 4) (mx_d D_W_law_0 25 rfl) (by rfl) ?_
    refine mx_aload_n (k4 := 0) (mx_d D_W_law_0 26 rfl) (by rfl) ?_
    refine mx_slen hX hbB (mx_d D_W_law_0 27 rfl) ?_
    refine mx_iconst (n := 5) (mx_d D_W_law_0 28 rfl) ?_
    refine mx_isubI (mx_d D_W_law_0 29 rfl) ?_
    refine mx_icmp_gtY 1244 (mx_d D_W_law_0 30 rfl) (by decide) (by omega) (by omega) (by omega) (by omega) (by omega) ?_
    exact fin
  | succ k ih =>
    intro i ce hk hi hI
    refine mx_iload (i := 4) (mx_d D_W_law_0 25 rfl) (by rfl) ?_
    refine mx_aload_n (k4 := 0) (mx_d D_W_law_0 26 rfl) (by rfl) ?_
    refine mx_slen hX hbB (mx_d D_W_law_0 27 rfl) ?_
    refine mx_iconst (n := 5) (mx_d D_W_law_0 28 rfl) ?_
    refine mx_isubI (mx_d D_W_law_0 29 rfl) ?_
    by_cases hc : (L : Int) - 5 < i
    · refine mx_icmp_gtY 1244 (mx_d D_W_law_0 30 rfl) (by decide) (by omega) (by omega) (by omega) (by omega) (by omega) ?_
      exact fin
    · have next : ∀ ce', INV G ce' → mx_M G Y_W_law 10 (bc + k) (bs + 6 * k) false 64 ce' 1238 [(0, .ref b), (1, .ref (mx_B G + 0)), (2, .ref (mx_B G + 50)), (3, .ref (mx_B G + 63)), (4, .int (iI i))] [] Q := by
        intro ce' hI'
        refine mx_iincI (i := 4) (n := 5) (mx_d D_W_law_14 48 rfl) (by rfl) (by decide) ?_
        refine mx_goto 43 (mx_d D_W_law_14 49 rfl) (by decide) ?_
        exact mx_loc (by rfl) (ih (i + 5) ce' (by omega) (by omega) hI')
      refine mx_icmp_gtN 1244 (mx_d D_W_law_0 30 rfl) (by decide) (by omega) (by omega) (by omega) (by omega) (by omega) ?_
      refine mx_aload_n (k4 := 0) (mx_d D_W_law_0 31 rfl) (by rfl) ?_
      refine mx_iload (i := 4) (mx_d D_W_law_0 32 rfl) (by rfl) ?_
      refine mx_sld hX hbB (i) (mx_d D_W_law_0 33 rfl) (by rfl) (by omega) (by omega) ?_
      refine mx_bipush (n := 31) (mx_d D_W_law_0 34 rfl) (by decide) ?_
      refine mx_iand (mx_d D_W_law_0 35 rfl) ?_
      generalize (iI (xs i).toInt &&& iI 31) = x0
      by_cases hx : x0.toInt < 0 ∨ 18 < x0.toInt
      · refine mx_tableOut 1238 (mx_d D_W_law_0 36 rfl) hx (by decide) ?_
        exact mx_bud (by omega) (by omega) (next ce hI)
      · obtain ⟨m, hm, rfl⟩ : ∃ m : Nat, m ≤ 18 ∧ x0 = iI (m : Nat) := ⟨x0.toInt.toNat, by omega, by rw [show ((x0.toInt.toNat : Nat) : Int) = x0.toInt from by omega]; exact iI_of x0⟩
        clear hx
        obtain rfl | rfl | rfl | rfl | rfl | rfl | rfl | rfl | rfl | rfl | rfl | rfl | rfl | rfl | rfl | rfl | rfl | rfl | rfl : m = 0 ∨ m = 1 ∨ m = 2 ∨ m = 3 ∨ m = 4 ∨ m = 5 ∨ m = 6 ∨ m = 7 ∨ m = 8 ∨ m = 9 ∨ m = 10 ∨ m = 11 ∨ m = 12 ∨ m = 13 ∨ m = 14 ∨ m = 15 ∨ m = 16 ∨ m = 17 ∨ m = 18 := by omega
        · refine mx_tableIn 148 (mx_d D_W_law_0 36 rfl) (by decide) (by decide) (by rfl) (by decide) ?_
          exact mx_bud (show bc + k + 1 ≤ bc + (k + 1) by omega) (show bs + 6 * k + 6 ≤ bs + 6 * (k + 1) by omega) (lz_curve hG hK hX hbB hL2 (by omega) hI next)
        · refine mx_tableIn 235 (mx_d D_W_law_0 36 rfl) (by decide) (by decide) (by rfl) (by decide) ?_
          exact mx_bud (show bc + k + 1 ≤ bc + (k + 1) by omega) (show bs + 6 * k + 6 ≤ bs + 6 * (k + 1) by omega) (lz_edition hG hK hX hbB hL2 (by omega) hI next)
        · refine mx_tableIn 279 (mx_d D_W_law_0 36 rfl) (by decide) (by decide) (by rfl) (by decide) ?_
          exact mx_bud (show bc + k + 1 ≤ bc + (k + 1) by omega) (show bs + 6 * k + 6 ≤ bs + 6 * (k + 1) by omega) (lz_use hG hK hX hbB hL2 (by omega) hI next)
        · refine mx_tableIn 335 (mx_d D_W_law_0 36 rfl) (by decide) (by decide) (by rfl) (by decide) ?_
          exact mx_bud (show bc + k + 1 ≤ bc + (k + 1) by omega) (show bs + 6 * k + 6 ≤ bs + 6 * (k + 1) by omega) (lz_reservoir hG hK hX hbB hL2 (by omega) hI next)
        · refine mx_tableIn 383 (mx_d D_W_law_0 36 rfl) (by decide) (by decide) (by rfl) (by decide) ?_
          exact mx_bud (show bc + k + 1 ≤ bc + (k + 1) by omega) (show bs + 6 * k + 6 ≤ bs + 6 * (k + 1) by omega) (lz_date hG hK hX hbB hL2 (by omega) hI next)
        · refine mx_tableIn 451 (mx_d D_W_law_0 36 rfl) (by decide) (by decide) (by rfl) (by decide) ?_
          exact mx_bud (show bc + k + 1 ≤ bc + (k + 1) by omega) (show bs + 6 * k + 6 ≤ bs + 6 * (k + 1) by omega) (lz_weight hG hK hX hbB hL2 (by omega) hI next)
        · refine mx_tableIn 519 (mx_d D_W_law_0 36 rfl) (by decide) (by decide) (by rfl) (by decide) ?_
          exact mx_bud (show bc + k + 1 ≤ bc + (k + 1) by omega) (show bs + 6 * k + 6 ≤ bs + 6 * (k + 1) by omega) (lz_total hG hK hX hbB hL2 (by omega) hI next)
        · refine mx_tableIn 575 (mx_d D_W_law_0 36 rfl) (by decide) (by decide) (by rfl) (by decide) ?_
          exact mx_bud (show bc + k + 1 ≤ bc + (k + 1) by omega) (show bs + 6 * k + 6 ≤ bs + 6 * (k + 1) by omega) (lz_sum hG hK hX hbB hL2 (by omega) hI next)
        · refine mx_tableIn 643 (mx_d D_W_law_0 36 rfl) (by decide) (by decide) (by rfl) (by decide) ?_
          exact mx_bud (show bc + k + 1 ≤ bc + (k + 1) by omega) (show bs + 6 * k + 6 ≤ bs + 6 * (k + 1) by omega) (lz_mix hG hK hX hbB hL2 (by omega) hI next)
        · refine mx_tableIn 735 (mx_d D_W_law_0 36 rfl) (by decide) (by decide) (by rfl) (by decide) ?_
          exact mx_bud (show bc + k + 1 ≤ bc + (k + 1) by omega) (show bs + 6 * k + 6 ≤ bs + 6 * (k + 1) by omega) (lz_joinRepeats hG hK hX hbB hL2 (by omega) hI next)
        · refine mx_tableIn 803 (mx_d D_W_law_0 36 rfl) (by decide) (by decide) (by rfl) (by decide) ?_
          exact mx_bud (show bc + k + 1 ≤ bc + (k + 1) by omega) (show bs + 6 * k + 6 ≤ bs + 6 * (k + 1) by omega) (lz_least hG hK hX hbB hL2 (by omega) hI next)
        · refine mx_tableIn 883 (mx_d D_W_law_0 36 rfl) (by decide) (by decide) (by rfl) (by decide) ?_
          exact mx_bud (show bc + k + 1 ≤ bc + (k + 1) by omega) (show bs + 6 * k + 6 ≤ bs + 6 * (k + 1) by omega) (lz_span hG hK hX hbB hL2 (by omega) hI next)
        · refine mx_tableIn 951 (mx_d D_W_law_0 36 rfl) (by decide) (by decide) (by rfl) (by decide) ?_
          exact mx_bud (show bc + k + 1 ≤ bc + (k + 1) by omega) (show bs + 6 * k + 6 ≤ bs + 6 * (k + 1) by omega) (lz_gap hG hK hX hbB hL2 (by omega) hI next)
        · refine mx_tableIn 1019 (mx_d D_W_law_0 36 rfl) (by decide) (by decide) (by rfl) (by decide) ?_
          exact mx_bud (show bc + k + 1 ≤ bc + (k + 1) by omega) (show bs + 6 * k + 6 ≤ bs + 6 * (k + 1) by omega) (lz_slid hG hK hX hbB hL2 (by omega) hI next)
        · refine mx_tableIn 1075 (mx_d D_W_law_0 36 rfl) (by decide) (by decide) (by rfl) (by decide) ?_
          exact mx_bud (show bc + k + 1 ≤ bc + (k + 1) by omega) (show bs + 6 * k + 6 ≤ bs + 6 * (k + 1) by omega) (lz_wiggle hG hK hX hbB hL2 (by omega) hI next)
        · refine mx_tableIn 1088 (mx_d D_W_law_0 36 rfl) (by decide) (by decide) (by rfl) (by decide) ?_
          exact mx_bud (show bc + k + 1 ≤ bc + (k + 1) by omega) (show bs + 6 * k + 6 ≤ bs + 6 * (k + 1) by omega) (lz_clear hG hK hX hbB hL2 (by omega) hI next)
        · refine mx_tableIn 1101 (mx_d D_W_law_0 36 rfl) (by decide) (by decide) (by rfl) (by decide) ?_
          exact mx_bud (show bc + k + 1 ≤ bc + (k + 1) by omega) (show bs + 6 * k + 6 ≤ bs + 6 * (k + 1) by omega) (lz_unit hG hK hX hbB hL2 (by omega) hI next)
        · refine mx_tableIn 1169 (mx_d D_W_law_0 36 rfl) (by decide) (by decide) (by rfl) (by decide) ?_
          exact mx_bud (show bc + k + 1 ≤ bc + (k + 1) by omega) (show bs + 6 * k + 6 ≤ bs + 6 * (k + 1) by omega) (lz_read hG hK hX hbB hL2 (by omega) hI next)
        · refine mx_tableIn 1182 (mx_d D_W_law_0 36 rfl) (by decide) (by decide) (by rfl) (by decide) ?_
          exact mx_bud (show bc + k + 1 ≤ bc + (k + 1) by omega) (show bs + 6 * k + 6 ≤ bs + 6 * (k + 1) by omega) (lz_count hG hK hX hbB hL2 (by omega) hI next)
theorem l_start (hG : mx_ok G) (hK : mx_Nok G) (hX : va_X b L xs G.2.1 G.2.1.heap) (hbB : b < mx_B G) (hL2 : L ≤ 2562) (q : ∀ ce bc bs, Q (.inl (some (.int (iI 1)))) 64 ce bc bs) : mx_T G Y_W_law 10 601024 7293000 0 (fun _ => .inr (0, [])) 0 [(0, .ref b)] [] Q := by
  refine mt_bud (bc := 0 + 520 + 1 + 12 + 1 + 49 + 1) (bs := 0 + 6 * 520 + 1 + 2000 + 23 + 2000 + 13) (by omega) (by omega) ?_
  refine mt_new hG (ci := 0) (n := 13) [.int 0, .int 0, .null, .null, .null, .null, .null, .null, .int 0, .int 0, .int 0, .int 0, .int 0] (mx_d D_W_law_0 0 rfl) (by rfl) cls_C w_17 w_18 w_1 (by decide) ?_
  refine mt_dup (mx_d D_W_law_0 1 rfl) (by rfl) ?_
  refine mt_aload_n (k4 := 0) (mx_d D_W_law_0 2 rfl) (by rfl) ?_
  refine mt_iconst (n := 0) (mx_d D_W_law_0 3 rfl) ?_
  refine mt_callS (Y' := Y_W_cell) [_, _] (mx_d D_W_law_0 4 rfl) in_W_cell w_244 w_245 np_W_cell (by exact Nat.le_of_ble_eq_true rfl) (by rfl) (by rfl) (by exact Nat.le_of_ble_eq_true rfl) (l_cell hX hbB hL2 (k := 0) (by omega) ?_)
  refine mt_aload_n (k4 := 0) (mx_d D_W_law_0 5 rfl) (by rfl) ?_
  refine mt_iconst (n := 1) (mx_d D_W_law_0 6 rfl) ?_
  refine mt_callS (Y' := Y_W_cell) [_, _] (mx_d D_W_law_0 7 rfl) in_W_cell w_244 w_245 np_W_cell (by exact Nat.le_of_ble_eq_true rfl) (by rfl) (by rfl) (by exact Nat.le_of_ble_eq_true rfl) (l_cell hX hbB hL2 (k := 1) (by omega) ?_)
  refine mt_callI (Y' := Y_C_init) [_, _] (mx_d D_W_law_0 8 rfl) in_C_init w_21 rfl w_19 w_20 np_C_init (by exact Nat.le_of_ble_eq_true rfl) (by rfl) (by rfl) (by exact Nat.le_of_ble_eq_true rfl) (c_C_init hG (cellV_lo _ _ _) (cellV_hi _ _ _) (cellV_lo _ _ _) (cellV_hi _ _ _) (va_up_self _ _ _) (fun ce1 Y U e1 e2 k1 => ?_))
  refine mt_astore_n (k4 := 1) (mx_d D_W_law_0 9 rfl) (by decide) ?_
  refine mt_new hG (ci := 7) (n := 23) [.int 0, .int 0, .int 0, .int 0, .int 0, .null, .null, .int 0, .int 0, .int 0, .null, .null, .null, .null, .int 0, .null, .null, .int 0, .null, .null, .null, .null, .int 0] (mx_d D_W_law_0 10 rfl) (by rfl) cls_M w_574 w_575 w_9 (by decide) ?_
  refine mt_dup (mx_d D_W_law_0 11 rfl) (by rfl) ?_
  refine mt_aload_n (k4 := 0) (mx_d D_W_law_0 12 rfl) (by rfl) ?_
  refine mt_iconst (n := 0) (mx_d D_W_law_0 13 rfl) ?_
  refine mt_callS (Y' := Y_W_cell) [_, _] (mx_d D_W_law_0 14 rfl) in_W_cell w_244 w_245 np_W_cell (by exact Nat.le_of_ble_eq_true rfl) (by rfl) (by rfl) (by exact Nat.le_of_ble_eq_true rfl) (l_cell hX hbB hL2 (k := 0) (by omega) ?_)
  refine mt_aload_n (k4 := 0) (mx_d D_W_law_0 15 rfl) (by rfl) ?_
  refine mt_iconst (n := 1) (mx_d D_W_law_0 16 rfl) ?_
  refine mt_callS (Y' := Y_W_cell) [_, _] (mx_d D_W_law_0 17 rfl) in_W_cell w_244 w_245 np_W_cell (by exact Nat.le_of_ble_eq_true rfl) (by rfl) (by rfl) (by exact Nat.le_of_ble_eq_true rfl) (l_cell hX hbB hL2 (k := 1) (by omega) ?_)
  refine mt_callI (Y' := Y_M_init) [_, _] (mx_d D_W_law_0 18 rfl) in_M_init w_578 rfl w_576 w_577 np_M_init (by exact Nat.le_of_ble_eq_true rfl) (by rfl) (by rfl) (by exact Nat.le_of_ble_eq_true rfl) (m_init hG (cellV_lo _ _ _) (cellV_hi _ _ _) (cellV_lo _ _ _) (cellV_hi _ _ _) (va_up_self _ _ _) (fun ce2 m1 m2 => ?_))
  have m3 := m2 Y U e1 e2
  refine mt_astore_n (k4 := 2) (mx_d D_W_law_0 19 rfl) (by decide) ?_
  refine mt_iconst (n := 1) (mx_d D_W_law_0 20 rfl) ?_
  refine mt_bud (bc := 0 + 520 + 1) (bs := 0 + 6 * 520 + 1) (by omega) (by omega) ?_
  refine mt_newa hG (n := 1) (bc := 0 + 520) (bs := 0 + 6 * 520) (ty := .long) 2 (a0 := (_, .inr (.inl (fun _ => 0)))) (mx_d D_W_law_0 21 rfl) (by rfl) (by rfl) (fun _ _ h9 => h9) w_793 (by rfl) (by decide) (by omega) (fun _ => rfl) ?_
  refine mt_astore_n (k4 := 3) (mx_d D_W_law_0 22 rfl) (by decide) ?_
  refine mt_iconst (n := 2) (mx_d D_W_law_0 23 rfl) ?_
  refine mt_istore (i := 4) (mx_d D_W_law_0 24 rfl) (by decide) ?_
  refine mt_sw (mx_loc (by rfl) (l_loop hG hK hX hbB hL2 q 520 2 _ (by omega) (by omega) ⟨_, _, _, _, _, _, _, _, _, _, _, _, _, _, _, _, _, _, 0, _, k1.fr (fun k hk => ?_), m3.fr (fun k h1 h2 => ?_), ⟨_, va_up_self _ _ _, rfl⟩⟩))
  · rw [va_up_ne _ _ (by omega), m1 k hk, va_up_ne _ _ (by omega)]
  · rw [va_up_ne _ _ (by omega)]
end LX
