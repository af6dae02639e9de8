/-! the law's cases -/
def INV (G : mx_G) (ce : Nat → va_E) : Prop := ∃ (Y : Nat) (U : Int) (nE iE nD : Nat) (rA rS : Int) (eA eS : Nat → Nat → Int) (dA dS : Nat → Int) (dW : Nat → Nat → Int) (lc : Nat → Bool) (rn rg : Nat → Nat) (rN : Nat) (ps : Nat → Int) (pN : Nat) (th : Int) (v : Int64), CS G Y U nE iE nD rA rS eA eS dA dS dW lc rn rg rN ps pN ce ∧ RS G Y U nE iE nD rA rS eA eS dA dS dW lc rn rg rN ps pN th ce ∧ oL G v ce
theorem oL_fr {G : mx_G} {v : Int64} {ce ce' : Nat → va_E} (h : oL G v ce) (hf : ce' 63 = ce 63) : oL G v ce' := by
  obtain ⟨f, h1, h2⟩ := h
  exact ⟨f, hf.trans h1, h2⟩
section LW
variable {G : mx_G} {bc bs : Nat} {ce : Nat → va_E} {Q : mx_P} {b L i : Nat} {xs : Nat → Int32}
theorem lz_curve (hG : mx_ok G) (hK : mx_Nok G) (hX : va_X b L xs G.2.1 G.2.1.heap) (hbB : b < mx_B G) (hL2 : L ≤ 2562) (hi : i + 5 ≤ L) (hI : INV G ce) (next : ∀ ce', INV G ce' → mx_M G Y_W_law 10 bc bs false 64 ce' 1238 [(0, .ref b), (1, .ref (mx_B G + 0)), (2, .ref (mx_B G + 50)), (3, .ref (mx_B G + 63)), (4, .int (iI i))] [] Q) : mx_M G Y_W_law 10 (bc + 1) (bs + 6) false 64 ce 148 [(0, .ref b), (1, .ref (mx_B G + 0)), (2, .ref (mx_B G + 50)), (3, .ref (mx_B G + 63)), (4, .int (iI i))] [] Q := by
  obtain ⟨Y, U, nE, iE, nD, rA, rS, eA, eS, dA, dS, dW, lc, rn, rg, rN, ps, pN, th, v0, hC, hR, hL⟩ := hI
  have hV := hC.1
  have hC0 := hC.2.1
  obtain ⟨rw0, h50, hRA⟩ := id hR
  refine mx_aload_n (k4 := 1) (mx_d D_W_law_0 37 rfl) (by rfl) ?_
  refine mx_aload_n (k4 := 0) (mx_d D_W_law_0 38 rfl) (by rfl) ?_
  refine mx_iload (i := 4) (mx_d D_W_law_0 39 rfl) (by rfl) ?_
  refine mx_iconst (n := 1) (mx_d D_W_law_0 40 rfl) ?_
  refine mx_iaddI (mx_d D_W_law_0 41 rfl) ?_
  refine mx_sld hX hbB (i + 1) (mx_d D_W_law_0 42 rfl) (by rfl) (by omega) (by omega) ?_
  refine mx_aload_n (k4 := 0) (mx_d D_W_law_0 43 rfl) (by rfl) ?_
  refine mx_iload (i := 4) (mx_d D_W_law_0 44 rfl) (by rfl) ?_
  refine mx_iconst (n := 2) (mx_d D_W_law_0 45 rfl) ?_
  refine mx_iaddI (mx_d D_W_law_0 46 rfl) ?_
  refine mx_sld hX hbB (i + 2) (mx_d D_W_law_0 47 rfl) (by rfl) (by omega) (by omega) ?_
  refine mx_aload_n (k4 := 0) (mx_d D_W_law_0 48 rfl) (by rfl) ?_
  refine mx_iload (i := 4) (mx_d D_W_law_0 49 rfl) (by rfl) ?_
  refine mx_iconst (n := 3) (mx_d D_W_law_1 0 rfl) ?_
  refine mx_iaddI (mx_d D_W_law_1 1 rfl) ?_
  refine mx_sld hX hbB (i + 3) (mx_d D_W_law_1 2 rfl) (by rfl) (by omega) (by omega) ?_
  refine mx_aload_n (k4 := 3) (mx_d D_W_law_1 3 rfl) (by rfl) ?_
  refine mx_callS (Y' := Y_W_curve) [_, _, _, _, _] (mx_d D_W_law_1 4 rfl) in_W_curve w_247 w_248 np_W_curve (by exact Nat.le_of_ble_eq_true rfl) (by rfl) (by rfl) (by exact Nat.le_of_ble_eq_true rfl) (w_curve hG hK (by omega) hC hL (i32_lo _) (i32_hi _) (i32_lo _) (i32_hi _) (i32_lo _) (i32_hi _) (fun h0 => ?_) (fun h0 h1 => ?_) (fun ce1 m h0 h1 h2 k1 kL k2 => ?_))
  · refine mx_istore (i := 5) (mx_d D_W_law_1 5 rfl) (by decide) ?_
    refine mx_aload_n (k4 := 2) (mx_d D_W_law_1 6 rfl) (by rfl) ?_
    refine mx_aload_n (k4 := 0) (mx_d D_W_law_1 7 rfl) (by rfl) ?_
    refine mx_iload (i := 4) (mx_d D_W_law_1 8 rfl) (by rfl) ?_
    refine mx_iconst (n := 1) (mx_d D_W_law_1 9 rfl) ?_
    refine mx_iaddI (mx_d D_W_law_1 10 rfl) ?_
    refine mx_sld hX hbB (i + 1) (mx_d D_W_law_1 11 rfl) (by rfl) (by omega) (by omega) ?_
    refine mx_aload_n (k4 := 0) (mx_d D_W_law_1 12 rfl) (by rfl) ?_
    refine mx_iload (i := 4) (mx_d D_W_law_1 13 rfl) (by rfl) ?_
    refine mx_iconst (n := 2) (mx_d D_W_law_1 14 rfl) ?_
    refine mx_iaddI (mx_d D_W_law_1 15 rfl) ?_
    refine mx_sld hX hbB (i + 2) (mx_d D_W_law_1 16 rfl) (by rfl) (by omega) (by omega) ?_
    refine mx_aload_n (k4 := 0) (mx_d D_W_law_1 17 rfl) (by rfl) ?_
    refine mx_iload (i := 4) (mx_d D_W_law_1 18 rfl) (by rfl) ?_
    refine mx_iconst (n := 3) (mx_d D_W_law_1 19 rfl) ?_
    refine mx_iaddI (mx_d D_W_law_1 20 rfl) ?_
    refine mx_sld hX hbB (i + 3) (mx_d D_W_law_1 21 rfl) (by rfl) (by omega) (by omega) ?_
    refine mx_callV hG (Y' := Y_M_curve) (ci := 7) [_, _, _] (mx_d D_W_law_1 22 rfl) in_M_curve w_655 w_656 s_M_curve (by rfl) np_M_curve (by exact Nat.le_of_ble_eq_true rfl) (by rfl) (by first | assumption | omega) (by first | assumption | exact va_up_self _ _ _ | (rw [va_up_ne _ _ (by omega)]; first | assumption | exact va_up_self _ _ _ | (rw [va_up_ne _ _ (by omega)]; first | assumption | exact va_up_self _ _ _ | (rw [va_up_ne _ _ (by omega)]; first | assumption | exact va_up_self _ _ _ | (rw [va_up_ne _ _ (by omega)]; first | assumption | exact va_up_self _ _ _ | (rw [va_up_ne _ _ (by omega)]; first | assumption | exact va_up_self _ _ _)))))) (by rfl) (by exact Nat.le_of_ble_eq_true rfl) (m_curve hG (by omega) hV hR (i32_lo _) (i32_hi _) (i32_lo _) (i32_hi _) (i32_lo _) (i32_hi _) (fun ce2 g0 k3 k4 => ?_) (fun ce2 g0 g1 k3 k4 => ?_) (fun ce2 m9 g0 g1 g2 k3 k4 => ?_))
    · refine mx_istore (i := 6) (mx_d D_W_law_1 23 rfl) (by decide) ?_
      refine mx_aload_n (k4 := 2) (mx_d D_W_law_1 24 rfl) (by rfl) ?_
      refine mx_callV hG (Y' := Y_M_thrown) (ci := 7) [] (mx_d D_W_law_1 25 rfl) in_M_thrown w_651 w_652 s_M_thrown (by rfl) np_M_thrown (by exact Nat.le_of_ble_eq_true rfl) (by rfl) (by first | assumption | omega) (id k3).choose_spec.1 (by rfl) (by exact Nat.le_of_ble_eq_true rfl) (m_thrown hG (by omega) k3 ?_)
      refine mx_iload (i := 5) (mx_d D_W_law_1 26 rfl) (by rfl) ?_
      refine mx_icmp_eqY 208 (mx_d D_W_law_1 27 rfl) (by decide) (by decide) (by decide) (by decide) (by decide) rfl ?_
      refine mx_iload (i := 5) (mx_d D_W_law_1 30 rfl) (by rfl) ?_
      refine mx_if_neY 232 (mx_d D_W_law_1 31 rfl) (by decide) (by decide) (by decide) (by decide) ?_
      refine mx_goto 1238 (mx_d D_W_law_1 44 rfl) (by decide) ?_
      exact mx_loc (by rfl) (next ce2 ⟨_, _, _, _, _, _, _, _, _, _, _, _, _, _, _, _, _, _, 1, _, hC.fr (fun k hk => k4 k (Or.inl hk)), k3, oL_fr hL (k4 63 (by omega))⟩)
    · exfalso
      omega
    · exfalso
      omega
  · refine mx_istore (i := 5) (mx_d D_W_law_1 5 rfl) (by decide) ?_
    refine mx_aload_n (k4 := 2) (mx_d D_W_law_1 6 rfl) (by rfl) ?_
    refine mx_aload_n (k4 := 0) (mx_d D_W_law_1 7 rfl) (by rfl) ?_
    refine mx_iload (i := 4) (mx_d D_W_law_1 8 rfl) (by rfl) ?_
    refine mx_iconst (n := 1) (mx_d D_W_law_1 9 rfl) ?_
    refine mx_iaddI (mx_d D_W_law_1 10 rfl) ?_
    refine mx_sld hX hbB (i + 1) (mx_d D_W_law_1 11 rfl) (by rfl) (by omega) (by omega) ?_
    refine mx_aload_n (k4 := 0) (mx_d D_W_law_1 12 rfl) (by rfl) ?_
    refine mx_iload (i := 4) (mx_d D_W_law_1 13 rfl) (by rfl) ?_
    refine mx_iconst (n := 2) (mx_d D_W_law_1 14 rfl) ?_
    refine mx_iaddI (mx_d D_W_law_1 15 rfl) ?_
    refine mx_sld hX hbB (i + 2) (mx_d D_W_law_1 16 rfl) (by rfl) (by omega) (by omega) ?_
    refine mx_aload_n (k4 := 0) (mx_d D_W_law_1 17 rfl) (by rfl) ?_
    refine mx_iload (i := 4) (mx_d D_W_law_1 18 rfl) (by rfl) ?_
    refine mx_iconst (n := 3) (mx_d D_W_law_1 19 rfl) ?_
    refine mx_iaddI (mx_d D_W_law_1 20 rfl) ?_
    refine mx_sld hX hbB (i + 3) (mx_d D_W_law_1 21 rfl) (by rfl) (by omega) (by omega) ?_
    refine mx_callV hG (Y' := Y_M_curve) (ci := 7) [_, _, _] (mx_d D_W_law_1 22 rfl) in_M_curve w_655 w_656 s_M_curve (by rfl) np_M_curve (by exact Nat.le_of_ble_eq_true rfl) (by rfl) (by first | assumption | omega) (by first | assumption | exact va_up_self _ _ _ | (rw [va_up_ne _ _ (by omega)]; first | assumption | exact va_up_self _ _ _ | (rw [va_up_ne _ _ (by omega)]; first | assumption | exact va_up_self _ _ _ | (rw [va_up_ne _ _ (by omega)]; first | assumption | exact va_up_self _ _ _ | (rw [va_up_ne _ _ (by omega)]; first | assumption | exact va_up_self _ _ _ | (rw [va_up_ne _ _ (by omega)]; first | assumption | exact va_up_self _ _ _)))))) (by rfl) (by exact Nat.le_of_ble_eq_true rfl) (m_curve hG (by omega) hV hR (i32_lo _) (i32_hi _) (i32_lo _) (i32_hi _) (i32_lo _) (i32_hi _) (fun ce2 g0 k3 k4 => ?_) (fun ce2 g0 g1 k3 k4 => ?_) (fun ce2 m9 g0 g1 g2 k3 k4 => ?_))
    · exfalso
      omega
    · refine mx_istore (i := 6) (mx_d D_W_law_1 23 rfl) (by decide) ?_
      refine mx_aload_n (k4 := 2) (mx_d D_W_law_1 24 rfl) (by rfl) ?_
      refine mx_callV hG (Y' := Y_M_thrown) (ci := 7) [] (mx_d D_W_law_1 25 rfl) in_M_thrown w_651 w_652 s_M_thrown (by rfl) np_M_thrown (by exact Nat.le_of_ble_eq_true rfl) (by rfl) (by first | assumption | omega) (id k3).choose_spec.1 (by rfl) (by exact Nat.le_of_ble_eq_true rfl) (m_thrown hG (by omega) k3 ?_)
      refine mx_iload (i := 5) (mx_d D_W_law_1 26 rfl) (by rfl) ?_
      refine mx_icmp_eqY 208 (mx_d D_W_law_1 27 rfl) (by decide) (by decide) (by decide) (by decide) (by decide) rfl ?_
      refine mx_iload (i := 5) (mx_d D_W_law_1 30 rfl) (by rfl) ?_
      refine mx_if_neY 232 (mx_d D_W_law_1 31 rfl) (by decide) (by decide) (by decide) (by decide) ?_
      refine mx_goto 1238 (mx_d D_W_law_1 44 rfl) (by decide) ?_
      exact mx_loc (by rfl) (next ce2 ⟨_, _, _, _, _, _, _, _, _, _, _, _, _, _, _, _, _, _, 2, _, hC.fr (fun k hk => k4 k (Or.inl hk)), k3, oL_fr hL (k4 63 (by omega))⟩)
    · exfalso
      omega
  · refine mx_istore (i := 5) (mx_d D_W_law_1 5 rfl) (by decide) ?_
    refine mx_aload_n (k4 := 2) (mx_d D_W_law_1 6 rfl) (by rfl) ?_
    refine mx_aload_n (k4 := 0) (mx_d D_W_law_1 7 rfl) (by rfl) ?_
    refine mx_iload (i := 4) (mx_d D_W_law_1 8 rfl) (by rfl) ?_
    refine mx_iconst (n := 1) (mx_d D_W_law_1 9 rfl) ?_
    refine mx_iaddI (mx_d D_W_law_1 10 rfl) ?_
    refine mx_sld hX hbB (i + 1) (mx_d D_W_law_1 11 rfl) (by rfl) (by omega) (by omega) ?_
    refine mx_aload_n (k4 := 0) (mx_d D_W_law_1 12 rfl) (by rfl) ?_
    refine mx_iload (i := 4) (mx_d D_W_law_1 13 rfl) (by rfl) ?_
    refine mx_iconst (n := 2) (mx_d D_W_law_1 14 rfl) ?_
    refine mx_iaddI (mx_d D_W_law_1 15 rfl) ?_
    refine mx_sld hX hbB (i + 2) (mx_d D_W_law_1 16 rfl) (by rfl) (by omega) (by omega) ?_
    refine mx_aload_n (k4 := 0) (mx_d D_W_law_1 17 rfl) (by rfl) ?_
    refine mx_iload (i := 4) (mx_d D_W_law_1 18 rfl) (by rfl) ?_
    refine mx_iconst (n := 3) (mx_d D_W_law_1 19 rfl) ?_
    refine mx_iaddI (mx_d D_W_law_1 20 rfl) ?_
    refine mx_sld hX hbB (i + 3) (mx_d D_W_law_1 21 rfl) (by rfl) (by omega) (by omega) ?_
    refine mx_callV hG (Y' := Y_M_curve) (ci := 7) [_, _, _] (mx_d D_W_law_1 22 rfl) in_M_curve w_655 w_656 s_M_curve (by rfl) np_M_curve (by exact Nat.le_of_ble_eq_true rfl) (by rfl) (by first | assumption | omega) ((k2 50 (by omega) (by omega)).trans h50) (by rfl) (by exact Nat.le_of_ble_eq_true rfl) (m_curve hG (by omega) hV (hR.fr (fun k z1 z2 => k2 k z1 (by omega))) (i32_lo _) (i32_hi _) (i32_lo _) (i32_hi _) (i32_lo _) (i32_hi _) (fun ce2 g0 k3 k4 => ?_) (fun ce2 g0 g1 k3 k4 => ?_) (fun ce2 m9 g0 g1 g2 k3 k4 => ?_))
    · exfalso
      omega
    · exfalso
      omega
    · obtain rfl : m = m9 := by omega
      refine mx_istore (i := 6) (mx_d D_W_law_1 23 rfl) (by decide) ?_
      refine mx_aload_n (k4 := 2) (mx_d D_W_law_1 24 rfl) (by rfl) ?_
      refine mx_callV hG (Y' := Y_M_thrown) (ci := 7) [] (mx_d D_W_law_1 25 rfl) in_M_thrown w_651 w_652 s_M_thrown (by rfl) np_M_thrown (by exact Nat.le_of_ble_eq_true rfl) (by rfl) (by first | assumption | omega) (id k3).choose_spec.1 (by rfl) (by exact Nat.le_of_ble_eq_true rfl) (m_thrown hG (by omega) k3 ?_)
      refine mx_iload (i := 5) (mx_d D_W_law_1 26 rfl) (by rfl) ?_
      refine mx_icmp_eqY 208 (mx_d D_W_law_1 27 rfl) (by decide) (by decide) (by decide) (by decide) (by decide) rfl ?_
      refine mx_iload (i := 5) (mx_d D_W_law_1 30 rfl) (by rfl) ?_
      refine mx_if_neN 232 (mx_d D_W_law_1 31 rfl) (by decide) (by decide) (by decide) (by decide) ?_
      obtain ⟨f9, l1, l2⟩ := oL_fr kL (k4 63 (by omega))
      refine mx_aload_n (k4 := 3) (mx_d D_W_law_1 32 rfl) (by rfl) ?_
      refine mx_iconst (n := 0) (mx_d D_W_law_1 33 rfl) ?_
      refine mx_lald hG 2 (0) (mx_d D_W_law_1 34 rfl) (by first | assumption | omega) l1 (by rfl) (by rfl) (by omega) (by omega) ?_
      rw [l2]
      refine mx_iload (i := 6) (mx_d D_W_law_1 35 rfl) (by rfl) ?_
      cases hv : decide (0 < eS iE m) with
      | false =>
        refine mx_if_eqY 225 (mx_d D_W_law_1 36 rfl) (by decide) (by decide) (by decide) (by decide) ?_
        refine mx_lconst (n := 0) (v := lI 0) (mx_d D_W_law_1 39 rfl) (by rfl) ?_
        refine mx_lcmpE (mx_d D_W_law_1 40 rfl) ?_
        refine mx_if_eqY 232 (mx_d D_W_law_1 41 rfl) (by decide) (by decide) (by decide) (by decide) ?_
        refine mx_goto 1238 (mx_d D_W_law_1 44 rfl) (by decide) ?_
        exact mx_loc (by rfl) (next ce2 ⟨_, _, _, _, _, _, _, _, _, _, _, _, _, _, _, _, _, _, 0, _, k1.fr (fun k hk => k4 k (Or.inl hk)), k3, oL_fr kL (k4 63 (by omega))⟩)
      | true =>
        refine mx_if_eqN 225 (mx_d D_W_law_1 36 rfl) (by decide) (by decide) (by decide) (by decide) ?_
        refine mx_lconst (n := 1) (v := lI 1) (mx_d D_W_law_1 37 rfl) (by rfl) ?_
        refine mx_goto 226 (mx_d D_W_law_1 38 rfl) (by decide) ?_
        refine mx_lcmpE (mx_d D_W_law_1 40 rfl) ?_
        refine mx_if_eqY 232 (mx_d D_W_law_1 41 rfl) (by decide) (by decide) (by decide) (by decide) ?_
        refine mx_goto 1238 (mx_d D_W_law_1 44 rfl) (by decide) ?_
        exact mx_loc (by rfl) (next ce2 ⟨_, _, _, _, _, _, _, _, _, _, _, _, _, _, _, _, _, _, 0, _, k1.fr (fun k hk => k4 k (Or.inl hk)), k3, oL_fr kL (k4 63 (by omega))⟩)
theorem lz_edition (hG : mx_ok G) (hK : mx_Nok G) (hX : va_X b L xs G.2.1 G.2.1.heap) (hbB : b < mx_B G) (hL2 : L ≤ 2562) (hi : i + 5 ≤ L) (hI : INV G ce) (next : ∀ ce', INV G ce' → mx_M G Y_W_law 10 bc bs false 64 ce' 1238 [(0, .ref b), (1, .ref (mx_B G + 0)), (2, .ref (mx_B G + 50)), (3, .ref (mx_B G + 63)), (4, .int (iI i))] [] Q) : mx_M G Y_W_law 10 (bc + 1) (bs + 6) false 64 ce 235 [(0, .ref b), (1, .ref (mx_B G + 0)), (2, .ref (mx_B G + 50)), (3, .ref (mx_B G + 63)), (4, .int (iI i))] [] Q := by
  obtain ⟨Y, U, nE, iE, nD, rA, rS, eA, eS, dA, dS, dW, lc, rn, rg, rN, ps, pN, th, v0, hC, hR, hL⟩ := hI
  have hV := hC.1
  have hC0 := hC.2.1
  obtain ⟨rw0, h50, hRA⟩ := id hR
  refine mx_aload_n (k4 := 1) (mx_d D_W_law_1 45 rfl) (by rfl) ?_
  refine mx_aload_n (k4 := 3) (mx_d D_W_law_1 46 rfl) (by rfl) ?_
  refine mx_callS (Y' := Y_W_edition) [_, _] (mx_d D_W_law_1 47 rfl) in_W_edition w_348 w_349 np_W_edition (by exact Nat.le_of_ble_eq_true rfl) (by rfl) (by rfl) (by exact Nat.le_of_ble_eq_true rfl) (w_edition hG hK (by omega) hC hL  (fun h0 => ?_) (fun ce1 fA fS h0 h1 k1 kL k2 => ?_))
  · refine mx_istore (i := 5) (mx_d D_W_law_1 48 rfl) (by decide) ?_
    refine mx_aload_n (k4 := 2) (mx_d D_W_law_1 49 rfl) (by rfl) ?_
    refine mx_callV hG (Y' := Y_M_edition) (ci := 7) [] (mx_d D_W_law_2 0 rfl) in_M_edition w_674 w_675 s_M_edition (by rfl) np_M_edition (by exact Nat.le_of_ble_eq_true rfl) (by rfl) (by first | assumption | omega) (by first | assumption | exact va_up_self _ _ _ | (rw [va_up_ne _ _ (by omega)]; first | assumption | exact va_up_self _ _ _ | (rw [va_up_ne _ _ (by omega)]; first | assumption | exact va_up_self _ _ _ | (rw [va_up_ne _ _ (by omega)]; first | assumption | exact va_up_self _ _ _ | (rw [va_up_ne _ _ (by omega)]; first | assumption | exact va_up_self _ _ _ | (rw [va_up_ne _ _ (by omega)]; first | assumption | exact va_up_self _ _ _)))))) (by rfl) (by exact Nat.le_of_ble_eq_true rfl) (m_edition hG (by omega) hV hR  (fun ce2 g0 k3 k4 => ?_) (fun ce2  g0 k3 k4 => ?_))
    · refine mx_istore (i := 6) (mx_d D_W_law_2 1 rfl) (by decide) ?_
      refine mx_aload_n (k4 := 2) (mx_d D_W_law_2 2 rfl) (by rfl) ?_
      refine mx_callV hG (Y' := Y_M_thrown) (ci := 7) [] (mx_d D_W_law_2 3 rfl) in_M_thrown w_651 w_652 s_M_thrown (by rfl) np_M_thrown (by exact Nat.le_of_ble_eq_true rfl) (by rfl) (by first | assumption | omega) (id k3).choose_spec.1 (by rfl) (by exact Nat.le_of_ble_eq_true rfl) (m_thrown hG (by omega) k3 ?_)
      refine mx_iload (i := 5) (mx_d D_W_law_2 4 rfl) (by rfl) ?_
      refine mx_icmp_eqY 259 (mx_d D_W_law_2 5 rfl) (by decide) (by decide) (by decide) (by decide) (by decide) rfl ?_
      refine mx_iload (i := 5) (mx_d D_W_law_2 8 rfl) (by rfl) ?_
      refine mx_if_neY 276 (mx_d D_W_law_2 9 rfl) (by decide) (by decide) (by decide) (by decide) ?_
      refine mx_goto 1238 (mx_d D_W_law_2 19 rfl) (by decide) ?_
      exact mx_loc (by rfl) (next ce2 ⟨_, _, _, _, _, _, _, _, _, _, _, _, _, _, _, _, _, _, 1, _, hC.fr (fun k hk => k4 k (Or.inl hk)), k3, oL_fr hL (k4 63 (by omega))⟩)
    · exfalso
      omega
  · refine mx_istore (i := 5) (mx_d D_W_law_1 48 rfl) (by decide) ?_
    refine mx_aload_n (k4 := 2) (mx_d D_W_law_1 49 rfl) (by rfl) ?_
    refine mx_callV hG (Y' := Y_M_edition) (ci := 7) [] (mx_d D_W_law_2 0 rfl) in_M_edition w_674 w_675 s_M_edition (by rfl) np_M_edition (by exact Nat.le_of_ble_eq_true rfl) (by rfl) (by first | assumption | omega) ((k2 50 (by omega) (by omega)).trans h50) (by rfl) (by exact Nat.le_of_ble_eq_true rfl) (m_edition hG (by omega) hV (hR.fr (fun k z1 z2 => k2 k z1 (by omega)))  (fun ce2 g0 k3 k4 => ?_) (fun ce2  g0 k3 k4 => ?_))
    · exfalso
      omega
    · refine mx_istore (i := 6) (mx_d D_W_law_2 1 rfl) (by decide) ?_
      refine mx_aload_n (k4 := 2) (mx_d D_W_law_2 2 rfl) (by rfl) ?_
      refine mx_callV hG (Y' := Y_M_thrown) (ci := 7) [] (mx_d D_W_law_2 3 rfl) in_M_thrown w_651 w_652 s_M_thrown (by rfl) np_M_thrown (by exact Nat.le_of_ble_eq_true rfl) (by rfl) (by first | assumption | omega) (id (k3 fA fS h1)).choose_spec.1 (by rfl) (by exact Nat.le_of_ble_eq_true rfl) (m_thrown hG (by omega) (k3 fA fS h1) ?_)
      refine mx_iload (i := 5) (mx_d D_W_law_2 4 rfl) (by rfl) ?_
      refine mx_icmp_eqY 259 (mx_d D_W_law_2 5 rfl) (by decide) (by decide) (by decide) (by decide) (by decide) rfl ?_
      refine mx_iload (i := 5) (mx_d D_W_law_2 8 rfl) (by rfl) ?_
      refine mx_if_neN 276 (mx_d D_W_law_2 9 rfl) (by decide) (by decide) (by decide) (by decide) ?_
      obtain ⟨f9, l1, l2⟩ := oL_fr kL (k4 63 (by omega))
      refine mx_aload_n (k4 := 3) (mx_d D_W_law_2 10 rfl) (by rfl) ?_
      refine mx_iconst (n := 0) (mx_d D_W_law_2 11 rfl) ?_
      refine mx_lald hG 2 (0) (mx_d D_W_law_2 12 rfl) (by first | assumption | omega) l1 (by rfl) (by rfl) (by omega) (by omega) ?_
      rw [l2]
      refine mx_iload (i := 6) (mx_d D_W_law_2 13 rfl) (by rfl) ?_
      refine mx_i2l (mx_d D_W_law_2 14 rfl) ?_
      refine mx_lcmpE (mx_d D_W_law_2 15 rfl) ?_
      refine mx_if_eqY 276 (mx_d D_W_law_2 16 rfl) (by decide) (by decide) (by decide) (by decide) ?_
      refine mx_goto 1238 (mx_d D_W_law_2 19 rfl) (by decide) ?_
      exact mx_loc (by rfl) (next ce2 ⟨_, _, _, _, _, _, _, _, _, _, _, _, _, _, _, _, _, _, 0, _, k1.fr (fun k hk => k4 k (Or.inl hk)), (k3 fA fS h1), oL_fr kL (k4 63 (by omega))⟩)
theorem lz_use (hG : mx_ok G) (hK : mx_Nok G) (hX : va_X b L xs G.2.1 G.2.1.heap) (hbB : b < mx_B G) (hL2 : L ≤ 2562) (hi : i + 5 ≤ L) (hI : INV G ce) (next : ∀ ce', INV G ce' → mx_M G Y_W_law 10 bc bs false 64 ce' 1238 [(0, .ref b), (1, .ref (mx_B G + 0)), (2, .ref (mx_B G + 50)), (3, .ref (mx_B G + 63)), (4, .int (iI i))] [] Q) : mx_M G Y_W_law 10 (bc + 1) (bs + 6) false 64 ce 279 [(0, .ref b), (1, .ref (mx_B G + 0)), (2, .ref (mx_B G + 50)), (3, .ref (mx_B G + 63)), (4, .int (iI i))] [] Q := by
  obtain ⟨Y, U, nE, iE, nD, rA, rS, eA, eS, dA, dS, dW, lc, rn, rg, rN, ps, pN, th, v0, hC, hR, hL⟩ := hI
  have hV := hC.1
  have hC0 := hC.2.1
  obtain ⟨rw0, h50, hRA⟩ := id hR
  refine mx_aload_n (k4 := 1) (mx_d D_W_law_2 20 rfl) (by rfl) ?_
  refine mx_aload_n (k4 := 0) (mx_d D_W_law_2 21 rfl) (by rfl) ?_
  refine mx_iload (i := 4) (mx_d D_W_law_2 22 rfl) (by rfl) ?_
  refine mx_iconst (n := 1) (mx_d D_W_law_2 23 rfl) ?_
  refine mx_iaddI (mx_d D_W_law_2 24 rfl) ?_
  refine mx_sld hX hbB (i + 1) (mx_d D_W_law_2 25 rfl) (by rfl) (by omega) (by omega) ?_
  refine mx_aload_n (k4 := 3) (mx_d D_W_law_2 26 rfl) (by rfl) ?_
  refine mx_callS (Y' := Y_W_use) [_, _, _] (mx_d D_W_law_2 27 rfl) in_W_use w_379 w_380 np_W_use (by exact Nat.le_of_ble_eq_true rfl) (by rfl) (by rfl) (by exact Nat.le_of_ble_eq_true rfl) (w_use hG hK (by omega) hC hL (i32_lo _) (i32_hi _) (fun h0 => ?_) (fun ce1 m h0 h1 k1 kL k2 => ?_))
  · refine mx_istore (i := 5) (mx_d D_W_law_2 28 rfl) (by decide) ?_
    refine mx_aload_n (k4 := 2) (mx_d D_W_law_2 29 rfl) (by rfl) ?_
    refine mx_aload_n (k4 := 0) (mx_d D_W_law_2 30 rfl) (by rfl) ?_
    refine mx_iload (i := 4) (mx_d D_W_law_2 31 rfl) (by rfl) ?_
    refine mx_iconst (n := 1) (mx_d D_W_law_2 32 rfl) ?_
    refine mx_iaddI (mx_d D_W_law_2 33 rfl) ?_
    refine mx_sld hX hbB (i + 1) (mx_d D_W_law_2 34 rfl) (by rfl) (by omega) (by omega) ?_
    refine mx_callV hG (Y' := Y_M_use) (ci := 7) [_] (mx_d D_W_law_2 35 rfl) in_M_use w_678 w_679 s_M_use (by rfl) np_M_use (by exact Nat.le_of_ble_eq_true rfl) (by rfl) (by first | assumption | omega) (by first | assumption | exact va_up_self _ _ _ | (rw [va_up_ne _ _ (by omega)]; first | assumption | exact va_up_self _ _ _ | (rw [va_up_ne _ _ (by omega)]; first | assumption | exact va_up_self _ _ _ | (rw [va_up_ne _ _ (by omega)]; first | assumption | exact va_up_self _ _ _ | (rw [va_up_ne _ _ (by omega)]; first | assumption | exact va_up_self _ _ _ | (rw [va_up_ne _ _ (by omega)]; first | assumption | exact va_up_self _ _ _)))))) (by rfl) (by exact Nat.le_of_ble_eq_true rfl) (m_use hG (by omega) hV hR (i32_lo _) (i32_hi _) (fun ce2 g0 k3 k4 => ?_) (fun ce2 m9 g0 g1 k3 k4 => ?_))
    · refine mx_istore (i := 6) (mx_d D_W_law_2 36 rfl) (by decide) ?_
      refine mx_aload_n (k4 := 2) (mx_d D_W_law_2 37 rfl) (by rfl) ?_
      refine mx_callV hG (Y' := Y_M_thrown) (ci := 7) [] (mx_d D_W_law_2 38 rfl) in_M_thrown w_651 w_652 s_M_thrown (by rfl) np_M_thrown (by exact Nat.le_of_ble_eq_true rfl) (by rfl) (by first | assumption | omega) (id k3).choose_spec.1 (by rfl) (by exact Nat.le_of_ble_eq_true rfl) (m_thrown hG (by omega) k3 ?_)
      refine mx_iload (i := 5) (mx_d D_W_law_2 39 rfl) (by rfl) ?_
      refine mx_icmp_eqY 315 (mx_d D_W_law_2 40 rfl) (by decide) (by decide) (by decide) (by decide) (by decide) rfl ?_
      refine mx_iload (i := 5) (mx_d D_W_law_2 43 rfl) (by rfl) ?_
      refine mx_if_neY 332 (mx_d D_W_law_2 44 rfl) (by decide) (by decide) (by decide) (by decide) ?_
      refine mx_goto 1238 (mx_d D_W_law_3 4 rfl) (by decide) ?_
      exact mx_loc (by rfl) (next ce2 ⟨_, _, _, _, _, _, _, _, _, _, _, _, _, _, _, _, _, _, 1, _, hC.fr (fun k hk => k4 k (Or.inl hk)), k3, oL_fr hL (k4 63 (by omega))⟩)
    · exfalso
      omega
  · refine mx_istore (i := 5) (mx_d D_W_law_2 28 rfl) (by decide) ?_
    refine mx_aload_n (k4 := 2) (mx_d D_W_law_2 29 rfl) (by rfl) ?_
    refine mx_aload_n (k4 := 0) (mx_d D_W_law_2 30 rfl) (by rfl) ?_
    refine mx_iload (i := 4) (mx_d D_W_law_2 31 rfl) (by rfl) ?_
    refine mx_iconst (n := 1) (mx_d D_W_law_2 32 rfl) ?_
    refine mx_iaddI (mx_d D_W_law_2 33 rfl) ?_
    refine mx_sld hX hbB (i + 1) (mx_d D_W_law_2 34 rfl) (by rfl) (by omega) (by omega) ?_
    refine mx_callV hG (Y' := Y_M_use) (ci := 7) [_] (mx_d D_W_law_2 35 rfl) in_M_use w_678 w_679 s_M_use (by rfl) np_M_use (by exact Nat.le_of_ble_eq_true rfl) (by rfl) (by first | assumption | omega) ((k2 50 (by omega) (by omega)).trans h50) (by rfl) (by exact Nat.le_of_ble_eq_true rfl) (m_use hG (by omega) hV (hR.fr (fun k z1 z2 => k2 k z1 (by omega))) (i32_lo _) (i32_hi _) (fun ce2 g0 k3 k4 => ?_) (fun ce2 m9 g0 g1 k3 k4 => ?_))
    · exfalso
      omega
    · obtain rfl : m9 = m := by omega
      refine mx_istore (i := 6) (mx_d D_W_law_2 36 rfl) (by decide) ?_
      refine mx_aload_n (k4 := 2) (mx_d D_W_law_2 37 rfl) (by rfl) ?_
      refine mx_callV hG (Y' := Y_M_thrown) (ci := 7) [] (mx_d D_W_law_2 38 rfl) in_M_thrown w_651 w_652 s_M_thrown (by rfl) np_M_thrown (by exact Nat.le_of_ble_eq_true rfl) (by rfl) (by first | assumption | omega) (id k3).choose_spec.1 (by rfl) (by exact Nat.le_of_ble_eq_true rfl) (m_thrown hG (by omega) k3 ?_)
      refine mx_iload (i := 5) (mx_d D_W_law_2 39 rfl) (by rfl) ?_
      refine mx_icmp_eqY 315 (mx_d D_W_law_2 40 rfl) (by decide) (by decide) (by decide) (by decide) (by decide) rfl ?_
      refine mx_iload (i := 5) (mx_d D_W_law_2 43 rfl) (by rfl) ?_
      refine mx_if_neN 332 (mx_d D_W_law_2 44 rfl) (by decide) (by decide) (by decide) (by decide) ?_
      obtain ⟨f9, l1, l2⟩ := oL_fr kL (k4 63 (by omega))
      refine mx_aload_n (k4 := 3) (mx_d D_W_law_2 45 rfl) (by rfl) ?_
      refine mx_iconst (n := 0) (mx_d D_W_law_2 46 rfl) ?_
      refine mx_lald hG 2 (0) (mx_d D_W_law_2 47 rfl) (by first | assumption | omega) l1 (by rfl) (by rfl) (by omega) (by omega) ?_
      rw [l2]
      refine mx_iload (i := 6) (mx_d D_W_law_2 48 rfl) (by rfl) ?_
      refine mx_i2l (mx_d D_W_law_2 49 rfl) ?_
      refine mx_lcmpE (mx_d D_W_law_3 0 rfl) ?_
      refine mx_if_eqY 332 (mx_d D_W_law_3 1 rfl) (by decide) (by decide) (by decide) (by decide) ?_
      refine mx_goto 1238 (mx_d D_W_law_3 4 rfl) (by decide) ?_
      exact mx_loc (by rfl) (next ce2 ⟨_, _, _, _, _, _, _, _, _, _, _, _, _, _, _, _, _, _, 0, _, k1.fr (fun k hk => k4 k (Or.inl hk)), k3, oL_fr kL (k4 63 (by omega))⟩)
theorem lz_reservoir (hG : mx_ok G) (hK : mx_Nok G) (hX : va_X b L xs G.2.1 G.2.1.heap) (hbB : b < mx_B G) (hL2 : L ≤ 2562) (hi : i + 5 ≤ L) (hI : INV G ce) (next : ∀ ce', INV G ce' → mx_M G Y_W_law 10 bc bs false 64 ce' 1238 [(0, .ref b), (1, .ref (mx_B G + 0)), (2, .ref (mx_B G + 50)), (3, .ref (mx_B G + 63)), (4, .int (iI i))] [] Q) : mx_M G Y_W_law 10 (bc + 1) (bs + 6) false 64 ce 335 [(0, .ref b), (1, .ref (mx_B G + 0)), (2, .ref (mx_B G + 50)), (3, .ref (mx_B G + 63)), (4, .int (iI i))] [] Q := by
  obtain ⟨Y, U, nE, iE, nD, rA, rS, eA, eS, dA, dS, dW, lc, rn, rg, rN, ps, pN, th, v0, hC, hR, hL⟩ := hI
  have hV := hC.1
  have hC0 := hC.2.1
  obtain ⟨rw0, h50, hRA⟩ := id hR
  refine mx_aload_n (k4 := 1) (mx_d D_W_law_3 5 rfl) (by rfl) ?_
  refine mx_aload_n (k4 := 0) (mx_d D_W_law_3 6 rfl) (by rfl) ?_
  refine mx_iload (i := 4) (mx_d D_W_law_3 7 rfl) (by rfl) ?_
  refine mx_iconst (n := 1) (mx_d D_W_law_3 8 rfl) ?_
  refine mx_iaddI (mx_d D_W_law_3 9 rfl) ?_
  refine mx_sld hX hbB (i + 1) (mx_d D_W_law_3 10 rfl) (by rfl) (by omega) (by omega) ?_
  refine mx_aload_n (k4 := 0) (mx_d D_W_law_3 11 rfl) (by rfl) ?_
  refine mx_iload (i := 4) (mx_d D_W_law_3 12 rfl) (by rfl) ?_
  refine mx_iconst (n := 2) (mx_d D_W_law_3 13 rfl) ?_
  refine mx_iaddI (mx_d D_W_law_3 14 rfl) ?_
  refine mx_sld hX hbB (i + 2) (mx_d D_W_law_3 15 rfl) (by rfl) (by omega) (by omega) ?_
  refine mx_callS (Y' := Y_W_reservoir) [_, _, _] (mx_d D_W_law_3 16 rfl) in_W_reservoir w_387 w_388 np_W_reservoir (by exact Nat.le_of_ble_eq_true rfl) (by rfl) (by rfl) (by exact Nat.le_of_ble_eq_true rfl) (w_reservoir hG hK (by omega) hC (i32_lo _) (i32_hi _) (i32_lo _) (i32_hi _) (fun h0 => ?_) (fun ce1  h0 k1 k2 => ?_))
  · refine mx_istore (i := 5) (mx_d D_W_law_3 17 rfl) (by decide) ?_
    refine mx_aload_n (k4 := 2) (mx_d D_W_law_3 18 rfl) (by rfl) ?_
    refine mx_aload_n (k4 := 0) (mx_d D_W_law_3 19 rfl) (by rfl) ?_
    refine mx_iload (i := 4) (mx_d D_W_law_3 20 rfl) (by rfl) ?_
    refine mx_iconst (n := 1) (mx_d D_W_law_3 21 rfl) ?_
    refine mx_iaddI (mx_d D_W_law_3 22 rfl) ?_
    refine mx_sld hX hbB (i + 1) (mx_d D_W_law_3 23 rfl) (by rfl) (by omega) (by omega) ?_
    refine mx_aload_n (k4 := 0) (mx_d D_W_law_3 24 rfl) (by rfl) ?_
    refine mx_iload (i := 4) (mx_d D_W_law_3 25 rfl) (by rfl) ?_
    refine mx_iconst (n := 2) (mx_d D_W_law_3 26 rfl) ?_
    refine mx_iaddI (mx_d D_W_law_3 27 rfl) ?_
    refine mx_sld hX hbB (i + 2) (mx_d D_W_law_3 28 rfl) (by rfl) (by omega) (by omega) ?_
    refine mx_callV hG (Y' := Y_M_reservoir) (ci := 7) [_, _] (mx_d D_W_law_3 29 rfl) in_M_reservoir w_682 w_683 s_M_reservoir (by rfl) np_M_reservoir (by exact Nat.le_of_ble_eq_true rfl) (by rfl) (by first | assumption | omega) (by first | assumption | exact va_up_self _ _ _ | (rw [va_up_ne _ _ (by omega)]; first | assumption | exact va_up_self _ _ _ | (rw [va_up_ne _ _ (by omega)]; first | assumption | exact va_up_self _ _ _ | (rw [va_up_ne _ _ (by omega)]; first | assumption | exact va_up_self _ _ _ | (rw [va_up_ne _ _ (by omega)]; first | assumption | exact va_up_self _ _ _ | (rw [va_up_ne _ _ (by omega)]; first | assumption | exact va_up_self _ _ _)))))) (by rfl) (by exact Nat.le_of_ble_eq_true rfl) (m_reservoir hG (by omega) hV hR (i32_lo _) (i32_hi _) (i32_lo _) (i32_hi _) (fun ce2 g0 k3 k4 => ?_) (fun ce2  g0 k3 k4 => ?_))
    · refine mx_aload_n (k4 := 2) (mx_d D_W_law_3 30 rfl) (by rfl) ?_
      refine mx_callV hG (Y' := Y_M_thrown) (ci := 7) [] (mx_d D_W_law_3 31 rfl) in_M_thrown w_651 w_652 s_M_thrown (by rfl) np_M_thrown (by exact Nat.le_of_ble_eq_true rfl) (by rfl) (by first | assumption | omega) (id k3).choose_spec.1 (by rfl) (by exact Nat.le_of_ble_eq_true rfl) (m_thrown hG (by omega) k3 ?_)
      refine mx_iload (i := 5) (mx_d D_W_law_3 32 rfl) (by rfl) ?_
      refine mx_icmp_eqY 380 (mx_d D_W_law_3 33 rfl) (by decide) (by decide) (by decide) (by decide) (by decide) rfl ?_
      refine mx_goto 1238 (mx_d D_W_law_3 36 rfl) (by decide) ?_
      exact mx_loc (by rfl) (next ce2 ⟨_, _, _, _, _, _, _, _, _, _, _, _, _, _, _, _, _, _, 1, _, hC.fr (fun k hk => k4 k (Or.inl hk)), k3, oL_fr hL (k4 63 (by omega))⟩)
    · exfalso
      omega
  · refine mx_istore (i := 5) (mx_d D_W_law_3 17 rfl) (by decide) ?_
    refine mx_aload_n (k4 := 2) (mx_d D_W_law_3 18 rfl) (by rfl) ?_
    refine mx_aload_n (k4 := 0) (mx_d D_W_law_3 19 rfl) (by rfl) ?_
    refine mx_iload (i := 4) (mx_d D_W_law_3 20 rfl) (by rfl) ?_
    refine mx_iconst (n := 1) (mx_d D_W_law_3 21 rfl) ?_
    refine mx_iaddI (mx_d D_W_law_3 22 rfl) ?_
    refine mx_sld hX hbB (i + 1) (mx_d D_W_law_3 23 rfl) (by rfl) (by omega) (by omega) ?_
    refine mx_aload_n (k4 := 0) (mx_d D_W_law_3 24 rfl) (by rfl) ?_
    refine mx_iload (i := 4) (mx_d D_W_law_3 25 rfl) (by rfl) ?_
    refine mx_iconst (n := 2) (mx_d D_W_law_3 26 rfl) ?_
    refine mx_iaddI (mx_d D_W_law_3 27 rfl) ?_
    refine mx_sld hX hbB (i + 2) (mx_d D_W_law_3 28 rfl) (by rfl) (by omega) (by omega) ?_
    refine mx_callV hG (Y' := Y_M_reservoir) (ci := 7) [_, _] (mx_d D_W_law_3 29 rfl) in_M_reservoir w_682 w_683 s_M_reservoir (by rfl) np_M_reservoir (by exact Nat.le_of_ble_eq_true rfl) (by rfl) (by first | assumption | omega) ((k2 50 (by omega) trivial).trans h50) (by rfl) (by exact Nat.le_of_ble_eq_true rfl) (m_reservoir hG (by omega) hV (hR.fr (fun k z1 z2 => k2 k z1 trivial)) (i32_lo _) (i32_hi _) (i32_lo _) (i32_hi _) (fun ce2 g0 k3 k4 => ?_) (fun ce2  g0 k3 k4 => ?_))
    · exfalso
      omega
    · refine mx_aload_n (k4 := 2) (mx_d D_W_law_3 30 rfl) (by rfl) ?_
      refine mx_callV hG (Y' := Y_M_thrown) (ci := 7) [] (mx_d D_W_law_3 31 rfl) in_M_thrown w_651 w_652 s_M_thrown (by rfl) np_M_thrown (by exact Nat.le_of_ble_eq_true rfl) (by rfl) (by first | assumption | omega) (id k3).choose_spec.1 (by rfl) (by exact Nat.le_of_ble_eq_true rfl) (m_thrown hG (by omega) k3 ?_)
      refine mx_iload (i := 5) (mx_d D_W_law_3 32 rfl) (by rfl) ?_
      refine mx_icmp_eqY 380 (mx_d D_W_law_3 33 rfl) (by decide) (by decide) (by decide) (by decide) (by decide) rfl ?_
      refine mx_goto 1238 (mx_d D_W_law_3 36 rfl) (by decide) ?_
      exact mx_loc (by rfl) (next ce2 ⟨_, _, _, _, _, _, _, _, _, _, _, _, _, _, _, _, _, _, 0, _, k1.fr (fun k hk => k4 k (Or.inl hk)), k3, oL_fr hL ((k4 63 (by omega)).trans (k2 63 (by omega) trivial))⟩)
theorem lz_date (hG : mx_ok G) (hK : mx_Nok G) (hX : va_X b L xs G.2.1 G.2.1.heap) (hbB : b < mx_B G) (hL2 : L ≤ 2562) (hi : i + 5 ≤ L) (hI : INV G ce) (next : ∀ ce', INV G ce' → mx_M G Y_W_law 10 bc bs false 64 ce' 1238 [(0, .ref b), (1, .ref (mx_B G + 0)), (2, .ref (mx_B G + 50)), (3, .ref (mx_B G + 63)), (4, .int (iI i))] [] Q) : mx_M G Y_W_law 10 (bc + 1) (bs + 6) false 64 ce 383 [(0, .ref b), (1, .ref (mx_B G + 0)), (2, .ref (mx_B G + 50)), (3, .ref (mx_B G + 63)), (4, .int (iI i))] [] Q := by
  obtain ⟨Y, U, nE, iE, nD, rA, rS, eA, eS, dA, dS, dW, lc, rn, rg, rN, ps, pN, th, v0, hC, hR, hL⟩ := hI
  have hV := hC.1
  have hC0 := hC.2.1
  obtain ⟨rw0, h50, hRA⟩ := id hR
  refine mx_aload_n (k4 := 1) (mx_d D_W_law_3 37 rfl) (by rfl) ?_
  refine mx_aload_n (k4 := 0) (mx_d D_W_law_3 38 rfl) (by rfl) ?_
  refine mx_iload (i := 4) (mx_d D_W_law_3 39 rfl) (by rfl) ?_
  refine mx_iconst (n := 1) (mx_d D_W_law_3 40 rfl) ?_
  refine mx_iaddI (mx_d D_W_law_3 41 rfl) ?_
  refine mx_sld hX hbB (i + 1) (mx_d D_W_law_3 42 rfl) (by rfl) (by omega) (by omega) ?_
  refine mx_aload_n (k4 := 0) (mx_d D_W_law_3 43 rfl) (by rfl) ?_
  refine mx_iload (i := 4) (mx_d D_W_law_3 44 rfl) (by rfl) ?_
  refine mx_iconst (n := 2) (mx_d D_W_law_3 45 rfl) ?_
  refine mx_iaddI (mx_d D_W_law_3 46 rfl) ?_
  refine mx_sld hX hbB (i + 2) (mx_d D_W_law_3 47 rfl) (by rfl) (by omega) (by omega) ?_
  refine mx_aload_n (k4 := 3) (mx_d D_W_law_3 48 rfl) (by rfl) ?_
  refine mx_callS (Y' := Y_W_date) [_, _, _, _] (mx_d D_W_law_3 49 rfl) in_W_date w_396 w_397 np_W_date (by exact Nat.le_of_ble_eq_true rfl) (by rfl) (by rfl) (by exact Nat.le_of_ble_eq_true rfl) (w_date hG hK (by omega) hC hL (i32_lo _) (i32_hi _) (i32_lo _) (i32_hi _) (fun h0 => ?_) (fun h0 h1 => ?_) (fun ce1 h h0 h1 h2 k1 kL k2 => ?_))
  · refine mx_istore (i := 5) (mx_d D_W_law_4 0 rfl) (by decide) ?_
    refine mx_aload_n (k4 := 2) (mx_d D_W_law_4 1 rfl) (by rfl) ?_
    refine mx_aload_n (k4 := 0) (mx_d D_W_law_4 2 rfl) (by rfl) ?_
    refine mx_iload (i := 4) (mx_d D_W_law_4 3 rfl) (by rfl) ?_
    refine mx_iconst (n := 1) (mx_d D_W_law_4 4 rfl) ?_
    refine mx_iaddI (mx_d D_W_law_4 5 rfl) ?_
    refine mx_sld hX hbB (i + 1) (mx_d D_W_law_4 6 rfl) (by rfl) (by omega) (by omega) ?_
    refine mx_aload_n (k4 := 0) (mx_d D_W_law_4 7 rfl) (by rfl) ?_
    refine mx_iload (i := 4) (mx_d D_W_law_4 8 rfl) (by rfl) ?_
    refine mx_iconst (n := 2) (mx_d D_W_law_4 9 rfl) ?_
    refine mx_iaddI (mx_d D_W_law_4 10 rfl) ?_
    refine mx_sld hX hbB (i + 2) (mx_d D_W_law_4 11 rfl) (by rfl) (by omega) (by omega) ?_
    refine mx_callV hG (Y' := Y_M_date) (ci := 7) [_, _] (mx_d D_W_law_4 12 rfl) in_M_date w_686 w_687 s_M_date (by rfl) np_M_date (by exact Nat.le_of_ble_eq_true rfl) (by rfl) (by first | assumption | omega) (by first | assumption | exact va_up_self _ _ _ | (rw [va_up_ne _ _ (by omega)]; first | assumption | exact va_up_self _ _ _ | (rw [va_up_ne _ _ (by omega)]; first | assumption | exact va_up_self _ _ _ | (rw [va_up_ne _ _ (by omega)]; first | assumption | exact va_up_self _ _ _ | (rw [va_up_ne _ _ (by omega)]; first | assumption | exact va_up_self _ _ _ | (rw [va_up_ne _ _ (by omega)]; first | assumption | exact va_up_self _ _ _)))))) (by rfl) (by exact Nat.le_of_ble_eq_true rfl) (m_date hG (by omega) hV hR (i32_lo _) (i32_hi _) (i32_lo _) (i32_hi _) (fun ce2 g0 k3 k4 => ?_) (fun ce2 g0 g1 k3 k4 => ?_) (fun ce2  g0 g1 k3 k4 => ?_))
    · refine mx_istore (i := 6) (mx_d D_W_law_4 13 rfl) (by decide) ?_
      refine mx_aload_n (k4 := 2) (mx_d D_W_law_4 14 rfl) (by rfl) ?_
      refine mx_callV hG (Y' := Y_M_thrown) (ci := 7) [] (mx_d D_W_law_4 15 rfl) in_M_thrown w_651 w_652 s_M_thrown (by rfl) np_M_thrown (by exact Nat.le_of_ble_eq_true rfl) (by rfl) (by first | assumption | omega) (id k3).choose_spec.1 (by rfl) (by exact Nat.le_of_ble_eq_true rfl) (m_thrown hG (by omega) k3 ?_)
      refine mx_iload (i := 5) (mx_d D_W_law_4 16 rfl) (by rfl) ?_
      refine mx_icmp_eqY 431 (mx_d D_W_law_4 17 rfl) (by decide) (by decide) (by decide) (by decide) (by decide) rfl ?_
      refine mx_iload (i := 5) (mx_d D_W_law_4 20 rfl) (by rfl) ?_
      refine mx_if_neY 448 (mx_d D_W_law_4 21 rfl) (by decide) (by decide) (by decide) (by decide) ?_
      refine mx_goto 1238 (mx_d D_W_law_4 31 rfl) (by decide) ?_
      exact mx_loc (by rfl) (next ce2 ⟨_, _, _, _, _, _, _, _, _, _, _, _, _, _, _, _, _, _, 1, _, hC.fr (fun k hk => k4 k (Or.inl hk)), k3, oL_fr hL (k4 63 (by omega))⟩)
    · exfalso
      omega
    · exfalso
      omega
  · refine mx_istore (i := 5) (mx_d D_W_law_4 0 rfl) (by decide) ?_
    refine mx_aload_n (k4 := 2) (mx_d D_W_law_4 1 rfl) (by rfl) ?_
    refine mx_aload_n (k4 := 0) (mx_d D_W_law_4 2 rfl) (by rfl) ?_
    refine mx_iload (i := 4) (mx_d D_W_law_4 3 rfl) (by rfl) ?_
    refine mx_iconst (n := 1) (mx_d D_W_law_4 4 rfl) ?_
    refine mx_iaddI (mx_d D_W_law_4 5 rfl) ?_
    refine mx_sld hX hbB (i + 1) (mx_d D_W_law_4 6 rfl) (by rfl) (by omega) (by omega) ?_
    refine mx_aload_n (k4 := 0) (mx_d D_W_law_4 7 rfl) (by rfl) ?_
    refine mx_iload (i := 4) (mx_d D_W_law_4 8 rfl) (by rfl) ?_
    refine mx_iconst (n := 2) (mx_d D_W_law_4 9 rfl) ?_
    refine mx_iaddI (mx_d D_W_law_4 10 rfl) ?_
    refine mx_sld hX hbB (i + 2) (mx_d D_W_law_4 11 rfl) (by rfl) (by omega) (by omega) ?_
    refine mx_callV hG (Y' := Y_M_date) (ci := 7) [_, _] (mx_d D_W_law_4 12 rfl) in_M_date w_686 w_687 s_M_date (by rfl) np_M_date (by exact Nat.le_of_ble_eq_true rfl) (by rfl) (by first | assumption | omega) (by first | assumption | exact va_up_self _ _ _ | (rw [va_up_ne _ _ (by omega)]; first | assumption | exact va_up_self _ _ _ | (rw [va_up_ne _ _ (by omega)]; first | assumption | exact va_up_self _ _ _ | (rw [va_up_ne _ _ (by omega)]; first | assumption | exact va_up_self _ _ _ | (rw [va_up_ne _ _ (by omega)]; first | assumption | exact va_up_self _ _ _ | (rw [va_up_ne _ _ (by omega)]; first | assumption | exact va_up_self _ _ _)))))) (by rfl) (by exact Nat.le_of_ble_eq_true rfl) (m_date hG (by omega) hV hR (i32_lo _) (i32_hi _) (i32_lo _) (i32_hi _) (fun ce2 g0 k3 k4 => ?_) (fun ce2 g0 g1 k3 k4 => ?_) (fun ce2  g0 g1 k3 k4 => ?_))
    · exfalso
      omega
    · refine mx_istore (i := 6) (mx_d D_W_law_4 13 rfl) (by decide) ?_
      refine mx_aload_n (k4 := 2) (mx_d D_W_law_4 14 rfl) (by rfl) ?_
      refine mx_callV hG (Y' := Y_M_thrown) (ci := 7) [] (mx_d D_W_law_4 15 rfl) in_M_thrown w_651 w_652 s_M_thrown (by rfl) np_M_thrown (by exact Nat.le_of_ble_eq_true rfl) (by rfl) (by first | assumption | omega) (id k3).choose_spec.1 (by rfl) (by exact Nat.le_of_ble_eq_true rfl) (m_thrown hG (by omega) k3 ?_)
      refine mx_iload (i := 5) (mx_d D_W_law_4 16 rfl) (by rfl) ?_
      refine mx_icmp_eqY 431 (mx_d D_W_law_4 17 rfl) (by decide) (by decide) (by decide) (by decide) (by decide) rfl ?_
      refine mx_iload (i := 5) (mx_d D_W_law_4 20 rfl) (by rfl) ?_
      refine mx_if_neY 448 (mx_d D_W_law_4 21 rfl) (by decide) (by decide) (by decide) (by decide) ?_
      refine mx_goto 1238 (mx_d D_W_law_4 31 rfl) (by decide) ?_
      exact mx_loc (by rfl) (next ce2 ⟨_, _, _, _, _, _, _, _, _, _, _, _, _, _, _, _, _, _, 2, _, hC.fr (fun k hk => k4 k (Or.inl hk)), k3, oL_fr hL (k4 63 (by omega))⟩)
    · exfalso
      omega
  · refine mx_istore (i := 5) (mx_d D_W_law_4 0 rfl) (by decide) ?_
    refine mx_aload_n (k4 := 2) (mx_d D_W_law_4 1 rfl) (by rfl) ?_
    refine mx_aload_n (k4 := 0) (mx_d D_W_law_4 2 rfl) (by rfl) ?_
    refine mx_iload (i := 4) (mx_d D_W_law_4 3 rfl) (by rfl) ?_
    refine mx_iconst (n := 1) (mx_d D_W_law_4 4 rfl) ?_
    refine mx_iaddI (mx_d D_W_law_4 5 rfl) ?_
    refine mx_sld hX hbB (i + 1) (mx_d D_W_law_4 6 rfl) (by rfl) (by omega) (by omega) ?_
    refine mx_aload_n (k4 := 0) (mx_d D_W_law_4 7 rfl) (by rfl) ?_
    refine mx_iload (i := 4) (mx_d D_W_law_4 8 rfl) (by rfl) ?_
    refine mx_iconst (n := 2) (mx_d D_W_law_4 9 rfl) ?_
    refine mx_iaddI (mx_d D_W_law_4 10 rfl) ?_
    refine mx_sld hX hbB (i + 2) (mx_d D_W_law_4 11 rfl) (by rfl) (by omega) (by omega) ?_
    refine mx_callV hG (Y' := Y_M_date) (ci := 7) [_, _] (mx_d D_W_law_4 12 rfl) in_M_date w_686 w_687 s_M_date (by rfl) np_M_date (by exact Nat.le_of_ble_eq_true rfl) (by rfl) (by first | assumption | omega) ((k2 50 (by omega) (by omega)).trans h50) (by rfl) (by exact Nat.le_of_ble_eq_true rfl) (m_date hG (by omega) hV (hR.fr (fun k z1 z2 => k2 k z1 (by omega))) (i32_lo _) (i32_hi _) (i32_lo _) (i32_hi _) (fun ce2 g0 k3 k4 => ?_) (fun ce2 g0 g1 k3 k4 => ?_) (fun ce2  g0 g1 k3 k4 => ?_))
    · exfalso
      omega
    · exfalso
      omega
    · refine mx_istore (i := 6) (mx_d D_W_law_4 13 rfl) (by decide) ?_
      refine mx_aload_n (k4 := 2) (mx_d D_W_law_4 14 rfl) (by rfl) ?_
      refine mx_callV hG (Y' := Y_M_thrown) (ci := 7) [] (mx_d D_W_law_4 15 rfl) in_M_thrown w_651 w_652 s_M_thrown (by rfl) np_M_thrown (by exact Nat.le_of_ble_eq_true rfl) (by rfl) (by first | assumption | omega) (id (k3 h h2)).choose_spec.1 (by rfl) (by exact Nat.le_of_ble_eq_true rfl) (m_thrown hG (by omega) (k3 h h2) ?_)
      refine mx_iload (i := 5) (mx_d D_W_law_4 16 rfl) (by rfl) ?_
      refine mx_icmp_eqY 431 (mx_d D_W_law_4 17 rfl) (by decide) (by decide) (by decide) (by decide) (by decide) rfl ?_
      refine mx_iload (i := 5) (mx_d D_W_law_4 20 rfl) (by rfl) ?_
      refine mx_if_neN 448 (mx_d D_W_law_4 21 rfl) (by decide) (by decide) (by decide) (by decide) ?_
      obtain ⟨f9, l1, l2⟩ := oL_fr kL (k4 63 (by omega))
      refine mx_aload_n (k4 := 3) (mx_d D_W_law_4 22 rfl) (by rfl) ?_
      refine mx_iconst (n := 0) (mx_d D_W_law_4 23 rfl) ?_
      refine mx_lald hG 2 (0) (mx_d D_W_law_4 24 rfl) (by first | assumption | omega) l1 (by rfl) (by rfl) (by omega) (by omega) ?_
      rw [l2]
      refine mx_iload (i := 6) (mx_d D_W_law_4 25 rfl) (by rfl) ?_
      refine mx_i2l (mx_d D_W_law_4 26 rfl) ?_
      refine mx_lcmpE (mx_d D_W_law_4 27 rfl) ?_
      refine mx_if_eqY 448 (mx_d D_W_law_4 28 rfl) (by decide) (by decide) (by decide) (by decide) ?_
      refine mx_goto 1238 (mx_d D_W_law_4 31 rfl) (by decide) ?_
      exact mx_loc (by rfl) (next ce2 ⟨_, _, _, _, _, _, _, _, _, _, _, _, _, _, _, _, _, _, 0, _, k1.fr (fun k hk => k4 k (Or.inl hk)), (k3 h h2), oL_fr kL (k4 63 (by omega))⟩)
theorem lz_weight (hG : mx_ok G) (hK : mx_Nok G) (hX : va_X b L xs G.2.1 G.2.1.heap) (hbB : b < mx_B G) (hL2 : L ≤ 2562) (hi : i + 5 ≤ L) (hI : INV G ce) (next : ∀ ce', INV G ce' → mx_M G Y_W_law 10 bc bs false 64 ce' 1238 [(0, .ref b), (1, .ref (mx_B G + 0)), (2, .ref (mx_B G + 50)), (3, .ref (mx_B G + 63)), (4, .int (iI i))] [] Q) : mx_M G Y_W_law 10 (bc + 1) (bs + 6) false 64 ce 451 [(0, .ref b), (1, .ref (mx_B G + 0)), (2, .ref (mx_B G + 50)), (3, .ref (mx_B G + 63)), (4, .int (iI i))] [] Q := by
  obtain ⟨Y, U, nE, iE, nD, rA, rS, eA, eS, dA, dS, dW, lc, rn, rg, rN, ps, pN, th, v0, hC, hR, hL⟩ := hI
  have hV := hC.1
  have hC0 := hC.2.1
  obtain ⟨rw0, h50, hRA⟩ := id hR
  refine mx_aload_n (k4 := 1) (mx_d D_W_law_4 32 rfl) (by rfl) ?_
  refine mx_aload_n (k4 := 0) (mx_d D_W_law_4 33 rfl) (by rfl) ?_
  refine mx_iload (i := 4) (mx_d D_W_law_4 34 rfl) (by rfl) ?_
  refine mx_iconst (n := 1) (mx_d D_W_law_4 35 rfl) ?_
  refine mx_iaddI (mx_d D_W_law_4 36 rfl) ?_
  refine mx_sld hX hbB (i + 1) (mx_d D_W_law_4 37 rfl) (by rfl) (by omega) (by omega) ?_
  refine mx_aload_n (k4 := 0) (mx_d D_W_law_4 38 rfl) (by rfl) ?_
  refine mx_iload (i := 4) (mx_d D_W_law_4 39 rfl) (by rfl) ?_
  refine mx_iconst (n := 2) (mx_d D_W_law_4 40 rfl) ?_
  refine mx_iaddI (mx_d D_W_law_4 41 rfl) ?_
  refine mx_sld hX hbB (i + 2) (mx_d D_W_law_4 42 rfl) (by rfl) (by omega) (by omega) ?_
  refine mx_aload_n (k4 := 3) (mx_d D_W_law_4 43 rfl) (by rfl) ?_
  refine mx_callS (Y' := Y_W_weight) [_, _, _, _] (mx_d D_W_law_4 44 rfl) in_W_weight w_421 w_422 np_W_weight (by exact Nat.le_of_ble_eq_true rfl) (by rfl) (by rfl) (by exact Nat.le_of_ble_eq_true rfl) (w_weight hG hK (by omega) hC hL (i32_lo _) (i32_hi _) (i32_lo _) (i32_hi _) (fun h0 => ?_) (fun ce1 j m h0 h1 h2 h3 k1 kL k2 => ?_))
  · refine mx_istore (i := 5) (mx_d D_W_law_4 45 rfl) (by decide) ?_
    refine mx_aload_n (k4 := 2) (mx_d D_W_law_4 46 rfl) (by rfl) ?_
    refine mx_aload_n (k4 := 0) (mx_d D_W_law_4 47 rfl) (by rfl) ?_
    refine mx_iload (i := 4) (mx_d D_W_law_4 48 rfl) (by rfl) ?_
    refine mx_iconst (n := 1) (mx_d D_W_law_4 49 rfl) ?_
    refine mx_iaddI (mx_d D_W_law_5 0 rfl) ?_
    refine mx_sld hX hbB (i + 1) (mx_d D_W_law_5 1 rfl) (by rfl) (by omega) (by omega) ?_
    refine mx_aload_n (k4 := 0) (mx_d D_W_law_5 2 rfl) (by rfl) ?_
    refine mx_iload (i := 4) (mx_d D_W_law_5 3 rfl) (by rfl) ?_
    refine mx_iconst (n := 2) (mx_d D_W_law_5 4 rfl) ?_
    refine mx_iaddI (mx_d D_W_law_5 5 rfl) ?_
    refine mx_sld hX hbB (i + 2) (mx_d D_W_law_5 6 rfl) (by rfl) (by omega) (by omega) ?_
    refine mx_callV hG (Y' := Y_M_weight) (ci := 7) [_, _] (mx_d D_W_law_5 7 rfl) in_M_weight w_698 w_699 s_M_weight (by rfl) np_M_weight (by exact Nat.le_of_ble_eq_true rfl) (by rfl) (by first | assumption | omega) (by first | assumption | exact va_up_self _ _ _ | (rw [va_up_ne _ _ (by omega)]; first | assumption | exact va_up_self _ _ _ | (rw [va_up_ne _ _ (by omega)]; first | assumption | exact va_up_self _ _ _ | (rw [va_up_ne _ _ (by omega)]; first | assumption | exact va_up_self _ _ _ | (rw [va_up_ne _ _ (by omega)]; first | assumption | exact va_up_self _ _ _ | (rw [va_up_ne _ _ (by omega)]; first | assumption | exact va_up_self _ _ _)))))) (by rfl) (by exact Nat.le_of_ble_eq_true rfl) (m_weight hG (by omega) hV hR (i32_lo _) (i32_hi _) (i32_lo _) (i32_hi _) (fun ce2 g0 k3 k4 => ?_) (fun ce2 j9 m9 g0 g1 g2 g3 k3 k4 => ?_))
    · refine mx_istore (i := 6) (mx_d D_W_law_5 8 rfl) (by decide) ?_
      refine mx_aload_n (k4 := 2) (mx_d D_W_law_5 9 rfl) (by rfl) ?_
      refine mx_callV hG (Y' := Y_M_thrown) (ci := 7) [] (mx_d D_W_law_5 10 rfl) in_M_thrown w_651 w_652 s_M_thrown (by rfl) np_M_thrown (by exact Nat.le_of_ble_eq_true rfl) (by rfl) (by first | assumption | omega) (id k3).choose_spec.1 (by rfl) (by exact Nat.le_of_ble_eq_true rfl) (m_thrown hG (by omega) k3 ?_)
      refine mx_iload (i := 5) (mx_d D_W_law_5 11 rfl) (by rfl) ?_
      refine mx_icmp_eqY 499 (mx_d D_W_law_5 12 rfl) (by decide) (by decide) (by decide) (by decide) (by decide) rfl ?_
      refine mx_iload (i := 5) (mx_d D_W_law_5 15 rfl) (by rfl) ?_
      refine mx_if_neY 516 (mx_d D_W_law_5 16 rfl) (by decide) (by decide) (by decide) (by decide) ?_
      refine mx_goto 1238 (mx_d D_W_law_5 26 rfl) (by decide) ?_
      exact mx_loc (by rfl) (next ce2 ⟨_, _, _, _, _, _, _, _, _, _, _, _, _, _, _, _, _, _, 1, _, hC.fr (fun k hk => k4 k (Or.inl hk)), k3, oL_fr hL (k4 63 (by omega))⟩)
    · exfalso
      omega
  · refine mx_istore (i := 5) (mx_d D_W_law_4 45 rfl) (by decide) ?_
    refine mx_aload_n (k4 := 2) (mx_d D_W_law_4 46 rfl) (by rfl) ?_
    refine mx_aload_n (k4 := 0) (mx_d D_W_law_4 47 rfl) (by rfl) ?_
    refine mx_iload (i := 4) (mx_d D_W_law_4 48 rfl) (by rfl) ?_
    refine mx_iconst (n := 1) (mx_d D_W_law_4 49 rfl) ?_
    refine mx_iaddI (mx_d D_W_law_5 0 rfl) ?_
    refine mx_sld hX hbB (i + 1) (mx_d D_W_law_5 1 rfl) (by rfl) (by omega) (by omega) ?_
    refine mx_aload_n (k4 := 0) (mx_d D_W_law_5 2 rfl) (by rfl) ?_
    refine mx_iload (i := 4) (mx_d D_W_law_5 3 rfl) (by rfl) ?_
    refine mx_iconst (n := 2) (mx_d D_W_law_5 4 rfl) ?_
    refine mx_iaddI (mx_d D_W_law_5 5 rfl) ?_
    refine mx_sld hX hbB (i + 2) (mx_d D_W_law_5 6 rfl) (by rfl) (by omega) (by omega) ?_
    refine mx_callV hG (Y' := Y_M_weight) (ci := 7) [_, _] (mx_d D_W_law_5 7 rfl) in_M_weight w_698 w_699 s_M_weight (by rfl) np_M_weight (by exact Nat.le_of_ble_eq_true rfl) (by rfl) (by first | assumption | omega) ((k2 50 (by omega) (by omega)).trans h50) (by rfl) (by exact Nat.le_of_ble_eq_true rfl) (m_weight hG (by omega) hV (hR.fr (fun k z1 z2 => k2 k z1 (by omega))) (i32_lo _) (i32_hi _) (i32_lo _) (i32_hi _) (fun ce2 g0 k3 k4 => ?_) (fun ce2 j9 m9 g0 g1 g2 g3 k3 k4 => ?_))
    · exfalso
      omega
    · obtain rfl : j9 = j := by omega
      obtain rfl : m9 = m := by omega
      refine mx_istore (i := 6) (mx_d D_W_law_5 8 rfl) (by decide) ?_
      refine mx_aload_n (k4 := 2) (mx_d D_W_law_5 9 rfl) (by rfl) ?_
      refine mx_callV hG (Y' := Y_M_thrown) (ci := 7) [] (mx_d D_W_law_5 10 rfl) in_M_thrown w_651 w_652 s_M_thrown (by rfl) np_M_thrown (by exact Nat.le_of_ble_eq_true rfl) (by rfl) (by first | assumption | omega) (id k3).choose_spec.1 (by rfl) (by exact Nat.le_of_ble_eq_true rfl) (m_thrown hG (by omega) k3 ?_)
      refine mx_iload (i := 5) (mx_d D_W_law_5 11 rfl) (by rfl) ?_
      refine mx_icmp_eqY 499 (mx_d D_W_law_5 12 rfl) (by decide) (by decide) (by decide) (by decide) (by decide) rfl ?_
      refine mx_iload (i := 5) (mx_d D_W_law_5 15 rfl) (by rfl) ?_
      refine mx_if_neN 516 (mx_d D_W_law_5 16 rfl) (by decide) (by decide) (by decide) (by decide) ?_
      obtain ⟨f9, l1, l2⟩ := oL_fr kL (k4 63 (by omega))
      refine mx_aload_n (k4 := 3) (mx_d D_W_law_5 17 rfl) (by rfl) ?_
      refine mx_iconst (n := 0) (mx_d D_W_law_5 18 rfl) ?_
      refine mx_lald hG 2 (0) (mx_d D_W_law_5 19 rfl) (by first | assumption | omega) l1 (by rfl) (by rfl) (by omega) (by omega) ?_
      rw [l2]
      refine mx_iload (i := 6) (mx_d D_W_law_5 20 rfl) (by rfl) ?_
      refine mx_i2l (mx_d D_W_law_5 21 rfl) ?_
      refine mx_lcmpE (mx_d D_W_law_5 22 rfl) ?_
      refine mx_if_eqY 516 (mx_d D_W_law_5 23 rfl) (by decide) (by decide) (by decide) (by decide) ?_
      refine mx_goto 1238 (mx_d D_W_law_5 26 rfl) (by decide) ?_
      exact mx_loc (by rfl) (next ce2 ⟨_, _, _, _, _, _, _, _, _, _, _, _, _, _, _, _, _, _, 0, _, k1.fr (fun k hk => k4 k (Or.inl hk)), k3, oL_fr kL (k4 63 (by omega))⟩)
theorem lz_total (hG : mx_ok G) (hK : mx_Nok G) (hX : va_X b L xs G.2.1 G.2.1.heap) (hbB : b < mx_B G) (hL2 : L ≤ 2562) (hi : i + 5 ≤ L) (hI : INV G ce) (next : ∀ ce', INV G ce' → mx_M G Y_W_law 10 bc bs false 64 ce' 1238 [(0, .ref b), (1, .ref (mx_B G + 0)), (2, .ref (mx_B G + 50)), (3, .ref (mx_B G + 63)), (4, .int (iI i))] [] Q) : mx_M G Y_W_law 10 (bc + 1) (bs + 6) false 64 ce 519 [(0, .ref b), (1, .ref (mx_B G + 0)), (2, .ref (mx_B G + 50)), (3, .ref (mx_B G + 63)), (4, .int (iI i))] [] Q := by
  obtain ⟨Y, U, nE, iE, nD, rA, rS, eA, eS, dA, dS, dW, lc, rn, rg, rN, ps, pN, th, v0, hC, hR, hL⟩ := hI
  have hV := hC.1
  have hC0 := hC.2.1
  obtain ⟨rw0, h50, hRA⟩ := id hR
  refine mx_aload_n (k4 := 1) (mx_d D_W_law_5 27 rfl) (by rfl) ?_
  refine mx_aload_n (k4 := 0) (mx_d D_W_law_5 28 rfl) (by rfl) ?_
  refine mx_iload (i := 4) (mx_d D_W_law_5 29 rfl) (by rfl) ?_
  refine mx_iconst (n := 1) (mx_d D_W_law_5 30 rfl) ?_
  refine mx_iaddI (mx_d D_W_law_5 31 rfl) ?_
  refine mx_sld hX hbB (i + 1) (mx_d D_W_law_5 32 rfl) (by rfl) (by omega) (by omega) ?_
  refine mx_aload_n (k4 := 3) (mx_d D_W_law_5 33 rfl) (by rfl) ?_
  refine mx_callS (Y' := Y_W_total) [_, _, _] (mx_d D_W_law_5 34 rfl) in_W_total w_433 w_434 np_W_total (by exact Nat.le_of_ble_eq_true rfl) (by rfl) (by rfl) (by exact Nat.le_of_ble_eq_true rfl) (w_total hG hK (by omega) hC hL (i32_lo _) (i32_hi _) (fun h0 => ?_) (fun ce1 j h0 h1 k1 kL k2 => ?_))
  · refine mx_istore (i := 5) (mx_d D_W_law_5 35 rfl) (by decide) ?_
    refine mx_aload_n (k4 := 2) (mx_d D_W_law_5 36 rfl) (by rfl) ?_
    refine mx_aload_n (k4 := 0) (mx_d D_W_law_5 37 rfl) (by rfl) ?_
    refine mx_iload (i := 4) (mx_d D_W_law_5 38 rfl) (by rfl) ?_
    refine mx_iconst (n := 1) (mx_d D_W_law_5 39 rfl) ?_
    refine mx_iaddI (mx_d D_W_law_5 40 rfl) ?_
    refine mx_sld hX hbB (i + 1) (mx_d D_W_law_5 41 rfl) (by rfl) (by omega) (by omega) ?_
    refine mx_callV hG (Y' := Y_M_total) (ci := 7) [_] (mx_d D_W_law_5 42 rfl) in_M_total w_706 w_707 s_M_total (by rfl) np_M_total (by exact Nat.le_of_ble_eq_true rfl) (by rfl) (by first | assumption | omega) (by first | assumption | exact va_up_self _ _ _ | (rw [va_up_ne _ _ (by omega)]; first | assumption | exact va_up_self _ _ _ | (rw [va_up_ne _ _ (by omega)]; first | assumption | exact va_up_self _ _ _ | (rw [va_up_ne _ _ (by omega)]; first | assumption | exact va_up_self _ _ _ | (rw [va_up_ne _ _ (by omega)]; first | assumption | exact va_up_self _ _ _ | (rw [va_up_ne _ _ (by omega)]; first | assumption | exact va_up_self _ _ _)))))) (by rfl) (by exact Nat.le_of_ble_eq_true rfl) (m_total hG (by omega) hV hR (i32_lo _) (i32_hi _) (fun ce2 g0 k3 k4 => ?_) (fun ce2 j9 g0 g1 k3 k4 => ?_))
    · refine mx_istore (i := 6) (mx_d D_W_law_5 43 rfl) (by decide) ?_
      refine mx_aload_n (k4 := 2) (mx_d D_W_law_5 44 rfl) (by rfl) ?_
      refine mx_callV hG (Y' := Y_M_thrown) (ci := 7) [] (mx_d D_W_law_5 45 rfl) in_M_thrown w_651 w_652 s_M_thrown (by rfl) np_M_thrown (by exact Nat.le_of_ble_eq_true rfl) (by rfl) (by first | assumption | omega) (id k3).choose_spec.1 (by rfl) (by exact Nat.le_of_ble_eq_true rfl) (m_thrown hG (by omega) k3 ?_)
      refine mx_iload (i := 5) (mx_d D_W_law_5 46 rfl) (by rfl) ?_
      refine mx_icmp_eqY 555 (mx_d D_W_law_5 47 rfl) (by decide) (by decide) (by decide) (by decide) (by decide) rfl ?_
      refine mx_iload (i := 5) (mx_d D_W_law_6 0 rfl) (by rfl) ?_
      refine mx_if_neY 572 (mx_d D_W_law_6 1 rfl) (by decide) (by decide) (by decide) (by decide) ?_
      refine mx_goto 1238 (mx_d D_W_law_6 11 rfl) (by decide) ?_
      exact mx_loc (by rfl) (next ce2 ⟨_, _, _, _, _, _, _, _, _, _, _, _, _, _, _, _, _, _, 1, _, hC.fr (fun k hk => k4 k (Or.inl hk)), k3, oL_fr hL (k4 63 (by omega))⟩)
    · exfalso
      omega
  · refine mx_istore (i := 5) (mx_d D_W_law_5 35 rfl) (by decide) ?_
    refine mx_aload_n (k4 := 2) (mx_d D_W_law_5 36 rfl) (by rfl) ?_
    refine mx_aload_n (k4 := 0) (mx_d D_W_law_5 37 rfl) (by rfl) ?_
    refine mx_iload (i := 4) (mx_d D_W_law_5 38 rfl) (by rfl) ?_
    refine mx_iconst (n := 1) (mx_d D_W_law_5 39 rfl) ?_
    refine mx_iaddI (mx_d D_W_law_5 40 rfl) ?_
    refine mx_sld hX hbB (i + 1) (mx_d D_W_law_5 41 rfl) (by rfl) (by omega) (by omega) ?_
    refine mx_callV hG (Y' := Y_M_total) (ci := 7) [_] (mx_d D_W_law_5 42 rfl) in_M_total w_706 w_707 s_M_total (by rfl) np_M_total (by exact Nat.le_of_ble_eq_true rfl) (by rfl) (by first | assumption | omega) ((k2 50 (by omega) (by omega)).trans h50) (by rfl) (by exact Nat.le_of_ble_eq_true rfl) (m_total hG (by omega) hV (hR.fr (fun k z1 z2 => k2 k z1 (by omega))) (i32_lo _) (i32_hi _) (fun ce2 g0 k3 k4 => ?_) (fun ce2 j9 g0 g1 k3 k4 => ?_))
    · exfalso
      omega
    · obtain rfl : j9 = j := by omega
      refine mx_istore (i := 6) (mx_d D_W_law_5 43 rfl) (by decide) ?_
      refine mx_aload_n (k4 := 2) (mx_d D_W_law_5 44 rfl) (by rfl) ?_
      refine mx_callV hG (Y' := Y_M_thrown) (ci := 7) [] (mx_d D_W_law_5 45 rfl) in_M_thrown w_651 w_652 s_M_thrown (by rfl) np_M_thrown (by exact Nat.le_of_ble_eq_true rfl) (by rfl) (by first | assumption | omega) (id k3).choose_spec.1 (by rfl) (by exact Nat.le_of_ble_eq_true rfl) (m_thrown hG (by omega) k3 ?_)
      refine mx_iload (i := 5) (mx_d D_W_law_5 46 rfl) (by rfl) ?_
      refine mx_icmp_eqY 555 (mx_d D_W_law_5 47 rfl) (by decide) (by decide) (by decide) (by decide) (by decide) rfl ?_
      refine mx_iload (i := 5) (mx_d D_W_law_6 0 rfl) (by rfl) ?_
      refine mx_if_neN 572 (mx_d D_W_law_6 1 rfl) (by decide) (by decide) (by decide) (by decide) ?_
      obtain ⟨f9, l1, l2⟩ := oL_fr kL (k4 63 (by omega))
      refine mx_aload_n (k4 := 3) (mx_d D_W_law_6 2 rfl) (by rfl) ?_
      refine mx_iconst (n := 0) (mx_d D_W_law_6 3 rfl) ?_
      refine mx_lald hG 2 (0) (mx_d D_W_law_6 4 rfl) (by first | assumption | omega) l1 (by rfl) (by rfl) (by omega) (by omega) ?_
      rw [l2]
      refine mx_iload (i := 6) (mx_d D_W_law_6 5 rfl) (by rfl) ?_
      refine mx_i2l (mx_d D_W_law_6 6 rfl) ?_
      refine mx_lcmpE (mx_d D_W_law_6 7 rfl) ?_
      refine mx_if_eqY 572 (mx_d D_W_law_6 8 rfl) (by decide) (by decide) (by decide) (by decide) ?_
      refine mx_goto 1238 (mx_d D_W_law_6 11 rfl) (by decide) ?_
      exact mx_loc (by rfl) (next ce2 ⟨_, _, _, _, _, _, _, _, _, _, _, _, _, _, _, _, _, _, 0, _, k1.fr (fun k hk => k4 k (Or.inl hk)), k3, oL_fr kL (k4 63 (by omega))⟩)
theorem lz_sum (hG : mx_ok G) (hK : mx_Nok G) (hX : va_X b L xs G.2.1 G.2.1.heap) (hbB : b < mx_B G) (hL2 : L ≤ 2562) (hi : i + 5 ≤ L) (hI : INV G ce) (next : ∀ ce', INV G ce' → mx_M G Y_W_law 10 bc bs false 64 ce' 1238 [(0, .ref b), (1, .ref (mx_B G + 0)), (2, .ref (mx_B G + 50)), (3, .ref (mx_B G + 63)), (4, .int (iI i))] [] Q) : mx_M G Y_W_law 10 (bc + 1) (bs + 6) false 64 ce 575 [(0, .ref b), (1, .ref (mx_B G + 0)), (2, .ref (mx_B G + 50)), (3, .ref (mx_B G + 63)), (4, .int (iI i))] [] Q := by
  obtain ⟨Y, U, nE, iE, nD, rA, rS, eA, eS, dA, dS, dW, lc, rn, rg, rN, ps, pN, th, v0, hC, hR, hL⟩ := hI
  have hV := hC.1
  have hC0 := hC.2.1
  obtain ⟨rw0, h50, hRA⟩ := id hR
  refine mx_aload_n (k4 := 1) (mx_d D_W_law_6 12 rfl) (by rfl) ?_
  refine mx_aload_n (k4 := 0) (mx_d D_W_law_6 13 rfl) (by rfl) ?_
  refine mx_iload (i := 4) (mx_d D_W_law_6 14 rfl) (by rfl) ?_
  refine mx_iconst (n := 1) (mx_d D_W_law_6 15 rfl) ?_
  refine mx_iaddI (mx_d D_W_law_6 16 rfl) ?_
  refine mx_sld hX hbB (i + 1) (mx_d D_W_law_6 17 rfl) (by rfl) (by omega) (by omega) ?_
  refine mx_aload_n (k4 := 0) (mx_d D_W_law_6 18 rfl) (by rfl) ?_
  refine mx_iload (i := 4) (mx_d D_W_law_6 19 rfl) (by rfl) ?_
  refine mx_iconst (n := 2) (mx_d D_W_law_6 20 rfl) ?_
  refine mx_iaddI (mx_d D_W_law_6 21 rfl) ?_
  refine mx_sld hX hbB (i + 2) (mx_d D_W_law_6 22 rfl) (by rfl) (by omega) (by omega) ?_
  refine mx_aload_n (k4 := 3) (mx_d D_W_law_6 23 rfl) (by rfl) ?_
  refine mx_callS (Y' := Y_W_sum) [_, _, _, _] (mx_d D_W_law_6 24 rfl) in_W_sum w_444 w_445 np_W_sum (by exact Nat.le_of_ble_eq_true rfl) (by rfl) (by rfl) (by exact Nat.le_of_ble_eq_true rfl) (w_sum hG hK (by omega) hC hL (i32_lo _) (i32_hi _) (i32_lo _) (i32_hi _) (fun h0 => ?_) (fun h0 h1 => ?_) (fun ce1 i0 j h0 h1 h2 h3 h4 h5 k1 kL k2 => ?_) (fun ce1 i0 j h h0 h1 h2 h3 h4 h5 h6 k1 kL k2 => ?_))
  · refine mx_istore (i := 5) (mx_d D_W_law_6 25 rfl) (by decide) ?_
    refine mx_aload_n (k4 := 2) (mx_d D_W_law_6 26 rfl) (by rfl) ?_
    refine mx_aload_n (k4 := 0) (mx_d D_W_law_6 27 rfl) (by rfl) ?_
    refine mx_iload (i := 4) (mx_d D_W_law_6 28 rfl) (by rfl) ?_
    refine mx_iconst (n := 1) (mx_d D_W_law_6 29 rfl) ?_
    refine mx_iaddI (mx_d D_W_law_6 30 rfl) ?_
    refine mx_sld hX hbB (i + 1) (mx_d D_W_law_6 31 rfl) (by rfl) (by omega) (by omega) ?_
    refine mx_aload_n (k4 := 0) (mx_d D_W_law_6 32 rfl) (by rfl) ?_
    refine mx_iload (i := 4) (mx_d D_W_law_6 33 rfl) (by rfl) ?_
    refine mx_iconst (n := 2) (mx_d D_W_law_6 34 rfl) ?_
    refine mx_iaddI (mx_d D_W_law_6 35 rfl) ?_
    refine mx_sld hX hbB (i + 2) (mx_d D_W_law_6 36 rfl) (by rfl) (by omega) (by omega) ?_
    refine mx_callV hG (Y' := Y_M_sum) (ci := 7) [_, _] (mx_d D_W_law_6 37 rfl) in_M_sum w_714 w_715 s_M_sum (by rfl) np_M_sum (by exact Nat.le_of_ble_eq_true rfl) (by rfl) (by first | assumption | omega) (by first | assumption | exact va_up_self _ _ _ | (rw [va_up_ne _ _ (by omega)]; first | assumption | exact va_up_self _ _ _ | (rw [va_up_ne _ _ (by omega)]; first | assumption | exact va_up_self _ _ _ | (rw [va_up_ne _ _ (by omega)]; first | assumption | exact va_up_self _ _ _ | (rw [va_up_ne _ _ (by omega)]; first | assumption | exact va_up_self _ _ _ | (rw [va_up_ne _ _ (by omega)]; first | assumption | exact va_up_self _ _ _)))))) (by rfl) (by exact Nat.le_of_ble_eq_true rfl) (m_sum hG (by omega) hV hR (i32_lo _) (i32_hi _) (i32_lo _) (i32_hi _) (fun ce2 g0 k3 k4 => ?_) (fun ce2 g0 g1 k3 k4 => ?_) (fun ce2 i9 j9 g0 g1 g2 g3 g4 g5 k3 k4 => ?_) (fun ce2 i9 j9 g0 g1 g2 g3 g4 g5 k3 k4 => ?_))
    · refine mx_istore (i := 6) (mx_d D_W_law_6 38 rfl) (by decide) ?_
      refine mx_aload_n (k4 := 2) (mx_d D_W_law_6 39 rfl) (by rfl) ?_
      refine mx_callV hG (Y' := Y_M_thrown) (ci := 7) [] (mx_d D_W_law_6 40 rfl) in_M_thrown w_651 w_652 s_M_thrown (by rfl) np_M_thrown (by exact Nat.le_of_ble_eq_true rfl) (by rfl) (by first | assumption | omega) (id k3).choose_spec.1 (by rfl) (by exact Nat.le_of_ble_eq_true rfl) (m_thrown hG (by omega) k3 ?_)
      refine mx_iload (i := 5) (mx_d D_W_law_6 41 rfl) (by rfl) ?_
      refine mx_icmp_eqY 623 (mx_d D_W_law_6 42 rfl) (by decide) (by decide) (by decide) (by decide) (by decide) rfl ?_
      refine mx_iload (i := 5) (mx_d D_W_law_6 45 rfl) (by rfl) ?_
      refine mx_if_neY 640 (mx_d D_W_law_6 46 rfl) (by decide) (by decide) (by decide) (by decide) ?_
      refine mx_goto 1238 (mx_d D_W_law_7 6 rfl) (by decide) ?_
      exact mx_loc (by rfl) (next ce2 ⟨_, _, _, _, _, _, _, _, _, _, _, _, _, _, _, _, _, _, 1, _, hC.fr (fun k hk => k4 k (Or.inl hk)), k3, oL_fr hL (k4 63 (by omega))⟩)
    · exfalso
      omega
    · exfalso
      omega
    · exfalso
      omega
  · refine mx_istore (i := 5) (mx_d D_W_law_6 25 rfl) (by decide) ?_
    refine mx_aload_n (k4 := 2) (mx_d D_W_law_6 26 rfl) (by rfl) ?_
    refine mx_aload_n (k4 := 0) (mx_d D_W_law_6 27 rfl) (by rfl) ?_
    refine mx_iload (i := 4) (mx_d D_W_law_6 28 rfl) (by rfl) ?_
    refine mx_iconst (n := 1) (mx_d D_W_law_6 29 rfl) ?_
    refine mx_iaddI (mx_d D_W_law_6 30 rfl) ?_
    refine mx_sld hX hbB (i + 1) (mx_d D_W_law_6 31 rfl) (by rfl) (by omega) (by omega) ?_
    refine mx_aload_n (k4 := 0) (mx_d D_W_law_6 32 rfl) (by rfl) ?_
    refine mx_iload (i := 4) (mx_d D_W_law_6 33 rfl) (by rfl) ?_
    refine mx_iconst (n := 2) (mx_d D_W_law_6 34 rfl) ?_
    refine mx_iaddI (mx_d D_W_law_6 35 rfl) ?_
    refine mx_sld hX hbB (i + 2) (mx_d D_W_law_6 36 rfl) (by rfl) (by omega) (by omega) ?_
    refine mx_callV hG (Y' := Y_M_sum) (ci := 7) [_, _] (mx_d D_W_law_6 37 rfl) in_M_sum w_714 w_715 s_M_sum (by rfl) np_M_sum (by exact Nat.le_of_ble_eq_true rfl) (by rfl) (by first | assumption | omega) (by first | assumption | exact va_up_self _ _ _ | (rw [va_up_ne _ _ (by omega)]; first | assumption | exact va_up_self _ _ _ | (rw [va_up_ne _ _ (by omega)]; first | assumption | exact va_up_self _ _ _ | (rw [va_up_ne _ _ (by omega)]; first | assumption | exact va_up_self _ _ _ | (rw [va_up_ne _ _ (by omega)]; first | assumption | exact va_up_self _ _ _ | (rw [va_up_ne _ _ (by omega)]; first | assumption | exact va_up_self _ _ _)))))) (by rfl) (by exact Nat.le_of_ble_eq_true rfl) (m_sum hG (by omega) hV hR (i32_lo _) (i32_hi _) (i32_lo _) (i32_hi _) (fun ce2 g0 k3 k4 => ?_) (fun ce2 g0 g1 k3 k4 => ?_) (fun ce2 i9 j9 g0 g1 g2 g3 g4 g5 k3 k4 => ?_) (fun ce2 i9 j9 g0 g1 g2 g3 g4 g5 k3 k4 => ?_))
    · exfalso
      omega
    · refine mx_istore (i := 6) (mx_d D_W_law_6 38 rfl) (by decide) ?_
      refine mx_aload_n (k4 := 2) (mx_d D_W_law_6 39 rfl) (by rfl) ?_
      refine mx_callV hG (Y' := Y_M_thrown) (ci := 7) [] (mx_d D_W_law_6 40 rfl) in_M_thrown w_651 w_652 s_M_thrown (by rfl) np_M_thrown (by exact Nat.le_of_ble_eq_true rfl) (by rfl) (by first | assumption | omega) (id k3).choose_spec.1 (by rfl) (by exact Nat.le_of_ble_eq_true rfl) (m_thrown hG (by omega) k3 ?_)
      refine mx_iload (i := 5) (mx_d D_W_law_6 41 rfl) (by rfl) ?_
      refine mx_icmp_eqY 623 (mx_d D_W_law_6 42 rfl) (by decide) (by decide) (by decide) (by decide) (by decide) rfl ?_
      refine mx_iload (i := 5) (mx_d D_W_law_6 45 rfl) (by rfl) ?_
      refine mx_if_neY 640 (mx_d D_W_law_6 46 rfl) (by decide) (by decide) (by decide) (by decide) ?_
      refine mx_goto 1238 (mx_d D_W_law_7 6 rfl) (by decide) ?_
      exact mx_loc (by rfl) (next ce2 ⟨_, _, _, _, _, _, _, _, _, _, _, _, _, _, _, _, _, _, 2, _, hC.fr (fun k hk => k4 k (Or.inl hk)), k3, oL_fr hL (k4 63 (by omega))⟩)
    · exfalso
      omega
    · exfalso
      omega
  · refine mx_istore (i := 5) (mx_d D_W_law_6 25 rfl) (by decide) ?_
    refine mx_aload_n (k4 := 2) (mx_d D_W_law_6 26 rfl) (by rfl) ?_
    refine mx_aload_n (k4 := 0) (mx_d D_W_law_6 27 rfl) (by rfl) ?_
    refine mx_iload (i := 4) (mx_d D_W_law_6 28 rfl) (by rfl) ?_
    refine mx_iconst (n := 1) (mx_d D_W_law_6 29 rfl) ?_
    refine mx_iaddI (mx_d D_W_law_6 30 rfl) ?_
    refine mx_sld hX hbB (i + 1) (mx_d D_W_law_6 31 rfl) (by rfl) (by omega) (by omega) ?_
    refine mx_aload_n (k4 := 0) (mx_d D_W_law_6 32 rfl) (by rfl) ?_
    refine mx_iload (i := 4) (mx_d D_W_law_6 33 rfl) (by rfl) ?_
    refine mx_iconst (n := 2) (mx_d D_W_law_6 34 rfl) ?_
    refine mx_iaddI (mx_d D_W_law_6 35 rfl) ?_
    refine mx_sld hX hbB (i + 2) (mx_d D_W_law_6 36 rfl) (by rfl) (by omega) (by omega) ?_
    refine mx_callV hG (Y' := Y_M_sum) (ci := 7) [_, _] (mx_d D_W_law_6 37 rfl) in_M_sum w_714 w_715 s_M_sum (by rfl) np_M_sum (by exact Nat.le_of_ble_eq_true rfl) (by rfl) (by first | assumption | omega) ((k2 50 (by omega) (by omega)).trans h50) (by rfl) (by exact Nat.le_of_ble_eq_true rfl) (m_sum hG (by omega) hV (hR.fr (fun k z1 z2 => k2 k z1 (by omega))) (i32_lo _) (i32_hi _) (i32_lo _) (i32_hi _) (fun ce2 g0 k3 k4 => ?_) (fun ce2 g0 g1 k3 k4 => ?_) (fun ce2 i9 j9 g0 g1 g2 g3 g4 g5 k3 k4 => ?_) (fun ce2 i9 j9 g0 g1 g2 g3 g4 g5 k3 k4 => ?_))
    · exfalso
      omega
    · exfalso
      omega
    · obtain rfl : i9 = i0 := by omega
      obtain rfl : j9 = j := by omega
      refine mx_istore (i := 6) (mx_d D_W_law_6 38 rfl) (by decide) ?_
      refine mx_aload_n (k4 := 2) (mx_d D_W_law_6 39 rfl) (by rfl) ?_
      refine mx_callV hG (Y' := Y_M_thrown) (ci := 7) [] (mx_d D_W_law_6 40 rfl) in_M_thrown w_651 w_652 s_M_thrown (by rfl) np_M_thrown (by exact Nat.le_of_ble_eq_true rfl) (by rfl) (by first | assumption | omega) (id k3).choose_spec.1 (by rfl) (by exact Nat.le_of_ble_eq_true rfl) (m_thrown hG (by omega) k3 ?_)
      refine mx_iload (i := 5) (mx_d D_W_law_6 41 rfl) (by rfl) ?_
      refine mx_icmp_eqY 623 (mx_d D_W_law_6 42 rfl) (by decide) (by decide) (by decide) (by decide) (by decide) rfl ?_
      refine mx_iload (i := 5) (mx_d D_W_law_6 45 rfl) (by rfl) ?_
      refine mx_if_neN 640 (mx_d D_W_law_6 46 rfl) (by decide) (by decide) (by decide) (by decide) ?_
      obtain ⟨f9, l1, l2⟩ := oL_fr kL (k4 63 (by omega))
      refine mx_aload_n (k4 := 3) (mx_d D_W_law_6 47 rfl) (by rfl) ?_
      refine mx_iconst (n := 0) (mx_d D_W_law_6 48 rfl) ?_
      refine mx_lald hG 2 (0) (mx_d D_W_law_6 49 rfl) (by first | assumption | omega) l1 (by rfl) (by rfl) (by omega) (by omega) ?_
      rw [l2]
      refine mx_iload (i := 6) (mx_d D_W_law_7 0 rfl) (by rfl) ?_
      refine mx_i2l (mx_d D_W_law_7 1 rfl) ?_
      refine mx_lcmpE (mx_d D_W_law_7 2 rfl) ?_
      refine mx_if_eqY 640 (mx_d D_W_law_7 3 rfl) (by decide) (by decide) (by decide) (by decide) ?_
      refine mx_goto 1238 (mx_d D_W_law_7 6 rfl) (by decide) ?_
      exact mx_loc (by rfl) (next ce2 ⟨_, _, _, _, _, _, _, _, _, _, _, _, _, _, _, _, _, _, 0, _, k1.fr (fun k hk => k4 k (Or.inl hk)), k3, oL_fr kL (k4 63 (by omega))⟩)
    · exfalso
      obtain rfl : i9 = i0 := by omega
      obtain rfl : j9 = j := by omega
      first | exact h5 g5 | exact g5 h5
  · refine mx_istore (i := 5) (mx_d D_W_law_6 25 rfl) (by decide) ?_
    refine mx_aload_n (k4 := 2) (mx_d D_W_law_6 26 rfl) (by rfl) ?_
    refine mx_aload_n (k4 := 0) (mx_d D_W_law_6 27 rfl) (by rfl) ?_
    refine mx_iload (i := 4) (mx_d D_W_law_6 28 rfl) (by rfl) ?_
    refine mx_iconst (n := 1) (mx_d D_W_law_6 29 rfl) ?_
    refine mx_iaddI (mx_d D_W_law_6 30 rfl) ?_
    refine mx_sld hX hbB (i + 1) (mx_d D_W_law_6 31 rfl) (by rfl) (by omega) (by omega) ?_
    refine mx_aload_n (k4 := 0) (mx_d D_W_law_6 32 rfl) (by rfl) ?_
    refine mx_iload (i := 4) (mx_d D_W_law_6 33 rfl) (by rfl) ?_
    refine mx_iconst (n := 2) (mx_d D_W_law_6 34 rfl) ?_
    refine mx_iaddI (mx_d D_W_law_6 35 rfl) ?_
    refine mx_sld hX hbB (i + 2) (mx_d D_W_law_6 36 rfl) (by rfl) (by omega) (by omega) ?_
    refine mx_callV hG (Y' := Y_M_sum) (ci := 7) [_, _] (mx_d D_W_law_6 37 rfl) in_M_sum w_714 w_715 s_M_sum (by rfl) np_M_sum (by exact Nat.le_of_ble_eq_true rfl) (by rfl) (by first | assumption | omega) ((k2 50 (by omega) (by omega)).trans h50) (by rfl) (by exact Nat.le_of_ble_eq_true rfl) (m_sum hG (by omega) hV (hR.fr (fun k z1 z2 => k2 k z1 (by omega))) (i32_lo _) (i32_hi _) (i32_lo _) (i32_hi _) (fun ce2 g0 k3 k4 => ?_) (fun ce2 g0 g1 k3 k4 => ?_) (fun ce2 i9 j9 g0 g1 g2 g3 g4 g5 k3 k4 => ?_) (fun ce2 i9 j9 g0 g1 g2 g3 g4 g5 k3 k4 => ?_))
    · exfalso
      omega
    · exfalso
      omega
    · exfalso
      obtain rfl : i9 = i0 := by omega
      obtain rfl : j9 = j := by omega
      first | exact h5 g5 | exact g5 h5
    · obtain rfl : i9 = i0 := by omega
      obtain rfl : j9 = j := by omega
      refine mx_istore (i := 6) (mx_d D_W_law_6 38 rfl) (by decide) ?_
      refine mx_aload_n (k4 := 2) (mx_d D_W_law_6 39 rfl) (by rfl) ?_
      refine mx_callV hG (Y' := Y_M_thrown) (ci := 7) [] (mx_d D_W_law_6 40 rfl) in_M_thrown w_651 w_652 s_M_thrown (by rfl) np_M_thrown (by exact Nat.le_of_ble_eq_true rfl) (by rfl) (by first | assumption | omega) (id (k3 h h6)).choose_spec.1 (by rfl) (by exact Nat.le_of_ble_eq_true rfl) (m_thrown hG (by omega) (k3 h h6) ?_)
      refine mx_iload (i := 5) (mx_d D_W_law_6 41 rfl) (by rfl) ?_
      refine mx_icmp_eqY 623 (mx_d D_W_law_6 42 rfl) (by decide) (by decide) (by decide) (by decide) (by decide) rfl ?_
      refine mx_iload (i := 5) (mx_d D_W_law_6 45 rfl) (by rfl) ?_
      refine mx_if_neN 640 (mx_d D_W_law_6 46 rfl) (by decide) (by decide) (by decide) (by decide) ?_
      obtain ⟨f9, l1, l2⟩ := oL_fr kL (k4 63 (by omega))
      refine mx_aload_n (k4 := 3) (mx_d D_W_law_6 47 rfl) (by rfl) ?_
      refine mx_iconst (n := 0) (mx_d D_W_law_6 48 rfl) ?_
      refine mx_lald hG 2 (0) (mx_d D_W_law_6 49 rfl) (by first | assumption | omega) l1 (by rfl) (by rfl) (by omega) (by omega) ?_
      rw [l2]
      refine mx_iload (i := 6) (mx_d D_W_law_7 0 rfl) (by rfl) ?_
      refine mx_i2l (mx_d D_W_law_7 1 rfl) ?_
      refine mx_lcmpE (mx_d D_W_law_7 2 rfl) ?_
      refine mx_if_eqY 640 (mx_d D_W_law_7 3 rfl) (by decide) (by decide) (by decide) (by decide) ?_
      refine mx_goto 1238 (mx_d D_W_law_7 6 rfl) (by decide) ?_
      exact mx_loc (by rfl) (next ce2 ⟨_, _, _, _, _, _, _, _, _, _, _, _, _, _, _, _, _, _, 0, _, k1.fr (fun k hk => k4 k (Or.inl hk)), (k3 h h6), oL_fr kL (k4 63 (by omega))⟩)
theorem lz_mix (hG : mx_ok G) (hK : mx_Nok G) (hX : va_X b L xs G.2.1 G.2.1.heap) (hbB : b < mx_B G) (hL2 : L ≤ 2562) (hi : i + 5 ≤ L) (hI : INV G ce) (next : ∀ ce', INV G ce' → mx_M G Y_W_law 10 bc bs false 64 ce' 1238 [(0, .ref b), (1, .ref (mx_B G + 0)), (2, .ref (mx_B G + 50)), (3, .ref (mx_B G + 63)), (4, .int (iI i))] [] Q) : mx_M G Y_W_law 10 (bc + 1) (bs + 6) false 64 ce 643 [(0, .ref b), (1, .ref (mx_B G + 0)), (2, .ref (mx_B G + 50)), (3, .ref (mx_B G + 63)), (4, .int (iI i))] [] Q := by
  obtain ⟨Y, U, nE, iE, nD, rA, rS, eA, eS, dA, dS, dW, lc, rn, rg, rN, ps, pN, th, v0, hC, hR, hL⟩ := hI
  have hV := hC.1
  have hC0 := hC.2.1
  obtain ⟨rw0, h50, hRA⟩ := id hR
  refine mx_aload_n (k4 := 1) (mx_d D_W_law_7 7 rfl) (by rfl) ?_
  refine mx_aload_n (k4 := 0) (mx_d D_W_law_7 8 rfl) (by rfl) ?_
  refine mx_iload (i := 4) (mx_d D_W_law_7 9 rfl) (by rfl) ?_
  refine mx_iconst (n := 1) (mx_d D_W_law_7 10 rfl) ?_
  refine mx_iaddI (mx_d D_W_law_7 11 rfl) ?_
  refine mx_sld hX hbB (i + 1) (mx_d D_W_law_7 12 rfl) (by rfl) (by omega) (by omega) ?_
  refine mx_aload_n (k4 := 0) (mx_d D_W_law_7 13 rfl) (by rfl) ?_
  refine mx_iload (i := 4) (mx_d D_W_law_7 14 rfl) (by rfl) ?_
  refine mx_iconst (n := 2) (mx_d D_W_law_7 15 rfl) ?_
  refine mx_iaddI (mx_d D_W_law_7 16 rfl) ?_
  refine mx_sld hX hbB (i + 2) (mx_d D_W_law_7 17 rfl) (by rfl) (by omega) (by omega) ?_
  refine mx_aload_n (k4 := 0) (mx_d D_W_law_7 18 rfl) (by rfl) ?_
  refine mx_iload (i := 4) (mx_d D_W_law_7 19 rfl) (by rfl) ?_
  refine mx_iconst (n := 3) (mx_d D_W_law_7 20 rfl) ?_
  refine mx_iaddI (mx_d D_W_law_7 21 rfl) ?_
  refine mx_sld hX hbB (i + 3) (mx_d D_W_law_7 22 rfl) (by rfl) (by omega) (by omega) ?_
  refine mx_aload_n (k4 := 0) (mx_d D_W_law_7 23 rfl) (by rfl) ?_
  refine mx_iload (i := 4) (mx_d D_W_law_7 24 rfl) (by rfl) ?_
  refine mx_iconst (n := 4) (mx_d D_W_law_7 25 rfl) ?_
  refine mx_iaddI (mx_d D_W_law_7 26 rfl) ?_
  refine mx_sld hX hbB (i + 4) (mx_d D_W_law_7 27 rfl) (by rfl) (by omega) (by omega) ?_
  refine mx_aload_n (k4 := 3) (mx_d D_W_law_7 28 rfl) (by rfl) ?_
  refine mx_callS (Y' := Y_W_mix) [_, _, _, _, _, _] (mx_d D_W_law_7 29 rfl) in_W_mix w_461 w_462 np_W_mix (by exact Nat.le_of_ble_eq_true rfl) (by rfl) (by rfl) (by exact Nat.le_of_ble_eq_true rfl) (w_mix hG hK (by omega) hC hL (i32_lo _) (i32_hi _) (i32_lo _) (i32_hi _) (i32_lo _) (i32_hi _) (i32_lo _) (i32_hi _) (fun h0 => ?_) (fun h0 h1 => ?_) (fun h0 h1 h2 => ?_) (fun ce1 i0 j h h0 h1 h2 h3 h4 h5 h6 k1 kL k2 => ?_))
  · refine mx_istore (i := 5) (mx_d D_W_law_7 30 rfl) (by decide) ?_
    refine mx_aload_n (k4 := 2) (mx_d D_W_law_7 31 rfl) (by rfl) ?_
    refine mx_aload_n (k4 := 0) (mx_d D_W_law_7 32 rfl) (by rfl) ?_
    refine mx_iload (i := 4) (mx_d D_W_law_7 33 rfl) (by rfl) ?_
    refine mx_iconst (n := 1) (mx_d D_W_law_7 34 rfl) ?_
    refine mx_iaddI (mx_d D_W_law_7 35 rfl) ?_
    refine mx_sld hX hbB (i + 1) (mx_d D_W_law_7 36 rfl) (by rfl) (by omega) (by omega) ?_
    refine mx_aload_n (k4 := 0) (mx_d D_W_law_7 37 rfl) (by rfl) ?_
    refine mx_iload (i := 4) (mx_d D_W_law_7 38 rfl) (by rfl) ?_
    refine mx_iconst (n := 2) (mx_d D_W_law_7 39 rfl) ?_
    refine mx_iaddI (mx_d D_W_law_7 40 rfl) ?_
    refine mx_sld hX hbB (i + 2) (mx_d D_W_law_7 41 rfl) (by rfl) (by omega) (by omega) ?_
    refine mx_aload_n (k4 := 0) (mx_d D_W_law_7 42 rfl) (by rfl) ?_
    refine mx_iload (i := 4) (mx_d D_W_law_7 43 rfl) (by rfl) ?_
    refine mx_iconst (n := 3) (mx_d D_W_law_7 44 rfl) ?_
    refine mx_iaddI (mx_d D_W_law_7 45 rfl) ?_
    refine mx_sld hX hbB (i + 3) (mx_d D_W_law_7 46 rfl) (by rfl) (by omega) (by omega) ?_
    refine mx_aload_n (k4 := 0) (mx_d D_W_law_7 47 rfl) (by rfl) ?_
    refine mx_iload (i := 4) (mx_d D_W_law_7 48 rfl) (by rfl) ?_
    refine mx_iconst (n := 4) (mx_d D_W_law_7 49 rfl) ?_
    refine mx_iaddI (mx_d D_W_law_8 0 rfl) ?_
    refine mx_sld hX hbB (i + 4) (mx_d D_W_law_8 1 rfl) (by rfl) (by omega) (by omega) ?_
    refine mx_callV hG (Y' := Y_M_mix) (ci := 7) [_, _, _, _] (mx_d D_W_law_8 2 rfl) in_M_mix w_719 w_720 s_M_mix (by rfl) np_M_mix (by exact Nat.le_of_ble_eq_true rfl) (by rfl) (by first | assumption | omega) (by first | assumption | exact va_up_self _ _ _ | (rw [va_up_ne _ _ (by omega)]; first | assumption | exact va_up_self _ _ _ | (rw [va_up_ne _ _ (by omega)]; first | assumption | exact va_up_self _ _ _ | (rw [va_up_ne _ _ (by omega)]; first | assumption | exact va_up_self _ _ _ | (rw [va_up_ne _ _ (by omega)]; first | assumption | exact va_up_self _ _ _ | (rw [va_up_ne _ _ (by omega)]; first | assumption | exact va_up_self _ _ _)))))) (by rfl) (by exact Nat.le_of_ble_eq_true rfl) (m_mix hG (by omega) hV hR (i32_lo _) (i32_hi _) (i32_lo _) (i32_hi _) (i32_lo _) (i32_hi _) (i32_lo _) (i32_hi _) (fun ce2 g0 k3 k4 => ?_) (fun ce2 g0 g1 k3 k4 => ?_) (fun ce2 g0 g1 g2 k3 k4 => ?_) (fun ce2 i9 j9 g0 g1 g2 g3 g4 g5 k3 k4 => ?_))
    · refine mx_istore (i := 6) (mx_d D_W_law_8 3 rfl) (by decide) ?_
      refine mx_aload_n (k4 := 2) (mx_d D_W_law_8 4 rfl) (by rfl) ?_
      refine mx_callV hG (Y' := Y_M_thrown) (ci := 7) [] (mx_d D_W_law_8 5 rfl) in_M_thrown w_651 w_652 s_M_thrown (by rfl) np_M_thrown (by exact Nat.le_of_ble_eq_true rfl) (by rfl) (by first | assumption | omega) (id k3).choose_spec.1 (by rfl) (by exact Nat.le_of_ble_eq_true rfl) (m_thrown hG (by omega) k3 ?_)
      refine mx_iload (i := 5) (mx_d D_W_law_8 6 rfl) (by rfl) ?_
      refine mx_icmp_eqY 715 (mx_d D_W_law_8 7 rfl) (by decide) (by decide) (by decide) (by decide) (by decide) rfl ?_
      refine mx_iload (i := 5) (mx_d D_W_law_8 10 rfl) (by rfl) ?_
      refine mx_if_neY 732 (mx_d D_W_law_8 11 rfl) (by decide) (by decide) (by decide) (by decide) ?_
      refine mx_goto 1238 (mx_d D_W_law_8 21 rfl) (by decide) ?_
      exact mx_loc (by rfl) (next ce2 ⟨_, _, _, _, _, _, _, _, _, _, _, _, _, _, _, _, _, _, 1, _, hC.fr (fun k hk => k4 k (Or.inl hk)), k3, oL_fr hL (k4 63 (by omega))⟩)
    · exfalso
      omega
    · exfalso
      omega
    · exfalso
      omega
  · refine mx_istore (i := 5) (mx_d D_W_law_7 30 rfl) (by decide) ?_
    refine mx_aload_n (k4 := 2) (mx_d D_W_law_7 31 rfl) (by rfl) ?_
    refine mx_aload_n (k4 := 0) (mx_d D_W_law_7 32 rfl) (by rfl) ?_
    refine mx_iload (i := 4) (mx_d D_W_law_7 33 rfl) (by rfl) ?_
    refine mx_iconst (n := 1) (mx_d D_W_law_7 34 rfl) ?_
    refine mx_iaddI (mx_d D_W_law_7 35 rfl) ?_
    refine mx_sld hX hbB (i + 1) (mx_d D_W_law_7 36 rfl) (by rfl) (by omega) (by omega) ?_
    refine mx_aload_n (k4 := 0) (mx_d D_W_law_7 37 rfl) (by rfl) ?_
    refine mx_iload (i := 4) (mx_d D_W_law_7 38 rfl) (by rfl) ?_
    refine mx_iconst (n := 2) (mx_d D_W_law_7 39 rfl) ?_
    refine mx_iaddI (mx_d D_W_law_7 40 rfl) ?_
    refine mx_sld hX hbB (i + 2) (mx_d D_W_law_7 41 rfl) (by rfl) (by omega) (by omega) ?_
    refine mx_aload_n (k4 := 0) (mx_d D_W_law_7 42 rfl) (by rfl) ?_
    refine mx_iload (i := 4) (mx_d D_W_law_7 43 rfl) (by rfl) ?_
    refine mx_iconst (n := 3) (mx_d D_W_law_7 44 rfl) ?_
    refine mx_iaddI (mx_d D_W_law_7 45 rfl) ?_
    refine mx_sld hX hbB (i + 3) (mx_d D_W_law_7 46 rfl) (by rfl) (by omega) (by omega) ?_
    refine mx_aload_n (k4 := 0) (mx_d D_W_law_7 47 rfl) (by rfl) ?_
    refine mx_iload (i := 4) (mx_d D_W_law_7 48 rfl) (by rfl) ?_
    refine mx_iconst (n := 4) (mx_d D_W_law_7 49 rfl) ?_
    refine mx_iaddI (mx_d D_W_law_8 0 rfl) ?_
    refine mx_sld hX hbB (i + 4) (mx_d D_W_law_8 1 rfl) (by rfl) (by omega) (by omega) ?_
    refine mx_callV hG (Y' := Y_M_mix) (ci := 7) [_, _, _, _] (mx_d D_W_law_8 2 rfl) in_M_mix w_719 w_720 s_M_mix (by rfl) np_M_mix (by exact Nat.le_of_ble_eq_true rfl) (by rfl) (by first | assumption | omega) (by first | assumption | exact va_up_self _ _ _ | (rw [va_up_ne _ _ (by omega)]; first | assumption | exact va_up_self _ _ _ | (rw [va_up_ne _ _ (by omega)]; first | assumption | exact va_up_self _ _ _ | (rw [va_up_ne _ _ (by omega)]; first | assumption | exact va_up_self _ _ _ | (rw [va_up_ne _ _ (by omega)]; first | assumption | exact va_up_self _ _ _ | (rw [va_up_ne _ _ (by omega)]; first | assumption | exact va_up_self _ _ _)))))) (by rfl) (by exact Nat.le_of_ble_eq_true rfl) (m_mix hG (by omega) hV hR (i32_lo _) (i32_hi _) (i32_lo _) (i32_hi _) (i32_lo _) (i32_hi _) (i32_lo _) (i32_hi _) (fun ce2 g0 k3 k4 => ?_) (fun ce2 g0 g1 k3 k4 => ?_) (fun ce2 g0 g1 g2 k3 k4 => ?_) (fun ce2 i9 j9 g0 g1 g2 g3 g4 g5 k3 k4 => ?_))
    · exfalso
      omega
    · refine mx_istore (i := 6) (mx_d D_W_law_8 3 rfl) (by decide) ?_
      refine mx_aload_n (k4 := 2) (mx_d D_W_law_8 4 rfl) (by rfl) ?_
      refine mx_callV hG (Y' := Y_M_thrown) (ci := 7) [] (mx_d D_W_law_8 5 rfl) in_M_thrown w_651 w_652 s_M_thrown (by rfl) np_M_thrown (by exact Nat.le_of_ble_eq_true rfl) (by rfl) (by first | assumption | omega) (id k3).choose_spec.1 (by rfl) (by exact Nat.le_of_ble_eq_true rfl) (m_thrown hG (by omega) k3 ?_)
      refine mx_iload (i := 5) (mx_d D_W_law_8 6 rfl) (by rfl) ?_
      refine mx_icmp_eqY 715 (mx_d D_W_law_8 7 rfl) (by decide) (by decide) (by decide) (by decide) (by decide) rfl ?_
      refine mx_iload (i := 5) (mx_d D_W_law_8 10 rfl) (by rfl) ?_
      refine mx_if_neY 732 (mx_d D_W_law_8 11 rfl) (by decide) (by decide) (by decide) (by decide) ?_
      refine mx_goto 1238 (mx_d D_W_law_8 21 rfl) (by decide) ?_
      exact mx_loc (by rfl) (next ce2 ⟨_, _, _, _, _, _, _, _, _, _, _, _, _, _, _, _, _, _, 2, _, hC.fr (fun k hk => k4 k (Or.inl hk)), k3, oL_fr hL (k4 63 (by omega))⟩)
    · exfalso
      omega
    · exfalso
      omega
  · refine mx_istore (i := 5) (mx_d D_W_law_7 30 rfl) (by decide) ?_
    refine mx_aload_n (k4 := 2) (mx_d D_W_law_7 31 rfl) (by rfl) ?_
    refine mx_aload_n (k4 := 0) (mx_d D_W_law_7 32 rfl) (by rfl) ?_
    refine mx_iload (i := 4) (mx_d D_W_law_7 33 rfl) (by rfl) ?_
    refine mx_iconst (n := 1) (mx_d D_W_law_7 34 rfl) ?_
    refine mx_iaddI (mx_d D_W_law_7 35 rfl) ?_
    refine mx_sld hX hbB (i + 1) (mx_d D_W_law_7 36 rfl) (by rfl) (by omega) (by omega) ?_
    refine mx_aload_n (k4 := 0) (mx_d D_W_law_7 37 rfl) (by rfl) ?_
    refine mx_iload (i := 4) (mx_d D_W_law_7 38 rfl) (by rfl) ?_
    refine mx_iconst (n := 2) (mx_d D_W_law_7 39 rfl) ?_
    refine mx_iaddI (mx_d D_W_law_7 40 rfl) ?_
    refine mx_sld hX hbB (i + 2) (mx_d D_W_law_7 41 rfl) (by rfl) (by omega) (by omega) ?_
    refine mx_aload_n (k4 := 0) (mx_d D_W_law_7 42 rfl) (by rfl) ?_
    refine mx_iload (i := 4) (mx_d D_W_law_7 43 rfl) (by rfl) ?_
    refine mx_iconst (n := 3) (mx_d D_W_law_7 44 rfl) ?_
    refine mx_iaddI (mx_d D_W_law_7 45 rfl) ?_
    refine mx_sld hX hbB (i + 3) (mx_d D_W_law_7 46 rfl) (by rfl) (by omega) (by omega) ?_
    refine mx_aload_n (k4 := 0) (mx_d D_W_law_7 47 rfl) (by rfl) ?_
    refine mx_iload (i := 4) (mx_d D_W_law_7 48 rfl) (by rfl) ?_
    refine mx_iconst (n := 4) (mx_d D_W_law_7 49 rfl) ?_
    refine mx_iaddI (mx_d D_W_law_8 0 rfl) ?_
    refine mx_sld hX hbB (i + 4) (mx_d D_W_law_8 1 rfl) (by rfl) (by omega) (by omega) ?_
    refine mx_callV hG (Y' := Y_M_mix) (ci := 7) [_, _, _, _] (mx_d D_W_law_8 2 rfl) in_M_mix w_719 w_720 s_M_mix (by rfl) np_M_mix (by exact Nat.le_of_ble_eq_true rfl) (by rfl) (by first | assumption | omega) (by first | assumption | exact va_up_self _ _ _ | (rw [va_up_ne _ _ (by omega)]; first | assumption | exact va_up_self _ _ _ | (rw [va_up_ne _ _ (by omega)]; first | assumption | exact va_up_self _ _ _ | (rw [va_up_ne _ _ (by omega)]; first | assumption | exact va_up_self _ _ _ | (rw [va_up_ne _ _ (by omega)]; first | assumption | exact va_up_self _ _ _ | (rw [va_up_ne _ _ (by omega)]; first | assumption | exact va_up_self _ _ _)))))) (by rfl) (by exact Nat.le_of_ble_eq_true rfl) (m_mix hG (by omega) hV hR (i32_lo _) (i32_hi _) (i32_lo _) (i32_hi _) (i32_lo _) (i32_hi _) (i32_lo _) (i32_hi _) (fun ce2 g0 k3 k4 => ?_) (fun ce2 g0 g1 k3 k4 => ?_) (fun ce2 g0 g1 g2 k3 k4 => ?_) (fun ce2 i9 j9 g0 g1 g2 g3 g4 g5 k3 k4 => ?_))
    · exfalso
      omega
    · exfalso
      omega
    · refine mx_istore (i := 6) (mx_d D_W_law_8 3 rfl) (by decide) ?_
      refine mx_aload_n (k4 := 2) (mx_d D_W_law_8 4 rfl) (by rfl) ?_
      refine mx_callV hG (Y' := Y_M_thrown) (ci := 7) [] (mx_d D_W_law_8 5 rfl) in_M_thrown w_651 w_652 s_M_thrown (by rfl) np_M_thrown (by exact Nat.le_of_ble_eq_true rfl) (by rfl) (by first | assumption | omega) (id k3).choose_spec.1 (by rfl) (by exact Nat.le_of_ble_eq_true rfl) (m_thrown hG (by omega) k3 ?_)
      refine mx_iload (i := 5) (mx_d D_W_law_8 6 rfl) (by rfl) ?_
      refine mx_icmp_eqY 715 (mx_d D_W_law_8 7 rfl) (by decide) (by decide) (by decide) (by decide) (by decide) rfl ?_
      refine mx_iload (i := 5) (mx_d D_W_law_8 10 rfl) (by rfl) ?_
      refine mx_if_neY 732 (mx_d D_W_law_8 11 rfl) (by decide) (by decide) (by decide) (by decide) ?_
      refine mx_goto 1238 (mx_d D_W_law_8 21 rfl) (by decide) ?_
      exact mx_loc (by rfl) (next ce2 ⟨_, _, _, _, _, _, _, _, _, _, _, _, _, _, _, _, _, _, 3, _, hC.fr (fun k hk => k4 k (Or.inl hk)), k3, oL_fr hL (k4 63 (by omega))⟩)
    · exfalso
      omega
  · refine mx_istore (i := 5) (mx_d D_W_law_7 30 rfl) (by decide) ?_
    refine mx_aload_n (k4 := 2) (mx_d D_W_law_7 31 rfl) (by rfl) ?_
    refine mx_aload_n (k4 := 0) (mx_d D_W_law_7 32 rfl) (by rfl) ?_
    refine mx_iload (i := 4) (mx_d D_W_law_7 33 rfl) (by rfl) ?_
    refine mx_iconst (n := 1) (mx_d D_W_law_7 34 rfl) ?_
    refine mx_iaddI (mx_d D_W_law_7 35 rfl) ?_
    refine mx_sld hX hbB (i + 1) (mx_d D_W_law_7 36 rfl) (by rfl) (by omega) (by omega) ?_
    refine mx_aload_n (k4 := 0) (mx_d D_W_law_7 37 rfl) (by rfl) ?_
    refine mx_iload (i := 4) (mx_d D_W_law_7 38 rfl) (by rfl) ?_
    refine mx_iconst (n := 2) (mx_d D_W_law_7 39 rfl) ?_
    refine mx_iaddI (mx_d D_W_law_7 40 rfl) ?_
    refine mx_sld hX hbB (i + 2) (mx_d D_W_law_7 41 rfl) (by rfl) (by omega) (by omega) ?_
    refine mx_aload_n (k4 := 0) (mx_d D_W_law_7 42 rfl) (by rfl) ?_
    refine mx_iload (i := 4) (mx_d D_W_law_7 43 rfl) (by rfl) ?_
    refine mx_iconst (n := 3) (mx_d D_W_law_7 44 rfl) ?_
    refine mx_iaddI (mx_d D_W_law_7 45 rfl) ?_
    refine mx_sld hX hbB (i + 3) (mx_d D_W_law_7 46 rfl) (by rfl) (by omega) (by omega) ?_
    refine mx_aload_n (k4 := 0) (mx_d D_W_law_7 47 rfl) (by rfl) ?_
    refine mx_iload (i := 4) (mx_d D_W_law_7 48 rfl) (by rfl) ?_
    refine mx_iconst (n := 4) (mx_d D_W_law_7 49 rfl) ?_
    refine mx_iaddI (mx_d D_W_law_8 0 rfl) ?_
    refine mx_sld hX hbB (i + 4) (mx_d D_W_law_8 1 rfl) (by rfl) (by omega) (by omega) ?_
    refine mx_callV hG (Y' := Y_M_mix) (ci := 7) [_, _, _, _] (mx_d D_W_law_8 2 rfl) in_M_mix w_719 w_720 s_M_mix (by rfl) np_M_mix (by exact Nat.le_of_ble_eq_true rfl) (by rfl) (by first | assumption | omega) ((k2 50 (by omega) (by omega)).trans h50) (by rfl) (by exact Nat.le_of_ble_eq_true rfl) (m_mix hG (by omega) hV (hR.fr (fun k z1 z2 => k2 k z1 (by omega))) (i32_lo _) (i32_hi _) (i32_lo _) (i32_hi _) (i32_lo _) (i32_hi _) (i32_lo _) (i32_hi _) (fun ce2 g0 k3 k4 => ?_) (fun ce2 g0 g1 k3 k4 => ?_) (fun ce2 g0 g1 g2 k3 k4 => ?_) (fun ce2 i9 j9 g0 g1 g2 g3 g4 g5 k3 k4 => ?_))
    · exfalso
      omega
    · exfalso
      omega
    · exfalso
      omega
    · obtain rfl : i9 = i0 := by omega
      obtain rfl : j9 = j := by omega
      refine mx_istore (i := 6) (mx_d D_W_law_8 3 rfl) (by decide) ?_
      refine mx_aload_n (k4 := 2) (mx_d D_W_law_8 4 rfl) (by rfl) ?_
      refine mx_callV hG (Y' := Y_M_thrown) (ci := 7) [] (mx_d D_W_law_8 5 rfl) in_M_thrown w_651 w_652 s_M_thrown (by rfl) np_M_thrown (by exact Nat.le_of_ble_eq_true rfl) (by rfl) (by first | assumption | omega) (id (k3 h h6)).choose_spec.1 (by rfl) (by exact Nat.le_of_ble_eq_true rfl) (m_thrown hG (by omega) (k3 h h6) ?_)
      refine mx_iload (i := 5) (mx_d D_W_law_8 6 rfl) (by rfl) ?_
      refine mx_icmp_eqY 715 (mx_d D_W_law_8 7 rfl) (by decide) (by decide) (by decide) (by decide) (by decide) rfl ?_
      refine mx_iload (i := 5) (mx_d D_W_law_8 10 rfl) (by rfl) ?_
      refine mx_if_neN 732 (mx_d D_W_law_8 11 rfl) (by decide) (by decide) (by decide) (by decide) ?_
      obtain ⟨f9, l1, l2⟩ := oL_fr kL (k4 63 (by omega))
      refine mx_aload_n (k4 := 3) (mx_d D_W_law_8 12 rfl) (by rfl) ?_
      refine mx_iconst (n := 0) (mx_d D_W_law_8 13 rfl) ?_
      refine mx_lald hG 2 (0) (mx_d D_W_law_8 14 rfl) (by first | assumption | omega) l1 (by rfl) (by rfl) (by omega) (by omega) ?_
      rw [l2]
      refine mx_iload (i := 6) (mx_d D_W_law_8 15 rfl) (by rfl) ?_
      refine mx_i2l (mx_d D_W_law_8 16 rfl) ?_
      refine mx_lcmpE (mx_d D_W_law_8 17 rfl) ?_
      refine mx_if_eqY 732 (mx_d D_W_law_8 18 rfl) (by decide) (by decide) (by decide) (by decide) ?_
      refine mx_goto 1238 (mx_d D_W_law_8 21 rfl) (by decide) ?_
      exact mx_loc (by rfl) (next ce2 ⟨_, _, _, _, _, _, _, _, _, _, _, _, _, _, _, _, _, _, 0, _, k1.fr (fun k hk => k4 k (Or.inl hk)), (k3 h h6), oL_fr kL (k4 63 (by omega))⟩)
theorem lz_joinRepeats (hG : mx_ok G) (hK : mx_Nok G) (hX : va_X b L xs G.2.1 G.2.1.heap) (hbB : b < mx_B G) (hL2 : L ≤ 2562) (hi : i + 5 ≤ L) (hI : INV G ce) (next : ∀ ce', INV G ce' → mx_M G Y_W_law 10 bc bs false 64 ce' 1238 [(0, .ref b), (1, .ref (mx_B G + 0)), (2, .ref (mx_B G + 50)), (3, .ref (mx_B G + 63)), (4, .int (iI i))] [] Q) : mx_M G Y_W_law 10 (bc + 1) (bs + 6) false 64 ce 735 [(0, .ref b), (1, .ref (mx_B G + 0)), (2, .ref (mx_B G + 50)), (3, .ref (mx_B G + 63)), (4, .int (iI i))] [] Q := by
  obtain ⟨Y, U, nE, iE, nD, rA, rS, eA, eS, dA, dS, dW, lc, rn, rg, rN, ps, pN, th, v0, hC, hR, hL⟩ := hI
  have hV := hC.1
  have hC0 := hC.2.1
  obtain ⟨rw0, h50, hRA⟩ := id hR
  refine mx_aload_n (k4 := 1) (mx_d D_W_law_8 22 rfl) (by rfl) ?_
  refine mx_aload_n (k4 := 0) (mx_d D_W_law_8 23 rfl) (by rfl) ?_
  refine mx_iload (i := 4) (mx_d D_W_law_8 24 rfl) (by rfl) ?_
  refine mx_iconst (n := 1) (mx_d D_W_law_8 25 rfl) ?_
  refine mx_iaddI (mx_d D_W_law_8 26 rfl) ?_
  refine mx_sld hX hbB (i + 1) (mx_d D_W_law_8 27 rfl) (by rfl) (by omega) (by omega) ?_
  refine mx_aload_n (k4 := 0) (mx_d D_W_law_8 28 rfl) (by rfl) ?_
  refine mx_iload (i := 4) (mx_d D_W_law_8 29 rfl) (by rfl) ?_
  refine mx_iconst (n := 2) (mx_d D_W_law_8 30 rfl) ?_
  refine mx_iaddI (mx_d D_W_law_8 31 rfl) ?_
  refine mx_sld hX hbB (i + 2) (mx_d D_W_law_8 32 rfl) (by rfl) (by omega) (by omega) ?_
  refine mx_aload_n (k4 := 3) (mx_d D_W_law_8 33 rfl) (by rfl) ?_
  refine mx_callS (Y' := Y_W_joinRepeats) [_, _, _, _] (mx_d D_W_law_8 34 rfl) in_W_joinRepeats w_477 w_478 np_W_joinRepeats (by exact Nat.le_of_ble_eq_true rfl) (by rfl) (by rfl) (by exact Nat.le_of_ble_eq_true rfl) (w_joinRepeats hG hK (by omega) hC hL (i32_lo _) (i32_hi _) (i32_lo _) (i32_hi _) (fun h0 => ?_) (fun h0 h1 => ?_) (fun ce1 i0 j h0 h1 h2 h3 h4 h5 k1 kL k2 => ?_) (fun ce1 i0 j h A r h0 h1 h2 h3 h4 h5 h6 h7 h8 h9 k1 kL k2 => ?_))
  · refine mx_istore (i := 5) (mx_d D_W_law_8 35 rfl) (by decide) ?_
    refine mx_aload_n (k4 := 2) (mx_d D_W_law_8 36 rfl) (by rfl) ?_
    refine mx_aload_n (k4 := 0) (mx_d D_W_law_8 37 rfl) (by rfl) ?_
    refine mx_iload (i := 4) (mx_d D_W_law_8 38 rfl) (by rfl) ?_
    refine mx_iconst (n := 1) (mx_d D_W_law_8 39 rfl) ?_
    refine mx_iaddI (mx_d D_W_law_8 40 rfl) ?_
    refine mx_sld hX hbB (i + 1) (mx_d D_W_law_8 41 rfl) (by rfl) (by omega) (by omega) ?_
    refine mx_aload_n (k4 := 0) (mx_d D_W_law_8 42 rfl) (by rfl) ?_
    refine mx_iload (i := 4) (mx_d D_W_law_8 43 rfl) (by rfl) ?_
    refine mx_iconst (n := 2) (mx_d D_W_law_8 44 rfl) ?_
    refine mx_iaddI (mx_d D_W_law_8 45 rfl) ?_
    refine mx_sld hX hbB (i + 2) (mx_d D_W_law_8 46 rfl) (by rfl) (by omega) (by omega) ?_
    refine mx_callV hG (Y' := Y_M_joinRepeats) (ci := 7) [_, _] (mx_d D_W_law_8 47 rfl) in_M_joinRepeats w_723 w_724 s_M_joinRepeats (by rfl) np_M_joinRepeats (by exact Nat.le_of_ble_eq_true rfl) (by rfl) (by first | assumption | omega) (by first | assumption | exact va_up_self _ _ _ | (rw [va_up_ne _ _ (by omega)]; first | assumption | exact va_up_self _ _ _ | (rw [va_up_ne _ _ (by omega)]; first | assumption | exact va_up_self _ _ _ | (rw [va_up_ne _ _ (by omega)]; first | assumption | exact va_up_self _ _ _ | (rw [va_up_ne _ _ (by omega)]; first | assumption | exact va_up_self _ _ _ | (rw [va_up_ne _ _ (by omega)]; first | assumption | exact va_up_self _ _ _)))))) (by rfl) (by exact Nat.le_of_ble_eq_true rfl) (m_join hG (by omega) hV hR (i32_lo _) (i32_hi _) (i32_lo _) (i32_hi _) (fun ce2 g0 k3 k4 => ?_) (fun ce2 g0 g1 k3 k4 => ?_) (fun ce2 i9 j9 g0 g1 g2 g3 g4 g5 k3 k4 => ?_) (fun ce2 i9 j9 A9 r9 g0 g1 g2 g3 g4 g5 g6 g7 k3 k4 => ?_))
    · refine mx_istore (i := 6) (mx_d D_W_law_8 48 rfl) (by decide) ?_
      refine mx_aload_n (k4 := 2) (mx_d D_W_law_8 49 rfl) (by rfl) ?_
      refine mx_callV hG (Y' := Y_M_thrown) (ci := 7) [] (mx_d D_W_law_9 0 rfl) in_M_thrown w_651 w_652 s_M_thrown (by rfl) np_M_thrown (by exact Nat.le_of_ble_eq_true rfl) (by rfl) (by first | assumption | omega) (id k3).choose_spec.1 (by rfl) (by exact Nat.le_of_ble_eq_true rfl) (m_thrown hG (by omega) k3 ?_)
      refine mx_iload (i := 5) (mx_d D_W_law_9 1 rfl) (by rfl) ?_
      refine mx_icmp_eqY 783 (mx_d D_W_law_9 2 rfl) (by decide) (by decide) (by decide) (by decide) (by decide) rfl ?_
      refine mx_iload (i := 5) (mx_d D_W_law_9 5 rfl) (by rfl) ?_
      refine mx_if_neY 800 (mx_d D_W_law_9 6 rfl) (by decide) (by decide) (by decide) (by decide) ?_
      refine mx_goto 1238 (mx_d D_W_law_9 16 rfl) (by decide) ?_
      exact mx_loc (by rfl) (next ce2 ⟨_, _, _, _, _, _, _, _, _, _, _, _, _, _, _, _, _, _, 1, _, hC.fr (fun k hk => k4 k (Or.inl hk)), k3, oL_fr hL (k4 63 (by omega))⟩)
    · exfalso
      omega
    · exfalso
      omega
    · exfalso
      omega
  · refine mx_istore (i := 5) (mx_d D_W_law_8 35 rfl) (by decide) ?_
    refine mx_aload_n (k4 := 2) (mx_d D_W_law_8 36 rfl) (by rfl) ?_
    refine mx_aload_n (k4 := 0) (mx_d D_W_law_8 37 rfl) (by rfl) ?_
    refine mx_iload (i := 4) (mx_d D_W_law_8 38 rfl) (by rfl) ?_
    refine mx_iconst (n := 1) (mx_d D_W_law_8 39 rfl) ?_
    refine mx_iaddI (mx_d D_W_law_8 40 rfl) ?_
    refine mx_sld hX hbB (i + 1) (mx_d D_W_law_8 41 rfl) (by rfl) (by omega) (by omega) ?_
    refine mx_aload_n (k4 := 0) (mx_d D_W_law_8 42 rfl) (by rfl) ?_
    refine mx_iload (i := 4) (mx_d D_W_law_8 43 rfl) (by rfl) ?_
    refine mx_iconst (n := 2) (mx_d D_W_law_8 44 rfl) ?_
    refine mx_iaddI (mx_d D_W_law_8 45 rfl) ?_
    refine mx_sld hX hbB (i + 2) (mx_d D_W_law_8 46 rfl) (by rfl) (by omega) (by omega) ?_
    refine mx_callV hG (Y' := Y_M_joinRepeats) (ci := 7) [_, _] (mx_d D_W_law_8 47 rfl) in_M_joinRepeats w_723 w_724 s_M_joinRepeats (by rfl) np_M_joinRepeats (by exact Nat.le_of_ble_eq_true rfl) (by rfl) (by first | assumption | omega) (by first | assumption | exact va_up_self _ _ _ | (rw [va_up_ne _ _ (by omega)]; first | assumption | exact va_up_self _ _ _ | (rw [va_up_ne _ _ (by omega)]; first | assumption | exact va_up_self _ _ _ | (rw [va_up_ne _ _ (by omega)]; first | assumption | exact va_up_self _ _ _ | (rw [va_up_ne _ _ (by omega)]; first | assumption | exact va_up_self _ _ _ | (rw [va_up_ne _ _ (by omega)]; first | assumption | exact va_up_self _ _ _)))))) (by rfl) (by exact Nat.le_of_ble_eq_true rfl) (m_join hG (by omega) hV hR (i32_lo _) (i32_hi _) (i32_lo _) (i32_hi _) (fun ce2 g0 k3 k4 => ?_) (fun ce2 g0 g1 k3 k4 => ?_) (fun ce2 i9 j9 g0 g1 g2 g3 g4 g5 k3 k4 => ?_) (fun ce2 i9 j9 A9 r9 g0 g1 g2 g3 g4 g5 g6 g7 k3 k4 => ?_))
    · exfalso
      omega
    · refine mx_istore (i := 6) (mx_d D_W_law_8 48 rfl) (by decide) ?_
      refine mx_aload_n (k4 := 2) (mx_d D_W_law_8 49 rfl) (by rfl) ?_
      refine mx_callV hG (Y' := Y_M_thrown) (ci := 7) [] (mx_d D_W_law_9 0 rfl) in_M_thrown w_651 w_652 s_M_thrown (by rfl) np_M_thrown (by exact Nat.le_of_ble_eq_true rfl) (by rfl) (by first | assumption | omega) (id k3).choose_spec.1 (by rfl) (by exact Nat.le_of_ble_eq_true rfl) (m_thrown hG (by omega) k3 ?_)
      refine mx_iload (i := 5) (mx_d D_W_law_9 1 rfl) (by rfl) ?_
      refine mx_icmp_eqY 783 (mx_d D_W_law_9 2 rfl) (by decide) (by decide) (by decide) (by decide) (by decide) rfl ?_
      refine mx_iload (i := 5) (mx_d D_W_law_9 5 rfl) (by rfl) ?_
      refine mx_if_neY 800 (mx_d D_W_law_9 6 rfl) (by decide) (by decide) (by decide) (by decide) ?_
      refine mx_goto 1238 (mx_d D_W_law_9 16 rfl) (by decide) ?_
      exact mx_loc (by rfl) (next ce2 ⟨_, _, _, _, _, _, _, _, _, _, _, _, _, _, _, _, _, _, 2, _, hC.fr (fun k hk => k4 k (Or.inl hk)), k3, oL_fr hL (k4 63 (by omega))⟩)
    · exfalso
      omega
    · exfalso
      omega
  · refine mx_istore (i := 5) (mx_d D_W_law_8 35 rfl) (by decide) ?_
    refine mx_aload_n (k4 := 2) (mx_d D_W_law_8 36 rfl) (by rfl) ?_
    refine mx_aload_n (k4 := 0) (mx_d D_W_law_8 37 rfl) (by rfl) ?_
    refine mx_iload (i := 4) (mx_d D_W_law_8 38 rfl) (by rfl) ?_
    refine mx_iconst (n := 1) (mx_d D_W_law_8 39 rfl) ?_
    refine mx_iaddI (mx_d D_W_law_8 40 rfl) ?_
    refine mx_sld hX hbB (i + 1) (mx_d D_W_law_8 41 rfl) (by rfl) (by omega) (by omega) ?_
    refine mx_aload_n (k4 := 0) (mx_d D_W_law_8 42 rfl) (by rfl) ?_
    refine mx_iload (i := 4) (mx_d D_W_law_8 43 rfl) (by rfl) ?_
    refine mx_iconst (n := 2) (mx_d D_W_law_8 44 rfl) ?_
    refine mx_iaddI (mx_d D_W_law_8 45 rfl) ?_
    refine mx_sld hX hbB (i + 2) (mx_d D_W_law_8 46 rfl) (by rfl) (by omega) (by omega) ?_
    refine mx_callV hG (Y' := Y_M_joinRepeats) (ci := 7) [_, _] (mx_d D_W_law_8 47 rfl) in_M_joinRepeats w_723 w_724 s_M_joinRepeats (by rfl) np_M_joinRepeats (by exact Nat.le_of_ble_eq_true rfl) (by rfl) (by first | assumption | omega) ((k2 50 (by omega) (by omega)).trans h50) (by rfl) (by exact Nat.le_of_ble_eq_true rfl) (m_join hG (by omega) hV (hR.fr (fun k z1 z2 => k2 k z1 (by omega))) (i32_lo _) (i32_hi _) (i32_lo _) (i32_hi _) (fun ce2 g0 k3 k4 => ?_) (fun ce2 g0 g1 k3 k4 => ?_) (fun ce2 i9 j9 g0 g1 g2 g3 g4 g5 k3 k4 => ?_) (fun ce2 i9 j9 A9 r9 g0 g1 g2 g3 g4 g5 g6 g7 k3 k4 => ?_))
    · exfalso
      omega
    · exfalso
      omega
    · obtain rfl : i9 = i0 := by omega
      obtain rfl : j9 = j := by omega
      refine mx_istore (i := 6) (mx_d D_W_law_8 48 rfl) (by decide) ?_
      refine mx_aload_n (k4 := 2) (mx_d D_W_law_8 49 rfl) (by rfl) ?_
      refine mx_callV hG (Y' := Y_M_thrown) (ci := 7) [] (mx_d D_W_law_9 0 rfl) in_M_thrown w_651 w_652 s_M_thrown (by rfl) np_M_thrown (by exact Nat.le_of_ble_eq_true rfl) (by rfl) (by first | assumption | omega) (id k3).choose_spec.1 (by rfl) (by exact Nat.le_of_ble_eq_true rfl) (m_thrown hG (by omega) k3 ?_)
      refine mx_iload (i := 5) (mx_d D_W_law_9 1 rfl) (by rfl) ?_
      refine mx_icmp_eqY 783 (mx_d D_W_law_9 2 rfl) (by decide) (by decide) (by decide) (by decide) (by decide) rfl ?_
      refine mx_iload (i := 5) (mx_d D_W_law_9 5 rfl) (by rfl) ?_
      refine mx_if_neN 800 (mx_d D_W_law_9 6 rfl) (by decide) (by decide) (by decide) (by decide) ?_
      obtain ⟨f9, l1, l2⟩ := oL_fr kL (k4 63 (by omega))
      refine mx_aload_n (k4 := 3) (mx_d D_W_law_9 7 rfl) (by rfl) ?_
      refine mx_iconst (n := 0) (mx_d D_W_law_9 8 rfl) ?_
      refine mx_lald hG 2 (0) (mx_d D_W_law_9 9 rfl) (by first | assumption | omega) l1 (by rfl) (by rfl) (by omega) (by omega) ?_
      rw [l2]
      refine mx_iload (i := 6) (mx_d D_W_law_9 10 rfl) (by rfl) ?_
      refine mx_i2l (mx_d D_W_law_9 11 rfl) ?_
      refine mx_lcmpE (mx_d D_W_law_9 12 rfl) ?_
      refine mx_if_eqY 800 (mx_d D_W_law_9 13 rfl) (by decide) (by decide) (by decide) (by decide) ?_
      refine mx_goto 1238 (mx_d D_W_law_9 16 rfl) (by decide) ?_
      exact mx_loc (by rfl) (next ce2 ⟨_, _, _, _, _, _, _, _, _, _, _, _, _, _, _, _, _, _, 0, _, k1.fr (fun k hk => k4 k (Or.inl hk)), k3, oL_fr kL (k4 63 (by omega))⟩)
    · exfalso
      obtain rfl : i9 = i0 := by omega
      obtain rfl : j9 = j := by omega
      first | exact h5 g5 | exact g5 h5
  · refine mx_istore (i := 5) (mx_d D_W_law_8 35 rfl) (by decide) ?_
    refine mx_aload_n (k4 := 2) (mx_d D_W_law_8 36 rfl) (by rfl) ?_
    refine mx_aload_n (k4 := 0) (mx_d D_W_law_8 37 rfl) (by rfl) ?_
    refine mx_iload (i := 4) (mx_d D_W_law_8 38 rfl) (by rfl) ?_
    refine mx_iconst (n := 1) (mx_d D_W_law_8 39 rfl) ?_
    refine mx_iaddI (mx_d D_W_law_8 40 rfl) ?_
    refine mx_sld hX hbB (i + 1) (mx_d D_W_law_8 41 rfl) (by rfl) (by omega) (by omega) ?_
    refine mx_aload_n (k4 := 0) (mx_d D_W_law_8 42 rfl) (by rfl) ?_
    refine mx_iload (i := 4) (mx_d D_W_law_8 43 rfl) (by rfl) ?_
    refine mx_iconst (n := 2) (mx_d D_W_law_8 44 rfl) ?_
    refine mx_iaddI (mx_d D_W_law_8 45 rfl) ?_
    refine mx_sld hX hbB (i + 2) (mx_d D_W_law_8 46 rfl) (by rfl) (by omega) (by omega) ?_
    refine mx_callV hG (Y' := Y_M_joinRepeats) (ci := 7) [_, _] (mx_d D_W_law_8 47 rfl) in_M_joinRepeats w_723 w_724 s_M_joinRepeats (by rfl) np_M_joinRepeats (by exact Nat.le_of_ble_eq_true rfl) (by rfl) (by first | assumption | omega) ((k2 50 (by omega) (by omega)).trans h50) (by rfl) (by exact Nat.le_of_ble_eq_true rfl) (m_join hG (by omega) hV (hR.fr (fun k z1 z2 => k2 k z1 (by omega))) (i32_lo _) (i32_hi _) (i32_lo _) (i32_hi _) (fun ce2 g0 k3 k4 => ?_) (fun ce2 g0 g1 k3 k4 => ?_) (fun ce2 i9 j9 g0 g1 g2 g3 g4 g5 k3 k4 => ?_) (fun ce2 i9 j9 A9 r9 g0 g1 g2 g3 g4 g5 g6 g7 k3 k4 => ?_))
    · exfalso
      omega
    · exfalso
      omega
    · exfalso
      obtain rfl : i9 = i0 := by omega
      obtain rfl : j9 = j := by omega
      first | exact h5 g5 | exact g5 h5
    · obtain rfl : i9 = i0 := by omega
      obtain rfl : j9 = j := by omega
      obtain rfl : A9 = A := g6.trans h6.symm
      obtain rfl : r9 = r := isRt_uniq g7 h7
      refine mx_istore (i := 6) (mx_d D_W_law_8 48 rfl) (by decide) ?_
      refine mx_aload_n (k4 := 2) (mx_d D_W_law_8 49 rfl) (by rfl) ?_
      refine mx_callV hG (Y' := Y_M_thrown) (ci := 7) [] (mx_d D_W_law_9 0 rfl) in_M_thrown w_651 w_652 s_M_thrown (by rfl) np_M_thrown (by exact Nat.le_of_ble_eq_true rfl) (by rfl) (by first | assumption | omega) (id (k3 h h9)).choose_spec.1 (by rfl) (by exact Nat.le_of_ble_eq_true rfl) (m_thrown hG (by omega) (k3 h h9) ?_)
      refine mx_iload (i := 5) (mx_d D_W_law_9 1 rfl) (by rfl) ?_
      refine mx_icmp_eqY 783 (mx_d D_W_law_9 2 rfl) (by decide) (by decide) (by decide) (by decide) (by decide) rfl ?_
      refine mx_iload (i := 5) (mx_d D_W_law_9 5 rfl) (by rfl) ?_
      refine mx_if_neN 800 (mx_d D_W_law_9 6 rfl) (by decide) (by decide) (by decide) (by decide) ?_
      obtain ⟨f9, l1, l2⟩ := oL_fr kL (k4 63 (by omega))
      refine mx_aload_n (k4 := 3) (mx_d D_W_law_9 7 rfl) (by rfl) ?_
      refine mx_iconst (n := 0) (mx_d D_W_law_9 8 rfl) ?_
      refine mx_lald hG 2 (0) (mx_d D_W_law_9 9 rfl) (by first | assumption | omega) l1 (by rfl) (by rfl) (by omega) (by omega) ?_
      rw [l2]
      refine mx_iload (i := 6) (mx_d D_W_law_9 10 rfl) (by rfl) ?_
      refine mx_i2l (mx_d D_W_law_9 11 rfl) ?_
      refine mx_lcmpE (mx_d D_W_law_9 12 rfl) ?_
      refine mx_if_eqY 800 (mx_d D_W_law_9 13 rfl) (by decide) (by decide) (by decide) (by decide) ?_
      refine mx_goto 1238 (mx_d D_W_law_9 16 rfl) (by decide) ?_
      exact mx_loc (by rfl) (next ce2 ⟨_, _, _, _, _, _, _, _, _, _, _, _, _, _, _, _, _, _, 0, _, k1.fr (fun k hk => k4 k (Or.inl hk)), (k3 h h9), oL_fr kL (k4 63 (by omega))⟩)
theorem lz_least (hG : mx_ok G) (hK : mx_Nok G) (hX : va_X b L xs G.2.1 G.2.1.heap) (hbB : b < mx_B G) (hL2 : L ≤ 2562) (hi : i + 5 ≤ L) (hI : INV G ce) (next : ∀ ce', INV G ce' → mx_M G Y_W_law 10 bc bs false 64 ce' 1238 [(0, .ref b), (1, .ref (mx_B G + 0)), (2, .ref (mx_B G + 50)), (3, .ref (mx_B G + 63)), (4, .int (iI i))] [] Q) : mx_M G Y_W_law 10 (bc + 1) (bs + 6) false 64 ce 803 [(0, .ref b), (1, .ref (mx_B G + 0)), (2, .ref (mx_B G + 50)), (3, .ref (mx_B G + 63)), (4, .int (iI i))] [] Q := by
  obtain ⟨Y, U, nE, iE, nD, rA, rS, eA, eS, dA, dS, dW, lc, rn, rg, rN, ps, pN, th, v0, hC, hR, hL⟩ := hI
  have hV := hC.1
  have hC0 := hC.2.1
  obtain ⟨rw0, h50, hRA⟩ := id hR
  refine mx_aload_n (k4 := 1) (mx_d D_W_law_9 17 rfl) (by rfl) ?_
  refine mx_aload_n (k4 := 0) (mx_d D_W_law_9 18 rfl) (by rfl) ?_
  refine mx_iload (i := 4) (mx_d D_W_law_9 19 rfl) (by rfl) ?_
  refine mx_iconst (n := 1) (mx_d D_W_law_9 20 rfl) ?_
  refine mx_iaddI (mx_d D_W_law_9 21 rfl) ?_
  refine mx_sld hX hbB (i + 1) (mx_d D_W_law_9 22 rfl) (by rfl) (by omega) (by omega) ?_
  refine mx_aload_n (k4 := 0) (mx_d D_W_law_9 23 rfl) (by rfl) ?_
  refine mx_iload (i := 4) (mx_d D_W_law_9 24 rfl) (by rfl) ?_
  refine mx_iconst (n := 2) (mx_d D_W_law_9 25 rfl) ?_
  refine mx_iaddI (mx_d D_W_law_9 26 rfl) ?_
  refine mx_sld hX hbB (i + 2) (mx_d D_W_law_9 27 rfl) (by rfl) (by omega) (by omega) ?_
  refine mx_aload_n (k4 := 0) (mx_d D_W_law_9 28 rfl) (by rfl) ?_
  refine mx_iload (i := 4) (mx_d D_W_law_9 29 rfl) (by rfl) ?_
  refine mx_iconst (n := 3) (mx_d D_W_law_9 30 rfl) ?_
  refine mx_iaddI (mx_d D_W_law_9 31 rfl) ?_
  refine mx_sld hX hbB (i + 3) (mx_d D_W_law_9 32 rfl) (by rfl) (by omega) (by omega) ?_
  refine mx_aload_n (k4 := 3) (mx_d D_W_law_9 33 rfl) (by rfl) ?_
  refine mx_callS (Y' := Y_W_least) [_, _, _, _, _] (mx_d D_W_law_9 34 rfl) in_W_least w_491 w_492 np_W_least (by exact Nat.le_of_ble_eq_true rfl) (by rfl) (by rfl) (by exact Nat.le_of_ble_eq_true rfl) (w_least hG hK (by omega) hC hL (i32_lo _) (i32_hi _) (i32_lo _) (i32_hi _) (i32_lo _) (i32_hi _) (fun h0 => ?_) (fun h0 h1 => ?_) (fun ce1 j lc' h0 h1 h2 h3 k1 kL k2 => ?_))
  · refine mx_istore (i := 5) (mx_d D_W_law_9 35 rfl) (by decide) ?_
    refine mx_aload_n (k4 := 2) (mx_d D_W_law_9 36 rfl) (by rfl) ?_
    refine mx_aload_n (k4 := 0) (mx_d D_W_law_9 37 rfl) (by rfl) ?_
    refine mx_iload (i := 4) (mx_d D_W_law_9 38 rfl) (by rfl) ?_
    refine mx_iconst (n := 1) (mx_d D_W_law_9 39 rfl) ?_
    refine mx_iaddI (mx_d D_W_law_9 40 rfl) ?_
    refine mx_sld hX hbB (i + 1) (mx_d D_W_law_9 41 rfl) (by rfl) (by omega) (by omega) ?_
    refine mx_aload_n (k4 := 0) (mx_d D_W_law_9 42 rfl) (by rfl) ?_
    refine mx_iload (i := 4) (mx_d D_W_law_9 43 rfl) (by rfl) ?_
    refine mx_iconst (n := 2) (mx_d D_W_law_9 44 rfl) ?_
    refine mx_iaddI (mx_d D_W_law_9 45 rfl) ?_
    refine mx_sld hX hbB (i + 2) (mx_d D_W_law_9 46 rfl) (by rfl) (by omega) (by omega) ?_
    refine mx_aload_n (k4 := 0) (mx_d D_W_law_9 47 rfl) (by rfl) ?_
    refine mx_iload (i := 4) (mx_d D_W_law_9 48 rfl) (by rfl) ?_
    refine mx_iconst (n := 3) (mx_d D_W_law_9 49 rfl) ?_
    refine mx_iaddI (mx_d D_W_law_10 0 rfl) ?_
    refine mx_sld hX hbB (i + 3) (mx_d D_W_law_10 1 rfl) (by rfl) (by omega) (by omega) ?_
    refine mx_callV hG (Y' := Y_M_least) (ci := 7) [_, _, _] (mx_d D_W_law_10 2 rfl) in_M_least w_727 w_728 s_M_least (by rfl) np_M_least (by exact Nat.le_of_ble_eq_true rfl) (by rfl) (by first | assumption | omega) (by first | assumption | exact va_up_self _ _ _ | (rw [va_up_ne _ _ (by omega)]; first | assumption | exact va_up_self _ _ _ | (rw [va_up_ne _ _ (by omega)]; first | assumption | exact va_up_self _ _ _ | (rw [va_up_ne _ _ (by omega)]; first | assumption | exact va_up_self _ _ _ | (rw [va_up_ne _ _ (by omega)]; first | assumption | exact va_up_self _ _ _ | (rw [va_up_ne _ _ (by omega)]; first | assumption | exact va_up_self _ _ _)))))) (by rfl) (by exact Nat.le_of_ble_eq_true rfl) (m_least (i := (xs (i + 1)).toInt) (u := (xs (i + 2)).toInt) (v := (xs (i + 3)).toInt) hG (by omega) hV hR (i32_lo _) (i32_hi _) (i32_lo _) (i32_hi _) (i32_lo _) (i32_hi _) (fun ce2 g0 k3 k4 => ?_) (fun ce2 g0 g1 k3 k4 => ?_) (lc' := fun y => need (dW (xs (i + 1)).toInt.toNat) Y (xs (i + 2)).toInt (xs (i + 3)).toInt y) (fun j9 hj9 _ _ y _ => by rw [hj9]; rfl) (fun ce2 j9 g0 g1 g2 k3 k4 => ?_))
    · refine mx_istore (i := 6) (mx_d D_W_law_10 3 rfl) (by decide) ?_
      refine mx_aload_n (k4 := 2) (mx_d D_W_law_10 4 rfl) (by rfl) ?_
      refine mx_callV hG (Y' := Y_M_thrown) (ci := 7) [] (mx_d D_W_law_10 5 rfl) in_M_thrown w_651 w_652 s_M_thrown (by rfl) np_M_thrown (by exact Nat.le_of_ble_eq_true rfl) (by rfl) (by first | assumption | omega) (id k3).choose_spec.1 (by rfl) (by exact Nat.le_of_ble_eq_true rfl) (m_thrown hG (by omega) k3 ?_)
      refine mx_iload (i := 5) (mx_d D_W_law_10 6 rfl) (by rfl) ?_
      refine mx_icmp_eqY 863 (mx_d D_W_law_10 7 rfl) (by decide) (by decide) (by decide) (by decide) (by decide) rfl ?_
      refine mx_iload (i := 5) (mx_d D_W_law_10 10 rfl) (by rfl) ?_
      refine mx_if_neY 880 (mx_d D_W_law_10 11 rfl) (by decide) (by decide) (by decide) (by decide) ?_
      refine mx_goto 1238 (mx_d D_W_law_10 21 rfl) (by decide) ?_
      exact mx_loc (by rfl) (next ce2 ⟨_, _, _, _, _, _, _, _, _, _, _, _, _, _, _, _, _, _, 1, _, hC.fr (fun k hk => k4 k (Or.inl hk)), k3, oL_fr hL (k4 63 (by omega))⟩)
    · exfalso
      omega
    · exfalso
      omega
  · refine mx_istore (i := 5) (mx_d D_W_law_9 35 rfl) (by decide) ?_
    refine mx_aload_n (k4 := 2) (mx_d D_W_law_9 36 rfl) (by rfl) ?_
    refine mx_aload_n (k4 := 0) (mx_d D_W_law_9 37 rfl) (by rfl) ?_
    refine mx_iload (i := 4) (mx_d D_W_law_9 38 rfl) (by rfl) ?_
    refine mx_iconst (n := 1) (mx_d D_W_law_9 39 rfl) ?_
    refine mx_iaddI (mx_d D_W_law_9 40 rfl) ?_
    refine mx_sld hX hbB (i + 1) (mx_d D_W_law_9 41 rfl) (by rfl) (by omega) (by omega) ?_
    refine mx_aload_n (k4 := 0) (mx_d D_W_law_9 42 rfl) (by rfl) ?_
    refine mx_iload (i := 4) (mx_d D_W_law_9 43 rfl) (by rfl) ?_
    refine mx_iconst (n := 2) (mx_d D_W_law_9 44 rfl) ?_
    refine mx_iaddI (mx_d D_W_law_9 45 rfl) ?_
    refine mx_sld hX hbB (i + 2) (mx_d D_W_law_9 46 rfl) (by rfl) (by omega) (by omega) ?_
    refine mx_aload_n (k4 := 0) (mx_d D_W_law_9 47 rfl) (by rfl) ?_
    refine mx_iload (i := 4) (mx_d D_W_law_9 48 rfl) (by rfl) ?_
    refine mx_iconst (n := 3) (mx_d D_W_law_9 49 rfl) ?_
    refine mx_iaddI (mx_d D_W_law_10 0 rfl) ?_
    refine mx_sld hX hbB (i + 3) (mx_d D_W_law_10 1 rfl) (by rfl) (by omega) (by omega) ?_
    refine mx_callV hG (Y' := Y_M_least) (ci := 7) [_, _, _] (mx_d D_W_law_10 2 rfl) in_M_least w_727 w_728 s_M_least (by rfl) np_M_least (by exact Nat.le_of_ble_eq_true rfl) (by rfl) (by first | assumption | omega) (by first | assumption | exact va_up_self _ _ _ | (rw [va_up_ne _ _ (by omega)]; first | assumption | exact va_up_self _ _ _ | (rw [va_up_ne _ _ (by omega)]; first | assumption | exact va_up_self _ _ _ | (rw [va_up_ne _ _ (by omega)]; first | assumption | exact va_up_self _ _ _ | (rw [va_up_ne _ _ (by omega)]; first | assumption | exact va_up_self _ _ _ | (rw [va_up_ne _ _ (by omega)]; first | assumption | exact va_up_self _ _ _)))))) (by rfl) (by exact Nat.le_of_ble_eq_true rfl) (m_least (i := (xs (i + 1)).toInt) (u := (xs (i + 2)).toInt) (v := (xs (i + 3)).toInt) hG (by omega) hV hR (i32_lo _) (i32_hi _) (i32_lo _) (i32_hi _) (i32_lo _) (i32_hi _) (fun ce2 g0 k3 k4 => ?_) (fun ce2 g0 g1 k3 k4 => ?_) (lc' := fun y => need (dW (xs (i + 1)).toInt.toNat) Y (xs (i + 2)).toInt (xs (i + 3)).toInt y) (fun j9 hj9 _ _ y _ => by rw [hj9]; rfl) (fun ce2 j9 g0 g1 g2 k3 k4 => ?_))
    · exfalso
      omega
    · refine mx_istore (i := 6) (mx_d D_W_law_10 3 rfl) (by decide) ?_
      refine mx_aload_n (k4 := 2) (mx_d D_W_law_10 4 rfl) (by rfl) ?_
      refine mx_callV hG (Y' := Y_M_thrown) (ci := 7) [] (mx_d D_W_law_10 5 rfl) in_M_thrown w_651 w_652 s_M_thrown (by rfl) np_M_thrown (by exact Nat.le_of_ble_eq_true rfl) (by rfl) (by first | assumption | omega) (id k3).choose_spec.1 (by rfl) (by exact Nat.le_of_ble_eq_true rfl) (m_thrown hG (by omega) k3 ?_)
      refine mx_iload (i := 5) (mx_d D_W_law_10 6 rfl) (by rfl) ?_
      refine mx_icmp_eqY 863 (mx_d D_W_law_10 7 rfl) (by decide) (by decide) (by decide) (by decide) (by decide) rfl ?_
      refine mx_iload (i := 5) (mx_d D_W_law_10 10 rfl) (by rfl) ?_
      refine mx_if_neY 880 (mx_d D_W_law_10 11 rfl) (by decide) (by decide) (by decide) (by decide) ?_
      refine mx_goto 1238 (mx_d D_W_law_10 21 rfl) (by decide) ?_
      exact mx_loc (by rfl) (next ce2 ⟨_, _, _, _, _, _, _, _, _, _, _, _, _, _, _, _, _, _, 2, _, hC.fr (fun k hk => k4 k (Or.inl hk)), k3, oL_fr hL (k4 63 (by omega))⟩)
    · exfalso
      omega
  · refine mx_istore (i := 5) (mx_d D_W_law_9 35 rfl) (by decide) ?_
    refine mx_aload_n (k4 := 2) (mx_d D_W_law_9 36 rfl) (by rfl) ?_
    refine mx_aload_n (k4 := 0) (mx_d D_W_law_9 37 rfl) (by rfl) ?_
    refine mx_iload (i := 4) (mx_d D_W_law_9 38 rfl) (by rfl) ?_
    refine mx_iconst (n := 1) (mx_d D_W_law_9 39 rfl) ?_
    refine mx_iaddI (mx_d D_W_law_9 40 rfl) ?_
    refine mx_sld hX hbB (i + 1) (mx_d D_W_law_9 41 rfl) (by rfl) (by omega) (by omega) ?_
    refine mx_aload_n (k4 := 0) (mx_d D_W_law_9 42 rfl) (by rfl) ?_
    refine mx_iload (i := 4) (mx_d D_W_law_9 43 rfl) (by rfl) ?_
    refine mx_iconst (n := 2) (mx_d D_W_law_9 44 rfl) ?_
    refine mx_iaddI (mx_d D_W_law_9 45 rfl) ?_
    refine mx_sld hX hbB (i + 2) (mx_d D_W_law_9 46 rfl) (by rfl) (by omega) (by omega) ?_
    refine mx_aload_n (k4 := 0) (mx_d D_W_law_9 47 rfl) (by rfl) ?_
    refine mx_iload (i := 4) (mx_d D_W_law_9 48 rfl) (by rfl) ?_
    refine mx_iconst (n := 3) (mx_d D_W_law_9 49 rfl) ?_
    refine mx_iaddI (mx_d D_W_law_10 0 rfl) ?_
    refine mx_sld hX hbB (i + 3) (mx_d D_W_law_10 1 rfl) (by rfl) (by omega) (by omega) ?_
    refine mx_callV hG (Y' := Y_M_least) (ci := 7) [_, _, _] (mx_d D_W_law_10 2 rfl) in_M_least w_727 w_728 s_M_least (by rfl) np_M_least (by exact Nat.le_of_ble_eq_true rfl) (by rfl) (by first | assumption | omega) ((k2 50 (by omega) (by omega)).trans h50) (by rfl) (by exact Nat.le_of_ble_eq_true rfl) (m_least (i := (xs (i + 1)).toInt) (u := (xs (i + 2)).toInt) (v := (xs (i + 3)).toInt) hG (by omega) hV (hR.fr (fun k z1 z2 => k2 k z1 (by omega))) (i32_lo _) (i32_hi _) (i32_lo _) (i32_hi _) (i32_lo _) (i32_hi _) (fun ce2 g0 k3 k4 => ?_) (fun ce2 g0 g1 k3 k4 => ?_) (lc' := lc') (fun j9 hj9 _ _ y hy => (show j = j9 by omega) ▸ h3 y hy) (fun ce2 j9 g0 g1 g2 k3 k4 => ?_))
    · exfalso
      omega
    · exfalso
      omega
    · obtain rfl : j9 = j := by omega
      refine mx_istore (i := 6) (mx_d D_W_law_10 3 rfl) (by decide) ?_
      refine mx_aload_n (k4 := 2) (mx_d D_W_law_10 4 rfl) (by rfl) ?_
      refine mx_callV hG (Y' := Y_M_thrown) (ci := 7) [] (mx_d D_W_law_10 5 rfl) in_M_thrown w_651 w_652 s_M_thrown (by rfl) np_M_thrown (by exact Nat.le_of_ble_eq_true rfl) (by rfl) (by first | assumption | omega) (id k3).choose_spec.1 (by rfl) (by exact Nat.le_of_ble_eq_true rfl) (m_thrown hG (by omega) k3 ?_)
      refine mx_iload (i := 5) (mx_d D_W_law_10 6 rfl) (by rfl) ?_
      refine mx_icmp_eqY 863 (mx_d D_W_law_10 7 rfl) (by decide) (by decide) (by decide) (by decide) (by decide) rfl ?_
      refine mx_iload (i := 5) (mx_d D_W_law_10 10 rfl) (by rfl) ?_
      refine mx_if_neN 880 (mx_d D_W_law_10 11 rfl) (by decide) (by decide) (by decide) (by decide) ?_
      obtain ⟨f9, l1, l2⟩ := oL_fr kL (k4 63 (by omega))
      refine mx_aload_n (k4 := 3) (mx_d D_W_law_10 12 rfl) (by rfl) ?_
      refine mx_iconst (n := 0) (mx_d D_W_law_10 13 rfl) ?_
      refine mx_lald hG 2 (0) (mx_d D_W_law_10 14 rfl) (by first | assumption | omega) l1 (by rfl) (by rfl) (by omega) (by omega) ?_
      rw [l2]
      refine mx_iload (i := 6) (mx_d D_W_law_10 15 rfl) (by rfl) ?_
      refine mx_i2l (mx_d D_W_law_10 16 rfl) ?_
      refine mx_lcmpE (mx_d D_W_law_10 17 rfl) ?_
      refine mx_if_eqY 880 (mx_d D_W_law_10 18 rfl) (by decide) (by decide) (by decide) (by decide) ?_
      refine mx_goto 1238 (mx_d D_W_law_10 21 rfl) (by decide) ?_
      exact mx_loc (by rfl) (next ce2 ⟨_, _, _, _, _, _, _, _, _, _, _, _, _, _, _, _, _, _, 0, _, k1.fr (fun k hk => k4 k (Or.inl hk)), k3, oL_fr kL (k4 63 (by omega))⟩)
theorem lz_span (hG : mx_ok G) (hK : mx_Nok G) (hX : va_X b L xs G.2.1 G.2.1.heap) (hbB : b < mx_B G) (hL2 : L ≤ 2562) (hi : i + 5 ≤ L) (hI : INV G ce) (next : ∀ ce', INV G ce' → mx_M G Y_W_law 10 bc bs false 64 ce' 1238 [(0, .ref b), (1, .ref (mx_B G + 0)), (2, .ref (mx_B G + 50)), (3, .ref (mx_B G + 63)), (4, .int (iI i))] [] Q) : mx_M G Y_W_law 10 (bc + 1) (bs + 6) false 64 ce 883 [(0, .ref b), (1, .ref (mx_B G + 0)), (2, .ref (mx_B G + 50)), (3, .ref (mx_B G + 63)), (4, .int (iI i))] [] Q := by
  obtain ⟨Y, U, nE, iE, nD, rA, rS, eA, eS, dA, dS, dW, lc, rn, rg, rN, ps, pN, th, v0, hC, hR, hL⟩ := hI
  have hV := hC.1
  have hC0 := hC.2.1
  obtain ⟨rw0, h50, hRA⟩ := id hR
  refine mx_aload_n (k4 := 1) (mx_d D_W_law_10 22 rfl) (by rfl) ?_
  refine mx_aload_n (k4 := 0) (mx_d D_W_law_10 23 rfl) (by rfl) ?_
  refine mx_iload (i := 4) (mx_d D_W_law_10 24 rfl) (by rfl) ?_
  refine mx_iconst (n := 1) (mx_d D_W_law_10 25 rfl) ?_
  refine mx_iaddI (mx_d D_W_law_10 26 rfl) ?_
  refine mx_sld hX hbB (i + 1) (mx_d D_W_law_10 27 rfl) (by rfl) (by omega) (by omega) ?_
  refine mx_aload_n (k4 := 0) (mx_d D_W_law_10 28 rfl) (by rfl) ?_
  refine mx_iload (i := 4) (mx_d D_W_law_10 29 rfl) (by rfl) ?_
  refine mx_iconst (n := 2) (mx_d D_W_law_10 30 rfl) ?_
  refine mx_iaddI (mx_d D_W_law_10 31 rfl) ?_
  refine mx_sld hX hbB (i + 2) (mx_d D_W_law_10 32 rfl) (by rfl) (by omega) (by omega) ?_
  refine mx_aload_n (k4 := 3) (mx_d D_W_law_10 33 rfl) (by rfl) ?_
  refine mx_callS (Y' := Y_W_span) [_, _, _, _] (mx_d D_W_law_10 34 rfl) in_W_span w_515 w_516 np_W_span (by exact Nat.le_of_ble_eq_true rfl) (by rfl) (by rfl) (by exact Nat.le_of_ble_eq_true rfl) (w_span hG hK (by omega) hC hL (i32_lo _) (i32_hi _) (i32_lo _) (i32_hi _) (fun h0 => ?_) (fun ce1 j F L0 h0 h1 h2 h3 k1 kL k2 => ?_))
  · refine mx_istore (i := 5) (mx_d D_W_law_10 35 rfl) (by decide) ?_
    refine mx_aload_n (k4 := 2) (mx_d D_W_law_10 36 rfl) (by rfl) ?_
    refine mx_aload_n (k4 := 0) (mx_d D_W_law_10 37 rfl) (by rfl) ?_
    refine mx_iload (i := 4) (mx_d D_W_law_10 38 rfl) (by rfl) ?_
    refine mx_iconst (n := 1) (mx_d D_W_law_10 39 rfl) ?_
    refine mx_iaddI (mx_d D_W_law_10 40 rfl) ?_
    refine mx_sld hX hbB (i + 1) (mx_d D_W_law_10 41 rfl) (by rfl) (by omega) (by omega) ?_
    refine mx_aload_n (k4 := 0) (mx_d D_W_law_10 42 rfl) (by rfl) ?_
    refine mx_iload (i := 4) (mx_d D_W_law_10 43 rfl) (by rfl) ?_
    refine mx_iconst (n := 2) (mx_d D_W_law_10 44 rfl) ?_
    refine mx_iaddI (mx_d D_W_law_10 45 rfl) ?_
    refine mx_sld hX hbB (i + 2) (mx_d D_W_law_10 46 rfl) (by rfl) (by omega) (by omega) ?_
    refine mx_callV hG (Y' := Y_M_span) (ci := 7) [_, _] (mx_d D_W_law_10 47 rfl) in_M_span w_743 w_744 s_M_span (by rfl) np_M_span (by exact Nat.le_of_ble_eq_true rfl) (by rfl) (by first | assumption | omega) (by first | assumption | exact va_up_self _ _ _ | (rw [va_up_ne _ _ (by omega)]; first | assumption | exact va_up_self _ _ _ | (rw [va_up_ne _ _ (by omega)]; first | assumption | exact va_up_self _ _ _ | (rw [va_up_ne _ _ (by omega)]; first | assumption | exact va_up_self _ _ _ | (rw [va_up_ne _ _ (by omega)]; first | assumption | exact va_up_self _ _ _ | (rw [va_up_ne _ _ (by omega)]; first | assumption | exact va_up_self _ _ _)))))) (by rfl) (by exact Nat.le_of_ble_eq_true rfl) (m_span (k := (xs (i + 1)).toInt) (z := (xs (i + 2)).toInt) hG (by omega) hV hR (i32_lo _) (i32_hi _) (i32_lo _) (i32_hi _) (fun ce2 g0 k3 k4 => ?_) (F := 0) (L := 0) (fun j9 z1 z2 z3 => by exfalso; omega) (fun ce2 j9 g0 g1 g2 k3 k4 => ?_))
    · refine mx_istore (i := 6) (mx_d D_W_law_10 48 rfl) (by decide) ?_
      refine mx_aload_n (k4 := 2) (mx_d D_W_law_10 49 rfl) (by rfl) ?_
      refine mx_callV hG (Y' := Y_M_thrown) (ci := 7) [] (mx_d D_W_law_11 0 rfl) in_M_thrown w_651 w_652 s_M_thrown (by rfl) np_M_thrown (by exact Nat.le_of_ble_eq_true rfl) (by rfl) (by first | assumption | omega) (id k3).choose_spec.1 (by rfl) (by exact Nat.le_of_ble_eq_true rfl) (m_thrown hG (by omega) k3 ?_)
      refine mx_iload (i := 5) (mx_d D_W_law_11 1 rfl) (by rfl) ?_
      refine mx_icmp_eqY 931 (mx_d D_W_law_11 2 rfl) (by decide) (by decide) (by decide) (by decide) (by decide) rfl ?_
      refine mx_iload (i := 5) (mx_d D_W_law_11 5 rfl) (by rfl) ?_
      refine mx_if_neY 948 (mx_d D_W_law_11 6 rfl) (by decide) (by decide) (by decide) (by decide) ?_
      refine mx_goto 1238 (mx_d D_W_law_11 16 rfl) (by decide) ?_
      exact mx_loc (by rfl) (next ce2 ⟨_, _, _, _, _, _, _, _, _, _, _, _, _, _, _, _, _, _, 1, _, hC.fr (fun k hk => k4 k (Or.inl hk)), k3, oL_fr hL (k4 63 (by omega))⟩)
    · exfalso
      omega
  · refine mx_istore (i := 5) (mx_d D_W_law_10 35 rfl) (by decide) ?_
    refine mx_aload_n (k4 := 2) (mx_d D_W_law_10 36 rfl) (by rfl) ?_
    refine mx_aload_n (k4 := 0) (mx_d D_W_law_10 37 rfl) (by rfl) ?_
    refine mx_iload (i := 4) (mx_d D_W_law_10 38 rfl) (by rfl) ?_
    refine mx_iconst (n := 1) (mx_d D_W_law_10 39 rfl) ?_
    refine mx_iaddI (mx_d D_W_law_10 40 rfl) ?_
    refine mx_sld hX hbB (i + 1) (mx_d D_W_law_10 41 rfl) (by rfl) (by omega) (by omega) ?_
    refine mx_aload_n (k4 := 0) (mx_d D_W_law_10 42 rfl) (by rfl) ?_
    refine mx_iload (i := 4) (mx_d D_W_law_10 43 rfl) (by rfl) ?_
    refine mx_iconst (n := 2) (mx_d D_W_law_10 44 rfl) ?_
    refine mx_iaddI (mx_d D_W_law_10 45 rfl) ?_
    refine mx_sld hX hbB (i + 2) (mx_d D_W_law_10 46 rfl) (by rfl) (by omega) (by omega) ?_
    refine mx_callV hG (Y' := Y_M_span) (ci := 7) [_, _] (mx_d D_W_law_10 47 rfl) in_M_span w_743 w_744 s_M_span (by rfl) np_M_span (by exact Nat.le_of_ble_eq_true rfl) (by rfl) (by first | assumption | omega) ((k2 50 (by omega) (by omega)).trans h50) (by rfl) (by exact Nat.le_of_ble_eq_true rfl) (m_span (k := (xs (i + 1)).toInt) (z := (xs (i + 2)).toInt) hG (by omega) hV (hR.fr (fun k z1 z2 => k2 k z1 (by omega))) (i32_lo _) (i32_hi _) (i32_lo _) (i32_hi _) (fun ce2 g0 k3 k4 => ?_) (F := F) (L := L0) (fun j9 z1 z2 z3 => (show j = j9 by omega) ▸ h2) (fun ce2 j9 g0 g1 g2 k3 k4 => ?_))
    · exfalso
      omega
    · obtain rfl : j9 = j := by omega
      refine mx_istore (i := 6) (mx_d D_W_law_10 48 rfl) (by decide) ?_
      refine mx_aload_n (k4 := 2) (mx_d D_W_law_10 49 rfl) (by rfl) ?_
      refine mx_callV hG (Y' := Y_M_thrown) (ci := 7) [] (mx_d D_W_law_11 0 rfl) in_M_thrown w_651 w_652 s_M_thrown (by rfl) np_M_thrown (by exact Nat.le_of_ble_eq_true rfl) (by rfl) (by first | assumption | omega) (id k3).choose_spec.1 (by rfl) (by exact Nat.le_of_ble_eq_true rfl) (m_thrown hG (by omega) k3 ?_)
      refine mx_iload (i := 5) (mx_d D_W_law_11 1 rfl) (by rfl) ?_
      refine mx_icmp_eqY 931 (mx_d D_W_law_11 2 rfl) (by decide) (by decide) (by decide) (by decide) (by decide) rfl ?_
      refine mx_iload (i := 5) (mx_d D_W_law_11 5 rfl) (by rfl) ?_
      refine mx_if_neN 948 (mx_d D_W_law_11 6 rfl) (by decide) (by decide) (by decide) (by decide) ?_
      obtain ⟨f9, l1, l2⟩ := oL_fr kL (k4 63 (by omega))
      refine mx_aload_n (k4 := 3) (mx_d D_W_law_11 7 rfl) (by rfl) ?_
      refine mx_iconst (n := 0) (mx_d D_W_law_11 8 rfl) ?_
      refine mx_lald hG 2 (0) (mx_d D_W_law_11 9 rfl) (by first | assumption | omega) l1 (by rfl) (by rfl) (by omega) (by omega) ?_
      rw [l2]
      refine mx_iload (i := 6) (mx_d D_W_law_11 10 rfl) (by rfl) ?_
      refine mx_i2l (mx_d D_W_law_11 11 rfl) ?_
      refine mx_lcmpE (mx_d D_W_law_11 12 rfl) ?_
      refine mx_if_eqY 948 (mx_d D_W_law_11 13 rfl) (by decide) (by decide) (by decide) (by decide) ?_
      refine mx_goto 1238 (mx_d D_W_law_11 16 rfl) (by decide) ?_
      exact mx_loc (by rfl) (next ce2 ⟨_, _, _, _, _, _, _, _, _, _, _, _, _, _, _, _, _, _, 0, _, k1.fr (fun k hk => k4 k (Or.inl hk)), k3, oL_fr kL (k4 63 (by omega))⟩)
theorem lz_gap (hG : mx_ok G) (hK : mx_Nok G) (hX : va_X b L xs G.2.1 G.2.1.heap) (hbB : b < mx_B G) (hL2 : L ≤ 2562) (hi : i + 5 ≤ L) (hI : INV G ce) (next : ∀ ce', INV G ce' → mx_M G Y_W_law 10 bc bs false 64 ce' 1238 [(0, .ref b), (1, .ref (mx_B G + 0)), (2, .ref (mx_B G + 50)), (3, .ref (mx_B G + 63)), (4, .int (iI i))] [] Q) : mx_M G Y_W_law 10 (bc + 1) (bs + 6) false 64 ce 951 [(0, .ref b), (1, .ref (mx_B G + 0)), (2, .ref (mx_B G + 50)), (3, .ref (mx_B G + 63)), (4, .int (iI i))] [] Q := by
  obtain ⟨Y, U, nE, iE, nD, rA, rS, eA, eS, dA, dS, dW, lc, rn, rg, rN, ps, pN, th, v0, hC, hR, hL⟩ := hI
  have hV := hC.1
  have hC0 := hC.2.1
  obtain ⟨rw0, h50, hRA⟩ := id hR
  refine mx_aload_n (k4 := 1) (mx_d D_W_law_11 17 rfl) (by rfl) ?_
  refine mx_aload_n (k4 := 0) (mx_d D_W_law_11 18 rfl) (by rfl) ?_
  refine mx_iload (i := 4) (mx_d D_W_law_11 19 rfl) (by rfl) ?_
  refine mx_iconst (n := 1) (mx_d D_W_law_11 20 rfl) ?_
  refine mx_iaddI (mx_d D_W_law_11 21 rfl) ?_
  refine mx_sld hX hbB (i + 1) (mx_d D_W_law_11 22 rfl) (by rfl) (by omega) (by omega) ?_
  refine mx_aload_n (k4 := 0) (mx_d D_W_law_11 23 rfl) (by rfl) ?_
  refine mx_iload (i := 4) (mx_d D_W_law_11 24 rfl) (by rfl) ?_
  refine mx_iconst (n := 2) (mx_d D_W_law_11 25 rfl) ?_
  refine mx_iaddI (mx_d D_W_law_11 26 rfl) ?_
  refine mx_sld hX hbB (i + 2) (mx_d D_W_law_11 27 rfl) (by rfl) (by omega) (by omega) ?_
  refine mx_aload_n (k4 := 3) (mx_d D_W_law_11 28 rfl) (by rfl) ?_
  refine mx_callS (Y' := Y_W_gap) [_, _, _, _] (mx_d D_W_law_11 29 rfl) in_W_gap w_524 w_525 np_W_gap (by exact Nat.le_of_ble_eq_true rfl) (by rfl) (by rfl) (by exact Nat.le_of_ble_eq_true rfl) (w_gap hG hK (by omega) hC hL (i32_lo _) (i32_hi _) (i32_lo _) (i32_hi _) (fun h0 => ?_) (fun h0 h1 => ?_) (fun h0 h1 h2 => ?_) (fun ce1 j g h0 h1 h2 h3 h4 k1 kL k2 => ?_))
  · refine mx_istore (i := 5) (mx_d D_W_law_11 30 rfl) (by decide) ?_
    refine mx_aload_n (k4 := 2) (mx_d D_W_law_11 31 rfl) (by rfl) ?_
    refine mx_aload_n (k4 := 0) (mx_d D_W_law_11 32 rfl) (by rfl) ?_
    refine mx_iload (i := 4) (mx_d D_W_law_11 33 rfl) (by rfl) ?_
    refine mx_iconst (n := 1) (mx_d D_W_law_11 34 rfl) ?_
    refine mx_iaddI (mx_d D_W_law_11 35 rfl) ?_
    refine mx_sld hX hbB (i + 1) (mx_d D_W_law_11 36 rfl) (by rfl) (by omega) (by omega) ?_
    refine mx_aload_n (k4 := 0) (mx_d D_W_law_11 37 rfl) (by rfl) ?_
    refine mx_iload (i := 4) (mx_d D_W_law_11 38 rfl) (by rfl) ?_
    refine mx_iconst (n := 2) (mx_d D_W_law_11 39 rfl) ?_
    refine mx_iaddI (mx_d D_W_law_11 40 rfl) ?_
    refine mx_sld hX hbB (i + 2) (mx_d D_W_law_11 41 rfl) (by rfl) (by omega) (by omega) ?_
    refine mx_callV hG (Y' := Y_M_gap) (ci := 7) [_, _] (mx_d D_W_law_11 42 rfl) in_M_gap w_747 w_748 s_M_gap (by rfl) np_M_gap (by exact Nat.le_of_ble_eq_true rfl) (by rfl) (by first | assumption | omega) (by first | assumption | exact va_up_self _ _ _ | (rw [va_up_ne _ _ (by omega)]; first | assumption | exact va_up_self _ _ _ | (rw [va_up_ne _ _ (by omega)]; first | assumption | exact va_up_self _ _ _ | (rw [va_up_ne _ _ (by omega)]; first | assumption | exact va_up_self _ _ _ | (rw [va_up_ne _ _ (by omega)]; first | assumption | exact va_up_self _ _ _ | (rw [va_up_ne _ _ (by omega)]; first | assumption | exact va_up_self _ _ _)))))) (by rfl) (by exact Nat.le_of_ble_eq_true rfl) (m_gap hG (by omega) hV hR (i32_lo _) (i32_hi _) (i32_lo _) (i32_hi _) (fun ce2 g0 k3 k4 => ?_) (fun ce2 g0 g1 k3 k4 => ?_) (fun ce2 g0 g1 g2 k3 k4 => ?_) (fun ce2 j9 g9 g0 g1 g2 g3 g4 k3 k4 => ?_))
    · refine mx_istore (i := 6) (mx_d D_W_law_11 43 rfl) (by decide) ?_
      refine mx_aload_n (k4 := 2) (mx_d D_W_law_11 44 rfl) (by rfl) ?_
      refine mx_callV hG (Y' := Y_M_thrown) (ci := 7) [] (mx_d D_W_law_11 45 rfl) in_M_thrown w_651 w_652 s_M_thrown (by rfl) np_M_thrown (by exact Nat.le_of_ble_eq_true rfl) (by rfl) (by first | assumption | omega) (id k3).choose_spec.1 (by rfl) (by exact Nat.le_of_ble_eq_true rfl) (m_thrown hG (by omega) k3 ?_)
      refine mx_iload (i := 5) (mx_d D_W_law_11 46 rfl) (by rfl) ?_
      refine mx_icmp_eqY 999 (mx_d D_W_law_11 47 rfl) (by decide) (by decide) (by decide) (by decide) (by decide) rfl ?_
      refine mx_iload (i := 5) (mx_d D_W_law_12 0 rfl) (by rfl) ?_
      refine mx_if_neY 1016 (mx_d D_W_law_12 1 rfl) (by decide) (by decide) (by decide) (by decide) ?_
      refine mx_goto 1238 (mx_d D_W_law_12 11 rfl) (by decide) ?_
      exact mx_loc (by rfl) (next ce2 ⟨_, _, _, _, _, _, _, _, _, _, _, _, _, _, _, _, _, _, 1, _, hC.fr (fun k hk => k4 k (Or.inl hk)), k3, oL_fr hL (k4 63 (by omega))⟩)
    · exfalso
      omega
    · exfalso
      omega
    · exfalso
      omega
  · refine mx_istore (i := 5) (mx_d D_W_law_11 30 rfl) (by decide) ?_
    refine mx_aload_n (k4 := 2) (mx_d D_W_law_11 31 rfl) (by rfl) ?_
    refine mx_aload_n (k4 := 0) (mx_d D_W_law_11 32 rfl) (by rfl) ?_
    refine mx_iload (i := 4) (mx_d D_W_law_11 33 rfl) (by rfl) ?_
    refine mx_iconst (n := 1) (mx_d D_W_law_11 34 rfl) ?_
    refine mx_iaddI (mx_d D_W_law_11 35 rfl) ?_
    refine mx_sld hX hbB (i + 1) (mx_d D_W_law_11 36 rfl) (by rfl) (by omega) (by omega) ?_
    refine mx_aload_n (k4 := 0) (mx_d D_W_law_11 37 rfl) (by rfl) ?_
    refine mx_iload (i := 4) (mx_d D_W_law_11 38 rfl) (by rfl) ?_
    refine mx_iconst (n := 2) (mx_d D_W_law_11 39 rfl) ?_
    refine mx_iaddI (mx_d D_W_law_11 40 rfl) ?_
    refine mx_sld hX hbB (i + 2) (mx_d D_W_law_11 41 rfl) (by rfl) (by omega) (by omega) ?_
    refine mx_callV hG (Y' := Y_M_gap) (ci := 7) [_, _] (mx_d D_W_law_11 42 rfl) in_M_gap w_747 w_748 s_M_gap (by rfl) np_M_gap (by exact Nat.le_of_ble_eq_true rfl) (by rfl) (by first | assumption | omega) (by first | assumption | exact va_up_self _ _ _ | (rw [va_up_ne _ _ (by omega)]; first | assumption | exact va_up_self _ _ _ | (rw [va_up_ne _ _ (by omega)]; first | assumption | exact va_up_self _ _ _ | (rw [va_up_ne _ _ (by omega)]; first | assumption | exact va_up_self _ _ _ | (rw [va_up_ne _ _ (by omega)]; first | assumption | exact va_up_self _ _ _ | (rw [va_up_ne _ _ (by omega)]; first | assumption | exact va_up_self _ _ _)))))) (by rfl) (by exact Nat.le_of_ble_eq_true rfl) (m_gap hG (by omega) hV hR (i32_lo _) (i32_hi _) (i32_lo _) (i32_hi _) (fun ce2 g0 k3 k4 => ?_) (fun ce2 g0 g1 k3 k4 => ?_) (fun ce2 g0 g1 g2 k3 k4 => ?_) (fun ce2 j9 g9 g0 g1 g2 g3 g4 k3 k4 => ?_))
    · exfalso
      omega
    · refine mx_istore (i := 6) (mx_d D_W_law_11 43 rfl) (by decide) ?_
      refine mx_aload_n (k4 := 2) (mx_d D_W_law_11 44 rfl) (by rfl) ?_
      refine mx_callV hG (Y' := Y_M_thrown) (ci := 7) [] (mx_d D_W_law_11 45 rfl) in_M_thrown w_651 w_652 s_M_thrown (by rfl) np_M_thrown (by exact Nat.le_of_ble_eq_true rfl) (by rfl) (by first | assumption | omega) (id k3).choose_spec.1 (by rfl) (by exact Nat.le_of_ble_eq_true rfl) (m_thrown hG (by omega) k3 ?_)
      refine mx_iload (i := 5) (mx_d D_W_law_11 46 rfl) (by rfl) ?_
      refine mx_icmp_eqY 999 (mx_d D_W_law_11 47 rfl) (by decide) (by decide) (by decide) (by decide) (by decide) rfl ?_
      refine mx_iload (i := 5) (mx_d D_W_law_12 0 rfl) (by rfl) ?_
      refine mx_if_neY 1016 (mx_d D_W_law_12 1 rfl) (by decide) (by decide) (by decide) (by decide) ?_
      refine mx_goto 1238 (mx_d D_W_law_12 11 rfl) (by decide) ?_
      exact mx_loc (by rfl) (next ce2 ⟨_, _, _, _, _, _, _, _, _, _, _, _, _, _, _, _, _, _, 2, _, hC.fr (fun k hk => k4 k (Or.inl hk)), k3, oL_fr hL (k4 63 (by omega))⟩)
    · exfalso
      omega
    · exfalso
      omega
  · refine mx_istore (i := 5) (mx_d D_W_law_11 30 rfl) (by decide) ?_
    refine mx_aload_n (k4 := 2) (mx_d D_W_law_11 31 rfl) (by rfl) ?_
    refine mx_aload_n (k4 := 0) (mx_d D_W_law_11 32 rfl) (by rfl) ?_
    refine mx_iload (i := 4) (mx_d D_W_law_11 33 rfl) (by rfl) ?_
    refine mx_iconst (n := 1) (mx_d D_W_law_11 34 rfl) ?_
    refine mx_iaddI (mx_d D_W_law_11 35 rfl) ?_
    refine mx_sld hX hbB (i + 1) (mx_d D_W_law_11 36 rfl) (by rfl) (by omega) (by omega) ?_
    refine mx_aload_n (k4 := 0) (mx_d D_W_law_11 37 rfl) (by rfl) ?_
    refine mx_iload (i := 4) (mx_d D_W_law_11 38 rfl) (by rfl) ?_
    refine mx_iconst (n := 2) (mx_d D_W_law_11 39 rfl) ?_
    refine mx_iaddI (mx_d D_W_law_11 40 rfl) ?_
    refine mx_sld hX hbB (i + 2) (mx_d D_W_law_11 41 rfl) (by rfl) (by omega) (by omega) ?_
    refine mx_callV hG (Y' := Y_M_gap) (ci := 7) [_, _] (mx_d D_W_law_11 42 rfl) in_M_gap w_747 w_748 s_M_gap (by rfl) np_M_gap (by exact Nat.le_of_ble_eq_true rfl) (by rfl) (by first | assumption | omega) (by first | assumption | exact va_up_self _ _ _ | (rw [va_up_ne _ _ (by omega)]; first | assumption | exact va_up_self _ _ _ | (rw [va_up_ne _ _ (by omega)]; first | assumption | exact va_up_self _ _ _ | (rw [va_up_ne _ _ (by omega)]; first | assumption | exact va_up_self _ _ _ | (rw [va_up_ne _ _ (by omega)]; first | assumption | exact va_up_self _ _ _ | (rw [va_up_ne _ _ (by omega)]; first | assumption | exact va_up_self _ _ _)))))) (by rfl) (by exact Nat.le_of_ble_eq_true rfl) (m_gap hG (by omega) hV hR (i32_lo _) (i32_hi _) (i32_lo _) (i32_hi _) (fun ce2 g0 k3 k4 => ?_) (fun ce2 g0 g1 k3 k4 => ?_) (fun ce2 g0 g1 g2 k3 k4 => ?_) (fun ce2 j9 g9 g0 g1 g2 g3 g4 k3 k4 => ?_))
    · exfalso
      omega
    · exfalso
      omega
    · refine mx_istore (i := 6) (mx_d D_W_law_11 43 rfl) (by decide) ?_
      refine mx_aload_n (k4 := 2) (mx_d D_W_law_11 44 rfl) (by rfl) ?_
      refine mx_callV hG (Y' := Y_M_thrown) (ci := 7) [] (mx_d D_W_law_11 45 rfl) in_M_thrown w_651 w_652 s_M_thrown (by rfl) np_M_thrown (by exact Nat.le_of_ble_eq_true rfl) (by rfl) (by first | assumption | omega) (id k3).choose_spec.1 (by rfl) (by exact Nat.le_of_ble_eq_true rfl) (m_thrown hG (by omega) k3 ?_)
      refine mx_iload (i := 5) (mx_d D_W_law_11 46 rfl) (by rfl) ?_
      refine mx_icmp_eqY 999 (mx_d D_W_law_11 47 rfl) (by decide) (by decide) (by decide) (by decide) (by decide) rfl ?_
      refine mx_iload (i := 5) (mx_d D_W_law_12 0 rfl) (by rfl) ?_
      refine mx_if_neY 1016 (mx_d D_W_law_12 1 rfl) (by decide) (by decide) (by decide) (by decide) ?_
      refine mx_goto 1238 (mx_d D_W_law_12 11 rfl) (by decide) ?_
      exact mx_loc (by rfl) (next ce2 ⟨_, _, _, _, _, _, _, _, _, _, _, _, _, _, _, _, _, _, 3, _, hC.fr (fun k hk => k4 k (Or.inl hk)), k3, oL_fr hL (k4 63 (by omega))⟩)
    · exfalso
      omega
  · refine mx_istore (i := 5) (mx_d D_W_law_11 30 rfl) (by decide) ?_
    refine mx_aload_n (k4 := 2) (mx_d D_W_law_11 31 rfl) (by rfl) ?_
    refine mx_aload_n (k4 := 0) (mx_d D_W_law_11 32 rfl) (by rfl) ?_
    refine mx_iload (i := 4) (mx_d D_W_law_11 33 rfl) (by rfl) ?_
    refine mx_iconst (n := 1) (mx_d D_W_law_11 34 rfl) ?_
    refine mx_iaddI (mx_d D_W_law_11 35 rfl) ?_
    refine mx_sld hX hbB (i + 1) (mx_d D_W_law_11 36 rfl) (by rfl) (by omega) (by omega) ?_
    refine mx_aload_n (k4 := 0) (mx_d D_W_law_11 37 rfl) (by rfl) ?_
    refine mx_iload (i := 4) (mx_d D_W_law_11 38 rfl) (by rfl) ?_
    refine mx_iconst (n := 2) (mx_d D_W_law_11 39 rfl) ?_
    refine mx_iaddI (mx_d D_W_law_11 40 rfl) ?_
    refine mx_sld hX hbB (i + 2) (mx_d D_W_law_11 41 rfl) (by rfl) (by omega) (by omega) ?_
    refine mx_callV hG (Y' := Y_M_gap) (ci := 7) [_, _] (mx_d D_W_law_11 42 rfl) in_M_gap w_747 w_748 s_M_gap (by rfl) np_M_gap (by exact Nat.le_of_ble_eq_true rfl) (by rfl) (by first | assumption | omega) ((k2 50 (by omega) (by omega)).trans h50) (by rfl) (by exact Nat.le_of_ble_eq_true rfl) (m_gap hG (by omega) hV (hR.fr (fun k z1 z2 => k2 k z1 (by omega))) (i32_lo _) (i32_hi _) (i32_lo _) (i32_hi _) (fun ce2 g0 k3 k4 => ?_) (fun ce2 g0 g1 k3 k4 => ?_) (fun ce2 g0 g1 g2 k3 k4 => ?_) (fun ce2 j9 g9 g0 g1 g2 g3 g4 k3 k4 => ?_))
    · exfalso
      omega
    · exfalso
      omega
    · exfalso
      omega
    · obtain rfl : j9 = j := by omega
      obtain rfl : g9 = g := by omega
      refine mx_istore (i := 6) (mx_d D_W_law_11 43 rfl) (by decide) ?_
      refine mx_aload_n (k4 := 2) (mx_d D_W_law_11 44 rfl) (by rfl) ?_
      refine mx_callV hG (Y' := Y_M_thrown) (ci := 7) [] (mx_d D_W_law_11 45 rfl) in_M_thrown w_651 w_652 s_M_thrown (by rfl) np_M_thrown (by exact Nat.le_of_ble_eq_true rfl) (by rfl) (by first | assumption | omega) (id k3).choose_spec.1 (by rfl) (by exact Nat.le_of_ble_eq_true rfl) (m_thrown hG (by omega) k3 ?_)
      refine mx_iload (i := 5) (mx_d D_W_law_11 46 rfl) (by rfl) ?_
      refine mx_icmp_eqY 999 (mx_d D_W_law_11 47 rfl) (by decide) (by decide) (by decide) (by decide) (by decide) rfl ?_
      refine mx_iload (i := 5) (mx_d D_W_law_12 0 rfl) (by rfl) ?_
      refine mx_if_neN 1016 (mx_d D_W_law_12 1 rfl) (by decide) (by decide) (by decide) (by decide) ?_
      obtain ⟨f9, l1, l2⟩ := oL_fr kL (k4 63 (by omega))
      refine mx_aload_n (k4 := 3) (mx_d D_W_law_12 2 rfl) (by rfl) ?_
      refine mx_iconst (n := 0) (mx_d D_W_law_12 3 rfl) ?_
      refine mx_lald hG 2 (0) (mx_d D_W_law_12 4 rfl) (by first | assumption | omega) l1 (by rfl) (by rfl) (by omega) (by omega) ?_
      rw [l2]
      refine mx_iload (i := 6) (mx_d D_W_law_12 5 rfl) (by rfl) ?_
      refine mx_i2l (mx_d D_W_law_12 6 rfl) ?_
      refine mx_lcmpE (mx_d D_W_law_12 7 rfl) ?_
      refine mx_if_eqY 1016 (mx_d D_W_law_12 8 rfl) (by decide) (by decide) (by decide) (by decide) ?_
      refine mx_goto 1238 (mx_d D_W_law_12 11 rfl) (by decide) ?_
      exact mx_loc (by rfl) (next ce2 ⟨_, _, _, _, _, _, _, _, _, _, _, _, _, _, _, _, _, _, 0, _, k1.fr (fun k hk => k4 k (Or.inl hk)), k3, oL_fr kL (k4 63 (by omega))⟩)
theorem lz_slid (hG : mx_ok G) (hK : mx_Nok G) (hX : va_X b L xs G.2.1 G.2.1.heap) (hbB : b < mx_B G) (hL2 : L ≤ 2562) (hi : i + 5 ≤ L) (hI : INV G ce) (next : ∀ ce', INV G ce' → mx_M G Y_W_law 10 bc bs false 64 ce' 1238 [(0, .ref b), (1, .ref (mx_B G + 0)), (2, .ref (mx_B G + 50)), (3, .ref (mx_B G + 63)), (4, .int (iI i))] [] Q) : mx_M G Y_W_law 10 (bc + 1) (bs + 6) false 64 ce 1019 [(0, .ref b), (1, .ref (mx_B G + 0)), (2, .ref (mx_B G + 50)), (3, .ref (mx_B G + 63)), (4, .int (iI i))] [] Q := by
  obtain ⟨Y, U, nE, iE, nD, rA, rS, eA, eS, dA, dS, dW, lc, rn, rg, rN, ps, pN, th, v0, hC, hR, hL⟩ := hI
  have hV := hC.1
  have hC0 := hC.2.1
  obtain ⟨rw0, h50, hRA⟩ := id hR
  refine mx_aload_n (k4 := 1) (mx_d D_W_law_12 12 rfl) (by rfl) ?_
  refine mx_aload_n (k4 := 0) (mx_d D_W_law_12 13 rfl) (by rfl) ?_
  refine mx_iload (i := 4) (mx_d D_W_law_12 14 rfl) (by rfl) ?_
  refine mx_iconst (n := 1) (mx_d D_W_law_12 15 rfl) ?_
  refine mx_iaddI (mx_d D_W_law_12 16 rfl) ?_
  refine mx_sld hX hbB (i + 1) (mx_d D_W_law_12 17 rfl) (by rfl) (by omega) (by omega) ?_
  refine mx_aload_n (k4 := 3) (mx_d D_W_law_12 18 rfl) (by rfl) ?_
  refine mx_callS (Y' := Y_W_slid) [_, _, _] (mx_d D_W_law_12 19 rfl) in_W_slid w_537 w_538 np_W_slid (by exact Nat.le_of_ble_eq_true rfl) (by rfl) (by rfl) (by exact Nat.le_of_ble_eq_true rfl) (w_slid hG hK (by omega) hC hL (i32_lo _) (i32_hi _) (fun h0 => ?_) (fun ce1 m h0 h1 k1 kL k2 => ?_))
  · refine mx_istore (i := 5) (mx_d D_W_law_12 20 rfl) (by decide) ?_
    refine mx_aload_n (k4 := 2) (mx_d D_W_law_12 21 rfl) (by rfl) ?_
    refine mx_aload_n (k4 := 0) (mx_d D_W_law_12 22 rfl) (by rfl) ?_
    refine mx_iload (i := 4) (mx_d D_W_law_12 23 rfl) (by rfl) ?_
    refine mx_iconst (n := 1) (mx_d D_W_law_12 24 rfl) ?_
    refine mx_iaddI (mx_d D_W_law_12 25 rfl) ?_
    refine mx_sld hX hbB (i + 1) (mx_d D_W_law_12 26 rfl) (by rfl) (by omega) (by omega) ?_
    refine mx_callV hG (Y' := Y_M_slid) (ci := 7) [_] (mx_d D_W_law_12 27 rfl) in_M_slid w_751 w_752 s_M_slid (by rfl) np_M_slid (by exact Nat.le_of_ble_eq_true rfl) (by rfl) (by first | assumption | omega) (by first | assumption | exact va_up_self _ _ _ | (rw [va_up_ne _ _ (by omega)]; first | assumption | exact va_up_self _ _ _ | (rw [va_up_ne _ _ (by omega)]; first | assumption | exact va_up_self _ _ _ | (rw [va_up_ne _ _ (by omega)]; first | assumption | exact va_up_self _ _ _ | (rw [va_up_ne _ _ (by omega)]; first | assumption | exact va_up_self _ _ _ | (rw [va_up_ne _ _ (by omega)]; first | assumption | exact va_up_self _ _ _)))))) (by rfl) (by exact Nat.le_of_ble_eq_true rfl) (m_slid hG (by omega) hV hR (i32_lo _) (i32_hi _) (fun ce2 g0 k3 k4 => ?_) (fun ce2 m9 g0 g1 k3 k4 => ?_))
    · refine mx_istore (i := 6) (mx_d D_W_law_12 28 rfl) (by decide) ?_
      refine mx_aload_n (k4 := 2) (mx_d D_W_law_12 29 rfl) (by rfl) ?_
      refine mx_callV hG (Y' := Y_M_thrown) (ci := 7) [] (mx_d D_W_law_12 30 rfl) in_M_thrown w_651 w_652 s_M_thrown (by rfl) np_M_thrown (by exact Nat.le_of_ble_eq_true rfl) (by rfl) (by first | assumption | omega) (id k3).choose_spec.1 (by rfl) (by exact Nat.le_of_ble_eq_true rfl) (m_thrown hG (by omega) k3 ?_)
      refine mx_iload (i := 5) (mx_d D_W_law_12 31 rfl) (by rfl) ?_
      refine mx_icmp_eqY 1055 (mx_d D_W_law_12 32 rfl) (by decide) (by decide) (by decide) (by decide) (by decide) rfl ?_
      refine mx_iload (i := 5) (mx_d D_W_law_12 35 rfl) (by rfl) ?_
      refine mx_if_neY 1072 (mx_d D_W_law_12 36 rfl) (by decide) (by decide) (by decide) (by decide) ?_
      refine mx_goto 1238 (mx_d D_W_law_12 46 rfl) (by decide) ?_
      exact mx_loc (by rfl) (next ce2 ⟨_, _, _, _, _, _, _, _, _, _, _, _, _, _, _, _, _, _, 1, _, hC.fr (fun k hk => k4 k (Or.inl hk)), k3, oL_fr hL (k4 63 (by omega))⟩)
    · exfalso
      omega
  · refine mx_istore (i := 5) (mx_d D_W_law_12 20 rfl) (by decide) ?_
    refine mx_aload_n (k4 := 2) (mx_d D_W_law_12 21 rfl) (by rfl) ?_
    refine mx_aload_n (k4 := 0) (mx_d D_W_law_12 22 rfl) (by rfl) ?_
    refine mx_iload (i := 4) (mx_d D_W_law_12 23 rfl) (by rfl) ?_
    refine mx_iconst (n := 1) (mx_d D_W_law_12 24 rfl) ?_
    refine mx_iaddI (mx_d D_W_law_12 25 rfl) ?_
    refine mx_sld hX hbB (i + 1) (mx_d D_W_law_12 26 rfl) (by rfl) (by omega) (by omega) ?_
    refine mx_callV hG (Y' := Y_M_slid) (ci := 7) [_] (mx_d D_W_law_12 27 rfl) in_M_slid w_751 w_752 s_M_slid (by rfl) np_M_slid (by exact Nat.le_of_ble_eq_true rfl) (by rfl) (by first | assumption | omega) ((k2 50 (by omega) (by omega)).trans h50) (by rfl) (by exact Nat.le_of_ble_eq_true rfl) (m_slid hG (by omega) hV (hR.fr (fun k z1 z2 => k2 k z1 (by omega))) (i32_lo _) (i32_hi _) (fun ce2 g0 k3 k4 => ?_) (fun ce2 m9 g0 g1 k3 k4 => ?_))
    · exfalso
      omega
    · obtain rfl : m9 = m := by omega
      refine mx_istore (i := 6) (mx_d D_W_law_12 28 rfl) (by decide) ?_
      refine mx_aload_n (k4 := 2) (mx_d D_W_law_12 29 rfl) (by rfl) ?_
      refine mx_callV hG (Y' := Y_M_thrown) (ci := 7) [] (mx_d D_W_law_12 30 rfl) in_M_thrown w_651 w_652 s_M_thrown (by rfl) np_M_thrown (by exact Nat.le_of_ble_eq_true rfl) (by rfl) (by first | assumption | omega) (id k3).choose_spec.1 (by rfl) (by exact Nat.le_of_ble_eq_true rfl) (m_thrown hG (by omega) k3 ?_)
      refine mx_iload (i := 5) (mx_d D_W_law_12 31 rfl) (by rfl) ?_
      refine mx_icmp_eqY 1055 (mx_d D_W_law_12 32 rfl) (by decide) (by decide) (by decide) (by decide) (by decide) rfl ?_
      refine mx_iload (i := 5) (mx_d D_W_law_12 35 rfl) (by rfl) ?_
      refine mx_if_neN 1072 (mx_d D_W_law_12 36 rfl) (by decide) (by decide) (by decide) (by decide) ?_
      obtain ⟨f9, l1, l2⟩ := oL_fr kL (k4 63 (by omega))
      refine mx_aload_n (k4 := 3) (mx_d D_W_law_12 37 rfl) (by rfl) ?_
      refine mx_iconst (n := 0) (mx_d D_W_law_12 38 rfl) ?_
      refine mx_lald hG 2 (0) (mx_d D_W_law_12 39 rfl) (by first | assumption | omega) l1 (by rfl) (by rfl) (by omega) (by omega) ?_
      rw [l2]
      refine mx_iload (i := 6) (mx_d D_W_law_12 40 rfl) (by rfl) ?_
      refine mx_i2l (mx_d D_W_law_12 41 rfl) ?_
      refine mx_lcmpE (mx_d D_W_law_12 42 rfl) ?_
      refine mx_if_eqY 1072 (mx_d D_W_law_12 43 rfl) (by decide) (by decide) (by decide) (by decide) ?_
      refine mx_goto 1238 (mx_d D_W_law_12 46 rfl) (by decide) ?_
      exact mx_loc (by rfl) (next ce2 ⟨_, _, _, _, _, _, _, _, _, _, _, _, _, _, _, _, _, _, 0, _, k1.fr (fun k hk => k4 k (Or.inl hk)), k3, oL_fr kL (k4 63 (by omega))⟩)
theorem lz_wiggle (hG : mx_ok G) (hK : mx_Nok G) (hX : va_X b L xs G.2.1 G.2.1.heap) (hbB : b < mx_B G) (hL2 : L ≤ 2562) (hi : i + 5 ≤ L) (hI : INV G ce) (next : ∀ ce', INV G ce' → mx_M G Y_W_law 10 bc bs false 64 ce' 1238 [(0, .ref b), (1, .ref (mx_B G + 0)), (2, .ref (mx_B G + 50)), (3, .ref (mx_B G + 63)), (4, .int (iI i))] [] Q) : mx_M G Y_W_law 10 (bc + 1) (bs + 6) false 64 ce 1075 [(0, .ref b), (1, .ref (mx_B G + 0)), (2, .ref (mx_B G + 50)), (3, .ref (mx_B G + 63)), (4, .int (iI i))] [] Q := by
  obtain ⟨Y, U, nE, iE, nD, rA, rS, eA, eS, dA, dS, dW, lc, rn, rg, rN, ps, pN, th, v0, hC, hR, hL⟩ := hI
  have hV := hC.1
  have hC0 := hC.2.1
  obtain ⟨rw0, h50, hRA⟩ := id hR
  refine mx_bud (Nat.le_succ bc) (Nat.le_add_right bs 6) ?_
  refine mx_aload_n (k4 := 1) (mx_d D_W_law_12 47 rfl) (by rfl) ?_
  refine mx_callV hG (Y' := Y_C_wiggle) (ci := 0) [] (mx_d D_W_law_12 48 rfl) in_C_wiggle w_189 w_190 s_C_wiggle (by rfl) np_C_wiggle (by exact Nat.le_of_ble_eq_true rfl) (by rfl) (by first | assumption | omega) (by first | assumption | exact va_up_self _ _ _ | (rw [va_up_ne _ _ (by omega)]; first | assumption | exact va_up_self _ _ _ | (rw [va_up_ne _ _ (by omega)]; first | assumption | exact va_up_self _ _ _ | (rw [va_up_ne _ _ (by omega)]; first | assumption | exact va_up_self _ _ _ | (rw [va_up_ne _ _ (by omega)]; first | assumption | exact va_up_self _ _ _ | (rw [va_up_ne _ _ (by omega)]; first | assumption | exact va_up_self _ _ _)))))) (by rfl) (by exact Nat.le_of_ble_eq_true rfl) (c_C_wiggle hG (by omega) hC ?_)
  refine mx_aload_n (k4 := 2) (mx_d D_W_law_12 49 rfl) (by rfl) ?_
  refine mx_callV hG (Y' := Y_M_wiggle) (ci := 7) [] (mx_d D_W_law_13 0 rfl) in_M_wiggle w_759 w_760 s_M_wiggle (by rfl) np_M_wiggle (by exact Nat.le_of_ble_eq_true rfl) (by rfl) (by first | assumption | omega) (by first | assumption | exact va_up_self _ _ _ | (rw [va_up_ne _ _ (by omega)]; first | assumption | exact va_up_self _ _ _ | (rw [va_up_ne _ _ (by omega)]; first | assumption | exact va_up_self _ _ _ | (rw [va_up_ne _ _ (by omega)]; first | assumption | exact va_up_self _ _ _ | (rw [va_up_ne _ _ (by omega)]; first | assumption | exact va_up_self _ _ _ | (rw [va_up_ne _ _ (by omega)]; first | assumption | exact va_up_self _ _ _)))))) (by rfl) (by exact Nat.le_of_ble_eq_true rfl) (m_wiggle hG (by omega) hV hR (fun ce2 k3 k4 => ?_))
  have hb := bstTo_lt (fun y => slTo Y dW rn rg y rN) (n := Y)
  have hY9 := hV.1.2
  refine mx_icmp_eqY 1238 (mx_d D_W_law_13 1 rfl) (by decide) (by split <;> omega) (by split <;> omega) (by split <;> omega) (by split <;> omega) rfl ?_
  exact mx_loc (by rfl) (next ce2 ⟨Y, U, nE, iE, nD, rA, rS, eA, eS, dA, dS, dW, lc, rn, rg, rN, ps, pN, 0, v0, hC.fr (fun k hk => k4 k (Or.inl hk)), k3, oL_fr hL (k4 63 (by omega))⟩)
theorem lz_clear (hG : mx_ok G) (hK : mx_Nok G) (hX : va_X b L xs G.2.1 G.2.1.heap) (hbB : b < mx_B G) (hL2 : L ≤ 2562) (hi : i + 5 ≤ L) (hI : INV G ce) (next : ∀ ce', INV G ce' → mx_M G Y_W_law 10 bc bs false 64 ce' 1238 [(0, .ref b), (1, .ref (mx_B G + 0)), (2, .ref (mx_B G + 50)), (3, .ref (mx_B G + 63)), (4, .int (iI i))] [] Q) : mx_M G Y_W_law 10 (bc + 1) (bs + 6) false 64 ce 1088 [(0, .ref b), (1, .ref (mx_B G + 0)), (2, .ref (mx_B G + 50)), (3, .ref (mx_B G + 63)), (4, .int (iI i))] [] Q := by
  obtain ⟨Y, U, nE, iE, nD, rA, rS, eA, eS, dA, dS, dW, lc, rn, rg, rN, ps, pN, th, v0, hC, hR, hL⟩ := hI
  have hV := hC.1
  have hC0 := hC.2.1
  obtain ⟨rw0, h50, hRA⟩ := id hR
  refine mx_bud (Nat.le_succ bc) (Nat.le_add_right bs 6) ?_
  refine mx_aload_n (k4 := 1) (mx_d D_W_law_13 4 rfl) (by rfl) ?_
  refine mx_callV hG (Y' := Y_C_clear) (ci := 0) [] (mx_d D_W_law_13 5 rfl) in_C_clear w_197 w_198 s_C_clear (by rfl) np_C_clear (by exact Nat.le_of_ble_eq_true rfl) (by rfl) (by first | assumption | omega) (by first | assumption | exact va_up_self _ _ _ | (rw [va_up_ne _ _ (by omega)]; first | assumption | exact va_up_self _ _ _ | (rw [va_up_ne _ _ (by omega)]; first | assumption | exact va_up_self _ _ _ | (rw [va_up_ne _ _ (by omega)]; first | assumption | exact va_up_self _ _ _ | (rw [va_up_ne _ _ (by omega)]; first | assumption | exact va_up_self _ _ _ | (rw [va_up_ne _ _ (by omega)]; first | assumption | exact va_up_self _ _ _)))))) (by rfl) (by exact Nat.le_of_ble_eq_true rfl) (c_C_clear hG (by omega) hC (fun ce1 k1 k2 => ?_))
  refine mx_aload_n (k4 := 2) (mx_d D_W_law_13 6 rfl) (by rfl) ?_
  refine mx_callV hG (Y' := Y_M_clear) (ci := 7) [] (mx_d D_W_law_13 7 rfl) in_M_clear w_763 w_764 s_M_clear (by rfl) np_M_clear (by exact Nat.le_of_ble_eq_true rfl) (by rfl) (by first | assumption | omega) ((k2 50 (by omega)).trans h50) (by rfl) (by exact Nat.le_of_ble_eq_true rfl) (m_clear hG (by omega) (hR.fr (fun k h1 h2 => k2 k h1)) (fun ce2 k3 k4 => ?_))
  have hr9 := hV.2.2.2.2.2.2.2.2.2.2.2.2.1
  refine mx_icmp_eqY 1238 (mx_d D_W_law_13 8 rfl) (by decide) (by omega) (by omega) (by omega) (by omega) rfl ?_
  exact mx_loc (by rfl) (next ce2 ⟨Y, U, nE, iE, nD, rA, rS, eA, eS, dA, dS, dW, lc, rn, rg, 0, ps, pN, 0, v0, k1.fr (fun k hk => k4 k (Or.inl hk)), k3, oL_fr hL ((k4 63 (by omega)).trans (k2 63 (by omega)))⟩)
theorem lz_unit (hG : mx_ok G) (hK : mx_Nok G) (hX : va_X b L xs G.2.1 G.2.1.heap) (hbB : b < mx_B G) (hL2 : L ≤ 2562) (hi : i + 5 ≤ L) (hI : INV G ce) (next : ∀ ce', INV G ce' → mx_M G Y_W_law 10 bc bs false 64 ce' 1238 [(0, .ref b), (1, .ref (mx_B G + 0)), (2, .ref (mx_B G + 50)), (3, .ref (mx_B G + 63)), (4, .int (iI i))] [] Q) : mx_M G Y_W_law 10 (bc + 1) (bs + 6) false 64 ce 1101 [(0, .ref b), (1, .ref (mx_B G + 0)), (2, .ref (mx_B G + 50)), (3, .ref (mx_B G + 63)), (4, .int (iI i))] [] Q := by
  obtain ⟨Y, U, nE, iE, nD, rA, rS, eA, eS, dA, dS, dW, lc, rn, rg, rN, ps, pN, th, v0, hC, hR, hL⟩ := hI
  have hV := hC.1
  have hC0 := hC.2.1
  obtain ⟨rw0, h50, hRA⟩ := id hR
  refine mx_aload_n (k4 := 1) (mx_d D_W_law_13 11 rfl) (by rfl) ?_
  refine mx_aload_n (k4 := 0) (mx_d D_W_law_13 12 rfl) (by rfl) ?_
  refine mx_iload (i := 4) (mx_d D_W_law_13 13 rfl) (by rfl) ?_
  refine mx_iconst (n := 1) (mx_d D_W_law_13 14 rfl) ?_
  refine mx_iaddI (mx_d D_W_law_13 15 rfl) ?_
  refine mx_sld hX hbB (i + 1) (mx_d D_W_law_13 16 rfl) (by rfl) (by omega) (by omega) ?_
  refine mx_aload_n (k4 := 0) (mx_d D_W_law_13 17 rfl) (by rfl) ?_
  refine mx_iload (i := 4) (mx_d D_W_law_13 18 rfl) (by rfl) ?_
  refine mx_iconst (n := 2) (mx_d D_W_law_13 19 rfl) ?_
  refine mx_iaddI (mx_d D_W_law_13 20 rfl) ?_
  refine mx_sld hX hbB (i + 2) (mx_d D_W_law_13 21 rfl) (by rfl) (by omega) (by omega) ?_
  refine mx_aload_n (k4 := 3) (mx_d D_W_law_13 22 rfl) (by rfl) ?_
  refine mx_callS (Y' := Y_W_unit) [_, _, _, _] (mx_d D_W_law_13 23 rfl) in_W_unit w_544 w_545 np_W_unit (by exact Nat.le_of_ble_eq_true rfl) (by rfl) (by rfl) (by exact Nat.le_of_ble_eq_true rfl) (w_unit hG hK (by omega) hC hL  (fun h0 => ?_) (fun h0 h1 => ?_) (fun ce1  h0 h1 k1 kL k2 => ?_))
  · refine mx_istore (i := 5) (mx_d D_W_law_13 24 rfl) (by decide) ?_
    refine mx_aload_n (k4 := 2) (mx_d D_W_law_13 25 rfl) (by rfl) ?_
    refine mx_aload_n (k4 := 0) (mx_d D_W_law_13 26 rfl) (by rfl) ?_
    refine mx_iload (i := 4) (mx_d D_W_law_13 27 rfl) (by rfl) ?_
    refine mx_iconst (n := 1) (mx_d D_W_law_13 28 rfl) ?_
    refine mx_iaddI (mx_d D_W_law_13 29 rfl) ?_
    refine mx_sld hX hbB (i + 1) (mx_d D_W_law_13 30 rfl) (by rfl) (by omega) (by omega) ?_
    refine mx_aload_n (k4 := 0) (mx_d D_W_law_13 31 rfl) (by rfl) ?_
    refine mx_iload (i := 4) (mx_d D_W_law_13 32 rfl) (by rfl) ?_
    refine mx_iconst (n := 2) (mx_d D_W_law_13 33 rfl) ?_
    refine mx_iaddI (mx_d D_W_law_13 34 rfl) ?_
    refine mx_sld hX hbB (i + 2) (mx_d D_W_law_13 35 rfl) (by rfl) (by omega) (by omega) ?_
    refine mx_callV hG (Y' := Y_M_unit) (ci := 7) [_, _] (mx_d D_W_law_13 36 rfl) in_M_unit w_767 w_768 s_M_unit (by rfl) np_M_unit (by exact Nat.le_of_ble_eq_true rfl) (by rfl) (by first | assumption | omega) (by first | assumption | exact va_up_self _ _ _ | (rw [va_up_ne _ _ (by omega)]; first | assumption | exact va_up_self _ _ _ | (rw [va_up_ne _ _ (by omega)]; first | assumption | exact va_up_self _ _ _ | (rw [va_up_ne _ _ (by omega)]; first | assumption | exact va_up_self _ _ _ | (rw [va_up_ne _ _ (by omega)]; first | assumption | exact va_up_self _ _ _ | (rw [va_up_ne _ _ (by omega)]; first | assumption | exact va_up_self _ _ _)))))) (by rfl) (by exact Nat.le_of_ble_eq_true rfl) (m_unit hG (by omega) hV hR  (fun ce2 g0 k3 k4 => ?_) (fun ce2 g0 g1 k3 k4 => ?_) (fun ce2  g0 g1 k3 k4 => ?_))
    · refine mx_istore (i := 6) (mx_d D_W_law_13 37 rfl) (by decide) ?_
      refine mx_aload_n (k4 := 2) (mx_d D_W_law_13 38 rfl) (by rfl) ?_
      refine mx_callV hG (Y' := Y_M_thrown) (ci := 7) [] (mx_d D_W_law_13 39 rfl) in_M_thrown w_651 w_652 s_M_thrown (by rfl) np_M_thrown (by exact Nat.le_of_ble_eq_true rfl) (by rfl) (by first | assumption | omega) (id k3).choose_spec.1 (by rfl) (by exact Nat.le_of_ble_eq_true rfl) (m_thrown hG (by omega) k3 ?_)
      refine mx_iload (i := 5) (mx_d D_W_law_13 40 rfl) (by rfl) ?_
      refine mx_icmp_eqY 1149 (mx_d D_W_law_13 41 rfl) (by decide) (by decide) (by decide) (by decide) (by decide) rfl ?_
      refine mx_iload (i := 5) (mx_d D_W_law_13 44 rfl) (by rfl) ?_
      refine mx_if_neY 1166 (mx_d D_W_law_13 45 rfl) (by decide) (by decide) (by decide) (by decide) ?_
      refine mx_goto 1238 (mx_d D_W_law_14 5 rfl) (by decide) ?_
      exact mx_loc (by rfl) (next ce2 ⟨_, _, _, _, _, _, _, _, _, _, _, _, _, _, _, _, _, _, 1, _, hC.fr (fun k hk => k4 k (Or.inl hk)), k3, oL_fr hL (k4 63 (by omega))⟩)
    · exfalso
      first | omega | exact h0 g0 | exact h0 g1 | exact h0 g2 | exact h1 g0 | exact h1 g1 | exact h1 g2 | exact h2 g0 | exact h2 g1 | exact h2 g2 | exact g0 h0 | exact g1 h0 | exact g2 h0 | exact g0 h1 | exact g1 h1 | exact g2 h1 | exact g0 h2 | exact g1 h2 | exact g2 h2
    · exfalso
      first | omega | exact h0 g0 | exact h0 g1 | exact h0 g2 | exact h1 g0 | exact h1 g1 | exact h1 g2 | exact h2 g0 | exact h2 g1 | exact h2 g2 | exact g0 h0 | exact g1 h0 | exact g2 h0 | exact g0 h1 | exact g1 h1 | exact g2 h1 | exact g0 h2 | exact g1 h2 | exact g2 h2
  · refine mx_istore (i := 5) (mx_d D_W_law_13 24 rfl) (by decide) ?_
    refine mx_aload_n (k4 := 2) (mx_d D_W_law_13 25 rfl) (by rfl) ?_
    refine mx_aload_n (k4 := 0) (mx_d D_W_law_13 26 rfl) (by rfl) ?_
    refine mx_iload (i := 4) (mx_d D_W_law_13 27 rfl) (by rfl) ?_
    refine mx_iconst (n := 1) (mx_d D_W_law_13 28 rfl) ?_
    refine mx_iaddI (mx_d D_W_law_13 29 rfl) ?_
    refine mx_sld hX hbB (i + 1) (mx_d D_W_law_13 30 rfl) (by rfl) (by omega) (by omega) ?_
    refine mx_aload_n (k4 := 0) (mx_d D_W_law_13 31 rfl) (by rfl) ?_
    refine mx_iload (i := 4) (mx_d D_W_law_13 32 rfl) (by rfl) ?_
    refine mx_iconst (n := 2) (mx_d D_W_law_13 33 rfl) ?_
    refine mx_iaddI (mx_d D_W_law_13 34 rfl) ?_
    refine mx_sld hX hbB (i + 2) (mx_d D_W_law_13 35 rfl) (by rfl) (by omega) (by omega) ?_
    refine mx_callV hG (Y' := Y_M_unit) (ci := 7) [_, _] (mx_d D_W_law_13 36 rfl) in_M_unit w_767 w_768 s_M_unit (by rfl) np_M_unit (by exact Nat.le_of_ble_eq_true rfl) (by rfl) (by first | assumption | omega) (by first | assumption | exact va_up_self _ _ _ | (rw [va_up_ne _ _ (by omega)]; first | assumption | exact va_up_self _ _ _ | (rw [va_up_ne _ _ (by omega)]; first | assumption | exact va_up_self _ _ _ | (rw [va_up_ne _ _ (by omega)]; first | assumption | exact va_up_self _ _ _ | (rw [va_up_ne _ _ (by omega)]; first | assumption | exact va_up_self _ _ _ | (rw [va_up_ne _ _ (by omega)]; first | assumption | exact va_up_self _ _ _)))))) (by rfl) (by exact Nat.le_of_ble_eq_true rfl) (m_unit hG (by omega) hV hR  (fun ce2 g0 k3 k4 => ?_) (fun ce2 g0 g1 k3 k4 => ?_) (fun ce2  g0 g1 k3 k4 => ?_))
    · exfalso
      first | omega | exact h0 g0 | exact h0 g1 | exact h0 g2 | exact h1 g0 | exact h1 g1 | exact h1 g2 | exact h2 g0 | exact h2 g1 | exact h2 g2 | exact g0 h0 | exact g1 h0 | exact g2 h0 | exact g0 h1 | exact g1 h1 | exact g2 h1 | exact g0 h2 | exact g1 h2 | exact g2 h2
    · refine mx_istore (i := 6) (mx_d D_W_law_13 37 rfl) (by decide) ?_
      refine mx_aload_n (k4 := 2) (mx_d D_W_law_13 38 rfl) (by rfl) ?_
      refine mx_callV hG (Y' := Y_M_thrown) (ci := 7) [] (mx_d D_W_law_13 39 rfl) in_M_thrown w_651 w_652 s_M_thrown (by rfl) np_M_thrown (by exact Nat.le_of_ble_eq_true rfl) (by rfl) (by first | assumption | omega) (id k3).choose_spec.1 (by rfl) (by exact Nat.le_of_ble_eq_true rfl) (m_thrown hG (by omega) k3 ?_)
      refine mx_iload (i := 5) (mx_d D_W_law_13 40 rfl) (by rfl) ?_
      refine mx_icmp_eqY 1149 (mx_d D_W_law_13 41 rfl) (by decide) (by decide) (by decide) (by decide) (by decide) rfl ?_
      refine mx_iload (i := 5) (mx_d D_W_law_13 44 rfl) (by rfl) ?_
      refine mx_if_neY 1166 (mx_d D_W_law_13 45 rfl) (by decide) (by decide) (by decide) (by decide) ?_
      refine mx_goto 1238 (mx_d D_W_law_14 5 rfl) (by decide) ?_
      exact mx_loc (by rfl) (next ce2 ⟨_, _, _, _, _, _, _, _, _, _, _, _, _, _, _, _, _, _, 2, _, hC.fr (fun k hk => k4 k (Or.inl hk)), k3, oL_fr hL (k4 63 (by omega))⟩)
    · exfalso
      first | omega | exact h0 g0 | exact h0 g1 | exact h0 g2 | exact h1 g0 | exact h1 g1 | exact h1 g2 | exact h2 g0 | exact h2 g1 | exact h2 g2 | exact g0 h0 | exact g1 h0 | exact g2 h0 | exact g0 h1 | exact g1 h1 | exact g2 h1 | exact g0 h2 | exact g1 h2 | exact g2 h2
  · refine mx_istore (i := 5) (mx_d D_W_law_13 24 rfl) (by decide) ?_
    refine mx_aload_n (k4 := 2) (mx_d D_W_law_13 25 rfl) (by rfl) ?_
    refine mx_aload_n (k4 := 0) (mx_d D_W_law_13 26 rfl) (by rfl) ?_
    refine mx_iload (i := 4) (mx_d D_W_law_13 27 rfl) (by rfl) ?_
    refine mx_iconst (n := 1) (mx_d D_W_law_13 28 rfl) ?_
    refine mx_iaddI (mx_d D_W_law_13 29 rfl) ?_
    refine mx_sld hX hbB (i + 1) (mx_d D_W_law_13 30 rfl) (by rfl) (by omega) (by omega) ?_
    refine mx_aload_n (k4 := 0) (mx_d D_W_law_13 31 rfl) (by rfl) ?_
    refine mx_iload (i := 4) (mx_d D_W_law_13 32 rfl) (by rfl) ?_
    refine mx_iconst (n := 2) (mx_d D_W_law_13 33 rfl) ?_
    refine mx_iaddI (mx_d D_W_law_13 34 rfl) ?_
    refine mx_sld hX hbB (i + 2) (mx_d D_W_law_13 35 rfl) (by rfl) (by omega) (by omega) ?_
    refine mx_callV hG (Y' := Y_M_unit) (ci := 7) [_, _] (mx_d D_W_law_13 36 rfl) in_M_unit w_767 w_768 s_M_unit (by rfl) np_M_unit (by exact Nat.le_of_ble_eq_true rfl) (by rfl) (by first | assumption | omega) ((k2 50 (by omega) (by omega)).trans h50) (by rfl) (by exact Nat.le_of_ble_eq_true rfl) (m_unit hG (by omega) hV (hR.fr (fun k z1 z2 => k2 k z1 (by omega)))  (fun ce2 g0 k3 k4 => ?_) (fun ce2 g0 g1 k3 k4 => ?_) (fun ce2  g0 g1 k3 k4 => ?_))
    · exfalso
      first | omega | exact h0 g0 | exact h0 g1 | exact h0 g2 | exact h1 g0 | exact h1 g1 | exact h1 g2 | exact h2 g0 | exact h2 g1 | exact h2 g2 | exact g0 h0 | exact g1 h0 | exact g2 h0 | exact g0 h1 | exact g1 h1 | exact g2 h1 | exact g0 h2 | exact g1 h2 | exact g2 h2
    · exfalso
      first | omega | exact h0 g0 | exact h0 g1 | exact h0 g2 | exact h1 g0 | exact h1 g1 | exact h1 g2 | exact h2 g0 | exact h2 g1 | exact h2 g2 | exact g0 h0 | exact g1 h0 | exact g2 h0 | exact g0 h1 | exact g1 h1 | exact g2 h1 | exact g0 h2 | exact g1 h2 | exact g2 h2
    · refine mx_istore (i := 6) (mx_d D_W_law_13 37 rfl) (by decide) ?_
      refine mx_aload_n (k4 := 2) (mx_d D_W_law_13 38 rfl) (by rfl) ?_
      refine mx_callV hG (Y' := Y_M_thrown) (ci := 7) [] (mx_d D_W_law_13 39 rfl) in_M_thrown w_651 w_652 s_M_thrown (by rfl) np_M_thrown (by exact Nat.le_of_ble_eq_true rfl) (by rfl) (by first | assumption | omega) (id k3).choose_spec.1 (by rfl) (by exact Nat.le_of_ble_eq_true rfl) (m_thrown hG (by omega) k3 ?_)
      refine mx_iload (i := 5) (mx_d D_W_law_13 40 rfl) (by rfl) ?_
      refine mx_icmp_eqY 1149 (mx_d D_W_law_13 41 rfl) (by decide) (by decide) (by decide) (by decide) (by decide) rfl ?_
      refine mx_iload (i := 5) (mx_d D_W_law_13 44 rfl) (by rfl) ?_
      refine mx_if_neN 1166 (mx_d D_W_law_13 45 rfl) (by decide) (by decide) (by decide) (by decide) ?_
      obtain ⟨f9, l1, l2⟩ := oL_fr kL (k4 63 (by omega))
      refine mx_aload_n (k4 := 3) (mx_d D_W_law_13 46 rfl) (by rfl) ?_
      refine mx_iconst (n := 0) (mx_d D_W_law_13 47 rfl) ?_
      refine mx_lald hG 2 (0) (mx_d D_W_law_13 48 rfl) (by first | assumption | omega) l1 (by rfl) (by rfl) (by omega) (by omega) ?_
      rw [l2]
      refine mx_iload (i := 6) (mx_d D_W_law_13 49 rfl) (by rfl) ?_
      refine mx_i2l (mx_d D_W_law_14 0 rfl) ?_
      refine mx_lcmpE (mx_d D_W_law_14 1 rfl) ?_
      refine mx_if_eqY 1166 (mx_d D_W_law_14 2 rfl) (by decide) (by decide) (by decide) (by decide) ?_
      refine mx_goto 1238 (mx_d D_W_law_14 5 rfl) (by decide) ?_
      exact mx_loc (by rfl) (next ce2 ⟨_, _, _, _, _, _, _, _, _, _, _, _, _, _, _, _, _, _, 0, _, k1.fr (fun k hk => k4 k (Or.inl hk)), k3, oL_fr kL (k4 63 (by omega))⟩)
theorem lz_read (hG : mx_ok G) (hK : mx_Nok G) (hX : va_X b L xs G.2.1 G.2.1.heap) (hbB : b < mx_B G) (hL2 : L ≤ 2562) (hi : i + 5 ≤ L) (hI : INV G ce) (next : ∀ ce', INV G ce' → mx_M G Y_W_law 10 bc bs false 64 ce' 1238 [(0, .ref b), (1, .ref (mx_B G + 0)), (2, .ref (mx_B G + 50)), (3, .ref (mx_B G + 63)), (4, .int (iI i))] [] Q) : mx_M G Y_W_law 10 (bc + 1) (bs + 6) false 64 ce 1169 [(0, .ref b), (1, .ref (mx_B G + 0)), (2, .ref (mx_B G + 50)), (3, .ref (mx_B G + 63)), (4, .int (iI i))] [] Q := by
  obtain ⟨Y, U, nE, iE, nD, rA, rS, eA, eS, dA, dS, dW, lc, rn, rg, rN, ps, pN, th, v0, hC, hR, hL⟩ := hI
  have hV := hC.1
  have hC0 := hC.2.1
  obtain ⟨rw0, h50, hRA⟩ := id hR
  refine mx_bud (Nat.le_succ bc) (Nat.le_add_right bs 6) ?_
  refine mx_aload_n (k4 := 1) (mx_d D_W_law_14 6 rfl) (by rfl) ?_
  refine mx_callV hG (Y' := Y_C_read) (ci := 0) [] (mx_d D_W_law_14 7 rfl) in_C_read w_201 w_202 s_C_read (by rfl) np_C_read (by exact Nat.le_of_ble_eq_true rfl) (by rfl) (by first | assumption | omega) (by first | assumption | exact va_up_self _ _ _ | (rw [va_up_ne _ _ (by omega)]; first | assumption | exact va_up_self _ _ _ | (rw [va_up_ne _ _ (by omega)]; first | assumption | exact va_up_self _ _ _ | (rw [va_up_ne _ _ (by omega)]; first | assumption | exact va_up_self _ _ _ | (rw [va_up_ne _ _ (by omega)]; first | assumption | exact va_up_self _ _ _ | (rw [va_up_ne _ _ (by omega)]; first | assumption | exact va_up_self _ _ _)))))) (by rfl) (by exact Nat.le_of_ble_eq_true rfl) (c_C_read hG (by omega) hC (fun ce1 t0 k1 k2 => ?_))
  refine mx_aload_n (k4 := 2) (mx_d D_W_law_14 8 rfl) (by rfl) ?_
  refine mx_callV hG (Y' := Y_M_read) (ci := 7) [] (mx_d D_W_law_14 9 rfl) in_M_read w_781 w_782 s_M_read (by rfl) np_M_read (by exact Nat.le_of_ble_eq_true rfl) (by rfl) (by first | assumption | omega) ((k2 50 (by omega)).trans h50) (by rfl) (by exact Nat.le_of_ble_eq_true rfl) (m_read hG (by omega) hV (hR.fr (fun k h1 h2 => k2 k h1)) t0 (fun ce2 k3 k4 => ?_))
  have hp9 := hV.2.2.2.2.2.2.2.2.2.2.2.2.2.2.1
  have hr9 := rdOut_rows (Y := Y) (ps := ps) (t0 := t0) hp9
  refine mx_icmp_eqY 1238 (mx_d D_W_law_14 10 rfl) (by decide) (by omega) (by omega) (by omega) (by omega) rfl ?_
  exact mx_loc (by rfl) (next ce2 ⟨_, _, _, _, _, _, _, _, _, _, _, _, _, _, _, _, _, _, 0, v0, k1.fr (fun k hk => k4 k (Or.inl hk)), k3, oL_fr hL ((k4 63 (by omega)).trans (k2 63 (by omega)))⟩)
theorem lz_count (hG : mx_ok G) (hK : mx_Nok G) (hX : va_X b L xs G.2.1 G.2.1.heap) (hbB : b < mx_B G) (hL2 : L ≤ 2562) (hi : i + 5 ≤ L) (hI : INV G ce) (next : ∀ ce', INV G ce' → mx_M G Y_W_law 10 bc bs false 64 ce' 1238 [(0, .ref b), (1, .ref (mx_B G + 0)), (2, .ref (mx_B G + 50)), (3, .ref (mx_B G + 63)), (4, .int (iI i))] [] Q) : mx_M G Y_W_law 10 (bc + 1) (bs + 6) false 64 ce 1182 [(0, .ref b), (1, .ref (mx_B G + 0)), (2, .ref (mx_B G + 50)), (3, .ref (mx_B G + 63)), (4, .int (iI i))] [] Q := by
  obtain ⟨Y, U, nE, iE, nD, rA, rS, eA, eS, dA, dS, dW, lc, rn, rg, rN, ps, pN, th, v0, hC, hR, hL⟩ := hI
  have hV := hC.1
  have hC0 := hC.2.1
  obtain ⟨rw0, h50, hRA⟩ := id hR
  refine mx_aload_n (k4 := 1) (mx_d D_W_law_14 13 rfl) (by rfl) ?_
  refine mx_aload_n (k4 := 0) (mx_d D_W_law_14 14 rfl) (by rfl) ?_
  refine mx_iload (i := 4) (mx_d D_W_law_14 15 rfl) (by rfl) ?_
  refine mx_iconst (n := 1) (mx_d D_W_law_14 16 rfl) ?_
  refine mx_iaddI (mx_d D_W_law_14 17 rfl) ?_
  refine mx_sld hX hbB (i + 1) (mx_d D_W_law_14 18 rfl) (by rfl) (by omega) (by omega) ?_
  refine mx_aload_n (k4 := 3) (mx_d D_W_law_14 19 rfl) (by rfl) ?_
  refine mx_callS (Y' := Y_W_count) [_, _, _] (mx_d D_W_law_14 20 rfl) in_W_count w_566 w_567 np_W_count (by exact Nat.le_of_ble_eq_true rfl) (by rfl) (by rfl) (by exact Nat.le_of_ble_eq_true rfl) (w_count hG hK (by omega) hC hL (i32_lo _) (i32_hi _) (fun h0 => ?_) (fun ce1 m h0 h1 k1 kL k2 => ?_))
  · refine mx_istore (i := 5) (mx_d D_W_law_14 21 rfl) (by decide) ?_
    refine mx_aload_n (k4 := 2) (mx_d D_W_law_14 22 rfl) (by rfl) ?_
    refine mx_aload_n (k4 := 0) (mx_d D_W_law_14 23 rfl) (by rfl) ?_
    refine mx_iload (i := 4) (mx_d D_W_law_14 24 rfl) (by rfl) ?_
    refine mx_iconst (n := 1) (mx_d D_W_law_14 25 rfl) ?_
    refine mx_iaddI (mx_d D_W_law_14 26 rfl) ?_
    refine mx_sld hX hbB (i + 1) (mx_d D_W_law_14 27 rfl) (by rfl) (by omega) (by omega) ?_
    refine mx_callV hG (Y' := Y_M_count) (ci := 7) [_] (mx_d D_W_law_14 28 rfl) in_M_count w_789 w_790 s_M_count (by rfl) np_M_count (by exact Nat.le_of_ble_eq_true rfl) (by rfl) (by first | assumption | omega) (by first | assumption | exact va_up_self _ _ _ | (rw [va_up_ne _ _ (by omega)]; first | assumption | exact va_up_self _ _ _ | (rw [va_up_ne _ _ (by omega)]; first | assumption | exact va_up_self _ _ _ | (rw [va_up_ne _ _ (by omega)]; first | assumption | exact va_up_self _ _ _ | (rw [va_up_ne _ _ (by omega)]; first | assumption | exact va_up_self _ _ _ | (rw [va_up_ne _ _ (by omega)]; first | assumption | exact va_up_self _ _ _)))))) (by rfl) (by exact Nat.le_of_ble_eq_true rfl) (m_count hG (by omega) hV hR (i32_lo _) (i32_hi _) (fun ce2 g0 k3 k4 => ?_) (fun ce2 m9 g0 g1 k3 k4 => ?_))
    · refine mx_istore (i := 6) (mx_d D_W_law_14 29 rfl) (by decide) ?_
      refine mx_aload_n (k4 := 2) (mx_d D_W_law_14 30 rfl) (by rfl) ?_
      refine mx_callV hG (Y' := Y_M_thrown) (ci := 7) [] (mx_d D_W_law_14 31 rfl) in_M_thrown w_651 w_652 s_M_thrown (by rfl) np_M_thrown (by exact Nat.le_of_ble_eq_true rfl) (by rfl) (by first | assumption | omega) (id k3).choose_spec.1 (by rfl) (by exact Nat.le_of_ble_eq_true rfl) (m_thrown hG (by omega) k3 ?_)
      refine mx_iload (i := 5) (mx_d D_W_law_14 32 rfl) (by rfl) ?_
      refine mx_icmp_eqY 1218 (mx_d D_W_law_14 33 rfl) (by decide) (by decide) (by decide) (by decide) (by decide) rfl ?_
      refine mx_iload (i := 5) (mx_d D_W_law_14 36 rfl) (by rfl) ?_
      refine mx_if_neY 1235 (mx_d D_W_law_14 37 rfl) (by decide) (by decide) (by decide) (by decide) ?_
      refine mx_goto 1238 (mx_d D_W_law_14 47 rfl) (by decide) ?_
      exact mx_loc (by rfl) (next ce2 ⟨_, _, _, _, _, _, _, _, _, _, _, _, _, _, _, _, _, _, 1, _, hC.fr (fun k hk => k4 k (Or.inl hk)), k3, oL_fr hL (k4 63 (by omega))⟩)
    · exfalso
      omega
  · refine mx_istore (i := 5) (mx_d D_W_law_14 21 rfl) (by decide) ?_
    refine mx_aload_n (k4 := 2) (mx_d D_W_law_14 22 rfl) (by rfl) ?_
    refine mx_aload_n (k4 := 0) (mx_d D_W_law_14 23 rfl) (by rfl) ?_
    refine mx_iload (i := 4) (mx_d D_W_law_14 24 rfl) (by rfl) ?_
    refine mx_iconst (n := 1) (mx_d D_W_law_14 25 rfl) ?_
    refine mx_iaddI (mx_d D_W_law_14 26 rfl) ?_
    refine mx_sld hX hbB (i + 1) (mx_d D_W_law_14 27 rfl) (by rfl) (by omega) (by omega) ?_
    refine mx_callV hG (Y' := Y_M_count) (ci := 7) [_] (mx_d D_W_law_14 28 rfl) in_M_count w_789 w_790 s_M_count (by rfl) np_M_count (by exact Nat.le_of_ble_eq_true rfl) (by rfl) (by first | assumption | omega) ((k2 50 (by omega) (by omega)).trans h50) (by rfl) (by exact Nat.le_of_ble_eq_true rfl) (m_count hG (by omega) hV (hR.fr (fun k z1 z2 => k2 k z1 (by omega))) (i32_lo _) (i32_hi _) (fun ce2 g0 k3 k4 => ?_) (fun ce2 m9 g0 g1 k3 k4 => ?_))
    · exfalso
      omega
    · obtain rfl : m9 = m := by omega
      refine mx_istore (i := 6) (mx_d D_W_law_14 29 rfl) (by decide) ?_
      refine mx_aload_n (k4 := 2) (mx_d D_W_law_14 30 rfl) (by rfl) ?_
      refine mx_callV hG (Y' := Y_M_thrown) (ci := 7) [] (mx_d D_W_law_14 31 rfl) in_M_thrown w_651 w_652 s_M_thrown (by rfl) np_M_thrown (by exact Nat.le_of_ble_eq_true rfl) (by rfl) (by first | assumption | omega) (id k3).choose_spec.1 (by rfl) (by exact Nat.le_of_ble_eq_true rfl) (m_thrown hG (by omega) k3 ?_)
      refine mx_iload (i := 5) (mx_d D_W_law_14 32 rfl) (by rfl) ?_
      refine mx_icmp_eqY 1218 (mx_d D_W_law_14 33 rfl) (by decide) (by decide) (by decide) (by decide) (by decide) rfl ?_
      refine mx_iload (i := 5) (mx_d D_W_law_14 36 rfl) (by rfl) ?_
      refine mx_if_neN 1235 (mx_d D_W_law_14 37 rfl) (by decide) (by decide) (by decide) (by decide) ?_
      obtain ⟨f9, l1, l2⟩ := oL_fr kL (k4 63 (by omega))
      refine mx_aload_n (k4 := 3) (mx_d D_W_law_14 38 rfl) (by rfl) ?_
      refine mx_iconst (n := 0) (mx_d D_W_law_14 39 rfl) ?_
      refine mx_lald hG 2 (0) (mx_d D_W_law_14 40 rfl) (by first | assumption | omega) l1 (by rfl) (by rfl) (by omega) (by omega) ?_
      rw [l2]
      refine mx_iload (i := 6) (mx_d D_W_law_14 41 rfl) (by rfl) ?_
      refine mx_i2l (mx_d D_W_law_14 42 rfl) ?_
      refine mx_lcmpE (mx_d D_W_law_14 43 rfl) ?_
      refine mx_if_eqY 1235 (mx_d D_W_law_14 44 rfl) (by decide) (by decide) (by decide) (by decide) ?_
      refine mx_goto 1238 (mx_d D_W_law_14 47 rfl) (by decide) ?_
      exact mx_loc (by rfl) (next ce2 ⟨_, _, _, _, _, _, _, _, _, _, _, _, _, _, _, _, _, _, 0, _, k1.fr (fun k hk => k4 k (Or.inl hk)), k3, oL_fr kL (k4 63 (by omega))⟩)
end LW
