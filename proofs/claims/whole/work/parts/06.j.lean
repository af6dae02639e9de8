/-! the reference: read; its constructor -/
theorem rel_up2 {f : Nat → Int} {g : Nat → Nat → Int} {Y i m : Nat} {v : Int} (hY : Y ≤ 60) (hm : m < 60) (h : ∀ e, e < 4 → ∀ y, y < Y → f (60 * e + y) = g e y) : ∀ e, e < 4 → ∀ y, y < Y → va_up f (60 * i + m) v (60 * e + y) = up2 g i m v e y := by
  intro e he y hy
  have hh := h e he y hy
  unfold up2
  by_cases e1 : e = i
  · subst e1
    rw [va_up_self]
    by_cases e2 : y = m
    · subst e2; rw [va_up_self, va_up_self]
    · rw [va_up_ne f _ (by omega), va_up_ne (g e) _ e2]; exact hh
  · rw [va_up_ne f _ (by omega), va_up_ne g _ e1]; exact hh
section MJ
variable {G : mx_G} {d bc bs : Nat} {N : Nat} {ce : Nat → va_E} {Q : mx_P} {Y : Nat} {U : Int} {nE iE nD : Nat} {rA rS : Int} {eA eS : Nat → Nat → Int} {dA dS : Nat → Int} {dW : Nat → Nat → Int} {lc : Nat → Bool} {rn rg : Nat → Nat} {rN : Nat} {ps : Nat → Int} {pN : Nat} {th : Int}
theorem m_read (hG : mx_ok G) (hN : 63 ≤ N) (hV : IV Y U nE iE nD rA rS eA eS dA dS dW lc rn rg rN ps pN) (hR : RS G Y U nE iE nD rA rS eA eS dA dS dW lc rn rg rN ps pN th ce) (t0 : Nat → Int)
    (q : ∀ ce', RS G Y U nE iE nD rA rS (tl2 eA iE (rdOut Y ps t0 pN).2.2 1 (rdOut Y ps t0 pN).2.1) (tl2 eS iE (rdOut Y ps t0 pN).2.2 2 (rdOut Y ps t0 pN).2.1) dA dS dW lc rn rg rN ps (0) 0 ce' → (∀ k, k < 50 ∨ 63 ≤ k → ce' k = ce k) → Q (.inl (some (.int (iI (rdOut Y ps t0 pN).1)))) N ce' bc bs) : mx_M G Y_M_read (d + 3) bc bs false N ce 0 [(0, .ref (mx_B G + 50))] [] Q := by
  obtain ⟨hY, hU, hE, hD, hrA, hrS, hEA, hES, hDA, hDS, hDz, hDW, hrN, hrn, hpN, hps⟩ := hV
  obtain ⟨rw, h50, fA, fS, fW, ch, tY, tA, tS, ⟨h51, h52, h53, h54, h55, h56, h57, h58, h59, h60, h61, h62⟩, hfe, hfw, hch⟩ := hR
  have hrow := rdOut_rows (Y := Y) (ps := ps) (t0 := t0) hpN
  refine mx_aload_n (k4 := 0) (mx_d D_M_read 0 rfl) (by rfl) ?_
  refine mx_iconst (n := 0) (mx_d D_M_read 1 rfl) ?_
  refine mx_putf hG (idx := 58) (ci := 7) (kf := 0) (t := (.int)) (mx_d D_M_read 2 rfl) (by rfl) cls_M (by decide) (Or.inl rfl) w_581 (by first | assumption | omega) (by first | assumption | exact va_up_self _ _ _ | (rw [va_up_ne _ _ (by omega)]; first | assumption | exact va_up_self _ _ _ | (rw [va_up_ne _ _ (by omega)]; first | assumption | exact va_up_self _ _ _ | (rw [va_up_ne _ _ (by omega)]; first | assumption | exact va_up_self _ _ _ | (rw [va_up_ne _ _ (by omega)]; first | assumption | exact va_up_self _ _ _ | (rw [va_up_ne _ _ (by omega)]; first | assumption | exact va_up_self _ _ _)))))) (by exact Nat.le_of_ble_eq_true rfl) (by decide +kernel) (by rfl) (by rfl) ?_
  refine mx_aload_n (k4 := 0) (mx_d D_M_read 3 rfl) (by rfl) ?_
  refine mx_callV hG (Y' := Y_M_fault) (ci := 7) [] (mx_d D_M_read 4 rfl) in_M_fault w_785 w_787 s_M_fault (by rfl) np_M_fault (by exact Nat.le_of_ble_eq_true rfl) (by rfl) (by first | assumption | omega) (by first | assumption | exact va_up_self _ _ _ | (rw [va_up_ne _ _ (by omega)]; first | assumption | exact va_up_self _ _ _ | (rw [va_up_ne _ _ (by omega)]; first | assumption | exact va_up_self _ _ _ | (rw [va_up_ne _ _ (by omega)]; first | assumption | exact va_up_self _ _ _ | (rw [va_up_ne _ _ (by omega)]; first | assumption | exact va_up_self _ _ _ | (rw [va_up_ne _ _ (by omega)]; first | assumption | exact va_up_self _ _ _)))))) (by rfl) (by exact Nat.le_of_ble_eq_true rfl) (m_fault hG hN (va_up_self _ _ _) ((va_up_ne _ _ (by omega)).trans h59) ((va_up_ne _ _ (by omega)).trans h60) ((va_up_ne _ _ (by omega)).trans h61) ((va_up_ne _ _ (by omega)).trans h62) hY hpN hps t0 (fun ce1 rw1 tY1 tA1 tS1 z0 k50 k60 k61 k62 kf => ?_) (fun ce1 tY1 tA1 tS1 z0 hz k50 k60 k61 k62 kf => ?_))
  · rcases hrow with hrow | hrow
    · generalize hO : rdOut Y ps t0 pN = O at *
      obtain ⟨ans, rows, t⟩ := O
      simp only at q hrow z0 ⊢
      subst z0
      refine mx_istore_n (k4 := 1) (mx_d D_M_read 5 rfl) (by decide) ?_
      refine mx_aload_n (k4 := 0) (mx_d D_M_read 6 rfl) (by rfl) ?_
      refine mx_iconst (n := 0) (mx_d D_M_read 7 rfl) ?_
      refine mx_putf hG (idx := 121) (ci := 7) (kf := 17) (t := (.int)) (mx_d D_M_read 8 rfl) (by rfl) cls_M (by decide) (Or.inl rfl) w_598 (by first | assumption | omega) (by first | assumption | exact va_up_self _ _ _ | (rw [va_up_ne _ _ (by omega)]; first | assumption | exact va_up_self _ _ _ | (rw [va_up_ne _ _ (by omega)]; first | assumption | exact va_up_self _ _ _ | (rw [va_up_ne _ _ (by omega)]; first | assumption | exact va_up_self _ _ _ | (rw [va_up_ne _ _ (by omega)]; first | assumption | exact va_up_self _ _ _ | (rw [va_up_ne _ _ (by omega)]; first | assumption | exact va_up_self _ _ _)))))) (by exact Nat.le_of_ble_eq_true rfl) (by decide +kernel) (by rfl) (by rfl) ?_
      refine mx_iload_n (k4 := 1) (mx_d D_M_read 9 rfl) (by rfl) ?_
      refine mx_iconst (n := -1) (mx_d D_M_read 10 rfl) ?_
      refine mx_icmp_eqN 24 (mx_d D_M_read 11 rfl) (by decide) (by omega) (by omega) (by omega) (by omega) (by omega) ?_
      refine mx_iconst (n := -1) (mx_d D_M_read 12 rfl) ?_
      refine mx_iload_n (k4 := 1) (mx_d D_M_read 13 rfl) (by rfl) ?_
      refine mx_isubI (mx_d D_M_read 14 rfl) ?_
      refine mx_iret (by rfl) (mx_d D_M_read 15 rfl) ?_
      rw [show (-1 - (-1 - ans)) = ans from by omega]
      refine q _ ⟨rw1, va_up_self _ _ _, fA, fS, fW, ch, tY1, tA1, tS1, ⟨?_, ?_, ?_, ?_, ?_, ?_, ?_, ?_, ?_, (va_up_ne _ _ (by omega)).trans k60, (va_up_ne _ _ (by omega)).trans k61, (va_up_ne _ _ (by omega)).trans k62⟩, hfe, hfw, hch⟩ (fun k hk => ?_)
      all_goals rw [va_up_ne _ _ (by omega), kf _ (by omega) (by omega) (by omega) (by omega), va_up_ne _ _ (by omega)]
      all_goals assumption
    · omega
  · rcases hrow with hrow | hrow
    · omega
    · generalize hO : rdOut Y ps t0 pN = O at *
      obtain ⟨ans, rows, t⟩ := O
      simp only at q hrow z0 hz k50 ⊢
      obtain ⟨w1, w2, w3, w4⟩ := hrow
      have kf' : ∀ k, k ≠ 50 → k ≠ 60 → k ≠ 61 → k ≠ 62 → ce1 k = ce k := fun k a1 a2 a3 a4 => (kf k a1 a2 a3 a4).trans (va_up_ne _ _ a1)
      refine mx_istore_n (k4 := 1) (mx_d D_M_read 5 rfl) (by decide) ?_
      refine mx_aload_n (k4 := 0) (mx_d D_M_read 6 rfl) (by rfl) ?_
      refine mx_iconst (n := 0) (mx_d D_M_read 7 rfl) ?_
      refine mx_putf hG (idx := 121) (ci := 7) (kf := 17) (t := (.int)) (mx_d D_M_read 8 rfl) (by rfl) cls_M (by decide) (Or.inl rfl) w_598 (by first | assumption | omega) (by first | assumption | exact va_up_self _ _ _ | (rw [va_up_ne _ _ (by omega)]; first | assumption | exact va_up_self _ _ _ | (rw [va_up_ne _ _ (by omega)]; first | assumption | exact va_up_self _ _ _ | (rw [va_up_ne _ _ (by omega)]; first | assumption | exact va_up_self _ _ _ | (rw [va_up_ne _ _ (by omega)]; first | assumption | exact va_up_self _ _ _ | (rw [va_up_ne _ _ (by omega)]; first | assumption | exact va_up_self _ _ _)))))) (by exact Nat.le_of_ble_eq_true rfl) (by decide +kernel) (by rfl) (by rfl) ?_
      refine mx_iload_n (k4 := 1) (mx_d D_M_read 9 rfl) (by rfl) ?_
      refine mx_iconst (n := -1) (mx_d D_M_read 10 rfl) ?_
      refine mx_icmp_eqY 24 (mx_d D_M_read 11 rfl) (by decide) (by omega) (by omega) (by omega) (by omega) (by omega) ?_
      refine mx_iconst (n := 0) (mx_d D_M_read 16 rfl) ?_
      refine mx_istore_n (k4 := 2) (mx_d D_M_read 17 rfl) (by decide) ?_
      suffices H : ∀ (k i : Nat) (ce2 : Nat → va_E) (gA gS : Nat → Int), i + k = rows → (∀ e, e < 4 → ∀ y, y < Y → gA (60 * e + y) = tl2 eA iE t 1 i e y) → (∀ e, e < 4 → ∀ y, y < Y → gS (60 * e + y) = tl2 eS iE t 2 i e y) → (∀ e, e < 4 → ∀ y, y < Y → 0 ≤ tl2 eS iE t 2 i e y ∧ tl2 eS iE t 2 i e y ≤ 100) → ce2 50 = rs0 G 0 Y U nE iE nD rA rS rN 0 rows → ce2 51 = aI G 240 gA → ce2 52 = aI G 240 gS → ce2 60 = aI G 40 tY1 → ce2 61 = aI G 40 tA1 → ce2 62 = aI G 40 tS1 → (∀ k, k ≠ 50 → k ≠ 51 → k ≠ 52 → k ≠ 60 → k ≠ 61 → k ≠ 62 → ce2 k = ce k) → mx_M G Y_M_read (d + 3) bc bs false N ce2 26 [(0, .ref (mx_B G + 50)), (2, .int (iI i))] [] Q from
        mx_loc (by rfl) (H rows 0 _ fA fS (by omega) (fun e he y hy => (hfe e he y hy).1) (fun e he y hy => (hfe e he y hy).2) hES (va_up_self _ _ _) ((va_up_ne _ _ (by omega)).trans ((kf' 51 (by omega) (by omega) (by omega) (by omega)).trans h51)) ((va_up_ne _ _ (by omega)).trans ((kf' 52 (by omega) (by omega) (by omega) (by omega)).trans h52)) ((va_up_ne _ _ (by omega)).trans k60) ((va_up_ne _ _ (by omega)).trans k61) ((va_up_ne _ _ (by omega)).trans k62) (fun k a1 _ _ a4 a5 a6 => (va_up_ne _ _ a1).trans (kf' k a1 a4 a5 a6)))
      intro k
      induction k with
      | zero =>
        intro i ce2 gA gS hi g1 g2 g3 m50 m51 m52 m60 m61 m62 mf
        obtain rfl : i = rows := by omega
        refine mx_iload_n (k4 := 2) (mx_d D_M_read 18 rfl) (by rfl) ?_
        refine mx_aload_n (k4 := 0) (mx_d D_M_read 19 rfl) (by rfl) ?_
        refine mx_getf hG (idx := 134) (ci := 7) (kf := 22) (mx_d D_M_read 20 rfl) (by rfl) cls_M (by decide) w_603 (by first | assumption | omega) (by first | assumption | exact va_up_self _ _ _ | (rw [va_up_ne _ _ (by omega)]; first | assumption | exact va_up_self _ _ _ | (rw [va_up_ne _ _ (by omega)]; first | assumption | exact va_up_self _ _ _ | (rw [va_up_ne _ _ (by omega)]; first | assumption | exact va_up_self _ _ _ | (rw [va_up_ne _ _ (by omega)]; first | assumption | exact va_up_self _ _ _ | (rw [va_up_ne _ _ (by omega)]; first | assumption | exact va_up_self _ _ _)))))) (by rfl) ?_
        refine mx_icmp_geY 63 (mx_d D_M_read 21 rfl) (by decide) (by omega) (by omega) (by omega) (by omega) (by omega) ?_
        refine mx_aload_n (k4 := 0) (mx_d D_M_read 39 rfl) (by rfl) ?_
        refine mx_getf hG (idx := 134) (ci := 7) (kf := 22) (mx_d D_M_read 40 rfl) (by rfl) cls_M (by decide) w_603 (by first | assumption | omega) (by first | assumption | exact va_up_self _ _ _ | (rw [va_up_ne _ _ (by omega)]; first | assumption | exact va_up_self _ _ _ | (rw [va_up_ne _ _ (by omega)]; first | assumption | exact va_up_self _ _ _ | (rw [va_up_ne _ _ (by omega)]; first | assumption | exact va_up_self _ _ _ | (rw [va_up_ne _ _ (by omega)]; first | assumption | exact va_up_self _ _ _ | (rw [va_up_ne _ _ (by omega)]; first | assumption | exact va_up_self _ _ _)))))) (by rfl) ?_
        refine mx_iret (by rfl) (mx_d D_M_read 41 rfl) ?_
        rw [w2] at q
        refine q _ ⟨i, m50, gA, gS, fW, ch, tY1, tA1, tS1, ⟨m51, m52, ?_, ?_, ?_, ?_, ?_, ?_, ?_, m60, m61, m62⟩, fun e he y hy => ⟨g1 e he y hy, g2 e he y hy⟩, hfw, hch⟩ (fun k hk => mf k (by omega) (by omega) (by omega) (by omega) (by omega) (by omega))
        all_goals rw [mf _ (by omega) (by omega) (by omega) (by omega) (by omega) (by omega)]
        all_goals assumption
      | succ k ih =>
        intro i ce2 gA gS hi g1 g2 g3 m50 m51 m52 m60 m61 m62 mf
        have w5 := w4 i (by omega)
        have hz5 := hz i (by omega)
        have eY : t (3 * i) = ((t (3 * i)).toNat : Nat) := by omega
        have e2 := g2 iE (by omega) (t (3 * i)).toNat (by omega)
        have b2 := g3 iE (by omega) (t (3 * i)).toNat (by omega)
        refine mx_iload_n (k4 := 2) (mx_d D_M_read 18 rfl) (by rfl) ?_
        refine mx_aload_n (k4 := 0) (mx_d D_M_read 19 rfl) (by rfl) ?_
        refine mx_getf hG (idx := 134) (ci := 7) (kf := 22) (mx_d D_M_read 20 rfl) (by rfl) cls_M (by decide) w_603 (by first | assumption | omega) (by first | assumption | exact va_up_self _ _ _ | (rw [va_up_ne _ _ (by omega)]; first | assumption | exact va_up_self _ _ _ | (rw [va_up_ne _ _ (by omega)]; first | assumption | exact va_up_self _ _ _ | (rw [va_up_ne _ _ (by omega)]; first | assumption | exact va_up_self _ _ _ | (rw [va_up_ne _ _ (by omega)]; first | assumption | exact va_up_self _ _ _ | (rw [va_up_ne _ _ (by omega)]; first | assumption | exact va_up_self _ _ _)))))) (by rfl) ?_
        refine mx_icmp_geN 63 (mx_d D_M_read 21 rfl) (by decide) (by omega) (by omega) (by omega) (by omega) (by omega) ?_
        refine mx_aload_n (k4 := 0) (mx_d D_M_read 22 rfl) (by rfl) ?_
        refine mx_aload_n (k4 := 0) (mx_d D_M_read 23 rfl) (by rfl) ?_
        refine mx_getf hG (idx := 42) (ci := 7) (kf := 19) (mx_d D_M_read 24 rfl) (by rfl) cls_M (by decide) w_600 (by first | assumption | omega) (by first | assumption | exact va_up_self _ _ _ | (rw [va_up_ne _ _ (by omega)]; first | assumption | exact va_up_self _ _ _ | (rw [va_up_ne _ _ (by omega)]; first | assumption | exact va_up_self _ _ _ | (rw [va_up_ne _ _ (by omega)]; first | assumption | exact va_up_self _ _ _ | (rw [va_up_ne _ _ (by omega)]; first | assumption | exact va_up_self _ _ _ | (rw [va_up_ne _ _ (by omega)]; first | assumption | exact va_up_self _ _ _)))))) (by rfl) ?_
        refine mx_iload_n (k4 := 2) (mx_d D_M_read 25 rfl) (by rfl) ?_
        refine mx_ialdI hG _ (mx_d D_M_read 26 rfl) (by first | assumption | omega) (by first | assumption | exact va_up_self _ _ _ | (rw [va_up_ne _ _ (by omega)]; first | assumption | exact va_up_self _ _ _ | (rw [va_up_ne _ _ (by omega)]; first | assumption | exact va_up_self _ _ _ | (rw [va_up_ne _ _ (by omega)]; first | assumption | exact va_up_self _ _ _ | (rw [va_up_ne _ _ (by omega)]; first | assumption | exact va_up_self _ _ _ | (rw [va_up_ne _ _ (by omega)]; first | assumption | exact va_up_self _ _ _)))))) (by rfl) (by omega) (by omega) ?_
        rw [hz5.1]
        refine mx_aload_n (k4 := 0) (mx_d D_M_read 27 rfl) (by rfl) ?_
        refine mx_getf hG (idx := 45) (ci := 7) (kf := 20) (mx_d D_M_read 28 rfl) (by rfl) cls_M (by decide) w_601 (by first | assumption | omega) (by first | assumption | exact va_up_self _ _ _ | (rw [va_up_ne _ _ (by omega)]; first | assumption | exact va_up_self _ _ _ | (rw [va_up_ne _ _ (by omega)]; first | assumption | exact va_up_self _ _ _ | (rw [va_up_ne _ _ (by omega)]; first | assumption | exact va_up_self _ _ _ | (rw [va_up_ne _ _ (by omega)]; first | assumption | exact va_up_self _ _ _ | (rw [va_up_ne _ _ (by omega)]; first | assumption | exact va_up_self _ _ _)))))) (by rfl) ?_
        refine mx_iload_n (k4 := 2) (mx_d D_M_read 29 rfl) (by rfl) ?_
        refine mx_ialdI hG _ (mx_d D_M_read 30 rfl) (by first | assumption | omega) (by first | assumption | exact va_up_self _ _ _ | (rw [va_up_ne _ _ (by omega)]; first | assumption | exact va_up_self _ _ _ | (rw [va_up_ne _ _ (by omega)]; first | assumption | exact va_up_self _ _ _ | (rw [va_up_ne _ _ (by omega)]; first | assumption | exact va_up_self _ _ _ | (rw [va_up_ne _ _ (by omega)]; first | assumption | exact va_up_self _ _ _ | (rw [va_up_ne _ _ (by omega)]; first | assumption | exact va_up_self _ _ _)))))) (by rfl) (by omega) (by omega) ?_
        rw [hz5.2.1]
        refine mx_aload_n (k4 := 0) (mx_d D_M_read 31 rfl) (by rfl) ?_
        refine mx_getf hG (idx := 48) (ci := 7) (kf := 21) (mx_d D_M_read 32 rfl) (by rfl) cls_M (by decide) w_602 (by first | assumption | omega) (by first | assumption | exact va_up_self _ _ _ | (rw [va_up_ne _ _ (by omega)]; first | assumption | exact va_up_self _ _ _ | (rw [va_up_ne _ _ (by omega)]; first | assumption | exact va_up_self _ _ _ | (rw [va_up_ne _ _ (by omega)]; first | assumption | exact va_up_self _ _ _ | (rw [va_up_ne _ _ (by omega)]; first | assumption | exact va_up_self _ _ _ | (rw [va_up_ne _ _ (by omega)]; first | assumption | exact va_up_self _ _ _)))))) (by rfl) ?_
        refine mx_iload_n (k4 := 2) (mx_d D_M_read 33 rfl) (by rfl) ?_
        refine mx_ialdI hG _ (mx_d D_M_read 34 rfl) (by first | assumption | omega) (by first | assumption | exact va_up_self _ _ _ | (rw [va_up_ne _ _ (by omega)]; first | assumption | exact va_up_self _ _ _ | (rw [va_up_ne _ _ (by omega)]; first | assumption | exact va_up_self _ _ _ | (rw [va_up_ne _ _ (by omega)]; first | assumption | exact va_up_self _ _ _ | (rw [va_up_ne _ _ (by omega)]; first | assumption | exact va_up_self _ _ _ | (rw [va_up_ne _ _ (by omega)]; first | assumption | exact va_up_self _ _ _)))))) (by rfl) (by omega) (by omega) ?_
        rw [hz5.2.2, eY]
        refine mx_callV hG (Y' := Y_M_put) (ci := 7) [_, _, _] (mx_d D_M_read 35 rfl) in_M_put w_670 w_672 s_M_put (by rfl) np_M_put (by exact Nat.le_of_ble_eq_true rfl) (by rfl) (by first | assumption | omega) (by first | assumption | exact va_up_self _ _ _ | (rw [va_up_ne _ _ (by omega)]; first | assumption | exact va_up_self _ _ _ | (rw [va_up_ne _ _ (by omega)]; first | assumption | exact va_up_self _ _ _ | (rw [va_up_ne _ _ (by omega)]; first | assumption | exact va_up_self _ _ _ | (rw [va_up_ne _ _ (by omega)]; first | assumption | exact va_up_self _ _ _ | (rw [va_up_ne _ _ (by omega)]; first | assumption | exact va_up_self _ _ _)))))) (by rfl) (by exact Nat.le_of_ble_eq_true rfl) (m_put hG hN m50 m51 m52 (y := (t (3 * i)).toNat) (by omega) (by omega) (by rw [e2]; exact b2) ?_)
        refine mx_pop (mx_d D_M_read 36 rfl) (by rfl) ?_
        refine mx_iincI (i := 2) (n := 1) (mx_d D_M_read 37 rfl) (by rfl) (by decide) ?_
        refine mx_goto 26 (mx_d D_M_read 38 rfl) (by decide) ?_
        refine mx_loc (by rfl) (ih (i + 1) _ _ _ (by omega) (rel_up2 hY.2 (by omega) g1) (rel_up2 hY.2 (by omega) g2) (up2_bd g3 ⟨by omega, by omega⟩) ?_ ?_ (va_up_self _ _ _) ?_ ?_ ?_ (fun k a1 a2 a3 a4 a5 a6 => ?_))
        · rw [va_up_ne _ _ (by omega), va_up_ne _ _ (by omega)]; exact m50
        · rw [va_up_ne _ _ (by omega), va_up_self]
        · rw [va_up_ne _ _ (by omega), va_up_ne _ _ (by omega)]; exact m60
        · rw [va_up_ne _ _ (by omega), va_up_ne _ _ (by omega)]; exact m61
        · rw [va_up_ne _ _ (by omega), va_up_ne _ _ (by omega)]; exact m62
        · rw [va_up_ne _ _ a3, va_up_ne _ _ a2]; exact mf k a1 a2 a3 a4 a5 a6
end MJ
section MK
variable {G : mx_G} {d bc bs : Nat} {ce : Nat → va_E} {Q : mx_P}
theorem m_init (hG : mx_ok G) {z u : Int} (z1 : -2147483648 ≤ z) (z2 : z < 2147483648) (u1 : -2147483648 ≤ u) (u2 : u < 2147483648) (h0 : ce 50 = .inr (7, [.int 0, .int 0, .int 0, .int 0, .int 0, .null, .null, .int 0, .int 0, .int 0, .null, .null, .null, .null, .int 0, .null, .null, .int 0, .null, .null, .null, .null, .int 0]))
    (q : ∀ ce', (∀ k, k < 50 → ce' k = ce k) → (∀ (Y : Nat) (U : Int), (Y : Int) = clY z → U = clU u → RS G Y U 1 0 0 0 0 (fun _ _ => 0) (fun _ _ => 0) (fun _ => 0) (fun _ => 0) (fun _ _ => 0) (fun _ => false) (fun _ => 0) (fun _ => 0) 0 (fun _ => 0) 0 0 ce') → Q (.inl none) 63 ce' bc bs) : mx_M G Y_M_init (d + 2) (bc + 12) (bs + 2000) true 51 ce 0 [(0, .ref (mx_B G + 50)), (1, .int (iI z)), (2, .int (iI u))] [] Q := by
  refine mx_bud (bc := bc + 1 + 1 + 1 + 1 + 1 + 1 + 1 + 1 + 1 + 1 + 1 + 1) (bs := bs + 40 + 40 + 40 + 100 + 8 + 8 + 60 + 12 + 12 + 720 + 240 + 240) (by omega) (by omega) ?_
  have fin : ∀ (ce2 : Nat → va_E) (w : Int), w = clU u → ce2 50 = .inr (7, [.int (iI 0), .int (iI (clY z)), .int (iI 0), .int (iI 1), .int (iI 0), .ref (mx_B G + 51), .ref (mx_B G + 52), .int (iI 0), .int (iI 0), .int (iI 0), .ref (mx_B G + 53), .ref (mx_B G + 54), .ref (mx_B G + 55), .ref (mx_B G + 56), .int (iI 0), .ref (mx_B G + 57), .ref (mx_B G + 58), .int (iI 0), .ref (mx_B G + 59), .ref (mx_B G + 60), .ref (mx_B G + 61), .ref (mx_B G + 62), .int (iI 0)]) → ce2 51 = aI G 240 (fun _ => 0) → ce2 52 = aI G 240 (fun _ => 0) → ce2 53 = aI G 720 (fun _ => 0) → ce2 54 = aI G 12 (fun _ => 0) → ce2 55 = aI G 12 (fun _ => 0) → ce2 56 = aB G 60 (fun _ => false) → ce2 57 = aI G 8 (fun _ => 0) → ce2 58 = aI G 8 (fun _ => 0) → ce2 59 = aI G 100 (fun _ => 0) → ce2 60 = aI G 40 (fun _ => 0) → ce2 61 = aI G 40 (fun _ => 0) → ce2 62 = aI G 40 (fun _ => 0) → (∀ k, k < 50 → ce2 k = ce k) → ∀ {l9 : List (Nat × Value)}, mx_M G Y_M_init (d + 2) bc bs true 63 ce2 157 l9 [.int (iI w), .ref (mx_B G + 50)] Q := by
    intro ce2 w hw g50 g51 g52 g53 g54 g55 g56 g57 g58 g59 g60 g61 g62 gf l9
    refine mx_putf hG (idx := 55) (ci := 7) (kf := 2) (t := (.int)) (mx_d D_M_init 78 rfl) (by rfl) cls_M (by decide) (Or.inr ⟨rfl, rfl, rfl⟩) w_583 (by first | assumption | omega) (by first | assumption | exact va_up_self _ _ _ | (rw [va_up_ne _ _ (by omega)]; first | assumption | exact va_up_self _ _ _ | (rw [va_up_ne _ _ (by omega)]; first | assumption | exact va_up_self _ _ _ | (rw [va_up_ne _ _ (by omega)]; first | assumption | exact va_up_self _ _ _ | (rw [va_up_ne _ _ (by omega)]; first | assumption | exact va_up_self _ _ _ | (rw [va_up_ne _ _ (by omega)]; first | assumption | exact va_up_self _ _ _)))))) (by exact Nat.le_of_ble_eq_true rfl) (by decide +kernel) (by rfl) (by rfl) ?_
    refine mx_vret (by rfl) (mx_d D_M_init 79 rfl) ?_
    refine q _ (fun k hk => (va_up_ne _ _ (by omega)).trans (gf k hk)) (fun Y U hYe hUe => ?_)
    rw [hUe, ← hw]
    refine ⟨0, ?_, fun _ => 0, fun _ => 0, fun _ => 0, fun _ => false, fun _ => 0, fun _ => 0, fun _ => 0, ⟨?_, ?_, ?_, ?_, ?_, ?_, ?_, ?_, ?_, ?_, ?_, ?_⟩, fun _ _ _ _ => ⟨rfl, rfl⟩, fun _ h => absurd h (by omega), fun _ _ => rfl⟩
    · rw [va_up_self, ← hYe]; rfl
    all_goals rw [va_up_ne _ _ (by omega)]
    all_goals assumption
  have yr : ∀ (ce2 : Nat → va_E) (w : Int), w = clY z → ce2 50 = .inr (7, [.int (iI 0), .int (iI 0), .int (iI 0), .int (iI 1), .int (iI 0), .ref (mx_B G + 51), .ref (mx_B G + 52), .int (iI 0), .int (iI 0), .int (iI 0), .ref (mx_B G + 53), .ref (mx_B G + 54), .ref (mx_B G + 55), .ref (mx_B G + 56), .int (iI 0), .ref (mx_B G + 57), .ref (mx_B G + 58), .int (iI 0), .ref (mx_B G + 59), .ref (mx_B G + 60), .ref (mx_B G + 61), .ref (mx_B G + 62), .int (iI 0)]) → ce2 51 = aI G 240 (fun _ => 0) → ce2 52 = aI G 240 (fun _ => 0) → ce2 53 = aI G 720 (fun _ => 0) → ce2 54 = aI G 12 (fun _ => 0) → ce2 55 = aI G 12 (fun _ => 0) → ce2 56 = aB G 60 (fun _ => false) → ce2 57 = aI G 8 (fun _ => 0) → ce2 58 = aI G 8 (fun _ => 0) → ce2 59 = aI G 100 (fun _ => 0) → ce2 60 = aI G 40 (fun _ => 0) → ce2 61 = aI G 40 (fun _ => 0) → ce2 62 = aI G 40 (fun _ => 0) → (∀ k, k < 50 → ce2 k = ce k) → ∀ {l9 : List (Nat × Value)}, mx_get l9 0 = some (.ref (mx_B G + 50)) → mx_get l9 2 = some (.int (iI u)) → mx_M G Y_M_init (d + 2) bc bs true 63 ce2 132 l9 [.int (iI w), .ref (mx_B G + 50)] Q := by
    intro ce2 w hw g50 g51 g52 g53 g54 g55 g56 g57 g58 g59 g60 g61 g62 gf l9 e0 e2
    refine mx_loc (l' := [(0, .ref (mx_B G + 50)), (2, .int (iI u))]) (by simp only [List.map_cons, List.map_nil, e0, e2]) ?_
    have fin' := fun {l9 : List (Nat × Value)} (w : Int) (hw : w = clU u) => fin (l9 := l9) (va_up ce2 50 (.inr (7, [.int (iI 0), .int (iI (clY z)), .int (iI 0), .int (iI 1), .int (iI 0), .ref (mx_B G + 51), .ref (mx_B G + 52), .int (iI 0), .int (iI 0), .int (iI 0), .ref (mx_B G + 53), .ref (mx_B G + 54), .ref (mx_B G + 55), .ref (mx_B G + 56), .int (iI 0), .ref (mx_B G + 57), .ref (mx_B G + 58), .int (iI 0), .ref (mx_B G + 59), .ref (mx_B G + 60), .ref (mx_B G + 61), .ref (mx_B G + 62), .int (iI 0)]))) w hw (va_up_self _ _ _) ((va_up_ne _ _ (by omega)).trans g51) ((va_up_ne _ _ (by omega)).trans g52) ((va_up_ne _ _ (by omega)).trans g53) ((va_up_ne _ _ (by omega)).trans g54) ((va_up_ne _ _ (by omega)).trans g55) ((va_up_ne _ _ (by omega)).trans g56) ((va_up_ne _ _ (by omega)).trans g57) ((va_up_ne _ _ (by omega)).trans g58) ((va_up_ne _ _ (by omega)).trans g59) ((va_up_ne _ _ (by omega)).trans g60) ((va_up_ne _ _ (by omega)).trans g61) ((va_up_ne _ _ (by omega)).trans g62) (fun k hk => (va_up_ne _ _ (by omega)).trans (gf k hk))
    subst hw
    refine mx_putf hG (idx := 51) (ci := 7) (kf := 1) (t := (.int)) (mx_d D_M_init 65 rfl) (by rfl) cls_M (by decide) (Or.inr ⟨rfl, rfl, rfl⟩) w_582 (by first | assumption | omega) (by first | assumption | exact va_up_self _ _ _ | (rw [va_up_ne _ _ (by omega)]; first | assumption | exact va_up_self _ _ _ | (rw [va_up_ne _ _ (by omega)]; first | assumption | exact va_up_self _ _ _ | (rw [va_up_ne _ _ (by omega)]; first | assumption | exact va_up_self _ _ _ | (rw [va_up_ne _ _ (by omega)]; first | assumption | exact va_up_self _ _ _ | (rw [va_up_ne _ _ (by omega)]; first | assumption | exact va_up_self _ _ _)))))) (by exact Nat.le_of_ble_eq_true rfl) (by decide +kernel) (by rfl) (by rfl) ?_
    refine mx_aload_n (k4 := 0) (mx_d D_M_init 66 rfl) (by rfl) ?_
    refine mx_iload_n (k4 := 2) (mx_d D_M_init 67 rfl) (by rfl) ?_
    refine mx_iconst (n := 1) (mx_d D_M_init 68 rfl) ?_
    unfold clU at fin'
    by_cases c1 : u < 1
    · refine mx_icmp_geN 145 (mx_d D_M_init 69 rfl) (by decide) (by omega) (by omega) (by omega) (by omega) (by omega) ?_
      refine mx_iconst (n := 1) (mx_d D_M_init 70 rfl) ?_
      refine mx_goto 157 (mx_d D_M_init 71 rfl) (by decide) ?_
      exact fin' 1 (by split <;> (try split at *) <;> omega)
    · refine mx_icmp_geY 145 (mx_d D_M_init 69 rfl) (by decide) (by omega) (by omega) (by omega) (by omega) (by omega) ?_
      refine mx_iload_n (k4 := 2) (mx_d D_M_init 72 rfl) (by rfl) ?_
      refine mx_ldcI (v := 65536) (z := 65536) (mx_d D_M_init 73 rfl) w_580 (by decide) ?_
      by_cases c2 : 65536 < u
      · refine mx_icmp_leN 156 (mx_d D_M_init 74 rfl) (by decide) (by omega) (by omega) (by omega) (by omega) (by omega) ?_
        refine mx_ldcI (v := 65536) (z := 65536) (mx_d D_M_init 75 rfl) w_580 (by decide) ?_
        refine mx_goto 157 (mx_d D_M_init 76 rfl) (by decide) ?_
        exact fin' 65536 (by split <;> (try split at *) <;> omega)
      · refine mx_icmp_leY 156 (mx_d D_M_init 74 rfl) (by decide) (by omega) (by omega) (by omega) (by omega) (by omega) ?_
        refine mx_iload_n (k4 := 2) (mx_d D_M_init 77 rfl) (by rfl) ?_
        exact fin' u (by split <;> (try split at *) <;> omega)
  refine mx_aload_n (k4 := 0) (mx_d D_M_init 0 rfl) (by rfl) ?_
  refine mx_objInit (mx_d D_M_init 1 rfl) w_579 w_23 w_objcode (by exact Nat.le_of_ble_eq_true rfl) ?_
  refine mx_aload_n (k4 := 0) (mx_d D_M_init 2 rfl) (by rfl) ?_
  refine mx_iconst (n := 1) (mx_d D_M_init 3 rfl) ?_
  refine mx_putf hG (idx := 7) (ci := 7) (kf := 3) (t := (.int)) (mx_d D_M_init 4 rfl) (by rfl) cls_M (by decide) (Or.inl rfl) w_584 (by first | assumption | omega) (by first | assumption | exact va_up_self _ _ _ | (rw [va_up_ne _ _ (by omega)]; first | assumption | exact va_up_self _ _ _ | (rw [va_up_ne _ _ (by omega)]; first | assumption | exact va_up_self _ _ _ | (rw [va_up_ne _ _ (by omega)]; first | assumption | exact va_up_self _ _ _ | (rw [va_up_ne _ _ (by omega)]; first | assumption | exact va_up_self _ _ _ | (rw [va_up_ne _ _ (by omega)]; first | assumption | exact va_up_self _ _ _)))))) (by exact Nat.le_of_ble_eq_true rfl) (by decide +kernel) (by rfl) (by rfl) ?_
  refine mx_aload_n (k4 := 0) (mx_d D_M_init 5 rfl) (by rfl) ?_
  refine mx_sipush (n := 240) (mx_d D_M_init 6 rfl) (by decide) ?_
  refine mx_newaI hG (mx_d D_M_init 7 rfl) (by rfl) (by omega) ?_
  refine mx_putf hG (idx := 13) (ci := 7) (kf := 5) (t := (.array .int)) (mx_d D_M_init 8 rfl) (by rfl) cls_M (by decide) (Or.inr ⟨rfl, rfl, rfl⟩) w_586 (by first | assumption | omega) (by first | assumption | exact va_up_self _ _ _ | (rw [va_up_ne _ _ (by omega)]; first | assumption | exact va_up_self _ _ _ | (rw [va_up_ne _ _ (by omega)]; first | assumption | exact va_up_self _ _ _ | (rw [va_up_ne _ _ (by omega)]; first | assumption | exact va_up_self _ _ _ | (rw [va_up_ne _ _ (by omega)]; first | assumption | exact va_up_self _ _ _ | (rw [va_up_ne _ _ (by omega)]; first | assumption | exact va_up_self _ _ _)))))) (by exact Nat.le_of_ble_eq_true rfl) (by decide +kernel) (by rfl) (by rfl) ?_
  refine mx_aload_n (k4 := 0) (mx_d D_M_init 9 rfl) (by rfl) ?_
  refine mx_sipush (n := 240) (mx_d D_M_init 10 rfl) (by decide) ?_
  refine mx_newaI hG (mx_d D_M_init 11 rfl) (by rfl) (by omega) ?_
  refine mx_putf hG (idx := 17) (ci := 7) (kf := 6) (t := (.array .int)) (mx_d D_M_init 12 rfl) (by rfl) cls_M (by decide) (Or.inr ⟨rfl, rfl, rfl⟩) w_587 (by first | assumption | omega) (by first | assumption | exact va_up_self _ _ _ | (rw [va_up_ne _ _ (by omega)]; first | assumption | exact va_up_self _ _ _ | (rw [va_up_ne _ _ (by omega)]; first | assumption | exact va_up_self _ _ _ | (rw [va_up_ne _ _ (by omega)]; first | assumption | exact va_up_self _ _ _ | (rw [va_up_ne _ _ (by omega)]; first | assumption | exact va_up_self _ _ _ | (rw [va_up_ne _ _ (by omega)]; first | assumption | exact va_up_self _ _ _)))))) (by exact Nat.le_of_ble_eq_true rfl) (by decide +kernel) (by rfl) (by rfl) ?_
  refine mx_aload_n (k4 := 0) (mx_d D_M_init 13 rfl) (by rfl) ?_
  refine mx_sipush (n := 720) (mx_d D_M_init 14 rfl) (by decide) ?_
  refine mx_newaI hG (mx_d D_M_init 15 rfl) (by rfl) (by omega) ?_
  refine mx_putf hG (idx := 20) (ci := 7) (kf := 10) (t := (.array .int)) (mx_d D_M_init 16 rfl) (by rfl) cls_M (by decide) (Or.inr ⟨rfl, rfl, rfl⟩) w_591 (by first | assumption | omega) (by first | assumption | exact va_up_self _ _ _ | (rw [va_up_ne _ _ (by omega)]; first | assumption | exact va_up_self _ _ _ | (rw [va_up_ne _ _ (by omega)]; first | assumption | exact va_up_self _ _ _ | (rw [va_up_ne _ _ (by omega)]; first | assumption | exact va_up_self _ _ _ | (rw [va_up_ne _ _ (by omega)]; first | assumption | exact va_up_self _ _ _ | (rw [va_up_ne _ _ (by omega)]; first | assumption | exact va_up_self _ _ _)))))) (by exact Nat.le_of_ble_eq_true rfl) (by decide +kernel) (by rfl) (by rfl) ?_
  refine mx_aload_n (k4 := 0) (mx_d D_M_init 17 rfl) (by rfl) ?_
  refine mx_bipush (n := 12) (mx_d D_M_init 18 rfl) (by decide) ?_
  refine mx_newaI hG (mx_d D_M_init 19 rfl) (by rfl) (by omega) ?_
  refine mx_putf hG (idx := 23) (ci := 7) (kf := 11) (t := (.array .int)) (mx_d D_M_init 20 rfl) (by rfl) cls_M (by decide) (Or.inr ⟨rfl, rfl, rfl⟩) w_592 (by first | assumption | omega) (by first | assumption | exact va_up_self _ _ _ | (rw [va_up_ne _ _ (by omega)]; first | assumption | exact va_up_self _ _ _ | (rw [va_up_ne _ _ (by omega)]; first | assumption | exact va_up_self _ _ _ | (rw [va_up_ne _ _ (by omega)]; first | assumption | exact va_up_self _ _ _ | (rw [va_up_ne _ _ (by omega)]; first | assumption | exact va_up_self _ _ _ | (rw [va_up_ne _ _ (by omega)]; first | assumption | exact va_up_self _ _ _)))))) (by exact Nat.le_of_ble_eq_true rfl) (by decide +kernel) (by rfl) (by rfl) ?_
  refine mx_aload_n (k4 := 0) (mx_d D_M_init 21 rfl) (by rfl) ?_
  refine mx_bipush (n := 12) (mx_d D_M_init 22 rfl) (by decide) ?_
  refine mx_newaI hG (mx_d D_M_init 23 rfl) (by rfl) (by omega) ?_
  refine mx_putf hG (idx := 26) (ci := 7) (kf := 12) (t := (.array .int)) (mx_d D_M_init 24 rfl) (by rfl) cls_M (by decide) (Or.inr ⟨rfl, rfl, rfl⟩) w_593 (by first | assumption | omega) (by first | assumption | exact va_up_self _ _ _ | (rw [va_up_ne _ _ (by omega)]; first | assumption | exact va_up_self _ _ _ | (rw [va_up_ne _ _ (by omega)]; first | assumption | exact va_up_self _ _ _ | (rw [va_up_ne _ _ (by omega)]; first | assumption | exact va_up_self _ _ _ | (rw [va_up_ne _ _ (by omega)]; first | assumption | exact va_up_self _ _ _ | (rw [va_up_ne _ _ (by omega)]; first | assumption | exact va_up_self _ _ _)))))) (by exact Nat.le_of_ble_eq_true rfl) (by decide +kernel) (by rfl) (by rfl) ?_
  refine mx_aload_n (k4 := 0) (mx_d D_M_init 25 rfl) (by rfl) ?_
  refine mx_bipush (n := 60) (mx_d D_M_init 26 rfl) (by decide) ?_
  refine mx_newaB hG (mx_d D_M_init 27 rfl) (by rfl) (by omega) ?_
  refine mx_putf hG (idx := 29) (ci := 7) (kf := 13) (t := (.array .boolean)) (mx_d D_M_init 28 rfl) (by rfl) cls_M (by decide) (Or.inr ⟨rfl, rfl, rfl⟩) w_594 (by first | assumption | omega) (by first | assumption | exact va_up_self _ _ _ | (rw [va_up_ne _ _ (by omega)]; first | assumption | exact va_up_self _ _ _ | (rw [va_up_ne _ _ (by omega)]; first | assumption | exact va_up_self _ _ _ | (rw [va_up_ne _ _ (by omega)]; first | assumption | exact va_up_self _ _ _ | (rw [va_up_ne _ _ (by omega)]; first | assumption | exact va_up_self _ _ _ | (rw [va_up_ne _ _ (by omega)]; first | assumption | exact va_up_self _ _ _)))))) (by exact Nat.le_of_ble_eq_true rfl) (by decide +kernel) (by rfl) (by rfl) ?_
  refine mx_aload_n (k4 := 0) (mx_d D_M_init 29 rfl) (by rfl) ?_
  refine mx_bipush (n := 8) (mx_d D_M_init 30 rfl) (by decide) ?_
  refine mx_newaI hG (mx_d D_M_init 31 rfl) (by rfl) (by omega) ?_
  refine mx_putf hG (idx := 33) (ci := 7) (kf := 15) (t := (.array .int)) (mx_d D_M_init 32 rfl) (by rfl) cls_M (by decide) (Or.inr ⟨rfl, rfl, rfl⟩) w_596 (by first | assumption | omega) (by first | assumption | exact va_up_self _ _ _ | (rw [va_up_ne _ _ (by omega)]; first | assumption | exact va_up_self _ _ _ | (rw [va_up_ne _ _ (by omega)]; first | assumption | exact va_up_self _ _ _ | (rw [va_up_ne _ _ (by omega)]; first | assumption | exact va_up_self _ _ _ | (rw [va_up_ne _ _ (by omega)]; first | assumption | exact va_up_self _ _ _ | (rw [va_up_ne _ _ (by omega)]; first | assumption | exact va_up_self _ _ _)))))) (by exact Nat.le_of_ble_eq_true rfl) (by decide +kernel) (by rfl) (by rfl) ?_
  refine mx_aload_n (k4 := 0) (mx_d D_M_init 33 rfl) (by rfl) ?_
  refine mx_bipush (n := 8) (mx_d D_M_init 34 rfl) (by decide) ?_
  refine mx_newaI hG (mx_d D_M_init 35 rfl) (by rfl) (by omega) ?_
  refine mx_putf hG (idx := 36) (ci := 7) (kf := 16) (t := (.array .int)) (mx_d D_M_init 36 rfl) (by rfl) cls_M (by decide) (Or.inr ⟨rfl, rfl, rfl⟩) w_597 (by first | assumption | omega) (by first | assumption | exact va_up_self _ _ _ | (rw [va_up_ne _ _ (by omega)]; first | assumption | exact va_up_self _ _ _ | (rw [va_up_ne _ _ (by omega)]; first | assumption | exact va_up_self _ _ _ | (rw [va_up_ne _ _ (by omega)]; first | assumption | exact va_up_self _ _ _ | (rw [va_up_ne _ _ (by omega)]; first | assumption | exact va_up_self _ _ _ | (rw [va_up_ne _ _ (by omega)]; first | assumption | exact va_up_self _ _ _)))))) (by exact Nat.le_of_ble_eq_true rfl) (by decide +kernel) (by rfl) (by rfl) ?_
  refine mx_aload_n (k4 := 0) (mx_d D_M_init 37 rfl) (by rfl) ?_
  refine mx_bipush (n := 100) (mx_d D_M_init 38 rfl) (by decide) ?_
  refine mx_newaI hG (mx_d D_M_init 39 rfl) (by rfl) (by omega) ?_
  refine mx_putf hG (idx := 39) (ci := 7) (kf := 18) (t := (.array .int)) (mx_d D_M_init 40 rfl) (by rfl) cls_M (by decide) (Or.inr ⟨rfl, rfl, rfl⟩) w_599 (by first | assumption | omega) (by first | assumption | exact va_up_self _ _ _ | (rw [va_up_ne _ _ (by omega)]; first | assumption | exact va_up_self _ _ _ | (rw [va_up_ne _ _ (by omega)]; first | assumption | exact va_up_self _ _ _ | (rw [va_up_ne _ _ (by omega)]; first | assumption | exact va_up_self _ _ _ | (rw [va_up_ne _ _ (by omega)]; first | assumption | exact va_up_self _ _ _ | (rw [va_up_ne _ _ (by omega)]; first | assumption | exact va_up_self _ _ _)))))) (by exact Nat.le_of_ble_eq_true rfl) (by decide +kernel) (by rfl) (by rfl) ?_
  refine mx_aload_n (k4 := 0) (mx_d D_M_init 41 rfl) (by rfl) ?_
  refine mx_bipush (n := 40) (mx_d D_M_init 42 rfl) (by decide) ?_
  refine mx_newaI hG (mx_d D_M_init 43 rfl) (by rfl) (by omega) ?_
  refine mx_putf hG (idx := 42) (ci := 7) (kf := 19) (t := (.array .int)) (mx_d D_M_init 44 rfl) (by rfl) cls_M (by decide) (Or.inr ⟨rfl, rfl, rfl⟩) w_600 (by first | assumption | omega) (by first | assumption | exact va_up_self _ _ _ | (rw [va_up_ne _ _ (by omega)]; first | assumption | exact va_up_self _ _ _ | (rw [va_up_ne _ _ (by omega)]; first | assumption | exact va_up_self _ _ _ | (rw [va_up_ne _ _ (by omega)]; first | assumption | exact va_up_self _ _ _ | (rw [va_up_ne _ _ (by omega)]; first | assumption | exact va_up_self _ _ _ | (rw [va_up_ne _ _ (by omega)]; first | assumption | exact va_up_self _ _ _)))))) (by exact Nat.le_of_ble_eq_true rfl) (by decide +kernel) (by rfl) (by rfl) ?_
  refine mx_aload_n (k4 := 0) (mx_d D_M_init 45 rfl) (by rfl) ?_
  refine mx_bipush (n := 40) (mx_d D_M_init 46 rfl) (by decide) ?_
  refine mx_newaI hG (mx_d D_M_init 47 rfl) (by rfl) (by omega) ?_
  refine mx_putf hG (idx := 45) (ci := 7) (kf := 20) (t := (.array .int)) (mx_d D_M_init 48 rfl) (by rfl) cls_M (by decide) (Or.inr ⟨rfl, rfl, rfl⟩) w_601 (by first | assumption | omega) (by first | assumption | exact va_up_self _ _ _ | (rw [va_up_ne _ _ (by omega)]; first | assumption | exact va_up_self _ _ _ | (rw [va_up_ne _ _ (by omega)]; first | assumption | exact va_up_self _ _ _ | (rw [va_up_ne _ _ (by omega)]; first | assumption | exact va_up_self _ _ _ | (rw [va_up_ne _ _ (by omega)]; first | assumption | exact va_up_self _ _ _ | (rw [va_up_ne _ _ (by omega)]; first | assumption | exact va_up_self _ _ _)))))) (by exact Nat.le_of_ble_eq_true rfl) (by decide +kernel) (by rfl) (by rfl) ?_
  refine mx_aload_n (k4 := 0) (mx_d D_M_init 49 rfl) (by rfl) ?_
  refine mx_bipush (n := 40) (mx_d D_M_init 50 rfl) (by decide) ?_
  refine mx_newaI hG (mx_d D_M_init 51 rfl) (by rfl) (by omega) ?_
  refine mx_putf hG (idx := 48) (ci := 7) (kf := 21) (t := (.array .int)) (mx_d D_M_init 52 rfl) (by rfl) cls_M (by decide) (Or.inr ⟨rfl, rfl, rfl⟩) w_602 (by first | assumption | omega) (by first | assumption | exact va_up_self _ _ _ | (rw [va_up_ne _ _ (by omega)]; first | assumption | exact va_up_self _ _ _ | (rw [va_up_ne _ _ (by omega)]; first | assumption | exact va_up_self _ _ _ | (rw [va_up_ne _ _ (by omega)]; first | assumption | exact va_up_self _ _ _ | (rw [va_up_ne _ _ (by omega)]; first | assumption | exact va_up_self _ _ _ | (rw [va_up_ne _ _ (by omega)]; first | assumption | exact va_up_self _ _ _)))))) (by exact Nat.le_of_ble_eq_true rfl) (by decide +kernel) (by rfl) (by rfl) ?_
  refine mx_aload_n (k4 := 0) (mx_d D_M_init 53 rfl) (by rfl) ?_
  refine mx_iload_n (k4 := 1) (mx_d D_M_init 54 rfl) (by rfl) ?_
  refine mx_bipush (n := 8) (mx_d D_M_init 55 rfl) (by decide) ?_
  by_cases c1 : z < 8
  · refine mx_icmp_geN 120 (mx_d D_M_init 56 rfl) (by decide) (by omega) (by omega) (by omega) (by omega) (by omega) ?_
    refine mx_bipush (n := 8) (mx_d D_M_init 57 rfl) (by decide) ?_
    refine mx_goto 132 (mx_d D_M_init 58 rfl) (by decide) ?_
    refine yr _ 8 (by unfold clY; split <;> (try split at *) <;> omega) (va_up_self _ _ _) (by repeat (first | exact va_up_self _ _ _ | rw [va_up_ne _ _ (by omega)])) (by repeat (first | exact va_up_self _ _ _ | rw [va_up_ne _ _ (by omega)])) (by repeat (first | exact va_up_self _ _ _ | rw [va_up_ne _ _ (by omega)])) (by repeat (first | exact va_up_self _ _ _ | rw [va_up_ne _ _ (by omega)])) (by repeat (first | exact va_up_self _ _ _ | rw [va_up_ne _ _ (by omega)])) (by repeat (first | exact va_up_self _ _ _ | rw [va_up_ne _ _ (by omega)])) (by repeat (first | exact va_up_self _ _ _ | rw [va_up_ne _ _ (by omega)])) (by repeat (first | exact va_up_self _ _ _ | rw [va_up_ne _ _ (by omega)])) (by repeat (first | exact va_up_self _ _ _ | rw [va_up_ne _ _ (by omega)])) (by repeat (first | exact va_up_self _ _ _ | rw [va_up_ne _ _ (by omega)])) (by repeat (first | exact va_up_self _ _ _ | rw [va_up_ne _ _ (by omega)])) (by repeat (first | exact va_up_self _ _ _ | rw [va_up_ne _ _ (by omega)])) (fun k hk => by repeat rw [va_up_ne _ _ (by omega)]) rfl rfl
  · refine mx_icmp_geY 120 (mx_d D_M_init 56 rfl) (by decide) (by omega) (by omega) (by omega) (by omega) (by omega) ?_
    refine mx_iload_n (k4 := 1) (mx_d D_M_init 59 rfl) (by rfl) ?_
    refine mx_bipush (n := 60) (mx_d D_M_init 60 rfl) (by decide) ?_
    by_cases c2 : 60 < z
    · refine mx_icmp_leN 131 (mx_d D_M_init 61 rfl) (by decide) (by omega) (by omega) (by omega) (by omega) (by omega) ?_
      refine mx_bipush (n := 60) (mx_d D_M_init 62 rfl) (by decide) ?_
      refine mx_goto 132 (mx_d D_M_init 63 rfl) (by decide) ?_
      refine yr _ 60 (by unfold clY; split <;> (try split at *) <;> omega) (va_up_self _ _ _) (by repeat (first | exact va_up_self _ _ _ | rw [va_up_ne _ _ (by omega)])) (by repeat (first | exact va_up_self _ _ _ | rw [va_up_ne _ _ (by omega)])) (by repeat (first | exact va_up_self _ _ _ | rw [va_up_ne _ _ (by omega)])) (by repeat (first | exact va_up_self _ _ _ | rw [va_up_ne _ _ (by omega)])) (by repeat (first | exact va_up_self _ _ _ | rw [va_up_ne _ _ (by omega)])) (by repeat (first | exact va_up_self _ _ _ | rw [va_up_ne _ _ (by omega)])) (by repeat (first | exact va_up_self _ _ _ | rw [va_up_ne _ _ (by omega)])) (by repeat (first | exact va_up_self _ _ _ | rw [va_up_ne _ _ (by omega)])) (by repeat (first | exact va_up_self _ _ _ | rw [va_up_ne _ _ (by omega)])) (by repeat (first | exact va_up_self _ _ _ | rw [va_up_ne _ _ (by omega)])) (by repeat (first | exact va_up_self _ _ _ | rw [va_up_ne _ _ (by omega)])) (by repeat (first | exact va_up_self _ _ _ | rw [va_up_ne _ _ (by omega)])) (fun k hk => by repeat rw [va_up_ne _ _ (by omega)]) rfl rfl
    · refine mx_icmp_leY 131 (mx_d D_M_init 61 rfl) (by decide) (by omega) (by omega) (by omega) (by omega) (by omega) ?_
      refine mx_iload_n (k4 := 1) (mx_d D_M_init 64 rfl) (by rfl) ?_
      refine yr _ z (by unfold clY; split <;> (try split at *) <;> omega) (va_up_self _ _ _) (by repeat (first | exact va_up_self _ _ _ | rw [va_up_ne _ _ (by omega)])) (by repeat (first | exact va_up_self _ _ _ | rw [va_up_ne _ _ (by omega)])) (by repeat (first | exact va_up_self _ _ _ | rw [va_up_ne _ _ (by omega)])) (by repeat (first | exact va_up_self _ _ _ | rw [va_up_ne _ _ (by omega)])) (by repeat (first | exact va_up_self _ _ _ | rw [va_up_ne _ _ (by omega)])) (by repeat (first | exact va_up_self _ _ _ | rw [va_up_ne _ _ (by omega)])) (by repeat (first | exact va_up_self _ _ _ | rw [va_up_ne _ _ (by omega)])) (by repeat (first | exact va_up_self _ _ _ | rw [va_up_ne _ _ (by omega)])) (by repeat (first | exact va_up_self _ _ _ | rw [va_up_ne _ _ (by omega)])) (by repeat (first | exact va_up_self _ _ _ | rw [va_up_ne _ _ (by omega)])) (by repeat (first | exact va_up_self _ _ _ | rw [va_up_ne _ _ (by omega)])) (by repeat (first | exact va_up_self _ _ _ | rw [va_up_ne _ _ (by omega)])) (fun k hk => by repeat rw [va_up_ne _ _ (by omega)]) rfl rfl
end MK
