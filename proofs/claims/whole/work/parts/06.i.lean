/-! the reference: fault, read -/
def txv (tY tA tS : Nat → Int) (k r : Nat) : Int := if k = 0 then tY r else if k = 1 then tA r else tS r
def rdNb (b : Bool) (u : Int) : Int := if b = true then u else -1
section MI
variable {G : mx_G} {d bc bs : Nat} {N : Nat} {ce : Nat → va_E} {Q : mx_P} {Y : Nat} {U : Int} {nE iE nD : Nat} {rA rS : Int} {eA eS : Nat → Nat → Int} {dA dS : Nat → Int} {dW : Nat → Nat → Int} {lc : Nat → Bool} {rn rg : Nat → Nat} {rN : Nat} {ps : Nat → Int} {pN : Nat} {th : Int} {rw : Nat}
theorem m_fault (hG : mx_ok G) (hN : 63 ≤ N) (h50 : ce 50 = rs0 G th Y U nE iE nD rA rS rN pN rw) (h59 : ce 59 = aI G 100 ps) {tY tA tS : Nat → Int} (h60 : ce 60 = aI G 40 tY) (h61 : ce 61 = aI G 40 tA) (h62 : ce 62 = aI G 40 tS) (hY : 8 ≤ Y ∧ Y ≤ 60) (hpN : pN ≤ 100) (hps : ∀ j, j < pN → -2147483648 ≤ ps j ∧ ps j < 2147483648) (t0 : Nat → Int)
    (q0 : ∀ ce' rw' tY' tA' tS', (rdOut Y ps t0 pN).2.1 = 0 → ce' 50 = rs0 G th Y U nE iE nD rA rS rN pN rw' → ce' 60 = aI G 40 tY' → ce' 61 = aI G 40 tA' → ce' 62 = aI G 40 tS' → (∀ k, k ≠ 50 → k ≠ 60 → k ≠ 61 → k ≠ 62 → ce' k = ce k) → Q (.inl (some (.int (iI (-1 - (rdOut Y ps t0 pN).1))))) N ce' bc bs)
    (q1 : ∀ ce' tY' tA' tS', (rdOut Y ps t0 pN).2.1 ≠ 0 → (∀ r, r < (rdOut Y ps t0 pN).2.1 → tY' r = (rdOut Y ps t0 pN).2.2 (3 * r) ∧ tA' r = (rdOut Y ps t0 pN).2.2 (3 * r + 1) ∧ tS' r = (rdOut Y ps t0 pN).2.2 (3 * r + 2)) → ce' 50 = rs0 G th Y U nE iE nD rA rS rN pN (rdOut Y ps t0 pN).2.1 → ce' 60 = aI G 40 tY' → ce' 61 = aI G 40 tA' → ce' 62 = aI G 40 tS' → (∀ k, k ≠ 50 → k ≠ 60 → k ≠ 61 → k ≠ 62 → ce' k = ce k) → Q (.inl (some (.int (iI (-1))))) N ce' bc bs) : mx_M G Y_M_fault (d + 1) bc bs false N ce 0 [(0, .ref (mx_B G + 50))] [] Q := by
  refine mx_iconst (n := 0) (mx_d D_M_fault 0 rfl) ?_
  refine mx_istore_n (k4 := 1) (mx_d D_M_fault 1 rfl) (by decide) ?_
  refine mx_iconst (n := -1) (mx_d D_M_fault 2 rfl) ?_
  refine mx_istore_n (k4 := 2) (mx_d D_M_fault 3 rfl) (by decide) ?_
  refine mx_aload_n (k4 := 0) (mx_d D_M_fault 4 rfl) (by rfl) ?_
  refine mx_iconst (n := 0) (mx_d D_M_fault 5 rfl) ?_
  refine mx_putf hG (idx := 134) (ci := 7) (kf := 22) (t := (.int)) (mx_d D_M_fault 6 rfl) (by rfl) cls_M (by decide) (Or.inl rfl) w_603 (by first | assumption | omega) (by first | assumption | exact va_up_self _ _ _ | (rw [va_up_ne _ _ (by omega)]; first | assumption | exact va_up_self _ _ _ | (rw [va_up_ne _ _ (by omega)]; first | assumption | exact va_up_self _ _ _ | (rw [va_up_ne _ _ (by omega)]; first | assumption | exact va_up_self _ _ _ | (rw [va_up_ne _ _ (by omega)]; first | assumption | exact va_up_self _ _ _ | (rw [va_up_ne _ _ (by omega)]; first | assumption | exact va_up_self _ _ _)))))) (by exact Nat.le_of_ble_eq_true rfl) (by decide +kernel) (by rfl) (by rfl) ?_
  refine mx_iconst (n := 0) (mx_d D_M_fault 7 rfl) ?_
  refine mx_istore_n (k4 := 3) (mx_d D_M_fault 8 rfl) (by decide) ?_
  suffices H : ∀ (k i : Nat) (ce' : Nat → va_E) (c : Nat) (b : Bool) (t tY tA tS : Nat → Int), i + k = pN → rdR Y ps t0 i = .inr (c, b, t) → (∀ j, (j < c ∨ (j = c ∧ b = true)) → txv tY tA tS (j % 3) (j / 3) = t j) → ce' 50 = rs0 G th Y U nE iE nD rA rS rN pN (c / 3) → ce' 60 = aI G 40 tY → ce' 61 = aI G 40 tA → ce' 62 = aI G 40 tS → (∀ k, k ≠ 50 → k ≠ 60 → k ≠ 61 → k ≠ 62 → ce' k = ce k) → mx_M G Y_M_fault (d + 1) bc bs false N ce' 11 [(0, .ref (mx_B G + 50)), (1, .int (iI ((c % 3 : Nat) : Int))), (2, .int (iI (rdNb b (t c)))), (3, .int (iI i))] [] Q from
    mx_loc (by rfl) (H pN 0 _ 0 false t0 tY tA tS (by omega) rfl (fun j hj => absurd hj (by simp)) (va_up_self _ _ _) ((va_up_ne _ _ (by omega)).trans h60) ((va_up_ne _ _ (by omega)).trans h61) ((va_up_ne _ _ (by omega)).trans h62) (fun k z1 _ _ _ => va_up_ne _ _ z1))
  intro k
  induction k with
  | zero =>
    intro i ce' c b t tY tA tS hi hr hrel k50 k60 k61 k62 kf
    obtain rfl : i = pN := by omega
    have hinv := rdR_inv i hr
    have hc1 := hinv.1
    have o1 : ∀ h : ¬ (b = true ∧ c % 3 = 2), rdOut Y ps t0 i = (-1 - (i : Int), 0, t) := fun h => by simp only [rdOut, hr, if_neg h]
    have o2 : ∀ h : (b = true ∧ c % 3 = 2), rdOut Y ps t0 i = ((((c + 1) / 3 : Nat) : Int), (c + 1) / 3, t) := fun h => by simp only [rdOut, hr, if_pos h]
    have bad : ¬ (b = true ∧ c % 3 = 2) → ∀ {l9 : List (Nat × Value)}, mx_get l9 0 = some (.ref (mx_B G + 50)) → mx_M G Y_M_fault (d + 1) bc bs false N (va_up ce' 50 (rs0 G th Y U nE iE nD rA rS rN i (c / 3 + 1))) 318 l9 [] Q := by
      intro h l9 g0
      refine mx_loc (l' := [(0, .ref (mx_B G + 50))]) (by simp only [List.map_cons, List.map_nil, g0]) ?_
      refine mx_aload_n (k4 := 0) (mx_d D_M_fault 175 rfl) (by rfl) ?_
      refine mx_getf hG (idx := 121) (ci := 7) (kf := 17) (mx_d D_M_fault 176 rfl) (by rfl) cls_M (by decide) w_598 (by first | assumption | omega) (by first | assumption | exact va_up_self _ _ _ | (rw [va_up_ne _ _ (by omega)]; first | assumption | exact va_up_self _ _ _ | (rw [va_up_ne _ _ (by omega)]; first | assumption | exact va_up_self _ _ _ | (rw [va_up_ne _ _ (by omega)]; first | assumption | exact va_up_self _ _ _ | (rw [va_up_ne _ _ (by omega)]; first | assumption | exact va_up_self _ _ _ | (rw [va_up_ne _ _ (by omega)]; first | assumption | exact va_up_self _ _ _)))))) (by rfl) ?_
      refine mx_iret (by rfl) (mx_d D_M_fault 177 rfl) ?_
      have q9 := q0 (va_up ce' 50 (rs0 G th Y U nE iE nD rA rS rN i (c / 3 + 1))) (c / 3 + 1) tY tA tS
      rw [o1 h] at q9
      simp only at q9
      rw [show (-1 - (-1 - (i : Int))) = (i : Int) from by omega] at q9
      exact q9 trivial (va_up_self _ _ _) ((va_up_ne _ _ (by omega)).trans k60) ((va_up_ne _ _ (by omega)).trans k61) ((va_up_ne _ _ (by omega)).trans k62) (fun k z1 z2 z3 z4 => (va_up_ne _ _ z1).trans (kf k z1 z2 z3 z4))
    refine mx_iload_n (k4 := 3) (mx_d D_M_fault 9 rfl) (by rfl) ?_
    refine mx_aload_n (k4 := 0) (mx_d D_M_fault 10 rfl) (by rfl) ?_
    refine mx_getf hG (idx := 121) (ci := 7) (kf := 17) (mx_d D_M_fault 11 rfl) (by rfl) cls_M (by decide) w_598 (by first | assumption | omega) (by first | assumption | exact va_up_self _ _ _ | (rw [va_up_ne _ _ (by omega)]; first | assumption | exact va_up_self _ _ _ | (rw [va_up_ne _ _ (by omega)]; first | assumption | exact va_up_self _ _ _ | (rw [va_up_ne _ _ (by omega)]; first | assumption | exact va_up_self _ _ _ | (rw [va_up_ne _ _ (by omega)]; first | assumption | exact va_up_self _ _ _ | (rw [va_up_ne _ _ (by omega)]; first | assumption | exact va_up_self _ _ _)))))) (by rfl) ?_
    refine mx_icmp_geY 294 (mx_d D_M_fault 12 rfl) (by decide) (by omega) (by omega) (by omega) (by omega) (by omega) ?_
    refine mx_aload_n (k4 := 0) (mx_d D_M_fault 161 rfl) (by rfl) ?_
    refine mx_dup (mx_d D_M_fault 162 rfl) (by rfl) ?_
    refine mx_getf hG (idx := 134) (ci := 7) (kf := 22) (mx_d D_M_fault 163 rfl) (by rfl) cls_M (by decide) w_603 (by first | assumption | omega) (by first | assumption | exact va_up_self _ _ _ | (rw [va_up_ne _ _ (by omega)]; first | assumption | exact va_up_self _ _ _ | (rw [va_up_ne _ _ (by omega)]; first | assumption | exact va_up_self _ _ _ | (rw [va_up_ne _ _ (by omega)]; first | assumption | exact va_up_self _ _ _ | (rw [va_up_ne _ _ (by omega)]; first | assumption | exact va_up_self _ _ _ | (rw [va_up_ne _ _ (by omega)]; first | assumption | exact va_up_self _ _ _)))))) (by rfl) ?_
    refine mx_iconst (n := 1) (mx_d D_M_fault 164 rfl) ?_
    refine mx_iaddI (mx_d D_M_fault 165 rfl) ?_
    refine mx_putf hG (idx := 134) (ci := 7) (kf := 22) (t := (.int)) (mx_d D_M_fault 166 rfl) (by rfl) cls_M (by decide) (Or.inl rfl) w_603 (by first | assumption | omega) (by first | assumption | exact va_up_self _ _ _ | (rw [va_up_ne _ _ (by omega)]; first | assumption | exact va_up_self _ _ _ | (rw [va_up_ne _ _ (by omega)]; first | assumption | exact va_up_self _ _ _ | (rw [va_up_ne _ _ (by omega)]; first | assumption | exact va_up_self _ _ _ | (rw [va_up_ne _ _ (by omega)]; first | assumption | exact va_up_self _ _ _ | (rw [va_up_ne _ _ (by omega)]; first | assumption | exact va_up_self _ _ _)))))) (by exact Nat.le_of_ble_eq_true rfl) (by decide +kernel) (by rfl) (by rfl) ?_
    refine mx_iload_n (k4 := 1) (mx_d D_M_fault 167 rfl) (by rfl) ?_
    refine mx_iconst (n := 2) (mx_d D_M_fault 168 rfl) ?_
    by_cases hw : c % 3 = 2
    · refine mx_icmp_neN 318 (mx_d D_M_fault 169 rfl) (by decide) (by omega) (by omega) (by omega) (by omega) (by omega) ?_
      refine mx_iload_n (k4 := 2) (mx_d D_M_fault 170 rfl) (by rfl) ?_
      refine mx_iconst (n := -1) (mx_d D_M_fault 171 rfl) ?_
      cases b with
      | false =>
        rw [show rdNb false (t c) = -1 from rfl]
        refine mx_icmp_eqY 318 (mx_d D_M_fault 172 rfl) (by decide) (by decide) (by decide) (by decide) (by decide) (by decide) ?_
        exact bad (by simp) rfl
      | true =>
        have t9 := (hinv.2 c (Or.inr ⟨rfl, rfl⟩))
        have t8 := rdOk_bd hY.2 t9.2
        refine mx_icmp_eqN 318 (mx_d D_M_fault 172 rfl) (by decide) (by first | omega | (show (_ : Int) ≤ t c; omega) | (show t c < _; omega)) (by first | omega | (show (_ : Int) ≤ t c; omega) | (show t c < _; omega)) (by first | omega | (show (_ : Int) ≤ t c; omega) | (show t c < _; omega)) (by first | omega | (show (_ : Int) ≤ t c; omega) | (show t c < _; omega)) (by show ¬ (t c = -1); omega) ?_
        refine mx_iconst (n := -1) (mx_d D_M_fault 173 rfl) ?_
        refine mx_goto 322 (mx_d D_M_fault 174 rfl) (by decide) ?_
        refine mx_iret (by rfl) (mx_d D_M_fault 177 rfl) ?_
        have q9 := q1 (va_up ce' 50 (rs0 G th Y U nE iE nD rA rS rN i (c / 3 + 1))) tY tA tS
        rw [o2 ⟨rfl, hw⟩] at q9
        simp only at q9
        refine q9 (by omega) (fun r hr => ?_) ?_ ((va_up_ne _ _ (by omega)).trans k60) ((va_up_ne _ _ (by omega)).trans k61) ((va_up_ne _ _ (by omega)).trans k62) (fun k z1 z2 z3 z4 => (va_up_ne _ _ z1).trans (kf k z1 z2 z3 z4))
        · have e0 := hrel (3 * r) (Or.inl (by omega))
          have e1 := hrel (3 * r + 1) (Or.inl (by omega))
          have e2 := hrel (3 * r + 2) (by by_cases q : 3 * r + 2 = c; exact Or.inr ⟨q, rfl⟩; exact Or.inl (by omega))
          rw [show (3 * r) % 3 = 0 by omega, show (3 * r) / 3 = r by omega] at e0
          rw [show (3 * r + 1) % 3 = 1 by omega, show (3 * r + 1) / 3 = r by omega] at e1
          rw [show (3 * r + 2) % 3 = 2 by omega, show (3 * r + 2) / 3 = r by omega] at e2
          exact ⟨e0, e1, e2⟩
        · rw [va_up_self, show (c + 1) / 3 = c / 3 + 1 by omega]
    · refine mx_icmp_neY 318 (mx_d D_M_fault 169 rfl) (by decide) (by omega) (by omega) (by omega) (by omega) (by omega) ?_
      exact bad (fun h => hw h.2) rfl
  | succ k ih =>
    intro i ce' c b t tY tA tS hi hr hrel k50 k60 k61 k62 kf
    have hinv := rdR_inv i hr
    have hc1 := hinv.1
    have hp1 := hps i (by omega)
    have k59 : ce' 59 = _ := (kf 59 (by omega) (by omega) (by omega) (by omega)).trans h59
    have tb : b = true → 0 ≤ t c ∧ t c ≤ 3000 := fun hb => ⟨(hinv.2 c (Or.inr ⟨rfl, hb⟩)).1, rdOk_bd hY.2 (hinv.2 c (Or.inr ⟨rfl, hb⟩)).2⟩
    have nb : -1 ≤ rdNb b (t c) ∧ rdNb b (t c) ≤ 3000 := by
      unfold rdNb
      cases b with
      | false => simp
      | true => have := tb rfl; simp; omega
    have ret : rdStep Y (ps i) c b t = none → ∀ {l9 : List (Nat × Value)}, mx_get l9 3 = some (.int (iI i)) → mx_get l9 5 = some (.int (iI (bI false))) → mx_M G Y_M_fault (d + 1) bc bs false N ce' 179 l9 [] Q := by
      intro hst l9 g3 g5
      refine mx_loc (l' := [(3, .int (iI i)), (5, .int (iI (bI false)))]) (by simp only [List.map_cons, List.map_nil, g3, g5]) ?_
      refine mx_iload (i := 5) (mx_d D_M_fault 99 rfl) (by rfl) ?_
      refine mx_if_neN 186 (mx_d D_M_fault 100 rfl) (by decide) (by decide) (by decide) (by decide) ?_
      refine mx_iload_n (k4 := 3) (mx_d D_M_fault 101 rfl) (by rfl) ?_
      refine mx_iret (by rfl) (mx_d D_M_fault 102 rfl) ?_
      have hbad : rdR Y ps t0 pN = .inl i := rdR_bad (n := i + 1) (by simp only [rdR, hr, hst]) (by omega)
      have q9 := q0 ce' (c / 3) tY tA tS
      rw [show rdOut Y ps t0 pN = (-1 - (i : Int), 0, t0) from by simp only [rdOut, hbad]] at q9
      simp only at q9
      rw [show (-1 - (-1 - (i : Int))) = (i : Int) from by omega] at q9
      exact q9 trivial k50 k60 k61 k62 kf
    have dig : ∀ n : Int, 0 ≤ n → n ≤ 100000 → rdStep Y (ps i) c b t = some (c, true, va_up t c n) → ∀ {l9 : List (Nat × Value)}, mx_get l9 0 = some (.ref (mx_B G + 50)) → mx_get l9 1 = some (.int (iI ((c % 3 : Nat) : Int))) → mx_get l9 2 = some (.int (iI n)) → mx_get l9 3 = some (.int (iI i)) → mx_get l9 5 = some (.int (iI (bI true))) → mx_M G Y_M_fault (d + 1) bc bs false N ce' 179 l9 [] Q := by
      intro n hn0 hn1 hst l9 g0 g1 g2 g3 g5
      refine mx_loc (l' := [(0, .ref (mx_B G + 50)), (1, .int (iI ((c % 3 : Nat) : Int))), (2, .int (iI n)), (3, .int (iI i)), (5, .int (iI (bI true)))]) (by simp only [List.map_cons, List.map_nil, g0, g1, g2, g3, g5]) ?_
      have ew : rdNb true (va_up t c n c) = n := by rw [va_up_self]; rfl
      have ih := fun i ce' c b t tY tA tS => ih i ce' c b t tY tA tS
      refine mx_iload (i := 5) (mx_d D_M_fault 99 rfl) (by rfl) ?_
      refine mx_if_neY 186 (mx_d D_M_fault 100 rfl) (by decide) (by decide) (by decide) (by decide) ?_
      refine mx_iload_n (k4 := 2) (mx_d D_M_fault 103 rfl) (by rfl) ?_
      refine mx_iconst (n := -1) (mx_d D_M_fault 104 rfl) ?_
      refine mx_icmp_eqN 274 (mx_d D_M_fault 105 rfl) (by decide) (by omega) (by omega) (by omega) (by omega) (by omega) ?_
      obtain hw9 | hw9 | hw9 : c % 3 = 0 ∨ c % 3 = 1 ∨ c % 3 = 2 := by omega
      · rw [hw9]
        refine mx_aload_n (k4 := 0) (mx_d D_M_fault 106 rfl) (by rfl) ?_
        refine mx_getf hG (idx := 42) (ci := 7) (kf := 19) (mx_d D_M_fault 107 rfl) (by rfl) cls_M (by decide) w_600 (by first | assumption | omega) (by first | assumption | exact va_up_self _ _ _ | (rw [va_up_ne _ _ (by omega)]; first | assumption | exact va_up_self _ _ _ | (rw [va_up_ne _ _ (by omega)]; first | assumption | exact va_up_self _ _ _ | (rw [va_up_ne _ _ (by omega)]; first | assumption | exact va_up_self _ _ _ | (rw [va_up_ne _ _ (by omega)]; first | assumption | exact va_up_self _ _ _ | (rw [va_up_ne _ _ (by omega)]; first | assumption | exact va_up_self _ _ _)))))) (by rfl) ?_
        refine mx_aload_n (k4 := 0) (mx_d D_M_fault 108 rfl) (by rfl) ?_
        refine mx_getf hG (idx := 134) (ci := 7) (kf := 22) (mx_d D_M_fault 109 rfl) (by rfl) cls_M (by decide) w_603 (by first | assumption | omega) (by first | assumption | exact va_up_self _ _ _ | (rw [va_up_ne _ _ (by omega)]; first | assumption | exact va_up_self _ _ _ | (rw [va_up_ne _ _ (by omega)]; first | assumption | exact va_up_self _ _ _ | (rw [va_up_ne _ _ (by omega)]; first | assumption | exact va_up_self _ _ _ | (rw [va_up_ne _ _ (by omega)]; first | assumption | exact va_up_self _ _ _ | (rw [va_up_ne _ _ (by omega)]; first | assumption | exact va_up_self _ _ _)))))) (by rfl) ?_
        refine mx_iload_n (k4 := 1) (mx_d D_M_fault 110 rfl) (by rfl) ?_
        refine mx_if_neN 207 (mx_d D_M_fault 111 rfl) (by decide) (by omega) (by omega) (by omega) ?_
        refine mx_iload_n (k4 := 2) (mx_d D_M_fault 112 rfl) (by rfl) ?_
        refine mx_goto 216 (mx_d D_M_fault 113 rfl) (by decide) ?_
        refine mx_iastI hG (c / 3) _ (mx_d D_M_fault 119 rfl) (by first | assumption | omega) (by first | assumption | exact va_up_self _ _ _ | (rw [va_up_ne _ _ (by omega)]; first | assumption | exact va_up_self _ _ _ | (rw [va_up_ne _ _ (by omega)]; first | assumption | exact va_up_self _ _ _ | (rw [va_up_ne _ _ (by omega)]; first | assumption | exact va_up_self _ _ _ | (rw [va_up_ne _ _ (by omega)]; first | assumption | exact va_up_self _ _ _ | (rw [va_up_ne _ _ (by omega)]; first | assumption | exact va_up_self _ _ _)))))) (by rfl) (by rfl) (by omega) (by omega) ?_
        refine mx_aload_n (k4 := 0) (mx_d D_M_fault 120 rfl) (by rfl) ?_
        refine mx_getf hG (idx := 45) (ci := 7) (kf := 20) (mx_d D_M_fault 121 rfl) (by rfl) cls_M (by decide) w_601 (by first | assumption | omega) (by first | assumption | exact va_up_self _ _ _ | (rw [va_up_ne _ _ (by omega)]; first | assumption | exact va_up_self _ _ _ | (rw [va_up_ne _ _ (by omega)]; first | assumption | exact va_up_self _ _ _ | (rw [va_up_ne _ _ (by omega)]; first | assumption | exact va_up_self _ _ _ | (rw [va_up_ne _ _ (by omega)]; first | assumption | exact va_up_self _ _ _ | (rw [va_up_ne _ _ (by omega)]; first | assumption | exact va_up_self _ _ _)))))) (by rfl) ?_
        refine mx_aload_n (k4 := 0) (mx_d D_M_fault 122 rfl) (by rfl) ?_
        refine mx_getf hG (idx := 134) (ci := 7) (kf := 22) (mx_d D_M_fault 123 rfl) (by rfl) cls_M (by decide) w_603 (by first | assumption | omega) (by first | assumption | exact va_up_self _ _ _ | (rw [va_up_ne _ _ (by omega)]; first | assumption | exact va_up_self _ _ _ | (rw [va_up_ne _ _ (by omega)]; first | assumption | exact va_up_self _ _ _ | (rw [va_up_ne _ _ (by omega)]; first | assumption | exact va_up_self _ _ _ | (rw [va_up_ne _ _ (by omega)]; first | assumption | exact va_up_self _ _ _ | (rw [va_up_ne _ _ (by omega)]; first | assumption | exact va_up_self _ _ _)))))) (by rfl) ?_
        refine mx_iload_n (k4 := 1) (mx_d D_M_fault 124 rfl) (by rfl) ?_
        refine mx_iconst (n := 1) (mx_d D_M_fault 125 rfl) ?_
        refine mx_icmp_neY 234 (mx_d D_M_fault 126 rfl) (by decide) (by omega) (by omega) (by omega) (by omega) (by omega) ?_
        refine mx_aload_n (k4 := 0) (mx_d D_M_fault 129 rfl) (by rfl) ?_
        refine mx_getf hG (idx := 45) (ci := 7) (kf := 20) (mx_d D_M_fault 130 rfl) (by rfl) cls_M (by decide) w_601 (by first | assumption | omega) (by first | assumption | exact va_up_self _ _ _ | (rw [va_up_ne _ _ (by omega)]; first | assumption | exact va_up_self _ _ _ | (rw [va_up_ne _ _ (by omega)]; first | assumption | exact va_up_self _ _ _ | (rw [va_up_ne _ _ (by omega)]; first | assumption | exact va_up_self _ _ _ | (rw [va_up_ne _ _ (by omega)]; first | assumption | exact va_up_self _ _ _ | (rw [va_up_ne _ _ (by omega)]; first | assumption | exact va_up_self _ _ _)))))) (by rfl) ?_
        refine mx_aload_n (k4 := 0) (mx_d D_M_fault 131 rfl) (by rfl) ?_
        refine mx_getf hG (idx := 134) (ci := 7) (kf := 22) (mx_d D_M_fault 132 rfl) (by rfl) cls_M (by decide) w_603 (by first | assumption | omega) (by first | assumption | exact va_up_self _ _ _ | (rw [va_up_ne _ _ (by omega)]; first | assumption | exact va_up_self _ _ _ | (rw [va_up_ne _ _ (by omega)]; first | assumption | exact va_up_self _ _ _ | (rw [va_up_ne _ _ (by omega)]; first | assumption | exact va_up_self _ _ _ | (rw [va_up_ne _ _ (by omega)]; first | assumption | exact va_up_self _ _ _ | (rw [va_up_ne _ _ (by omega)]; first | assumption | exact va_up_self _ _ _)))))) (by rfl) ?_
        refine mx_ialdI hG _ (mx_d D_M_fault 133 rfl) (by first | assumption | omega) (by first | assumption | exact va_up_self _ _ _ | (rw [va_up_ne _ _ (by omega)]; first | assumption | exact va_up_self _ _ _ | (rw [va_up_ne _ _ (by omega)]; first | assumption | exact va_up_self _ _ _ | (rw [va_up_ne _ _ (by omega)]; first | assumption | exact va_up_self _ _ _ | (rw [va_up_ne _ _ (by omega)]; first | assumption | exact va_up_self _ _ _ | (rw [va_up_ne _ _ (by omega)]; first | assumption | exact va_up_self _ _ _)))))) (by rfl) (by omega) (by omega) ?_
        refine mx_iastI hG (c / 3) _ (mx_d D_M_fault 134 rfl) (by first | assumption | omega) (by first | assumption | exact va_up_self _ _ _ | (rw [va_up_ne _ _ (by omega)]; first | assumption | exact va_up_self _ _ _ | (rw [va_up_ne _ _ (by omega)]; first | assumption | exact va_up_self _ _ _ | (rw [va_up_ne _ _ (by omega)]; first | assumption | exact va_up_self _ _ _ | (rw [va_up_ne _ _ (by omega)]; first | assumption | exact va_up_self _ _ _ | (rw [va_up_ne _ _ (by omega)]; first | assumption | exact va_up_self _ _ _)))))) (by rfl) (by rfl) (by omega) (by omega) ?_
        refine mx_aload_n (k4 := 0) (mx_d D_M_fault 135 rfl) (by rfl) ?_
        refine mx_getf hG (idx := 48) (ci := 7) (kf := 21) (mx_d D_M_fault 136 rfl) (by rfl) cls_M (by decide) w_602 (by first | assumption | omega) (by first | assumption | exact va_up_self _ _ _ | (rw [va_up_ne _ _ (by omega)]; first | assumption | exact va_up_self _ _ _ | (rw [va_up_ne _ _ (by omega)]; first | assumption | exact va_up_self _ _ _ | (rw [va_up_ne _ _ (by omega)]; first | assumption | exact va_up_self _ _ _ | (rw [va_up_ne _ _ (by omega)]; first | assumption | exact va_up_self _ _ _ | (rw [va_up_ne _ _ (by omega)]; first | assumption | exact va_up_self _ _ _)))))) (by rfl) ?_
        refine mx_aload_n (k4 := 0) (mx_d D_M_fault 137 rfl) (by rfl) ?_
        refine mx_getf hG (idx := 134) (ci := 7) (kf := 22) (mx_d D_M_fault 138 rfl) (by rfl) cls_M (by decide) w_603 (by first | assumption | omega) (by first | assumption | exact va_up_self _ _ _ | (rw [va_up_ne _ _ (by omega)]; first | assumption | exact va_up_self _ _ _ | (rw [va_up_ne _ _ (by omega)]; first | assumption | exact va_up_self _ _ _ | (rw [va_up_ne _ _ (by omega)]; first | assumption | exact va_up_self _ _ _ | (rw [va_up_ne _ _ (by omega)]; first | assumption | exact va_up_self _ _ _ | (rw [va_up_ne _ _ (by omega)]; first | assumption | exact va_up_self _ _ _)))))) (by rfl) ?_
        refine mx_iload_n (k4 := 1) (mx_d D_M_fault 139 rfl) (by rfl) ?_
        refine mx_iconst (n := 2) (mx_d D_M_fault 140 rfl) ?_
        refine mx_icmp_neY 261 (mx_d D_M_fault 141 rfl) (by decide) (by omega) (by omega) (by omega) (by omega) (by omega) ?_
        refine mx_aload_n (k4 := 0) (mx_d D_M_fault 144 rfl) (by rfl) ?_
        refine mx_getf hG (idx := 48) (ci := 7) (kf := 21) (mx_d D_M_fault 145 rfl) (by rfl) cls_M (by decide) w_602 (by first | assumption | omega) (by first | assumption | exact va_up_self _ _ _ | (rw [va_up_ne _ _ (by omega)]; first | assumption | exact va_up_self _ _ _ | (rw [va_up_ne _ _ (by omega)]; first | assumption | exact va_up_self _ _ _ | (rw [va_up_ne _ _ (by omega)]; first | assumption | exact va_up_self _ _ _ | (rw [va_up_ne _ _ (by omega)]; first | assumption | exact va_up_self _ _ _ | (rw [va_up_ne _ _ (by omega)]; first | assumption | exact va_up_self _ _ _)))))) (by rfl) ?_
        refine mx_aload_n (k4 := 0) (mx_d D_M_fault 146 rfl) (by rfl) ?_
        refine mx_getf hG (idx := 134) (ci := 7) (kf := 22) (mx_d D_M_fault 147 rfl) (by rfl) cls_M (by decide) w_603 (by first | assumption | omega) (by first | assumption | exact va_up_self _ _ _ | (rw [va_up_ne _ _ (by omega)]; first | assumption | exact va_up_self _ _ _ | (rw [va_up_ne _ _ (by omega)]; first | assumption | exact va_up_self _ _ _ | (rw [va_up_ne _ _ (by omega)]; first | assumption | exact va_up_self _ _ _ | (rw [va_up_ne _ _ (by omega)]; first | assumption | exact va_up_self _ _ _ | (rw [va_up_ne _ _ (by omega)]; first | assumption | exact va_up_self _ _ _)))))) (by rfl) ?_
        refine mx_ialdI hG _ (mx_d D_M_fault 148 rfl) (by first | assumption | omega) (by first | assumption | exact va_up_self _ _ _ | (rw [va_up_ne _ _ (by omega)]; first | assumption | exact va_up_self _ _ _ | (rw [va_up_ne _ _ (by omega)]; first | assumption | exact va_up_self _ _ _ | (rw [va_up_ne _ _ (by omega)]; first | assumption | exact va_up_self _ _ _ | (rw [va_up_ne _ _ (by omega)]; first | assumption | exact va_up_self _ _ _ | (rw [va_up_ne _ _ (by omega)]; first | assumption | exact va_up_self _ _ _)))))) (by rfl) (by omega) (by omega) ?_
        refine mx_iastI hG (c / 3) _ (mx_d D_M_fault 149 rfl) (by first | assumption | omega) (by first | assumption | exact va_up_self _ _ _ | (rw [va_up_ne _ _ (by omega)]; first | assumption | exact va_up_self _ _ _ | (rw [va_up_ne _ _ (by omega)]; first | assumption | exact va_up_self _ _ _ | (rw [va_up_ne _ _ (by omega)]; first | assumption | exact va_up_self _ _ _ | (rw [va_up_ne _ _ (by omega)]; first | assumption | exact va_up_self _ _ _ | (rw [va_up_ne _ _ (by omega)]; first | assumption | exact va_up_self _ _ _)))))) (by rfl) (by rfl) (by omega) (by omega) ?_
        refine mx_goto 288 (mx_d D_M_fault 150 rfl) (by decide) ?_
        refine mx_iincI (i := 3) (n := 1) (mx_d D_M_fault 159 rfl) (by rfl) (by decide) ?_
        refine mx_goto 11 (mx_d D_M_fault 160 rfl) (by decide) ?_
        refine mx_loc (by rw [hw9, ew]; rfl) (ih (i + 1) _ c true (va_up t c n) (va_up tY (c / 3) n) (va_up tA (c / 3) (tA (c / 3))) (va_up tS (c / 3) (tS (c / 3))) (by omega) (by simp only [rdR, hr, hst]) (fun j hj => ?_) ?_ ?_ ?_ (va_up_self _ _ _) (fun k z1 z2 z3 z4 => ?_))
        · rw [va_up_id' tA (c / 3) rfl, va_up_id' tS (c / 3) rfl]
          by_cases e : j = c
          · rw [e, va_up_self, hw9]; show va_up tY (c / 3) n (c / 3) = n; rw [va_up_self]
          · rw [va_up_ne t _ e]
            have hx := hrel j (by omega)
            unfold txv at hx ⊢
            by_cases e2 : j % 3 = 0
            · rw [if_pos e2] at hx ⊢; rw [va_up_ne _ _ (by omega)]; exact hx
            · rw [if_neg e2] at hx ⊢; exact hx
        · rw [va_up_ne _ _ (by omega), va_up_ne _ _ (by omega), va_up_ne _ _ (by omega)]; exact k50
        · rw [va_up_ne _ _ (by omega), va_up_ne _ _ (by omega), va_up_self]
        · rw [va_up_ne _ _ (by omega), va_up_self]
        · rw [va_up_ne _ _ z4, va_up_ne _ _ z3, va_up_ne _ _ z2]; exact kf k z1 z2 z3 z4
      · rw [hw9]
        refine mx_aload_n (k4 := 0) (mx_d D_M_fault 106 rfl) (by rfl) ?_
        refine mx_getf hG (idx := 42) (ci := 7) (kf := 19) (mx_d D_M_fault 107 rfl) (by rfl) cls_M (by decide) w_600 (by first | assumption | omega) (by first | assumption | exact va_up_self _ _ _ | (rw [va_up_ne _ _ (by omega)]; first | assumption | exact va_up_self _ _ _ | (rw [va_up_ne _ _ (by omega)]; first | assumption | exact va_up_self _ _ _ | (rw [va_up_ne _ _ (by omega)]; first | assumption | exact va_up_self _ _ _ | (rw [va_up_ne _ _ (by omega)]; first | assumption | exact va_up_self _ _ _ | (rw [va_up_ne _ _ (by omega)]; first | assumption | exact va_up_self _ _ _)))))) (by rfl) ?_
        refine mx_aload_n (k4 := 0) (mx_d D_M_fault 108 rfl) (by rfl) ?_
        refine mx_getf hG (idx := 134) (ci := 7) (kf := 22) (mx_d D_M_fault 109 rfl) (by rfl) cls_M (by decide) w_603 (by first | assumption | omega) (by first | assumption | exact va_up_self _ _ _ | (rw [va_up_ne _ _ (by omega)]; first | assumption | exact va_up_self _ _ _ | (rw [va_up_ne _ _ (by omega)]; first | assumption | exact va_up_self _ _ _ | (rw [va_up_ne _ _ (by omega)]; first | assumption | exact va_up_self _ _ _ | (rw [va_up_ne _ _ (by omega)]; first | assumption | exact va_up_self _ _ _ | (rw [va_up_ne _ _ (by omega)]; first | assumption | exact va_up_self _ _ _)))))) (by rfl) ?_
        refine mx_iload_n (k4 := 1) (mx_d D_M_fault 110 rfl) (by rfl) ?_
        refine mx_if_neY 207 (mx_d D_M_fault 111 rfl) (by decide) (by omega) (by omega) (by omega) ?_
        refine mx_aload_n (k4 := 0) (mx_d D_M_fault 114 rfl) (by rfl) ?_
        refine mx_getf hG (idx := 42) (ci := 7) (kf := 19) (mx_d D_M_fault 115 rfl) (by rfl) cls_M (by decide) w_600 (by first | assumption | omega) (by first | assumption | exact va_up_self _ _ _ | (rw [va_up_ne _ _ (by omega)]; first | assumption | exact va_up_self _ _ _ | (rw [va_up_ne _ _ (by omega)]; first | assumption | exact va_up_self _ _ _ | (rw [va_up_ne _ _ (by omega)]; first | assumption | exact va_up_self _ _ _ | (rw [va_up_ne _ _ (by omega)]; first | assumption | exact va_up_self _ _ _ | (rw [va_up_ne _ _ (by omega)]; first | assumption | exact va_up_self _ _ _)))))) (by rfl) ?_
        refine mx_aload_n (k4 := 0) (mx_d D_M_fault 116 rfl) (by rfl) ?_
        refine mx_getf hG (idx := 134) (ci := 7) (kf := 22) (mx_d D_M_fault 117 rfl) (by rfl) cls_M (by decide) w_603 (by first | assumption | omega) (by first | assumption | exact va_up_self _ _ _ | (rw [va_up_ne _ _ (by omega)]; first | assumption | exact va_up_self _ _ _ | (rw [va_up_ne _ _ (by omega)]; first | assumption | exact va_up_self _ _ _ | (rw [va_up_ne _ _ (by omega)]; first | assumption | exact va_up_self _ _ _ | (rw [va_up_ne _ _ (by omega)]; first | assumption | exact va_up_self _ _ _ | (rw [va_up_ne _ _ (by omega)]; first | assumption | exact va_up_self _ _ _)))))) (by rfl) ?_
        refine mx_ialdI hG _ (mx_d D_M_fault 118 rfl) (by first | assumption | omega) (by first | assumption | exact va_up_self _ _ _ | (rw [va_up_ne _ _ (by omega)]; first | assumption | exact va_up_self _ _ _ | (rw [va_up_ne _ _ (by omega)]; first | assumption | exact va_up_self _ _ _ | (rw [va_up_ne _ _ (by omega)]; first | assumption | exact va_up_self _ _ _ | (rw [va_up_ne _ _ (by omega)]; first | assumption | exact va_up_self _ _ _ | (rw [va_up_ne _ _ (by omega)]; first | assumption | exact va_up_self _ _ _)))))) (by rfl) (by omega) (by omega) ?_
        refine mx_iastI hG (c / 3) _ (mx_d D_M_fault 119 rfl) (by first | assumption | omega) (by first | assumption | exact va_up_self _ _ _ | (rw [va_up_ne _ _ (by omega)]; first | assumption | exact va_up_self _ _ _ | (rw [va_up_ne _ _ (by omega)]; first | assumption | exact va_up_self _ _ _ | (rw [va_up_ne _ _ (by omega)]; first | assumption | exact va_up_self _ _ _ | (rw [va_up_ne _ _ (by omega)]; first | assumption | exact va_up_self _ _ _ | (rw [va_up_ne _ _ (by omega)]; first | assumption | exact va_up_self _ _ _)))))) (by rfl) (by rfl) (by omega) (by omega) ?_
        refine mx_aload_n (k4 := 0) (mx_d D_M_fault 120 rfl) (by rfl) ?_
        refine mx_getf hG (idx := 45) (ci := 7) (kf := 20) (mx_d D_M_fault 121 rfl) (by rfl) cls_M (by decide) w_601 (by first | assumption | omega) (by first | assumption | exact va_up_self _ _ _ | (rw [va_up_ne _ _ (by omega)]; first | assumption | exact va_up_self _ _ _ | (rw [va_up_ne _ _ (by omega)]; first | assumption | exact va_up_self _ _ _ | (rw [va_up_ne _ _ (by omega)]; first | assumption | exact va_up_self _ _ _ | (rw [va_up_ne _ _ (by omega)]; first | assumption | exact va_up_self _ _ _ | (rw [va_up_ne _ _ (by omega)]; first | assumption | exact va_up_self _ _ _)))))) (by rfl) ?_
        refine mx_aload_n (k4 := 0) (mx_d D_M_fault 122 rfl) (by rfl) ?_
        refine mx_getf hG (idx := 134) (ci := 7) (kf := 22) (mx_d D_M_fault 123 rfl) (by rfl) cls_M (by decide) w_603 (by first | assumption | omega) (by first | assumption | exact va_up_self _ _ _ | (rw [va_up_ne _ _ (by omega)]; first | assumption | exact va_up_self _ _ _ | (rw [va_up_ne _ _ (by omega)]; first | assumption | exact va_up_self _ _ _ | (rw [va_up_ne _ _ (by omega)]; first | assumption | exact va_up_self _ _ _ | (rw [va_up_ne _ _ (by omega)]; first | assumption | exact va_up_self _ _ _ | (rw [va_up_ne _ _ (by omega)]; first | assumption | exact va_up_self _ _ _)))))) (by rfl) ?_
        refine mx_iload_n (k4 := 1) (mx_d D_M_fault 124 rfl) (by rfl) ?_
        refine mx_iconst (n := 1) (mx_d D_M_fault 125 rfl) ?_
        refine mx_icmp_neN 234 (mx_d D_M_fault 126 rfl) (by decide) (by omega) (by omega) (by omega) (by omega) (by omega) ?_
        refine mx_iload_n (k4 := 2) (mx_d D_M_fault 127 rfl) (by rfl) ?_
        refine mx_goto 243 (mx_d D_M_fault 128 rfl) (by decide) ?_
        refine mx_iastI hG (c / 3) _ (mx_d D_M_fault 134 rfl) (by first | assumption | omega) (by first | assumption | exact va_up_self _ _ _ | (rw [va_up_ne _ _ (by omega)]; first | assumption | exact va_up_self _ _ _ | (rw [va_up_ne _ _ (by omega)]; first | assumption | exact va_up_self _ _ _ | (rw [va_up_ne _ _ (by omega)]; first | assumption | exact va_up_self _ _ _ | (rw [va_up_ne _ _ (by omega)]; first | assumption | exact va_up_self _ _ _ | (rw [va_up_ne _ _ (by omega)]; first | assumption | exact va_up_self _ _ _)))))) (by rfl) (by rfl) (by omega) (by omega) ?_
        refine mx_aload_n (k4 := 0) (mx_d D_M_fault 135 rfl) (by rfl) ?_
        refine mx_getf hG (idx := 48) (ci := 7) (kf := 21) (mx_d D_M_fault 136 rfl) (by rfl) cls_M (by decide) w_602 (by first | assumption | omega) (by first | assumption | exact va_up_self _ _ _ | (rw [va_up_ne _ _ (by omega)]; first | assumption | exact va_up_self _ _ _ | (rw [va_up_ne _ _ (by omega)]; first | assumption | exact va_up_self _ _ _ | (rw [va_up_ne _ _ (by omega)]; first | assumption | exact va_up_self _ _ _ | (rw [va_up_ne _ _ (by omega)]; first | assumption | exact va_up_self _ _ _ | (rw [va_up_ne _ _ (by omega)]; first | assumption | exact va_up_self _ _ _)))))) (by rfl) ?_
        refine mx_aload_n (k4 := 0) (mx_d D_M_fault 137 rfl) (by rfl) ?_
        refine mx_getf hG (idx := 134) (ci := 7) (kf := 22) (mx_d D_M_fault 138 rfl) (by rfl) cls_M (by decide) w_603 (by first | assumption | omega) (by first | assumption | exact va_up_self _ _ _ | (rw [va_up_ne _ _ (by omega)]; first | assumption | exact va_up_self _ _ _ | (rw [va_up_ne _ _ (by omega)]; first | assumption | exact va_up_self _ _ _ | (rw [va_up_ne _ _ (by omega)]; first | assumption | exact va_up_self _ _ _ | (rw [va_up_ne _ _ (by omega)]; first | assumption | exact va_up_self _ _ _ | (rw [va_up_ne _ _ (by omega)]; first | assumption | exact va_up_self _ _ _)))))) (by rfl) ?_
        refine mx_iload_n (k4 := 1) (mx_d D_M_fault 139 rfl) (by rfl) ?_
        refine mx_iconst (n := 2) (mx_d D_M_fault 140 rfl) ?_
        refine mx_icmp_neY 261 (mx_d D_M_fault 141 rfl) (by decide) (by omega) (by omega) (by omega) (by omega) (by omega) ?_
        refine mx_aload_n (k4 := 0) (mx_d D_M_fault 144 rfl) (by rfl) ?_
        refine mx_getf hG (idx := 48) (ci := 7) (kf := 21) (mx_d D_M_fault 145 rfl) (by rfl) cls_M (by decide) w_602 (by first | assumption | omega) (by first | assumption | exact va_up_self _ _ _ | (rw [va_up_ne _ _ (by omega)]; first | assumption | exact va_up_self _ _ _ | (rw [va_up_ne _ _ (by omega)]; first | assumption | exact va_up_self _ _ _ | (rw [va_up_ne _ _ (by omega)]; first | assumption | exact va_up_self _ _ _ | (rw [va_up_ne _ _ (by omega)]; first | assumption | exact va_up_self _ _ _ | (rw [va_up_ne _ _ (by omega)]; first | assumption | exact va_up_self _ _ _)))))) (by rfl) ?_
        refine mx_aload_n (k4 := 0) (mx_d D_M_fault 146 rfl) (by rfl) ?_
        refine mx_getf hG (idx := 134) (ci := 7) (kf := 22) (mx_d D_M_fault 147 rfl) (by rfl) cls_M (by decide) w_603 (by first | assumption | omega) (by first | assumption | exact va_up_self _ _ _ | (rw [va_up_ne _ _ (by omega)]; first | assumption | exact va_up_self _ _ _ | (rw [va_up_ne _ _ (by omega)]; first | assumption | exact va_up_self _ _ _ | (rw [va_up_ne _ _ (by omega)]; first | assumption | exact va_up_self _ _ _ | (rw [va_up_ne _ _ (by omega)]; first | assumption | exact va_up_self _ _ _ | (rw [va_up_ne _ _ (by omega)]; first | assumption | exact va_up_self _ _ _)))))) (by rfl) ?_
        refine mx_ialdI hG _ (mx_d D_M_fault 148 rfl) (by first | assumption | omega) (by first | assumption | exact va_up_self _ _ _ | (rw [va_up_ne _ _ (by omega)]; first | assumption | exact va_up_self _ _ _ | (rw [va_up_ne _ _ (by omega)]; first | assumption | exact va_up_self _ _ _ | (rw [va_up_ne _ _ (by omega)]; first | assumption | exact va_up_self _ _ _ | (rw [va_up_ne _ _ (by omega)]; first | assumption | exact va_up_self _ _ _ | (rw [va_up_ne _ _ (by omega)]; first | assumption | exact va_up_self _ _ _)))))) (by rfl) (by omega) (by omega) ?_
        refine mx_iastI hG (c / 3) _ (mx_d D_M_fault 149 rfl) (by first | assumption | omega) (by first | assumption | exact va_up_self _ _ _ | (rw [va_up_ne _ _ (by omega)]; first | assumption | exact va_up_self _ _ _ | (rw [va_up_ne _ _ (by omega)]; first | assumption | exact va_up_self _ _ _ | (rw [va_up_ne _ _ (by omega)]; first | assumption | exact va_up_self _ _ _ | (rw [va_up_ne _ _ (by omega)]; first | assumption | exact va_up_self _ _ _ | (rw [va_up_ne _ _ (by omega)]; first | assumption | exact va_up_self _ _ _)))))) (by rfl) (by rfl) (by omega) (by omega) ?_
        refine mx_goto 288 (mx_d D_M_fault 150 rfl) (by decide) ?_
        refine mx_iincI (i := 3) (n := 1) (mx_d D_M_fault 159 rfl) (by rfl) (by decide) ?_
        refine mx_goto 11 (mx_d D_M_fault 160 rfl) (by decide) ?_
        refine mx_loc (by rw [hw9, ew]; rfl) (ih (i + 1) _ c true (va_up t c n) (va_up tY (c / 3) (tY (c / 3))) (va_up tA (c / 3) n) (va_up tS (c / 3) (tS (c / 3))) (by omega) (by simp only [rdR, hr, hst]) (fun j hj => ?_) ?_ ?_ ?_ (va_up_self _ _ _) (fun k z1 z2 z3 z4 => ?_))
        · rw [va_up_id' tY (c / 3) rfl, va_up_id' tS (c / 3) rfl]
          by_cases e : j = c
          · rw [e, va_up_self, hw9]; show va_up tA (c / 3) n (c / 3) = n; rw [va_up_self]
          · rw [va_up_ne t _ e]
            have hx := hrel j (by omega)
            unfold txv at hx ⊢
            by_cases e2 : j % 3 = 1
            · rw [if_neg (by omega), if_pos e2] at hx ⊢; rw [va_up_ne _ _ (by omega)]; exact hx
            · by_cases e3 : j % 3 = 0
              · rw [if_pos e3] at hx ⊢; exact hx
              · rw [if_neg e3, if_neg e2] at hx ⊢; exact hx
        · rw [va_up_ne _ _ (by omega), va_up_ne _ _ (by omega), va_up_ne _ _ (by omega)]; exact k50
        · rw [va_up_ne _ _ (by omega), va_up_ne _ _ (by omega), va_up_self]
        · rw [va_up_ne _ _ (by omega), va_up_self]
        · rw [va_up_ne _ _ z4, va_up_ne _ _ z3, va_up_ne _ _ z2]; exact kf k z1 z2 z3 z4
      · rw [hw9]
        refine mx_aload_n (k4 := 0) (mx_d D_M_fault 106 rfl) (by rfl) ?_
        refine mx_getf hG (idx := 42) (ci := 7) (kf := 19) (mx_d D_M_fault 107 rfl) (by rfl) cls_M (by decide) w_600 (by first | assumption | omega) (by first | assumption | exact va_up_self _ _ _ | (rw [va_up_ne _ _ (by omega)]; first | assumption | exact va_up_self _ _ _ | (rw [va_up_ne _ _ (by omega)]; first | assumption | exact va_up_self _ _ _ | (rw [va_up_ne _ _ (by omega)]; first | assumption | exact va_up_self _ _ _ | (rw [va_up_ne _ _ (by omega)]; first | assumption | exact va_up_self _ _ _ | (rw [va_up_ne _ _ (by omega)]; first | assumption | exact va_up_self _ _ _)))))) (by rfl) ?_
        refine mx_aload_n (k4 := 0) (mx_d D_M_fault 108 rfl) (by rfl) ?_
        refine mx_getf hG (idx := 134) (ci := 7) (kf := 22) (mx_d D_M_fault 109 rfl) (by rfl) cls_M (by decide) w_603 (by first | assumption | omega) (by first | assumption | exact va_up_self _ _ _ | (rw [va_up_ne _ _ (by omega)]; first | assumption | exact va_up_self _ _ _ | (rw [va_up_ne _ _ (by omega)]; first | assumption | exact va_up_self _ _ _ | (rw [va_up_ne _ _ (by omega)]; first | assumption | exact va_up_self _ _ _ | (rw [va_up_ne _ _ (by omega)]; first | assumption | exact va_up_self _ _ _ | (rw [va_up_ne _ _ (by omega)]; first | assumption | exact va_up_self _ _ _)))))) (by rfl) ?_
        refine mx_iload_n (k4 := 1) (mx_d D_M_fault 110 rfl) (by rfl) ?_
        refine mx_if_neY 207 (mx_d D_M_fault 111 rfl) (by decide) (by omega) (by omega) (by omega) ?_
        refine mx_aload_n (k4 := 0) (mx_d D_M_fault 114 rfl) (by rfl) ?_
        refine mx_getf hG (idx := 42) (ci := 7) (kf := 19) (mx_d D_M_fault 115 rfl) (by rfl) cls_M (by decide) w_600 (by first | assumption | omega) (by first | assumption | exact va_up_self _ _ _ | (rw [va_up_ne _ _ (by omega)]; first | assumption | exact va_up_self _ _ _ | (rw [va_up_ne _ _ (by omega)]; first | assumption | exact va_up_self _ _ _ | (rw [va_up_ne _ _ (by omega)]; first | assumption | exact va_up_self _ _ _ | (rw [va_up_ne _ _ (by omega)]; first | assumption | exact va_up_self _ _ _ | (rw [va_up_ne _ _ (by omega)]; first | assumption | exact va_up_self _ _ _)))))) (by rfl) ?_
        refine mx_aload_n (k4 := 0) (mx_d D_M_fault 116 rfl) (by rfl) ?_
        refine mx_getf hG (idx := 134) (ci := 7) (kf := 22) (mx_d D_M_fault 117 rfl) (by rfl) cls_M (by decide) w_603 (by first | assumption | omega) (by first | assumption | exact va_up_self _ _ _ | (rw [va_up_ne _ _ (by omega)]; first | assumption | exact va_up_self _ _ _ | (rw [va_up_ne _ _ (by omega)]; first | assumption | exact va_up_self _ _ _ | (rw [va_up_ne _ _ (by omega)]; first | assumption | exact va_up_self _ _ _ | (rw [va_up_ne _ _ (by omega)]; first | assumption | exact va_up_self _ _ _ | (rw [va_up_ne _ _ (by omega)]; first | assumption | exact va_up_self _ _ _)))))) (by rfl) ?_
        refine mx_ialdI hG _ (mx_d D_M_fault 118 rfl) (by first | assumption | omega) (by first | assumption | exact va_up_self _ _ _ | (rw [va_up_ne _ _ (by omega)]; first | assumption | exact va_up_self _ _ _ | (rw [va_up_ne _ _ (by omega)]; first | assumption | exact va_up_self _ _ _ | (rw [va_up_ne _ _ (by omega)]; first | assumption | exact va_up_self _ _ _ | (rw [va_up_ne _ _ (by omega)]; first | assumption | exact va_up_self _ _ _ | (rw [va_up_ne _ _ (by omega)]; first | assumption | exact va_up_self _ _ _)))))) (by rfl) (by omega) (by omega) ?_
        refine mx_iastI hG (c / 3) _ (mx_d D_M_fault 119 rfl) (by first | assumption | omega) (by first | assumption | exact va_up_self _ _ _ | (rw [va_up_ne _ _ (by omega)]; first | assumption | exact va_up_self _ _ _ | (rw [va_up_ne _ _ (by omega)]; first | assumption | exact va_up_self _ _ _ | (rw [va_up_ne _ _ (by omega)]; first | assumption | exact va_up_self _ _ _ | (rw [va_up_ne _ _ (by omega)]; first | assumption | exact va_up_self _ _ _ | (rw [va_up_ne _ _ (by omega)]; first | assumption | exact va_up_self _ _ _)))))) (by rfl) (by rfl) (by omega) (by omega) ?_
        refine mx_aload_n (k4 := 0) (mx_d D_M_fault 120 rfl) (by rfl) ?_
        refine mx_getf hG (idx := 45) (ci := 7) (kf := 20) (mx_d D_M_fault 121 rfl) (by rfl) cls_M (by decide) w_601 (by first | assumption | omega) (by first | assumption | exact va_up_self _ _ _ | (rw [va_up_ne _ _ (by omega)]; first | assumption | exact va_up_self _ _ _ | (rw [va_up_ne _ _ (by omega)]; first | assumption | exact va_up_self _ _ _ | (rw [va_up_ne _ _ (by omega)]; first | assumption | exact va_up_self _ _ _ | (rw [va_up_ne _ _ (by omega)]; first | assumption | exact va_up_self _ _ _ | (rw [va_up_ne _ _ (by omega)]; first | assumption | exact va_up_self _ _ _)))))) (by rfl) ?_
        refine mx_aload_n (k4 := 0) (mx_d D_M_fault 122 rfl) (by rfl) ?_
        refine mx_getf hG (idx := 134) (ci := 7) (kf := 22) (mx_d D_M_fault 123 rfl) (by rfl) cls_M (by decide) w_603 (by first | assumption | omega) (by first | assumption | exact va_up_self _ _ _ | (rw [va_up_ne _ _ (by omega)]; first | assumption | exact va_up_self _ _ _ | (rw [va_up_ne _ _ (by omega)]; first | assumption | exact va_up_self _ _ _ | (rw [va_up_ne _ _ (by omega)]; first | assumption | exact va_up_self _ _ _ | (rw [va_up_ne _ _ (by omega)]; first | assumption | exact va_up_self _ _ _ | (rw [va_up_ne _ _ (by omega)]; first | assumption | exact va_up_self _ _ _)))))) (by rfl) ?_
        refine mx_iload_n (k4 := 1) (mx_d D_M_fault 124 rfl) (by rfl) ?_
        refine mx_iconst (n := 1) (mx_d D_M_fault 125 rfl) ?_
        refine mx_icmp_neY 234 (mx_d D_M_fault 126 rfl) (by decide) (by omega) (by omega) (by omega) (by omega) (by omega) ?_
        refine mx_aload_n (k4 := 0) (mx_d D_M_fault 129 rfl) (by rfl) ?_
        refine mx_getf hG (idx := 45) (ci := 7) (kf := 20) (mx_d D_M_fault 130 rfl) (by rfl) cls_M (by decide) w_601 (by first | assumption | omega) (by first | assumption | exact va_up_self _ _ _ | (rw [va_up_ne _ _ (by omega)]; first | assumption | exact va_up_self _ _ _ | (rw [va_up_ne _ _ (by omega)]; first | assumption | exact va_up_self _ _ _ | (rw [va_up_ne _ _ (by omega)]; first | assumption | exact va_up_self _ _ _ | (rw [va_up_ne _ _ (by omega)]; first | assumption | exact va_up_self _ _ _ | (rw [va_up_ne _ _ (by omega)]; first | assumption | exact va_up_self _ _ _)))))) (by rfl) ?_
        refine mx_aload_n (k4 := 0) (mx_d D_M_fault 131 rfl) (by rfl) ?_
        refine mx_getf hG (idx := 134) (ci := 7) (kf := 22) (mx_d D_M_fault 132 rfl) (by rfl) cls_M (by decide) w_603 (by first | assumption | omega) (by first | assumption | exact va_up_self _ _ _ | (rw [va_up_ne _ _ (by omega)]; first | assumption | exact va_up_self _ _ _ | (rw [va_up_ne _ _ (by omega)]; first | assumption | exact va_up_self _ _ _ | (rw [va_up_ne _ _ (by omega)]; first | assumption | exact va_up_self _ _ _ | (rw [va_up_ne _ _ (by omega)]; first | assumption | exact va_up_self _ _ _ | (rw [va_up_ne _ _ (by omega)]; first | assumption | exact va_up_self _ _ _)))))) (by rfl) ?_
        refine mx_ialdI hG _ (mx_d D_M_fault 133 rfl) (by first | assumption | omega) (by first | assumption | exact va_up_self _ _ _ | (rw [va_up_ne _ _ (by omega)]; first | assumption | exact va_up_self _ _ _ | (rw [va_up_ne _ _ (by omega)]; first | assumption | exact va_up_self _ _ _ | (rw [va_up_ne _ _ (by omega)]; first | assumption | exact va_up_self _ _ _ | (rw [va_up_ne _ _ (by omega)]; first | assumption | exact va_up_self _ _ _ | (rw [va_up_ne _ _ (by omega)]; first | assumption | exact va_up_self _ _ _)))))) (by rfl) (by omega) (by omega) ?_
        refine mx_iastI hG (c / 3) _ (mx_d D_M_fault 134 rfl) (by first | assumption | omega) (by first | assumption | exact va_up_self _ _ _ | (rw [va_up_ne _ _ (by omega)]; first | assumption | exact va_up_self _ _ _ | (rw [va_up_ne _ _ (by omega)]; first | assumption | exact va_up_self _ _ _ | (rw [va_up_ne _ _ (by omega)]; first | assumption | exact va_up_self _ _ _ | (rw [va_up_ne _ _ (by omega)]; first | assumption | exact va_up_self _ _ _ | (rw [va_up_ne _ _ (by omega)]; first | assumption | exact va_up_self _ _ _)))))) (by rfl) (by rfl) (by omega) (by omega) ?_
        refine mx_aload_n (k4 := 0) (mx_d D_M_fault 135 rfl) (by rfl) ?_
        refine mx_getf hG (idx := 48) (ci := 7) (kf := 21) (mx_d D_M_fault 136 rfl) (by rfl) cls_M (by decide) w_602 (by first | assumption | omega) (by first | assumption | exact va_up_self _ _ _ | (rw [va_up_ne _ _ (by omega)]; first | assumption | exact va_up_self _ _ _ | (rw [va_up_ne _ _ (by omega)]; first | assumption | exact va_up_self _ _ _ | (rw [va_up_ne _ _ (by omega)]; first | assumption | exact va_up_self _ _ _ | (rw [va_up_ne _ _ (by omega)]; first | assumption | exact va_up_self _ _ _ | (rw [va_up_ne _ _ (by omega)]; first | assumption | exact va_up_self _ _ _)))))) (by rfl) ?_
        refine mx_aload_n (k4 := 0) (mx_d D_M_fault 137 rfl) (by rfl) ?_
        refine mx_getf hG (idx := 134) (ci := 7) (kf := 22) (mx_d D_M_fault 138 rfl) (by rfl) cls_M (by decide) w_603 (by first | assumption | omega) (by first | assumption | exact va_up_self _ _ _ | (rw [va_up_ne _ _ (by omega)]; first | assumption | exact va_up_self _ _ _ | (rw [va_up_ne _ _ (by omega)]; first | assumption | exact va_up_self _ _ _ | (rw [va_up_ne _ _ (by omega)]; first | assumption | exact va_up_self _ _ _ | (rw [va_up_ne _ _ (by omega)]; first | assumption | exact va_up_self _ _ _ | (rw [va_up_ne _ _ (by omega)]; first | assumption | exact va_up_self _ _ _)))))) (by rfl) ?_
        refine mx_iload_n (k4 := 1) (mx_d D_M_fault 139 rfl) (by rfl) ?_
        refine mx_iconst (n := 2) (mx_d D_M_fault 140 rfl) ?_
        refine mx_icmp_neN 261 (mx_d D_M_fault 141 rfl) (by decide) (by omega) (by omega) (by omega) (by omega) (by omega) ?_
        refine mx_iload_n (k4 := 2) (mx_d D_M_fault 142 rfl) (by rfl) ?_
        refine mx_goto 270 (mx_d D_M_fault 143 rfl) (by decide) ?_
        refine mx_iastI hG (c / 3) _ (mx_d D_M_fault 149 rfl) (by first | assumption | omega) (by first | assumption | exact va_up_self _ _ _ | (rw [va_up_ne _ _ (by omega)]; first | assumption | exact va_up_self _ _ _ | (rw [va_up_ne _ _ (by omega)]; first | assumption | exact va_up_self _ _ _ | (rw [va_up_ne _ _ (by omega)]; first | assumption | exact va_up_self _ _ _ | (rw [va_up_ne _ _ (by omega)]; first | assumption | exact va_up_self _ _ _ | (rw [va_up_ne _ _ (by omega)]; first | assumption | exact va_up_self _ _ _)))))) (by rfl) (by rfl) (by omega) (by omega) ?_
        refine mx_goto 288 (mx_d D_M_fault 150 rfl) (by decide) ?_
        refine mx_iincI (i := 3) (n := 1) (mx_d D_M_fault 159 rfl) (by rfl) (by decide) ?_
        refine mx_goto 11 (mx_d D_M_fault 160 rfl) (by decide) ?_
        refine mx_loc (by rw [hw9, ew]; rfl) (ih (i + 1) _ c true (va_up t c n) (va_up tY (c / 3) (tY (c / 3))) (va_up tA (c / 3) (tA (c / 3))) (va_up tS (c / 3) n) (by omega) (by simp only [rdR, hr, hst]) (fun j hj => ?_) ?_ ?_ ?_ (va_up_self _ _ _) (fun k z1 z2 z3 z4 => ?_))
        · rw [va_up_id' tY (c / 3) rfl, va_up_id' tA (c / 3) rfl]
          by_cases e : j = c
          · rw [e, va_up_self, hw9]; show va_up tS (c / 3) n (c / 3) = n; rw [va_up_self]
          · rw [va_up_ne t _ e]
            have hx := hrel j (by omega)
            unfold txv at hx ⊢
            by_cases e2 : j % 3 = 2
            · rw [if_neg (by omega), if_neg (by omega)] at hx ⊢; rw [va_up_ne _ _ (by omega)]; exact hx
            · by_cases e3 : j % 3 = 0
              · rw [if_pos e3] at hx ⊢; exact hx
              · rw [if_neg e3, if_pos (by omega)] at hx ⊢; exact hx
        · rw [va_up_ne _ _ (by omega), va_up_ne _ _ (by omega), va_up_ne _ _ (by omega)]; exact k50
        · rw [va_up_ne _ _ (by omega), va_up_ne _ _ (by omega), va_up_self]
        · rw [va_up_ne _ _ (by omega), va_up_self]
        · rw [va_up_ne _ _ z4, va_up_ne _ _ z3, va_up_ne _ _ z2]; exact kf k z1 z2 z3 z4
    have sep : rdStep Y (ps i) c b t = some (c + 1, false, t) → ∀ {l9 : List (Nat × Value)}, mx_get l9 0 = some (.ref (mx_B G + 50)) → mx_get l9 1 = some (.int (iI (((c + 1) % 3 : Nat) : Int))) → mx_get l9 2 = some (.int (iI (-1))) → mx_get l9 3 = some (.int (iI i)) → mx_get l9 5 = some (.int (iI (bI true))) → mx_M G Y_M_fault (d + 1) bc bs false N ce' 179 l9 [] Q := by
      intro hst l9 g0 g1 g2 g3 g5
      have hb : b = true := by
        cases b with
        | true => rfl
        | false =>
          unfold rdStep at hst
          split at hst
          · split at hst
            · exact absurd hst (by simp)
            · split at hst
              · simp at hst
              · exact absurd hst (by simp)
          · simp at hst
      refine mx_loc (l' := [(0, .ref (mx_B G + 50)), (1, .int (iI (((c + 1) % 3 : Nat) : Int))), (2, .int (iI (-1))), (3, .int (iI i)), (5, .int (iI (bI true)))]) (by simp only [List.map_cons, List.map_nil, g0, g1, g2, g3, g5]) ?_
      have hrel' : ∀ j, (j < c + 1 ∨ (j = c + 1 ∧ false = true)) → txv tY tA tS (j % 3) (j / 3) = t j := by
        intro j hj
        rcases hj with hj | hj
        · by_cases e : j = c
          · exact hrel j (Or.inr ⟨e, hb⟩)
          · exact hrel j (Or.inl (by omega))
        · exact absurd hj.2 (by decide)
      refine mx_iload (i := 5) (mx_d D_M_fault 99 rfl) (by rfl) ?_
      refine mx_if_neY 186 (mx_d D_M_fault 100 rfl) (by decide) (by decide) (by decide) (by decide) ?_
      refine mx_iload_n (k4 := 2) (mx_d D_M_fault 103 rfl) (by rfl) ?_
      refine mx_iconst (n := -1) (mx_d D_M_fault 104 rfl) ?_
      refine mx_icmp_eqY 274 (mx_d D_M_fault 105 rfl) (by decide) (by omega) (by omega) (by omega) (by omega) (by omega) ?_
      refine mx_iload_n (k4 := 1) (mx_d D_M_fault 151 rfl) (by rfl) ?_
      by_cases hw : (c + 1) % 3 = 0
      · refine mx_if_neN 288 (mx_d D_M_fault 152 rfl) (by decide) (by omega) (by omega) (by omega) ?_
        refine mx_aload_n (k4 := 0) (mx_d D_M_fault 153 rfl) (by rfl) ?_
        refine mx_dup (mx_d D_M_fault 154 rfl) (by rfl) ?_
        refine mx_getf hG (idx := 134) (ci := 7) (kf := 22) (mx_d D_M_fault 155 rfl) (by rfl) cls_M (by decide) w_603 (by first | assumption | omega) (by first | assumption | exact va_up_self _ _ _ | (rw [va_up_ne _ _ (by omega)]; first | assumption | exact va_up_self _ _ _ | (rw [va_up_ne _ _ (by omega)]; first | assumption | exact va_up_self _ _ _ | (rw [va_up_ne _ _ (by omega)]; first | assumption | exact va_up_self _ _ _ | (rw [va_up_ne _ _ (by omega)]; first | assumption | exact va_up_self _ _ _ | (rw [va_up_ne _ _ (by omega)]; first | assumption | exact va_up_self _ _ _)))))) (by rfl) ?_
        refine mx_iconst (n := 1) (mx_d D_M_fault 156 rfl) ?_
        refine mx_iaddI (mx_d D_M_fault 157 rfl) ?_
        refine mx_putf hG (idx := 134) (ci := 7) (kf := 22) (t := (.int)) (mx_d D_M_fault 158 rfl) (by rfl) cls_M (by decide) (Or.inl rfl) w_603 (by first | assumption | omega) (by first | assumption | exact va_up_self _ _ _ | (rw [va_up_ne _ _ (by omega)]; first | assumption | exact va_up_self _ _ _ | (rw [va_up_ne _ _ (by omega)]; first | assumption | exact va_up_self _ _ _ | (rw [va_up_ne _ _ (by omega)]; first | assumption | exact va_up_self _ _ _ | (rw [va_up_ne _ _ (by omega)]; first | assumption | exact va_up_self _ _ _ | (rw [va_up_ne _ _ (by omega)]; first | assumption | exact va_up_self _ _ _)))))) (by exact Nat.le_of_ble_eq_true rfl) (by decide +kernel) (by rfl) (by rfl) ?_
        refine mx_iincI (i := 3) (n := 1) (mx_d D_M_fault 159 rfl) (by rfl) (by decide) ?_
        refine mx_goto 11 (mx_d D_M_fault 160 rfl) (by decide) ?_
        refine mx_loc (by rfl) (ih (i + 1) _ (c + 1) false t tY tA tS (by omega) (by simp only [rdR, hr, hst]) hrel' ?_ ((va_up_ne _ _ (by omega)).trans k60) ((va_up_ne _ _ (by omega)).trans k61) ((va_up_ne _ _ (by omega)).trans k62) (fun k z1 z2 z3 z4 => (va_up_ne _ _ z1).trans (kf k z1 z2 z3 z4)))
        rw [va_up_self, show (c + 1) / 3 = c / 3 + 1 by omega]; rfl
      · refine mx_if_neY 288 (mx_d D_M_fault 152 rfl) (by decide) (by omega) (by omega) (by omega) ?_
        refine mx_iincI (i := 3) (n := 1) (mx_d D_M_fault 159 rfl) (by rfl) (by decide) ?_
        refine mx_goto 11 (mx_d D_M_fault 160 rfl) (by decide) ?_
        refine mx_loc (by rfl) (ih (i + 1) ce' (c + 1) false t tY tA tS (by omega) (by simp only [rdR, hr, hst]) hrel' ?_ k60 k61 k62 kf)
        rw [show (c + 1) / 3 = c / 3 by omega]; exact k50
    refine mx_iload_n (k4 := 3) (mx_d D_M_fault 9 rfl) (by rfl) ?_
    refine mx_aload_n (k4 := 0) (mx_d D_M_fault 10 rfl) (by rfl) ?_
    refine mx_getf hG (idx := 121) (ci := 7) (kf := 17) (mx_d D_M_fault 11 rfl) (by rfl) cls_M (by decide) w_598 (by first | assumption | omega) (by first | assumption | exact va_up_self _ _ _ | (rw [va_up_ne _ _ (by omega)]; first | assumption | exact va_up_self _ _ _ | (rw [va_up_ne _ _ (by omega)]; first | assumption | exact va_up_self _ _ _ | (rw [va_up_ne _ _ (by omega)]; first | assumption | exact va_up_self _ _ _ | (rw [va_up_ne _ _ (by omega)]; first | assumption | exact va_up_self _ _ _ | (rw [va_up_ne _ _ (by omega)]; first | assumption | exact va_up_self _ _ _)))))) (by rfl) ?_
    refine mx_icmp_geN 294 (mx_d D_M_fault 12 rfl) (by decide) (by omega) (by omega) (by omega) (by omega) (by omega) ?_
    refine mx_aload_n (k4 := 0) (mx_d D_M_fault 13 rfl) (by rfl) ?_
    refine mx_getf hG (idx := 39) (ci := 7) (kf := 18) (mx_d D_M_fault 14 rfl) (by rfl) cls_M (by decide) w_599 (by first | assumption | omega) (by first | assumption | exact va_up_self _ _ _ | (rw [va_up_ne _ _ (by omega)]; first | assumption | exact va_up_self _ _ _ | (rw [va_up_ne _ _ (by omega)]; first | assumption | exact va_up_self _ _ _ | (rw [va_up_ne _ _ (by omega)]; first | assumption | exact va_up_self _ _ _ | (rw [va_up_ne _ _ (by omega)]; first | assumption | exact va_up_self _ _ _ | (rw [va_up_ne _ _ (by omega)]; first | assumption | exact va_up_self _ _ _)))))) (by rfl) ?_
    refine mx_iload_n (k4 := 3) (mx_d D_M_fault 15 rfl) (by rfl) ?_
    refine mx_ialdI hG _ (mx_d D_M_fault 16 rfl) (by first | assumption | omega) (by first | assumption | exact va_up_self _ _ _ | (rw [va_up_ne _ _ (by omega)]; first | assumption | exact va_up_self _ _ _ | (rw [va_up_ne _ _ (by omega)]; first | assumption | exact va_up_self _ _ _ | (rw [va_up_ne _ _ (by omega)]; first | assumption | exact va_up_self _ _ _ | (rw [va_up_ne _ _ (by omega)]; first | assumption | exact va_up_self _ _ _ | (rw [va_up_ne _ _ (by omega)]; first | assumption | exact va_up_self _ _ _)))))) (by rfl) (by omega) (by omega) ?_
    refine mx_istore (i := 4) (mx_d D_M_fault 17 rfl) (by decide) ?_
    refine mx_iload (i := 4) (mx_d D_M_fault 18 rfl) (by rfl) ?_
    refine mx_bipush (n := 48) (mx_d D_M_fault 19 rfl) (by decide) ?_
    refine mx_bipush (n := 57) (mx_d D_M_fault 20 rfl) (by decide) ?_
    refine mx_callS (Y' := Y_M_within) [_, _, _] (mx_d D_M_fault 21 rfl) in_M_within w_663 w_664 np_M_within (by exact Nat.le_of_ble_eq_true rfl) (by rfl) (by rfl) (by exact Nat.le_of_ble_eq_true rfl) (m_within hp1.1 hp1.2 (by omega) (by omega) (by omega) (by omega) ?_)
    cases hd : wiB (ps i) 48 57 with
    | true =>
      have hd' := wiB_t hd
      have nbd : 0 ≤ rdNum b (t c) (ps i - 48) ∧ rdNum b (t c) (ps i - 48) ≤ 100000 := by
        unfold rdNum
        cases b with
        | false => simp; omega
        | true => have := tb rfl; simp; omega
      have most : ∀ m : Int, m = (if c % 3 = 0 then (Y : Int) - 1 else if c % 3 = 1 then 3000 else 100) → ∀ {l9 : List (Nat × Value)}, mx_get l9 0 = some (.ref (mx_B G + 50)) → mx_get l9 1 = some (.int (iI ((c % 3 : Nat) : Int))) → mx_get l9 2 = some (.int (iI (rdNb b (t c)))) → mx_get l9 3 = some (.int (iI i)) → mx_get l9 6 = some (.int (iI (rdNum b (t c) (ps i - 48)))) → mx_M G Y_M_fault (d + 1) bc bs false N ce' 90 l9 [.int (iI m)] Q := by
        intro m hm l9 g0 g1 g2 g3 g6
        refine mx_loc (l' := [(0, .ref (mx_B G + 50)), (1, .int (iI ((c % 3 : Nat) : Int))), (2, .int (iI (rdNb b (t c)))), (3, .int (iI i)), (6, .int (iI (rdNum b (t c) (ps i - 48))))]) (by simp only [List.map_cons, List.map_nil, g0, g1, g2, g3, g6]) ?_
        have hm1 : 0 ≤ m ∧ m ≤ 3000 := by
          rw [hm]; split <;> (try split) <;> omega
        have hok : rdOk Y (c % 3) (rdNum b (t c) (ps i - 48)) = true ↔ (rdNum b (t c) (ps i - 48) ≤ m ∧ (c % 3 < 2 ∨ 0 < rdNum b (t c) (ps i - 48))) := by
          rw [hm]
          unfold rdOk
          obtain hw9 | hw9 | hw9 : c % 3 = 0 ∨ c % 3 = 1 ∨ c % 3 = 2 := by omega
          · rw [hw9]; simp; omega
          · rw [hw9]; simp
          · rw [hw9]; simp; omega
        have hnz : rdNb b (t c) = 0 ↔ (b = true ∧ t c = 0) := by
          unfold rdNb
          cases b <;> simp
        have stp : rdStep Y (ps i) c b t = if b = true ∧ t c = 0 then none else if rdOk Y (c % 3) (rdNum b (t c) (ps i - 48)) = true then some (c, true, va_up t c (rdNum b (t c) (ps i - 48))) else none := by
          unfold rdStep; rw [if_pos hd']
        have fl : rdStep Y (ps i) c b t = none → ∀ {l8 : List (Nat × Value)}, mx_get l8 3 = some (.int (iI i)) → mx_get l8 6 = some (.int (iI (rdNum b (t c) (ps i - 48)))) → mx_M G Y_M_fault (d + 1) bc bs false N ce' 117 l8 [] Q := by
          intro hs l8 e3 e6
          refine mx_loc (l' := [(3, .int (iI i)), (6, .int (iI (rdNum b (t c) (ps i - 48))))]) (by simp only [List.map_cons, List.map_nil, e3, e6]) ?_
          refine mx_iconst (n := 0) (mx_d D_M_fault 64 rfl) ?_
          refine mx_istore (i := 5) (mx_d D_M_fault 65 rfl) (by decide) ?_
          refine mx_iload (i := 6) (mx_d D_M_fault 66 rfl) (by rfl) ?_
          refine mx_istore_n (k4 := 2) (mx_d D_M_fault 67 rfl) (by decide) ?_
          refine mx_goto 179 (mx_d D_M_fault 68 rfl) (by decide) ?_
          exact ret hs rfl rfl
        have tr : rdStep Y (ps i) c b t = some (c, true, va_up t c (rdNum b (t c) (ps i - 48))) → ∀ {l8 : List (Nat × Value)}, mx_get l8 0 = some (.ref (mx_B G + 50)) → mx_get l8 1 = some (.int (iI ((c % 3 : Nat) : Int))) → mx_get l8 3 = some (.int (iI i)) → mx_get l8 6 = some (.int (iI (rdNum b (t c) (ps i - 48)))) → mx_M G Y_M_fault (d + 1) bc bs false N ce' 113 l8 [] Q := by
          intro hs l8 e0 e1 e3 e6
          refine mx_loc (l' := [(0, .ref (mx_B G + 50)), (1, .int (iI ((c % 3 : Nat) : Int))), (3, .int (iI i)), (6, .int (iI (rdNum b (t c) (ps i - 48))))]) (by simp only [List.map_cons, List.map_nil, e0, e1, e3, e6]) ?_
          refine mx_iconst (n := 1) (mx_d D_M_fault 62 rfl) ?_
          refine mx_goto 118 (mx_d D_M_fault 63 rfl) (by decide) ?_
          refine mx_istore (i := 5) (mx_d D_M_fault 65 rfl) (by decide) ?_
          refine mx_iload (i := 6) (mx_d D_M_fault 66 rfl) (by rfl) ?_
          refine mx_istore_n (k4 := 2) (mx_d D_M_fault 67 rfl) (by decide) ?_
          refine mx_goto 179 (mx_d D_M_fault 68 rfl) (by decide) ?_
          exact dig _ nbd.1 nbd.2 hs rfl rfl rfl rfl rfl
        refine mx_istore (i := 7) (mx_d D_M_fault 51 rfl) (by decide) ?_
        refine mx_iload_n (k4 := 2) (mx_d D_M_fault 52 rfl) (by rfl) ?_
        by_cases z1 : rdNb b (t c) = 0
        · refine mx_if_eqY 117 (mx_d D_M_fault 53 rfl) (by decide) (by omega) (by omega) (by omega) ?_
          exact fl (by rw [stp, if_pos (hnz.mp z1)]) rfl rfl
        · have z1' : ¬ (b = true ∧ t c = 0) := fun z => z1 (hnz.mpr z)
          refine mx_if_eqN 117 (mx_d D_M_fault 53 rfl) (by decide) (by omega) (by omega) (by omega) ?_
          refine mx_iload (i := 6) (mx_d D_M_fault 54 rfl) (by rfl) ?_
          refine mx_iload (i := 7) (mx_d D_M_fault 55 rfl) (by rfl) ?_
          by_cases z2 : rdNum b (t c) (ps i - 48) ≤ m
          · refine mx_icmp_gtN 117 (mx_d D_M_fault 56 rfl) (by decide) (by omega) (by omega) (by omega) (by omega) (by omega) ?_
            refine mx_iload_n (k4 := 1) (mx_d D_M_fault 57 rfl) (by rfl) ?_
            refine mx_iconst (n := 2) (mx_d D_M_fault 58 rfl) ?_
            by_cases z3 : c % 3 < 2
            · refine mx_icmp_ltY 113 (mx_d D_M_fault 59 rfl) (by decide) (by omega) (by omega) (by omega) (by omega) (by omega) ?_
              exact tr (by rw [stp, if_neg z1', if_pos (hok.mpr ⟨z2, Or.inl z3⟩)]) rfl rfl rfl rfl
            · refine mx_icmp_ltN 113 (mx_d D_M_fault 59 rfl) (by decide) (by omega) (by omega) (by omega) (by omega) (by omega) ?_
              refine mx_iload (i := 6) (mx_d D_M_fault 60 rfl) (by rfl) ?_
              by_cases z4 : 0 < rdNum b (t c) (ps i - 48)
              · refine mx_if_leN 117 (mx_d D_M_fault 61 rfl) (by decide) (by omega) (by omega) (by omega) ?_
                exact tr (by rw [stp, if_neg z1', if_pos (hok.mpr ⟨z2, Or.inr z4⟩)]) rfl rfl rfl rfl
              · refine mx_if_leY 117 (mx_d D_M_fault 61 rfl) (by decide) (by omega) (by omega) (by omega) ?_
                exact fl (by rw [stp, if_neg z1', if_neg (fun z => by have := (hok.mp z).2; omega)]) rfl rfl
          · refine mx_icmp_gtY 117 (mx_d D_M_fault 56 rfl) (by decide) (by omega) (by omega) (by omega) (by omega) (by omega) ?_
            exact fl (by rw [stp, if_neg z1', if_neg (fun z => z2 (hok.mp z).1)]) rfl rfl
      have nxt : ∀ {l9 : List (Nat × Value)}, mx_get l9 0 = some (.ref (mx_B G + 50)) → mx_get l9 1 = some (.int (iI ((c % 3 : Nat) : Int))) → mx_get l9 2 = some (.int (iI (rdNb b (t c)))) → mx_get l9 3 = some (.int (iI i)) → mx_M G Y_M_fault (d + 1) bc bs false N ce' 62 l9 [.int (iI (rdNum b (t c) (ps i - 48)))] Q := by
        intro l9 g0 g1 g2 g3
        refine mx_loc (l' := [(0, .ref (mx_B G + 50)), (1, .int (iI ((c % 3 : Nat) : Int))), (2, .int (iI (rdNb b (t c)))), (3, .int (iI i))]) (by simp only [List.map_cons, List.map_nil, g0, g1, g2, g3]) ?_
        refine mx_istore (i := 6) (mx_d D_M_fault 37 rfl) (by decide) ?_
        refine mx_iload_n (k4 := 1) (mx_d D_M_fault 38 rfl) (by rfl) ?_
        by_cases w0 : c % 3 = 0
        · refine mx_if_neN 77 (mx_d D_M_fault 39 rfl) (by decide) (by omega) (by omega) (by omega) ?_
          refine mx_aload_n (k4 := 0) (mx_d D_M_fault 40 rfl) (by rfl) ?_
          refine mx_getf hG (idx := 51) (ci := 7) (kf := 1) (mx_d D_M_fault 41 rfl) (by rfl) cls_M (by decide) w_582 (by first | assumption | omega) (by first | assumption | exact va_up_self _ _ _ | (rw [va_up_ne _ _ (by omega)]; first | assumption | exact va_up_self _ _ _ | (rw [va_up_ne _ _ (by omega)]; first | assumption | exact va_up_self _ _ _ | (rw [va_up_ne _ _ (by omega)]; first | assumption | exact va_up_self _ _ _ | (rw [va_up_ne _ _ (by omega)]; first | assumption | exact va_up_self _ _ _ | (rw [va_up_ne _ _ (by omega)]; first | assumption | exact va_up_self _ _ _)))))) (by rfl) ?_
          refine mx_iconst (n := 1) (mx_d D_M_fault 42 rfl) ?_
          refine mx_isubI (mx_d D_M_fault 43 rfl) ?_
          refine mx_goto 90 (mx_d D_M_fault 44 rfl) (by decide) ?_
          exact most _ (by rw [if_pos w0]) rfl rfl rfl rfl rfl
        · refine mx_if_neY 77 (mx_d D_M_fault 39 rfl) (by decide) (by omega) (by omega) (by omega) ?_
          refine mx_iload_n (k4 := 1) (mx_d D_M_fault 45 rfl) (by rfl) ?_
          refine mx_iconst (n := 1) (mx_d D_M_fault 46 rfl) ?_
          by_cases w1 : c % 3 = 1
          · refine mx_icmp_neN 88 (mx_d D_M_fault 47 rfl) (by decide) (by omega) (by omega) (by omega) (by omega) (by omega) ?_
            refine mx_sipush (n := 3000) (mx_d D_M_fault 48 rfl) (by decide) ?_
            refine mx_goto 90 (mx_d D_M_fault 49 rfl) (by decide) ?_
            exact most _ (by rw [if_neg w0, if_pos w1]) rfl rfl rfl rfl rfl
          · refine mx_icmp_neY 88 (mx_d D_M_fault 47 rfl) (by decide) (by omega) (by omega) (by omega) (by omega) (by omega) ?_
            refine mx_bipush (n := 100) (mx_d D_M_fault 50 rfl) (by decide) ?_
            exact most _ (by rw [if_neg w0, if_neg w1]) rfl rfl rfl rfl rfl
      refine mx_if_eqN 126 (mx_d D_M_fault 22 rfl) (by decide) (by decide) (by decide) (by decide) ?_
      refine mx_iload_n (k4 := 2) (mx_d D_M_fault 23 rfl) (by rfl) ?_
      refine mx_iconst (n := -1) (mx_d D_M_fault 24 rfl) ?_
      cases b with
      | false =>
        rw [show rdNb false (t c) = -1 from rfl]
        refine mx_icmp_neN 52 (mx_d D_M_fault 25 rfl) (by decide) (by decide) (by decide) (by decide) (by decide) (by decide) ?_
        refine mx_iload (i := 4) (mx_d D_M_fault 26 rfl) (by rfl) ?_
        refine mx_bipush (n := 48) (mx_d D_M_fault 27 rfl) (by decide) ?_
        refine mx_isubI (mx_d D_M_fault 28 rfl) ?_
        refine mx_goto 62 (mx_d D_M_fault 29 rfl) (by decide) ?_
        exact nxt rfl rfl rfl rfl
      | true =>
        have tb' := tb rfl
        refine mx_icmp_neY 52 (mx_d D_M_fault 25 rfl) (by decide) (by first | omega | (show (_ : Int) ≤ t c; omega) | (show t c < _; omega)) (by first | omega | (show (_ : Int) ≤ t c; omega) | (show t c < _; omega)) (by first | omega | (show (_ : Int) ≤ t c; omega) | (show t c < _; omega)) (by first | omega | (show (_ : Int) ≤ t c; omega) | (show t c < _; omega)) (by show ¬ (t c = -1); omega) ?_
        refine mx_bipush (n := 10) (mx_d D_M_fault 30 rfl) (by decide) ?_
        refine mx_iload_n (k4 := 2) (mx_d D_M_fault 31 rfl) (by rfl) ?_
        refine mx_imulI (mx_d D_M_fault 32 rfl) ?_
        refine mx_iload (i := 4) (mx_d D_M_fault 33 rfl) (by rfl) ?_
        refine mx_iaddI (mx_d D_M_fault 34 rfl) ?_
        refine mx_bipush (n := 48) (mx_d D_M_fault 35 rfl) (by decide) ?_
        refine mx_isubI (mx_d D_M_fault 36 rfl) ?_
        refine mx_st (st' := [.int (iI (rdNum true (t c) (ps i - 48)))]) ?_ (nxt rfl rfl rfl rfl)
        congr 3
        show 10 * t c + ps i - 48 = 10 * t c + (ps i - 48)
        omega
    | false =>
      have hd' := wiB_f hd
      have stp : rdStep Y (ps i) c b t = if b = true ∧ ps i = rdSep (c % 3) then some (c + 1, false, t) else none := by
        unfold rdStep; rw [if_neg hd']
      have fin : ∀ g : Bool, (g = true ↔ (b = true ∧ ps i = rdSep (c % 3))) → ∀ {l9 : List (Nat × Value)}, mx_get l9 0 = some (.ref (mx_B G + 50)) → mx_get l9 1 = some (.int (iI ((c % 3 : Nat) : Int))) → mx_get l9 3 = some (.int (iI i)) → mx_M G Y_M_fault (d + 1) bc bs false N ce' 162 l9 [.int (iI (bI g))] Q := by
        intro g hg l9 g0 g1 g3
        refine mx_loc (l' := [(0, .ref (mx_B G + 50)), (1, .int (iI ((c % 3 : Nat) : Int))), (3, .int (iI i))]) (by simp only [List.map_cons, List.map_nil, g0, g1, g3]) ?_
        have go : ∀ v : Int, v = (((c + 1) % 3 : Nat) : Int) → ∀ {l9 : List (Nat × Value)}, mx_get l9 0 = some (.ref (mx_B G + 50)) → mx_get l9 3 = some (.int (iI i)) → mx_get l9 5 = some (.int (iI (bI g))) → mx_M G Y_M_fault (d + 1) bc bs false N ce' 176 l9 [.int (iI v)] Q := by
          intro v hv l9 g0 g3 g5
          refine mx_loc (l' := [(0, .ref (mx_B G + 50)), (3, .int (iI i)), (5, .int (iI (bI g)))]) (by simp only [List.map_cons, List.map_nil, g0, g3, g5]) ?_
          subst hv
          refine mx_istore_n (k4 := 1) (mx_d D_M_fault 96 rfl) (by decide) ?_
          refine mx_iconst (n := -1) (mx_d D_M_fault 97 rfl) ?_
          refine mx_istore_n (k4 := 2) (mx_d D_M_fault 98 rfl) (by decide) ?_
          cases g with
          | false => exact ret (by rw [stp, if_neg (fun z => absurd (hg.mpr z) (by decide))]) rfl rfl
          | true => exact sep (by rw [stp, if_pos (hg.mp rfl)]) rfl rfl rfl rfl rfl
        refine mx_istore (i := 5) (mx_d D_M_fault 87 rfl) (by decide) ?_
        refine mx_iload_n (k4 := 1) (mx_d D_M_fault 88 rfl) (by rfl) ?_
        refine mx_iconst (n := 2) (mx_d D_M_fault 89 rfl) ?_
        by_cases w2 : c % 3 = 2
        · refine mx_icmp_neN 173 (mx_d D_M_fault 90 rfl) (by decide) (by omega) (by omega) (by omega) (by omega) (by omega) ?_
          refine mx_iconst (n := 0) (mx_d D_M_fault 91 rfl) ?_
          refine mx_goto 176 (mx_d D_M_fault 92 rfl) (by decide) ?_
          exact go 0 (by omega) rfl rfl rfl
        · refine mx_icmp_neY 173 (mx_d D_M_fault 90 rfl) (by decide) (by omega) (by omega) (by omega) (by omega) (by omega) ?_
          refine mx_iload_n (k4 := 1) (mx_d D_M_fault 93 rfl) (by rfl) ?_
          refine mx_iconst (n := 1) (mx_d D_M_fault 94 rfl) ?_
          refine mx_iaddI (mx_d D_M_fault 95 rfl) ?_
          exact go _ (by omega) rfl rfl rfl
      have no : ¬ (b = true ∧ ps i = rdSep (c % 3)) → ∀ {l9 : List (Nat × Value)}, mx_get l9 0 = some (.ref (mx_B G + 50)) → mx_get l9 1 = some (.int (iI ((c % 3 : Nat) : Int))) → mx_get l9 3 = some (.int (iI i)) → mx_M G Y_M_fault (d + 1) bc bs false N ce' 161 l9 [] Q := by
        intro h l9 g0 g1 g3
        refine mx_iconst (n := 0) (mx_d D_M_fault 86 rfl) ?_
        exact fin false ⟨fun z => absurd z (by decide), fun z => absurd z h⟩ g0 g1 g3
      have cmp : b = true → ∀ v : Int, v = rdSep (c % 3) → ∀ {l9 : List (Nat × Value)}, mx_get l9 0 = some (.ref (mx_B G + 50)) → mx_get l9 1 = some (.int (iI ((c % 3 : Nat) : Int))) → mx_get l9 3 = some (.int (iI i)) → mx_M G Y_M_fault (d + 1) bc bs false N ce' 154 l9 [.int (iI v), .int (iI (ps i))] Q := by
        intro hb v hv l9 g0 g1 g3
        have hvb : 0 ≤ v ∧ v ≤ 100 := by rw [hv]; unfold rdSep; split <;> (try split) <;> omega
        by_cases hs : ps i = v
        · refine mx_icmp_neN 161 (mx_d D_M_fault 83 rfl) (by decide) (by omega) (by omega) (by omega) (by omega) (by omega) ?_
          refine mx_iconst (n := 1) (mx_d D_M_fault 84 rfl) ?_
          refine mx_goto 162 (mx_d D_M_fault 85 rfl) (by decide) ?_
          exact fin true ⟨fun _ => ⟨hb, hs.trans hv⟩, fun _ => rfl⟩ g0 g1 g3
        · refine mx_icmp_neY 161 (mx_d D_M_fault 83 rfl) (by decide) (by omega) (by omega) (by omega) (by omega) (by omega) ?_
          exact no (fun z => hs (z.2.trans hv.symm)) g0 g1 g3
      refine mx_if_eqY 126 (mx_d D_M_fault 22 rfl) (by decide) (by decide) (by decide) (by decide) ?_
      refine mx_iload_n (k4 := 2) (mx_d D_M_fault 69 rfl) (by rfl) ?_
      refine mx_iconst (n := -1) (mx_d D_M_fault 70 rfl) ?_
      cases b with
      | false =>
        rw [show rdNb false (t c) = -1 from rfl]
        refine mx_icmp_eqY 161 (mx_d D_M_fault 71 rfl) (by decide) (by decide) (by decide) (by decide) (by decide) (by decide) ?_
        exact no (by simp) rfl rfl rfl
      | true =>
        have tb' := tb rfl
        refine mx_icmp_eqN 161 (mx_d D_M_fault 71 rfl) (by decide) (by first | omega | (show (_ : Int) ≤ t c; omega) | (show t c < _; omega)) (by first | omega | (show (_ : Int) ≤ t c; omega) | (show t c < _; omega)) (by first | omega | (show (_ : Int) ≤ t c; omega) | (show t c < _; omega)) (by first | omega | (show (_ : Int) ≤ t c; omega) | (show t c < _; omega)) (by show ¬ (t c = -1); omega) ?_
        refine mx_iload (i := 4) (mx_d D_M_fault 72 rfl) (by rfl) ?_
        refine mx_iload_n (k4 := 1) (mx_d D_M_fault 73 rfl) (by rfl) ?_
        by_cases w0 : c % 3 = 0
        · refine mx_if_neN 142 (mx_d D_M_fault 74 rfl) (by decide) (by omega) (by omega) (by omega) ?_
          refine mx_bipush (n := 58) (mx_d D_M_fault 75 rfl) (by decide) ?_
          refine mx_goto 154 (mx_d D_M_fault 76 rfl) (by decide) ?_
          exact cmp rfl _ (by rw [w0]; rfl) rfl rfl rfl
        · refine mx_if_neY 142 (mx_d D_M_fault 74 rfl) (by decide) (by omega) (by omega) (by omega) ?_
          refine mx_iload_n (k4 := 1) (mx_d D_M_fault 77 rfl) (by rfl) ?_
          refine mx_iconst (n := 1) (mx_d D_M_fault 78 rfl) ?_
          by_cases w1 : c % 3 = 1
          · refine mx_icmp_neN 152 (mx_d D_M_fault 79 rfl) (by decide) (by omega) (by omega) (by omega) (by omega) (by omega) ?_
            refine mx_bipush (n := 43) (mx_d D_M_fault 80 rfl) (by decide) ?_
            refine mx_goto 154 (mx_d D_M_fault 81 rfl) (by decide) ?_
            exact cmp rfl _ (by rw [w1]; rfl) rfl rfl rfl
          · refine mx_icmp_neY 152 (mx_d D_M_fault 79 rfl) (by decide) (by omega) (by omega) (by omega) (by omega) (by omega) ?_
            refine mx_bipush (n := 59) (mx_d D_M_fault 82 rfl) (by decide) ?_
            exact cmp rfl _ (by rw [show c % 3 = 2 by omega]; rfl) rfl rfl rfl
end MI
