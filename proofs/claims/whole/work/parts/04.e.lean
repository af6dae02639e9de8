/-! TextReader.scan -/
def rdR (Y : Nat) (ps t0 : Nat → Int) : Nat → Nat ⊕ (Nat × Bool × (Nat → Int))
  | 0 => .inr (0, false, t0)
  | n + 1 => match rdR Y ps t0 n with
    | .inl i => .inl i
    | .inr (c, b, t) => match rdStep Y (ps n) c b t with
      | none => .inl n
      | some s => .inr s
def rdOut (Y : Nat) (ps t0 : Nat → Int) (n : Nat) : Int × Nat × (Nat → Int) := match rdR Y ps t0 n with
  | .inl i => (-1 - i, 0, t0)
  | .inr (c, b, t) => if b = true ∧ c % 3 = 2 then ((((c + 1) / 3 : Nat) : Int), (c + 1) / 3, t) else (-1 - n, 0, t)
def rdInv (Y n c : Nat) (b : Bool) (t : Nat → Int) : Prop := 2 * c + (if b = true then 1 else 0) ≤ n ∧ ∀ j, (j < c ∨ (j = c ∧ b = true)) → 0 ≤ t j ∧ rdOk Y (j % 3) (t j) = true
theorem rdOk_bd {Y k : Nat} (hY : Y ≤ 60) {v : Int} (h : rdOk Y k v = true) : v ≤ 3000 := by
  unfold rdOk at h
  split at h
  · simpa using h
  · split at h
    · simp at h; omega
    · simp at h; omega
theorem rdInv_step {Y n c : Nat} {b : Bool} {t : Nat → Int} {x : Int} {c' : Nat} {b' : Bool} {t' : Nat → Int} (h : rdInv Y n c b t) (hs : rdStep Y x c b t = some (c', b', t')) : rdInv Y (n + 1) c' b' t' := by
  obtain ⟨h1, h2⟩ := h
  unfold rdStep at hs
  by_cases hx : 48 ≤ x ∧ x ≤ 57
  · rw [if_pos hx] at hs
    by_cases hz : b = true ∧ t c = 0
    · rw [if_pos hz] at hs; exact absurd hs (by simp)
    · rw [if_neg hz] at hs
      by_cases hk : rdOk Y (c % 3) (rdNum b (t c) (x - 48)) = true
      · rw [if_pos hk] at hs
        simp only [Option.some.injEq, Prod.mk.injEq] at hs
        obtain ⟨rfl, rfl, rfl⟩ := hs
        refine ⟨?_, fun j hj => ?_⟩
        · simp only [if_true]
          split at h1 <;> omega
        · by_cases hjc : j = c
          · subst hjc
            rw [va_up_self]
            refine ⟨?_, hk⟩
            unfold rdNum
            cases b with
            | false => simp; omega
            | true =>
              have := (h2 j (Or.inr ⟨rfl, rfl⟩)).1
              simp; omega
          · rw [va_up_ne _ _ hjc]
            exact h2 j (by omega)
      · rw [if_neg hk] at hs; exact absurd hs (by simp)
  · rw [if_neg hx] at hs
    by_cases hz : b = true ∧ x = rdSep (c % 3)
    · rw [if_pos hz] at hs
      simp only [Option.some.injEq, Prod.mk.injEq] at hs
      obtain ⟨rfl, rfl, rfl⟩ := hs
      rw [if_pos hz.1] at h1
      refine ⟨by simp; omega, fun j hj => h2 j ?_⟩
      rcases hj with hj | hj
      · by_cases hjc : j = c
        · exact Or.inr ⟨hjc, hz.1⟩
        · exact Or.inl (by omega)
      · exact absurd hj.2 (by decide)
    · rw [if_neg hz] at hs; exact absurd hs (by simp)
theorem rdR_inv {Y : Nat} {ps t0 : Nat → Int} : ∀ (n : Nat) {c : Nat} {b : Bool} {t : Nat → Int}, rdR Y ps t0 n = .inr (c, b, t) → rdInv Y n c b t
  | 0, c, b, t, h => by
    simp only [rdR, Sum.inr.injEq, Prod.mk.injEq] at h
    obtain ⟨rfl, rfl, rfl⟩ := h
    exact ⟨by simp, fun j hj => by simp at hj⟩
  | n + 1, c, b, t, h => by
    simp only [rdR] at h
    cases e : rdR Y ps t0 n with
    | inl i => rw [e] at h; exact absurd h (by simp)
    | inr s =>
      obtain ⟨c1, b1, t1⟩ := s
      rw [e] at h
      simp only at h
      have hi := rdR_inv n e
      cases e2 : rdStep Y (ps n) c1 b1 t1 with
      | none => rw [e2] at h; exact absurd h (by simp)
      | some s2 =>
        rw [e2] at h
        simp only [Sum.inr.injEq] at h
        subst h
        exact rdInv_step hi e2
theorem rdR_bad {Y : Nat} {ps t0 : Nat → Int} {i n m : Nat} (h : rdR Y ps t0 n = .inl i) (hm : n ≤ m) : rdR Y ps t0 m = .inl i := by
  induction m with
  | zero => obtain rfl : n = 0 := by omega
            exact h
  | succ m ih =>
    by_cases e : n = m + 1
    · subst e; exact h
    · simp only [rdR, ih (by omega)]
theorem rdR_lt {Y : Nat} {ps t0 : Nat → Int} {i n : Nat} (h : rdR Y ps t0 n = .inl i) : i < n := by
  induction n with
  | zero => exact absurd h (by simp [rdR])
  | succ n ih =>
    simp only [rdR] at h
    cases e : rdR Y ps t0 n with
    | inl j => rw [e] at h; simp only [Sum.inl.injEq] at h; subst h; have := ih e; omega
    | inr s =>
      obtain ⟨c1, b1, t1⟩ := s
      rw [e] at h
      simp only at h
      cases e2 : rdStep Y (ps n) c1 b1 t1 with
      | none => rw [e2] at h; simp only [Sum.inl.injEq] at h; omega
      | some s2 => rw [e2] at h; exact absurd h (by simp)
theorem rdOut_rows {Y : Nat} {ps t0 : Nat → Int} {n : Nat} (hn : n ≤ 100) : ((rdOut Y ps t0 n).2.1 = 0 ∧ (rdOut Y ps t0 n).1 < 0 ∧ -1 - (n : Int) ≤ (rdOut Y ps t0 n).1) ∨ (0 < (rdOut Y ps t0 n).2.1 ∧ (rdOut Y ps t0 n).1 = ((rdOut Y ps t0 n).2.1 : Int) ∧ 3 * (rdOut Y ps t0 n).2.1 ≤ 51 ∧ ∀ r, r < (rdOut Y ps t0 n).2.1 → ((0 ≤ (rdOut Y ps t0 n).2.2 (3 * r) ∧ (rdOut Y ps t0 n).2.2 (3 * r) < Y) ∧ (0 ≤ (rdOut Y ps t0 n).2.2 (3 * r + 1) ∧ (rdOut Y ps t0 n).2.2 (3 * r + 1) ≤ 3000) ∧ (1 ≤ (rdOut Y ps t0 n).2.2 (3 * r + 2) ∧ (rdOut Y ps t0 n).2.2 (3 * r + 2) ≤ 100))) := by
  unfold rdOut
  cases e : rdR Y ps t0 n with
  | inl i =>
    have := rdR_lt e
    left
    refine ⟨rfl, ?_, ?_⟩ <;> simp only <;> omega
  | inr s =>
    obtain ⟨c, b, t⟩ := s
    have hi := rdR_inv n e
    simp only
    by_cases hc : b = true ∧ c % 3 = 2
    · right
      rw [if_pos hc]
      have h1 := hi.1
      rw [if_pos hc.1] at h1
      refine ⟨by simp only; omega, rfl, by simp only; omega, fun r hr => ?_⟩
      simp only at hr ⊢
      have g0 := hi.2 (3 * r) (Or.inl (by omega))
      have g1 := hi.2 (3 * r + 1) (Or.inl (by omega))
      have g2 := hi.2 (3 * r + 2) (by by_cases q : 3 * r + 2 = c; exact Or.inr ⟨q, hc.1⟩; exact Or.inl (by omega))
      rw [show (3 * r) % 3 = 0 from by omega] at g0
      rw [show (3 * r + 1) % 3 = 1 from by omega] at g1
      rw [show (3 * r + 2) % 3 = 2 from by omega] at g2
      simp [rdOk] at g0 g1 g2
      exact ⟨g0, g1, g2.2⟩
    · left
      rw [if_neg hc]
      refine ⟨rfl, ?_, ?_⟩ <;> simp only <;> omega
section TS
variable {G : mx_G} {d bc bs : Nat} {ex : Bool} {N : Nat} {ce : Nat → va_E} {Q : mx_P} {o a c0 Y po pa n : Nat} {t0 ps : Nat → Int} {b0 : Bool}
theorem c_T_scan (hG : mx_ok G) (ho : o < N) (ha : a < N) (hpo : po < N) (hpa : pa < N) (e1 : o ≠ a) (e2 : o ≠ po) (e3 : o ≠ pa) (e4 : a ≠ po) (e5 : a ≠ pa) (h1 : ce o = .inr (6, [.int (iI Y), .ref (mx_B G + a), .int (iI c0), .int (iI (bI b0))])) (h2 : ce a = aI G 100 t0) (h3 : ce po = .inr (5, [.ref (mx_B G + pa), .int (iI n)])) (h4 : ce pa = aI G 100 ps) (hY : Y ≤ 60) (hn : n ≤ 100) (hp : ∀ j, j < n → -2147483648 ≤ ps j ∧ ps j < 2147483648)
    (q : ∀ ce' c b t, (∀ k, k ≠ o → k ≠ a → ce' k = ce k) → ce' o = .inr (6, [.int (iI Y), .ref (mx_B G + a), .int (iI (c : Nat)), .int (iI (bI b))]) → ce' a = aI G 100 t → ((rdOut Y ps t0 n).2.1 ≠ 0 → t = (rdOut Y ps t0 n).2.2) → Q (.inl (some (.int (iI (rdOut Y ps t0 n).1)))) N ce' bc bs) : mx_M G Y_T_scan (d + 3) bc bs ex N ce 0 [(0, .ref (mx_B G + o)), (1, .ref (mx_B G + po))] [] Q := by
  refine mx_aload_n (k4 := 0) (mx_d D_T_scan 0 rfl) (by rfl) ?_
  refine mx_iconst (n := 0) (mx_d D_T_scan 1 rfl) ?_
  refine mx_putf hG (idx := 19) (ci := 6) (kf := 2) (t := (.int)) (mx_d D_T_scan 2 rfl) (by rfl) cls_T (by decide) (Or.inl rfl) w_138 (by first | assumption | omega) (by first | assumption | exact va_up_self _ _ _ | (rw [va_up_ne _ _ (by omega)]; first | assumption | exact va_up_self _ _ _ | (rw [va_up_ne _ _ (by omega)]; first | assumption | exact va_up_self _ _ _ | (rw [va_up_ne _ _ (by omega)]; first | assumption | exact va_up_self _ _ _ | (rw [va_up_ne _ _ (by omega)]; first | assumption | exact va_up_self _ _ _ | (rw [va_up_ne _ _ (by omega)]; first | assumption | exact va_up_self _ _ _)))))) (by exact Nat.le_of_ble_eq_true rfl) (by decide +kernel) (by rfl) (by rfl) ?_
  refine mx_aload_n (k4 := 0) (mx_d D_T_scan 3 rfl) (by rfl) ?_
  refine mx_iconst (n := 0) (mx_d D_T_scan 4 rfl) ?_
  refine mx_putf hG (idx := 22) (ci := 6) (kf := 3) (t := (.boolean)) (mx_d D_T_scan 5 rfl) (by rfl) cls_T (by decide) (Or.inl rfl) w_139 (by first | assumption | omega) (by first | assumption | exact va_up_self _ _ _ | (rw [va_up_ne _ _ (by omega)]; first | assumption | exact va_up_self _ _ _ | (rw [va_up_ne _ _ (by omega)]; first | assumption | exact va_up_self _ _ _ | (rw [va_up_ne _ _ (by omega)]; first | assumption | exact va_up_self _ _ _ | (rw [va_up_ne _ _ (by omega)]; first | assumption | exact va_up_self _ _ _ | (rw [va_up_ne _ _ (by omega)]; first | assumption | exact va_up_self _ _ _)))))) (by exact Nat.le_of_ble_eq_true rfl) (by decide +kernel) (by rfl) (by rfl) ?_
  refine mx_iconst (n := 0) (mx_d D_T_scan 6 rfl) ?_
  refine mx_istore_n (k4 := 2) (mx_d D_T_scan 7 rfl) (by decide) ?_
  rw [bx_uu]
  suffices H : ∀ (k i : Nat) (ce' : Nat → va_E) (c : Nat) (b : Bool) (t : Nat → Int), i + k = n → rdR Y ps t0 i = .inr (c, b, t) → (∀ k, k ≠ o → k ≠ a → ce' k = ce k) → ce' o = .inr (6, [.int (iI Y), .ref (mx_B G + a), .int (iI (c : Nat)), .int (iI (bI b))]) → ce' a = aI G 100 t → mx_M G Y_T_scan (d + 3) bc bs ex N ce' 12 [(0, .ref (mx_B G + o)), (1, .ref (mx_B G + po)), (2, .int (iI i))] [] Q from
    mx_loc (by rfl) (H n 0 _ 0 false t0 (by omega) rfl (fun k k1 k2 => va_up_ne _ _ k1) (va_up_self _ _ _) (by rw [va_up_ne _ _ (Ne.symm e1)]; exact h2))
  intro k
  induction k with
  | zero =>
    intro i ce' c b t hi hr k1 k2 k3
    obtain rfl : i = n := by omega
    have k4 : ce' po = _ := (k1 po (Ne.symm e2) (Ne.symm e4)).trans h3
    have hinv := (rdR_inv i hr).1
    have q9 := q ce' c b t k1 k2 k3
    simp only [rdOut, hr] at q9
    have ans : ∀ {l : List (Nat × Value)}, mx_get l 0 = some (.ref (mx_B G + o)) → mx_get l 1 = some (.ref (mx_B G + po)) → ¬ (b = true ∧ c % 3 = 2) → mx_M G Y_T_scan (d + 3) bc bs ex N ce' 81 l [] Q := by
      intro l l0 l1 hc
      rw [if_neg hc] at q9
      refine mx_loc (l' := [(0, .ref (mx_B G + o)), (1, .ref (mx_B G + po))]) (by simp only [List.map_cons, List.map_nil, l0, l1]) ?_
      refine mx_iconst (n := -1) (mx_d D_T_scan 47 rfl) ?_
      refine mx_aload_n (k4 := 1) (mx_d D_T_scan 48 rfl) (by rfl) ?_
      refine mx_getf hG (idx := 26) (ci := 5) (kf := 1) (mx_d D_T_scan 49 rfl) (by rfl) cls_P (by decide) w_122 (by first | assumption | omega) (by first | assumption | exact va_up_self _ _ _ | (rw [va_up_ne _ _ (by omega)]; first | assumption | exact va_up_self _ _ _ | (rw [va_up_ne _ _ (by omega)]; first | assumption | exact va_up_self _ _ _ | (rw [va_up_ne _ _ (by omega)]; first | assumption | exact va_up_self _ _ _ | (rw [va_up_ne _ _ (by omega)]; first | assumption | exact va_up_self _ _ _ | (rw [va_up_ne _ _ (by omega)]; first | assumption | exact va_up_self _ _ _)))))) (by rfl) ?_
      refine mx_isubI (mx_d D_T_scan 50 rfl) ?_
      refine mx_iret (by rfl) (mx_d D_T_scan 51 rfl) ?_
      exact q9 (fun h => absurd rfl h)
    refine mx_iload_n (k4 := 2) (mx_d D_T_scan 8 rfl) (by rfl) ?_
    refine mx_aload_n (k4 := 1) (mx_d D_T_scan 9 rfl) (by rfl) ?_
    refine mx_getf hG (idx := 26) (ci := 5) (kf := 1) (mx_d D_T_scan 10 rfl) (by rfl) cls_P (by decide) w_122 (by first | assumption | omega) (by first | assumption | exact va_up_self _ _ _ | (rw [va_up_ne _ _ (by omega)]; first | assumption | exact va_up_self _ _ _ | (rw [va_up_ne _ _ (by omega)]; first | assumption | exact va_up_self _ _ _ | (rw [va_up_ne _ _ (by omega)]; first | assumption | exact va_up_self _ _ _ | (rw [va_up_ne _ _ (by omega)]; first | assumption | exact va_up_self _ _ _ | (rw [va_up_ne _ _ (by omega)]; first | assumption | exact va_up_self _ _ _)))))) (by rfl) ?_
    refine mx_icmp_geY 43 (mx_d D_T_scan 11 rfl) (by decide) (by omega) (by omega) (by omega) (by omega) (by omega) ?_
    refine mx_aload_n (k4 := 0) (mx_d D_T_scan 25 rfl) (by rfl) ?_
    refine mx_getf hG (idx := 22) (ci := 6) (kf := 3) (mx_d D_T_scan 26 rfl) (by rfl) cls_T (by decide) w_139 (by first | assumption | omega) (by first | assumption | exact va_up_self _ _ _ | (rw [va_up_ne _ _ (by omega)]; first | assumption | exact va_up_self _ _ _ | (rw [va_up_ne _ _ (by omega)]; first | assumption | exact va_up_self _ _ _ | (rw [va_up_ne _ _ (by omega)]; first | assumption | exact va_up_self _ _ _ | (rw [va_up_ne _ _ (by omega)]; first | assumption | exact va_up_self _ _ _ | (rw [va_up_ne _ _ (by omega)]; first | assumption | exact va_up_self _ _ _)))))) (by rfl) ?_
    cases b with
    | false =>
      refine mx_if_eqY 64 (mx_d D_T_scan 27 rfl) (by decide) (by decide) (by decide) (by decide) ?_
      refine mx_iconst (n := 0) (mx_d D_T_scan 36 rfl) ?_
      refine mx_istore_n (k4 := 2) (mx_d D_T_scan 37 rfl) (by decide) ?_
      refine mx_iload_n (k4 := 2) (mx_d D_T_scan 38 rfl) (by rfl) ?_
      refine mx_if_eqY 81 (mx_d D_T_scan 39 rfl) (by decide) (by omega) (by omega) (by omega) ?_
      exact ans rfl rfl (by simp)
    | true =>
      refine mx_if_eqN 64 (mx_d D_T_scan 27 rfl) (by decide) (by decide) (by decide) (by decide) ?_
      refine mx_aload_n (k4 := 0) (mx_d D_T_scan 28 rfl) (by rfl) ?_
      refine mx_getf hG (idx := 19) (ci := 6) (kf := 2) (mx_d D_T_scan 29 rfl) (by rfl) cls_T (by decide) w_138 (by first | assumption | omega) (by first | assumption | exact va_up_self _ _ _ | (rw [va_up_ne _ _ (by omega)]; first | assumption | exact va_up_self _ _ _ | (rw [va_up_ne _ _ (by omega)]; first | assumption | exact va_up_self _ _ _ | (rw [va_up_ne _ _ (by omega)]; first | assumption | exact va_up_self _ _ _ | (rw [va_up_ne _ _ (by omega)]; first | assumption | exact va_up_self _ _ _ | (rw [va_up_ne _ _ (by omega)]; first | assumption | exact va_up_self _ _ _)))))) (by rfl) ?_
      refine mx_iconst (n := 3) (mx_d D_T_scan 30 rfl) ?_
      refine mx_remI (mx_d D_T_scan 31 rfl) (by omega) (by omega) (by omega) (by omega) ?_
      refine mx_iconst (n := 2) (mx_d D_T_scan 32 rfl) ?_
      by_cases hc : c % 3 = 2
      · refine mx_icmp_neN 64 (mx_d D_T_scan 33 rfl) (by decide) (by omega) (by omega) (by omega) (by omega) (by omega) ?_
        refine mx_iconst (n := 1) (mx_d D_T_scan 34 rfl) ?_
        refine mx_goto 65 (mx_d D_T_scan 35 rfl) (by decide) ?_
        refine mx_istore_n (k4 := 2) (mx_d D_T_scan 37 rfl) (by decide) ?_
        refine mx_iload_n (k4 := 2) (mx_d D_T_scan 38 rfl) (by rfl) ?_
        refine mx_if_eqN 81 (mx_d D_T_scan 39 rfl) (by decide) (by omega) (by omega) (by omega) ?_
        refine mx_aload_n (k4 := 0) (mx_d D_T_scan 40 rfl) (by rfl) ?_
        refine mx_getf hG (idx := 19) (ci := 6) (kf := 2) (mx_d D_T_scan 41 rfl) (by rfl) cls_T (by decide) w_138 (by first | assumption | omega) (by first | assumption | exact va_up_self _ _ _ | (rw [va_up_ne _ _ (by omega)]; first | assumption | exact va_up_self _ _ _ | (rw [va_up_ne _ _ (by omega)]; first | assumption | exact va_up_self _ _ _ | (rw [va_up_ne _ _ (by omega)]; first | assumption | exact va_up_self _ _ _ | (rw [va_up_ne _ _ (by omega)]; first | assumption | exact va_up_self _ _ _ | (rw [va_up_ne _ _ (by omega)]; first | assumption | exact va_up_self _ _ _)))))) (by rfl) ?_
        refine mx_iconst (n := 1) (mx_d D_T_scan 42 rfl) ?_
        refine mx_iaddI (mx_d D_T_scan 43 rfl) ?_
        refine mx_iconst (n := 3) (mx_d D_T_scan 44 rfl) ?_
        refine mx_divI (mx_d D_T_scan 45 rfl) (by omega) (by omega) (by omega) (by omega) ?_
        refine mx_goto 87 (mx_d D_T_scan 46 rfl) (by decide) ?_
        refine mx_iret (by rfl) (mx_d D_T_scan 51 rfl) ?_
        rw [if_pos ⟨rfl, hc⟩] at q9
        exact q9 (fun _ => rfl)
      · refine mx_icmp_neY 64 (mx_d D_T_scan 33 rfl) (by decide) (by omega) (by omega) (by omega) (by omega) (by omega) ?_
        refine mx_iconst (n := 0) (mx_d D_T_scan 36 rfl) ?_
        refine mx_istore_n (k4 := 2) (mx_d D_T_scan 37 rfl) (by decide) ?_
        refine mx_iload_n (k4 := 2) (mx_d D_T_scan 38 rfl) (by rfl) ?_
        refine mx_if_eqY 81 (mx_d D_T_scan 39 rfl) (by decide) (by omega) (by omega) (by omega) ?_
        exact ans rfl rfl (fun h => hc h.2)
  | succ k ih =>
    intro i ce' c b t hi hr k1 k2 k3
    have k4 : ce' po = _ := (k1 po (Ne.symm e2) (Ne.symm e4)).trans h3
    have k5 : ce' pa = _ := (k1 pa (Ne.symm e3) (Ne.symm e5)).trans h4
    have hinv := rdR_inv i hr
    have hc1 := hinv.1
    have hp1 := hp i (by omega)
    refine mx_iload_n (k4 := 2) (mx_d D_T_scan 8 rfl) (by rfl) ?_
    refine mx_aload_n (k4 := 1) (mx_d D_T_scan 9 rfl) (by rfl) ?_
    refine mx_getf hG (idx := 26) (ci := 5) (kf := 1) (mx_d D_T_scan 10 rfl) (by rfl) cls_P (by decide) w_122 (by first | assumption | omega) (by first | assumption | exact va_up_self _ _ _ | (rw [va_up_ne _ _ (by omega)]; first | assumption | exact va_up_self _ _ _ | (rw [va_up_ne _ _ (by omega)]; first | assumption | exact va_up_self _ _ _ | (rw [va_up_ne _ _ (by omega)]; first | assumption | exact va_up_self _ _ _ | (rw [va_up_ne _ _ (by omega)]; first | assumption | exact va_up_self _ _ _ | (rw [va_up_ne _ _ (by omega)]; first | assumption | exact va_up_self _ _ _)))))) (by rfl) ?_
    refine mx_icmp_geN 43 (mx_d D_T_scan 11 rfl) (by decide) (by omega) (by omega) (by omega) (by omega) (by omega) ?_
    refine mx_aload_n (k4 := 0) (mx_d D_T_scan 12 rfl) (by rfl) ?_
    refine mx_aload_n (k4 := 1) (mx_d D_T_scan 13 rfl) (by rfl) ?_
    refine mx_getf hG (idx := 31) (ci := 5) (kf := 0) (mx_d D_T_scan 14 rfl) (by rfl) cls_P (by decide) w_121 (by first | assumption | omega) (by first | assumption | exact va_up_self _ _ _ | (rw [va_up_ne _ _ (by omega)]; first | assumption | exact va_up_self _ _ _ | (rw [va_up_ne _ _ (by omega)]; first | assumption | exact va_up_self _ _ _ | (rw [va_up_ne _ _ (by omega)]; first | assumption | exact va_up_self _ _ _ | (rw [va_up_ne _ _ (by omega)]; first | assumption | exact va_up_self _ _ _ | (rw [va_up_ne _ _ (by omega)]; first | assumption | exact va_up_self _ _ _)))))) (by rfl) ?_
    refine mx_iload_n (k4 := 2) (mx_d D_T_scan 15 rfl) (by rfl) ?_
    refine mx_ialdI hG _ (mx_d D_T_scan 16 rfl) (by first | assumption | omega) (by first | assumption | exact va_up_self _ _ _ | (rw [va_up_ne _ _ (by omega)]; first | assumption | exact va_up_self _ _ _ | (rw [va_up_ne _ _ (by omega)]; first | assumption | exact va_up_self _ _ _ | (rw [va_up_ne _ _ (by omega)]; first | assumption | exact va_up_self _ _ _ | (rw [va_up_ne _ _ (by omega)]; first | assumption | exact va_up_self _ _ _ | (rw [va_up_ne _ _ (by omega)]; first | assumption | exact va_up_self _ _ _)))))) (by rfl) (by omega) (by omega) ?_
    refine mx_callV hG (Y' := Y_T_takes) (ci := 6) [_] (mx_d D_T_scan 17 rfl) in_T_takes w_209 w_211 s_T_takes (by rfl) np_T_takes (by exact Nat.le_of_ble_eq_true rfl) (by rfl) (by first | assumption | omega) (by first | assumption | exact va_up_self _ _ _ | (rw [va_up_ne _ _ (by omega)]; first | assumption | exact va_up_self _ _ _ | (rw [va_up_ne _ _ (by omega)]; first | assumption | exact va_up_self _ _ _ | (rw [va_up_ne _ _ (by omega)]; first | assumption | exact va_up_self _ _ _ | (rw [va_up_ne _ _ (by omega)]; first | assumption | exact va_up_self _ _ _ | (rw [va_up_ne _ _ (by omega)]; first | assumption | exact va_up_self _ _ _)))))) (by rfl) (by exact Nat.le_of_ble_eq_true rfl) (c_T_takes hG ho ha e1 k2 k3 hY (by omega) (fun hb => ⟨(hinv.2 c (Or.inr ⟨rfl, hb⟩)).1, rdOk_bd hY (hinv.2 c (Or.inr ⟨rfl, hb⟩)).2⟩) hp1.1 hp1.2 (fun hs => ?_) (fun ce2 c2 b2 t2 hs g1 g2 g3 => ?_))
    · refine mx_if_neN 37 (mx_d D_T_scan 18 rfl) (by decide) (by decide) (by decide) (by decide) ?_
      refine mx_iconst (n := -1) (mx_d D_T_scan 19 rfl) ?_
      refine mx_iload_n (k4 := 2) (mx_d D_T_scan 20 rfl) (by rfl) ?_
      refine mx_isubI (mx_d D_T_scan 21 rfl) ?_
      refine mx_iret (by rfl) (mx_d D_T_scan 22 rfl) ?_
      have hbad : rdR Y ps t0 n = .inl i := rdR_bad (n := i + 1) (by simp only [rdR, hr, hs]) (by omega)
      have q9 := q ce' c b t k1 k2 k3
      simp only [rdOut, hbad] at q9
      exact q9 (fun h => absurd rfl h)
    · refine mx_if_neY 37 (mx_d D_T_scan 18 rfl) (by decide) (by decide) (by decide) (by decide) ?_
      refine mx_iincI (i := 2) (n := 1) (mx_d D_T_scan 23 rfl) (by rfl) (by decide) ?_
      refine mx_goto 12 (mx_d D_T_scan 24 rfl) (by decide) ?_
      refine mx_loc (by rfl) (ih (i + 1) ce2 c2 b2 t2 (by omega) (by simp only [rdR, hr, hs]) (fun k9 h8 h9 => (g1 k9 h8 h9).trans (k1 k9 h8 h9)) g2 g3)
end TS
