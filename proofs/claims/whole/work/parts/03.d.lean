/-! sums and greatest; some rows more -/
def sumTo (f : Nat → Int) : Nat → Int
  | 0 => 0
  | n + 1 => sumTo f n + f n
def mxTo (f : Nat → Int) : Nat → Int
  | 0 => 0
  | n + 1 => if mxTo f n < f n then f n else mxTo f n
theorem sumTo_bd {f : Nat → Int} {n : Nat} {M : Int} (h : ∀ j, j < n → 0 ≤ f j ∧ f j ≤ M) : 0 ≤ sumTo f n ∧ sumTo f n ≤ n * M := by
  induction n with
  | zero => simp [sumTo]
  | succ n ih =>
    have h1 := ih (fun j hj => h j (by omega))
    have h2 := h n (by omega)
    have e : ((n + 1 : Nat) : Int) * M = n * M + M := by rw [Int.natCast_add, Int.add_mul]; simp
    rw [e]
    simp only [sumTo]
    omega
theorem sumTo_congr {f g : Nat → Int} {n : Nat} (h : ∀ j, j < n → f j = g j) : sumTo f n = sumTo g n := by
  induction n with
  | zero => rfl
  | succ n ih => simp only [sumTo]; rw [ih (fun j hj => h j (by omega)), h n (by omega)]
theorem mxTo_bd {f : Nat → Int} {n : Nat} {M : Int} (hM : 0 ≤ M) (h : ∀ j, j < n → 0 ≤ f j ∧ f j ≤ M) : 0 ≤ mxTo f n ∧ mxTo f n ≤ M := by
  induction n with
  | zero => simp [mxTo]; exact hM
  | succ n ih =>
    have h1 := ih (fun j hj => h j (by omega))
    have h2 := h n (by omega)
    simp only [mxTo]
    split <;> omega
theorem mxTo_le {f : Nat → Int} {n : Nat} {M : Int} (hM : 0 ≤ M) : mxTo f n ≤ M ↔ ∀ j, j < n → f j ≤ M := by
  induction n with
  | zero => simp [mxTo, hM]
  | succ n ih =>
    simp only [mxTo]
    constructor
    · intro h j hj
      by_cases hjn : j = n
      · subst hjn; split at h <;> omega
      · exact ih.mp (by split at h <;> omega) j (by omega)
    · intro h
      have h1 := ih.mpr (fun j hj => h j (by omega))
      have h2 := h n (by omega)
      split <;> omega
theorem va_up_id (ce : Nat → va_E) (k : Nat) {e : va_E} (h : ce k = e) : va_up ce k e = ce := by
  funext j
  by_cases hj : j = k
  · subst hj; rw [va_up_self, h]
  · rw [va_up_ne _ _ hj]
section MXM
variable {G : mx_G} {Y : mx_Y} {d bc bs : Nat} {ex : Bool} {N : Nat} {ce : Nat → va_E} {pc : Nat} {l : List (Nat × Value)} {r : List Value} {Q : mx_P}
theorem mx_mmaxI {idx : Nat} {a b : Int} (hd : decode Y.2.1 pc = .ok (.invokestatic idx, 3)) (hlk : Cond.methodLink Y.1.cls idx Lib.Math.max.name ∈ lw_tbl) (hsta : Cond.static Lib.Math.max.name ∈ lw_tbl) (hini : Cond.initialized "java/lang/Math" ∈ lw_tbl) (hcode : Cond.code Lib.Math.max.name Lib.Math.max.code 2 (some .int) ∈ lw_tbl) (hst : (r.map fun v => v.category).sum ≤ 29) (h1 : -2147483648 ≤ a) (h2 : a < 2147483648) (h3 : -2147483648 ≤ b) (h4 : b < 2147483648)
    (k : mx_M G Y d bc bs ex N ce (pc + 3) l (.int (iI (if a < b then b else a)) :: r) Q) : mx_M G Y d bc bs ex N ce pc l (.int (iI b) :: .int (iI a) :: r) Q := by
  refine mx_mmax hd hlk hsta hini hcode hst ?_
  by_cases hc : a < b
  · rw [if_pos ((iI_lt h1 h2 h3 h4).mpr hc)]; rw [if_pos hc] at k; exact k
  · rw [if_neg (fun q => hc ((iI_lt h1 h2 h3 h4).mp q))]; rw [if_neg hc] at k; exact k
theorem mx_mminI {idx : Nat} {a b : Int} (hd : decode Y.2.1 pc = .ok (.invokestatic idx, 3)) (hlk : Cond.methodLink Y.1.cls idx Lib.Math.min.name ∈ lw_tbl) (hsta : Cond.static Lib.Math.min.name ∈ lw_tbl) (hini : Cond.initialized "java/lang/Math" ∈ lw_tbl) (hcode : Cond.code Lib.Math.min.name Lib.Math.min.code 2 (some .int) ∈ lw_tbl) (hst : (r.map fun v => v.category).sum ≤ 29) (h1 : -2147483648 ≤ a) (h2 : a < 2147483648) (h3 : -2147483648 ≤ b) (h4 : b < 2147483648)
    (k : mx_M G Y d bc bs ex N ce (pc + 3) l (.int (iI (if b < a then b else a)) :: r) Q) : mx_M G Y d bc bs ex N ce pc l (.int (iI b) :: .int (iI a) :: r) Q := by
  refine mx_mmin hd hlk hsta hini hcode hst ?_
  by_cases hc : b < a
  · rw [if_pos ((iI_lt h3 h4 h1 h2).mpr hc)]; rw [if_pos hc] at k; exact k
  · rw [if_neg (fun q => hc ((iI_lt h3 h4 h1 h2).mp q))]; rw [if_neg hc] at k; exact k
theorem mx_divI {a b : Int} (hd : decode Y.2.1 pc = .ok (.idiv, 1)) (h1 : 0 ≤ a) (h2 : a < 2147483648) (h3 : 0 < b) (h4 : b < 2147483648) (k : mx_M G Y d bc bs ex N ce (pc + 1) l (.int (iI (a / b)) :: r) Q) : mx_M G Y d bc bs ex N ce pc l (.int (iI b) :: .int (iI a) :: r) Q := by
  refine mx_idiv hd (fun q => ?_) ?_
  · rw [iI_eq0 (by omega) h4] at q; omega
  · rw [iI_div h1 h2 h3 h4]; exact k
theorem mx_remI {a b : Int} (hd : decode Y.2.1 pc = .ok (.irem, 1)) (h1 : 0 ≤ a) (h2 : a < 2147483648) (h3 : 0 < b) (h4 : b < 2147483648) (k : mx_M G Y d bc bs ex N ce (pc + 1) l (.int (iI (a % b)) :: r) Q) : mx_M G Y d bc bs ex N ce pc l (.int (iI b) :: .int (iI a) :: r) Q := by
  refine mx_irem hd (fun q => ?_) ?_
  · rw [iI_eq0 (by omega) h4] at q; omega
  · rw [iI_rem h1 h2 h3 h4]; exact k
theorem mx_ldivI {a b : Int} (hd : decode Y.2.1 pc = .ok (.ldiv, 1)) (h1 : 0 ≤ a) (h2 : a < 9223372036854775808) (h3 : 0 < b) (h4 : b < 9223372036854775808) (k : mx_M G Y d bc bs ex N ce (pc + 1) l (.long (lI (a / b)) :: r) Q) : mx_M G Y d bc bs ex N ce pc l (.long (lI b) :: .long (lI a) :: r) Q := by
  refine mx_ldiv hd (fun q => ?_) ?_
  · rw [lI_eq0 (by omega) h4] at q; omega
  · rw [lI_div h1 h2 h3 h4]; exact k
theorem mx_i2lI {a : Int} (hd : decode Y.2.1 pc = .ok (.i2l, 1)) (h1 : -2147483648 ≤ a) (h2 : a < 2147483648) (k : mx_M G Y d bc bs ex N ce (pc + 1) l (.long (lI a) :: r) Q) : mx_M G Y d bc bs ex N ce pc l (.int (iI a) :: r) Q := by
  refine mx_i2l hd ?_
  rw [iI_l h1 h2]; exact k
theorem mx_l2iI {a : Int} (hd : decode Y.2.1 pc = .ok (.l2i, 1)) (k : mx_M G Y d bc bs ex N ce (pc + 1) l (.int (iI a) :: r) Q) : mx_M G Y d bc bs ex N ce pc l (.long (lI a) :: r) Q := by
  refine mx_l2i hd ?_
  rw [lI_i]; exact k
theorem mx_lcmpI {a b : Int} (hd : decode Y.2.1 pc = .ok (.lcmp, 1)) (h1 : -9223372036854775808 ≤ a) (h2 : a < 9223372036854775808) (h3 : -9223372036854775808 ≤ b) (h4 : b < 9223372036854775808) (k : mx_M G Y d bc bs ex N ce (pc + 1) l (.int (iI (if b < a then 1 else if a = b then 0 else -1)) :: r) Q) : mx_M G Y d bc bs ex N ce pc l (.long (lI b) :: .long (lI a) :: r) Q := by
  refine mx_lcmp hd ?_
  rw [lI_cmp h1 h2 h3 h4]; exact k
theorem mx_iaddI {a b : Int} (hd : decode Y.2.1 pc = .ok (.iadd, 1)) (k : mx_M G Y d bc bs ex N ce (pc + 1) l (.int (iI (a + b)) :: r) Q) : mx_M G Y d bc bs ex N ce pc l (.int (iI b) :: .int (iI a) :: r) Q := mx_iadd hd (by rw [iI_add]; exact k)
theorem mx_isubI {a b : Int} (hd : decode Y.2.1 pc = .ok (.isub, 1)) (k : mx_M G Y d bc bs ex N ce (pc + 1) l (.int (iI (a - b)) :: r) Q) : mx_M G Y d bc bs ex N ce pc l (.int (iI b) :: .int (iI a) :: r) Q := mx_isub hd (by rw [iI_sub]; exact k)
theorem mx_imulI {a b : Int} (hd : decode Y.2.1 pc = .ok (.imul, 1)) (k : mx_M G Y d bc bs ex N ce (pc + 1) l (.int (iI (a * b)) :: r) Q) : mx_M G Y d bc bs ex N ce pc l (.int (iI b) :: .int (iI a) :: r) Q := mx_imul hd (by rw [iI_mul]; exact k)
theorem mx_laddI {a b : Int} (hd : decode Y.2.1 pc = .ok (.ladd, 1)) (k : mx_M G Y d bc bs ex N ce (pc + 1) l (.long (lI (a + b)) :: r) Q) : mx_M G Y d bc bs ex N ce pc l (.long (lI b) :: .long (lI a) :: r) Q := mx_ladd hd (by rw [lI_add]; exact k)
theorem mx_lmulI {a b : Int} (hd : decode Y.2.1 pc = .ok (.lmul, 1)) (k : mx_M G Y d bc bs ex N ce (pc + 1) l (.long (lI (a * b)) :: r) Q) : mx_M G Y d bc bs ex N ce pc l (.long (lI b) :: .long (lI a) :: r) Q := mx_lmul hd (by rw [lI_mul]; exact k)
theorem mx_iincI {i : Nat} {n a : Int} (hd : decode Y.2.1 pc = .ok (.iinc i n, 3)) (hg : mx_get l i = some (.int (iI a))) (hn : i < Y.2.2.1) (k : mx_M G Y d bc bs ex N ce (pc + 3) (mx_set1 l i (.int (iI (a + n)))) r Q) : mx_M G Y d bc bs ex N ce pc l r Q := mx_iinc hd hg hn (by rw [iI_add]; exact k)
theorem mx_newaI (hG : mx_ok G) {n : Nat} {x : Int32} (hd : decode Y.2.1 pc = .ok (.newarray .int, 2)) (hx : x = iI n) (hn : n ≤ 1000) (k : mx_M G Y d bc bs true (N + 1) (va_up ce N (aI G n (fun _ => 0))) (pc + 2) l (.ref (mx_B G + N) :: r) Q) : mx_M G Y d (bc + 1) (bs + n) true N ce pc l (.int x :: r) Q :=
  mx_newa hG 0 (a0 := (n, .inl (fun _ => iI 0))) hd rfl rfl (fun _ _ h => h) w_52 hx (by show n * 4 ≤ _; omega) (by omega) (fun _ => rfl) k
theorem mx_newaB (hG : mx_ok G) {n : Nat} {x : Int32} (hd : decode Y.2.1 pc = .ok (.newarray .boolean, 2)) (hx : x = iI n) (hn : n ≤ 1000) (k : mx_M G Y d bc bs true (N + 1) (va_up ce N (aB G n (fun _ => false))) (pc + 2) l (.ref (mx_B G + N) :: r) Q) : mx_M G Y d (bc + 1) (bs + n) true N ce pc l (.int x :: r) Q :=
  mx_newa hG 1 (a0 := (n, .inl (fun _ => iI 0))) hd rfl rfl (fun _ _ h => h) w_96 hx (by show n * 1 ≤ _; omega) (by omega) (fun _ => rfl) k
end MXM
